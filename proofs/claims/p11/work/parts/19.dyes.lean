theorem wn_70 : (Cond.fieldLinkNest RX1 (50 : Nat) "NineRiver$State" "pours" "LNineRiver$Rows;" "NineRiver") ∈ lw_tbl := List.mem_append_right _ (List.mem_of_getElem? (i := 70) (by decide +kernel))
theorem wn_73 : (Cond.fieldLinkNest RX5 (58 : Nat) "NineRiver$State" "sights" "LNineRiver$Rows;" "NineRiver") ∈ lw_tbl := List.mem_append_right _ (List.mem_of_getElem? (i := 73) (by decide +kernel))
theorem wn_76 : (Cond.fieldLinkNest RX1 (93 : Nat) "NineRiver$State" "jobs" "LNineRiver$Rows;" "NineRiver") ∈ lw_tbl := List.mem_append_right _ (List.mem_of_getElem? (i := 76) (by decide +kernel))
theorem wn_946 : (Cond.methodLinkNest RX1 (86 : Nat) yX11_isCell "NineRiver") ∈ lw_tbl := List.mem_append_right _ (List.mem_of_getElem? (i := 946) (by decide +kernel))
theorem wp_25 : Cond.selects RX1 yX1_placeOf yX1_placeOf ∈ TB := tv 25 (by decide +kernel) (by decide +kernel)
theorem wp_28 : Cond.selects RX5 yX5_look yX5_look ∈ TB := tv 28 (by decide +kernel) (by decide +kernel)
theorem wp_29 : Cond.selects RX5 yX5_mark yX5_mark ∈ TB := tv 29 (by decide +kernel) (by decide +kernel)
theorem wd_1001 : (Jvm.Cond.instanceMethod yX5_look) ∈ TB := tw 1001 (by decide +kernel) (by decide +kernel)
theorem wd_1002 : (Cond.code yX5_look cX5_look 5 (Option.none : Option Jvm.ClassFile.FieldType)) ∈ TB := tw 1002 (by decide +kernel) (by decide +kernel)
theorem wd_1003 : (Cond.methodLink RX5 (55 : Nat) yJ7_fill_53178) ∈ TB := tw 1003 (by decide +kernel) (by decide +kernel)
theorem wd_1004 : (Cond.methodLink RX5 (64 : Nat) yX4_size) ∈ TB := tw 1004 (by decide +kernel) (by decide +kernel)
theorem wd_1005 : (Cond.methodLink RX5 (70 : Nat) yX4_at) ∈ TB := tw 1005 (by decide +kernel) (by decide +kernel)
theorem wd_1006 : (Cond.methodLink RX5 (74 : Nat) yX9_traceBack) ∈ TB := tw 1006 (by decide +kernel) (by decide +kernel)
theorem wd_1007 : (Cond.methodLink RX5 (80 : Nat) yX5_mark) ∈ TB := tw 1007 (by decide +kernel) (by decide +kernel)
theorem wd_1009 : (Jvm.Cond.instanceMethod yX5_mark) ∈ TB := tw 1009 (by decide +kernel) (by decide +kernel)
theorem wd_1010 : (Cond.code yX5_mark cX5_mark 6 (Option.none : Option Jvm.ClassFile.FieldType)) ∈ TB := tw 1010 (by decide +kernel) (by decide +kernel)
theorem wd_1011 : (Cond.methodLink RX5 (84 : Nat) yX9_originsAt) ∈ TB := tw 1011 (by decide +kernel) (by decide +kernel)
theorem wd_1012 : (Jvm.Cond.instanceMethod yX9_originsAt) ∈ TB := tw 1012 (by decide +kernel) (by decide +kernel)
theorem wd_1013 : (Cond.selects RX9 yX9_originsAt yX9_originsAt) ∈ TB := tw 1013 (by decide +kernel) (by decide +kernel)
theorem wd_1014 : (Cond.code yX9_originsAt cX9_originsAt 2 (Option.some Jvm.ClassFile.FieldType.int)) ∈ TB := tw 1014 (by decide +kernel) (by decide +kernel)
theorem wd_1078 : (Cond.methodLink RX1 (118 : Nat) arraycopyName) ∈ TB := tw 1078 (by decide +kernel) (by decide +kernel)
theorem wd_236 : (Cond.fieldLink RX1 (38 : Nat) "NineRiver$Dyes" "state" "LNineRiver$State;") ∈ TB := tw 236 (by decide +kernel) (by decide +kernel)
theorem wd_237 : (Cond.fieldLink RX1 (42 : Nat) "NineRiver$Dyes" "stream" "LNineRiver$Stream;") ∈ TB := tw 237 (by decide +kernel) (by decide +kernel)
theorem wd_238 : (Cond.fieldLink RX1 (46 : Nat) "NineRiver$Dyes" "travel" "LNineRiver$Travel;") ∈ TB := tw 238 (by decide +kernel) (by decide +kernel)
theorem wd_239 : (Cond.fieldLink RX1 (9 : Nat) "NineRiver$Dyes" "amounts" "[I") ∈ TB := tw 239 (by decide +kernel) (by decide +kernel)
theorem wd_240 : (Cond.fieldLink RX1 (15 : Nat) "NineRiver$Dyes" "tints" "[I") ∈ TB := tw 240 (by decide +kernel) (by decide +kernel)
theorem wd_241 : (Cond.fieldLink RX1 (18 : Nat) "NineRiver$Dyes" "begins" "[I") ∈ TB := tw 241 (by decide +kernel) (by decide +kernel)
theorem wd_242 : (Cond.fieldLink RX1 (21 : Nat) "NineRiver$Dyes" "trial" "[I") ∈ TB := tw 242 (by decide +kernel) (by decide +kernel)
theorem wd_243 : (Cond.fieldLink RX1 (24 : Nat) "NineRiver$Dyes" "order" "[I") ∈ TB := tw 243 (by decide +kernel) (by decide +kernel)
theorem wd_244 : (Cond.fieldLink RX1 (27 : Nat) "NineRiver$Dyes" "done" "I") ∈ TB := tw 244 (by decide +kernel) (by decide +kernel)
theorem wd_245 : (Cond.fieldLink RX1 (31 : Nat) "NineRiver$Dyes" "orders" "I") ∈ TB := tw 245 (by decide +kernel) (by decide +kernel)
theorem wd_276 : (Cond.fieldLink RX5 (26 : Nat) "NineRiver$Sleuth" "state" "LNineRiver$State;") ∈ TB := tw 276 (by decide +kernel) (by decide +kernel)
theorem wd_277 : (Cond.fieldLink RX5 (30 : Nat) "NineRiver$Sleuth" "travel" "LNineRiver$Travel;") ∈ TB := tw 277 (by decide +kernel) (by decide +kernel)
theorem wd_278 : (Cond.fieldLink RX5 (11 : Nat) "NineRiver$Sleuth" "signs" "[I") ∈ TB := tw 278 (by decide +kernel) (by decide +kernel)
theorem wd_281 : (Cond.fieldLink RX5 (23 : Nat) "NineRiver$Sleuth" "seen" "I") ∈ TB := tw 281 (by decide +kernel) (by decide +kernel)
theorem wd_851 : (Jvm.Cond.instanceMethod yX9_traceBack) ∈ TB := tw 851 (by decide +kernel) (by decide +kernel)
theorem wd_852 : (Cond.selects RX9 yX9_traceBack yX9_traceBack) ∈ TB := tw 852 (by decide +kernel) (by decide +kernel)
theorem wd_853 : (Cond.code yX9_traceBack cX9_traceBack 8 (Option.some Jvm.ClassFile.FieldType.int)) ∈ TB := tw 853 (by decide +kernel) (by decide +kernel)
theorem wd_920 : (Cond.methodLink RX1 (56 : Nat) yX4_size) ∈ TB := tw 920 (by decide +kernel) (by decide +kernel)
theorem wd_921 : (Cond.methodLink RX1 (62 : Nat) yX1_placeOf) ∈ TB := tw 921 (by decide +kernel) (by decide +kernel)
theorem wd_923 : (Jvm.Cond.instanceMethod yX1_placeOf) ∈ TB := tw 923 (by decide +kernel) (by decide +kernel)
theorem wd_924 : (Cond.code yX1_placeOf cX1_placeOf 5 (Option.some Jvm.ClassFile.FieldType.int)) ∈ TB := tw 924 (by decide +kernel) (by decide +kernel)
theorem wd_925 : (Cond.methodLink RX1 (66 : Nat) yX4_at) ∈ TB := tw 925 (by decide +kernel) (by decide +kernel)
theorem wd_926 : (Cond.methodLink RX1 (96 : Nat) yX9_drift) ∈ TB := tw 926 (by decide +kernel) (by decide +kernel)
theorem wd_935 : (Cond.methodLink RX1 (70 : Nat) Lib.Math.max.name) ∈ TB := tw 935 (by decide +kernel) (by decide +kernel)
theorem wd_936 : (Cond.methodLink RX1 (75 : Nat) yX7_stepFrom) ∈ TB := tw 936 (by decide +kernel) (by decide +kernel)
theorem wd_945 : (Cond.methodLink RX1 (80 : Nat) yJ7_fill_53178) ∈ TB := tw 945 (by decide +kernel) (by decide +kernel)
theorem wd_999 : (Cond.methodLink RX5 (34 : Nat) yX5_look) ∈ TB := tw 999 (by decide +kernel) (by decide +kernel)
theorem dX1_placeOf_0 : decode cX1_placeOf 0 = .ok (.aload_n 0, 1) := by decide +kernel
theorem dX1_placeOf_1 : decode cX1_placeOf 1 = .ok (.getfield 38, 3) := by decide +kernel
theorem dX1_placeOf_4 : decode cX1_placeOf 4 = .ok (.getfield 50, 3) := by decide +kernel
theorem dX1_placeOf_7 : decode cX1_placeOf 7 = .ok (.iload_n 1, 1) := by decide +kernel
theorem dX1_placeOf_8 : decode cX1_placeOf 8 = .ok (.iconst 1, 1) := by decide +kernel
theorem dX1_placeOf_9 : decode cX1_placeOf 9 = .ok (.invokevirtual 66, 3) := by decide +kernel
theorem dX1_placeOf_12 : decode cX1_placeOf 12 = .ok (.istore 4, 2) := by decide +kernel
theorem dX1_placeOf_14 : decode cX1_placeOf 14 = .ok (.aload_n 0, 1) := by decide +kernel
theorem dX1_placeOf_15 : decode cX1_placeOf 15 = .ok (.getfield 38, 3) := by decide +kernel
theorem dX1_placeOf_18 : decode cX1_placeOf 18 = .ok (.getfield 50, 3) := by decide +kernel
theorem dX1_placeOf_21 : decode cX1_placeOf 21 = .ok (.iload_n 1, 1) := by decide +kernel
theorem dX1_placeOf_22 : decode cX1_placeOf 22 = .ok (.iconst 2, 1) := by decide +kernel
theorem dX1_placeOf_23 : decode cX1_placeOf 23 = .ok (.invokevirtual 66, 3) := by decide +kernel
theorem dX1_placeOf_26 : decode cX1_placeOf 26 = .ok (.iload_n 3, 1) := by decide +kernel
theorem dX1_placeOf_27 : decode cX1_placeOf 27 = .ok (.if_icmp .ne 9, 3) := by decide +kernel
theorem dX1_placeOf_30 : decode cX1_placeOf 30 = .ok (.iload 4, 2) := by decide +kernel
theorem dX1_placeOf_32 : decode cX1_placeOf 32 = .ok (.iload_n 2, 1) := by decide +kernel
theorem dX1_placeOf_33 : decode cX1_placeOf 33 = .ok (.if_icmp .le 5, 3) := by decide +kernel
theorem dX1_placeOf_36 : decode cX1_placeOf 36 = .ok (.iconst (-1), 1) := by decide +kernel
theorem dX1_placeOf_37 : decode cX1_placeOf 37 = .ok (.ireturn, 1) := by decide +kernel
theorem dX1_placeOf_38 : decode cX1_placeOf 38 = .ok (.aload_n 0, 1) := by decide +kernel
theorem dX1_placeOf_39 : decode cX1_placeOf 39 = .ok (.getfield 46, 3) := by decide +kernel
theorem dX1_placeOf_42 : decode cX1_placeOf 42 = .ok (.aload_n 0, 1) := by decide +kernel
theorem dX1_placeOf_43 : decode cX1_placeOf 43 = .ok (.getfield 38, 3) := by decide +kernel
theorem dX1_placeOf_46 : decode cX1_placeOf 46 = .ok (.getfield 50, 3) := by decide +kernel
theorem dX1_placeOf_49 : decode cX1_placeOf 49 = .ok (.iload_n 1, 1) := by decide +kernel
theorem dX1_placeOf_50 : decode cX1_placeOf 50 = .ok (.iconst 0, 1) := by decide +kernel
theorem dX1_placeOf_51 : decode cX1_placeOf 51 = .ok (.invokevirtual 66, 3) := by decide +kernel
theorem dX1_placeOf_54 : decode cX1_placeOf 54 = .ok (.iload 4, 2) := by decide +kernel
theorem dX1_placeOf_56 : decode cX1_placeOf 56 = .ok (.iload_n 2, 1) := by decide +kernel
theorem dX1_placeOf_57 : decode cX1_placeOf 57 = .ok (.invokevirtual 96, 3) := by decide +kernel
theorem dX1_placeOf_60 : decode cX1_placeOf 60 = .ok (.ireturn, 1) := by decide +kernel
set_option maxHeartbeats 4000000 in
set_option maxRecDepth 100000 in
theorem c_X1_placeOf (l : Launch) (E : Nat → ClassId) (D : va_G) (G : th_G) (h0 : Nat) (hG0 : G h0 = some (11, 0)) (x1 x2 x3 : Int32) : Met l yX1_placeOf (tb (.code yX1_placeOf cX1_placeOf 5 (some .int))) (rm 6) (va_Pc [.ref h0, .int x1, .int x2, .int x3] (th_P E D G)) (QI E D G (fun r => True)) 0 0 (th_A G) := by
  refine Met.ofW (cc := cX1_placeOf) (maxL := 5) (ret := (some .int)) (by decide) rfl ?_
  intro p e s m args below meth c s₁ B hml hv
  obtain ⟨hav, hI, hN, hK⟩ := hv
  have hx := B.exec
  have hb := B.bytes
  have hr := B.returns
  have hts := atoms_spec (ws := tb (.code yX1_placeOf cX1_placeOf 5 (some .int))) B.pre
  have hown : s.vm.findClass RX1 = some m.cls := findClass_of_methodNamed B.named
  have hlocks := B.notSynchronized
  have hS : va_S (th_A G) s.heap s.heap [] := va_S.rf
  have hl := lv_entry ([.ref h0, .int x1, .int x2, .int x3]) (n := 5) (Nat.le_of_ble_eq_true rfl)
  rw [show entryFrame m args 5 = entryFrame m ([.ref h0, .int x1, .int x2, .int x3] : List Value).toArray 5 from by rw [hav], lg_entry_eq]
  generalize (lg_sl ([.ref h0, .int x1, .int x2, .int x3]) ++ List.replicate (5 - (lg_sl ([.ref h0, .int x1, .int x2, .int x3])).length) Slot.unset).toArray = ls at hl ⊢
  have hl : lv_has ls 5 [(0, .ref h0), (1, .int x1), (2, .int x2), (3, .int x3)] := hl
  generalize hR : (headSpec (tb (.code yX1_placeOf cX1_placeOf 5 (some .int))) (rm 6)).room = R
  have hR := hR.symm
  generalize hQ : MQ below (QI E D G (fun r => True)) args s 0 0 (th_A G) = QF
  have hQ := hQ.symm
  have J_36 : ∀ (H : Heap) (locs : List Loc) (ls : Array Slot) (v1232 : Int32), lv_has ls 5 [(4, .int v1232), (0, .ref h0), (1, .int x1), (2, .int x2), (3, .int x3)] → th_I (okC E) D G [] H → va_S (th_A G) s.heap H locs → W p l e R s m args below meth c H locs 0 0 QF (F0 m 36 ls []) := by
    intro H locs ls v1232 hl  hI hS
    refine lv_iconst (v := (-1)) hx hb dX1_placeOf_36 (by decide) ?_
    have hpost : True := trivial
    rw [hQ]
    exact W.iret (v := (-1)) hx hb hr (fun t ht hW => ⟨⟨(-1), (), rfl, hpost, by rw [ht]; exact hI, hN.warm hW, va_K.moved hW.alike hK⟩, hS.F ht⟩) hS.2.2 dX1_placeOf_37
  refine lv_aload_n hx hb dX1_placeOf_0 rfl (lv_at hl 0 rfl) ?_
  obtain ⟨a1233, a1235, a1237, a1239, a1241, a1243, a1245, a1247, w1249, w1250, w1251, hO, hq1234, hq1236, hq1238, hq1240, hq1242, hq1244, hq1246, hq1248⟩ := op_11 hI hG0 List.not_mem_nil
  have hI := th_I.weak (a := h0) hI
  refine th_get hx hb hts inT1 hown hK hO rfl 0 (by decide) (hts _ (tb_c wd_236)) rfl rfl dX1_placeOf_1 ?_
  have hI := th_I.close hI hG0 hO (ok_11 hq1234 hq1236 hq1238 hq1240 hq1242 hq1244 hq1246 hq1248)
  obtain ⟨a1252, a1254, a1256, a1258, a1260, a1262, a1264, a1266, a1268, a1270, w1272, w1275, w1276, w1277, hO, hq1253, hq1255, hq1257, hq1259, hq1261, hq1263, hq1265, hq1267, hq1269, hq1271, ⟨k1273, k1274⟩⟩ := op_6 hI hq1234 List.not_mem_nil
  have hI := th_I.weak (a := a1233) hI
  refine th_getN hx hb hts inT6 hown hK hN hO rfl 5 (by decide) wn_70 rfl rfl dX1_placeOf_4 ?_
  refine lv_iload_n hx hb dX1_placeOf_7 rfl (lv_at hl 1 rfl) ?_
  refine lv_iconst (v := 1) hx hb dX1_placeOf_8 (by decide) ?_
  have hI := th_I.close hI hq1234 hO (ok_6 hq1253 hq1255 hq1257 hq1259 hq1261 hq1263 hq1265 hq1267 hq1269 hq1271 ⟨by omega, by omega⟩)
  refine th_cVi (As := [.int x1, .int 1]) (rest := []) (n := 2) (d := 0) ⟨hx, hb, hml, hown, hts⟩ (c_X4_at l E D G a1262 (16) hq1263 x1 1) wd_925 wd_519 wd_520 wd_3 wd_521 (by decide +kernel) ⟨by rw [hR]; exact Nat.le_of_ble_eq_true rfl, by rw [hR]; exact Nat.le_of_ble_eq_true rfl⟩ hI hN hK hS (rc_4 hI hq1263 List.not_mem_nil) rfl rfl hl.1 rfl (Nat.le_of_ble_eq_true rfl) dX1_placeOf_9 ⟨Nat.zero_le _, Nat.zero_le _⟩ (fun r1278 H locs hp hI hS => ?_)
  refine lv_istore (lv' := [(4, .int r1278), (0, .ref h0), (1, .int x1), (2, .int x2), (3, .int x3)]) hx hb dX1_placeOf_12 hl (by decide) rfl (fun ls hl => ?_)
  refine lv_aload_n hx hb dX1_placeOf_14 rfl (lv_at hl 1 rfl) ?_
  obtain ⟨a1279, a1281, a1283, a1285, a1287, a1289, a1291, a1293, w1295, w1296, w1297, hO, hq1280, hq1282, hq1284, hq1286, hq1288, hq1290, hq1292, hq1294⟩ := op_11 hI hG0 List.not_mem_nil
  have hI := th_I.weak (a := h0) hI
  refine th_get hx hb hts inT1 hown hK hO rfl 0 (by decide) (hts _ (tb_c wd_236)) rfl rfl dX1_placeOf_15 ?_
  have hI := th_I.close hI hG0 hO (ok_11 hq1280 hq1282 hq1284 hq1286 hq1288 hq1290 hq1292 hq1294)
  obtain ⟨a1298, a1300, a1302, a1304, a1306, a1308, a1310, a1312, a1314, a1316, w1318, w1321, w1322, w1323, hO, hq1299, hq1301, hq1303, hq1305, hq1307, hq1309, hq1311, hq1313, hq1315, hq1317, ⟨k1319, k1320⟩⟩ := op_6 hI hq1280 List.not_mem_nil
  have hI := th_I.weak (a := a1279) hI
  refine th_getN hx hb hts inT6 hown hK hN hO rfl 5 (by decide) wn_70 rfl rfl dX1_placeOf_18 ?_
  refine lv_iload_n hx hb dX1_placeOf_21 rfl (lv_at hl 2 rfl) ?_
  refine lv_iconst (v := 2) hx hb dX1_placeOf_22 (by decide) ?_
  have hI := th_I.close hI hq1280 hO (ok_6 hq1299 hq1301 hq1303 hq1305 hq1307 hq1309 hq1311 hq1313 hq1315 hq1317 ⟨by omega, by omega⟩)
  refine th_cVi (As := [.int x1, .int 2]) (rest := []) (n := 2) (d := 0) ⟨hx, hb, hml, hown, hts⟩ (c_X4_at l E D G a1308 (16) hq1309 x1 2) wd_925 wd_519 wd_520 wd_3 wd_521 (by decide +kernel) ⟨by rw [hR]; exact Nat.le_of_ble_eq_true rfl, by rw [hR]; exact Nat.le_of_ble_eq_true rfl⟩ hI hN hK hS (rc_4 hI hq1309 List.not_mem_nil) rfl rfl hl.1 rfl (Nat.le_of_ble_eq_true rfl) dX1_placeOf_23 ⟨Nat.zero_le _, Nat.zero_le _⟩ (fun r1324 H locs hp hI hS => ?_)
  refine lv_iload_n hx hb dX1_placeOf_26 rfl (lv_at hl 4 rfl) ?_
  have k1325 := iv_lo r1324
  have k1326 := iv_hi r1324
  have k1327 := iv_lo x3
  have k1328 := iv_hi x3
  refine lv_icmp_ne (tgt := 36) hx hb dX1_placeOf_27 (by decide) (fun c1329 => ?_) (fun c1329 => ?_)
  · skip
    have k1330 := iv_ne (X := r1324.toInt) (Y := x3.toInt) rfl rfl c1329
    exact J_36 H locs ls r1278 (lv_sub hl [0, 1, 2, 3, 4] rfl)  hI hS
  · skip
    have k1331 := iv_eq (X := r1324.toInt) (Y := x3.toInt) rfl rfl c1329
    refine lv_iload hx hb dX1_placeOf_30 (lv_at hl 0 rfl) ?_
    refine lv_iload_n hx hb dX1_placeOf_32 rfl (lv_at hl 3 rfl) ?_
    have k1332 := iv_lo r1278
    have k1333 := iv_hi r1278
    have k1334 := iv_lo x2
    have k1335 := iv_hi x2
    refine lv_icmp_le (tgt := 38) hx hb dX1_placeOf_33 (by decide) (fun c1336 => ?_) (fun c1336 => ?_)
    · skip
      have k1337 := iv_le (X := r1278.toInt) (Y := x2.toInt) rfl rfl c1336
      refine lv_aload_n hx hb dX1_placeOf_38 rfl (lv_at hl 1 rfl) ?_
      obtain ⟨a1338, a1340, a1342, a1344, a1346, a1348, a1350, a1352, w1354, w1355, w1356, hO, hq1339, hq1341, hq1343, hq1345, hq1347, hq1349, hq1351, hq1353⟩ := op_11 hI hG0 List.not_mem_nil
      have hI := th_I.weak (a := h0) hI
      refine th_get hx hb hts inT1 hown hK hO rfl 2 (by decide) (hts _ (tb_c wd_238)) rfl rfl dX1_placeOf_39 ?_
      refine lv_aload_n hx hb dX1_placeOf_42 rfl (lv_at hl 1 rfl) ?_
      refine th_get hx hb hts inT1 hown hK hO rfl 0 (by decide) (hts _ (tb_c wd_236)) rfl rfl dX1_placeOf_43 ?_
      have hI := th_I.close hI hG0 hO (ok_11 hq1339 hq1341 hq1343 hq1345 hq1347 hq1349 hq1351 hq1353)
      obtain ⟨a1357, a1359, a1361, a1363, a1365, a1367, a1369, a1371, a1373, a1375, w1377, w1380, w1381, w1382, hO, hq1358, hq1360, hq1362, hq1364, hq1366, hq1368, hq1370, hq1372, hq1374, hq1376, ⟨k1378, k1379⟩⟩ := op_6 hI hq1339 List.not_mem_nil
      have hI := th_I.weak (a := a1338) hI
      refine th_getN hx hb hts inT6 hown hK hN hO rfl 5 (by decide) wn_70 rfl rfl dX1_placeOf_46 ?_
      refine lv_iload_n hx hb dX1_placeOf_49 rfl (lv_at hl 2 rfl) ?_
      refine lv_iconst (v := 0) hx hb dX1_placeOf_50 (by decide) ?_
      have hI := th_I.close hI hq1339 hO (ok_6 hq1358 hq1360 hq1362 hq1364 hq1366 hq1368 hq1370 hq1372 hq1374 hq1376 ⟨by omega, by omega⟩)
      refine th_cVi (As := [.int x1, .int 0]) (rest := [.ref a1342]) (n := 2) (d := 0) ⟨hx, hb, hml, hown, hts⟩ (c_X4_at l E D G a1367 (16) hq1368 x1 0) wd_925 wd_519 wd_520 wd_3 wd_521 (by decide +kernel) ⟨by rw [hR]; exact Nat.le_of_ble_eq_true rfl, by rw [hR]; exact Nat.le_of_ble_eq_true rfl⟩ hI hN hK hS (rc_4 hI hq1368 List.not_mem_nil) rfl rfl hl.1 rfl (Nat.le_of_ble_eq_true rfl) dX1_placeOf_51 ⟨Nat.zero_le _, Nat.zero_le _⟩ (fun r1383 H locs hp hI hS => ?_)
      refine lv_iload hx hb dX1_placeOf_54 (lv_at hl 0 rfl) ?_
      refine lv_iload_n hx hb dX1_placeOf_56 rfl (lv_at hl 3 rfl) ?_
      refine th_cVi (As := [.int r1383, .int r1278, .int x2]) (rest := []) (n := 3) (d := 5) ⟨hx, hb, hml, hown, hts⟩ (c_X9_drift l E D G a1342 hq1343 r1383 r1278 x2) wd_926 wd_830 wd_831 wd_8 wd_832 (by decide +kernel) ⟨by rw [hR]; exact Nat.le_of_ble_eq_true rfl, by rw [hR]; exact Nat.le_of_ble_eq_true rfl⟩ hI hN hK hS (rc_10 hI hq1343 List.not_mem_nil) rfl rfl hl.1 rfl (Nat.le_of_ble_eq_true rfl) dX1_placeOf_57 ⟨Nat.zero_le _, Nat.zero_le _⟩ (fun r1384 H locs hp hI hS => ?_)
      have hpost : True := trivial
      rw [hQ]
      exact W.iret (v := r1384) hx hb hr (fun t ht hW => ⟨⟨r1384, (), rfl, hpost, by rw [ht]; exact hI, hN.warm hW, va_K.moved hW.alike hK⟩, hS.F ht⟩) hS.2.2 dX1_placeOf_60
    · skip
      have k1385 := iv_nle (X := r1278.toInt) (Y := x2.toInt) rfl rfl c1336
      exact J_36 H locs ls r1278 (lv_sub hl [0, 1, 2, 3, 4] rfl)  hI hS
theorem dX1_amountAt_0 : decode cX1_amountAt 0 = .ok (.iconst 0, 1) := by decide +kernel
theorem dX1_amountAt_1 : decode cX1_amountAt 1 = .ok (.istore 4, 2) := by decide +kernel
theorem dX1_amountAt_3 : decode cX1_amountAt 3 = .ok (.iconst 0, 1) := by decide +kernel
theorem dX1_amountAt_4 : decode cX1_amountAt 4 = .ok (.istore 5, 2) := by decide +kernel
theorem dX1_amountAt_6 : decode cX1_amountAt 6 = .ok (.iload 5, 2) := by decide +kernel
theorem dX1_amountAt_8 : decode cX1_amountAt 8 = .ok (.aload_n 0, 1) := by decide +kernel
theorem dX1_amountAt_9 : decode cX1_amountAt 9 = .ok (.getfield 38, 3) := by decide +kernel
theorem dX1_amountAt_12 : decode cX1_amountAt 12 = .ok (.getfield 50, 3) := by decide +kernel
theorem dX1_amountAt_15 : decode cX1_amountAt 15 = .ok (.invokevirtual 56, 3) := by decide +kernel
theorem dX1_amountAt_18 : decode cX1_amountAt 18 = .ok (.if_icmp .ge 39, 3) := by decide +kernel
theorem dX1_amountAt_21 : decode cX1_amountAt 21 = .ok (.aload_n 0, 1) := by decide +kernel
theorem dX1_amountAt_22 : decode cX1_amountAt 22 = .ok (.iload 5, 2) := by decide +kernel
theorem dX1_amountAt_24 : decode cX1_amountAt 24 = .ok (.iload_n 2, 1) := by decide +kernel
theorem dX1_amountAt_25 : decode cX1_amountAt 25 = .ok (.iload_n 3, 1) := by decide +kernel
theorem dX1_amountAt_26 : decode cX1_amountAt 26 = .ok (.invokevirtual 62, 3) := by decide +kernel
theorem dX1_amountAt_29 : decode cX1_amountAt 29 = .ok (.iload_n 1, 1) := by decide +kernel
theorem dX1_amountAt_30 : decode cX1_amountAt 30 = .ok (.if_icmp .ne 21, 3) := by decide +kernel
theorem dX1_amountAt_33 : decode cX1_amountAt 33 = .ok (.iload 4, 2) := by decide +kernel
theorem dX1_amountAt_35 : decode cX1_amountAt 35 = .ok (.aload_n 0, 1) := by decide +kernel
theorem dX1_amountAt_36 : decode cX1_amountAt 36 = .ok (.getfield 38, 3) := by decide +kernel
theorem dX1_amountAt_39 : decode cX1_amountAt 39 = .ok (.getfield 50, 3) := by decide +kernel
theorem dX1_amountAt_42 : decode cX1_amountAt 42 = .ok (.iload 5, 2) := by decide +kernel
theorem dX1_amountAt_44 : decode cX1_amountAt 44 = .ok (.iconst 3, 1) := by decide +kernel
theorem dX1_amountAt_45 : decode cX1_amountAt 45 = .ok (.invokevirtual 66, 3) := by decide +kernel
theorem dX1_amountAt_48 : decode cX1_amountAt 48 = .ok (.iadd, 1) := by decide +kernel
theorem dX1_amountAt_49 : decode cX1_amountAt 49 = .ok (.istore 4, 2) := by decide +kernel
theorem dX1_amountAt_51 : decode cX1_amountAt 51 = .ok (.iinc 5 1, 3) := by decide +kernel
theorem dX1_amountAt_54 : decode cX1_amountAt 54 = .ok (.goto (-48), 3) := by decide +kernel
theorem dX1_amountAt_57 : decode cX1_amountAt 57 = .ok (.iload 4, 2) := by decide +kernel
theorem dX1_amountAt_59 : decode cX1_amountAt 59 = .ok (.ireturn, 1) := by decide +kernel
set_option maxHeartbeats 4000000 in
set_option maxRecDepth 100000 in
theorem c_X1_amountAt (l : Launch) (E : Nat → ClassId) (D : va_G) (G : th_G) (h0 : Nat) (hG0 : G h0 = some (11, 0)) (x1 x2 x3 : Int32) : Met l yX1_amountAt (tb (.code yX1_amountAt cX1_amountAt 6 (some .int))) (rm 7) (va_Pc [.ref h0, .int x1, .int x2, .int x3] (th_P E D G)) (QI E D G (fun r => True)) 0 0 (th_A G) := by
  refine Met.ofW (cc := cX1_amountAt) (maxL := 6) (ret := (some .int)) (by decide) rfl ?_
  intro p e s m args below meth c s₁ B hml hv
  obtain ⟨hav, hI, hN, hK⟩ := hv
  have hx := B.exec
  have hb := B.bytes
  have hr := B.returns
  have hts := atoms_spec (ws := tb (.code yX1_amountAt cX1_amountAt 6 (some .int))) B.pre
  have hown : s.vm.findClass RX1 = some m.cls := findClass_of_methodNamed B.named
  have hlocks := B.notSynchronized
  have hS : va_S (th_A G) s.heap s.heap [] := va_S.rf
  have hl := lv_entry ([.ref h0, .int x1, .int x2, .int x3]) (n := 6) (Nat.le_of_ble_eq_true rfl)
  rw [show entryFrame m args 6 = entryFrame m ([.ref h0, .int x1, .int x2, .int x3] : List Value).toArray 6 from by rw [hav], lg_entry_eq]
  generalize (lg_sl ([.ref h0, .int x1, .int x2, .int x3]) ++ List.replicate (6 - (lg_sl ([.ref h0, .int x1, .int x2, .int x3])).length) Slot.unset).toArray = ls at hl ⊢
  have hl : lv_has ls 6 [(0, .ref h0), (1, .int x1), (2, .int x2), (3, .int x3)] := hl
  generalize hR : (headSpec (tb (.code yX1_amountAt cX1_amountAt 6 (some .int))) (rm 7)).room = R
  have hR := hR.symm
  generalize hQ : MQ below (QI E D G (fun r => True)) args s 0 0 (th_A G) = QF
  have hQ := hQ.symm
  have J_6 : ∀ (nn : Nat) (H : Heap) (locs : List Loc) (ls : Array Slot) (v2125 : Int32) (v2126 : Int32), (Int.toNat (16 - v2125.toInt) = nn) → lv_has ls 6 [(5, .int v2125), (4, .int v2126), (0, .ref h0), (1, .int x1), (2, .int x2), (3, .int x3)] → ((0 : Int) ≤ v2125.toInt ∧ v2125.toInt ≤ 16) → th_I (okC E) D G [] H → va_S (th_A G) s.heap H locs → W p l e R s m args below meth c H locs 0 0 QF (F0 m 6 ls []) := by
    intro nn
    induction nn using Nat.strongRecOn with
    | ind nn ih_6 =>
      intro H locs ls v2125 v2126 hm hl k2127 hI hS
      refine lv_iload hx hb dX1_amountAt_6 (lv_at hl 0 rfl) ?_
      refine lv_aload_n hx hb dX1_amountAt_8 rfl (lv_at hl 2 rfl) ?_
      obtain ⟨a2128, a2130, a2132, a2134, a2136, a2138, a2140, a2142, w2144, w2145, w2146, hO, hq2129, hq2131, hq2133, hq2135, hq2137, hq2139, hq2141, hq2143⟩ := op_11 hI hG0 List.not_mem_nil
      have hI := th_I.weak (a := h0) hI
      refine th_get hx hb hts inT1 hown hK hO rfl 0 (by decide) (hts _ (tb_c wd_236)) rfl rfl dX1_amountAt_9 ?_
      have hI := th_I.close hI hG0 hO (ok_11 hq2129 hq2131 hq2133 hq2135 hq2137 hq2139 hq2141 hq2143)
      obtain ⟨a2147, a2149, a2151, a2153, a2155, a2157, a2159, a2161, a2163, a2165, w2167, w2170, w2171, w2172, hO, hq2148, hq2150, hq2152, hq2154, hq2156, hq2158, hq2160, hq2162, hq2164, hq2166, ⟨k2168, k2169⟩⟩ := op_6 hI hq2129 List.not_mem_nil
      have hI := th_I.weak (a := a2128) hI
      refine th_getN hx hb hts inT6 hown hK hN hO rfl 5 (by decide) wn_70 rfl rfl dX1_amountAt_12 ?_
      have hI := th_I.close hI hq2129 hO (ok_6 hq2148 hq2150 hq2152 hq2154 hq2156 hq2158 hq2160 hq2162 hq2164 hq2166 ⟨by omega, by omega⟩)
      obtain ⟨a2174, w2176, hO, hq2175, ⟨k2177, k2178⟩, k2179⟩ := op_4 hI hq2158 List.not_mem_nil
      have hI := th_I.weak (a := a2157) hI
      have k2180 : (nI 16).toInt = ((16 : Nat) : Int) := nI_toInt (by omega)
      refine th_cVs (As := []) (rest := [.int v2125]) (n := 0) (d := 0) ⟨hx, hb, hml, hown, hts⟩ (c_X4_size l E D H a2157 16 a2174 w2176 hO (by omega) (by omega) (by omega)) wd_920 wd_507 wd_508 wd_3 wd_509 (by decide +kernel) ⟨by rw [hR]; exact Nat.le_of_ble_eq_true rfl, by rw [hR]; exact Nat.le_of_ble_eq_true rfl⟩ hN hK hS ⟨_, hO⟩ rfl rfl hl.1 rfl (Nat.le_of_ble_eq_true rfl) dX1_amountAt_15 ⟨Nat.zero_le _, Nat.zero_le _⟩ (fun r2173 locs hp hS => ?_)
      have hp := hp.symm
      subst hp
      refine lv_icmp_ge (tgt := 57) hx hb dX1_amountAt_18 (by decide) (fun c2181 => ?_) (fun c2181 => ?_)
      · skip
        have k2182 := iv_le (X := w2176.toInt) (Y := v2125.toInt) rfl rfl c2181
        refine lv_iload hx hb dX1_amountAt_57 (lv_at hl 1 rfl) ?_
        have hI := th_I.close hI hq2158 hO (ok_4 hq2175 ⟨by omega, by omega⟩ (by omega))
        have hpost : True := trivial
        rw [hQ]
        exact W.iret (v := v2126) hx hb hr (fun t ht hW => ⟨⟨v2126, (), rfl, hpost, by rw [ht]; exact hI, hN.warm hW, va_K.moved hW.alike hK⟩, hS.F ht⟩) hS.2.2 dX1_amountAt_59
      · skip
        have k2183 := iv_nle (X := w2176.toInt) (Y := v2125.toInt) rfl rfl c2181
        refine lv_aload_n hx hb dX1_amountAt_21 rfl (lv_at hl 2 rfl) ?_
        refine lv_iload hx hb dX1_amountAt_22 (lv_at hl 0 rfl) ?_
        refine lv_iload_n hx hb dX1_amountAt_24 rfl (lv_at hl 4 rfl) ?_
        refine lv_iload_n hx hb dX1_amountAt_25 rfl (lv_at hl 5 rfl) ?_
        have hI := th_I.close hI hq2158 hO (ok_4 hq2175 ⟨by omega, by omega⟩ (by omega))
        refine th_cVi (As := [.int v2125, .int x2, .int x3]) (rest := []) (n := 3) (d := 6) ⟨hx, hb, hml, hown, hts⟩ (c_X1_placeOf l E D G h0 hG0 v2125 x2 x3) wd_921 wd_923 wp_25 wd_9 wd_924 (by decide +kernel) ⟨by rw [hR]; exact Nat.le_of_ble_eq_true rfl, by rw [hR]; exact Nat.le_of_ble_eq_true rfl⟩ hI hN hK hS (rc_11 hI hG0 List.not_mem_nil) rfl rfl hl.1 rfl (Nat.le_of_ble_eq_true rfl) dX1_amountAt_26 ⟨Nat.zero_le _, Nat.zero_le _⟩ (fun r2184 H locs hp hI hS => ?_)
        refine lv_iload_n hx hb dX1_amountAt_29 rfl (lv_at hl 3 rfl) ?_
        have k2185 := iv_lo r2184
        have k2186 := iv_hi r2184
        have k2187 := iv_lo x1
        have k2188 := iv_hi x1
        refine lv_icmp_ne (tgt := 51) hx hb dX1_amountAt_30 (by decide) (fun c2189 => ?_) (fun c2189 => ?_)
        · skip
          have k2190 := iv_ne (X := r2184.toInt) (Y := x1.toInt) rfl rfl c2189
          obtain ⟨v2191, e2192⟩ : ∃ y : Int32, y = v2125 + (1) := ⟨_, rfl⟩
          have tv2191 : v2191.toInt = v2125.toInt + (1) := iv_add rfl (by decide) e2192 (by omega) (by omega)
          refine lv_iinc (v := v2191) (lv' := [(5, .int v2191), (4, .int v2126), (0, .ref h0), (1, .int x1), (2, .int x2), (3, .int x3)]) hx hb dX1_amountAt_51 hl (k := 0) rfl (by rw [e2192]; rfl) (by decide) rfl (fun ls hl => ?_)
          refine lv_goto (tgt := 6) hx hb dX1_amountAt_54 (by decide) ?_
          exact ih_6 _ (by omega) H locs ls v2191 v2126 rfl (lv_sub hl [0, 1, 2, 3, 4, 5] rfl) ⟨by omega, by omega⟩ hI hS
        · skip
          have k2193 := iv_eq (X := r2184.toInt) (Y := x1.toInt) rfl rfl c2189
          refine lv_iload hx hb dX1_amountAt_33 (lv_at hl 1 rfl) ?_
          refine lv_aload_n hx hb dX1_amountAt_35 rfl (lv_at hl 2 rfl) ?_
          obtain ⟨a2194, a2196, a2198, a2200, a2202, a2204, a2206, a2208, w2210, w2211, w2212, hO, hq2195, hq2197, hq2199, hq2201, hq2203, hq2205, hq2207, hq2209⟩ := op_11 hI hG0 List.not_mem_nil
          have hI := th_I.weak (a := h0) hI
          refine th_get hx hb hts inT1 hown hK hO rfl 0 (by decide) (hts _ (tb_c wd_236)) rfl rfl dX1_amountAt_36 ?_
          have hI := th_I.close hI hG0 hO (ok_11 hq2195 hq2197 hq2199 hq2201 hq2203 hq2205 hq2207 hq2209)
          obtain ⟨a2213, a2215, a2217, a2219, a2221, a2223, a2225, a2227, a2229, a2231, w2233, w2236, w2237, w2238, hO, hq2214, hq2216, hq2218, hq2220, hq2222, hq2224, hq2226, hq2228, hq2230, hq2232, ⟨k2234, k2235⟩⟩ := op_6 hI hq2195 List.not_mem_nil
          have hI := th_I.weak (a := a2194) hI
          refine th_getN hx hb hts inT6 hown hK hN hO rfl 5 (by decide) wn_70 rfl rfl dX1_amountAt_39 ?_
          refine lv_iload hx hb dX1_amountAt_42 (lv_at hl 0 rfl) ?_
          refine lv_iconst (v := 3) hx hb dX1_amountAt_44 (by decide) ?_
          have hI := th_I.close hI hq2195 hO (ok_6 hq2214 hq2216 hq2218 hq2220 hq2222 hq2224 hq2226 hq2228 hq2230 hq2232 ⟨by omega, by omega⟩)
          refine th_cVi (As := [.int v2125, .int 3]) (rest := [.int v2126]) (n := 2) (d := 0) ⟨hx, hb, hml, hown, hts⟩ (c_X4_at l E D G a2223 (16) hq2224 v2125 3) wd_925 wd_519 wd_520 wd_3 wd_521 (by decide +kernel) ⟨by rw [hR]; exact Nat.le_of_ble_eq_true rfl, by rw [hR]; exact Nat.le_of_ble_eq_true rfl⟩ hI hN hK hS (rc_4 hI hq2224 List.not_mem_nil) rfl rfl hl.1 rfl (Nat.le_of_ble_eq_true rfl) dX1_amountAt_45 ⟨Nat.zero_le _, Nat.zero_le _⟩ (fun r2239 H locs hp hI hS => ?_)
          refine lv_iadd hx hb dX1_amountAt_48 ?_
          refine lv_topi (fun v2240 e2241 => ?_)
          try have tv2240 : v2240.toInt = v2126.toInt + r2239.toInt := iv_add rfl rfl e2241 (by omega) (by omega)
          refine lv_istore (lv' := [(4, .int v2240), (5, .int v2125), (0, .ref h0), (1, .int x1), (2, .int x2), (3, .int x3)]) hx hb dX1_amountAt_49 hl (by decide) rfl (fun ls hl => ?_)
          obtain ⟨v2242, e2243⟩ : ∃ y : Int32, y = v2125 + (1) := ⟨_, rfl⟩
          have tv2242 : v2242.toInt = v2125.toInt + (1) := iv_add rfl (by decide) e2243 (by omega) (by omega)
          refine lv_iinc (v := v2242) (lv' := [(5, .int v2242), (4, .int v2240), (0, .ref h0), (1, .int x1), (2, .int x2), (3, .int x3)]) hx hb dX1_amountAt_51 hl (k := 1) rfl (by rw [e2243]; rfl) (by decide) rfl (fun ls hl => ?_)
          refine lv_goto (tgt := 6) hx hb dX1_amountAt_54 (by decide) ?_
          exact ih_6 _ (by omega) H locs ls v2242 v2240 rfl (lv_sub hl [0, 1, 2, 3, 4, 5] rfl) ⟨by omega, by omega⟩ hI hS
  refine lv_iconst (v := 0) hx hb dX1_amountAt_0 (by decide) ?_
  refine lv_istore (lv' := [(4, .int 0), (0, .ref h0), (1, .int x1), (2, .int x2), (3, .int x3)]) hx hb dX1_amountAt_1 hl (by decide) rfl (fun ls hl => ?_)
  refine lv_iconst (v := 0) hx hb dX1_amountAt_3 (by decide) ?_
  refine lv_istore (lv' := [(5, .int 0), (4, .int 0), (0, .ref h0), (1, .int x1), (2, .int x2), (3, .int x3)]) hx hb dX1_amountAt_4 hl (by decide) rfl (fun ls hl => ?_)
  have zl : (0 : Int32).toInt = 0 := by decide
  exact J_6 _ s.heap [] ls 0 0 rfl (lv_sub hl [0, 1, 2, 3, 4, 5] rfl) ⟨by decide, by decide⟩ hI hS
theorem dX1_firstComing_0 : decode cX1_firstComing 0 = .ok (.iconst (-1), 1) := by decide +kernel
theorem dX1_firstComing_1 : decode cX1_firstComing 1 = .ok (.istore 4, 2) := by decide +kernel
theorem dX1_firstComing_3 : decode cX1_firstComing 3 = .ok (.iconst 0, 1) := by decide +kernel
theorem dX1_firstComing_4 : decode cX1_firstComing 4 = .ok (.istore 5, 2) := by decide +kernel
theorem dX1_firstComing_6 : decode cX1_firstComing 6 = .ok (.iload 5, 2) := by decide +kernel
theorem dX1_firstComing_8 : decode cX1_firstComing 8 = .ok (.aload_n 0, 1) := by decide +kernel
theorem dX1_firstComing_9 : decode cX1_firstComing 9 = .ok (.getfield 38, 3) := by decide +kernel
theorem dX1_firstComing_12 : decode cX1_firstComing 12 = .ok (.getfield 50, 3) := by decide +kernel
theorem dX1_firstComing_15 : decode cX1_firstComing 15 = .ok (.invokevirtual 56, 3) := by decide +kernel
theorem dX1_firstComing_18 : decode cX1_firstComing 18 = .ok (.if_icmp .ge 100, 3) := by decide +kernel
theorem dX1_firstComing_21 : decode cX1_firstComing 21 = .ok (.iload_n 3, 1) := by decide +kernel
theorem dX1_firstComing_22 : decode cX1_firstComing 22 = .ok (.aload_n 0, 1) := by decide +kernel
theorem dX1_firstComing_23 : decode cX1_firstComing 23 = .ok (.getfield 38, 3) := by decide +kernel
theorem dX1_firstComing_26 : decode cX1_firstComing 26 = .ok (.getfield 50, 3) := by decide +kernel
theorem dX1_firstComing_29 : decode cX1_firstComing 29 = .ok (.iload 5, 2) := by decide +kernel
theorem dX1_firstComing_31 : decode cX1_firstComing 31 = .ok (.iconst 1, 1) := by decide +kernel
theorem dX1_firstComing_32 : decode cX1_firstComing 32 = .ok (.invokevirtual 66, 3) := by decide +kernel
theorem dX1_firstComing_35 : decode cX1_firstComing 35 = .ok (.invokestatic 70, 3) := by decide +kernel
theorem dX1_firstComing_38 : decode cX1_firstComing 38 = .ok (.istore 6, 2) := by decide +kernel
theorem dX1_firstComing_40 : decode cX1_firstComing 40 = .ok (.aload_n 0, 1) := by decide +kernel
theorem dX1_firstComing_41 : decode cX1_firstComing 41 = .ok (.iload 5, 2) := by decide +kernel
theorem dX1_firstComing_43 : decode cX1_firstComing 43 = .ok (.iload 6, 2) := by decide +kernel
theorem dX1_firstComing_45 : decode cX1_firstComing 45 = .ok (.iload_n 2, 1) := by decide +kernel
theorem dX1_firstComing_46 : decode cX1_firstComing 46 = .ok (.invokevirtual 62, 3) := by decide +kernel
theorem dX1_firstComing_49 : decode cX1_firstComing 49 = .ok (.istore 7, 2) := by decide +kernel
theorem dX1_firstComing_51 : decode cX1_firstComing 51 = .ok (.iload 7, 2) := by decide +kernel
theorem dX1_firstComing_53 : decode cX1_firstComing 53 = .ok (.iconst (-1), 1) := by decide +kernel
theorem dX1_firstComing_54 : decode cX1_firstComing 54 = .ok (.if_icmp .eq 35, 3) := by decide +kernel
theorem dX1_firstComing_57 : decode cX1_firstComing 57 = .ok (.iload 7, 2) := by decide +kernel
theorem dX1_firstComing_59 : decode cX1_firstComing 59 = .ok (.iload_n 1, 1) := by decide +kernel
theorem dX1_firstComing_60 : decode cX1_firstComing 60 = .ok (.if_icmp .eq 29, 3) := by decide +kernel
theorem dX1_firstComing_63 : decode cX1_firstComing 63 = .ok (.iload 6, 2) := by decide +kernel
theorem dX1_firstComing_65 : decode cX1_firstComing 65 = .ok (.bipush 96, 2) := by decide +kernel
theorem dX1_firstComing_67 : decode cX1_firstComing 67 = .ok (.if_icmp .ge 22, 3) := by decide +kernel
theorem dX1_firstComing_70 : decode cX1_firstComing 70 = .ok (.aload_n 0, 1) := by decide +kernel
theorem dX1_firstComing_71 : decode cX1_firstComing 71 = .ok (.getfield 42, 3) := by decide +kernel
theorem dX1_firstComing_74 : decode cX1_firstComing 74 = .ok (.iload 7, 2) := by decide +kernel
theorem dX1_firstComing_76 : decode cX1_firstComing 76 = .ok (.iload 6, 2) := by decide +kernel
theorem dX1_firstComing_78 : decode cX1_firstComing 78 = .ok (.invokevirtual 75, 3) := by decide +kernel
theorem dX1_firstComing_81 : decode cX1_firstComing 81 = .ok (.istore 7, 2) := by decide +kernel
theorem dX1_firstComing_83 : decode cX1_firstComing 83 = .ok (.iinc 6 1, 3) := by decide +kernel
theorem dX1_firstComing_86 : decode cX1_firstComing 86 = .ok (.goto (-35), 3) := by decide +kernel
theorem dX1_firstComing_89 : decode cX1_firstComing 89 = .ok (.iload 7, 2) := by decide +kernel
theorem dX1_firstComing_91 : decode cX1_firstComing 91 = .ok (.iload_n 1, 1) := by decide +kernel
theorem dX1_firstComing_92 : decode cX1_firstComing 92 = .ok (.if_icmp .ne 20, 3) := by decide +kernel
theorem dX1_firstComing_95 : decode cX1_firstComing 95 = .ok (.iload 4, 2) := by decide +kernel
theorem dX1_firstComing_97 : decode cX1_firstComing 97 = .ok (.iconst (-1), 1) := by decide +kernel
theorem dX1_firstComing_98 : decode cX1_firstComing 98 = .ok (.if_icmp .eq 10, 3) := by decide +kernel
theorem dX1_firstComing_101 : decode cX1_firstComing 101 = .ok (.iload 6, 2) := by decide +kernel
theorem dX1_firstComing_103 : decode cX1_firstComing 103 = .ok (.iload 4, 2) := by decide +kernel
theorem dX1_firstComing_105 : decode cX1_firstComing 105 = .ok (.if_icmp .ge 7, 3) := by decide +kernel
theorem dX1_firstComing_108 : decode cX1_firstComing 108 = .ok (.iload 6, 2) := by decide +kernel
theorem dX1_firstComing_110 : decode cX1_firstComing 110 = .ok (.istore 4, 2) := by decide +kernel
theorem dX1_firstComing_112 : decode cX1_firstComing 112 = .ok (.iinc 5 1, 3) := by decide +kernel
theorem dX1_firstComing_115 : decode cX1_firstComing 115 = .ok (.goto (-109), 3) := by decide +kernel
theorem dX1_firstComing_118 : decode cX1_firstComing 118 = .ok (.iload 4, 2) := by decide +kernel
theorem dX1_firstComing_120 : decode cX1_firstComing 120 = .ok (.ireturn, 1) := by decide +kernel
set_option maxHeartbeats 4000000 in
set_option maxRecDepth 100000 in
theorem c_X1_firstComing (l : Launch) (E : Nat → ClassId) (D : va_G) (G : th_G) (h0 : Nat) (hG0 : G h0 = some (11, 0)) (x1 x2 x3 : Int32) : Met l yX1_firstComing (tb (.code yX1_firstComing cX1_firstComing 8 (some .int))) (rm 7) (va_Pc [.ref h0, .int x1, .int x2, .int x3] (th_P E D G)) (QI E D G (fun r => True)) 0 0 (th_A G) := by
  refine Met.ofW (cc := cX1_firstComing) (maxL := 8) (ret := (some .int)) (by decide) rfl ?_
  intro p e s m args below meth c s₁ B hml hv
  obtain ⟨hav, hI, hN, hK⟩ := hv
  have hx := B.exec
  have hb := B.bytes
  have hr := B.returns
  have hts := atoms_spec (ws := tb (.code yX1_firstComing cX1_firstComing 8 (some .int))) B.pre
  have hown : s.vm.findClass RX1 = some m.cls := findClass_of_methodNamed B.named
  have hlocks := B.notSynchronized
  have hS : va_S (th_A G) s.heap s.heap [] := va_S.rf
  have hl := lv_entry ([.ref h0, .int x1, .int x2, .int x3]) (n := 8) (Nat.le_of_ble_eq_true rfl)
  rw [show entryFrame m args 8 = entryFrame m ([.ref h0, .int x1, .int x2, .int x3] : List Value).toArray 8 from by rw [hav], lg_entry_eq]
  generalize (lg_sl ([.ref h0, .int x1, .int x2, .int x3]) ++ List.replicate (8 - (lg_sl ([.ref h0, .int x1, .int x2, .int x3])).length) Slot.unset).toArray = ls at hl ⊢
  have hl : lv_has ls 8 [(0, .ref h0), (1, .int x1), (2, .int x2), (3, .int x3)] := hl
  generalize hR : (headSpec (tb (.code yX1_firstComing cX1_firstComing 8 (some .int))) (rm 7)).room = R
  have hR := hR.symm
  generalize hQ : MQ below (QI E D G (fun r => True)) args s 0 0 (th_A G) = QF
  have hQ := hQ.symm
  have J_6 : ∀ (nn : Nat) (H : Heap) (locs : List Loc) (ls : Array Slot) (v7462 : Int32) (v7463 : Int32), (Int.toNat (17 - v7462.toInt) = nn) → lv_has ls 8 [(5, .int v7462), (4, .int v7463), (0, .ref h0), (1, .int x1), (2, .int x2), (3, .int x3)] → ((0 : Int) ≤ v7462.toInt ∧ v7462.toInt ≤ 17) → th_I (okC E) D G [] H → va_S (th_A G) s.heap H locs → W p l e R s m args below meth c H locs 0 0 QF (F0 m 6 ls []) := by
    intro nn
    induction nn using Nat.strongRecOn with
    | ind nn ih_6 =>
      intro H locs ls v7462 v7463 hm hl k7464 hI hS
      have J_89 : ∀ (H : Heap) (locs : List Loc) (ls : Array Slot) (v7465 : Int32) (v7466 : Int32), lv_has ls 8 [(7, .int v7465), (6, .int v7466), (5, .int v7462), (4, .int v7463), (0, .ref h0), (1, .int x1), (2, .int x2), (3, .int x3)] → ((0 : Int) ≤ v7462.toInt ∧ v7462.toInt ≤ 16) → th_I (okC E) D G [] H → va_S (th_A G) s.heap H locs → W p l e R s m args below meth c H locs 0 0 QF (F0 m 89 ls []) := by
        intro H locs ls v7465 v7466 hl k7469 hI hS
        refine lv_iload hx hb dX1_firstComing_89 (lv_at hl 0 rfl) ?_
        refine lv_iload_n hx hb dX1_firstComing_91 rfl (lv_at hl 5 rfl) ?_
        have k7470 := iv_lo v7465
        have k7471 := iv_hi v7465
        have k7472 := iv_lo x1
        have k7473 := iv_hi x1
        refine lv_icmp_ne (tgt := 112) hx hb dX1_firstComing_92 (by decide) (fun c7474 => ?_) (fun c7474 => ?_)
        · skip
          have k7475 := iv_ne (X := v7465.toInt) (Y := x1.toInt) rfl rfl c7474
          obtain ⟨v7476, e7477⟩ : ∃ y : Int32, y = v7462 + (1) := ⟨_, rfl⟩
          have tv7476 : v7476.toInt = v7462.toInt + (1) := iv_add rfl (by decide) e7477 (by omega) (by omega)
          refine lv_iinc (v := v7476) (lv' := [(5, .int v7476), (7, .int v7465), (6, .int v7466), (4, .int v7463), (0, .ref h0), (1, .int x1), (2, .int x2), (3, .int x3)]) hx hb dX1_firstComing_112 hl (k := 2) rfl (by rw [e7477]; rfl) (by decide) rfl (fun ls hl => ?_)
          refine lv_goto (tgt := 6) hx hb dX1_firstComing_115 (by decide) ?_
          exact ih_6 _ (by omega) H locs ls v7476 v7463 rfl (lv_sub hl [0, 3, 4, 5, 6, 7] rfl) ⟨by omega, by omega⟩ hI hS
        · skip
          have k7478 := iv_eq (X := v7465.toInt) (Y := x1.toInt) rfl rfl c7474
          refine lv_iload hx hb dX1_firstComing_95 (lv_at hl 3 rfl) ?_
          refine lv_iconst (v := (-1)) hx hb dX1_firstComing_97 (by decide) ?_
          have k7479 := iv_lo v7463
          have k7480 := iv_hi v7463
          refine lv_icmp_eq (tgt := 108) hx hb dX1_firstComing_98 (by decide) (fun c7481 => ?_) (fun c7481 => ?_)
          · skip
            have k7482 := iv_eq (X := v7463.toInt) (Y := (-1)) rfl (by decide) c7481
            refine lv_iload hx hb dX1_firstComing_108 (lv_at hl 1 rfl) ?_
            refine lv_istore (lv' := [(4, .int v7466), (7, .int v7465), (6, .int v7466), (5, .int v7462), (0, .ref h0), (1, .int x1), (2, .int x2), (3, .int x3)]) hx hb dX1_firstComing_110 hl (by decide) rfl (fun ls hl => ?_)
            obtain ⟨v7483, e7484⟩ : ∃ y : Int32, y = v7462 + (1) := ⟨_, rfl⟩
            have tv7483 : v7483.toInt = v7462.toInt + (1) := iv_add rfl (by decide) e7484 (by omega) (by omega)
            refine lv_iinc (v := v7483) (lv' := [(5, .int v7483), (4, .int v7466), (7, .int v7465), (6, .int v7466), (0, .ref h0), (1, .int x1), (2, .int x2), (3, .int x3)]) hx hb dX1_firstComing_112 hl (k := 3) rfl (by rw [e7484]; rfl) (by decide) rfl (fun ls hl => ?_)
            refine lv_goto (tgt := 6) hx hb dX1_firstComing_115 (by decide) ?_
            exact ih_6 _ (by omega) H locs ls v7483 v7466 rfl (lv_sub hl [0, 1, 4, 5, 6, 7] rfl) ⟨by omega, by omega⟩ hI hS
          · skip
            have k7485 := iv_ne (X := v7463.toInt) (Y := (-1)) rfl (by decide) c7481
            refine lv_iload hx hb dX1_firstComing_101 (lv_at hl 1 rfl) ?_
            refine lv_iload hx hb dX1_firstComing_103 (lv_at hl 3 rfl) ?_
            have k7486 := iv_lo v7466
            have k7487 := iv_hi v7466
            refine lv_icmp_ge (tgt := 112) hx hb dX1_firstComing_105 (by decide) (fun c7488 => ?_) (fun c7488 => ?_)
            · skip
              have k7489 := iv_le (X := v7463.toInt) (Y := v7466.toInt) rfl rfl c7488
              obtain ⟨v7490, e7491⟩ : ∃ y : Int32, y = v7462 + (1) := ⟨_, rfl⟩
              have tv7490 : v7490.toInt = v7462.toInt + (1) := iv_add rfl (by decide) e7491 (by omega) (by omega)
              refine lv_iinc (v := v7490) (lv' := [(5, .int v7490), (7, .int v7465), (6, .int v7466), (4, .int v7463), (0, .ref h0), (1, .int x1), (2, .int x2), (3, .int x3)]) hx hb dX1_firstComing_112 hl (k := 2) rfl (by rw [e7491]; rfl) (by decide) rfl (fun ls hl => ?_)
              refine lv_goto (tgt := 6) hx hb dX1_firstComing_115 (by decide) ?_
              exact ih_6 _ (by omega) H locs ls v7490 v7463 rfl (lv_sub hl [0, 3, 4, 5, 6, 7] rfl) ⟨by omega, by omega⟩ hI hS
            · skip
              have k7492 := iv_nle (X := v7463.toInt) (Y := v7466.toInt) rfl rfl c7488
              refine lv_iload hx hb dX1_firstComing_108 (lv_at hl 1 rfl) ?_
              refine lv_istore (lv' := [(4, .int v7466), (7, .int v7465), (6, .int v7466), (5, .int v7462), (0, .ref h0), (1, .int x1), (2, .int x2), (3, .int x3)]) hx hb dX1_firstComing_110 hl (by decide) rfl (fun ls hl => ?_)
              obtain ⟨v7493, e7494⟩ : ∃ y : Int32, y = v7462 + (1) := ⟨_, rfl⟩
              have tv7493 : v7493.toInt = v7462.toInt + (1) := iv_add rfl (by decide) e7494 (by omega) (by omega)
              refine lv_iinc (v := v7493) (lv' := [(5, .int v7493), (4, .int v7466), (7, .int v7465), (6, .int v7466), (0, .ref h0), (1, .int x1), (2, .int x2), (3, .int x3)]) hx hb dX1_firstComing_112 hl (k := 3) rfl (by rw [e7494]; rfl) (by decide) rfl (fun ls hl => ?_)
              refine lv_goto (tgt := 6) hx hb dX1_firstComing_115 (by decide) ?_
              exact ih_6 _ (by omega) H locs ls v7493 v7466 rfl (lv_sub hl [0, 1, 4, 5, 6, 7] rfl) ⟨by omega, by omega⟩ hI hS
      have J_51 : ∀ (nn : Nat) (H : Heap) (locs : List Loc) (ls : Array Slot) (v7495 : Int32) (v7496 : Int32), (Int.toNat (96 - v7496.toInt) = nn) → lv_has ls 8 [(7, .int v7495), (6, .int v7496), (5, .int v7462), (4, .int v7463), (0, .ref h0), (1, .int x1), (2, .int x2), (3, .int x3)] → ((0 : Int) ≤ v7462.toInt ∧ v7462.toInt ≤ 16) → th_I (okC E) D G [] H → va_S (th_A G) s.heap H locs → W p l e R s m args below meth c H locs 0 0 QF (F0 m 51 ls []) := by
        intro nn
        induction nn using Nat.strongRecOn with
        | ind nn ih_51 =>
          intro H locs ls v7495 v7496 hm hl k7499 hI hS
          refine lv_iload hx hb dX1_firstComing_51 (lv_at hl 0 rfl) ?_
          refine lv_iconst (v := (-1)) hx hb dX1_firstComing_53 (by decide) ?_
          have k7500 := iv_lo v7495
          have k7501 := iv_hi v7495
          refine lv_icmp_eq (tgt := 89) hx hb dX1_firstComing_54 (by decide) (fun c7502 => ?_) (fun c7502 => ?_)
          · skip
            have k7503 := iv_eq (X := v7495.toInt) (Y := (-1)) rfl (by decide) c7502
            exact J_89 H locs ls v7495 v7496 (lv_sub hl [0, 1, 2, 3, 4, 5, 6, 7] rfl) ⟨by omega, by omega⟩ hI hS
          · skip
            have k7504 := iv_ne (X := v7495.toInt) (Y := (-1)) rfl (by decide) c7502
            refine lv_iload hx hb dX1_firstComing_57 (lv_at hl 0 rfl) ?_
            refine lv_iload_n hx hb dX1_firstComing_59 rfl (lv_at hl 5 rfl) ?_
            have k7505 := iv_lo x1
            have k7506 := iv_hi x1
            refine lv_icmp_eq (tgt := 89) hx hb dX1_firstComing_60 (by decide) (fun c7507 => ?_) (fun c7507 => ?_)
            · skip
              have k7508 := iv_eq (X := v7495.toInt) (Y := x1.toInt) rfl rfl c7507
              exact J_89 H locs ls v7495 v7496 (lv_sub hl [0, 1, 2, 3, 4, 5, 6, 7] rfl) ⟨by omega, by omega⟩ hI hS
            · skip
              have k7509 := iv_ne (X := v7495.toInt) (Y := x1.toInt) rfl rfl c7507
              refine lv_iload hx hb dX1_firstComing_63 (lv_at hl 1 rfl) ?_
              refine lv_bipush (v := 96) hx hb dX1_firstComing_65 (by decide) ?_
              have k7510 := iv_lo v7496
              have k7511 := iv_hi v7496
              refine lv_icmp_ge (tgt := 89) hx hb dX1_firstComing_67 (by decide) (fun c7512 => ?_) (fun c7512 => ?_)
              · skip
                have k7513 := iv_le (X := (96)) (Y := v7496.toInt) (by decide) rfl c7512
                exact J_89 H locs ls v7495 v7496 (lv_sub hl [0, 1, 2, 3, 4, 5, 6, 7] rfl) ⟨by omega, by omega⟩ hI hS
              · skip
                have k7514 := iv_nle (X := (96)) (Y := v7496.toInt) (by decide) rfl c7512
                refine lv_aload_n hx hb dX1_firstComing_70 rfl (lv_at hl 4 rfl) ?_
                obtain ⟨a7515, a7517, a7519, a7521, a7523, a7525, a7527, a7529, w7531, w7532, w7533, hO, hq7516, hq7518, hq7520, hq7522, hq7524, hq7526, hq7528, hq7530⟩ := op_11 hI hG0 List.not_mem_nil
                have hI := th_I.weak (a := h0) hI
                refine th_get hx hb hts inT1 hown hK hO rfl 1 (by decide) (hts _ (tb_c wd_237)) rfl rfl dX1_firstComing_71 ?_
                refine lv_iload hx hb dX1_firstComing_74 (lv_at hl 0 rfl) ?_
                refine lv_iload hx hb dX1_firstComing_76 (lv_at hl 1 rfl) ?_
                have hI := th_I.close hI hG0 hO (ok_11 hq7516 hq7518 hq7520 hq7522 hq7524 hq7526 hq7528 hq7530)
                refine th_cVi (As := [.int v7495, .int v7496]) (rest := []) (n := 2) (d := 4) ⟨hx, hb, hml, hown, hts⟩ (c_X7_stepFrom l E D G a7517 hq7518 v7495 v7496) wd_936 wd_531 wd_532 wd_6 wd_533 (by decide +kernel) ⟨by rw [hR]; exact Nat.le_of_ble_eq_true rfl, by rw [hR]; exact Nat.le_of_ble_eq_true rfl⟩ hI hN hK hS (rc_9 hI hq7518 List.not_mem_nil) rfl rfl hl.1 rfl (Nat.le_of_ble_eq_true rfl) dX1_firstComing_78 ⟨Nat.zero_le _, Nat.zero_le _⟩ (fun r7534 H locs hp hI hS => ?_)
                refine lv_istore (lv' := [(7, .int r7534), (6, .int v7496), (5, .int v7462), (4, .int v7463), (0, .ref h0), (1, .int x1), (2, .int x2), (3, .int x3)]) hx hb dX1_firstComing_81 hl (by decide) rfl (fun ls hl => ?_)
                obtain ⟨v7535, e7536⟩ : ∃ y : Int32, y = v7496 + (1) := ⟨_, rfl⟩
                have tv7535 : v7535.toInt = v7496.toInt + (1) := iv_add rfl (by decide) e7536 (by omega) (by omega)
                refine lv_iinc (v := v7535) (lv' := [(6, .int v7535), (7, .int r7534), (5, .int v7462), (4, .int v7463), (0, .ref h0), (1, .int x1), (2, .int x2), (3, .int x3)]) hx hb dX1_firstComing_83 hl (k := 1) rfl (by rw [e7536]; rfl) (by decide) rfl (fun ls hl => ?_)
                refine lv_goto (tgt := 51) hx hb dX1_firstComing_86 (by decide) ?_
                exact ih_51 _ (by omega) H locs ls r7534 v7535 rfl (lv_sub hl [1, 0, 2, 3, 4, 5, 6, 7] rfl) ⟨by omega, by omega⟩ hI hS
      refine lv_iload hx hb dX1_firstComing_6 (lv_at hl 0 rfl) ?_
      refine lv_aload_n hx hb dX1_firstComing_8 rfl (lv_at hl 2 rfl) ?_
      obtain ⟨a7537, a7539, a7541, a7543, a7545, a7547, a7549, a7551, w7553, w7554, w7555, hO, hq7538, hq7540, hq7542, hq7544, hq7546, hq7548, hq7550, hq7552⟩ := op_11 hI hG0 List.not_mem_nil
      have hI := th_I.weak (a := h0) hI
      refine th_get hx hb hts inT1 hown hK hO rfl 0 (by decide) (hts _ (tb_c wd_236)) rfl rfl dX1_firstComing_9 ?_
      have hI := th_I.close hI hG0 hO (ok_11 hq7538 hq7540 hq7542 hq7544 hq7546 hq7548 hq7550 hq7552)
      obtain ⟨a7556, a7558, a7560, a7562, a7564, a7566, a7568, a7570, a7572, a7574, w7576, w7579, w7580, w7581, hO, hq7557, hq7559, hq7561, hq7563, hq7565, hq7567, hq7569, hq7571, hq7573, hq7575, ⟨k7577, k7578⟩⟩ := op_6 hI hq7538 List.not_mem_nil
      have hI := th_I.weak (a := a7537) hI
      refine th_getN hx hb hts inT6 hown hK hN hO rfl 5 (by decide) wn_70 rfl rfl dX1_firstComing_12 ?_
      have hI := th_I.close hI hq7538 hO (ok_6 hq7557 hq7559 hq7561 hq7563 hq7565 hq7567 hq7569 hq7571 hq7573 hq7575 ⟨by omega, by omega⟩)
      obtain ⟨a7583, w7585, hO, hq7584, ⟨k7586, k7587⟩, k7588⟩ := op_4 hI hq7567 List.not_mem_nil
      have hI := th_I.weak (a := a7566) hI
      have k7589 : (nI 16).toInt = ((16 : Nat) : Int) := nI_toInt (by omega)
      refine th_cVs (As := []) (rest := [.int v7462]) (n := 0) (d := 0) ⟨hx, hb, hml, hown, hts⟩ (c_X4_size l E D H a7566 16 a7583 w7585 hO (by omega) (by omega) (by omega)) wd_920 wd_507 wd_508 wd_3 wd_509 (by decide +kernel) ⟨by rw [hR]; exact Nat.le_of_ble_eq_true rfl, by rw [hR]; exact Nat.le_of_ble_eq_true rfl⟩ hN hK hS ⟨_, hO⟩ rfl rfl hl.1 rfl (Nat.le_of_ble_eq_true rfl) dX1_firstComing_15 ⟨Nat.zero_le _, Nat.zero_le _⟩ (fun r7582 locs hp hS => ?_)
      have hp := hp.symm
      subst hp
      refine lv_icmp_ge (tgt := 118) hx hb dX1_firstComing_18 (by decide) (fun c7590 => ?_) (fun c7590 => ?_)
      · skip
        have k7591 := iv_le (X := w7585.toInt) (Y := v7462.toInt) rfl rfl c7590
        refine lv_iload hx hb dX1_firstComing_118 (lv_at hl 1 rfl) ?_
        have hI := th_I.close hI hq7567 hO (ok_4 hq7584 ⟨by omega, by omega⟩ (by omega))
        have hpost : True := trivial
        rw [hQ]
        exact W.iret (v := v7463) hx hb hr (fun t ht hW => ⟨⟨v7463, (), rfl, hpost, by rw [ht]; exact hI, hN.warm hW, va_K.moved hW.alike hK⟩, hS.F ht⟩) hS.2.2 dX1_firstComing_120
      · skip
        have k7592 := iv_nle (X := w7585.toInt) (Y := v7462.toInt) rfl rfl c7590
        refine lv_iload_n hx hb dX1_firstComing_21 rfl (lv_at hl 5 rfl) ?_
        refine lv_aload_n hx hb dX1_firstComing_22 rfl (lv_at hl 2 rfl) ?_
        have hI := th_I.close hI hq7567 hO (ok_4 hq7584 ⟨by omega, by omega⟩ (by omega))
        obtain ⟨a7593, a7595, a7597, a7599, a7601, a7603, a7605, a7607, w7609, w7610, w7611, hO, hq7594, hq7596, hq7598, hq7600, hq7602, hq7604, hq7606, hq7608⟩ := op_11 hI hG0 List.not_mem_nil
        have hI := th_I.weak (a := h0) hI
        refine th_get hx hb hts inT1 hown hK hO rfl 0 (by decide) (hts _ (tb_c wd_236)) rfl rfl dX1_firstComing_23 ?_
        have hI := th_I.close hI hG0 hO (ok_11 hq7594 hq7596 hq7598 hq7600 hq7602 hq7604 hq7606 hq7608)
        obtain ⟨a7612, a7614, a7616, a7618, a7620, a7622, a7624, a7626, a7628, a7630, w7632, w7635, w7636, w7637, hO, hq7613, hq7615, hq7617, hq7619, hq7621, hq7623, hq7625, hq7627, hq7629, hq7631, ⟨k7633, k7634⟩⟩ := op_6 hI hq7594 List.not_mem_nil
        have hI := th_I.weak (a := a7593) hI
        refine th_getN hx hb hts inT6 hown hK hN hO rfl 5 (by decide) wn_70 rfl rfl dX1_firstComing_26 ?_
        refine lv_iload hx hb dX1_firstComing_29 (lv_at hl 0 rfl) ?_
        refine lv_iconst (v := 1) hx hb dX1_firstComing_31 (by decide) ?_
        have hI := th_I.close hI hq7594 hO (ok_6 hq7613 hq7615 hq7617 hq7619 hq7621 hq7623 hq7625 hq7627 hq7629 hq7631 ⟨by omega, by omega⟩)
        refine th_cVi (As := [.int v7462, .int 1]) (rest := [.int x3]) (n := 2) (d := 0) ⟨hx, hb, hml, hown, hts⟩ (c_X4_at l E D G a7622 (16) hq7623 v7462 1) wd_925 wd_519 wd_520 wd_3 wd_521 (by decide +kernel) ⟨by rw [hR]; exact Nat.le_of_ble_eq_true rfl, by rw [hR]; exact Nat.le_of_ble_eq_true rfl⟩ hI hN hK hS (rc_4 hI hq7623 List.not_mem_nil) rfl rfl hl.1 rfl (Nat.le_of_ble_eq_true rfl) dX1_firstComing_32 ⟨Nat.zero_le _, Nat.zero_le _⟩ (fun r7638 H locs hp hI hS => ?_)
        refine va_mmax hx hb (hml.trans hl.1.symm) hown (hts _ (tb_c wd_935)) (hts _ (tb_c wd_43)) (hts _ (tb_c wd_4)) (hts _ (tb_c wd_44)) (by rw [hR]; exact Nat.le_of_ble_eq_true rfl) (by rw [hR]; exact Nat.le_of_ble_eq_true rfl) (Nat.zero_le _) (Nat.zero_le _) dX1_firstComing_35 ?_
        refine lv_topi (fun v7639 e7640 => ?_)
        have tv7639 := iv_max e7640
        refine lv_istore (lv' := [(6, .int v7639), (5, .int v7462), (4, .int v7463), (0, .ref h0), (1, .int x1), (2, .int x2), (3, .int x3)]) hx hb dX1_firstComing_38 hl (by decide) rfl (fun ls hl => ?_)
        refine lv_aload_n hx hb dX1_firstComing_40 rfl (lv_at hl 3 rfl) ?_
        refine lv_iload hx hb dX1_firstComing_41 (lv_at hl 1 rfl) ?_
        refine lv_iload hx hb dX1_firstComing_43 (lv_at hl 0 rfl) ?_
        refine lv_iload_n hx hb dX1_firstComing_45 rfl (lv_at hl 5 rfl) ?_
        refine th_cVi (As := [.int v7462, .int v7639, .int x2]) (rest := []) (n := 3) (d := 6) ⟨hx, hb, hml, hown, hts⟩ (c_X1_placeOf l E D G h0 hG0 v7462 v7639 x2) wd_921 wd_923 wp_25 wd_9 wd_924 (by decide +kernel) ⟨by rw [hR]; exact Nat.le_of_ble_eq_true rfl, by rw [hR]; exact Nat.le_of_ble_eq_true rfl⟩ hI hN hK hS (rc_11 hI hG0 List.not_mem_nil) rfl rfl hl.1 rfl (Nat.le_of_ble_eq_true rfl) dX1_firstComing_46 ⟨Nat.zero_le _, Nat.zero_le _⟩ (fun r7641 H locs hp hI hS => ?_)
        refine lv_istore (lv' := [(7, .int r7641), (6, .int v7639), (5, .int v7462), (4, .int v7463), (0, .ref h0), (1, .int x1), (2, .int x2), (3, .int x3)]) hx hb dX1_firstComing_49 hl (by decide) rfl (fun ls hl => ?_)
        exact J_51 _ H locs ls r7641 v7639 rfl (lv_sub hl [0, 1, 2, 3, 4, 5, 6, 7] rfl) ⟨by omega, by omega⟩ hI hS
  refine lv_iconst (v := (-1)) hx hb dX1_firstComing_0 (by decide) ?_
  refine lv_istore (lv' := [(4, .int (-1)), (0, .ref h0), (1, .int x1), (2, .int x2), (3, .int x3)]) hx hb dX1_firstComing_1 hl (by decide) rfl (fun ls hl => ?_)
  refine lv_iconst (v := 0) hx hb dX1_firstComing_3 (by decide) ?_
  refine lv_istore (lv' := [(5, .int 0), (4, .int (-1)), (0, .ref h0), (1, .int x1), (2, .int x2), (3, .int x3)]) hx hb dX1_firstComing_4 hl (by decide) rfl (fun ls hl => ?_)
  have zl : (0 : Int32).toInt = 0 := by decide
  exact J_6 _ s.heap [] ls 0 (-1) rfl (lv_sub hl [0, 1, 2, 3, 4, 5] rfl) ⟨by decide, by decide⟩ hI hS
theorem dX1_spread_0 : decode cX1_spread 0 = .ok (.aload_n 0, 1) := by decide +kernel
theorem dX1_spread_1 : decode cX1_spread 1 = .ok (.getfield 9, 3) := by decide +kernel
theorem dX1_spread_4 : decode cX1_spread 4 = .ok (.iconst 0, 1) := by decide +kernel
theorem dX1_spread_5 : decode cX1_spread 5 = .ok (.invokestatic 80, 3) := by decide +kernel
theorem dX1_spread_8 : decode cX1_spread 8 = .ok (.iconst 0, 1) := by decide +kernel
theorem dX1_spread_9 : decode cX1_spread 9 = .ok (.istore_n 3, 1) := by decide +kernel
theorem dX1_spread_10 : decode cX1_spread 10 = .ok (.iload_n 3, 1) := by decide +kernel
theorem dX1_spread_11 : decode cX1_spread 11 = .ok (.aload_n 0, 1) := by decide +kernel
theorem dX1_spread_12 : decode cX1_spread 12 = .ok (.getfield 38, 3) := by decide +kernel
theorem dX1_spread_15 : decode cX1_spread 15 = .ok (.getfield 50, 3) := by decide +kernel
theorem dX1_spread_18 : decode cX1_spread 18 = .ok (.invokevirtual 56, 3) := by decide +kernel
theorem dX1_spread_21 : decode cX1_spread 21 = .ok (.if_icmp .ge 48, 3) := by decide +kernel
theorem dX1_spread_24 : decode cX1_spread 24 = .ok (.aload_n 0, 1) := by decide +kernel
theorem dX1_spread_25 : decode cX1_spread 25 = .ok (.iload_n 3, 1) := by decide +kernel
theorem dX1_spread_26 : decode cX1_spread 26 = .ok (.iload_n 1, 1) := by decide +kernel
theorem dX1_spread_27 : decode cX1_spread 27 = .ok (.iload_n 2, 1) := by decide +kernel
theorem dX1_spread_28 : decode cX1_spread 28 = .ok (.invokevirtual 62, 3) := by decide +kernel
theorem dX1_spread_31 : decode cX1_spread 31 = .ok (.istore 4, 2) := by decide +kernel
theorem dX1_spread_33 : decode cX1_spread 33 = .ok (.iload 4, 2) := by decide +kernel
theorem dX1_spread_35 : decode cX1_spread 35 = .ok (.invokestatic 86, 3) := by decide +kernel
theorem dX1_spread_38 : decode cX1_spread 38 = .ok (.ifCond .eq 25, 3) := by decide +kernel
theorem dX1_spread_41 : decode cX1_spread 41 = .ok (.aload_n 0, 1) := by decide +kernel
theorem dX1_spread_42 : decode cX1_spread 42 = .ok (.getfield 9, 3) := by decide +kernel
theorem dX1_spread_45 : decode cX1_spread 45 = .ok (.iload 4, 2) := by decide +kernel
theorem dX1_spread_47 : decode cX1_spread 47 = .ok (.dup2, 1) := by decide +kernel
theorem dX1_spread_48 : decode cX1_spread 48 = .ok (.iaload, 1) := by decide +kernel
theorem dX1_spread_49 : decode cX1_spread 49 = .ok (.aload_n 0, 1) := by decide +kernel
theorem dX1_spread_50 : decode cX1_spread 50 = .ok (.getfield 38, 3) := by decide +kernel
theorem dX1_spread_53 : decode cX1_spread 53 = .ok (.getfield 50, 3) := by decide +kernel
theorem dX1_spread_56 : decode cX1_spread 56 = .ok (.iload_n 3, 1) := by decide +kernel
theorem dX1_spread_57 : decode cX1_spread 57 = .ok (.iconst 3, 1) := by decide +kernel
theorem dX1_spread_58 : decode cX1_spread 58 = .ok (.invokevirtual 66, 3) := by decide +kernel
theorem dX1_spread_61 : decode cX1_spread 61 = .ok (.iadd, 1) := by decide +kernel
theorem dX1_spread_62 : decode cX1_spread 62 = .ok (.iastore, 1) := by decide +kernel
theorem dX1_spread_63 : decode cX1_spread 63 = .ok (.iinc 3 1, 3) := by decide +kernel
theorem dX1_spread_66 : decode cX1_spread 66 = .ok (.goto (-56), 3) := by decide +kernel
theorem dX1_spread_69 : decode cX1_spread 69 = .ok (.return_, 1) := by decide +kernel
set_option maxHeartbeats 4000000 in
set_option maxRecDepth 100000 in
theorem c_X1_spread (l : Launch) (E : Nat → ClassId) (D : va_G) (G : th_G) (h0 : Nat) (hG0 : G h0 = some (11, 0)) (x1 x2 : Int32) : Met l yX1_spread (tb (.code yX1_spread cX1_spread 5 none)) (rm 7) (va_Pc [.ref h0, .int x1, .int x2] (th_P E D G)) (QV E D G) 0 0 (th_A G) := by
  refine Met.ofW (cc := cX1_spread) (maxL := 5) (ret := none) (by decide) rfl ?_
  intro p e s m args below meth c s₁ B hml hv
  obtain ⟨hav, hI, hN, hK⟩ := hv
  have hx := B.exec
  have hb := B.bytes
  have hr := B.returns
  have hts := atoms_spec (ws := tb (.code yX1_spread cX1_spread 5 none)) B.pre
  have hown : s.vm.findClass RX1 = some m.cls := findClass_of_methodNamed B.named
  have hlocks := B.notSynchronized
  have hS : va_S (th_A G) s.heap s.heap [] := va_S.rf
  have hl := lv_entry ([.ref h0, .int x1, .int x2]) (n := 5) (Nat.le_of_ble_eq_true rfl)
  rw [show entryFrame m args 5 = entryFrame m ([.ref h0, .int x1, .int x2] : List Value).toArray 5 from by rw [hav], lg_entry_eq]
  generalize (lg_sl ([.ref h0, .int x1, .int x2]) ++ List.replicate (5 - (lg_sl ([.ref h0, .int x1, .int x2])).length) Slot.unset).toArray = ls at hl ⊢
  have hl : lv_has ls 5 [(0, .ref h0), (1, .int x1), (2, .int x2)] := hl
  generalize hR : (headSpec (tb (.code yX1_spread cX1_spread 5 none)) (rm 7)).room = R
  have hR := hR.symm
  generalize hQ : MQ below (QV E D G) args s 0 0 (th_A G) = QF
  have hQ := hQ.symm
  have J_10 : ∀ (nn : Nat) (H : Heap) (locs : List Loc) (ls : Array Slot) (v2468 : Int32), (Int.toNat (16 - v2468.toInt) = nn) → lv_has ls 5 [(3, .int v2468), (0, .ref h0), (1, .int x1), (2, .int x2)] → ((0 : Int) ≤ v2468.toInt ∧ v2468.toInt ≤ 16) → th_I (okC E) D G [] H → va_S (th_A G) s.heap H locs → W p l e R s m args below meth c H locs 0 0 QF (F0 m 10 ls []) := by
    intro nn
    induction nn using Nat.strongRecOn with
    | ind nn ih_10 =>
      intro H locs ls v2468 hm hl k2469 hI hS
      refine lv_iload_n hx hb dX1_spread_10 rfl (lv_at hl 0 rfl) ?_
      refine lv_aload_n hx hb dX1_spread_11 rfl (lv_at hl 1 rfl) ?_
      obtain ⟨a2470, a2472, a2474, a2476, a2478, a2480, a2482, a2484, w2486, w2487, w2488, hO, hq2471, hq2473, hq2475, hq2477, hq2479, hq2481, hq2483, hq2485⟩ := op_11 hI hG0 List.not_mem_nil
      have hI := th_I.weak (a := h0) hI
      refine th_get hx hb hts inT1 hown hK hO rfl 0 (by decide) (hts _ (tb_c wd_236)) rfl rfl dX1_spread_12 ?_
      have hI := th_I.close hI hG0 hO (ok_11 hq2471 hq2473 hq2475 hq2477 hq2479 hq2481 hq2483 hq2485)
      obtain ⟨a2489, a2491, a2493, a2495, a2497, a2499, a2501, a2503, a2505, a2507, w2509, w2512, w2513, w2514, hO, hq2490, hq2492, hq2494, hq2496, hq2498, hq2500, hq2502, hq2504, hq2506, hq2508, ⟨k2510, k2511⟩⟩ := op_6 hI hq2471 List.not_mem_nil
      have hI := th_I.weak (a := a2470) hI
      refine th_getN hx hb hts inT6 hown hK hN hO rfl 5 (by decide) wn_70 rfl rfl dX1_spread_15 ?_
      have hI := th_I.close hI hq2471 hO (ok_6 hq2490 hq2492 hq2494 hq2496 hq2498 hq2500 hq2502 hq2504 hq2506 hq2508 ⟨by omega, by omega⟩)
      obtain ⟨a2516, w2518, hO, hq2517, ⟨k2519, k2520⟩, k2521⟩ := op_4 hI hq2500 List.not_mem_nil
      have hI := th_I.weak (a := a2499) hI
      have k2522 : (nI 16).toInt = ((16 : Nat) : Int) := nI_toInt (by omega)
      refine th_cVs (As := []) (rest := [.int v2468]) (n := 0) (d := 0) ⟨hx, hb, hml, hown, hts⟩ (c_X4_size l E D H a2499 16 a2516 w2518 hO (by omega) (by omega) (by omega)) wd_920 wd_507 wd_508 wd_3 wd_509 (by decide +kernel) ⟨by rw [hR]; exact Nat.le_of_ble_eq_true rfl, by rw [hR]; exact Nat.le_of_ble_eq_true rfl⟩ hN hK hS ⟨_, hO⟩ rfl rfl hl.1 rfl (Nat.le_of_ble_eq_true rfl) dX1_spread_18 ⟨Nat.zero_le _, Nat.zero_le _⟩ (fun r2515 locs hp hS => ?_)
      have hp := hp.symm
      subst hp
      refine lv_icmp_ge (tgt := 69) hx hb dX1_spread_21 (by decide) (fun c2523 => ?_) (fun c2523 => ?_)
      · skip
        have k2524 := iv_le (X := w2518.toInt) (Y := v2468.toInt) rfl rfl c2523
        have hI := th_I.close hI hq2500 hO (ok_4 hq2517 ⟨by omega, by omega⟩ (by omega))
        rw [hQ]
        exact W.vret hx hb hr (fun t ht hW => ⟨⟨(), rfl, trivial, by rw [ht]; exact hI, hN.warm hW, va_K.moved hW.alike hK⟩, hS.F ht⟩) hS.2.2 dX1_spread_69
      · skip
        have k2525 := iv_nle (X := w2518.toInt) (Y := v2468.toInt) rfl rfl c2523
        refine lv_aload_n hx hb dX1_spread_24 rfl (lv_at hl 1 rfl) ?_
        refine lv_iload_n hx hb dX1_spread_25 rfl (lv_at hl 0 rfl) ?_
        refine lv_iload_n hx hb dX1_spread_26 rfl (lv_at hl 2 rfl) ?_
        refine lv_iload_n hx hb dX1_spread_27 rfl (lv_at hl 3 rfl) ?_
        have hI := th_I.close hI hq2500 hO (ok_4 hq2517 ⟨by omega, by omega⟩ (by omega))
        refine th_cVi (As := [.int v2468, .int x1, .int x2]) (rest := []) (n := 3) (d := 6) ⟨hx, hb, hml, hown, hts⟩ (c_X1_placeOf l E D G h0 hG0 v2468 x1 x2) wd_921 wd_923 wp_25 wd_9 wd_924 (by decide +kernel) ⟨by rw [hR]; exact Nat.le_of_ble_eq_true rfl, by rw [hR]; exact Nat.le_of_ble_eq_true rfl⟩ hI hN hK hS (rc_11 hI hG0 List.not_mem_nil) rfl rfl hl.1 rfl (Nat.le_of_ble_eq_true rfl) dX1_spread_28 ⟨Nat.zero_le _, Nat.zero_le _⟩ (fun r2526 H locs hp hI hS => ?_)
        refine lv_istore (lv' := [(4, .int r2526), (3, .int v2468), (0, .ref h0), (1, .int x1), (2, .int x2)]) hx hb dX1_spread_31 hl (by decide) rfl (fun ls hl => ?_)
        refine lv_iload hx hb dX1_spread_33 (lv_at hl 0 rfl) ?_
        refine th_cSN (As := [.int r2526]) (rest := []) (n := 1) (d := 0) ⟨hx, hb, hml, hown, hts⟩ (c_X11_isCell l H r2526) wn_946 wd_402 wd_1 wd_403 (by decide +kernel) ⟨by rw [hR]; exact Nat.le_of_ble_eq_true rfl, by rw [hR]; exact Nat.le_of_ble_eq_true rfl⟩ hN hS rfl hl.1 rfl (Nat.le_of_ble_eq_true rfl) dX1_spread_35 ⟨Nat.zero_le _, Nat.zero_le _⟩ (fun r2527 locs hp hS => ?_)
        rcases hp with ⟨rfl, hp⟩ | ⟨rfl, hp⟩
        · skip
          try simp only [rg, not_and, Int.not_le] at hp
          have hp2528 := hp
          refine lv_if_eq (tgt := 63) hx hb dX1_spread_38 (by decide) (fun c => absurd c (by decide)) (fun _ => ?_)
          refine lv_aload_n hx hb dX1_spread_41 rfl (lv_at hl 2 rfl) ?_
          obtain ⟨a2529, a2531, a2533, a2535, a2537, a2539, a2541, a2543, w2545, w2546, w2547, hO, hq2530, hq2532, hq2534, hq2536, hq2538, hq2540, hq2542, hq2544⟩ := op_11 hI hG0 List.not_mem_nil
          have hI := th_I.weak (a := h0) hI
          refine th_get hx hb hts inT1 hown hK hO rfl 3 (by decide) (hts _ (tb_c wd_239)) rfl rfl dX1_spread_42 ?_
          refine lv_iload hx hb dX1_spread_45 (lv_at hl 0 rfl) ?_
          refine lv_dup2_11 hx hb dX1_spread_47 rfl rfl ?_
          obtain ⟨_, hA2548⟩ := op_0 hI hq2536 (th_ne hG0 hq2536 (show (11 : Nat) ≠ 0 by decide))
          refine th_iald hx hb hK hA2548 0 rfl (iv_in (X := r2526.toInt) rfl (by omega) (by omega)) dX1_spread_48 (fun v2549 _ => ?_)
          refine lv_aload_n hx hb dX1_spread_49 rfl (lv_at hl 2 rfl) ?_
          refine th_get hx hb hts inT1 hown hK hO rfl 0 (by decide) (hts _ (tb_c wd_236)) rfl rfl dX1_spread_50 ?_
          have hI := th_I.close hI hG0 hO (ok_11 hq2530 hq2532 hq2534 hq2536 hq2538 hq2540 hq2542 hq2544)
          obtain ⟨a2550, a2552, a2554, a2556, a2558, a2560, a2562, a2564, a2566, a2568, w2570, w2573, w2574, w2575, hO, hq2551, hq2553, hq2555, hq2557, hq2559, hq2561, hq2563, hq2565, hq2567, hq2569, ⟨k2571, k2572⟩⟩ := op_6 hI hq2530 List.not_mem_nil
          have hI := th_I.weak (a := a2529) hI
          refine th_getN hx hb hts inT6 hown hK hN hO rfl 5 (by decide) wn_70 rfl rfl dX1_spread_53 ?_
          refine lv_iload_n hx hb dX1_spread_56 rfl (lv_at hl 1 rfl) ?_
          refine lv_iconst (v := 3) hx hb dX1_spread_57 (by decide) ?_
          have hI := th_I.close hI hq2530 hO (ok_6 hq2551 hq2553 hq2555 hq2557 hq2559 hq2561 hq2563 hq2565 hq2567 hq2569 ⟨by omega, by omega⟩)
          refine th_cVi (As := [.int v2468, .int 3]) (rest := [.int v2549, .int r2526, .ref a2535]) (n := 2) (d := 0) ⟨hx, hb, hml, hown, hts⟩ (c_X4_at l E D G a2560 (16) hq2561 v2468 3) wd_925 wd_519 wd_520 wd_3 wd_521 (by decide +kernel) ⟨by rw [hR]; exact Nat.le_of_ble_eq_true rfl, by rw [hR]; exact Nat.le_of_ble_eq_true rfl⟩ hI hN hK hS (rc_4 hI hq2561 List.not_mem_nil) rfl rfl hl.1 rfl (Nat.le_of_ble_eq_true rfl) dX1_spread_58 ⟨Nat.zero_le _, Nat.zero_le _⟩ (fun r2576 H locs hp hI hS => ?_)
          refine lv_iadd hx hb dX1_spread_61 ?_
          refine lv_topi (fun v2577 e2578 => ?_)
          try have tv2577 : v2577.toInt = v2549.toInt + r2576.toInt := iv_add rfl rfl e2578 (by omega) (by omega)
          obtain ⟨_, hA2579⟩ := op_0 hI hq2536 List.not_mem_nil
          refine th_iast hx hb hK hA2579 0 rfl hS ⟨_, hq2536⟩ (iv_in (X := r2526.toInt) rfl (by omega) (by omega)) dX1_spread_62 (fun H locs hA2579 oq hS => ?_)
          have hI := th_I.put hI hq2536 hA2579 ok_0 oq
          obtain ⟨v2580, e2581⟩ : ∃ y : Int32, y = v2468 + (1) := ⟨_, rfl⟩
          have tv2580 : v2580.toInt = v2468.toInt + (1) := iv_add rfl (by decide) e2581 (by omega) (by omega)
          refine lv_iinc (v := v2580) (lv' := [(3, .int v2580), (4, .int r2526), (0, .ref h0), (1, .int x1), (2, .int x2)]) hx hb dX1_spread_63 hl (k := 1) rfl (by rw [e2581]; rfl) (by decide) rfl (fun ls hl => ?_)
          refine lv_goto (tgt := 10) hx hb dX1_spread_66 (by decide) ?_
          exact ih_10 _ (by omega) H locs ls v2580 rfl (lv_sub hl [0, 2, 3, 4] rfl) ⟨by omega, by omega⟩ hI hS
        · skip
          try simp only [rg, not_and, Int.not_le] at hp
          have hp2582 := hp
          refine lv_if_eq (tgt := 63) hx hb dX1_spread_38 (by decide) (fun _ => ?_) (fun c => absurd c (by decide))
          obtain ⟨v2583, e2584⟩ : ∃ y : Int32, y = v2468 + (1) := ⟨_, rfl⟩
          have tv2583 : v2583.toInt = v2468.toInt + (1) := iv_add rfl (by decide) e2584 (by omega) (by omega)
          refine lv_iinc (v := v2583) (lv' := [(3, .int v2583), (4, .int r2526), (0, .ref h0), (1, .int x1), (2, .int x2)]) hx hb dX1_spread_63 hl (k := 1) rfl (by rw [e2584]; rfl) (by decide) rfl (fun ls hl => ?_)
          refine lv_goto (tgt := 10) hx hb dX1_spread_66 (by decide) ?_
          exact ih_10 _ (by omega) H locs ls v2583 rfl (lv_sub hl [0, 2, 3, 4] rfl) ⟨by omega, by omega⟩ hI hS
  refine lv_aload_n hx hb dX1_spread_0 rfl (lv_at hl 0 rfl) ?_
  obtain ⟨a2585, a2587, a2589, a2591, a2593, a2595, a2597, a2599, w2601, w2602, w2603, hO, hq2586, hq2588, hq2590, hq2592, hq2594, hq2596, hq2598, hq2600⟩ := op_11 hI hG0 List.not_mem_nil
  have hI := th_I.weak (a := h0) hI
  refine th_get hx hb hts inT1 hown hK hO rfl 3 (by decide) (hts _ (tb_c wd_239)) rfl rfl dX1_spread_1 ?_
  refine lv_iconst (v := 0) hx hb dX1_spread_4 (by decide) ?_
  have hI := th_I.close hI hG0 hO (ok_11 hq2586 hq2588 hq2590 hq2592 hq2594 hq2596 hq2598 hq2600)
  refine th_cSv (As := [.ref a2591, .int 0]) (rest := []) (n := 2) (d := 0) ⟨hx, hb, hml, hown, hts⟩ (c_J7_fill_53178 l E D G a2591 (24) hq2592 (by omega) 0) wd_945 wd_541 wd_15 wd_542 (by decide +kernel) ⟨by rw [hR]; exact Nat.le_of_ble_eq_true rfl, by rw [hR]; exact Nat.le_of_ble_eq_true rfl⟩ hI hN hK hS rfl hl.1 rfl (Nat.le_of_ble_eq_true rfl) dX1_spread_5 ⟨Nat.zero_le _, Nat.zero_le _⟩ (fun H locs hI hS => ?_)
  refine lv_iconst (v := 0) hx hb dX1_spread_8 (by decide) ?_
  refine lv_istore_n (lv' := [(3, .int 0), (0, .ref h0), (1, .int x1), (2, .int x2)]) hx hb dX1_spread_9 rfl hl (by decide) rfl (fun ls hl => ?_)
  have zl : (0 : Int32).toInt = 0 := by decide
  exact J_10 _ H locs ls 0 rfl (lv_sub hl [0, 1, 2, 3] rfl) ⟨by decide, by decide⟩ hI hS
theorem dX1_fullest_0 : decode cX1_fullest 0 = .ok (.iconst (-1), 1) := by decide +kernel
theorem dX1_fullest_1 : decode cX1_fullest 1 = .ok (.istore_n 1, 1) := by decide +kernel
theorem dX1_fullest_2 : decode cX1_fullest 2 = .ok (.iconst 0, 1) := by decide +kernel
theorem dX1_fullest_3 : decode cX1_fullest 3 = .ok (.istore_n 2, 1) := by decide +kernel
theorem dX1_fullest_4 : decode cX1_fullest 4 = .ok (.iconst 0, 1) := by decide +kernel
theorem dX1_fullest_5 : decode cX1_fullest 5 = .ok (.istore_n 3, 1) := by decide +kernel
theorem dX1_fullest_6 : decode cX1_fullest 6 = .ok (.iload_n 3, 1) := by decide +kernel
theorem dX1_fullest_7 : decode cX1_fullest 7 = .ok (.bipush 24, 2) := by decide +kernel
theorem dX1_fullest_9 : decode cX1_fullest 9 = .ok (.if_icmp .ge 28, 3) := by decide +kernel
theorem dX1_fullest_12 : decode cX1_fullest 12 = .ok (.aload_n 0, 1) := by decide +kernel
theorem dX1_fullest_13 : decode cX1_fullest 13 = .ok (.getfield 9, 3) := by decide +kernel
theorem dX1_fullest_16 : decode cX1_fullest 16 = .ok (.iload_n 3, 1) := by decide +kernel
theorem dX1_fullest_17 : decode cX1_fullest 17 = .ok (.iaload, 1) := by decide +kernel
theorem dX1_fullest_18 : decode cX1_fullest 18 = .ok (.iload_n 2, 1) := by decide +kernel
theorem dX1_fullest_19 : decode cX1_fullest 19 = .ok (.if_icmp .le 12, 3) := by decide +kernel
theorem dX1_fullest_22 : decode cX1_fullest 22 = .ok (.aload_n 0, 1) := by decide +kernel
theorem dX1_fullest_23 : decode cX1_fullest 23 = .ok (.getfield 9, 3) := by decide +kernel
theorem dX1_fullest_26 : decode cX1_fullest 26 = .ok (.iload_n 3, 1) := by decide +kernel
theorem dX1_fullest_27 : decode cX1_fullest 27 = .ok (.iaload, 1) := by decide +kernel
theorem dX1_fullest_28 : decode cX1_fullest 28 = .ok (.istore_n 2, 1) := by decide +kernel
theorem dX1_fullest_29 : decode cX1_fullest 29 = .ok (.iload_n 3, 1) := by decide +kernel
theorem dX1_fullest_30 : decode cX1_fullest 30 = .ok (.istore_n 1, 1) := by decide +kernel
theorem dX1_fullest_31 : decode cX1_fullest 31 = .ok (.iinc 3 1, 3) := by decide +kernel
theorem dX1_fullest_34 : decode cX1_fullest 34 = .ok (.goto (-28), 3) := by decide +kernel
theorem dX1_fullest_37 : decode cX1_fullest 37 = .ok (.iload_n 1, 1) := by decide +kernel
theorem dX1_fullest_38 : decode cX1_fullest 38 = .ok (.ireturn, 1) := by decide +kernel
set_option maxHeartbeats 4000000 in
set_option maxRecDepth 100000 in
theorem c_X1_fullest (l : Launch) (E : Nat → ClassId) (D : va_G) (G : th_G) (h0 : Nat) (hG0 : G h0 = some (11, 0)) : Met l yX1_fullest (tb (.code yX1_fullest cX1_fullest 4 (some .int))) (rm 0) (va_Pc [.ref h0] (th_P E D G)) (QI E D G (fun r => True)) 0 0 (th_A G) := by
  refine Met.ofW (cc := cX1_fullest) (maxL := 4) (ret := (some .int)) (by decide) rfl ?_
  intro p e s m args below meth c s₁ B hml hv
  obtain ⟨hav, hI, hN, hK⟩ := hv
  have hx := B.exec
  have hb := B.bytes
  have hr := B.returns
  have hts := atoms_spec (ws := tb (.code yX1_fullest cX1_fullest 4 (some .int))) B.pre
  have hown : s.vm.findClass RX1 = some m.cls := findClass_of_methodNamed B.named
  have hlocks := B.notSynchronized
  have hS : va_S (th_A G) s.heap s.heap [] := va_S.rf
  have hl := lv_entry ([.ref h0]) (n := 4) (Nat.le_of_ble_eq_true rfl)
  rw [show entryFrame m args 4 = entryFrame m ([.ref h0] : List Value).toArray 4 from by rw [hav], lg_entry_eq]
  generalize (lg_sl ([.ref h0]) ++ List.replicate (4 - (lg_sl ([.ref h0])).length) Slot.unset).toArray = ls at hl ⊢
  have hl : lv_has ls 4 [(0, .ref h0)] := hl
  generalize hR : (headSpec (tb (.code yX1_fullest cX1_fullest 4 (some .int))) (rm 0)).room = R
  have hR := hR.symm
  generalize hQ : MQ below (QI E D G (fun r => True)) args s 0 0 (th_A G) = QF
  have hQ := hQ.symm
  have J_6 : ∀ (nn : Nat) (H : Heap) (locs : List Loc) (ls : Array Slot) (v796 : Int32) (v797 : Int32) (v798 : Int32), (Int.toNat (24 - v796.toInt) = nn) → lv_has ls 4 [(3, .int v796), (2, .int v797), (1, .int v798), (0, .ref h0)] → ((0 : Int) ≤ v796.toInt ∧ v796.toInt ≤ 24) → ((-1 : Int) ≤ v798.toInt ∧ v798.toInt ≤ 23) → th_I (okC E) D G [] H → va_S (th_A G) s.heap H locs → W p l e R s m args below meth c H locs 0 0 QF (F0 m 6 ls []) := by
    intro nn
    induction nn using Nat.strongRecOn with
    | ind nn ih_6 =>
      intro H locs ls v796 v797 v798 hm hl k799 k800 hI hS
      refine lv_iload_n hx hb dX1_fullest_6 rfl (lv_at hl 0 rfl) ?_
      refine lv_bipush (v := 24) hx hb dX1_fullest_7 (by decide) ?_
      refine lv_icmp_ge (tgt := 37) hx hb dX1_fullest_9 (by decide) (fun c801 => ?_) (fun c801 => ?_)
      · skip
        have k802 := iv_le (X := (24)) (Y := v796.toInt) (by decide) rfl c801
        refine lv_iload_n hx hb dX1_fullest_37 rfl (lv_at hl 2 rfl) ?_
        have hpost : True := trivial
        rw [hQ]
        exact W.iret (v := v798) hx hb hr (fun t ht hW => ⟨⟨v798, (), rfl, hpost, by rw [ht]; exact hI, hN.warm hW, va_K.moved hW.alike hK⟩, hS.F ht⟩) hS.2.2 dX1_fullest_38
      · skip
        have k803 := iv_nle (X := (24)) (Y := v796.toInt) (by decide) rfl c801
        refine lv_aload_n hx hb dX1_fullest_12 rfl (lv_at hl 3 rfl) ?_
        obtain ⟨a804, a806, a808, a810, a812, a814, a816, a818, w820, w821, w822, hO, hq805, hq807, hq809, hq811, hq813, hq815, hq817, hq819⟩ := op_11 hI hG0 List.not_mem_nil
        have hI := th_I.weak (a := h0) hI
        refine th_get hx hb hts inT1 hown hK hO rfl 3 (by decide) (hts _ (tb_c wd_239)) rfl rfl dX1_fullest_13 ?_
        refine lv_iload_n hx hb dX1_fullest_16 rfl (lv_at hl 0 rfl) ?_
        obtain ⟨_, hA823⟩ := op_0 hI hq811 (th_ne hG0 hq811 (show (11 : Nat) ≠ 0 by decide))
        refine th_iald hx hb hK hA823 0 rfl (iv_in (X := v796.toInt) rfl (by omega) (by omega)) dX1_fullest_17 (fun v824 _ => ?_)
        refine lv_iload_n hx hb dX1_fullest_18 rfl (lv_at hl 1 rfl) ?_
        have k825 := iv_lo v824
        have k826 := iv_hi v824
        have k827 := iv_lo v797
        have k828 := iv_hi v797
        refine lv_icmp_le (tgt := 31) hx hb dX1_fullest_19 (by decide) (fun c829 => ?_) (fun c829 => ?_)
        · skip
          have k830 := iv_le (X := v824.toInt) (Y := v797.toInt) rfl rfl c829
          obtain ⟨v831, e832⟩ : ∃ y : Int32, y = v796 + (1) := ⟨_, rfl⟩
          have tv831 : v831.toInt = v796.toInt + (1) := iv_add rfl (by decide) e832 (by omega) (by omega)
          refine lv_iinc (v := v831) (lv' := [(3, .int v831), (2, .int v797), (1, .int v798), (0, .ref h0)]) hx hb dX1_fullest_31 hl (k := 0) rfl (by rw [e832]; rfl) (by decide) rfl (fun ls hl => ?_)
          refine lv_goto (tgt := 6) hx hb dX1_fullest_34 (by decide) ?_
          have hI := th_I.close hI hG0 hO (ok_11 hq805 hq807 hq809 hq811 hq813 hq815 hq817 hq819)
          exact ih_6 _ (by omega) H locs ls v831 v797 v798 rfl (lv_sub hl [0, 1, 2, 3] rfl) ⟨by omega, by omega⟩ ⟨by omega, by omega⟩ hI hS
        · skip
          have k833 := iv_nle (X := v824.toInt) (Y := v797.toInt) rfl rfl c829
          refine lv_aload_n hx hb dX1_fullest_22 rfl (lv_at hl 3 rfl) ?_
          refine th_get hx hb hts inT1 hown hK hO rfl 3 (by decide) (hts _ (tb_c wd_239)) rfl rfl dX1_fullest_23 ?_
          refine lv_iload_n hx hb dX1_fullest_26 rfl (lv_at hl 0 rfl) ?_
          obtain ⟨_, hA834⟩ := op_0 hI hq811 (th_ne hG0 hq811 (show (11 : Nat) ≠ 0 by decide))
          refine th_iald hx hb hK hA834 0 rfl (iv_in (X := v796.toInt) rfl (by omega) (by omega)) dX1_fullest_27 (fun v835 _ => ?_)
          refine lv_istore_n (lv' := [(2, .int v835), (3, .int v796), (1, .int v798), (0, .ref h0)]) hx hb dX1_fullest_28 rfl hl (by decide) rfl (fun ls hl => ?_)
          refine lv_iload_n hx hb dX1_fullest_29 rfl (lv_at hl 1 rfl) ?_
          refine lv_istore_n (lv' := [(1, .int v796), (2, .int v835), (3, .int v796), (0, .ref h0)]) hx hb dX1_fullest_30 rfl hl (by decide) rfl (fun ls hl => ?_)
          obtain ⟨v836, e837⟩ : ∃ y : Int32, y = v796 + (1) := ⟨_, rfl⟩
          have tv836 : v836.toInt = v796.toInt + (1) := iv_add rfl (by decide) e837 (by omega) (by omega)
          refine lv_iinc (v := v836) (lv' := [(3, .int v836), (1, .int v796), (2, .int v835), (0, .ref h0)]) hx hb dX1_fullest_31 hl (k := 2) rfl (by rw [e837]; rfl) (by decide) rfl (fun ls hl => ?_)
          refine lv_goto (tgt := 6) hx hb dX1_fullest_34 (by decide) ?_
          have hI := th_I.close hI hG0 hO (ok_11 hq805 hq807 hq809 hq811 hq813 hq815 hq817 hq819)
          exact ih_6 _ (by omega) H locs ls v836 v835 v796 rfl (lv_sub hl [0, 2, 1, 3] rfl) ⟨by omega, by omega⟩ ⟨by omega, by omega⟩ hI hS
  refine lv_iconst (v := (-1)) hx hb dX1_fullest_0 (by decide) ?_
  refine lv_istore_n (lv' := [(1, .int (-1)), (0, .ref h0)]) hx hb dX1_fullest_1 rfl hl (by decide) rfl (fun ls hl => ?_)
  refine lv_iconst (v := 0) hx hb dX1_fullest_2 (by decide) ?_
  refine lv_istore_n (lv' := [(2, .int 0), (1, .int (-1)), (0, .ref h0)]) hx hb dX1_fullest_3 rfl hl (by decide) rfl (fun ls hl => ?_)
  refine lv_iconst (v := 0) hx hb dX1_fullest_4 (by decide) ?_
  refine lv_istore_n (lv' := [(3, .int 0), (2, .int 0), (1, .int (-1)), (0, .ref h0)]) hx hb dX1_fullest_5 rfl hl (by decide) rfl (fun ls hl => ?_)
  have zl : (0 : Int32).toInt = 0 := by decide
  exact J_6 _ s.heap [] ls 0 0 (-1) rfl (lv_sub hl [0, 1, 2, 3] rfl) ⟨by decide, by decide⟩ ⟨by decide, by decide⟩ hI hS
theorem dX1_coloured_0 : decode cX1_coloured 0 = .ok (.iconst 0, 1) := by decide +kernel
theorem dX1_coloured_1 : decode cX1_coloured 1 = .ok (.istore_n 1, 1) := by decide +kernel
theorem dX1_coloured_2 : decode cX1_coloured 2 = .ok (.aload_n 0, 1) := by decide +kernel
theorem dX1_coloured_3 : decode cX1_coloured 3 = .ok (.getfield 9, 3) := by decide +kernel
theorem dX1_coloured_6 : decode cX1_coloured 6 = .ok (.astore_n 2, 1) := by decide +kernel
theorem dX1_coloured_7 : decode cX1_coloured 7 = .ok (.aload_n 2, 1) := by decide +kernel
theorem dX1_coloured_8 : decode cX1_coloured 8 = .ok (.arraylength, 1) := by decide +kernel
theorem dX1_coloured_9 : decode cX1_coloured 9 = .ok (.istore_n 3, 1) := by decide +kernel
theorem dX1_coloured_10 : decode cX1_coloured 10 = .ok (.iconst 0, 1) := by decide +kernel
theorem dX1_coloured_11 : decode cX1_coloured 11 = .ok (.istore 4, 2) := by decide +kernel
theorem dX1_coloured_13 : decode cX1_coloured 13 = .ok (.iload 4, 2) := by decide +kernel
theorem dX1_coloured_15 : decode cX1_coloured 15 = .ok (.iload_n 3, 1) := by decide +kernel
theorem dX1_coloured_16 : decode cX1_coloured 16 = .ok (.if_icmp .ge 28, 3) := by decide +kernel
theorem dX1_coloured_19 : decode cX1_coloured 19 = .ok (.aload_n 2, 1) := by decide +kernel
theorem dX1_coloured_20 : decode cX1_coloured 20 = .ok (.iload 4, 2) := by decide +kernel
theorem dX1_coloured_22 : decode cX1_coloured 22 = .ok (.iaload, 1) := by decide +kernel
theorem dX1_coloured_23 : decode cX1_coloured 23 = .ok (.istore 5, 2) := by decide +kernel
theorem dX1_coloured_25 : decode cX1_coloured 25 = .ok (.iload_n 1, 1) := by decide +kernel
theorem dX1_coloured_26 : decode cX1_coloured 26 = .ok (.iload 5, 2) := by decide +kernel
theorem dX1_coloured_28 : decode cX1_coloured 28 = .ok (.ifCond .le 7, 3) := by decide +kernel
theorem dX1_coloured_31 : decode cX1_coloured 31 = .ok (.iconst 1, 1) := by decide +kernel
theorem dX1_coloured_32 : decode cX1_coloured 32 = .ok (.goto 4, 3) := by decide +kernel
theorem dX1_coloured_35 : decode cX1_coloured 35 = .ok (.iconst 0, 1) := by decide +kernel
theorem dX1_coloured_36 : decode cX1_coloured 36 = .ok (.iadd, 1) := by decide +kernel
theorem dX1_coloured_37 : decode cX1_coloured 37 = .ok (.istore_n 1, 1) := by decide +kernel
theorem dX1_coloured_38 : decode cX1_coloured 38 = .ok (.iinc 4 1, 3) := by decide +kernel
theorem dX1_coloured_41 : decode cX1_coloured 41 = .ok (.goto (-28), 3) := by decide +kernel
theorem dX1_coloured_44 : decode cX1_coloured 44 = .ok (.iload_n 1, 1) := by decide +kernel
theorem dX1_coloured_45 : decode cX1_coloured 45 = .ok (.ireturn, 1) := by decide +kernel
set_option maxHeartbeats 4000000 in
set_option maxRecDepth 100000 in
theorem c_X1_coloured (l : Launch) (E : Nat → ClassId) (D : va_G) (G : th_G) (h0 : Nat) (hG0 : G h0 = some (11, 0)) : Met l yX1_coloured (tb (.code yX1_coloured cX1_coloured 6 (some .int))) (rm 0) (va_Pc [.ref h0] (th_P E D G)) (QI E D G (fun r => True)) 0 0 (th_A G) := by
  refine Met.ofW (cc := cX1_coloured) (maxL := 6) (ret := (some .int)) (by decide) rfl ?_
  intro p e s m args below meth c s₁ B hml hv
  obtain ⟨hav, hI, hN, hK⟩ := hv
  have hx := B.exec
  have hb := B.bytes
  have hr := B.returns
  have hts := atoms_spec (ws := tb (.code yX1_coloured cX1_coloured 6 (some .int))) B.pre
  have hown : s.vm.findClass RX1 = some m.cls := findClass_of_methodNamed B.named
  have hlocks := B.notSynchronized
  have hS : va_S (th_A G) s.heap s.heap [] := va_S.rf
  have hl := lv_entry ([.ref h0]) (n := 6) (Nat.le_of_ble_eq_true rfl)
  rw [show entryFrame m args 6 = entryFrame m ([.ref h0] : List Value).toArray 6 from by rw [hav], lg_entry_eq]
  generalize (lg_sl ([.ref h0]) ++ List.replicate (6 - (lg_sl ([.ref h0])).length) Slot.unset).toArray = ls at hl ⊢
  have hl : lv_has ls 6 [(0, .ref h0)] := hl
  generalize hR : (headSpec (tb (.code yX1_coloured cX1_coloured 6 (some .int))) (rm 0)).room = R
  have hR := hR.symm
  generalize hQ : MQ below (QI E D G (fun r => True)) args s 0 0 (th_A G) = QF
  have hQ := hQ.symm
  have J_13 : ∀ (nn : Nat) (H : Heap) (locs : List Loc) (ls : Array Slot) (v1388 : Int32) (a1389 : Nat) (v1390 : Int32), (Int.toNat (24 - v1388.toInt) = nn) → lv_has ls 6 [(4, .int v1388), (3, .int 24), (2, .ref a1389), (1, .int v1390), (0, .ref h0)] → ((0 : Int) ≤ v1388.toInt ∧ v1388.toInt ≤ 24) → G a1389 = some (0, 24) → th_I (okC E) D G [] H → va_S (th_A G) s.heap H locs → W p l e R s m args below meth c H locs 0 0 QF (F0 m 13 ls []) := by
    intro nn
    induction nn using Nat.strongRecOn with
    | ind nn ih_13 =>
      intro H locs ls v1388 a1389 v1390 hm hl k1391 ha1389 hI hS
      refine lv_iload hx hb dX1_coloured_13 (lv_at hl 0 rfl) ?_
      refine lv_iload_n hx hb dX1_coloured_15 rfl (lv_at hl 1 rfl) ?_
      refine lv_icmp_ge (tgt := 44) hx hb dX1_coloured_16 (by decide) (fun c1392 => ?_) (fun c1392 => ?_)
      · skip
        have k1393 := iv_le (X := (24)) (Y := v1388.toInt) (by decide) rfl c1392
        refine lv_iload_n hx hb dX1_coloured_44 rfl (lv_at hl 3 rfl) ?_
        have hpost : True := trivial
        rw [hQ]
        exact W.iret (v := v1390) hx hb hr (fun t ht hW => ⟨⟨v1390, (), rfl, hpost, by rw [ht]; exact hI, hN.warm hW, va_K.moved hW.alike hK⟩, hS.F ht⟩) hS.2.2 dX1_coloured_45
      · skip
        have k1394 := iv_nle (X := (24)) (Y := v1388.toInt) (by decide) rfl c1392
        refine lv_aload_n hx hb dX1_coloured_19 rfl (lv_at hl 2 rfl) ?_
        refine lv_iload hx hb dX1_coloured_20 (lv_at hl 0 rfl) ?_
        obtain ⟨_, hA1395⟩ := op_0 hI ha1389 List.not_mem_nil
        refine th_iald hx hb hK hA1395 0 rfl (iv_in (X := v1388.toInt) rfl (by omega) (by omega)) dX1_coloured_22 (fun v1396 _ => ?_)
        refine lv_istore (lv' := [(5, .int v1396), (4, .int v1388), (3, .int 24), (2, .ref a1389), (1, .int v1390), (0, .ref h0)]) hx hb dX1_coloured_23 hl (by decide) rfl (fun ls hl => ?_)
        refine lv_iload_n hx hb dX1_coloured_25 rfl (lv_at hl 4 rfl) ?_
        refine lv_iload hx hb dX1_coloured_26 (lv_at hl 0 rfl) ?_
        have k1397 := iv_lo v1396
        have k1398 := iv_hi v1396
        refine lv_if_le (tgt := 35) hx hb dX1_coloured_28 (by decide) (fun c1399 => ?_) (fun c1399 => ?_)
        · skip
          have k1400 := iv_le (X := v1396.toInt) (Y := (0)) rfl (by decide) c1399
          refine lv_iconst (v := 0) hx hb dX1_coloured_35 (by decide) ?_
          refine lv_iadd hx hb dX1_coloured_36 ?_
          refine lv_topi (fun v1401 e1402 => ?_)
          have k1403 := iv_lo v1390
          have k1404 := iv_hi v1390
          have tv1401 : v1401.toInt = v1390.toInt + (0) := iv_add rfl (by decide) e1402 (by omega) (by omega)
          refine lv_istore_n (lv' := [(1, .int v1401), (5, .int v1396), (4, .int v1388), (3, .int 24), (2, .ref a1389), (0, .ref h0)]) hx hb dX1_coloured_37 rfl hl (by decide) rfl (fun ls hl => ?_)
          obtain ⟨v1405, e1406⟩ : ∃ y : Int32, y = v1388 + (1) := ⟨_, rfl⟩
          have tv1405 : v1405.toInt = v1388.toInt + (1) := iv_add rfl (by decide) e1406 (by omega) (by omega)
          refine lv_iinc (v := v1405) (lv' := [(4, .int v1405), (1, .int v1401), (5, .int v1396), (3, .int 24), (2, .ref a1389), (0, .ref h0)]) hx hb dX1_coloured_38 hl (k := 2) rfl (by rw [e1406]; rfl) (by decide) rfl (fun ls hl => ?_)
          refine lv_goto (tgt := 13) hx hb dX1_coloured_41 (by decide) ?_
          exact ih_13 _ (by omega) H locs ls v1405 a1389 v1401 rfl (lv_sub hl [0, 3, 4, 1, 5] rfl) ⟨by omega, by omega⟩ ha1389 hI hS
        · skip
          have k1407 := iv_nle (X := v1396.toInt) (Y := (0)) rfl (by decide) c1399
          refine lv_iconst (v := 1) hx hb dX1_coloured_31 (by decide) ?_
          refine lv_goto (tgt := 36) hx hb dX1_coloured_32 (by decide) ?_
          refine lv_iadd hx hb dX1_coloured_36 ?_
          refine lv_topi (fun v1408 e1409 => ?_)
          try have tv1408 : v1408.toInt = v1390.toInt + (1) := iv_add rfl (by decide) e1409 (by omega) (by omega)
          refine lv_istore_n (lv' := [(1, .int v1408), (5, .int v1396), (4, .int v1388), (3, .int 24), (2, .ref a1389), (0, .ref h0)]) hx hb dX1_coloured_37 rfl hl (by decide) rfl (fun ls hl => ?_)
          obtain ⟨v1410, e1411⟩ : ∃ y : Int32, y = v1388 + (1) := ⟨_, rfl⟩
          have tv1410 : v1410.toInt = v1388.toInt + (1) := iv_add rfl (by decide) e1411 (by omega) (by omega)
          refine lv_iinc (v := v1410) (lv' := [(4, .int v1410), (1, .int v1408), (5, .int v1396), (3, .int 24), (2, .ref a1389), (0, .ref h0)]) hx hb dX1_coloured_38 hl (k := 2) rfl (by rw [e1411]; rfl) (by decide) rfl (fun ls hl => ?_)
          refine lv_goto (tgt := 13) hx hb dX1_coloured_41 (by decide) ?_
          exact ih_13 _ (by omega) H locs ls v1410 a1389 v1408 rfl (lv_sub hl [0, 3, 4, 1, 5] rfl) ⟨by omega, by omega⟩ ha1389 hI hS
  refine lv_iconst (v := 0) hx hb dX1_coloured_0 (by decide) ?_
  refine lv_istore_n (lv' := [(1, .int 0), (0, .ref h0)]) hx hb dX1_coloured_1 rfl hl (by decide) rfl (fun ls hl => ?_)
  refine lv_aload_n hx hb dX1_coloured_2 rfl (lv_at hl 1 rfl) ?_
  obtain ⟨a1412, a1414, a1416, a1418, a1420, a1422, a1424, a1426, w1428, w1429, w1430, hO, hq1413, hq1415, hq1417, hq1419, hq1421, hq1423, hq1425, hq1427⟩ := op_11 hI hG0 List.not_mem_nil
  have hI := th_I.weak (a := h0) hI
  refine th_get hx hb hts inT1 hown hK hO rfl 3 (by decide) (hts _ (tb_c wd_239)) rfl rfl dX1_coloured_3 ?_
  refine lv_astore_n (lv' := [(2, .ref a1418), (1, .int 0), (0, .ref h0)]) hx hb dX1_coloured_6 rfl hl (by decide) rfl (fun ls hl => ?_)
  refine lv_aload_n hx hb dX1_coloured_7 rfl (lv_at hl 0 rfl) ?_
  obtain ⟨_, hA1431⟩ := op_0 hI hq1419 (th_ne hG0 hq1419 (show (11 : Nat) ≠ 0 by decide))
  refine va_alen hx hb hK (th_one hA1431) 0 0 rfl (v := 24) rfl (show Int32.ofNat 24 = (24 : Int32) from by decide) dX1_coloured_8 ?_
  refine lv_istore_n (lv' := [(3, .int 24), (2, .ref a1418), (1, .int 0), (0, .ref h0)]) hx hb dX1_coloured_9 rfl hl (by decide) rfl (fun ls hl => ?_)
  refine lv_iconst (v := 0) hx hb dX1_coloured_10 (by decide) ?_
  refine lv_istore (lv' := [(4, .int 0), (3, .int 24), (2, .ref a1418), (1, .int 0), (0, .ref h0)]) hx hb dX1_coloured_11 hl (by decide) rfl (fun ls hl => ?_)
  have hI := th_I.close hI hG0 hO (ok_11 hq1413 hq1415 hq1417 hq1419 hq1421 hq1423 hq1425 hq1427)
  have zl : (0 : Int32).toInt = 0 := by decide
  exact J_13 _ s.heap [] ls 0 a1418 0 rfl (lv_sub hl [0, 1, 2, 3, 4] rfl) ⟨by decide, by decide⟩ hq1419 hI hS
theorem dX1_tint_0 : decode cX1_tint 0 = .ok (.aload_n 0, 1) := by decide +kernel
theorem dX1_tint_1 : decode cX1_tint 1 = .ok (.getfield 15, 3) := by decide +kernel
theorem dX1_tint_4 : decode cX1_tint 4 = .ok (.iconst 0, 1) := by decide +kernel
theorem dX1_tint_5 : decode cX1_tint 5 = .ok (.invokestatic 80, 3) := by decide +kernel
theorem dX1_tint_8 : decode cX1_tint 8 = .ok (.iconst 0, 1) := by decide +kernel
theorem dX1_tint_9 : decode cX1_tint 9 = .ok (.istore_n 1, 1) := by decide +kernel
theorem dX1_tint_10 : decode cX1_tint 10 = .ok (.iload_n 1, 1) := by decide +kernel
theorem dX1_tint_11 : decode cX1_tint 11 = .ok (.aload_n 0, 1) := by decide +kernel
theorem dX1_tint_12 : decode cX1_tint 12 = .ok (.getfield 38, 3) := by decide +kernel
theorem dX1_tint_15 : decode cX1_tint 15 = .ok (.getfield 50, 3) := by decide +kernel
theorem dX1_tint_18 : decode cX1_tint 18 = .ok (.invokevirtual 56, 3) := by decide +kernel
theorem dX1_tint_21 : decode cX1_tint 21 = .ok (.if_icmp .ge 80, 3) := by decide +kernel
theorem dX1_tint_24 : decode cX1_tint 24 = .ok (.aload_n 0, 1) := by decide +kernel
theorem dX1_tint_25 : decode cX1_tint 25 = .ok (.getfield 38, 3) := by decide +kernel
theorem dX1_tint_28 : decode cX1_tint 28 = .ok (.getfield 50, 3) := by decide +kernel
theorem dX1_tint_31 : decode cX1_tint 31 = .ok (.iload_n 1, 1) := by decide +kernel
theorem dX1_tint_32 : decode cX1_tint 32 = .ok (.iconst 0, 1) := by decide +kernel
theorem dX1_tint_33 : decode cX1_tint 33 = .ok (.invokevirtual 66, 3) := by decide +kernel
theorem dX1_tint_36 : decode cX1_tint 36 = .ok (.istore_n 2, 1) := by decide +kernel
theorem dX1_tint_37 : decode cX1_tint 37 = .ok (.aload_n 0, 1) := by decide +kernel
theorem dX1_tint_38 : decode cX1_tint 38 = .ok (.getfield 38, 3) := by decide +kernel
theorem dX1_tint_41 : decode cX1_tint 41 = .ok (.getfield 50, 3) := by decide +kernel
theorem dX1_tint_44 : decode cX1_tint 44 = .ok (.iload_n 1, 1) := by decide +kernel
theorem dX1_tint_45 : decode cX1_tint 45 = .ok (.iconst 1, 1) := by decide +kernel
theorem dX1_tint_46 : decode cX1_tint 46 = .ok (.invokevirtual 66, 3) := by decide +kernel
theorem dX1_tint_49 : decode cX1_tint 49 = .ok (.istore_n 3, 1) := by decide +kernel
theorem dX1_tint_50 : decode cX1_tint 50 = .ok (.iload_n 3, 1) := by decide +kernel
theorem dX1_tint_51 : decode cX1_tint 51 = .ok (.ifCond .lt 44, 3) := by decide +kernel
theorem dX1_tint_54 : decode cX1_tint 54 = .ok (.iload_n 3, 1) := by decide +kernel
theorem dX1_tint_55 : decode cX1_tint 55 = .ok (.bipush 96, 2) := by decide +kernel
theorem dX1_tint_57 : decode cX1_tint 57 = .ok (.if_icmp .ge 38, 3) := by decide +kernel
theorem dX1_tint_60 : decode cX1_tint 60 = .ok (.iload_n 2, 1) := by decide +kernel
theorem dX1_tint_61 : decode cX1_tint 61 = .ok (.invokestatic 86, 3) := by decide +kernel
theorem dX1_tint_64 : decode cX1_tint 64 = .ok (.ifCond .eq 31, 3) := by decide +kernel
theorem dX1_tint_67 : decode cX1_tint 67 = .ok (.aload_n 0, 1) := by decide +kernel
theorem dX1_tint_68 : decode cX1_tint 68 = .ok (.getfield 15, 3) := by decide +kernel
theorem dX1_tint_71 : decode cX1_tint 71 = .ok (.iload_n 3, 1) := by decide +kernel
theorem dX1_tint_72 : decode cX1_tint 72 = .ok (.dup2, 1) := by decide +kernel
theorem dX1_tint_73 : decode cX1_tint 73 = .ok (.iaload, 1) := by decide +kernel
theorem dX1_tint_74 : decode cX1_tint 74 = .ok (.iconst 1, 1) := by decide +kernel
theorem dX1_tint_75 : decode cX1_tint 75 = .ok (.iload_n 2, 1) := by decide +kernel
theorem dX1_tint_76 : decode cX1_tint 76 = .ok (.ishl, 1) := by decide +kernel
theorem dX1_tint_77 : decode cX1_tint 77 = .ok (.ior, 1) := by decide +kernel
theorem dX1_tint_78 : decode cX1_tint 78 = .ok (.iastore, 1) := by decide +kernel
theorem dX1_tint_79 : decode cX1_tint 79 = .ok (.aload_n 0, 1) := by decide +kernel
theorem dX1_tint_80 : decode cX1_tint 80 = .ok (.getfield 42, 3) := by decide +kernel
theorem dX1_tint_83 : decode cX1_tint 83 = .ok (.iload_n 2, 1) := by decide +kernel
theorem dX1_tint_84 : decode cX1_tint 84 = .ok (.iload_n 3, 1) := by decide +kernel
theorem dX1_tint_85 : decode cX1_tint 85 = .ok (.invokevirtual 75, 3) := by decide +kernel
theorem dX1_tint_88 : decode cX1_tint 88 = .ok (.istore_n 2, 1) := by decide +kernel
theorem dX1_tint_89 : decode cX1_tint 89 = .ok (.iinc 3 1, 3) := by decide +kernel
theorem dX1_tint_92 : decode cX1_tint 92 = .ok (.goto (-42), 3) := by decide +kernel
theorem dX1_tint_95 : decode cX1_tint 95 = .ok (.iinc 1 1, 3) := by decide +kernel
theorem dX1_tint_98 : decode cX1_tint 98 = .ok (.goto (-88), 3) := by decide +kernel
theorem dX1_tint_101 : decode cX1_tint 101 = .ok (.return_, 1) := by decide +kernel
set_option maxHeartbeats 4000000 in
set_option maxRecDepth 100000 in
theorem c_X1_tint (l : Launch) (E : Nat → ClassId) (D : va_G) (G : th_G) (h0 : Nat) (hG0 : G h0 = some (11, 0)) : Met l yX1_tint (tb (.code yX1_tint cX1_tint 4 none)) (rm 5) (va_Pc [.ref h0] (th_P E D G)) (QV E D G) 0 0 (th_A G) := by
  refine Met.ofW (cc := cX1_tint) (maxL := 4) (ret := none) (by decide) rfl ?_
  intro p e s m args below meth c s₁ B hml hv
  obtain ⟨hav, hI, hN, hK⟩ := hv
  have hx := B.exec
  have hb := B.bytes
  have hr := B.returns
  have hts := atoms_spec (ws := tb (.code yX1_tint cX1_tint 4 none)) B.pre
  have hown : s.vm.findClass RX1 = some m.cls := findClass_of_methodNamed B.named
  have hlocks := B.notSynchronized
  have hS : va_S (th_A G) s.heap s.heap [] := va_S.rf
  have hl := lv_entry ([.ref h0]) (n := 4) (Nat.le_of_ble_eq_true rfl)
  rw [show entryFrame m args 4 = entryFrame m ([.ref h0] : List Value).toArray 4 from by rw [hav], lg_entry_eq]
  generalize (lg_sl ([.ref h0]) ++ List.replicate (4 - (lg_sl ([.ref h0])).length) Slot.unset).toArray = ls at hl ⊢
  have hl : lv_has ls 4 [(0, .ref h0)] := hl
  generalize hR : (headSpec (tb (.code yX1_tint cX1_tint 4 none)) (rm 5)).room = R
  have hR := hR.symm
  generalize hQ : MQ below (QV E D G) args s 0 0 (th_A G) = QF
  have hQ := hQ.symm
  have J_10 : ∀ (nn : Nat) (H : Heap) (locs : List Loc) (ls : Array Slot) (v6726 : Int32), (Int.toNat (17 - v6726.toInt) = nn) → lv_has ls 4 [(1, .int v6726), (0, .ref h0)] → ((0 : Int) ≤ v6726.toInt ∧ v6726.toInt ≤ 17) → th_I (okC E) D G [] H → va_S (th_A G) s.heap H locs → W p l e R s m args below meth c H locs 0 0 QF (F0 m 10 ls []) := by
    intro nn
    induction nn using Nat.strongRecOn with
    | ind nn ih_10 =>
      intro H locs ls v6726 hm hl k6727 hI hS
      have J_50 : ∀ (nn : Nat) (H : Heap) (locs : List Loc) (ls : Array Slot) (v6728 : Int32) (v6729 : Int32), (Int.toNat (96 - v6728.toInt) = nn) → lv_has ls 4 [(3, .int v6728), (2, .int v6729), (1, .int v6726), (0, .ref h0)] → ((0 : Int) ≤ v6726.toInt ∧ v6726.toInt ≤ 16) → th_I (okC E) D G [] H → va_S (th_A G) s.heap H locs → W p l e R s m args below meth c H locs 0 0 QF (F0 m 50 ls []) := by
        intro nn
        induction nn using Nat.strongRecOn with
        | ind nn ih_50 =>
          intro H locs ls v6728 v6729 hm hl k6731 hI hS
          refine lv_iload_n hx hb dX1_tint_50 rfl (lv_at hl 0 rfl) ?_
          have k6732 := iv_lo v6728
          have k6733 := iv_hi v6728
          refine lv_if_lt (tgt := 95) hx hb dX1_tint_51 (by decide) (fun c6734 => ?_) (fun c6734 => ?_)
          · skip
            have k6735 := iv_lt (X := v6728.toInt) (Y := (0)) rfl (by decide) c6734
            obtain ⟨v6736, e6737⟩ : ∃ y : Int32, y = v6726 + (1) := ⟨_, rfl⟩
            have tv6736 : v6736.toInt = v6726.toInt + (1) := iv_add rfl (by decide) e6737 (by omega) (by omega)
            refine lv_iinc (v := v6736) (lv' := [(1, .int v6736), (3, .int v6728), (2, .int v6729), (0, .ref h0)]) hx hb dX1_tint_95 hl (k := 2) rfl (by rw [e6737]; rfl) (by decide) rfl (fun ls hl => ?_)
            refine lv_goto (tgt := 10) hx hb dX1_tint_98 (by decide) ?_
            exact ih_10 _ (by omega) H locs ls v6736 rfl (lv_sub hl [0, 3] rfl) ⟨by omega, by omega⟩ hI hS
          · skip
            have k6738 := iv_nlt (X := v6728.toInt) (Y := (0)) rfl (by decide) c6734
            refine lv_iload_n hx hb dX1_tint_54 rfl (lv_at hl 0 rfl) ?_
            refine lv_bipush (v := 96) hx hb dX1_tint_55 (by decide) ?_
            refine lv_icmp_ge (tgt := 95) hx hb dX1_tint_57 (by decide) (fun c6739 => ?_) (fun c6739 => ?_)
            · skip
              have k6740 := iv_le (X := (96)) (Y := v6728.toInt) (by decide) rfl c6739
              obtain ⟨v6741, e6742⟩ : ∃ y : Int32, y = v6726 + (1) := ⟨_, rfl⟩
              have tv6741 : v6741.toInt = v6726.toInt + (1) := iv_add rfl (by decide) e6742 (by omega) (by omega)
              refine lv_iinc (v := v6741) (lv' := [(1, .int v6741), (3, .int v6728), (2, .int v6729), (0, .ref h0)]) hx hb dX1_tint_95 hl (k := 2) rfl (by rw [e6742]; rfl) (by decide) rfl (fun ls hl => ?_)
              refine lv_goto (tgt := 10) hx hb dX1_tint_98 (by decide) ?_
              exact ih_10 _ (by omega) H locs ls v6741 rfl (lv_sub hl [0, 3] rfl) ⟨by omega, by omega⟩ hI hS
            · skip
              have k6743 := iv_nle (X := (96)) (Y := v6728.toInt) (by decide) rfl c6739
              refine lv_iload_n hx hb dX1_tint_60 rfl (lv_at hl 1 rfl) ?_
              refine th_cSN (As := [.int v6729]) (rest := []) (n := 1) (d := 0) ⟨hx, hb, hml, hown, hts⟩ (c_X11_isCell l H v6729) wn_946 wd_402 wd_1 wd_403 (by decide +kernel) ⟨by rw [hR]; exact Nat.le_of_ble_eq_true rfl, by rw [hR]; exact Nat.le_of_ble_eq_true rfl⟩ hN hS rfl hl.1 rfl (Nat.le_of_ble_eq_true rfl) dX1_tint_61 ⟨Nat.zero_le _, Nat.zero_le _⟩ (fun r6744 locs hp hS => ?_)
              rcases hp with ⟨rfl, hp⟩ | ⟨rfl, hp⟩
              · skip
                try simp only [rg, not_and, Int.not_le] at hp
                have hp6745 := hp
                refine lv_if_eq (tgt := 95) hx hb dX1_tint_64 (by decide) (fun c => absurd c (by decide)) (fun _ => ?_)
                refine lv_aload_n hx hb dX1_tint_67 rfl (lv_at hl 3 rfl) ?_
                obtain ⟨a6746, a6748, a6750, a6752, a6754, a6756, a6758, a6760, w6762, w6763, w6764, hO, hq6747, hq6749, hq6751, hq6753, hq6755, hq6757, hq6759, hq6761⟩ := op_11 hI hG0 List.not_mem_nil
                have hI := th_I.weak (a := h0) hI
                refine th_get hx hb hts inT1 hown hK hO rfl 4 (by decide) (hts _ (tb_c wd_240)) rfl rfl dX1_tint_68 ?_
                refine lv_iload_n hx hb dX1_tint_71 rfl (lv_at hl 0 rfl) ?_
                refine lv_dup2_11 hx hb dX1_tint_72 rfl rfl ?_
                obtain ⟨_, hA6765⟩ := op_0 hI hq6755 (th_ne hG0 hq6755 (show (11 : Nat) ≠ 0 by decide))
                refine th_iald hx hb hK hA6765 0 rfl (iv_in (X := v6728.toInt) rfl (by omega) (by omega)) dX1_tint_73 (fun v6766 _ => ?_)
                refine lv_iconst (v := 1) hx hb dX1_tint_74 (by decide) ?_
                refine lv_iload_n hx hb dX1_tint_75 rfl (lv_at hl 1 rfl) ?_
                refine lv_ishl hx hb dX1_tint_76 ?_
                refine lv_topi (fun v6767 e6768 => ?_)
                refine lv_ior hx hb dX1_tint_77 ?_
                refine lv_topi (fun v6769 e6770 => ?_)
                obtain ⟨_, hA6771⟩ := op_0 hI hq6755 (th_ne hG0 hq6755 (show (11 : Nat) ≠ 0 by decide))
                refine th_iast hx hb hK hA6771 0 rfl hS ⟨_, hq6755⟩ (iv_in (X := v6728.toInt) rfl (by omega) (by omega)) dX1_tint_78 (fun H locs hA6771 oq hS => ?_)
                have hI := th_I.put hI hq6755 hA6771 ok_0 oq
                have hO := hO.kept (oq _ (fun z => th_ne hG0 hq6755 (show (11 : Nat) ≠ 0 by decide) (List.mem_singleton.mpr z.symm)))
                refine lv_aload_n hx hb dX1_tint_79 rfl (lv_at hl 3 rfl) ?_
                refine th_get hx hb hts inT1 hown hK hO rfl 1 (by decide) (hts _ (tb_c wd_237)) rfl rfl dX1_tint_80 ?_
                refine lv_iload_n hx hb dX1_tint_83 rfl (lv_at hl 1 rfl) ?_
                refine lv_iload_n hx hb dX1_tint_84 rfl (lv_at hl 0 rfl) ?_
                have hI := th_I.close hI hG0 hO (ok_11 hq6747 hq6749 hq6751 hq6753 hq6755 hq6757 hq6759 hq6761)
                refine th_cVi (As := [.int v6729, .int v6728]) (rest := []) (n := 2) (d := 4) ⟨hx, hb, hml, hown, hts⟩ (c_X7_stepFrom l E D G a6748 hq6749 v6729 v6728) wd_936 wd_531 wd_532 wd_6 wd_533 (by decide +kernel) ⟨by rw [hR]; exact Nat.le_of_ble_eq_true rfl, by rw [hR]; exact Nat.le_of_ble_eq_true rfl⟩ hI hN hK hS (rc_9 hI hq6749 List.not_mem_nil) rfl rfl hl.1 rfl (Nat.le_of_ble_eq_true rfl) dX1_tint_85 ⟨Nat.zero_le _, Nat.zero_le _⟩ (fun r6772 H locs hp hI hS => ?_)
                refine lv_istore_n (lv' := [(2, .int r6772), (3, .int v6728), (1, .int v6726), (0, .ref h0)]) hx hb dX1_tint_88 rfl hl (by decide) rfl (fun ls hl => ?_)
                obtain ⟨v6773, e6774⟩ : ∃ y : Int32, y = v6728 + (1) := ⟨_, rfl⟩
                have tv6773 : v6773.toInt = v6728.toInt + (1) := iv_add rfl (by decide) e6774 (by omega) (by omega)
                refine lv_iinc (v := v6773) (lv' := [(3, .int v6773), (2, .int r6772), (1, .int v6726), (0, .ref h0)]) hx hb dX1_tint_89 hl (k := 1) rfl (by rw [e6774]; rfl) (by decide) rfl (fun ls hl => ?_)
                refine lv_goto (tgt := 50) hx hb dX1_tint_92 (by decide) ?_
                exact ih_50 _ (by omega) H locs ls v6773 r6772 rfl (lv_sub hl [0, 1, 2, 3] rfl) ⟨by omega, by omega⟩ hI hS
              · skip
                try simp only [rg, not_and, Int.not_le] at hp
                have hp6775 := hp
                refine lv_if_eq (tgt := 95) hx hb dX1_tint_64 (by decide) (fun _ => ?_) (fun c => absurd c (by decide))
                obtain ⟨v6776, e6777⟩ : ∃ y : Int32, y = v6726 + (1) := ⟨_, rfl⟩
                have tv6776 : v6776.toInt = v6726.toInt + (1) := iv_add rfl (by decide) e6777 (by omega) (by omega)
                refine lv_iinc (v := v6776) (lv' := [(1, .int v6776), (3, .int v6728), (2, .int v6729), (0, .ref h0)]) hx hb dX1_tint_95 hl (k := 2) rfl (by rw [e6777]; rfl) (by decide) rfl (fun ls hl => ?_)
                refine lv_goto (tgt := 10) hx hb dX1_tint_98 (by decide) ?_
                exact ih_10 _ (by omega) H locs ls v6776 rfl (lv_sub hl [0, 3] rfl) ⟨by omega, by omega⟩ hI hS
      refine lv_iload_n hx hb dX1_tint_10 rfl (lv_at hl 0 rfl) ?_
      refine lv_aload_n hx hb dX1_tint_11 rfl (lv_at hl 1 rfl) ?_
      obtain ⟨a6778, a6780, a6782, a6784, a6786, a6788, a6790, a6792, w6794, w6795, w6796, hO, hq6779, hq6781, hq6783, hq6785, hq6787, hq6789, hq6791, hq6793⟩ := op_11 hI hG0 List.not_mem_nil
      have hI := th_I.weak (a := h0) hI
      refine th_get hx hb hts inT1 hown hK hO rfl 0 (by decide) (hts _ (tb_c wd_236)) rfl rfl dX1_tint_12 ?_
      have hI := th_I.close hI hG0 hO (ok_11 hq6779 hq6781 hq6783 hq6785 hq6787 hq6789 hq6791 hq6793)
      obtain ⟨a6797, a6799, a6801, a6803, a6805, a6807, a6809, a6811, a6813, a6815, w6817, w6820, w6821, w6822, hO, hq6798, hq6800, hq6802, hq6804, hq6806, hq6808, hq6810, hq6812, hq6814, hq6816, ⟨k6818, k6819⟩⟩ := op_6 hI hq6779 List.not_mem_nil
      have hI := th_I.weak (a := a6778) hI
      refine th_getN hx hb hts inT6 hown hK hN hO rfl 5 (by decide) wn_70 rfl rfl dX1_tint_15 ?_
      have hI := th_I.close hI hq6779 hO (ok_6 hq6798 hq6800 hq6802 hq6804 hq6806 hq6808 hq6810 hq6812 hq6814 hq6816 ⟨by omega, by omega⟩)
      obtain ⟨a6824, w6826, hO, hq6825, ⟨k6827, k6828⟩, k6829⟩ := op_4 hI hq6808 List.not_mem_nil
      have hI := th_I.weak (a := a6807) hI
      have k6830 : (nI 16).toInt = ((16 : Nat) : Int) := nI_toInt (by omega)
      refine th_cVs (As := []) (rest := [.int v6726]) (n := 0) (d := 0) ⟨hx, hb, hml, hown, hts⟩ (c_X4_size l E D H a6807 16 a6824 w6826 hO (by omega) (by omega) (by omega)) wd_920 wd_507 wd_508 wd_3 wd_509 (by decide +kernel) ⟨by rw [hR]; exact Nat.le_of_ble_eq_true rfl, by rw [hR]; exact Nat.le_of_ble_eq_true rfl⟩ hN hK hS ⟨_, hO⟩ rfl rfl hl.1 rfl (Nat.le_of_ble_eq_true rfl) dX1_tint_18 ⟨Nat.zero_le _, Nat.zero_le _⟩ (fun r6823 locs hp hS => ?_)
      have hp := hp.symm
      subst hp
      refine lv_icmp_ge (tgt := 101) hx hb dX1_tint_21 (by decide) (fun c6831 => ?_) (fun c6831 => ?_)
      · skip
        have k6832 := iv_le (X := w6826.toInt) (Y := v6726.toInt) rfl rfl c6831
        have hI := th_I.close hI hq6808 hO (ok_4 hq6825 ⟨by omega, by omega⟩ (by omega))
        rw [hQ]
        exact W.vret hx hb hr (fun t ht hW => ⟨⟨(), rfl, trivial, by rw [ht]; exact hI, hN.warm hW, va_K.moved hW.alike hK⟩, hS.F ht⟩) hS.2.2 dX1_tint_101
      · skip
        have k6833 := iv_nle (X := w6826.toInt) (Y := v6726.toInt) rfl rfl c6831
        refine lv_aload_n hx hb dX1_tint_24 rfl (lv_at hl 1 rfl) ?_
        have hI := th_I.close hI hq6808 hO (ok_4 hq6825 ⟨by omega, by omega⟩ (by omega))
        obtain ⟨a6834, a6836, a6838, a6840, a6842, a6844, a6846, a6848, w6850, w6851, w6852, hO, hq6835, hq6837, hq6839, hq6841, hq6843, hq6845, hq6847, hq6849⟩ := op_11 hI hG0 List.not_mem_nil
        have hI := th_I.weak (a := h0) hI
        refine th_get hx hb hts inT1 hown hK hO rfl 0 (by decide) (hts _ (tb_c wd_236)) rfl rfl dX1_tint_25 ?_
        have hI := th_I.close hI hG0 hO (ok_11 hq6835 hq6837 hq6839 hq6841 hq6843 hq6845 hq6847 hq6849)
        obtain ⟨a6853, a6855, a6857, a6859, a6861, a6863, a6865, a6867, a6869, a6871, w6873, w6876, w6877, w6878, hO, hq6854, hq6856, hq6858, hq6860, hq6862, hq6864, hq6866, hq6868, hq6870, hq6872, ⟨k6874, k6875⟩⟩ := op_6 hI hq6835 List.not_mem_nil
        have hI := th_I.weak (a := a6834) hI
        refine th_getN hx hb hts inT6 hown hK hN hO rfl 5 (by decide) wn_70 rfl rfl dX1_tint_28 ?_
        refine lv_iload_n hx hb dX1_tint_31 rfl (lv_at hl 0 rfl) ?_
        refine lv_iconst (v := 0) hx hb dX1_tint_32 (by decide) ?_
        have hI := th_I.close hI hq6835 hO (ok_6 hq6854 hq6856 hq6858 hq6860 hq6862 hq6864 hq6866 hq6868 hq6870 hq6872 ⟨by omega, by omega⟩)
        refine th_cVi (As := [.int v6726, .int 0]) (rest := []) (n := 2) (d := 0) ⟨hx, hb, hml, hown, hts⟩ (c_X4_at l E D G a6863 (16) hq6864 v6726 0) wd_925 wd_519 wd_520 wd_3 wd_521 (by decide +kernel) ⟨by rw [hR]; exact Nat.le_of_ble_eq_true rfl, by rw [hR]; exact Nat.le_of_ble_eq_true rfl⟩ hI hN hK hS (rc_4 hI hq6864 List.not_mem_nil) rfl rfl hl.1 rfl (Nat.le_of_ble_eq_true rfl) dX1_tint_33 ⟨Nat.zero_le _, Nat.zero_le _⟩ (fun r6879 H locs hp hI hS => ?_)
        refine lv_istore_n (lv' := [(2, .int r6879), (1, .int v6726), (0, .ref h0)]) hx hb dX1_tint_36 rfl hl (by decide) rfl (fun ls hl => ?_)
        refine lv_aload_n hx hb dX1_tint_37 rfl (lv_at hl 2 rfl) ?_
        obtain ⟨a6880, a6882, a6884, a6886, a6888, a6890, a6892, a6894, w6896, w6897, w6898, hO, hq6881, hq6883, hq6885, hq6887, hq6889, hq6891, hq6893, hq6895⟩ := op_11 hI hG0 List.not_mem_nil
        have hI := th_I.weak (a := h0) hI
        refine th_get hx hb hts inT1 hown hK hO rfl 0 (by decide) (hts _ (tb_c wd_236)) rfl rfl dX1_tint_38 ?_
        have hI := th_I.close hI hG0 hO (ok_11 hq6881 hq6883 hq6885 hq6887 hq6889 hq6891 hq6893 hq6895)
        obtain ⟨a6899, a6901, a6903, a6905, a6907, a6909, a6911, a6913, a6915, a6917, w6919, w6922, w6923, w6924, hO, hq6900, hq6902, hq6904, hq6906, hq6908, hq6910, hq6912, hq6914, hq6916, hq6918, ⟨k6920, k6921⟩⟩ := op_6 hI hq6881 List.not_mem_nil
        have hI := th_I.weak (a := a6880) hI
        refine th_getN hx hb hts inT6 hown hK hN hO rfl 5 (by decide) wn_70 rfl rfl dX1_tint_41 ?_
        refine lv_iload_n hx hb dX1_tint_44 rfl (lv_at hl 1 rfl) ?_
        refine lv_iconst (v := 1) hx hb dX1_tint_45 (by decide) ?_
        have hI := th_I.close hI hq6881 hO (ok_6 hq6900 hq6902 hq6904 hq6906 hq6908 hq6910 hq6912 hq6914 hq6916 hq6918 ⟨by omega, by omega⟩)
        refine th_cVi (As := [.int v6726, .int 1]) (rest := []) (n := 2) (d := 0) ⟨hx, hb, hml, hown, hts⟩ (c_X4_at l E D G a6909 (16) hq6910 v6726 1) wd_925 wd_519 wd_520 wd_3 wd_521 (by decide +kernel) ⟨by rw [hR]; exact Nat.le_of_ble_eq_true rfl, by rw [hR]; exact Nat.le_of_ble_eq_true rfl⟩ hI hN hK hS (rc_4 hI hq6910 List.not_mem_nil) rfl rfl hl.1 rfl (Nat.le_of_ble_eq_true rfl) dX1_tint_46 ⟨Nat.zero_le _, Nat.zero_le _⟩ (fun r6925 H locs hp hI hS => ?_)
        refine lv_istore_n (lv' := [(3, .int r6925), (2, .int r6879), (1, .int v6726), (0, .ref h0)]) hx hb dX1_tint_49 rfl hl (by decide) rfl (fun ls hl => ?_)
        exact J_50 _ H locs ls r6925 r6879 rfl (lv_sub hl [0, 1, 2, 3] rfl) ⟨by omega, by omega⟩ hI hS
  refine lv_aload_n hx hb dX1_tint_0 rfl (lv_at hl 0 rfl) ?_
  obtain ⟨a6926, a6928, a6930, a6932, a6934, a6936, a6938, a6940, w6942, w6943, w6944, hO, hq6927, hq6929, hq6931, hq6933, hq6935, hq6937, hq6939, hq6941⟩ := op_11 hI hG0 List.not_mem_nil
  have hI := th_I.weak (a := h0) hI
  refine th_get hx hb hts inT1 hown hK hO rfl 4 (by decide) (hts _ (tb_c wd_240)) rfl rfl dX1_tint_1 ?_
  refine lv_iconst (v := 0) hx hb dX1_tint_4 (by decide) ?_
  have hI := th_I.close hI hG0 hO (ok_11 hq6927 hq6929 hq6931 hq6933 hq6935 hq6937 hq6939 hq6941)
  refine th_cSv (As := [.ref a6934, .int 0]) (rest := []) (n := 2) (d := 0) ⟨hx, hb, hml, hown, hts⟩ (c_J7_fill_53178 l E D G a6934 (97) hq6935 (by omega) 0) wd_945 wd_541 wd_15 wd_542 (by decide +kernel) ⟨by rw [hR]; exact Nat.le_of_ble_eq_true rfl, by rw [hR]; exact Nat.le_of_ble_eq_true rfl⟩ hI hN hK hS rfl hl.1 rfl (Nat.le_of_ble_eq_true rfl) dX1_tint_5 ⟨Nat.zero_le _, Nat.zero_le _⟩ (fun H locs hI hS => ?_)
  refine lv_iconst (v := 0) hx hb dX1_tint_8 (by decide) ?_
  refine lv_istore_n (lv' := [(1, .int 0), (0, .ref h0)]) hx hb dX1_tint_9 rfl hl (by decide) rfl (fun ls hl => ?_)
  have zl : (0 : Int32).toInt = 0 := by decide
  exact J_10 _ H locs ls 0 rfl (lv_sub hl [0, 1] rfl) ⟨by decide, by decide⟩ hI hS
theorem dX1_findBegins_0 : decode cX1_findBegins 0 = .ok (.aload_n 0, 1) := by decide +kernel
theorem dX1_findBegins_1 : decode cX1_findBegins 1 = .ok (.getfield 38, 3) := by decide +kernel
theorem dX1_findBegins_4 : decode cX1_findBegins 4 = .ok (.getfield 93, 3) := by decide +kernel
theorem dX1_findBegins_7 : decode cX1_findBegins 7 = .ok (.iload_n 1, 1) := by decide +kernel
theorem dX1_findBegins_8 : decode cX1_findBegins 8 = .ok (.iconst 0, 1) := by decide +kernel
theorem dX1_findBegins_9 : decode cX1_findBegins 9 = .ok (.invokevirtual 66, 3) := by decide +kernel
theorem dX1_findBegins_12 : decode cX1_findBegins 12 = .ok (.istore_n 2, 1) := by decide +kernel
theorem dX1_findBegins_13 : decode cX1_findBegins 13 = .ok (.aload_n 0, 1) := by decide +kernel
theorem dX1_findBegins_14 : decode cX1_findBegins 14 = .ok (.getfield 38, 3) := by decide +kernel
theorem dX1_findBegins_17 : decode cX1_findBegins 17 = .ok (.getfield 93, 3) := by decide +kernel
theorem dX1_findBegins_20 : decode cX1_findBegins 20 = .ok (.iload_n 1, 1) := by decide +kernel
theorem dX1_findBegins_21 : decode cX1_findBegins 21 = .ok (.iconst 1, 1) := by decide +kernel
theorem dX1_findBegins_22 : decode cX1_findBegins 22 = .ok (.invokevirtual 66, 3) := by decide +kernel
theorem dX1_findBegins_25 : decode cX1_findBegins 25 = .ok (.istore_n 3, 1) := by decide +kernel
theorem dX1_findBegins_26 : decode cX1_findBegins 26 = .ok (.iload_n 1, 1) := by decide +kernel
theorem dX1_findBegins_27 : decode cX1_findBegins 27 = .ok (.bipush 97, 2) := by decide +kernel
theorem dX1_findBegins_29 : decode cX1_findBegins 29 = .ok (.imul, 1) := by decide +kernel
theorem dX1_findBegins_30 : decode cX1_findBegins 30 = .ok (.istore 4, 2) := by decide +kernel
theorem dX1_findBegins_32 : decode cX1_findBegins 32 = .ok (.iconst 0, 1) := by decide +kernel
theorem dX1_findBegins_33 : decode cX1_findBegins 33 = .ok (.istore 5, 2) := by decide +kernel
theorem dX1_findBegins_35 : decode cX1_findBegins 35 = .ok (.iconst (-1), 1) := by decide +kernel
theorem dX1_findBegins_36 : decode cX1_findBegins 36 = .ok (.istore 6, 2) := by decide +kernel
theorem dX1_findBegins_38 : decode cX1_findBegins 38 = .ok (.aload_n 0, 1) := by decide +kernel
theorem dX1_findBegins_39 : decode cX1_findBegins 39 = .ok (.getfield 18, 3) := by decide +kernel
theorem dX1_findBegins_42 : decode cX1_findBegins 42 = .ok (.iload 4, 2) := by decide +kernel
theorem dX1_findBegins_44 : decode cX1_findBegins 44 = .ok (.bipush 96, 2) := by decide +kernel
theorem dX1_findBegins_46 : decode cX1_findBegins 46 = .ok (.iadd, 1) := by decide +kernel
theorem dX1_findBegins_47 : decode cX1_findBegins 47 = .ok (.iconst (-1), 1) := by decide +kernel
theorem dX1_findBegins_48 : decode cX1_findBegins 48 = .ok (.iastore, 1) := by decide +kernel
theorem dX1_findBegins_49 : decode cX1_findBegins 49 = .ok (.bipush 95, 2) := by decide +kernel
theorem dX1_findBegins_51 : decode cX1_findBegins 51 = .ok (.istore 7, 2) := by decide +kernel
theorem dX1_findBegins_53 : decode cX1_findBegins 53 = .ok (.iload 7, 2) := by decide +kernel
theorem dX1_findBegins_55 : decode cX1_findBegins 55 = .ok (.ifCond .lt 72, 3) := by decide +kernel
theorem dX1_findBegins_58 : decode cX1_findBegins 58 = .ok (.aload_n 0, 1) := by decide +kernel
theorem dX1_findBegins_59 : decode cX1_findBegins 59 = .ok (.getfield 15, 3) := by decide +kernel
theorem dX1_findBegins_62 : decode cX1_findBegins 62 = .ok (.iload 7, 2) := by decide +kernel
theorem dX1_findBegins_64 : decode cX1_findBegins 64 = .ok (.iaload, 1) := by decide +kernel
theorem dX1_findBegins_65 : decode cX1_findBegins 65 = .ok (.iload_n 2, 1) := by decide +kernel
theorem dX1_findBegins_66 : decode cX1_findBegins 66 = .ok (.ishr, 1) := by decide +kernel
theorem dX1_findBegins_67 : decode cX1_findBegins 67 = .ok (.iconst 1, 1) := by decide +kernel
theorem dX1_findBegins_68 : decode cX1_findBegins 68 = .ok (.iand, 1) := by decide +kernel
theorem dX1_findBegins_69 : decode cX1_findBegins 69 = .ok (.ifCond .ne 10, 3) := by decide +kernel
theorem dX1_findBegins_72 : decode cX1_findBegins 72 = .ok (.iload 5, 2) := by decide +kernel
theorem dX1_findBegins_74 : decode cX1_findBegins 74 = .ok (.iconst 1, 1) := by decide +kernel
theorem dX1_findBegins_75 : decode cX1_findBegins 75 = .ok (.iadd, 1) := by decide +kernel
theorem dX1_findBegins_76 : decode cX1_findBegins 76 = .ok (.goto 4, 3) := by decide +kernel
theorem dX1_findBegins_79 : decode cX1_findBegins 79 = .ok (.iconst 0, 1) := by decide +kernel
theorem dX1_findBegins_80 : decode cX1_findBegins 80 = .ok (.istore 5, 2) := by decide +kernel
theorem dX1_findBegins_82 : decode cX1_findBegins 82 = .ok (.iload 5, 2) := by decide +kernel
theorem dX1_findBegins_84 : decode cX1_findBegins 84 = .ok (.iload_n 3, 1) := by decide +kernel
theorem dX1_findBegins_85 : decode cX1_findBegins 85 = .ok (.if_icmp .lt 24, 3) := by decide +kernel
theorem dX1_findBegins_88 : decode cX1_findBegins 88 = .ok (.iload 7, 2) := by decide +kernel
theorem dX1_findBegins_90 : decode cX1_findBegins 90 = .ok (.aload_n 0, 1) := by decide +kernel
theorem dX1_findBegins_91 : decode cX1_findBegins 91 = .ok (.getfield 38, 3) := by decide +kernel
theorem dX1_findBegins_94 : decode cX1_findBegins 94 = .ok (.getfield 93, 3) := by decide +kernel
theorem dX1_findBegins_97 : decode cX1_findBegins 97 = .ok (.iload_n 1, 1) := by decide +kernel
theorem dX1_findBegins_98 : decode cX1_findBegins 98 = .ok (.iconst 2, 1) := by decide +kernel
theorem dX1_findBegins_99 : decode cX1_findBegins 99 = .ok (.invokevirtual 66, 3) := by decide +kernel
theorem dX1_findBegins_102 : decode cX1_findBegins 102 = .ok (.if_icmp .lt 7, 3) := by decide +kernel
theorem dX1_findBegins_105 : decode cX1_findBegins 105 = .ok (.iload 7, 2) := by decide +kernel
theorem dX1_findBegins_107 : decode cX1_findBegins 107 = .ok (.istore 6, 2) := by decide +kernel
theorem dX1_findBegins_109 : decode cX1_findBegins 109 = .ok (.aload_n 0, 1) := by decide +kernel
theorem dX1_findBegins_110 : decode cX1_findBegins 110 = .ok (.getfield 18, 3) := by decide +kernel
theorem dX1_findBegins_113 : decode cX1_findBegins 113 = .ok (.iload 4, 2) := by decide +kernel
theorem dX1_findBegins_115 : decode cX1_findBegins 115 = .ok (.iload 7, 2) := by decide +kernel
theorem dX1_findBegins_117 : decode cX1_findBegins 117 = .ok (.iadd, 1) := by decide +kernel
theorem dX1_findBegins_118 : decode cX1_findBegins 118 = .ok (.iload 6, 2) := by decide +kernel
theorem dX1_findBegins_120 : decode cX1_findBegins 120 = .ok (.iastore, 1) := by decide +kernel
theorem dX1_findBegins_121 : decode cX1_findBegins 121 = .ok (.iinc 7 (-1), 3) := by decide +kernel
theorem dX1_findBegins_124 : decode cX1_findBegins 124 = .ok (.goto (-71), 3) := by decide +kernel
theorem dX1_findBegins_127 : decode cX1_findBegins 127 = .ok (.return_, 1) := by decide +kernel
set_option maxHeartbeats 4000000 in
set_option maxRecDepth 100000 in
theorem c_X1_findBegins (l : Launch) (E : Nat → ClassId) (D : va_G) (G : th_G) (h0 : Nat) (hG0 : G h0 = some (11, 0)) (x1 : Int32) (hx1 : (0 : Int) ≤ x1.toInt ∧ x1.toInt ≤ 5) : Met l yX1_findBegins (tb (.code yX1_findBegins cX1_findBegins 8 none)) (rm 1) (va_Pc [.ref h0, .int x1] (th_P E D G)) (QV E D G) 0 0 (th_A G) := by
  refine Met.ofW (cc := cX1_findBegins) (maxL := 8) (ret := none) (by decide) rfl ?_
  intro p e s m args below meth c s₁ B hml hv
  obtain ⟨hav, hI, hN, hK⟩ := hv
  have hx := B.exec
  have hb := B.bytes
  have hr := B.returns
  have hts := atoms_spec (ws := tb (.code yX1_findBegins cX1_findBegins 8 none)) B.pre
  have hown : s.vm.findClass RX1 = some m.cls := findClass_of_methodNamed B.named
  have hlocks := B.notSynchronized
  have hS : va_S (th_A G) s.heap s.heap [] := va_S.rf
  have hl := lv_entry ([.ref h0, .int x1]) (n := 8) (Nat.le_of_ble_eq_true rfl)
  rw [show entryFrame m args 8 = entryFrame m ([.ref h0, .int x1] : List Value).toArray 8 from by rw [hav], lg_entry_eq]
  generalize (lg_sl ([.ref h0, .int x1]) ++ List.replicate (8 - (lg_sl ([.ref h0, .int x1])).length) Slot.unset).toArray = ls at hl ⊢
  have hl : lv_has ls 8 [(0, .ref h0), (1, .int x1)] := hl
  generalize hR : (headSpec (tb (.code yX1_findBegins cX1_findBegins 8 none)) (rm 1)).room = R
  have hR := hR.symm
  generalize hQ : MQ below (QV E D G) args s 0 0 (th_A G) = QF
  have hQ := hQ.symm
  have J_53 : ∀ (nn : Nat) (H : Heap) (locs : List Loc) (ls : Array Slot) (v21318 : Int32) (v21319 : Int32) (v21320 : Int32) (v21321 : Int32) (v21322 : Int32) (v21323 : Int32), (Int.toNat (v21318.toInt - (-1)) = nn) → lv_has ls 8 [(7, .int v21318), (6, .int v21319), (5, .int v21320), (4, .int v21321), (3, .int v21322), (2, .int v21323), (0, .ref h0), (1, .int x1)] → ((-1 : Int) ≤ v21318.toInt ∧ v21318.toInt ≤ 95) → ((-1 : Int) ≤ v21319.toInt ∧ v21319.toInt ≤ 95) → ((0 : Int) ≤ v21321.toInt ∧ v21321.toInt ≤ 485) → ((0 : Int) ≤ x1.toInt ∧ x1.toInt ≤ 5) → th_I (okC E) D G [] H → va_S (th_A G) s.heap H locs → W p l e R s m args below meth c H locs 0 0 QF (F0 m 53 ls []) := by
    intro nn
    induction nn using Nat.strongRecOn with
    | ind nn ih_53 =>
      intro H locs ls v21318 v21319 v21320 v21321 v21322 v21323 hm hl k21324 k21325 k21326 k21327 hI hS
      have J_109 : ∀ (H : Heap) (locs : List Loc) (ls : Array Slot) (v21328 : Int32) (v21330 : Int32), lv_has ls 8 [(5, .int v21328), (7, .int v21318), (6, .int v21330), (4, .int v21321), (3, .int v21322), (2, .int v21323), (0, .ref h0), (1, .int x1)] → ((0 : Int) ≤ v21318.toInt ∧ v21318.toInt ≤ 95) → ((-1 : Int) ≤ v21330.toInt ∧ v21330.toInt ≤ 95) → th_I (okC E) D G [] H → va_S (th_A G) s.heap H locs → W p l e R s m args below meth c H locs 0 0 QF (F0 m 109 ls []) := by
        intro H locs ls v21328 v21330 hl k21334 k21335 hI hS
        refine lv_aload_n hx hb dX1_findBegins_109 rfl (lv_at hl 6 rfl) ?_
        obtain ⟨a21336, a21338, a21340, a21342, a21344, a21346, a21348, a21350, w21352, w21353, w21354, hO, hq21337, hq21339, hq21341, hq21343, hq21345, hq21347, hq21349, hq21351⟩ := op_11 hI hG0 List.not_mem_nil
        have hI := th_I.weak (a := h0) hI
        refine th_get hx hb hts inT1 hown hK hO rfl 5 (by decide) (hts _ (tb_c wd_241)) rfl rfl dX1_findBegins_110 ?_
        refine lv_iload hx hb dX1_findBegins_113 (lv_at hl 3 rfl) ?_
        refine lv_iload hx hb dX1_findBegins_115 (lv_at hl 1 rfl) ?_
        refine lv_iadd hx hb dX1_findBegins_117 ?_
        refine lv_topi (fun v21355 e21356 => ?_)
        have tv21355 : v21355.toInt = v21321.toInt + v21318.toInt := iv_add rfl rfl e21356 (by omega) (by omega)
        refine lv_iload hx hb dX1_findBegins_118 (lv_at hl 2 rfl) ?_
        obtain ⟨_, hA21357⟩ := op_0 hI hq21347 (th_ne hG0 hq21347 (show (11 : Nat) ≠ 0 by decide))
        refine th_iast hx hb hK hA21357 0 rfl hS ⟨_, hq21347⟩ (iv_in (X := v21355.toInt) rfl (by omega) (by omega)) dX1_findBegins_120 (fun H locs hA21357 oq hS => ?_)
        have hI := th_I.put hI hq21347 hA21357 ok_0 oq
        have hO := hO.kept (oq _ (fun z => th_ne hG0 hq21347 (show (11 : Nat) ≠ 0 by decide) (List.mem_singleton.mpr z.symm)))
        obtain ⟨v21358, e21359⟩ : ∃ y : Int32, y = v21318 + (-1) := ⟨_, rfl⟩
        have tv21358 : v21358.toInt = v21318.toInt + (-1) := iv_add rfl (by decide) e21359 (by omega) (by omega)
        refine lv_iinc (v := v21358) (lv' := [(7, .int v21358), (5, .int v21328), (6, .int v21330), (4, .int v21321), (3, .int v21322), (2, .int v21323), (0, .ref h0), (1, .int x1)]) hx hb dX1_findBegins_121 hl (k := 1) rfl (by rw [e21359]; rfl) (by decide) rfl (fun ls hl => ?_)
        refine lv_goto (tgt := 53) hx hb dX1_findBegins_124 (by decide) ?_
        have hI := th_I.close hI hG0 hO (ok_11 hq21337 hq21339 hq21341 hq21343 hq21345 hq21347 hq21349 hq21351)
        exact ih_53 _ (by omega) H locs ls v21358 v21330 v21328 v21321 v21322 v21323 rfl (lv_sub hl [0, 2, 1, 3, 4, 5, 6, 7] rfl) ⟨by omega, by omega⟩ ⟨by omega, by omega⟩ ⟨by omega, by omega⟩ ⟨by omega, by omega⟩ hI hS
      have J_80 : ∀ (H : Heap) (locs : List Loc) (ls : Array Slot) (v21366 : Int32), lv_has ls 8 [(7, .int v21318), (6, .int v21319), (5, .int v21320), (4, .int v21321), (3, .int v21322), (2, .int v21323), (0, .ref h0), (1, .int x1)] → ((0 : Int) ≤ v21318.toInt ∧ v21318.toInt ≤ 95) → th_I (okC E) D G [] H → va_S (th_A G) s.heap H locs → W p l e R s m args below meth c H locs 0 0 QF (F0 m 80 ls [.int v21366]) := by
        intro H locs ls v21366 hl k21367 hI hS
        refine lv_istore (lv' := [(5, .int v21366), (7, .int v21318), (6, .int v21319), (4, .int v21321), (3, .int v21322), (2, .int v21323), (0, .ref h0), (1, .int x1)]) hx hb dX1_findBegins_80 hl (by decide) rfl (fun ls hl => ?_)
        refine lv_iload hx hb dX1_findBegins_82 (lv_at hl 0 rfl) ?_
        refine lv_iload_n hx hb dX1_findBegins_84 rfl (lv_at hl 4 rfl) ?_
        have k21368 := iv_lo v21366
        have k21369 := iv_hi v21366
        have k21370 := iv_lo v21322
        have k21371 := iv_hi v21322
        refine lv_icmp_lt (tgt := 109) hx hb dX1_findBegins_85 (by decide) (fun c21372 => ?_) (fun c21372 => ?_)
        · skip
          have k21373 := iv_lt (X := v21366.toInt) (Y := v21322.toInt) rfl rfl c21372
          exact J_109 H locs ls v21366 v21319 (lv_sub hl [0, 1, 2, 3, 4, 5, 6, 7] rfl) ⟨by omega, by omega⟩ ⟨by omega, by omega⟩ hI hS
        · skip
          have k21374 := iv_nlt (X := v21366.toInt) (Y := v21322.toInt) rfl rfl c21372
          refine lv_iload hx hb dX1_findBegins_88 (lv_at hl 1 rfl) ?_
          refine lv_aload_n hx hb dX1_findBegins_90 rfl (lv_at hl 6 rfl) ?_
          obtain ⟨a21375, a21377, a21379, a21381, a21383, a21385, a21387, a21389, w21391, w21392, w21393, hO, hq21376, hq21378, hq21380, hq21382, hq21384, hq21386, hq21388, hq21390⟩ := op_11 hI hG0 List.not_mem_nil
          have hI := th_I.weak (a := h0) hI
          refine th_get hx hb hts inT1 hown hK hO rfl 0 (by decide) (hts _ (tb_c wd_236)) rfl rfl dX1_findBegins_91 ?_
          have hI := th_I.close hI hG0 hO (ok_11 hq21376 hq21378 hq21380 hq21382 hq21384 hq21386 hq21388 hq21390)
          obtain ⟨a21394, a21396, a21398, a21400, a21402, a21404, a21406, a21408, a21410, a21412, w21414, w21417, w21418, w21419, hO, hq21395, hq21397, hq21399, hq21401, hq21403, hq21405, hq21407, hq21409, hq21411, hq21413, ⟨k21415, k21416⟩⟩ := op_6 hI hq21376 List.not_mem_nil
          have hI := th_I.weak (a := a21375) hI
          refine th_getN hx hb hts inT6 hown hK hN hO rfl 7 (by decide) wn_76 rfl rfl dX1_findBegins_94 ?_
          refine lv_iload_n hx hb dX1_findBegins_97 rfl (lv_at hl 7 rfl) ?_
          refine lv_iconst (v := 2) hx hb dX1_findBegins_98 (by decide) ?_
          have hI := th_I.close hI hq21376 hO (ok_6 hq21395 hq21397 hq21399 hq21401 hq21403 hq21405 hq21407 hq21409 hq21411 hq21413 ⟨by omega, by omega⟩)
          refine th_cVi (As := [.int x1, .int 2]) (rest := [.int v21318]) (n := 2) (d := 0) ⟨hx, hb, hml, hown, hts⟩ (c_X4_at l E D G a21408 (6) hq21409 x1 2) wd_925 wd_519 wd_520 wd_3 wd_521 (by decide +kernel) ⟨by rw [hR]; exact Nat.le_of_ble_eq_true rfl, by rw [hR]; exact Nat.le_of_ble_eq_true rfl⟩ hI hN hK hS (rc_4 hI hq21409 List.not_mem_nil) rfl rfl hl.1 rfl (Nat.le_of_ble_eq_true rfl) dX1_findBegins_99 ⟨Nat.zero_le _, Nat.zero_le _⟩ (fun r21420 H locs hp hI hS => ?_)
          have k21421 := iv_lo r21420
          have k21422 := iv_hi r21420
          refine lv_icmp_lt (tgt := 109) hx hb dX1_findBegins_102 (by decide) (fun c21423 => ?_) (fun c21423 => ?_)
          · skip
            have k21424 := iv_lt (X := v21318.toInt) (Y := r21420.toInt) rfl rfl c21423
            exact J_109 H locs ls v21366 v21319 (lv_sub hl [0, 1, 2, 3, 4, 5, 6, 7] rfl) ⟨by omega, by omega⟩ ⟨by omega, by omega⟩ hI hS
          · skip
            have k21425 := iv_nlt (X := v21318.toInt) (Y := r21420.toInt) rfl rfl c21423
            refine lv_iload hx hb dX1_findBegins_105 (lv_at hl 1 rfl) ?_
            refine lv_istore (lv' := [(6, .int v21318), (5, .int v21366), (7, .int v21318), (4, .int v21321), (3, .int v21322), (2, .int v21323), (0, .ref h0), (1, .int x1)]) hx hb dX1_findBegins_107 hl (by decide) rfl (fun ls hl => ?_)
            exact J_109 H locs ls v21366 v21318 (lv_sub hl [1, 2, 0, 3, 4, 5, 6, 7] rfl) ⟨by omega, by omega⟩ ⟨by omega, by omega⟩ hI hS
      refine lv_iload hx hb dX1_findBegins_53 (lv_at hl 0 rfl) ?_
      refine lv_if_lt (tgt := 127) hx hb dX1_findBegins_55 (by decide) (fun c21426 => ?_) (fun c21426 => ?_)
      · skip
        have k21427 := iv_lt (X := v21318.toInt) (Y := (0)) rfl (by decide) c21426
        rw [hQ]
        exact W.vret hx hb hr (fun t ht hW => ⟨⟨(), rfl, trivial, by rw [ht]; exact hI, hN.warm hW, va_K.moved hW.alike hK⟩, hS.F ht⟩) hS.2.2 dX1_findBegins_127
      · skip
        have k21428 := iv_nlt (X := v21318.toInt) (Y := (0)) rfl (by decide) c21426
        refine lv_aload_n hx hb dX1_findBegins_58 rfl (lv_at hl 6 rfl) ?_
        obtain ⟨a21429, a21431, a21433, a21435, a21437, a21439, a21441, a21443, w21445, w21446, w21447, hO, hq21430, hq21432, hq21434, hq21436, hq21438, hq21440, hq21442, hq21444⟩ := op_11 hI hG0 List.not_mem_nil
        have hI := th_I.weak (a := h0) hI
        refine th_get hx hb hts inT1 hown hK hO rfl 4 (by decide) (hts _ (tb_c wd_240)) rfl rfl dX1_findBegins_59 ?_
        refine lv_iload hx hb dX1_findBegins_62 (lv_at hl 0 rfl) ?_
        obtain ⟨_, hA21448⟩ := op_0 hI hq21438 (th_ne hG0 hq21438 (show (11 : Nat) ≠ 0 by decide))
        refine th_iald hx hb hK hA21448 0 rfl (iv_in (X := v21318.toInt) rfl (by omega) (by omega)) dX1_findBegins_64 (fun v21449 _ => ?_)
        refine lv_iload_n hx hb dX1_findBegins_65 rfl (lv_at hl 5 rfl) ?_
        refine lv_ishr hx hb dX1_findBegins_66 ?_
        refine lv_topi (fun v21450 e21451 => ?_)
        refine lv_iconst (v := 1) hx hb dX1_findBegins_67 (by decide) ?_
        refine lv_iand hx hb dX1_findBegins_68 ?_
        refine lv_topi (fun v21452 e21453 => ?_)
        have tv21452 := iv_andr (m := 1) (M := 1) e21453 (by decide) (by decide)
        refine lv_if_ne (tgt := 79) hx hb dX1_findBegins_69 (by decide) (fun c21454 => ?_) (fun c21454 => ?_)
        · skip
          have k21455 := iv_ne (X := v21452.toInt) (Y := (0)) rfl (by decide) c21454
          refine lv_iconst (v := 0) hx hb dX1_findBegins_79 (by decide) ?_
          have hI := th_I.close hI hG0 hO (ok_11 hq21430 hq21432 hq21434 hq21436 hq21438 hq21440 hq21442 hq21444)
          exact J_80 H locs ls 0 (lv_sub hl [0, 1, 2, 3, 4, 5, 6, 7] rfl) ⟨by omega, by omega⟩ hI hS
        · skip
          have k21456 := iv_eq (X := v21452.toInt) (Y := (0)) rfl (by decide) c21454
          refine lv_iload hx hb dX1_findBegins_72 (lv_at hl 2 rfl) ?_
          refine lv_iconst (v := 1) hx hb dX1_findBegins_74 (by decide) ?_
          refine lv_iadd hx hb dX1_findBegins_75 ?_
          refine lv_topi (fun v21457 e21458 => ?_)
          try have tv21457 : v21457.toInt = v21320.toInt + (1) := iv_add rfl (by decide) e21458 (by omega) (by omega)
          refine lv_goto (tgt := 80) hx hb dX1_findBegins_76 (by decide) ?_
          have hI := th_I.close hI hG0 hO (ok_11 hq21430 hq21432 hq21434 hq21436 hq21438 hq21440 hq21442 hq21444)
          exact J_80 H locs ls v21457 (lv_sub hl [0, 1, 2, 3, 4, 5, 6, 7] rfl) ⟨by omega, by omega⟩ hI hS
  refine lv_aload_n hx hb dX1_findBegins_0 rfl (lv_at hl 0 rfl) ?_
  obtain ⟨a21459, a21461, a21463, a21465, a21467, a21469, a21471, a21473, w21475, w21476, w21477, hO, hq21460, hq21462, hq21464, hq21466, hq21468, hq21470, hq21472, hq21474⟩ := op_11 hI hG0 List.not_mem_nil
  have hI := th_I.weak (a := h0) hI
  refine th_get hx hb hts inT1 hown hK hO rfl 0 (by decide) (hts _ (tb_c wd_236)) rfl rfl dX1_findBegins_1 ?_
  have hI := th_I.close hI hG0 hO (ok_11 hq21460 hq21462 hq21464 hq21466 hq21468 hq21470 hq21472 hq21474)
  obtain ⟨a21478, a21480, a21482, a21484, a21486, a21488, a21490, a21492, a21494, a21496, w21498, w21501, w21502, w21503, hO, hq21479, hq21481, hq21483, hq21485, hq21487, hq21489, hq21491, hq21493, hq21495, hq21497, ⟨k21499, k21500⟩⟩ := op_6 hI hq21460 List.not_mem_nil
  have hI := th_I.weak (a := a21459) hI
  refine th_getN hx hb hts inT6 hown hK hN hO rfl 7 (by decide) wn_76 rfl rfl dX1_findBegins_4 ?_
  refine lv_iload_n hx hb dX1_findBegins_7 rfl (lv_at hl 1 rfl) ?_
  refine lv_iconst (v := 0) hx hb dX1_findBegins_8 (by decide) ?_
  have hI := th_I.close hI hq21460 hO (ok_6 hq21479 hq21481 hq21483 hq21485 hq21487 hq21489 hq21491 hq21493 hq21495 hq21497 ⟨by omega, by omega⟩)
  refine th_cVi (As := [.int x1, .int 0]) (rest := []) (n := 2) (d := 0) ⟨hx, hb, hml, hown, hts⟩ (c_X4_at l E D G a21492 (6) hq21493 x1 0) wd_925 wd_519 wd_520 wd_3 wd_521 (by decide +kernel) ⟨by rw [hR]; exact Nat.le_of_ble_eq_true rfl, by rw [hR]; exact Nat.le_of_ble_eq_true rfl⟩ hI hN hK hS (rc_4 hI hq21493 List.not_mem_nil) rfl rfl hl.1 rfl (Nat.le_of_ble_eq_true rfl) dX1_findBegins_9 ⟨Nat.zero_le _, Nat.zero_le _⟩ (fun r21504 H locs hp hI hS => ?_)
  refine lv_istore_n (lv' := [(2, .int r21504), (0, .ref h0), (1, .int x1)]) hx hb dX1_findBegins_12 rfl hl (by decide) rfl (fun ls hl => ?_)
  refine lv_aload_n hx hb dX1_findBegins_13 rfl (lv_at hl 1 rfl) ?_
  obtain ⟨a21505, a21507, a21509, a21511, a21513, a21515, a21517, a21519, w21521, w21522, w21523, hO, hq21506, hq21508, hq21510, hq21512, hq21514, hq21516, hq21518, hq21520⟩ := op_11 hI hG0 List.not_mem_nil
  have hI := th_I.weak (a := h0) hI
  refine th_get hx hb hts inT1 hown hK hO rfl 0 (by decide) (hts _ (tb_c wd_236)) rfl rfl dX1_findBegins_14 ?_
  have hI := th_I.close hI hG0 hO (ok_11 hq21506 hq21508 hq21510 hq21512 hq21514 hq21516 hq21518 hq21520)
  obtain ⟨a21524, a21526, a21528, a21530, a21532, a21534, a21536, a21538, a21540, a21542, w21544, w21547, w21548, w21549, hO, hq21525, hq21527, hq21529, hq21531, hq21533, hq21535, hq21537, hq21539, hq21541, hq21543, ⟨k21545, k21546⟩⟩ := op_6 hI hq21506 List.not_mem_nil
  have hI := th_I.weak (a := a21505) hI
  refine th_getN hx hb hts inT6 hown hK hN hO rfl 7 (by decide) wn_76 rfl rfl dX1_findBegins_17 ?_
  refine lv_iload_n hx hb dX1_findBegins_20 rfl (lv_at hl 2 rfl) ?_
  refine lv_iconst (v := 1) hx hb dX1_findBegins_21 (by decide) ?_
  have hI := th_I.close hI hq21506 hO (ok_6 hq21525 hq21527 hq21529 hq21531 hq21533 hq21535 hq21537 hq21539 hq21541 hq21543 ⟨by omega, by omega⟩)
  refine th_cVi (As := [.int x1, .int 1]) (rest := []) (n := 2) (d := 0) ⟨hx, hb, hml, hown, hts⟩ (c_X4_at l E D G a21538 (6) hq21539 x1 1) wd_925 wd_519 wd_520 wd_3 wd_521 (by decide +kernel) ⟨by rw [hR]; exact Nat.le_of_ble_eq_true rfl, by rw [hR]; exact Nat.le_of_ble_eq_true rfl⟩ hI hN hK hS (rc_4 hI hq21539 List.not_mem_nil) rfl rfl hl.1 rfl (Nat.le_of_ble_eq_true rfl) dX1_findBegins_22 ⟨Nat.zero_le _, Nat.zero_le _⟩ (fun r21550 H locs hp hI hS => ?_)
  refine lv_istore_n (lv' := [(3, .int r21550), (2, .int r21504), (0, .ref h0), (1, .int x1)]) hx hb dX1_findBegins_25 rfl hl (by decide) rfl (fun ls hl => ?_)
  refine lv_iload_n hx hb dX1_findBegins_26 rfl (lv_at hl 3 rfl) ?_
  refine lv_bipush (v := 97) hx hb dX1_findBegins_27 (by decide) ?_
  refine lv_imul hx hb dX1_findBegins_29 ?_
  refine lv_topi (fun v21551 e21552 => ?_)
  have tv21551 : v21551.toInt = x1.toInt * (97) := iv_mul rfl (by decide) e21552 (by omega) (by omega)
  refine lv_istore (lv' := [(4, .int v21551), (3, .int r21550), (2, .int r21504), (0, .ref h0), (1, .int x1)]) hx hb dX1_findBegins_30 hl (by decide) rfl (fun ls hl => ?_)
  refine lv_iconst (v := 0) hx hb dX1_findBegins_32 (by decide) ?_
  refine lv_istore (lv' := [(5, .int 0), (4, .int v21551), (3, .int r21550), (2, .int r21504), (0, .ref h0), (1, .int x1)]) hx hb dX1_findBegins_33 hl (by decide) rfl (fun ls hl => ?_)
  refine lv_iconst (v := (-1)) hx hb dX1_findBegins_35 (by decide) ?_
  refine lv_istore (lv' := [(6, .int (-1)), (5, .int 0), (4, .int v21551), (3, .int r21550), (2, .int r21504), (0, .ref h0), (1, .int x1)]) hx hb dX1_findBegins_36 hl (by decide) rfl (fun ls hl => ?_)
  refine lv_aload_n hx hb dX1_findBegins_38 rfl (lv_at hl 5 rfl) ?_
  obtain ⟨a21553, a21555, a21557, a21559, a21561, a21563, a21565, a21567, w21569, w21570, w21571, hO, hq21554, hq21556, hq21558, hq21560, hq21562, hq21564, hq21566, hq21568⟩ := op_11 hI hG0 List.not_mem_nil
  have hI := th_I.weak (a := h0) hI
  refine th_get hx hb hts inT1 hown hK hO rfl 5 (by decide) (hts _ (tb_c wd_241)) rfl rfl dX1_findBegins_39 ?_
  refine lv_iload hx hb dX1_findBegins_42 (lv_at hl 2 rfl) ?_
  refine lv_bipush (v := 96) hx hb dX1_findBegins_44 (by decide) ?_
  refine lv_iadd hx hb dX1_findBegins_46 ?_
  refine lv_topi (fun v21572 e21573 => ?_)
  have tv21572 : v21572.toInt = v21551.toInt + (96) := iv_add rfl (by decide) e21573 (by omega) (by omega)
  refine lv_iconst (v := (-1)) hx hb dX1_findBegins_47 (by decide) ?_
  obtain ⟨_, hA21574⟩ := op_0 hI hq21564 (th_ne hG0 hq21564 (show (11 : Nat) ≠ 0 by decide))
  refine th_iast hx hb hK hA21574 0 rfl hS ⟨_, hq21564⟩ (iv_in (X := v21572.toInt) rfl (by omega) (by omega)) dX1_findBegins_48 (fun H locs hA21574 oq hS => ?_)
  have hI := th_I.put hI hq21564 hA21574 ok_0 oq
  have hO := hO.kept (oq _ (fun z => th_ne hG0 hq21564 (show (11 : Nat) ≠ 0 by decide) (List.mem_singleton.mpr z.symm)))
  refine lv_bipush (v := 95) hx hb dX1_findBegins_49 (by decide) ?_
  refine lv_istore (lv' := [(7, .int 95), (6, .int (-1)), (5, .int 0), (4, .int v21551), (3, .int r21550), (2, .int r21504), (0, .ref h0), (1, .int x1)]) hx hb dX1_findBegins_51 hl (by decide) rfl (fun ls hl => ?_)
  have hI := th_I.close hI hG0 hO (ok_11 hq21554 hq21556 hq21558 hq21560 hq21562 hq21564 hq21566 hq21568)
  have zl : (95 : Int32).toInt = 95 := by decide
  exact J_53 _ H locs ls 95 (-1) 0 v21551 r21550 r21504 rfl (lv_sub hl [0, 1, 2, 3, 4, 5, 6, 7] rfl) ⟨by decide, by decide⟩ ⟨by decide, by decide⟩ ⟨by omega, by omega⟩ ⟨by omega, by omega⟩ hI hS
theorem dX1_finish_0 : decode cX1_finish 0 = .ok (.aload_n 0, 1) := by decide +kernel
theorem dX1_finish_1 : decode cX1_finish 1 = .ok (.getfield 27, 3) := by decide +kernel
theorem dX1_finish_4 : decode cX1_finish 4 = .ok (.iconst (-1), 1) := by decide +kernel
theorem dX1_finish_5 : decode cX1_finish 5 = .ok (.if_icmp .eq 11, 3) := by decide +kernel
theorem dX1_finish_8 : decode cX1_finish 8 = .ok (.iload_n 1, 1) := by decide +kernel
theorem dX1_finish_9 : decode cX1_finish 9 = .ok (.aload_n 0, 1) := by decide +kernel
theorem dX1_finish_10 : decode cX1_finish 10 = .ok (.getfield 27, 3) := by decide +kernel
theorem dX1_finish_13 : decode cX1_finish 13 = .ok (.if_icmp .ge 31, 3) := by decide +kernel
theorem dX1_finish_16 : decode cX1_finish 16 = .ok (.aload_n 0, 1) := by decide +kernel
theorem dX1_finish_17 : decode cX1_finish 17 = .ok (.iload_n 1, 1) := by decide +kernel
theorem dX1_finish_18 : decode cX1_finish 18 = .ok (.putfield 27, 3) := by decide +kernel
theorem dX1_finish_21 : decode cX1_finish 21 = .ok (.aload_n 0, 1) := by decide +kernel
theorem dX1_finish_22 : decode cX1_finish 22 = .ok (.iconst 0, 1) := by decide +kernel
theorem dX1_finish_23 : decode cX1_finish 23 = .ok (.putfield 31, 3) := by decide +kernel
theorem dX1_finish_26 : decode cX1_finish 26 = .ok (.aload_n 0, 1) := by decide +kernel
theorem dX1_finish_27 : decode cX1_finish 27 = .ok (.getfield 21, 3) := by decide +kernel
theorem dX1_finish_30 : decode cX1_finish 30 = .ok (.iconst 0, 1) := by decide +kernel
theorem dX1_finish_31 : decode cX1_finish 31 = .ok (.aload_n 0, 1) := by decide +kernel
theorem dX1_finish_32 : decode cX1_finish 32 = .ok (.getfield 24, 3) := by decide +kernel
theorem dX1_finish_35 : decode cX1_finish 35 = .ok (.iconst 0, 1) := by decide +kernel
theorem dX1_finish_36 : decode cX1_finish 36 = .ok (.aload_n 0, 1) := by decide +kernel
theorem dX1_finish_37 : decode cX1_finish 37 = .ok (.getfield 21, 3) := by decide +kernel
theorem dX1_finish_40 : decode cX1_finish 40 = .ok (.arraylength, 1) := by decide +kernel
theorem dX1_finish_41 : decode cX1_finish 41 = .ok (.invokestatic 118, 3) := by decide +kernel
theorem dX1_finish_44 : decode cX1_finish 44 = .ok (.aload_n 0, 1) := by decide +kernel
theorem dX1_finish_45 : decode cX1_finish 45 = .ok (.dup, 1) := by decide +kernel
theorem dX1_finish_46 : decode cX1_finish 46 = .ok (.getfield 31, 3) := by decide +kernel
theorem dX1_finish_49 : decode cX1_finish 49 = .ok (.iload_n 1, 1) := by decide +kernel
theorem dX1_finish_50 : decode cX1_finish 50 = .ok (.aload_n 0, 1) := by decide +kernel
theorem dX1_finish_51 : decode cX1_finish 51 = .ok (.getfield 27, 3) := by decide +kernel
theorem dX1_finish_54 : decode cX1_finish 54 = .ok (.if_icmp .ne 7, 3) := by decide +kernel
theorem dX1_finish_57 : decode cX1_finish 57 = .ok (.iconst 1, 1) := by decide +kernel
theorem dX1_finish_58 : decode cX1_finish 58 = .ok (.goto 4, 3) := by decide +kernel
theorem dX1_finish_61 : decode cX1_finish 61 = .ok (.iconst 0, 1) := by decide +kernel
theorem dX1_finish_62 : decode cX1_finish 62 = .ok (.iadd, 1) := by decide +kernel
theorem dX1_finish_63 : decode cX1_finish 63 = .ok (.putfield 31, 3) := by decide +kernel
theorem dX1_finish_66 : decode cX1_finish 66 = .ok (.return_, 1) := by decide +kernel
set_option maxHeartbeats 4000000 in
set_option maxRecDepth 100000 in
theorem c_X1_finish (l : Launch) (E : Nat → ClassId) (D : va_G) (G : th_G) (h0 : Nat) (hG0 : G h0 = some (11, 0)) (x1 : Int32) : Met l yX1_finish (tb (.code yX1_finish cX1_finish 2 none)) (rm 1) (va_Pc [.ref h0, .int x1] (th_P E D G)) (QV E D G) 0 0 (th_A G) := by
  refine Met.ofW (cc := cX1_finish) (maxL := 2) (ret := none) (by decide) rfl ?_
  intro p e s m args below meth c s₁ B hml hv
  obtain ⟨hav, hI, hN, hK⟩ := hv
  have hx := B.exec
  have hb := B.bytes
  have hr := B.returns
  have hts := atoms_spec (ws := tb (.code yX1_finish cX1_finish 2 none)) B.pre
  have hown : s.vm.findClass RX1 = some m.cls := findClass_of_methodNamed B.named
  have hlocks := B.notSynchronized
  have hS : va_S (th_A G) s.heap s.heap [] := va_S.rf
  have hl := lv_entry ([.ref h0, .int x1]) (n := 2) (Nat.le_of_ble_eq_true rfl)
  rw [show entryFrame m args 2 = entryFrame m ([.ref h0, .int x1] : List Value).toArray 2 from by rw [hav], lg_entry_eq]
  generalize (lg_sl ([.ref h0, .int x1]) ++ List.replicate (2 - (lg_sl ([.ref h0, .int x1])).length) Slot.unset).toArray = ls at hl ⊢
  have hl : lv_has ls 2 [(0, .ref h0), (1, .int x1)] := hl
  generalize hR : (headSpec (tb (.code yX1_finish cX1_finish 2 none)) (rm 1)).room = R
  have hR := hR.symm
  generalize hQ : MQ below (QV E D G) args s 0 0 (th_A G) = QF
  have hQ := hQ.symm
  have J_44 : ∀ (H : Heap) (locs : List Loc) (ls : Array Slot) , lv_has ls 2 [(0, .ref h0), (1, .int x1)] → th_I (okC E) D G [] H → va_S (th_A G) s.heap H locs → W p l e R s m args below meth c H locs 0 0 QF (F0 m 44 ls []) := by
    intro H locs ls  hl  hI hS
    refine lv_aload_n hx hb dX1_finish_44 rfl (lv_at hl 0 rfl) ?_
    refine lv_dup hx hb dX1_finish_45 rfl ?_
    obtain ⟨a632, a634, a636, a638, a640, a642, a644, a646, w648, w649, w650, hO, hq633, hq635, hq637, hq639, hq641, hq643, hq645, hq647⟩ := op_11 hI hG0 List.not_mem_nil
    have hI := th_I.weak (a := h0) hI
    refine th_get hx hb hts inT1 hown hK hO rfl 9 (by decide) (hts _ (tb_c wd_245)) rfl rfl dX1_finish_46 ?_
    refine lv_iload_n hx hb dX1_finish_49 rfl (lv_at hl 1 rfl) ?_
    refine lv_aload_n hx hb dX1_finish_50 rfl (lv_at hl 0 rfl) ?_
    refine th_get hx hb hts inT1 hown hK hO rfl 8 (by decide) (hts _ (tb_c wd_244)) rfl rfl dX1_finish_51 ?_
    have k651 := iv_lo x1
    have k652 := iv_hi x1
    have k653 := iv_lo w648
    have k654 := iv_hi w648
    refine lv_icmp_ne (tgt := 61) hx hb dX1_finish_54 (by decide) (fun c655 => ?_) (fun c655 => ?_)
    · skip
      have k656 := iv_ne (X := x1.toInt) (Y := w648.toInt) rfl rfl c655
      refine lv_iconst (v := 0) hx hb dX1_finish_61 (by decide) ?_
      refine lv_iadd hx hb dX1_finish_62 ?_
      refine lv_topi (fun v657 e658 => ?_)
      have k659 := iv_lo w649
      have k660 := iv_hi w649
      have tv657 : v657.toInt = w649.toInt + (0) := iv_add rfl (by decide) e658 (by omega) (by omega)
      refine th_put (ty := .int) hx hb hts inT1 tyX1 tyX1_ok nmX1 hown hK hO hS ⟨_, hG0⟩ rfl 9 (by decide) (hts _ (tb_c wd_245)) rfl rfl (by decide +kernel) rfl rfl (Nat.le_of_ble_eq_true rfl) dX1_finish_63 (fun H locs hO oq hS => ?_)
      have hI := th_I.moved hI oq
      have hO : va_at D vwCl (h0, .inr (1, [.ref a632, .ref a634, .ref a636, .ref a638, .ref a640, .ref a642, .ref a644, .ref a646, .int w648, .int v657, .int w650])) H := hO
      have hI := th_I.close hI hG0 hO (ok_11 hq633 hq635 hq637 hq639 hq641 hq643 hq645 hq647)
      rw [hQ]
      exact W.vret hx hb hr (fun t ht hW => ⟨⟨(), rfl, trivial, by rw [ht]; exact hI, hN.warm hW, va_K.moved hW.alike hK⟩, hS.F ht⟩) hS.2.2 dX1_finish_66
    · skip
      have k661 := iv_eq (X := x1.toInt) (Y := w648.toInt) rfl rfl c655
      refine lv_iconst (v := 1) hx hb dX1_finish_57 (by decide) ?_
      refine lv_goto (tgt := 62) hx hb dX1_finish_58 (by decide) ?_
      refine lv_iadd hx hb dX1_finish_62 ?_
      refine lv_topi (fun v662 e663 => ?_)
      try have tv662 : v662.toInt = w649.toInt + (1) := iv_add rfl (by decide) e663 (by omega) (by omega)
      refine th_put (ty := .int) hx hb hts inT1 tyX1 tyX1_ok nmX1 hown hK hO hS ⟨_, hG0⟩ rfl 9 (by decide) (hts _ (tb_c wd_245)) rfl rfl (by decide +kernel) rfl rfl (Nat.le_of_ble_eq_true rfl) dX1_finish_63 (fun H locs hO oq hS => ?_)
      have hI := th_I.moved hI oq
      have hO : va_at D vwCl (h0, .inr (1, [.ref a632, .ref a634, .ref a636, .ref a638, .ref a640, .ref a642, .ref a644, .ref a646, .int w648, .int v662, .int w650])) H := hO
      have hI := th_I.close hI hG0 hO (ok_11 hq633 hq635 hq637 hq639 hq641 hq643 hq645 hq647)
      rw [hQ]
      exact W.vret hx hb hr (fun t ht hW => ⟨⟨(), rfl, trivial, by rw [ht]; exact hI, hN.warm hW, va_K.moved hW.alike hK⟩, hS.F ht⟩) hS.2.2 dX1_finish_66
  have J_16 : ∀ (H : Heap) (locs : List Loc) (ls : Array Slot) , lv_has ls 2 [(0, .ref h0), (1, .int x1)] → th_I (okC E) D G [] H → va_S (th_A G) s.heap H locs → W p l e R s m args below meth c H locs 0 0 QF (F0 m 16 ls []) := by
    intro H locs ls  hl  hI hS
    refine lv_aload_n hx hb dX1_finish_16 rfl (lv_at hl 0 rfl) ?_
    refine lv_iload_n hx hb dX1_finish_17 rfl (lv_at hl 1 rfl) ?_
    obtain ⟨a664, a666, a668, a670, a672, a674, a676, a678, w680, w681, w682, hO, hq665, hq667, hq669, hq671, hq673, hq675, hq677, hq679⟩ := op_11 hI hG0 List.not_mem_nil
    have hI := th_I.weak (a := h0) hI
    refine th_put (ty := .int) hx hb hts inT1 tyX1 tyX1_ok nmX1 hown hK hO hS ⟨_, hG0⟩ rfl 8 (by decide) (hts _ (tb_c wd_244)) rfl rfl (by decide +kernel) rfl rfl (Nat.le_of_ble_eq_true rfl) dX1_finish_18 (fun H locs hO oq hS => ?_)
    have hI := th_I.moved hI oq
    have hO : va_at D vwCl (h0, .inr (1, [.ref a664, .ref a666, .ref a668, .ref a670, .ref a672, .ref a674, .ref a676, .ref a678, .int x1, .int w681, .int w682])) H := hO
    refine lv_aload_n hx hb dX1_finish_21 rfl (lv_at hl 0 rfl) ?_
    refine lv_iconst (v := 0) hx hb dX1_finish_22 (by decide) ?_
    refine th_put (ty := .int) hx hb hts inT1 tyX1 tyX1_ok nmX1 hown hK hO hS ⟨_, hG0⟩ rfl 9 (by decide) (hts _ (tb_c wd_245)) rfl rfl (by decide +kernel) rfl rfl (Nat.le_of_ble_eq_true rfl) dX1_finish_23 (fun H locs hO oq hS => ?_)
    have hI := th_I.moved hI oq
    have hO : va_at D vwCl (h0, .inr (1, [.ref a664, .ref a666, .ref a668, .ref a670, .ref a672, .ref a674, .ref a676, .ref a678, .int x1, .int 0, .int w682])) H := hO
    refine lv_aload_n hx hb dX1_finish_26 rfl (lv_at hl 0 rfl) ?_
    refine th_get hx hb hts inT1 hown hK hO rfl 6 (by decide) (hts _ (tb_c wd_242)) rfl rfl dX1_finish_27 ?_
    refine lv_iconst (v := 0) hx hb dX1_finish_30 (by decide) ?_
    refine lv_aload_n hx hb dX1_finish_31 rfl (lv_at hl 0 rfl) ?_
    refine th_get hx hb hts inT1 hown hK hO rfl 7 (by decide) (hts _ (tb_c wd_243)) rfl rfl dX1_finish_32 ?_
    refine lv_iconst (v := 0) hx hb dX1_finish_35 (by decide) ?_
    refine lv_aload_n hx hb dX1_finish_36 rfl (lv_at hl 0 rfl) ?_
    refine th_get hx hb hts inT1 hown hK hO rfl 6 (by decide) (hts _ (tb_c wd_242)) rfl rfl dX1_finish_37 ?_
    obtain ⟨_, hA683⟩ := op_0 hI hq677 (th_ne hG0 hq677 (show (11 : Nat) ≠ 0 by decide))
    refine va_alen hx hb hK (th_one hA683) 0 0 rfl (v := 12) rfl (show Int32.ofNat 12 = (12 : Int32) from by decide) dX1_finish_40 ?_
    obtain ⟨_, hA684⟩ := op_0 hI hq677 (th_ne hG0 hq677 (show (11 : Nat) ≠ 0 by decide))
    obtain ⟨_, hA685⟩ := op_0 hI hq679 (th_ne hG0 hq679 (show (11 : Nat) ≠ 0 by decide))
    have k686 : (12 : Int32).toInt = 12 := by decide
    have k687 : (0 : Int32).toInt = 0 := by decide
    have k688 : (0 : Int32).toInt = 0 := by decide
    refine th_copyi hx hb (hml.trans hl.1.symm) hown (hts _ (tb_c wd_1078)) (hts _ (tb_c wd_505)) (hts _ (tb_c wd_504)) (hts _ (tb_c wd_14)) hK hA684 hA685 0 rfl hS ⟨_, hq679⟩ (fun z => by have := iv_lt (X := (0)) (Y := 0) (by decide) (by decide) z; omega) (fun z => by have := iv_lt (X := (0)) (Y := 0) (by decide) (by decide) z; omega) (fun z => by have := iv_lt (X := (12)) (Y := 0) (by decide) (by decide) z; omega) (by omega) (by omega) (by rw [hR]; exact Nat.le_of_ble_eq_true rfl) (by rw [hR]; exact Nat.le_of_ble_eq_true rfl) dX1_finish_41 (fun H locs _ hA685 oq hS => ?_)
    have hI := th_I.put hI hq679 hA685 ok_0 oq
    have hO := hO.kept (oq _ (fun z => th_ne hG0 hq679 (show (11 : Nat) ≠ 0 by decide) (List.mem_singleton.mpr z.symm)))
    have hI := th_I.close hI hG0 hO (ok_11 hq665 hq667 hq669 hq671 hq673 hq675 hq677 hq679)
    exact J_44 H locs ls  (lv_sub hl [0, 1] rfl)  hI hS
  refine lv_aload_n hx hb dX1_finish_0 rfl (lv_at hl 0 rfl) ?_
  obtain ⟨a689, a691, a693, a695, a697, a699, a701, a703, w705, w706, w707, hO, hq690, hq692, hq694, hq696, hq698, hq700, hq702, hq704⟩ := op_11 hI hG0 List.not_mem_nil
  have hI := th_I.weak (a := h0) hI
  refine th_get hx hb hts inT1 hown hK hO rfl 8 (by decide) (hts _ (tb_c wd_244)) rfl rfl dX1_finish_1 ?_
  refine lv_iconst (v := (-1)) hx hb dX1_finish_4 (by decide) ?_
  have k708 := iv_lo w705
  have k709 := iv_hi w705
  refine lv_icmp_eq (tgt := 16) hx hb dX1_finish_5 (by decide) (fun c710 => ?_) (fun c710 => ?_)
  · skip
    have k711 := iv_eq (X := w705.toInt) (Y := (-1)) rfl (by decide) c710
    have hI := th_I.close hI hG0 hO (ok_11 hq690 hq692 hq694 hq696 hq698 hq700 hq702 hq704)
    exact J_16 s.heap [] ls  (lv_sub hl [0, 1] rfl)  hI hS
  · skip
    have k712 := iv_ne (X := w705.toInt) (Y := (-1)) rfl (by decide) c710
    refine lv_iload_n hx hb dX1_finish_8 rfl (lv_at hl 1 rfl) ?_
    refine lv_aload_n hx hb dX1_finish_9 rfl (lv_at hl 0 rfl) ?_
    refine th_get hx hb hts inT1 hown hK hO rfl 8 (by decide) (hts _ (tb_c wd_244)) rfl rfl dX1_finish_10 ?_
    have k713 := iv_lo x1
    have k714 := iv_hi x1
    refine lv_icmp_ge (tgt := 44) hx hb dX1_finish_13 (by decide) (fun c715 => ?_) (fun c715 => ?_)
    · skip
      have k716 := iv_le (X := w705.toInt) (Y := x1.toInt) rfl rfl c715
      have hI := th_I.close hI hG0 hO (ok_11 hq690 hq692 hq694 hq696 hq698 hq700 hq702 hq704)
      exact J_44 s.heap [] ls  (lv_sub hl [0, 1] rfl)  hI hS
    · skip
      have k717 := iv_nle (X := w705.toInt) (Y := x1.toInt) rfl rfl c715
      have hI := th_I.close hI hG0 hO (ok_11 hq690 hq692 hq694 hq696 hq698 hq700 hq702 hq704)
      exact J_16 s.heap [] ls  (lv_sub hl [0, 1] rfl)  hI hS
theorem dX5_mark_0 : decode cX5_mark 0 = .ok (.iconst 0, 1) := by decide +kernel
theorem dX5_mark_1 : decode cX5_mark 1 = .ok (.istore_n 3, 1) := by decide +kernel
theorem dX5_mark_2 : decode cX5_mark 2 = .ok (.iload_n 3, 1) := by decide +kernel
theorem dX5_mark_3 : decode cX5_mark 3 = .ok (.iload_n 1, 1) := by decide +kernel
theorem dX5_mark_4 : decode cX5_mark 4 = .ok (.if_icmp .gt 72, 3) := by decide +kernel
theorem dX5_mark_7 : decode cX5_mark 7 = .ok (.iload_n 3, 1) := by decide +kernel
theorem dX5_mark_8 : decode cX5_mark 8 = .ok (.bipush 96, 2) := by decide +kernel
theorem dX5_mark_10 : decode cX5_mark 10 = .ok (.if_icmp .ge 66, 3) := by decide +kernel
theorem dX5_mark_13 : decode cX5_mark 13 = .ok (.aload_n 0, 1) := by decide +kernel
theorem dX5_mark_14 : decode cX5_mark 14 = .ok (.getfield 30, 3) := by decide +kernel
theorem dX5_mark_17 : decode cX5_mark 17 = .ok (.iload_n 3, 1) := by decide +kernel
theorem dX5_mark_18 : decode cX5_mark 18 = .ok (.invokevirtual 84, 3) := by decide +kernel
theorem dX5_mark_21 : decode cX5_mark 21 = .ok (.istore 4, 2) := by decide +kernel
theorem dX5_mark_23 : decode cX5_mark 23 = .ok (.iconst 0, 1) := by decide +kernel
theorem dX5_mark_24 : decode cX5_mark 24 = .ok (.istore 5, 2) := by decide +kernel
theorem dX5_mark_26 : decode cX5_mark 26 = .ok (.iload 4, 2) := by decide +kernel
theorem dX5_mark_28 : decode cX5_mark 28 = .ok (.ifCond .eq 42, 3) := by decide +kernel
theorem dX5_mark_31 : decode cX5_mark 31 = .ok (.iload 5, 2) := by decide +kernel
theorem dX5_mark_33 : decode cX5_mark 33 = .ok (.bipush 24, 2) := by decide +kernel
theorem dX5_mark_35 : decode cX5_mark 35 = .ok (.if_icmp .ge 35, 3) := by decide +kernel
theorem dX5_mark_38 : decode cX5_mark 38 = .ok (.iload 4, 2) := by decide +kernel
theorem dX5_mark_40 : decode cX5_mark 40 = .ok (.iload 5, 2) := by decide +kernel
theorem dX5_mark_42 : decode cX5_mark 42 = .ok (.ishr, 1) := by decide +kernel
theorem dX5_mark_43 : decode cX5_mark 43 = .ok (.iconst 1, 1) := by decide +kernel
theorem dX5_mark_44 : decode cX5_mark 44 = .ok (.iand, 1) := by decide +kernel
theorem dX5_mark_45 : decode cX5_mark 45 = .ok (.ifCond .eq 19, 3) := by decide +kernel
theorem dX5_mark_48 : decode cX5_mark 48 = .ok (.aload_n 0, 1) := by decide +kernel
theorem dX5_mark_49 : decode cX5_mark 49 = .ok (.getfield 11, 3) := by decide +kernel
theorem dX5_mark_52 : decode cX5_mark 52 = .ok (.iload_n 3, 1) := by decide +kernel
theorem dX5_mark_53 : decode cX5_mark 53 = .ok (.bipush 24, 2) := by decide +kernel
theorem dX5_mark_55 : decode cX5_mark 55 = .ok (.imul, 1) := by decide +kernel
theorem dX5_mark_56 : decode cX5_mark 56 = .ok (.iload 5, 2) := by decide +kernel
theorem dX5_mark_58 : decode cX5_mark 58 = .ok (.iadd, 1) := by decide +kernel
theorem dX5_mark_59 : decode cX5_mark 59 = .ok (.dup2, 1) := by decide +kernel
theorem dX5_mark_60 : decode cX5_mark 60 = .ok (.iaload, 1) := by decide +kernel
theorem dX5_mark_61 : decode cX5_mark 61 = .ok (.iload_n 2, 1) := by decide +kernel
theorem dX5_mark_62 : decode cX5_mark 62 = .ok (.ior, 1) := by decide +kernel
theorem dX5_mark_63 : decode cX5_mark 63 = .ok (.iastore, 1) := by decide +kernel
theorem dX5_mark_64 : decode cX5_mark 64 = .ok (.iinc 5 1, 3) := by decide +kernel
theorem dX5_mark_67 : decode cX5_mark 67 = .ok (.goto (-41), 3) := by decide +kernel
theorem dX5_mark_70 : decode cX5_mark 70 = .ok (.iinc 3 1, 3) := by decide +kernel
theorem dX5_mark_73 : decode cX5_mark 73 = .ok (.goto (-71), 3) := by decide +kernel
theorem dX5_mark_76 : decode cX5_mark 76 = .ok (.return_, 1) := by decide +kernel
set_option maxHeartbeats 4000000 in
set_option maxRecDepth 100000 in
theorem c_X5_mark (l : Launch) (E : Nat → ClassId) (D : va_G) (G : th_G) (h0 : Nat) (hG0 : G h0 = some (12, 0)) (x1 x2 : Int32) : Met l yX5_mark (tb (.code yX5_mark cX5_mark 6 none)) (rm 2) (va_Pc [.ref h0, .int x1, .int x2] (th_P E D G)) (QV E D G) 0 0 (th_A G) := by
  refine Met.ofW (cc := cX5_mark) (maxL := 6) (ret := none) (by decide) rfl ?_
  intro p e s m args below meth c s₁ B hml hv
  obtain ⟨hav, hI, hN, hK⟩ := hv
  have hx := B.exec
  have hb := B.bytes
  have hr := B.returns
  have hts := atoms_spec (ws := tb (.code yX5_mark cX5_mark 6 none)) B.pre
  have hown : s.vm.findClass RX5 = some m.cls := findClass_of_methodNamed B.named
  have hlocks := B.notSynchronized
  have hS : va_S (th_A G) s.heap s.heap [] := va_S.rf
  have hl := lv_entry ([.ref h0, .int x1, .int x2]) (n := 6) (Nat.le_of_ble_eq_true rfl)
  rw [show entryFrame m args 6 = entryFrame m ([.ref h0, .int x1, .int x2] : List Value).toArray 6 from by rw [hav], lg_entry_eq]
  generalize (lg_sl ([.ref h0, .int x1, .int x2]) ++ List.replicate (6 - (lg_sl ([.ref h0, .int x1, .int x2])).length) Slot.unset).toArray = ls at hl ⊢
  have hl : lv_has ls 6 [(0, .ref h0), (1, .int x1), (2, .int x2)] := hl
  generalize hR : (headSpec (tb (.code yX5_mark cX5_mark 6 none)) (rm 2)).room = R
  have hR := hR.symm
  generalize hQ : MQ below (QV E D G) args s 0 0 (th_A G) = QF
  have hQ := hQ.symm
  have J_2 : ∀ (nn : Nat) (H : Heap) (locs : List Loc) (ls : Array Slot) (v2720 : Int32), (Int.toNat (96 - v2720.toInt) = nn) → lv_has ls 6 [(3, .int v2720), (0, .ref h0), (1, .int x1), (2, .int x2)] → ((0 : Int) ≤ v2720.toInt ∧ v2720.toInt ≤ 96) → th_I (okC E) D G [] H → va_S (th_A G) s.heap H locs → W p l e R s m args below meth c H locs 0 0 QF (F0 m 2 ls []) := by
    intro nn
    induction nn using Nat.strongRecOn with
    | ind nn ih_2 =>
      intro H locs ls v2720 hm hl k2721 hI hS
      have J_26 : ∀ (nn : Nat) (H : Heap) (locs : List Loc) (ls : Array Slot) (v2722 : Int32) (v2723 : Int32), (Int.toNat (24 - v2722.toInt) = nn) → lv_has ls 6 [(5, .int v2722), (4, .int v2723), (3, .int v2720), (0, .ref h0), (1, .int x1), (2, .int x2)] → ((0 : Int) ≤ v2722.toInt ∧ v2722.toInt ≤ 24) → ((0 : Int) ≤ v2720.toInt ∧ v2720.toInt ≤ 95) → ((0 : Int) ≤ x1.toInt) → th_I (okC E) D G [] H → va_S (th_A G) s.heap H locs → W p l e R s m args below meth c H locs 0 0 QF (F0 m 26 ls []) := by
        intro nn
        induction nn using Nat.strongRecOn with
        | ind nn ih_26 =>
          intro H locs ls v2722 v2723 hm hl k2725 k2726 k2727 hI hS
          refine lv_iload hx hb dX5_mark_26 (lv_at hl 1 rfl) ?_
          have k2728 := iv_lo v2723
          have k2729 := iv_hi v2723
          refine lv_if_eq (tgt := 70) hx hb dX5_mark_28 (by decide) (fun c2730 => ?_) (fun c2730 => ?_)
          · skip
            have k2731 := iv_eq (X := v2723.toInt) (Y := (0)) rfl (by decide) c2730
            obtain ⟨v2732, e2733⟩ : ∃ y : Int32, y = v2720 + (1) := ⟨_, rfl⟩
            have tv2732 : v2732.toInt = v2720.toInt + (1) := iv_add rfl (by decide) e2733 (by omega) (by omega)
            refine lv_iinc (v := v2732) (lv' := [(3, .int v2732), (5, .int v2722), (4, .int v2723), (0, .ref h0), (1, .int x1), (2, .int x2)]) hx hb dX5_mark_70 hl (k := 2) rfl (by rw [e2733]; rfl) (by decide) rfl (fun ls hl => ?_)
            refine lv_goto (tgt := 2) hx hb dX5_mark_73 (by decide) ?_
            exact ih_2 _ (by omega) H locs ls v2732 rfl (lv_sub hl [0, 3, 4, 5] rfl) ⟨by omega, by omega⟩ hI hS
          · skip
            have k2734 := iv_ne (X := v2723.toInt) (Y := (0)) rfl (by decide) c2730
            refine lv_iload hx hb dX5_mark_31 (lv_at hl 0 rfl) ?_
            refine lv_bipush (v := 24) hx hb dX5_mark_33 (by decide) ?_
            refine lv_icmp_ge (tgt := 70) hx hb dX5_mark_35 (by decide) (fun c2735 => ?_) (fun c2735 => ?_)
            · skip
              have k2736 := iv_le (X := (24)) (Y := v2722.toInt) (by decide) rfl c2735
              obtain ⟨v2737, e2738⟩ : ∃ y : Int32, y = v2720 + (1) := ⟨_, rfl⟩
              have tv2737 : v2737.toInt = v2720.toInt + (1) := iv_add rfl (by decide) e2738 (by omega) (by omega)
              refine lv_iinc (v := v2737) (lv' := [(3, .int v2737), (5, .int v2722), (4, .int v2723), (0, .ref h0), (1, .int x1), (2, .int x2)]) hx hb dX5_mark_70 hl (k := 2) rfl (by rw [e2738]; rfl) (by decide) rfl (fun ls hl => ?_)
              refine lv_goto (tgt := 2) hx hb dX5_mark_73 (by decide) ?_
              exact ih_2 _ (by omega) H locs ls v2737 rfl (lv_sub hl [0, 3, 4, 5] rfl) ⟨by omega, by omega⟩ hI hS
            · skip
              have k2739 := iv_nle (X := (24)) (Y := v2722.toInt) (by decide) rfl c2735
              refine lv_iload hx hb dX5_mark_38 (lv_at hl 1 rfl) ?_
              refine lv_iload hx hb dX5_mark_40 (lv_at hl 0 rfl) ?_
              refine lv_ishr hx hb dX5_mark_42 ?_
              refine lv_topi (fun v2740 e2741 => ?_)
              refine lv_iconst (v := 1) hx hb dX5_mark_43 (by decide) ?_
              refine lv_iand hx hb dX5_mark_44 ?_
              refine lv_topi (fun v2742 e2743 => ?_)
              have tv2742 := iv_andr (m := 1) (M := 1) e2743 (by decide) (by decide)
              refine lv_if_eq (tgt := 64) hx hb dX5_mark_45 (by decide) (fun c2744 => ?_) (fun c2744 => ?_)
              · skip
                have k2745 := iv_eq (X := v2742.toInt) (Y := (0)) rfl (by decide) c2744
                obtain ⟨v2746, e2747⟩ : ∃ y : Int32, y = v2722 + (1) := ⟨_, rfl⟩
                have tv2746 : v2746.toInt = v2722.toInt + (1) := iv_add rfl (by decide) e2747 (by omega) (by omega)
                refine lv_iinc (v := v2746) (lv' := [(5, .int v2746), (4, .int v2723), (3, .int v2720), (0, .ref h0), (1, .int x1), (2, .int x2)]) hx hb dX5_mark_64 hl (k := 0) rfl (by rw [e2747]; rfl) (by decide) rfl (fun ls hl => ?_)
                refine lv_goto (tgt := 26) hx hb dX5_mark_67 (by decide) ?_
                exact ih_26 _ (by omega) H locs ls v2746 v2723 rfl (lv_sub hl [0, 1, 2, 3, 4, 5] rfl) ⟨by omega, by omega⟩ ⟨by omega, by omega⟩ (by omega) hI hS
              · skip
                have k2748 := iv_ne (X := v2742.toInt) (Y := (0)) rfl (by decide) c2744
                refine lv_aload_n hx hb dX5_mark_48 rfl (lv_at hl 3 rfl) ?_
                obtain ⟨a2749, a2751, a2753, a2755, w2757, w2758, hO, hq2750, hq2752, hq2754, hq2756⟩ := op_12 hI hG0 List.not_mem_nil
                have hI := th_I.weak (a := h0) hI
                refine th_get hx hb hts inT5 hown hK hO rfl 2 (by decide) (hts _ (tb_c wd_278)) rfl rfl dX5_mark_49 ?_
                refine lv_iload_n hx hb dX5_mark_52 rfl (lv_at hl 2 rfl) ?_
                refine lv_bipush (v := 24) hx hb dX5_mark_53 (by decide) ?_
                refine lv_imul hx hb dX5_mark_55 ?_
                refine lv_topi (fun v2759 e2760 => ?_)
                have tv2759 : v2759.toInt = v2720.toInt * (24) := iv_mul rfl (by decide) e2760 (by omega) (by omega)
                refine lv_iload hx hb dX5_mark_56 (lv_at hl 0 rfl) ?_
                refine lv_iadd hx hb dX5_mark_58 ?_
                refine lv_topi (fun v2761 e2762 => ?_)
                have tv2761 : v2761.toInt = v2759.toInt + v2722.toInt := iv_add rfl rfl e2762 (by omega) (by omega)
                refine lv_dup2_11 hx hb dX5_mark_59 rfl rfl ?_
                obtain ⟨_, hA2763⟩ := op_0 hI hq2754 (th_ne hG0 hq2754 (show (12 : Nat) ≠ 0 by decide))
                refine th_iald hx hb hK hA2763 0 rfl (iv_in (X := v2761.toInt) rfl (by omega) (by omega)) dX5_mark_60 (fun v2764 _ => ?_)
                refine lv_iload_n hx hb dX5_mark_61 rfl (lv_at hl 5 rfl) ?_
                refine lv_ior hx hb dX5_mark_62 ?_
                refine lv_topi (fun v2765 e2766 => ?_)
                obtain ⟨_, hA2767⟩ := op_0 hI hq2754 (th_ne hG0 hq2754 (show (12 : Nat) ≠ 0 by decide))
                refine th_iast hx hb hK hA2767 0 rfl hS ⟨_, hq2754⟩ (iv_in (X := v2761.toInt) rfl (by omega) (by omega)) dX5_mark_63 (fun H locs hA2767 oq hS => ?_)
                have hI := th_I.put hI hq2754 hA2767 ok_0 oq
                have hO := hO.kept (oq _ (fun z => th_ne hG0 hq2754 (show (12 : Nat) ≠ 0 by decide) (List.mem_singleton.mpr z.symm)))
                obtain ⟨v2768, e2769⟩ : ∃ y : Int32, y = v2722 + (1) := ⟨_, rfl⟩
                have tv2768 : v2768.toInt = v2722.toInt + (1) := iv_add rfl (by decide) e2769 (by omega) (by omega)
                refine lv_iinc (v := v2768) (lv' := [(5, .int v2768), (4, .int v2723), (3, .int v2720), (0, .ref h0), (1, .int x1), (2, .int x2)]) hx hb dX5_mark_64 hl (k := 0) rfl (by rw [e2769]; rfl) (by decide) rfl (fun ls hl => ?_)
                refine lv_goto (tgt := 26) hx hb dX5_mark_67 (by decide) ?_
                have hI := th_I.close hI hG0 hO (ok_12 hq2750 hq2752 hq2754 hq2756)
                exact ih_26 _ (by omega) H locs ls v2768 v2723 rfl (lv_sub hl [0, 1, 2, 3, 4, 5] rfl) ⟨by omega, by omega⟩ ⟨by omega, by omega⟩ (by omega) hI hS
      refine lv_iload_n hx hb dX5_mark_2 rfl (lv_at hl 0 rfl) ?_
      refine lv_iload_n hx hb dX5_mark_3 rfl (lv_at hl 2 rfl) ?_
      have k2770 := iv_lo x1
      have k2771 := iv_hi x1
      refine lv_icmp_gt (tgt := 76) hx hb dX5_mark_4 (by decide) (fun c2772 => ?_) (fun c2772 => ?_)
      · skip
        have k2773 := iv_lt (X := x1.toInt) (Y := v2720.toInt) rfl rfl c2772
        rw [hQ]
        exact W.vret hx hb hr (fun t ht hW => ⟨⟨(), rfl, trivial, by rw [ht]; exact hI, hN.warm hW, va_K.moved hW.alike hK⟩, hS.F ht⟩) hS.2.2 dX5_mark_76
      · skip
        have k2774 := iv_nlt (X := x1.toInt) (Y := v2720.toInt) rfl rfl c2772
        refine lv_iload_n hx hb dX5_mark_7 rfl (lv_at hl 0 rfl) ?_
        refine lv_bipush (v := 96) hx hb dX5_mark_8 (by decide) ?_
        refine lv_icmp_ge (tgt := 76) hx hb dX5_mark_10 (by decide) (fun c2775 => ?_) (fun c2775 => ?_)
        · skip
          have k2776 := iv_le (X := (96)) (Y := v2720.toInt) (by decide) rfl c2775
          rw [hQ]
          exact W.vret hx hb hr (fun t ht hW => ⟨⟨(), rfl, trivial, by rw [ht]; exact hI, hN.warm hW, va_K.moved hW.alike hK⟩, hS.F ht⟩) hS.2.2 dX5_mark_76
        · skip
          have k2777 := iv_nle (X := (96)) (Y := v2720.toInt) (by decide) rfl c2775
          refine lv_aload_n hx hb dX5_mark_13 rfl (lv_at hl 1 rfl) ?_
          obtain ⟨a2778, a2780, a2782, a2784, w2786, w2787, hO, hq2779, hq2781, hq2783, hq2785⟩ := op_12 hI hG0 List.not_mem_nil
          have hI := th_I.weak (a := h0) hI
          refine th_get hx hb hts inT5 hown hK hO rfl 1 (by decide) (hts _ (tb_c wd_277)) rfl rfl dX5_mark_14 ?_
          refine lv_iload_n hx hb dX5_mark_17 rfl (lv_at hl 0 rfl) ?_
          have hI := th_I.close hI hG0 hO (ok_12 hq2779 hq2781 hq2783 hq2785)
          refine th_cVi (As := [.int v2720]) (rest := []) (n := 1) (d := 1) ⟨hx, hb, hml, hown, hts⟩ (c_X9_originsAt l E D G a2780 hq2781 v2720) wd_1011 wd_1012 wd_1013 wd_8 wd_1014 (by decide +kernel) ⟨by rw [hR]; exact Nat.le_of_ble_eq_true rfl, by rw [hR]; exact Nat.le_of_ble_eq_true rfl⟩ hI hN hK hS (rc_10 hI hq2781 List.not_mem_nil) rfl rfl hl.1 rfl (Nat.le_of_ble_eq_true rfl) dX5_mark_18 ⟨Nat.zero_le _, Nat.zero_le _⟩ (fun r2788 H locs hp hI hS => ?_)
          refine lv_istore (lv' := [(4, .int r2788), (3, .int v2720), (0, .ref h0), (1, .int x1), (2, .int x2)]) hx hb dX5_mark_21 hl (by decide) rfl (fun ls hl => ?_)
          refine lv_iconst (v := 0) hx hb dX5_mark_23 (by decide) ?_
          refine lv_istore (lv' := [(5, .int 0), (4, .int r2788), (3, .int v2720), (0, .ref h0), (1, .int x1), (2, .int x2)]) hx hb dX5_mark_24 hl (by decide) rfl (fun ls hl => ?_)
          have zl : (0 : Int32).toInt = 0 := by decide
          exact J_26 _ H locs ls 0 r2788 rfl (lv_sub hl [0, 1, 2, 3, 4, 5] rfl) ⟨by decide, by decide⟩ ⟨by omega, by omega⟩ (by omega) hI hS
  refine lv_iconst (v := 0) hx hb dX5_mark_0 (by decide) ?_
  refine lv_istore_n (lv' := [(3, .int 0), (0, .ref h0), (1, .int x1), (2, .int x2)]) hx hb dX5_mark_1 rfl hl (by decide) rfl (fun ls hl => ?_)
  have zl : (0 : Int32).toInt = 0 := by decide
  exact J_2 _ s.heap [] ls 0 rfl (lv_sub hl [0, 1, 2, 3] rfl) ⟨by decide, by decide⟩ hI hS
theorem dX5_look_0 : decode cX5_look 0 = .ok (.aload_n 0, 1) := by decide +kernel
theorem dX5_look_1 : decode cX5_look 1 = .ok (.getfield 19, 3) := by decide +kernel
theorem dX5_look_4 : decode cX5_look 4 = .ok (.iload_n 1, 1) := by decide +kernel
theorem dX5_look_5 : decode cX5_look 5 = .ok (.if_icmp .ne 4, 3) := by decide +kernel
theorem dX5_look_8 : decode cX5_look 8 = .ok (.return_, 1) := by decide +kernel
theorem dX5_look_9 : decode cX5_look 9 = .ok (.aload_n 0, 1) := by decide +kernel
theorem dX5_look_10 : decode cX5_look 10 = .ok (.iload_n 1, 1) := by decide +kernel
theorem dX5_look_11 : decode cX5_look 11 = .ok (.putfield 19, 3) := by decide +kernel
theorem dX5_look_14 : decode cX5_look 14 = .ok (.aload_n 0, 1) := by decide +kernel
theorem dX5_look_15 : decode cX5_look 15 = .ok (.iconst 0, 1) := by decide +kernel
theorem dX5_look_16 : decode cX5_look 16 = .ok (.putfield 23, 3) := by decide +kernel
theorem dX5_look_19 : decode cX5_look 19 = .ok (.aload_n 0, 1) := by decide +kernel
theorem dX5_look_20 : decode cX5_look 20 = .ok (.getfield 11, 3) := by decide +kernel
theorem dX5_look_23 : decode cX5_look 23 = .ok (.iconst 0, 1) := by decide +kernel
theorem dX5_look_24 : decode cX5_look 24 = .ok (.invokestatic 55, 3) := by decide +kernel
theorem dX5_look_27 : decode cX5_look 27 = .ok (.iconst 0, 1) := by decide +kernel
theorem dX5_look_28 : decode cX5_look 28 = .ok (.istore_n 2, 1) := by decide +kernel
theorem dX5_look_29 : decode cX5_look 29 = .ok (.iload_n 2, 1) := by decide +kernel
theorem dX5_look_30 : decode cX5_look 30 = .ok (.aload_n 0, 1) := by decide +kernel
theorem dX5_look_31 : decode cX5_look 31 = .ok (.getfield 26, 3) := by decide +kernel
theorem dX5_look_34 : decode cX5_look 34 = .ok (.getfield 58, 3) := by decide +kernel
theorem dX5_look_37 : decode cX5_look 37 = .ok (.invokevirtual 64, 3) := by decide +kernel
theorem dX5_look_40 : decode cX5_look 40 = .ok (.if_icmp .ge 129, 3) := by decide +kernel
theorem dX5_look_43 : decode cX5_look 43 = .ok (.iload_n 2, 1) := by decide +kernel
theorem dX5_look_44 : decode cX5_look 44 = .ok (.bipush 10, 2) := by decide +kernel
theorem dX5_look_46 : decode cX5_look 46 = .ok (.if_icmp .ge 123, 3) := by decide +kernel
theorem dX5_look_49 : decode cX5_look 49 = .ok (.aload_n 0, 1) := by decide +kernel
theorem dX5_look_50 : decode cX5_look 50 = .ok (.getfield 26, 3) := by decide +kernel
theorem dX5_look_53 : decode cX5_look 53 = .ok (.getfield 58, 3) := by decide +kernel
theorem dX5_look_56 : decode cX5_look 56 = .ok (.iload_n 2, 1) := by decide +kernel
theorem dX5_look_57 : decode cX5_look 57 = .ok (.iconst 2, 1) := by decide +kernel
theorem dX5_look_58 : decode cX5_look 58 = .ok (.invokevirtual 70, 3) := by decide +kernel
theorem dX5_look_61 : decode cX5_look 61 = .ok (.iload_n 1, 1) := by decide +kernel
theorem dX5_look_62 : decode cX5_look 62 = .ok (.if_icmp .ne 101, 3) := by decide +kernel
theorem dX5_look_65 : decode cX5_look 65 = .ok (.aload_n 0, 1) := by decide +kernel
theorem dX5_look_66 : decode cX5_look 66 = .ok (.getfield 26, 3) := by decide +kernel
theorem dX5_look_69 : decode cX5_look 69 = .ok (.getfield 58, 3) := by decide +kernel
theorem dX5_look_72 : decode cX5_look 72 = .ok (.iload_n 2, 1) := by decide +kernel
theorem dX5_look_73 : decode cX5_look 73 = .ok (.iconst 1, 1) := by decide +kernel
theorem dX5_look_74 : decode cX5_look 74 = .ok (.invokevirtual 70, 3) := by decide +kernel
theorem dX5_look_77 : decode cX5_look 77 = .ok (.istore_n 3, 1) := by decide +kernel
theorem dX5_look_78 : decode cX5_look 78 = .ok (.aload_n 0, 1) := by decide +kernel
theorem dX5_look_79 : decode cX5_look 79 = .ok (.getfield 26, 3) := by decide +kernel
theorem dX5_look_82 : decode cX5_look 82 = .ok (.getfield 58, 3) := by decide +kernel
theorem dX5_look_85 : decode cX5_look 85 = .ok (.iload_n 2, 1) := by decide +kernel
theorem dX5_look_86 : decode cX5_look 86 = .ok (.iconst 3, 1) := by decide +kernel
theorem dX5_look_87 : decode cX5_look 87 = .ok (.invokevirtual 70, 3) := by decide +kernel
theorem dX5_look_90 : decode cX5_look 90 = .ok (.iconst 1, 1) := by decide +kernel
theorem dX5_look_91 : decode cX5_look 91 = .ok (.if_icmp .ne 7, 3) := by decide +kernel
theorem dX5_look_94 : decode cX5_look 94 = .ok (.iconst 1, 1) := by decide +kernel
theorem dX5_look_95 : decode cX5_look 95 = .ok (.goto 4, 3) := by decide +kernel
theorem dX5_look_98 : decode cX5_look 98 = .ok (.iconst 0, 1) := by decide +kernel
theorem dX5_look_99 : decode cX5_look 99 = .ok (.istore 4, 2) := by decide +kernel
theorem dX5_look_101 : decode cX5_look 101 = .ok (.aload_n 0, 1) := by decide +kernel
theorem dX5_look_102 : decode cX5_look 102 = .ok (.getfield 30, 3) := by decide +kernel
theorem dX5_look_105 : decode cX5_look 105 = .ok (.aload_n 0, 1) := by decide +kernel
theorem dX5_look_106 : decode cX5_look 106 = .ok (.getfield 26, 3) := by decide +kernel
theorem dX5_look_109 : decode cX5_look 109 = .ok (.getfield 58, 3) := by decide +kernel
theorem dX5_look_112 : decode cX5_look 112 = .ok (.iload_n 2, 1) := by decide +kernel
theorem dX5_look_113 : decode cX5_look 113 = .ok (.iconst 0, 1) := by decide +kernel
theorem dX5_look_114 : decode cX5_look 114 = .ok (.invokevirtual 70, 3) := by decide +kernel
theorem dX5_look_117 : decode cX5_look 117 = .ok (.iload_n 3, 1) := by decide +kernel
theorem dX5_look_118 : decode cX5_look 118 = .ok (.iconst 0, 1) := by decide +kernel
theorem dX5_look_119 : decode cX5_look 119 = .ok (.invokevirtual 74, 3) := by decide +kernel
theorem dX5_look_122 : decode cX5_look 122 = .ok (.pop, 1) := by decide +kernel
theorem dX5_look_123 : decode cX5_look 123 = .ok (.aload_n 0, 1) := by decide +kernel
theorem dX5_look_124 : decode cX5_look 124 = .ok (.iload_n 3, 1) := by decide +kernel
theorem dX5_look_125 : decode cX5_look 125 = .ok (.iload 4, 2) := by decide +kernel
theorem dX5_look_127 : decode cX5_look 127 = .ok (.ifCond .eq 9, 3) := by decide +kernel
theorem dX5_look_130 : decode cX5_look 130 = .ok (.iconst 1, 1) := by decide +kernel
theorem dX5_look_131 : decode cX5_look 131 = .ok (.iload_n 2, 1) := by decide +kernel
theorem dX5_look_132 : decode cX5_look 132 = .ok (.ishl, 1) := by decide +kernel
theorem dX5_look_133 : decode cX5_look 133 = .ok (.goto 6, 3) := by decide +kernel
theorem dX5_look_136 : decode cX5_look 136 = .ok (.sipush 1024, 3) := by decide +kernel
theorem dX5_look_139 : decode cX5_look 139 = .ok (.invokevirtual 80, 3) := by decide +kernel
theorem dX5_look_142 : decode cX5_look 142 = .ok (.aload_n 0, 1) := by decide +kernel
theorem dX5_look_143 : decode cX5_look 143 = .ok (.dup, 1) := by decide +kernel
theorem dX5_look_144 : decode cX5_look 144 = .ok (.getfield 23, 3) := by decide +kernel
theorem dX5_look_147 : decode cX5_look 147 = .ok (.iload 4, 2) := by decide +kernel
theorem dX5_look_149 : decode cX5_look 149 = .ok (.ifCond .eq 9, 3) := by decide +kernel
theorem dX5_look_152 : decode cX5_look 152 = .ok (.iconst 1, 1) := by decide +kernel
theorem dX5_look_153 : decode cX5_look 153 = .ok (.iload_n 2, 1) := by decide +kernel
theorem dX5_look_154 : decode cX5_look 154 = .ok (.ishl, 1) := by decide +kernel
theorem dX5_look_155 : decode cX5_look 155 = .ok (.goto 4, 3) := by decide +kernel
theorem dX5_look_158 : decode cX5_look 158 = .ok (.iconst 0, 1) := by decide +kernel
theorem dX5_look_159 : decode cX5_look 159 = .ok (.ior, 1) := by decide +kernel
theorem dX5_look_160 : decode cX5_look 160 = .ok (.putfield 23, 3) := by decide +kernel
theorem dX5_look_163 : decode cX5_look 163 = .ok (.iinc 2 1, 3) := by decide +kernel
theorem dX5_look_166 : decode cX5_look 166 = .ok (.goto (-137), 3) := by decide +kernel
theorem dX5_look_169 : decode cX5_look 169 = .ok (.return_, 1) := by decide +kernel
set_option maxHeartbeats 4000000 in
set_option maxRecDepth 100000 in
theorem c_X5_look (l : Launch) (E : Nat → ClassId) (D : va_G) (G : th_G) (h0 : Nat) (hG0 : G h0 = some (12, 0)) (x1 : Int32) : Met l yX5_look (tb (.code yX5_look cX5_look 5 none)) (rm 6) (va_Pc [.ref h0, .int x1] (th_P E D G)) (QV E D G) 0 0 (th_A G) := by
  refine Met.ofW (cc := cX5_look) (maxL := 5) (ret := none) (by decide) rfl ?_
  intro p e s m args below meth c s₁ B hml hv
  obtain ⟨hav, hI, hN, hK⟩ := hv
  have hx := B.exec
  have hb := B.bytes
  have hr := B.returns
  have hts := atoms_spec (ws := tb (.code yX5_look cX5_look 5 none)) B.pre
  have hown : s.vm.findClass RX5 = some m.cls := findClass_of_methodNamed B.named
  have hlocks := B.notSynchronized
  have hS : va_S (th_A G) s.heap s.heap [] := va_S.rf
  have hl := lv_entry ([.ref h0, .int x1]) (n := 5) (Nat.le_of_ble_eq_true rfl)
  rw [show entryFrame m args 5 = entryFrame m ([.ref h0, .int x1] : List Value).toArray 5 from by rw [hav], lg_entry_eq]
  generalize (lg_sl ([.ref h0, .int x1]) ++ List.replicate (5 - (lg_sl ([.ref h0, .int x1])).length) Slot.unset).toArray = ls at hl ⊢
  have hl : lv_has ls 5 [(0, .ref h0), (1, .int x1)] := hl
  generalize hR : (headSpec (tb (.code yX5_look cX5_look 5 none)) (rm 6)).room = R
  have hR := hR.symm
  generalize hQ : MQ below (QV E D G) args s 0 0 (th_A G) = QF
  have hQ := hQ.symm
  have J_29 : ∀ (nn : Nat) (H : Heap) (locs : List Loc) (ls : Array Slot) (v4216 : Int32), (Int.toNat (10 - v4216.toInt) = nn) → lv_has ls 5 [(2, .int v4216), (0, .ref h0), (1, .int x1)] → ((0 : Int) ≤ v4216.toInt ∧ v4216.toInt ≤ 10) → th_I (okC E) D G [] H → va_S (th_A G) s.heap H locs → W p l e R s m args below meth c H locs 0 0 QF (F0 m 29 ls []) := by
    intro nn
    induction nn using Nat.strongRecOn with
    | ind nn ih_29 =>
      intro H locs ls v4216 hm hl k4217 hI hS
      have J_139 : ∀ (H : Heap) (locs : List Loc) (ls : Array Slot) (v4218 : Int32) (v4219 : Int32) (v4221 : Int32) (v4222 : Int32), lv_has ls 5 [(4, .int v4218), (3, .int v4219), (2, .int v4216), (0, .ref h0), (1, .int x1)] → ((0 : Int) ≤ v4218.toInt ∧ v4218.toInt ≤ 1) → ((0 : Int) ≤ v4216.toInt ∧ v4216.toInt ≤ 9) → th_I (okC E) D G [] H → va_S (th_A G) s.heap H locs → W p l e R s m args below meth c H locs 0 0 QF (F0 m 139 ls [.int v4221, .int v4222, .ref h0]) := by
        intro H locs ls v4218 v4219 v4221 v4222 hl k4223 k4224 hI hS
        refine th_cVv (As := [.int v4222, .int v4221]) (rest := []) (n := 2) (d := 2) ⟨hx, hb, hml, hown, hts⟩ (c_X5_mark l E D G h0 hG0 v4222 v4221) wd_1007 wd_1009 wp_29 wd_10 wd_1010 (by decide +kernel) ⟨by rw [hR]; exact Nat.le_of_ble_eq_true rfl, by rw [hR]; exact Nat.le_of_ble_eq_true rfl⟩ hI hN hK hS (rc_12 hI hG0 List.not_mem_nil) rfl rfl hl.1 rfl (Nat.le_of_ble_eq_true rfl) dX5_look_139 ⟨Nat.zero_le _, Nat.zero_le _⟩ (fun H locs hI hS => ?_)
        refine lv_aload_n hx hb dX5_look_142 rfl (lv_at hl 3 rfl) ?_
        refine lv_dup hx hb dX5_look_143 rfl ?_
        obtain ⟨a4226, a4228, a4230, a4232, w4234, w4235, hO, hq4227, hq4229, hq4231, hq4233⟩ := op_12 hI hG0 List.not_mem_nil
        have hI := th_I.weak (a := h0) hI
        refine th_get hx hb hts inT5 hown hK hO rfl 5 (by decide) (hts _ (tb_c wd_281)) rfl rfl dX5_look_144 ?_
        refine lv_iload hx hb dX5_look_147 (lv_at hl 0 rfl) ?_
        refine lv_if_eq (tgt := 158) hx hb dX5_look_149 (by decide) (fun c4236 => ?_) (fun c4236 => ?_)
        · skip
          have k4237 := iv_eq (X := v4218.toInt) (Y := (0)) rfl (by decide) c4236
          refine lv_iconst (v := 0) hx hb dX5_look_158 (by decide) ?_
          refine lv_ior hx hb dX5_look_159 ?_
          refine lv_topi (fun v4238 e4239 => ?_)
          refine th_put (ty := .int) hx hb hts inT5 tyX5 tyX5_ok nmX5 hown hK hO hS ⟨_, hG0⟩ rfl 5 (by decide) (hts _ (tb_c wd_281)) rfl rfl (by decide +kernel) rfl rfl (Nat.le_of_ble_eq_true rfl) dX5_look_160 (fun H locs hO oq hS => ?_)
          have hI := th_I.moved hI oq
          have hO : va_at D vwCl (h0, .inr (5, [.ref a4226, .ref a4228, .ref a4230, .ref a4232, .int w4234, .int v4238])) H := hO
          obtain ⟨v4240, e4241⟩ : ∃ y : Int32, y = v4216 + (1) := ⟨_, rfl⟩
          have tv4240 : v4240.toInt = v4216.toInt + (1) := iv_add rfl (by decide) e4241 (by omega) (by omega)
          refine lv_iinc (v := v4240) (lv' := [(2, .int v4240), (4, .int v4218), (3, .int v4219), (0, .ref h0), (1, .int x1)]) hx hb dX5_look_163 hl (k := 2) rfl (by rw [e4241]; rfl) (by decide) rfl (fun ls hl => ?_)
          refine lv_goto (tgt := 29) hx hb dX5_look_166 (by decide) ?_
          have hI := th_I.close hI hG0 hO (ok_12 hq4227 hq4229 hq4231 hq4233)
          exact ih_29 _ (by omega) H locs ls v4240 rfl (lv_sub hl [0, 3, 4] rfl) ⟨by omega, by omega⟩ hI hS
        · skip
          have k4242 := iv_ne (X := v4218.toInt) (Y := (0)) rfl (by decide) c4236
          refine lv_iconst (v := 1) hx hb dX5_look_152 (by decide) ?_
          refine lv_iload_n hx hb dX5_look_153 rfl (lv_at hl 2 rfl) ?_
          refine lv_ishl hx hb dX5_look_154 ?_
          refine lv_topi (fun v4243 e4244 => ?_)
          refine lv_goto (tgt := 159) hx hb dX5_look_155 (by decide) ?_
          refine lv_ior hx hb dX5_look_159 ?_
          refine lv_topi (fun v4245 e4246 => ?_)
          refine th_put (ty := .int) hx hb hts inT5 tyX5 tyX5_ok nmX5 hown hK hO hS ⟨_, hG0⟩ rfl 5 (by decide) (hts _ (tb_c wd_281)) rfl rfl (by decide +kernel) rfl rfl (Nat.le_of_ble_eq_true rfl) dX5_look_160 (fun H locs hO oq hS => ?_)
          have hI := th_I.moved hI oq
          have hO : va_at D vwCl (h0, .inr (5, [.ref a4226, .ref a4228, .ref a4230, .ref a4232, .int w4234, .int v4245])) H := hO
          obtain ⟨v4247, e4248⟩ : ∃ y : Int32, y = v4216 + (1) := ⟨_, rfl⟩
          have tv4247 : v4247.toInt = v4216.toInt + (1) := iv_add rfl (by decide) e4248 (by omega) (by omega)
          refine lv_iinc (v := v4247) (lv' := [(2, .int v4247), (4, .int v4218), (3, .int v4219), (0, .ref h0), (1, .int x1)]) hx hb dX5_look_163 hl (k := 2) rfl (by rw [e4248]; rfl) (by decide) rfl (fun ls hl => ?_)
          refine lv_goto (tgt := 29) hx hb dX5_look_166 (by decide) ?_
          have hI := th_I.close hI hG0 hO (ok_12 hq4227 hq4229 hq4231 hq4233)
          exact ih_29 _ (by omega) H locs ls v4247 rfl (lv_sub hl [0, 3, 4] rfl) ⟨by omega, by omega⟩ hI hS
      have J_99 : ∀ (H : Heap) (locs : List Loc) (ls : Array Slot) (v4249 : Int32) (v4251 : Int32), lv_has ls 5 [(3, .int v4249), (2, .int v4216), (0, .ref h0), (1, .int x1)] → ((0 : Int) ≤ v4216.toInt ∧ v4216.toInt ≤ 9) → ((0 : Int) ≤ v4251.toInt ∧ v4251.toInt ≤ 1) → th_I (okC E) D G [] H → va_S (th_A G) s.heap H locs → W p l e R s m args below meth c H locs 0 0 QF (F0 m 99 ls [.int v4251]) := by
        intro H locs ls v4249 v4251 hl k4252 k4253 hI hS
        refine lv_istore (lv' := [(4, .int v4251), (3, .int v4249), (2, .int v4216), (0, .ref h0), (1, .int x1)]) hx hb dX5_look_99 hl (by decide) rfl (fun ls hl => ?_)
        refine lv_aload_n hx hb dX5_look_101 rfl (lv_at hl 3 rfl) ?_
        obtain ⟨a4254, a4256, a4258, a4260, w4262, w4263, hO, hq4255, hq4257, hq4259, hq4261⟩ := op_12 hI hG0 List.not_mem_nil
        have hI := th_I.weak (a := h0) hI
        refine th_get hx hb hts inT5 hown hK hO rfl 1 (by decide) (hts _ (tb_c wd_277)) rfl rfl dX5_look_102 ?_
        refine lv_aload_n hx hb dX5_look_105 rfl (lv_at hl 3 rfl) ?_
        refine th_get hx hb hts inT5 hown hK hO rfl 0 (by decide) (hts _ (tb_c wd_276)) rfl rfl dX5_look_106 ?_
        have hI := th_I.close hI hG0 hO (ok_12 hq4255 hq4257 hq4259 hq4261)
        obtain ⟨a4264, a4266, a4268, a4270, a4272, a4274, a4276, a4278, a4280, a4282, w4284, w4287, w4288, w4289, hO, hq4265, hq4267, hq4269, hq4271, hq4273, hq4275, hq4277, hq4279, hq4281, hq4283, ⟨k4285, k4286⟩⟩ := op_6 hI hq4255 List.not_mem_nil
        have hI := th_I.weak (a := a4254) hI
        refine th_getN hx hb hts inT6 hown hK hN hO rfl 6 (by decide) wn_73 rfl rfl dX5_look_109 ?_
        refine lv_iload_n hx hb dX5_look_112 rfl (lv_at hl 2 rfl) ?_
        refine lv_iconst (v := 0) hx hb dX5_look_113 (by decide) ?_
        have hI := th_I.close hI hq4255 hO (ok_6 hq4265 hq4267 hq4269 hq4271 hq4273 hq4275 hq4277 hq4279 hq4281 hq4283 ⟨by omega, by omega⟩)
        refine th_cVi (As := [.int v4216, .int 0]) (rest := [.ref a4256]) (n := 2) (d := 0) ⟨hx, hb, hml, hown, hts⟩ (c_X4_at l E D G a4276 (10) hq4277 v4216 0) wd_1005 wd_519 wd_520 wd_3 wd_521 (by decide +kernel) ⟨by rw [hR]; exact Nat.le_of_ble_eq_true rfl, by rw [hR]; exact Nat.le_of_ble_eq_true rfl⟩ hI hN hK hS (rc_4 hI hq4277 List.not_mem_nil) rfl rfl hl.1 rfl (Nat.le_of_ble_eq_true rfl) dX5_look_114 ⟨Nat.zero_le _, Nat.zero_le _⟩ (fun r4290 H locs hp hI hS => ?_)
        refine lv_iload_n hx hb dX5_look_117 rfl (lv_at hl 1 rfl) ?_
        refine lv_iconst (v := 0) hx hb dX5_look_118 (by decide) ?_
        refine th_cVi (As := [.int r4290, .int v4249, .int 0]) (rest := []) (n := 3) (d := 5) ⟨hx, hb, hml, hown, hts⟩ (c_X9_traceBack l E D G a4256 hq4257 r4290 v4249 0) wd_1006 wd_851 wd_852 wd_8 wd_853 (by decide +kernel) ⟨by rw [hR]; exact Nat.le_of_ble_eq_true rfl, by rw [hR]; exact Nat.le_of_ble_eq_true rfl⟩ hI hN hK hS (rc_10 hI hq4257 List.not_mem_nil) rfl rfl hl.1 rfl (Nat.le_of_ble_eq_true rfl) dX5_look_119 ⟨Nat.zero_le _, Nat.zero_le _⟩ (fun r4291 H locs hp hI hS => ?_)
        refine lv_pop hx hb dX5_look_122 rfl ?_
        refine lv_aload_n hx hb dX5_look_123 rfl (lv_at hl 3 rfl) ?_
        refine lv_iload_n hx hb dX5_look_124 rfl (lv_at hl 1 rfl) ?_
        refine lv_iload hx hb dX5_look_125 (lv_at hl 0 rfl) ?_
        refine lv_if_eq (tgt := 136) hx hb dX5_look_127 (by decide) (fun c4292 => ?_) (fun c4292 => ?_)
        · skip
          have k4293 := iv_eq (X := v4251.toInt) (Y := (0)) rfl (by decide) c4292
          refine lv_sipush (v := 1024) hx hb dX5_look_136 (by decide) ?_
          exact J_139 H locs ls v4251 v4249 1024 v4249 (lv_sub hl [0, 1, 2, 3, 4] rfl) ⟨by omega, by omega⟩ ⟨by omega, by omega⟩ hI hS
        · skip
          have k4294 := iv_ne (X := v4251.toInt) (Y := (0)) rfl (by decide) c4292
          refine lv_iconst (v := 1) hx hb dX5_look_130 (by decide) ?_
          refine lv_iload_n hx hb dX5_look_131 rfl (lv_at hl 2 rfl) ?_
          refine lv_ishl hx hb dX5_look_132 ?_
          refine lv_topi (fun v4295 e4296 => ?_)
          refine lv_goto (tgt := 139) hx hb dX5_look_133 (by decide) ?_
          exact J_139 H locs ls v4251 v4249 v4295 v4249 (lv_sub hl [0, 1, 2, 3, 4] rfl) ⟨by omega, by omega⟩ ⟨by omega, by omega⟩ hI hS
      refine lv_iload_n hx hb dX5_look_29 rfl (lv_at hl 0 rfl) ?_
      refine lv_aload_n hx hb dX5_look_30 rfl (lv_at hl 1 rfl) ?_
      obtain ⟨a4297, a4299, a4301, a4303, w4305, w4306, hO, hq4298, hq4300, hq4302, hq4304⟩ := op_12 hI hG0 List.not_mem_nil
      have hI := th_I.weak (a := h0) hI
      refine th_get hx hb hts inT5 hown hK hO rfl 0 (by decide) (hts _ (tb_c wd_276)) rfl rfl dX5_look_31 ?_
      have hI := th_I.close hI hG0 hO (ok_12 hq4298 hq4300 hq4302 hq4304)
      obtain ⟨a4307, a4309, a4311, a4313, a4315, a4317, a4319, a4321, a4323, a4325, w4327, w4330, w4331, w4332, hO, hq4308, hq4310, hq4312, hq4314, hq4316, hq4318, hq4320, hq4322, hq4324, hq4326, ⟨k4328, k4329⟩⟩ := op_6 hI hq4298 List.not_mem_nil
      have hI := th_I.weak (a := a4297) hI
      refine th_getN hx hb hts inT6 hown hK hN hO rfl 6 (by decide) wn_73 rfl rfl dX5_look_34 ?_
      have hI := th_I.close hI hq4298 hO (ok_6 hq4308 hq4310 hq4312 hq4314 hq4316 hq4318 hq4320 hq4322 hq4324 hq4326 ⟨by omega, by omega⟩)
      obtain ⟨a4334, w4336, hO, hq4335, ⟨k4337, k4338⟩, k4339⟩ := op_4 hI hq4320 List.not_mem_nil
      have hI := th_I.weak (a := a4319) hI
      have k4340 : (nI 10).toInt = ((10 : Nat) : Int) := nI_toInt (by omega)
      refine th_cVs (As := []) (rest := [.int v4216]) (n := 0) (d := 0) ⟨hx, hb, hml, hown, hts⟩ (c_X4_size l E D H a4319 10 a4334 w4336 hO (by omega) (by omega) (by omega)) wd_1004 wd_507 wd_508 wd_3 wd_509 (by decide +kernel) ⟨by rw [hR]; exact Nat.le_of_ble_eq_true rfl, by rw [hR]; exact Nat.le_of_ble_eq_true rfl⟩ hN hK hS ⟨_, hO⟩ rfl rfl hl.1 rfl (Nat.le_of_ble_eq_true rfl) dX5_look_37 ⟨Nat.zero_le _, Nat.zero_le _⟩ (fun r4333 locs hp hS => ?_)
      have hp := hp.symm
      subst hp
      refine lv_icmp_ge (tgt := 169) hx hb dX5_look_40 (by decide) (fun c4341 => ?_) (fun c4341 => ?_)
      · skip
        have k4342 := iv_le (X := w4336.toInt) (Y := v4216.toInt) rfl rfl c4341
        have hI := th_I.close hI hq4320 hO (ok_4 hq4335 ⟨by omega, by omega⟩ (by omega))
        rw [hQ]
        exact W.vret hx hb hr (fun t ht hW => ⟨⟨(), rfl, trivial, by rw [ht]; exact hI, hN.warm hW, va_K.moved hW.alike hK⟩, hS.F ht⟩) hS.2.2 dX5_look_169
      · skip
        have k4343 := iv_nle (X := w4336.toInt) (Y := v4216.toInt) rfl rfl c4341
        refine lv_iload_n hx hb dX5_look_43 rfl (lv_at hl 0 rfl) ?_
        refine lv_bipush (v := 10) hx hb dX5_look_44 (by decide) ?_
        refine lv_icmp_ge (tgt := 169) hx hb dX5_look_46 (by decide) (fun c4344 => ?_) (fun c4344 => ?_)
        · skip
          have k4345 := iv_le (X := (10)) (Y := v4216.toInt) (by decide) rfl c4344
          exfalso; omega
        · skip
          have k4346 := iv_nle (X := (10)) (Y := v4216.toInt) (by decide) rfl c4344
          refine lv_aload_n hx hb dX5_look_49 rfl (lv_at hl 1 rfl) ?_
          have hI := th_I.close hI hq4320 hO (ok_4 hq4335 ⟨by omega, by omega⟩ (by omega))
          obtain ⟨a4347, a4349, a4351, a4353, w4355, w4356, hO, hq4348, hq4350, hq4352, hq4354⟩ := op_12 hI hG0 List.not_mem_nil
          have hI := th_I.weak (a := h0) hI
          refine th_get hx hb hts inT5 hown hK hO rfl 0 (by decide) (hts _ (tb_c wd_276)) rfl rfl dX5_look_50 ?_
          have hI := th_I.close hI hG0 hO (ok_12 hq4348 hq4350 hq4352 hq4354)
          obtain ⟨a4357, a4359, a4361, a4363, a4365, a4367, a4369, a4371, a4373, a4375, w4377, w4380, w4381, w4382, hO, hq4358, hq4360, hq4362, hq4364, hq4366, hq4368, hq4370, hq4372, hq4374, hq4376, ⟨k4378, k4379⟩⟩ := op_6 hI hq4348 List.not_mem_nil
          have hI := th_I.weak (a := a4347) hI
          refine th_getN hx hb hts inT6 hown hK hN hO rfl 6 (by decide) wn_73 rfl rfl dX5_look_53 ?_
          refine lv_iload_n hx hb dX5_look_56 rfl (lv_at hl 0 rfl) ?_
          refine lv_iconst (v := 2) hx hb dX5_look_57 (by decide) ?_
          have hI := th_I.close hI hq4348 hO (ok_6 hq4358 hq4360 hq4362 hq4364 hq4366 hq4368 hq4370 hq4372 hq4374 hq4376 ⟨by omega, by omega⟩)
          refine th_cVi (As := [.int v4216, .int 2]) (rest := []) (n := 2) (d := 0) ⟨hx, hb, hml, hown, hts⟩ (c_X4_at l E D G a4369 (10) hq4370 v4216 2) wd_1005 wd_519 wd_520 wd_3 wd_521 (by decide +kernel) ⟨by rw [hR]; exact Nat.le_of_ble_eq_true rfl, by rw [hR]; exact Nat.le_of_ble_eq_true rfl⟩ hI hN hK hS (rc_4 hI hq4370 List.not_mem_nil) rfl rfl hl.1 rfl (Nat.le_of_ble_eq_true rfl) dX5_look_58 ⟨Nat.zero_le _, Nat.zero_le _⟩ (fun r4383 H locs hp hI hS => ?_)
          refine lv_iload_n hx hb dX5_look_61 rfl (lv_at hl 2 rfl) ?_
          have k4384 := iv_lo r4383
          have k4385 := iv_hi r4383
          have k4386 := iv_lo x1
          have k4387 := iv_hi x1
          refine lv_icmp_ne (tgt := 163) hx hb dX5_look_62 (by decide) (fun c4388 => ?_) (fun c4388 => ?_)
          · skip
            have k4389 := iv_ne (X := r4383.toInt) (Y := x1.toInt) rfl rfl c4388
            obtain ⟨v4390, e4391⟩ : ∃ y : Int32, y = v4216 + (1) := ⟨_, rfl⟩
            have tv4390 : v4390.toInt = v4216.toInt + (1) := iv_add rfl (by decide) e4391 (by omega) (by omega)
            refine lv_iinc (v := v4390) (lv' := [(2, .int v4390), (0, .ref h0), (1, .int x1)]) hx hb dX5_look_163 hl (k := 0) rfl (by rw [e4391]; rfl) (by decide) rfl (fun ls hl => ?_)
            refine lv_goto (tgt := 29) hx hb dX5_look_166 (by decide) ?_
            exact ih_29 _ (by omega) H locs ls v4390 rfl (lv_sub hl [0, 1, 2] rfl) ⟨by omega, by omega⟩ hI hS
          · skip
            have k4392 := iv_eq (X := r4383.toInt) (Y := x1.toInt) rfl rfl c4388
            refine lv_aload_n hx hb dX5_look_65 rfl (lv_at hl 1 rfl) ?_
            obtain ⟨a4393, a4395, a4397, a4399, w4401, w4402, hO, hq4394, hq4396, hq4398, hq4400⟩ := op_12 hI hG0 List.not_mem_nil
            have hI := th_I.weak (a := h0) hI
            refine th_get hx hb hts inT5 hown hK hO rfl 0 (by decide) (hts _ (tb_c wd_276)) rfl rfl dX5_look_66 ?_
            have hI := th_I.close hI hG0 hO (ok_12 hq4394 hq4396 hq4398 hq4400)
            obtain ⟨a4403, a4405, a4407, a4409, a4411, a4413, a4415, a4417, a4419, a4421, w4423, w4426, w4427, w4428, hO, hq4404, hq4406, hq4408, hq4410, hq4412, hq4414, hq4416, hq4418, hq4420, hq4422, ⟨k4424, k4425⟩⟩ := op_6 hI hq4394 List.not_mem_nil
            have hI := th_I.weak (a := a4393) hI
            refine th_getN hx hb hts inT6 hown hK hN hO rfl 6 (by decide) wn_73 rfl rfl dX5_look_69 ?_
            refine lv_iload_n hx hb dX5_look_72 rfl (lv_at hl 0 rfl) ?_
            refine lv_iconst (v := 1) hx hb dX5_look_73 (by decide) ?_
            have hI := th_I.close hI hq4394 hO (ok_6 hq4404 hq4406 hq4408 hq4410 hq4412 hq4414 hq4416 hq4418 hq4420 hq4422 ⟨by omega, by omega⟩)
            refine th_cVi (As := [.int v4216, .int 1]) (rest := []) (n := 2) (d := 0) ⟨hx, hb, hml, hown, hts⟩ (c_X4_at l E D G a4415 (10) hq4416 v4216 1) wd_1005 wd_519 wd_520 wd_3 wd_521 (by decide +kernel) ⟨by rw [hR]; exact Nat.le_of_ble_eq_true rfl, by rw [hR]; exact Nat.le_of_ble_eq_true rfl⟩ hI hN hK hS (rc_4 hI hq4416 List.not_mem_nil) rfl rfl hl.1 rfl (Nat.le_of_ble_eq_true rfl) dX5_look_74 ⟨Nat.zero_le _, Nat.zero_le _⟩ (fun r4429 H locs hp hI hS => ?_)
            refine lv_istore_n (lv' := [(3, .int r4429), (2, .int v4216), (0, .ref h0), (1, .int x1)]) hx hb dX5_look_77 rfl hl (by decide) rfl (fun ls hl => ?_)
            refine lv_aload_n hx hb dX5_look_78 rfl (lv_at hl 2 rfl) ?_
            obtain ⟨a4430, a4432, a4434, a4436, w4438, w4439, hO, hq4431, hq4433, hq4435, hq4437⟩ := op_12 hI hG0 List.not_mem_nil
            have hI := th_I.weak (a := h0) hI
            refine th_get hx hb hts inT5 hown hK hO rfl 0 (by decide) (hts _ (tb_c wd_276)) rfl rfl dX5_look_79 ?_
            have hI := th_I.close hI hG0 hO (ok_12 hq4431 hq4433 hq4435 hq4437)
            obtain ⟨a4440, a4442, a4444, a4446, a4448, a4450, a4452, a4454, a4456, a4458, w4460, w4463, w4464, w4465, hO, hq4441, hq4443, hq4445, hq4447, hq4449, hq4451, hq4453, hq4455, hq4457, hq4459, ⟨k4461, k4462⟩⟩ := op_6 hI hq4431 List.not_mem_nil
            have hI := th_I.weak (a := a4430) hI
            refine th_getN hx hb hts inT6 hown hK hN hO rfl 6 (by decide) wn_73 rfl rfl dX5_look_82 ?_
            refine lv_iload_n hx hb dX5_look_85 rfl (lv_at hl 1 rfl) ?_
            refine lv_iconst (v := 3) hx hb dX5_look_86 (by decide) ?_
            have hI := th_I.close hI hq4431 hO (ok_6 hq4441 hq4443 hq4445 hq4447 hq4449 hq4451 hq4453 hq4455 hq4457 hq4459 ⟨by omega, by omega⟩)
            refine th_cVi (As := [.int v4216, .int 3]) (rest := []) (n := 2) (d := 0) ⟨hx, hb, hml, hown, hts⟩ (c_X4_at l E D G a4452 (10) hq4453 v4216 3) wd_1005 wd_519 wd_520 wd_3 wd_521 (by decide +kernel) ⟨by rw [hR]; exact Nat.le_of_ble_eq_true rfl, by rw [hR]; exact Nat.le_of_ble_eq_true rfl⟩ hI hN hK hS (rc_4 hI hq4453 List.not_mem_nil) rfl rfl hl.1 rfl (Nat.le_of_ble_eq_true rfl) dX5_look_87 ⟨Nat.zero_le _, Nat.zero_le _⟩ (fun r4466 H locs hp hI hS => ?_)
            refine lv_iconst (v := 1) hx hb dX5_look_90 (by decide) ?_
            have k4467 := iv_lo r4466
            have k4468 := iv_hi r4466
            refine lv_icmp_ne (tgt := 98) hx hb dX5_look_91 (by decide) (fun c4469 => ?_) (fun c4469 => ?_)
            · skip
              have k4470 := iv_ne (X := r4466.toInt) (Y := (1)) rfl (by decide) c4469
              refine lv_iconst (v := 0) hx hb dX5_look_98 (by decide) ?_
              exact J_99 H locs ls r4429 0 (lv_sub hl [0, 1, 2, 3] rfl) ⟨by omega, by omega⟩ ⟨by decide, by decide⟩ hI hS
            · skip
              have k4471 := iv_eq (X := r4466.toInt) (Y := (1)) rfl (by decide) c4469
              refine lv_iconst (v := 1) hx hb dX5_look_94 (by decide) ?_
              refine lv_goto (tgt := 99) hx hb dX5_look_95 (by decide) ?_
              exact J_99 H locs ls r4429 1 (lv_sub hl [0, 1, 2, 3] rfl) ⟨by omega, by omega⟩ ⟨by decide, by decide⟩ hI hS
  refine lv_aload_n hx hb dX5_look_0 rfl (lv_at hl 0 rfl) ?_
  obtain ⟨a4472, a4474, a4476, a4478, w4480, w4481, hO, hq4473, hq4475, hq4477, hq4479⟩ := op_12 hI hG0 List.not_mem_nil
  have hI := th_I.weak (a := h0) hI
  refine th_get hx hb hts inT5 hown hK hO rfl 4 (by decide) (hts _ (tb_c wd_280)) rfl rfl dX5_look_1 ?_
  refine lv_iload_n hx hb dX5_look_4 rfl (lv_at hl 1 rfl) ?_
  have k4482 := iv_lo w4480
  have k4483 := iv_hi w4480
  have k4484 := iv_lo x1
  have k4485 := iv_hi x1
  refine lv_icmp_ne (tgt := 9) hx hb dX5_look_5 (by decide) (fun c4486 => ?_) (fun c4486 => ?_)
  · skip
    have k4487 := iv_ne (X := w4480.toInt) (Y := x1.toInt) rfl rfl c4486
    refine lv_aload_n hx hb dX5_look_9 rfl (lv_at hl 0 rfl) ?_
    refine lv_iload_n hx hb dX5_look_10 rfl (lv_at hl 1 rfl) ?_
    refine th_put (ty := .int) hx hb hts inT5 tyX5 tyX5_ok nmX5 hown hK hO hS ⟨_, hG0⟩ rfl 4 (by decide) (hts _ (tb_c wd_280)) rfl rfl (by decide +kernel) rfl rfl (Nat.le_of_ble_eq_true rfl) dX5_look_11 (fun H locs hO oq hS => ?_)
    have hI := th_I.moved hI oq
    have hO : va_at D vwCl (h0, .inr (5, [.ref a4472, .ref a4474, .ref a4476, .ref a4478, .int x1, .int w4481])) H := hO
    refine lv_aload_n hx hb dX5_look_14 rfl (lv_at hl 0 rfl) ?_
    refine lv_iconst (v := 0) hx hb dX5_look_15 (by decide) ?_
    refine th_put (ty := .int) hx hb hts inT5 tyX5 tyX5_ok nmX5 hown hK hO hS ⟨_, hG0⟩ rfl 5 (by decide) (hts _ (tb_c wd_281)) rfl rfl (by decide +kernel) rfl rfl (Nat.le_of_ble_eq_true rfl) dX5_look_16 (fun H locs hO oq hS => ?_)
    have hI := th_I.moved hI oq
    have hO : va_at D vwCl (h0, .inr (5, [.ref a4472, .ref a4474, .ref a4476, .ref a4478, .int x1, .int 0])) H := hO
    refine lv_aload_n hx hb dX5_look_19 rfl (lv_at hl 0 rfl) ?_
    refine th_get hx hb hts inT5 hown hK hO rfl 2 (by decide) (hts _ (tb_c wd_278)) rfl rfl dX5_look_20 ?_
    refine lv_iconst (v := 0) hx hb dX5_look_23 (by decide) ?_
    have hI := th_I.close hI hG0 hO (ok_12 hq4473 hq4475 hq4477 hq4479)
    refine th_cSv (As := [.ref a4476, .int 0]) (rest := []) (n := 2) (d := 0) ⟨hx, hb, hml, hown, hts⟩ (c_J7_fill_53178 l E D G a4476 (2304) hq4477 (by omega) 0) wd_1003 wd_541 wd_15 wd_542 (by decide +kernel) ⟨by rw [hR]; exact Nat.le_of_ble_eq_true rfl, by rw [hR]; exact Nat.le_of_ble_eq_true rfl⟩ hI hN hK hS rfl hl.1 rfl (Nat.le_of_ble_eq_true rfl) dX5_look_24 ⟨Nat.zero_le _, Nat.zero_le _⟩ (fun H locs hI hS => ?_)
    refine lv_iconst (v := 0) hx hb dX5_look_27 (by decide) ?_
    refine lv_istore_n (lv' := [(2, .int 0), (0, .ref h0), (1, .int x1)]) hx hb dX5_look_28 rfl hl (by decide) rfl (fun ls hl => ?_)
    have zl : (0 : Int32).toInt = 0 := by decide
    exact J_29 _ H locs ls 0 rfl (lv_sub hl [0, 1, 2] rfl) ⟨by decide, by decide⟩ hI hS
  · skip
    have k4489 := iv_eq (X := w4480.toInt) (Y := x1.toInt) rfl rfl c4486
    have hI := th_I.close hI hG0 hO (ok_12 hq4473 hq4475 hq4477 hq4479)
    rw [hQ]
    exact W.vret hx hb hr (fun t ht hW => ⟨⟨(), rfl, trivial, by rw [ht]; exact hI, hN.warm hW, va_K.moved hW.alike hK⟩, hS.F ht⟩) hS.2.2 dX5_look_8
theorem dX5_countAlone_0 : decode cX5_countAlone 0 = .ok (.aload_n 0, 1) := by decide +kernel
theorem dX5_countAlone_1 : decode cX5_countAlone 1 = .ok (.iload_n 1, 1) := by decide +kernel
theorem dX5_countAlone_2 : decode cX5_countAlone 2 = .ok (.invokevirtual 34, 3) := by decide +kernel
theorem dX5_countAlone_5 : decode cX5_countAlone 5 = .ok (.iconst 0, 1) := by decide +kernel
theorem dX5_countAlone_6 : decode cX5_countAlone 6 = .ok (.istore_n 2, 1) := by decide +kernel
theorem dX5_countAlone_7 : decode cX5_countAlone 7 = .ok (.aload_n 0, 1) := by decide +kernel
theorem dX5_countAlone_8 : decode cX5_countAlone 8 = .ok (.getfield 11, 3) := by decide +kernel
theorem dX5_countAlone_11 : decode cX5_countAlone 11 = .ok (.astore_n 3, 1) := by decide +kernel
theorem dX5_countAlone_12 : decode cX5_countAlone 12 = .ok (.aload_n 3, 1) := by decide +kernel
theorem dX5_countAlone_13 : decode cX5_countAlone 13 = .ok (.arraylength, 1) := by decide +kernel
theorem dX5_countAlone_14 : decode cX5_countAlone 14 = .ok (.istore 4, 2) := by decide +kernel
theorem dX5_countAlone_16 : decode cX5_countAlone 16 = .ok (.iconst 0, 1) := by decide +kernel
theorem dX5_countAlone_17 : decode cX5_countAlone 17 = .ok (.istore 5, 2) := by decide +kernel
theorem dX5_countAlone_19 : decode cX5_countAlone 19 = .ok (.iload 5, 2) := by decide +kernel
theorem dX5_countAlone_21 : decode cX5_countAlone 21 = .ok (.iload 4, 2) := by decide +kernel
theorem dX5_countAlone_23 : decode cX5_countAlone 23 = .ok (.if_icmp .ge 32, 3) := by decide +kernel
theorem dX5_countAlone_26 : decode cX5_countAlone 26 = .ok (.aload_n 3, 1) := by decide +kernel
theorem dX5_countAlone_27 : decode cX5_countAlone 27 = .ok (.iload 5, 2) := by decide +kernel
theorem dX5_countAlone_29 : decode cX5_countAlone 29 = .ok (.iaload, 1) := by decide +kernel
theorem dX5_countAlone_30 : decode cX5_countAlone 30 = .ok (.istore 6, 2) := by decide +kernel
theorem dX5_countAlone_32 : decode cX5_countAlone 32 = .ok (.iload_n 2, 1) := by decide +kernel
theorem dX5_countAlone_33 : decode cX5_countAlone 33 = .ok (.iload 6, 2) := by decide +kernel
theorem dX5_countAlone_35 : decode cX5_countAlone 35 = .ok (.aload_n 0, 1) := by decide +kernel
theorem dX5_countAlone_36 : decode cX5_countAlone 36 = .ok (.getfield 23, 3) := by decide +kernel
theorem dX5_countAlone_39 : decode cX5_countAlone 39 = .ok (.if_icmp .ne 7, 3) := by decide +kernel
theorem dX5_countAlone_42 : decode cX5_countAlone 42 = .ok (.iconst 1, 1) := by decide +kernel
theorem dX5_countAlone_43 : decode cX5_countAlone 43 = .ok (.goto 4, 3) := by decide +kernel
theorem dX5_countAlone_46 : decode cX5_countAlone 46 = .ok (.iconst 0, 1) := by decide +kernel
theorem dX5_countAlone_47 : decode cX5_countAlone 47 = .ok (.iadd, 1) := by decide +kernel
theorem dX5_countAlone_48 : decode cX5_countAlone 48 = .ok (.istore_n 2, 1) := by decide +kernel
theorem dX5_countAlone_49 : decode cX5_countAlone 49 = .ok (.iinc 5 1, 3) := by decide +kernel
theorem dX5_countAlone_52 : decode cX5_countAlone 52 = .ok (.goto (-33), 3) := by decide +kernel
theorem dX5_countAlone_55 : decode cX5_countAlone 55 = .ok (.iload_n 2, 1) := by decide +kernel
theorem dX5_countAlone_56 : decode cX5_countAlone 56 = .ok (.ireturn, 1) := by decide +kernel
set_option maxHeartbeats 4000000 in
set_option maxRecDepth 100000 in
theorem c_X5_countAlone (l : Launch) (E : Nat → ClassId) (D : va_G) (G : th_G) (h0 : Nat) (hG0 : G h0 = some (12, 0)) (x1 : Int32) : Met l yX5_countAlone (tb (.code yX5_countAlone cX5_countAlone 7 (some .int))) (rm 7) (va_Pc [.ref h0, .int x1] (th_P E D G)) (QI E D G (fun r => True)) 0 0 (th_A G) := by
  refine Met.ofW (cc := cX5_countAlone) (maxL := 7) (ret := (some .int)) (by decide) rfl ?_
  intro p e s m args below meth c s₁ B hml hv
  obtain ⟨hav, hI, hN, hK⟩ := hv
  have hx := B.exec
  have hb := B.bytes
  have hr := B.returns
  have hts := atoms_spec (ws := tb (.code yX5_countAlone cX5_countAlone 7 (some .int))) B.pre
  have hown : s.vm.findClass RX5 = some m.cls := findClass_of_methodNamed B.named
  have hlocks := B.notSynchronized
  have hS : va_S (th_A G) s.heap s.heap [] := va_S.rf
  have hl := lv_entry ([.ref h0, .int x1]) (n := 7) (Nat.le_of_ble_eq_true rfl)
  rw [show entryFrame m args 7 = entryFrame m ([.ref h0, .int x1] : List Value).toArray 7 from by rw [hav], lg_entry_eq]
  generalize (lg_sl ([.ref h0, .int x1]) ++ List.replicate (7 - (lg_sl ([.ref h0, .int x1])).length) Slot.unset).toArray = ls at hl ⊢
  have hl : lv_has ls 7 [(0, .ref h0), (1, .int x1)] := hl
  generalize hR : (headSpec (tb (.code yX5_countAlone cX5_countAlone 7 (some .int))) (rm 7)).room = R
  have hR := hR.symm
  generalize hQ : MQ below (QI E D G (fun r => True)) args s 0 0 (th_A G) = QF
  have hQ := hQ.symm
  have J_19 : ∀ (nn : Nat) (H : Heap) (locs : List Loc) (ls : Array Slot) (v1512 : Int32) (a1513 : Nat) (v1514 : Int32), (Int.toNat (2304 - v1512.toInt) = nn) → lv_has ls 7 [(5, .int v1512), (4, .int 2304), (3, .ref a1513), (2, .int v1514), (0, .ref h0), (1, .int x1)] → ((0 : Int) ≤ v1512.toInt ∧ v1512.toInt ≤ 2304) → G a1513 = some (0, 2304) → th_I (okC E) D G [] H → va_S (th_A G) s.heap H locs → W p l e R s m args below meth c H locs 0 0 QF (F0 m 19 ls []) := by
    intro nn
    induction nn using Nat.strongRecOn with
    | ind nn ih_19 =>
      intro H locs ls v1512 a1513 v1514 hm hl k1515 ha1513 hI hS
      refine lv_iload hx hb dX5_countAlone_19 (lv_at hl 0 rfl) ?_
      refine lv_iload hx hb dX5_countAlone_21 (lv_at hl 1 rfl) ?_
      refine lv_icmp_ge (tgt := 55) hx hb dX5_countAlone_23 (by decide) (fun c1516 => ?_) (fun c1516 => ?_)
      · skip
        have k1517 := iv_le (X := (2304)) (Y := v1512.toInt) (by decide) rfl c1516
        refine lv_iload_n hx hb dX5_countAlone_55 rfl (lv_at hl 3 rfl) ?_
        have hpost : True := trivial
        rw [hQ]
        exact W.iret (v := v1514) hx hb hr (fun t ht hW => ⟨⟨v1514, (), rfl, hpost, by rw [ht]; exact hI, hN.warm hW, va_K.moved hW.alike hK⟩, hS.F ht⟩) hS.2.2 dX5_countAlone_56
      · skip
        have k1518 := iv_nle (X := (2304)) (Y := v1512.toInt) (by decide) rfl c1516
        refine lv_aload_n hx hb dX5_countAlone_26 rfl (lv_at hl 2 rfl) ?_
        refine lv_iload hx hb dX5_countAlone_27 (lv_at hl 0 rfl) ?_
        obtain ⟨_, hA1519⟩ := op_0 hI ha1513 List.not_mem_nil
        refine th_iald hx hb hK hA1519 0 rfl (iv_in (X := v1512.toInt) rfl (by omega) (by omega)) dX5_countAlone_29 (fun v1520 _ => ?_)
        refine lv_istore (lv' := [(6, .int v1520), (5, .int v1512), (4, .int 2304), (3, .ref a1513), (2, .int v1514), (0, .ref h0), (1, .int x1)]) hx hb dX5_countAlone_30 hl (by decide) rfl (fun ls hl => ?_)
        refine lv_iload_n hx hb dX5_countAlone_32 rfl (lv_at hl 4 rfl) ?_
        refine lv_iload hx hb dX5_countAlone_33 (lv_at hl 0 rfl) ?_
        refine lv_aload_n hx hb dX5_countAlone_35 rfl (lv_at hl 5 rfl) ?_
        obtain ⟨a1521, a1523, a1525, a1527, w1529, w1530, hO, hq1522, hq1524, hq1526, hq1528⟩ := op_12 hI hG0 List.not_mem_nil
        have hI := th_I.weak (a := h0) hI
        refine th_get hx hb hts inT5 hown hK hO rfl 5 (by decide) (hts _ (tb_c wd_281)) rfl rfl dX5_countAlone_36 ?_
        have k1531 := iv_lo v1520
        have k1532 := iv_hi v1520
        have k1533 := iv_lo w1530
        have k1534 := iv_hi w1530
        refine lv_icmp_ne (tgt := 46) hx hb dX5_countAlone_39 (by decide) (fun c1535 => ?_) (fun c1535 => ?_)
        · skip
          have k1536 := iv_ne (X := v1520.toInt) (Y := w1530.toInt) rfl rfl c1535
          refine lv_iconst (v := 0) hx hb dX5_countAlone_46 (by decide) ?_
          refine lv_iadd hx hb dX5_countAlone_47 ?_
          refine lv_topi (fun v1537 e1538 => ?_)
          have k1539 := iv_lo v1514
          have k1540 := iv_hi v1514
          have tv1537 : v1537.toInt = v1514.toInt + (0) := iv_add rfl (by decide) e1538 (by omega) (by omega)
          refine lv_istore_n (lv' := [(2, .int v1537), (6, .int v1520), (5, .int v1512), (4, .int 2304), (3, .ref a1513), (0, .ref h0), (1, .int x1)]) hx hb dX5_countAlone_48 rfl hl (by decide) rfl (fun ls hl => ?_)
          obtain ⟨v1541, e1542⟩ : ∃ y : Int32, y = v1512 + (1) := ⟨_, rfl⟩
          have tv1541 : v1541.toInt = v1512.toInt + (1) := iv_add rfl (by decide) e1542 (by omega) (by omega)
          refine lv_iinc (v := v1541) (lv' := [(5, .int v1541), (2, .int v1537), (6, .int v1520), (4, .int 2304), (3, .ref a1513), (0, .ref h0), (1, .int x1)]) hx hb dX5_countAlone_49 hl (k := 2) rfl (by rw [e1542]; rfl) (by decide) rfl (fun ls hl => ?_)
          refine lv_goto (tgt := 19) hx hb dX5_countAlone_52 (by decide) ?_
          have hI := th_I.close hI hG0 hO (ok_12 hq1522 hq1524 hq1526 hq1528)
          exact ih_19 _ (by omega) H locs ls v1541 a1513 v1537 rfl (lv_sub hl [0, 3, 4, 1, 5, 6] rfl) ⟨by omega, by omega⟩ ha1513 hI hS
        · skip
          have k1543 := iv_eq (X := v1520.toInt) (Y := w1530.toInt) rfl rfl c1535
          refine lv_iconst (v := 1) hx hb dX5_countAlone_42 (by decide) ?_
          refine lv_goto (tgt := 47) hx hb dX5_countAlone_43 (by decide) ?_
          refine lv_iadd hx hb dX5_countAlone_47 ?_
          refine lv_topi (fun v1544 e1545 => ?_)
          try have tv1544 : v1544.toInt = v1514.toInt + (1) := iv_add rfl (by decide) e1545 (by omega) (by omega)
          refine lv_istore_n (lv' := [(2, .int v1544), (6, .int v1520), (5, .int v1512), (4, .int 2304), (3, .ref a1513), (0, .ref h0), (1, .int x1)]) hx hb dX5_countAlone_48 rfl hl (by decide) rfl (fun ls hl => ?_)
          obtain ⟨v1546, e1547⟩ : ∃ y : Int32, y = v1512 + (1) := ⟨_, rfl⟩
          have tv1546 : v1546.toInt = v1512.toInt + (1) := iv_add rfl (by decide) e1547 (by omega) (by omega)
          refine lv_iinc (v := v1546) (lv' := [(5, .int v1546), (2, .int v1544), (6, .int v1520), (4, .int 2304), (3, .ref a1513), (0, .ref h0), (1, .int x1)]) hx hb dX5_countAlone_49 hl (k := 2) rfl (by rw [e1547]; rfl) (by decide) rfl (fun ls hl => ?_)
          refine lv_goto (tgt := 19) hx hb dX5_countAlone_52 (by decide) ?_
          have hI := th_I.close hI hG0 hO (ok_12 hq1522 hq1524 hq1526 hq1528)
          exact ih_19 _ (by omega) H locs ls v1546 a1513 v1544 rfl (lv_sub hl [0, 3, 4, 1, 5, 6] rfl) ⟨by omega, by omega⟩ ha1513 hI hS
  refine lv_aload_n hx hb dX5_countAlone_0 rfl (lv_at hl 0 rfl) ?_
  refine lv_iload_n hx hb dX5_countAlone_1 rfl (lv_at hl 1 rfl) ?_
  refine th_cVv (As := [.int x1]) (rest := []) (n := 1) (d := 6) ⟨hx, hb, hml, hown, hts⟩ (c_X5_look l E D G h0 hG0 x1) wd_999 wd_1001 wp_28 wd_10 wd_1002 (by decide +kernel) ⟨by rw [hR]; exact Nat.le_of_ble_eq_true rfl, by rw [hR]; exact Nat.le_of_ble_eq_true rfl⟩ hI hN hK hS (rc_12 hI hG0 List.not_mem_nil) rfl rfl hl.1 rfl (Nat.le_of_ble_eq_true rfl) dX5_countAlone_2 ⟨Nat.zero_le _, Nat.zero_le _⟩ (fun H locs hI hS => ?_)
  refine lv_iconst (v := 0) hx hb dX5_countAlone_5 (by decide) ?_
  refine lv_istore_n (lv' := [(2, .int 0), (0, .ref h0), (1, .int x1)]) hx hb dX5_countAlone_6 rfl hl (by decide) rfl (fun ls hl => ?_)
  refine lv_aload_n hx hb dX5_countAlone_7 rfl (lv_at hl 1 rfl) ?_
  obtain ⟨a1549, a1551, a1553, a1555, w1557, w1558, hO, hq1550, hq1552, hq1554, hq1556⟩ := op_12 hI hG0 List.not_mem_nil
  have hI := th_I.weak (a := h0) hI
  refine th_get hx hb hts inT5 hown hK hO rfl 2 (by decide) (hts _ (tb_c wd_278)) rfl rfl dX5_countAlone_8 ?_
  refine lv_astore_n (lv' := [(3, .ref a1553), (2, .int 0), (0, .ref h0), (1, .int x1)]) hx hb dX5_countAlone_11 rfl hl (by decide) rfl (fun ls hl => ?_)
  refine lv_aload_n hx hb dX5_countAlone_12 rfl (lv_at hl 0 rfl) ?_
  obtain ⟨_, hA1559⟩ := op_0 hI hq1554 (th_ne hG0 hq1554 (show (12 : Nat) ≠ 0 by decide))
  refine va_alen hx hb hK (th_one hA1559) 0 0 rfl (v := 2304) rfl (show Int32.ofNat 2304 = (2304 : Int32) from by decide) dX5_countAlone_13 ?_
  refine lv_istore (lv' := [(4, .int 2304), (3, .ref a1553), (2, .int 0), (0, .ref h0), (1, .int x1)]) hx hb dX5_countAlone_14 hl (by decide) rfl (fun ls hl => ?_)
  refine lv_iconst (v := 0) hx hb dX5_countAlone_16 (by decide) ?_
  refine lv_istore (lv' := [(5, .int 0), (4, .int 2304), (3, .ref a1553), (2, .int 0), (0, .ref h0), (1, .int x1)]) hx hb dX5_countAlone_17 hl (by decide) rfl (fun ls hl => ?_)
  have hI := th_I.close hI hG0 hO (ok_12 hq1550 hq1552 hq1554 hq1556)
  have zl : (0 : Int32).toInt = 0 := by decide
  exact J_19 _ H locs ls 0 a1553 0 rfl (lv_sub hl [0, 1, 2, 3, 4, 5] rfl) ⟨by decide, by decide⟩ hq1554 hI hS
theorem dX5_findAlone_0 : decode cX5_findAlone 0 = .ok (.aload_n 0, 1) := by decide +kernel
theorem dX5_findAlone_1 : decode cX5_findAlone 1 = .ok (.iload_n 1, 1) := by decide +kernel
theorem dX5_findAlone_2 : decode cX5_findAlone 2 = .ok (.invokevirtual 34, 3) := by decide +kernel
theorem dX5_findAlone_5 : decode cX5_findAlone 5 = .ok (.iconst 0, 1) := by decide +kernel
theorem dX5_findAlone_6 : decode cX5_findAlone 6 = .ok (.istore_n 3, 1) := by decide +kernel
theorem dX5_findAlone_7 : decode cX5_findAlone 7 = .ok (.iconst 0, 1) := by decide +kernel
theorem dX5_findAlone_8 : decode cX5_findAlone 8 = .ok (.istore 4, 2) := by decide +kernel
theorem dX5_findAlone_10 : decode cX5_findAlone 10 = .ok (.iload 4, 2) := by decide +kernel
theorem dX5_findAlone_12 : decode cX5_findAlone 12 = .ok (.sipush 2304, 3) := by decide +kernel
theorem dX5_findAlone_15 : decode cX5_findAlone 15 = .ok (.if_icmp .ge 34, 3) := by decide +kernel
theorem dX5_findAlone_18 : decode cX5_findAlone 18 = .ok (.aload_n 0, 1) := by decide +kernel
theorem dX5_findAlone_19 : decode cX5_findAlone 19 = .ok (.getfield 11, 3) := by decide +kernel
theorem dX5_findAlone_22 : decode cX5_findAlone 22 = .ok (.iload 4, 2) := by decide +kernel
theorem dX5_findAlone_24 : decode cX5_findAlone 24 = .ok (.iaload, 1) := by decide +kernel
theorem dX5_findAlone_25 : decode cX5_findAlone 25 = .ok (.aload_n 0, 1) := by decide +kernel
theorem dX5_findAlone_26 : decode cX5_findAlone 26 = .ok (.getfield 23, 3) := by decide +kernel
theorem dX5_findAlone_29 : decode cX5_findAlone 29 = .ok (.if_icmp .ne 14, 3) := by decide +kernel
theorem dX5_findAlone_32 : decode cX5_findAlone 32 = .ok (.iload_n 3, 1) := by decide +kernel
theorem dX5_findAlone_33 : decode cX5_findAlone 33 = .ok (.iload_n 2, 1) := by decide +kernel
theorem dX5_findAlone_34 : decode cX5_findAlone 34 = .ok (.if_icmp .ne 6, 3) := by decide +kernel
theorem dX5_findAlone_37 : decode cX5_findAlone 37 = .ok (.iload 4, 2) := by decide +kernel
theorem dX5_findAlone_39 : decode cX5_findAlone 39 = .ok (.ireturn, 1) := by decide +kernel
theorem dX5_findAlone_40 : decode cX5_findAlone 40 = .ok (.iinc 3 1, 3) := by decide +kernel
theorem dX5_findAlone_43 : decode cX5_findAlone 43 = .ok (.iinc 4 1, 3) := by decide +kernel
theorem dX5_findAlone_46 : decode cX5_findAlone 46 = .ok (.goto (-36), 3) := by decide +kernel
theorem dX5_findAlone_49 : decode cX5_findAlone 49 = .ok (.iconst (-1), 1) := by decide +kernel
theorem dX5_findAlone_50 : decode cX5_findAlone 50 = .ok (.ireturn, 1) := by decide +kernel
set_option maxHeartbeats 4000000 in
set_option maxRecDepth 100000 in
theorem c_X5_findAlone (l : Launch) (E : Nat → ClassId) (D : va_G) (G : th_G) (h0 : Nat) (hG0 : G h0 = some (12, 0)) (x1 x2 : Int32) : Met l yX5_findAlone (tb (.code yX5_findAlone cX5_findAlone 5 (some .int))) (rm 7) (va_Pc [.ref h0, .int x1, .int x2] (th_P E D G)) (QI E D G (fun r => True)) 0 0 (th_A G) := by
  refine Met.ofW (cc := cX5_findAlone) (maxL := 5) (ret := (some .int)) (by decide) rfl ?_
  intro p e s m args below meth c s₁ B hml hv
  obtain ⟨hav, hI, hN, hK⟩ := hv
  have hx := B.exec
  have hb := B.bytes
  have hr := B.returns
  have hts := atoms_spec (ws := tb (.code yX5_findAlone cX5_findAlone 5 (some .int))) B.pre
  have hown : s.vm.findClass RX5 = some m.cls := findClass_of_methodNamed B.named
  have hlocks := B.notSynchronized
  have hS : va_S (th_A G) s.heap s.heap [] := va_S.rf
  have hl := lv_entry ([.ref h0, .int x1, .int x2]) (n := 5) (Nat.le_of_ble_eq_true rfl)
  rw [show entryFrame m args 5 = entryFrame m ([.ref h0, .int x1, .int x2] : List Value).toArray 5 from by rw [hav], lg_entry_eq]
  generalize (lg_sl ([.ref h0, .int x1, .int x2]) ++ List.replicate (5 - (lg_sl ([.ref h0, .int x1, .int x2])).length) Slot.unset).toArray = ls at hl ⊢
  have hl : lv_has ls 5 [(0, .ref h0), (1, .int x1), (2, .int x2)] := hl
  generalize hR : (headSpec (tb (.code yX5_findAlone cX5_findAlone 5 (some .int))) (rm 7)).room = R
  have hR := hR.symm
  generalize hQ : MQ below (QI E D G (fun r => True)) args s 0 0 (th_A G) = QF
  have hQ := hQ.symm
  have J_10 : ∀ (nn : Nat) (H : Heap) (locs : List Loc) (ls : Array Slot) (v1204 : Int32) (v1205 : Int32), (Int.toNat (2304 - v1204.toInt) = nn) → lv_has ls 5 [(4, .int v1204), (3, .int v1205), (0, .ref h0), (1, .int x1), (2, .int x2)] → ((0 : Int) ≤ v1204.toInt ∧ v1204.toInt ≤ 2304) → th_I (okC E) D G [] H → va_S (th_A G) s.heap H locs → W p l e R s m args below meth c H locs 0 0 QF (F0 m 10 ls []) := by
    intro nn
    induction nn using Nat.strongRecOn with
    | ind nn ih_10 =>
      intro H locs ls v1204 v1205 hm hl k1206 hI hS
      refine lv_iload hx hb dX5_findAlone_10 (lv_at hl 0 rfl) ?_
      refine lv_sipush (v := 2304) hx hb dX5_findAlone_12 (by decide) ?_
      refine lv_icmp_ge (tgt := 49) hx hb dX5_findAlone_15 (by decide) (fun c1207 => ?_) (fun c1207 => ?_)
      · skip
        have k1208 := iv_le (X := (2304)) (Y := v1204.toInt) (by decide) rfl c1207
        refine lv_iconst (v := (-1)) hx hb dX5_findAlone_49 (by decide) ?_
        have hpost : True := trivial
        rw [hQ]
        exact W.iret (v := (-1)) hx hb hr (fun t ht hW => ⟨⟨(-1), (), rfl, hpost, by rw [ht]; exact hI, hN.warm hW, va_K.moved hW.alike hK⟩, hS.F ht⟩) hS.2.2 dX5_findAlone_50
      · skip
        have k1209 := iv_nle (X := (2304)) (Y := v1204.toInt) (by decide) rfl c1207
        refine lv_aload_n hx hb dX5_findAlone_18 rfl (lv_at hl 2 rfl) ?_
        obtain ⟨a1210, a1212, a1214, a1216, w1218, w1219, hO, hq1211, hq1213, hq1215, hq1217⟩ := op_12 hI hG0 List.not_mem_nil
        have hI := th_I.weak (a := h0) hI
        refine th_get hx hb hts inT5 hown hK hO rfl 2 (by decide) (hts _ (tb_c wd_278)) rfl rfl dX5_findAlone_19 ?_
        refine lv_iload hx hb dX5_findAlone_22 (lv_at hl 0 rfl) ?_
        obtain ⟨_, hA1220⟩ := op_0 hI hq1215 (th_ne hG0 hq1215 (show (12 : Nat) ≠ 0 by decide))
        refine th_iald hx hb hK hA1220 0 rfl (iv_in (X := v1204.toInt) rfl (by omega) (by omega)) dX5_findAlone_24 (fun v1221 _ => ?_)
        refine lv_aload_n hx hb dX5_findAlone_25 rfl (lv_at hl 2 rfl) ?_
        refine th_get hx hb hts inT5 hown hK hO rfl 5 (by decide) (hts _ (tb_c wd_281)) rfl rfl dX5_findAlone_26 ?_
        have k1222 := iv_lo v1221
        have k1223 := iv_hi v1221
        have k1224 := iv_lo w1219
        have k1225 := iv_hi w1219
        refine lv_icmp_ne (tgt := 43) hx hb dX5_findAlone_29 (by decide) (fun c1226 => ?_) (fun c1226 => ?_)
        · skip
          have k1227 := iv_ne (X := v1221.toInt) (Y := w1219.toInt) rfl rfl c1226
          obtain ⟨v1228, e1229⟩ : ∃ y : Int32, y = v1204 + (1) := ⟨_, rfl⟩
          have tv1228 : v1228.toInt = v1204.toInt + (1) := iv_add rfl (by decide) e1229 (by omega) (by omega)
          refine lv_iinc (v := v1228) (lv' := [(4, .int v1228), (3, .int v1205), (0, .ref h0), (1, .int x1), (2, .int x2)]) hx hb dX5_findAlone_43 hl (k := 0) rfl (by rw [e1229]; rfl) (by decide) rfl (fun ls hl => ?_)
          refine lv_goto (tgt := 10) hx hb dX5_findAlone_46 (by decide) ?_
          have hI := th_I.close hI hG0 hO (ok_12 hq1211 hq1213 hq1215 hq1217)
          exact ih_10 _ (by omega) H locs ls v1228 v1205 rfl (lv_sub hl [0, 1, 2, 3, 4] rfl) ⟨by omega, by omega⟩ hI hS
        · skip
          have k1230 := iv_eq (X := v1221.toInt) (Y := w1219.toInt) rfl rfl c1226
          refine lv_iload_n hx hb dX5_findAlone_32 rfl (lv_at hl 1 rfl) ?_
          refine lv_iload_n hx hb dX5_findAlone_33 rfl (lv_at hl 4 rfl) ?_
          have k1231 := iv_lo v1205
          have k1232 := iv_hi v1205
          have k1233 := iv_lo x2
          have k1234 := iv_hi x2
          refine lv_icmp_ne (tgt := 40) hx hb dX5_findAlone_34 (by decide) (fun c1235 => ?_) (fun c1235 => ?_)
          · skip
            have k1236 := iv_ne (X := v1205.toInt) (Y := x2.toInt) rfl rfl c1235
            obtain ⟨v1237, e1238⟩ : ∃ y : Int32, y = v1205 + (1) := ⟨_, rfl⟩
            refine lv_iinc (v := v1237) (lv' := [(3, .int v1237), (4, .int v1204), (0, .ref h0), (1, .int x1), (2, .int x2)]) hx hb dX5_findAlone_40 hl (k := 1) rfl (by rw [e1238]; rfl) (by decide) rfl (fun ls hl => ?_)
            obtain ⟨v1239, e1240⟩ : ∃ y : Int32, y = v1204 + (1) := ⟨_, rfl⟩
            have tv1239 : v1239.toInt = v1204.toInt + (1) := iv_add rfl (by decide) e1240 (by omega) (by omega)
            refine lv_iinc (v := v1239) (lv' := [(4, .int v1239), (3, .int v1237), (0, .ref h0), (1, .int x1), (2, .int x2)]) hx hb dX5_findAlone_43 hl (k := 1) rfl (by rw [e1240]; rfl) (by decide) rfl (fun ls hl => ?_)
            refine lv_goto (tgt := 10) hx hb dX5_findAlone_46 (by decide) ?_
            have hI := th_I.close hI hG0 hO (ok_12 hq1211 hq1213 hq1215 hq1217)
            exact ih_10 _ (by omega) H locs ls v1239 v1237 rfl (lv_sub hl [0, 1, 2, 3, 4] rfl) ⟨by omega, by omega⟩ hI hS
          · skip
            have k1241 := iv_eq (X := v1205.toInt) (Y := x2.toInt) rfl rfl c1235
            refine lv_iload hx hb dX5_findAlone_37 (lv_at hl 0 rfl) ?_
            have hI := th_I.close hI hG0 hO (ok_12 hq1211 hq1213 hq1215 hq1217)
            have hpost : True := trivial
            rw [hQ]
            exact W.iret (v := v1204) hx hb hr (fun t ht hW => ⟨⟨v1204, (), rfl, hpost, by rw [ht]; exact hI, hN.warm hW, va_K.moved hW.alike hK⟩, hS.F ht⟩) hS.2.2 dX5_findAlone_39
  refine lv_aload_n hx hb dX5_findAlone_0 rfl (lv_at hl 0 rfl) ?_
  refine lv_iload_n hx hb dX5_findAlone_1 rfl (lv_at hl 1 rfl) ?_
  refine th_cVv (As := [.int x1]) (rest := []) (n := 1) (d := 6) ⟨hx, hb, hml, hown, hts⟩ (c_X5_look l E D G h0 hG0 x1) wd_999 wd_1001 wp_28 wd_10 wd_1002 (by decide +kernel) ⟨by rw [hR]; exact Nat.le_of_ble_eq_true rfl, by rw [hR]; exact Nat.le_of_ble_eq_true rfl⟩ hI hN hK hS (rc_12 hI hG0 List.not_mem_nil) rfl rfl hl.1 rfl (Nat.le_of_ble_eq_true rfl) dX5_findAlone_2 ⟨Nat.zero_le _, Nat.zero_le _⟩ (fun H locs hI hS => ?_)
  refine lv_iconst (v := 0) hx hb dX5_findAlone_5 (by decide) ?_
  refine lv_istore_n (lv' := [(3, .int 0), (0, .ref h0), (1, .int x1), (2, .int x2)]) hx hb dX5_findAlone_6 rfl hl (by decide) rfl (fun ls hl => ?_)
  refine lv_iconst (v := 0) hx hb dX5_findAlone_7 (by decide) ?_
  refine lv_istore (lv' := [(4, .int 0), (3, .int 0), (0, .ref h0), (1, .int x1), (2, .int x2)]) hx hb dX5_findAlone_8 hl (by decide) rfl (fun ls hl => ?_)
  have zl : (0 : Int32).toInt = 0 := by decide
  exact J_10 _ H locs ls 0 0 rfl (lv_sub hl [0, 1, 2, 3, 4] rfl) ⟨by decide, by decide⟩ hI hS
