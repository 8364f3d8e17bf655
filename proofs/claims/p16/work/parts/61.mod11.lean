theorem wp_75 : Cond.selects RX12 yX12_readBoth yX12_readBoth ∈ TB := tv 75 (by decide +kernel) (by decide +kernel)
theorem wd_1623 : (Cond.methodLink RX12 (188 : Nat) yX12_readBoth) ∈ TB := tw 1623 (by decide +kernel) (by decide +kernel)
theorem wd_1625 : (Jvm.Cond.instanceMethod yX12_readBoth) ∈ TB := tw 1625 (by decide +kernel) (by decide +kernel)
theorem wd_1626 : (Cond.code yX12_readBoth cX12_readBoth 2 (Option.none : Option Jvm.ClassFile.FieldType)) ∈ TB := tw 1626 (by decide +kernel) (by decide +kernel)
theorem dX12_readTest_0g : (decode cX12_readTest 0 = .ok (.aload_n 0, 1)) ∧ (decode cX12_readTest 1 = .ok (.iload_n 1, 1)) ∧ (decode cX12_readTest 2 = .ok (.invokevirtual 188, 3)) ∧ (decode cX12_readTest 5 = .ok (.aload_n 0, 1)) ∧ (decode cX12_readTest 6 = .ok (.bipush 6, 2)) ∧ (decode cX12_readTest 8 = .ok (.invokevirtual 169, 3)) ∧ (decode cX12_readTest 11 = .ok (.ifCond .eq 11, 3)) ∧ (decode cX12_readTest 14 = .ok (.aload_n 0, 1)) ∧ (decode cX12_readTest 15 = .ok (.iload_n 1, 1)) ∧ (decode cX12_readTest 16 = .ok (.invokevirtual 188, 3)) := by decide +kernel
theorem dX12_readTest_0 : decode cX12_readTest 0 = .ok (.aload_n 0, 1) := dX12_readTest_0g.1
theorem dX12_readTest_1 : decode cX12_readTest 1 = .ok (.iload_n 1, 1) := dX12_readTest_0g.2.1
theorem dX12_readTest_2 : decode cX12_readTest 2 = .ok (.invokevirtual 188, 3) := dX12_readTest_0g.2.2.1
theorem dX12_readTest_5 : decode cX12_readTest 5 = .ok (.aload_n 0, 1) := dX12_readTest_0g.2.2.2.1
theorem dX12_readTest_6 : decode cX12_readTest 6 = .ok (.bipush 6, 2) := dX12_readTest_0g.2.2.2.2.1
theorem dX12_readTest_8 : decode cX12_readTest 8 = .ok (.invokevirtual 169, 3) := dX12_readTest_0g.2.2.2.2.2.1
theorem dX12_readTest_11 : decode cX12_readTest 11 = .ok (.ifCond .eq 11, 3) := dX12_readTest_0g.2.2.2.2.2.2.1
theorem dX12_readTest_14 : decode cX12_readTest 14 = .ok (.aload_n 0, 1) := dX12_readTest_0g.2.2.2.2.2.2.2.1
theorem dX12_readTest_15 : decode cX12_readTest 15 = .ok (.iload_n 1, 1) := dX12_readTest_0g.2.2.2.2.2.2.2.2.1
theorem dX12_readTest_16 : decode cX12_readTest 16 = .ok (.invokevirtual 188, 3) := dX12_readTest_0g.2.2.2.2.2.2.2.2.2
theorem dX12_readTest_19g : (decode cX12_readTest 19 = .ok (.goto (-14), 3)) ∧ (decode cX12_readTest 22 = .ok (.return_, 1)) := by decide +kernel
theorem dX12_readTest_19 : decode cX12_readTest 19 = .ok (.goto (-14), 3) := dX12_readTest_19g.1
theorem dX12_readTest_22 : decode cX12_readTest 22 = .ok (.return_, 1) := dX12_readTest_19g.2
set_option maxHeartbeats 4000000 in
set_option maxRecDepth 100000 in
theorem c_X12_readTest (l : Launch) (E : Nat → Nat) (D : va_G) (G : th_G) (k : Nat) (h0 : Nat) (hG0 : G h0 = some (10, 0)) (x1 : Int32) (ff cd va pl : Nat → Int32) (TT pp LL : Nat) (bb : Int32) (dd : Nat) (hdd : x1.toInt = (dd : Int)) (hd8 : dd ≤ 8) (hk : 8 ≤ dd + k) (tl : Nat) (fl : List Nat) (ht45 : tl = 4 ∨ tl = 5) (nk : Nat) (XX : Nat × Bool) (hdp : pd_dp (tl :: fl) = dd) (hiv : IV cd va pl TT XX (3, tl :: fl, nk, LL) pp bb) (hpl : ∀ (h0 : Nat) (hG0 : G h0 = some (10, 0)) (x1 : Int32) (ff cd va pl : Nat → Int32) (TT pp LL : Nat) (bb : Int32) (dd : Nat) (hdd : x1.toInt = (dd : Int)) (hd8 : dd ≤ 8) (hk : 8 ≤ dd + k) (fl : List Nat) (nk : Nat) (XX : Nat × Bool) (hdp : pd_dp (fl) = dd) (hiv : IV cd va pl TT XX (3, fl, nk, LL) pp bb), Met l yX12_readPlain (tb (.code yX12_readPlain cX12_readPlain 4 none)) (rm (30 + 3 * k)) (va_Pc [.ref h0, .int x1] (PX E D G (fun H => RX E D G h0 ff cd va pl TT pp bb LL H))) (QXv E D G (fun H => ∃ (p2 : Nat) (b2 : Int32) (L2 : Nat), RX E D G h0 ff cd va pl TT p2 b2 L2 H ∧ pp ≤ p2 ∧ (b2.toInt = -1 → bb.toInt = -1 ∧ Gr (rC cd TT) 3 dd pp p2) ∧ IV cd va pl TT XX (4, fl, nk, L2) p2 b2)) 0 0 (th_A G)) : Met l yX12_readTest (tb (.code yX12_readTest cX12_readTest 2 none)) (rm (32 + 3 * k)) (va_Pc [.ref h0, .int x1] (PX E D G (fun H => RX E D G h0 ff cd va pl TT pp bb LL H))) (QXv E D G (fun H => ∃ (p2 : Nat) (b2 : Int32) (L2 : Nat), RX E D G h0 ff cd va pl TT p2 b2 L2 H ∧ pp ≤ p2 ∧ (b2.toInt = -1 → bb.toInt = -1 ∧ Gr (rC cd TT) 5 dd pp p2) ∧ IV cd va pl TT XX (4, tl :: fl, nk, L2) p2 b2 ∧ (b2.toInt = -1 → rC cd TT p2 ≠ 6 ∧ rC cd TT p2 ≠ 7))) 0 0 (th_A G) := by
  refine Met.ofW (cc := cX12_readTest) (maxL := 2) (ret := none) (by decide) rfl ?_
  intro p e s m args below meth c s₁ B hml hv
  obtain ⟨hav, ⟨hI, hN, hK⟩, hX⟩ := hv
  have hx := B.exec
  have hb := B.bytes
  have hr := B.returns
  have hts := atoms_spec (ws := tb (.code yX12_readTest cX12_readTest 2 none)) B.pre
  have hown : s.vm.findClass RX12 = some m.cls := findClass_of_methodNamed B.named
  have hlocks := B.notSynchronized
  have hS : va_S (th_A G) s.heap s.heap [] := va_S.rf
  have hl := lv_entry ([.ref h0, .int x1]) (n := 2) (Nat.le_of_ble_eq_true rfl)
  rw [show entryFrame m args 2 = entryFrame m ([.ref h0, .int x1] : List Value).toArray 2 from by rw [hav], lg_entry_eq]
  generalize (lg_sl ([.ref h0, .int x1]) ++ List.replicate (2 - (lg_sl ([.ref h0, .int x1])).length) Slot.unset).toArray = ls at hl ⊢
  have hl : lv_has ls 2 [(0, .ref h0), (1, .int x1)] := hl
  generalize hR : (headSpec (tb (.code yX12_readTest cX12_readTest 2 none)) (rm (32 + 3 * k))).room = R
  have hR := hR.symm
  generalize hQ : MQ below (QXv E D G (fun H => ∃ (p2 : Nat) (b2 : Int32) (L2 : Nat), RX E D G h0 ff cd va pl TT p2 b2 L2 H ∧ pp ≤ p2 ∧ (b2.toInt = -1 → bb.toInt = -1 ∧ Gr (rC cd TT) 5 dd pp p2) ∧ IV cd va pl TT XX (4, tl :: fl, nk, L2) p2 b2 ∧ (b2.toInt = -1 → rC cd TT p2 ≠ 6 ∧ rC cd TT p2 ≠ 7))) args s 0 0 (th_A G) = QF
  have hQ := hQ.symm
  obtain ⟨⟨hkf, hT, hz0, k24, ⟨a1, hf2, hq3, hA4⟩, ⟨a5, hf6, hq7, hA8⟩, ⟨w17, hg18, k25⟩, ⟨w19, hg20, k26⟩, hg21⟩, ⟨a9, hf10, hq11, hA12⟩, ⟨a13, hf14, hq15, hA16⟩, hPl, ⟨w22, hg23, k27⟩, k28, k29⟩ := hX
  have J_5 : ∀ (nn : Nat) (H : Heap) (locs : List Loc) (ls : Array Slot)  (p1 : Nat) (b1 : Int32) (L1 : Nat), (Int.toNat (((TT : Nat) : Int) - ((p1 : Nat) : Int)) = nn) → lv_has ls 2 [(0, .ref h0), (1, .int x1)] → ((0 : Int) ≤ x1.toInt ∧ x1.toInt ≤ 8) → (pp ≤ p1) → (b1.toInt = -1 → bb.toInt = -1 ∧ ∀ r, Gr (rC cd TT) 10 dd p1 r → Gr (rC cd TT) 5 dd pp r) → (IV cd va pl TT XX (4, tl :: fl, nk, L1) p1 b1) → (b1.toInt = -1 → rC cd TT p1 ≠ 7) → (RX E D G h0 ff cd va pl TT p1 b1 L1 H) → th_I (okM E) D G [] H → va_S (th_A G) s.heap H locs → W p l e R s m args below meth c H locs 0 0 QF (F0 m 5 ls []) := by
    intro nn
    induction nn using Nat.strongRecOn with
    | ind nn ih_5 =>
      intro H locs ls  p1 b1 L1 hm hl k1257 hle1 hInv hiv1 hno1 hE hI hS
      obtain ⟨⟨hkf, hT, hz0, k1281, ⟨a1258, hf1259, hq1260, hA1261⟩, ⟨a1262, hf1263, hq1264, hA1265⟩, ⟨w1274, hg1275, k1282⟩, ⟨w1276, hg1277, k1283⟩, hg1278⟩, ⟨a1266, hf1267, hq1268, hA1269⟩, ⟨a1270, hf1271, hq1272, hA1273⟩, hPl, ⟨w1279, hg1280, k1284⟩, k1285, k1286⟩ := hE
      refine lv_aload_n hx hb dX12_readTest_5 rfl (lv_at hl 0 rfl) ?_
      refine lv_bipush (v := 6) hx hb dX12_readTest_6 (by decide) ?_
      refine mx_i (As := [.int 6]) (rest := []) (n := 1) (d := 1) ⟨hx, hb, hml, hown, hts⟩ (c_X12_takes0 l E D G h0 hG0 6 ff cd va pl TT p1 L1 b1 (by first | decide | omega)) wd_1587 wd_1589 wp_66 wd_13 wd_1590 (by decide +kernel) ⟨by rw [hR]; show 1 + 1 ≤ 32 + 3 * k; omega, by rw [hR]; show 8 + (3 + 11) + 40 * (1) ≤ 40 * (32 + 3 * k); omega⟩ hI hN hK hS hG0 (⟨⟨hkf, hT, hz0, by omega, ⟨a1258, hf1259, hq1260, hA1261⟩, ⟨a1262, hf1263, hq1264, hA1265⟩, ⟨w1274, hg1275, by first | omega | decide⟩, ⟨w1276, hg1277, by first | omega | decide⟩, hg1278⟩, ⟨a1266, hf1267, hq1268, hA1269⟩, ⟨a1270, hf1271, hq1272, hA1273⟩, hPl, ⟨w1279, hg1280, by first | omega | decide⟩, by omega, by first | omega | (intro; omega)⟩) rfl hl.1 rfl (Nat.le_of_ble_eq_true rfl) dX12_readTest_8 ⟨Nat.zero_le _, Nat.zero_le _⟩ (fun r1287 H locs hI hp hS => ?_)
      rcases hp with ⟨rfl, hp⟩ | ⟨rfl, hp⟩
      · skip
        try simp only [rg, not_and, Int.not_le] at hp
        have hp1288 := hp
        obtain ⟨hb1291, hc1289, k1290, hE⟩ := hp1288
        have hp1288 : True := trivial
        rw [show (6 : Int32).toInt = 6 from by decide] at hc1289
        obtain ⟨⟨hkf, hT, hz0, k1315, ⟨a1292, hf1293, hq1294, hA1295⟩, ⟨a1296, hf1297, hq1298, hA1299⟩, ⟨w1308, hg1309, k1316⟩, ⟨w1310, hg1311, k1317⟩, hg1312⟩, ⟨a1300, hf1301, hq1302, hA1303⟩, ⟨a1304, hf1305, hq1306, hA1307⟩, hPl, ⟨w1313, hg1314, k1318⟩, k1319, k1320⟩ := hE
        have hiv1321 : IV cd va pl TT XX (3, tl :: fl, nk, L1) (p1 + 1) b1 := hiv1.go (fun hb9 => pd_D_an k1290 ht45 (by omega))
        try rw [show (6 : Int32).toInt = 6 from by decide] at hp1288
        refine lv_if_eq (tgt := 22) hx hb dX12_readTest_11 (by decide) (fun c => absurd c (by decide)) (fun _ => ?_)
        refine lv_aload_n hx hb dX12_readTest_14 rfl (lv_at hl 0 rfl) ?_
        refine lv_iload_n hx hb dX12_readTest_15 rfl (lv_at hl 1 rfl) ?_
        refine mx_v (As := [.int x1]) (rest := []) (n := 1) (d := (31 + 3 * k)) ⟨hx, hb, hml, hown, hts⟩ (c_X12_readBoth l E D G k h0 hG0 x1 ff cd va pl TT (p1 + 1) L1 b1 dd (by first | decide | omega) (by omega) (by omega) tl fl ht45 nk XX hdp hiv1321 hpl) wd_1623 wd_1625 wp_75 wd_13 wd_1626 (by decide +kernel) ⟨by rw [hR]; show (31 + 3 * k) + 1 ≤ 32 + 3 * k; omega, by rw [hR]; show 8 + (2 + 11) + 40 * ((31 + 3 * k)) ≤ 40 * (32 + 3 * k); omega⟩ hI hN hK hS hG0 (⟨⟨hkf, hT, hz0, by omega, ⟨a1292, hf1293, hq1294, hA1295⟩, ⟨a1296, hf1297, hq1298, hA1299⟩, ⟨w1308, hg1309, by first | omega | decide⟩, ⟨w1310, hg1311, by first | omega | decide⟩, hg1312⟩, ⟨a1300, hf1301, hq1302, hA1303⟩, ⟨a1304, hf1305, hq1306, hA1307⟩, hPl, ⟨w1313, hg1314, by first | omega | decide⟩, by omega, by first | omega | (intro; omega)⟩) rfl hl.1 rfl (Nat.le_of_ble_eq_true rfl) dX12_readTest_16 ⟨Nat.zero_le _, Nat.zero_le _⟩ (fun H locs hI hp hS => ?_)
        obtain ⟨pn1323, bn1324, Ln1325, hE, k1329, hi1326, hiv1327, hno1328⟩ := hp
        obtain ⟨⟨hkf, hT, hz0, k1353, ⟨a1330, hf1331, hq1332, hA1333⟩, ⟨a1334, hf1335, hq1336, hA1337⟩, ⟨w1346, hg1347, k1354⟩, ⟨w1348, hg1349, k1355⟩, hg1350⟩, ⟨a1338, hf1339, hq1340, hA1341⟩, ⟨a1342, hf1343, hq1344, hA1345⟩, hPl, ⟨w1351, hg1352, k1356⟩, k1357, k1358⟩ := hE
        have hInv2 : bn1324.toInt = -1 → bb.toInt = -1 ∧ ∀ r, Gr (rC cd TT) 10 dd pn1323 r → Gr (rC cd TT) 5 dd pp r := fun h => ⟨(hInv hb1291).1, r10_m (hInv hb1291).2 (by omega) (hi1326 h).2⟩
        refine lv_goto (tgt := 5) hx hb dX12_readTest_19 (by decide) ?_
        exact ih_5 _ (by omega) H locs ls  pn1323 bn1324 Ln1325 rfl (lv_sub hl [0, 1] rfl) ⟨by omega, by omega⟩ (by omega) (hInv2) (hiv1327) (hno1328) (⟨⟨hkf, hT, hz0, by omega, ⟨a1330, hf1331, hq1332, hA1333⟩, ⟨a1334, hf1335, hq1336, hA1337⟩, ⟨w1346, hg1347, by first | omega | decide⟩, ⟨w1348, hg1349, by first | omega | decide⟩, hg1350⟩, ⟨a1338, hf1339, hq1340, hA1341⟩, ⟨a1342, hf1343, hq1344, hA1345⟩, hPl, ⟨w1351, hg1352, by first | omega | decide⟩, by omega, by first | omega | (intro; omega)⟩) hI hS
      · skip
        try simp only [rg, not_and, Int.not_le] at hp
        have hp1359 := hp
        obtain ⟨hc1360, hE⟩ := hp1359
        have hp1359 : True := trivial
        rw [show (6 : Int32).toInt = 6 from by decide] at hc1360
        obtain ⟨⟨hkf, hT, hz0, k1385, ⟨a1362, hf1363, hq1364, hA1365⟩, ⟨a1366, hf1367, hq1368, hA1369⟩, ⟨w1378, hg1379, k1386⟩, ⟨w1380, hg1381, k1387⟩, hg1382⟩, ⟨a1370, hf1371, hq1372, hA1373⟩, ⟨a1374, hf1375, hq1376, hA1377⟩, hPl, ⟨w1383, hg1384, k1388⟩, k1389, k1390⟩ := hE
        try rw [show (6 : Int32).toInt = 6 from by decide] at hp1359
        refine lv_if_eq (tgt := 22) hx hb dX12_readTest_11 (by decide) (fun _ => ?_) (fun c => absurd c (by decide))
        have hpost : ∃ (p2 : Nat) (b2 : Int32) (L2 : Nat), RX E D G h0 ff cd va pl TT p2 b2 L2 H ∧ pp ≤ p2 ∧ (b2.toInt = -1 → bb.toInt = -1 ∧ Gr (rC cd TT) 5 dd pp p2) ∧ IV cd va pl TT XX (4, tl :: fl, nk, L2) p2 b2 ∧ (b2.toInt = -1 → rC cd TT p2 ≠ 6 ∧ rC cd TT p2 ≠ 7) := ⟨p1, b1, L1, ⟨⟨hkf, hT, hz0, by omega, ⟨a1362, hf1363, hq1364, hA1365⟩, ⟨a1366, hf1367, hq1368, hA1369⟩, ⟨w1378, hg1379, by first | omega | decide⟩, ⟨w1380, hg1381, by first | omega | decide⟩, hg1382⟩, ⟨a1370, hf1371, hq1372, hA1373⟩, ⟨a1374, hf1375, hq1376, hA1377⟩, hPl, ⟨w1383, hg1384, by first | omega | decide⟩, by omega, by first | omega | (intro; omega)⟩, by omega, fun h => ⟨(hInv h).1, r10_x (hInv h).2 (by omega)⟩, hiv1, fun hb9 => ⟨by omega, hno1 hb9⟩⟩
        rw [hQ]
        exact W.vret hx hb hr (fun t ht hW => ⟨⟨(), rfl, trivial, ⟨by rw [ht]; exact hI, hN.warm hW, va_K.moved hW.alike hK⟩, by first | (rw [ht]; exact hpost) | exact hpost⟩, hS.F ht⟩) hS.2.2 dX12_readTest_22
  refine lv_aload_n hx hb dX12_readTest_0 rfl (lv_at hl 0 rfl) ?_
  refine lv_iload_n hx hb dX12_readTest_1 rfl (lv_at hl 1 rfl) ?_
  refine mx_v (As := [.int x1]) (rest := []) (n := 1) (d := (31 + 3 * k)) ⟨hx, hb, hml, hown, hts⟩ (c_X12_readBoth l E D G k h0 hG0 x1 ff cd va pl TT pp LL bb dd (by first | decide | omega) (by omega) (by omega) tl fl ht45 nk XX hdp hiv hpl) wd_1623 wd_1625 wp_75 wd_13 wd_1626 (by decide +kernel) ⟨by rw [hR]; show (31 + 3 * k) + 1 ≤ 32 + 3 * k; omega, by rw [hR]; show 8 + (2 + 11) + 40 * ((31 + 3 * k)) ≤ 40 * (32 + 3 * k); omega⟩ hI hN hK hS hG0 (⟨⟨hkf, hT, hz0, by omega, ⟨a1, hf2, hq3, hA4⟩, ⟨a5, hf6, hq7, hA8⟩, ⟨w17, hg18, by first | omega | decide⟩, ⟨w19, hg20, by first | omega | decide⟩, hg21⟩, ⟨a9, hf10, hq11, hA12⟩, ⟨a13, hf14, hq15, hA16⟩, hPl, ⟨w22, hg23, by first | omega | decide⟩, by omega, by first | omega | (intro; omega)⟩) rfl hl.1 rfl (Nat.le_of_ble_eq_true rfl) dX12_readTest_2 ⟨Nat.zero_le _, Nat.zero_le _⟩ (fun H locs hI hp hS => ?_)
  obtain ⟨pn1392, bn1393, Ln1394, hE, k1398, hi1395, hiv1396, hno1397⟩ := hp
  obtain ⟨⟨hkf, hT, hz0, k1422, ⟨a1399, hf1400, hq1401, hA1402⟩, ⟨a1403, hf1404, hq1405, hA1406⟩, ⟨w1415, hg1416, k1423⟩, ⟨w1417, hg1418, k1424⟩, hg1419⟩, ⟨a1407, hf1408, hq1409, hA1410⟩, ⟨a1411, hf1412, hq1413, hA1414⟩, hPl, ⟨w1420, hg1421, k1425⟩, k1426, k1427⟩ := hE
  have hInv0 : bn1393.toInt = -1 → bb.toInt = -1 ∧ ∀ r, Gr (rC cd TT) 10 dd pn1392 r → Gr (rC cd TT) 5 dd pp r := fun h => ⟨(hi1395 h).1, r10_i (hi1395 h).2⟩
  exact J_5 _ H locs ls  pn1392 bn1393 Ln1394 rfl (lv_sub hl [0, 1] rfl) ⟨by omega, by omega⟩ (by omega) (hInv0) (hiv1396) (hno1397) (⟨⟨hkf, hT, hz0, by omega, ⟨a1399, hf1400, hq1401, hA1402⟩, ⟨a1403, hf1404, hq1405, hA1406⟩, ⟨w1415, hg1416, by first | omega | decide⟩, ⟨w1417, hg1418, by first | omega | decide⟩, hg1419⟩, ⟨a1407, hf1408, hq1409, hA1410⟩, ⟨a1411, hf1412, hq1413, hA1414⟩, hPl, ⟨w1420, hg1421, by first | omega | decide⟩, by omega, by first | omega | (intro; omega)⟩) hI hS
