theorem wp_76 : Cond.selects RX12 yX12_readPlain yX12_readPlain ∈ TB := tv 76 (by decide +kernel) (by decide +kernel)
theorem wd_1627 : (Cond.methodLink RX12 (191 : Nat) yX12_readPlain) ∈ TB := tw 1627 (by decide +kernel) (by decide +kernel)
theorem wd_1629 : (Jvm.Cond.instanceMethod yX12_readPlain) ∈ TB := tw 1629 (by decide +kernel) (by decide +kernel)
theorem wd_1630 : (Cond.code yX12_readPlain cX12_readPlain 4 (Option.none : Option Jvm.ClassFile.FieldType)) ∈ TB := tw 1630 (by decide +kernel) (by decide +kernel)
theorem dX12_readBoth_0g : (decode cX12_readBoth 0 = .ok (.aload_n 0, 1)) ∧ (decode cX12_readBoth 1 = .ok (.iload_n 1, 1)) ∧ (decode cX12_readBoth 2 = .ok (.invokevirtual 191, 3)) ∧ (decode cX12_readBoth 5 = .ok (.aload_n 0, 1)) ∧ (decode cX12_readBoth 6 = .ok (.bipush 7, 2)) ∧ (decode cX12_readBoth 8 = .ok (.invokevirtual 169, 3)) ∧ (decode cX12_readBoth 11 = .ok (.ifCond .eq 11, 3)) ∧ (decode cX12_readBoth 14 = .ok (.aload_n 0, 1)) ∧ (decode cX12_readBoth 15 = .ok (.iload_n 1, 1)) ∧ (decode cX12_readBoth 16 = .ok (.invokevirtual 191, 3)) := by decide +kernel
theorem dX12_readBoth_0 : decode cX12_readBoth 0 = .ok (.aload_n 0, 1) := dX12_readBoth_0g.1
theorem dX12_readBoth_1 : decode cX12_readBoth 1 = .ok (.iload_n 1, 1) := dX12_readBoth_0g.2.1
theorem dX12_readBoth_2 : decode cX12_readBoth 2 = .ok (.invokevirtual 191, 3) := dX12_readBoth_0g.2.2.1
theorem dX12_readBoth_5 : decode cX12_readBoth 5 = .ok (.aload_n 0, 1) := dX12_readBoth_0g.2.2.2.1
theorem dX12_readBoth_6 : decode cX12_readBoth 6 = .ok (.bipush 7, 2) := dX12_readBoth_0g.2.2.2.2.1
theorem dX12_readBoth_8 : decode cX12_readBoth 8 = .ok (.invokevirtual 169, 3) := dX12_readBoth_0g.2.2.2.2.2.1
theorem dX12_readBoth_11 : decode cX12_readBoth 11 = .ok (.ifCond .eq 11, 3) := dX12_readBoth_0g.2.2.2.2.2.2.1
theorem dX12_readBoth_14 : decode cX12_readBoth 14 = .ok (.aload_n 0, 1) := dX12_readBoth_0g.2.2.2.2.2.2.2.1
theorem dX12_readBoth_15 : decode cX12_readBoth 15 = .ok (.iload_n 1, 1) := dX12_readBoth_0g.2.2.2.2.2.2.2.2.1
theorem dX12_readBoth_16 : decode cX12_readBoth 16 = .ok (.invokevirtual 191, 3) := dX12_readBoth_0g.2.2.2.2.2.2.2.2.2
theorem dX12_readBoth_19g : (decode cX12_readBoth 19 = .ok (.goto (-14), 3)) ∧ (decode cX12_readBoth 22 = .ok (.return_, 1)) := by decide +kernel
theorem dX12_readBoth_19 : decode cX12_readBoth 19 = .ok (.goto (-14), 3) := dX12_readBoth_19g.1
theorem dX12_readBoth_22 : decode cX12_readBoth 22 = .ok (.return_, 1) := dX12_readBoth_19g.2
set_option maxHeartbeats 4000000 in
set_option maxRecDepth 100000 in
theorem c_X12_readBoth (l : Launch) (E : Nat → Nat) (D : va_G) (G : th_G) (k : Nat) (h0 : Nat) (hG0 : G h0 = some (10, 0)) (x1 : Int32) (ff cd va pl : Nat → Int32) (TT pp LL : Nat) (bb : Int32) (dd : Nat) (hdd : x1.toInt = (dd : Int)) (hd8 : dd ≤ 8) (hk : 8 ≤ dd + k) (tl : Nat) (fl : List Nat) (ht45 : tl = 4 ∨ tl = 5) (nk : Nat) (XX : Nat × Bool) (hdp : pd_dp (tl :: fl) = dd) (hiv : IV cd va pl TT XX (3, tl :: fl, nk, LL) pp bb) (hpl : ∀ (h0 : Nat) (hG0 : G h0 = some (10, 0)) (x1 : Int32) (ff cd va pl : Nat → Int32) (TT pp LL : Nat) (bb : Int32) (dd : Nat) (hdd : x1.toInt = (dd : Int)) (hd8 : dd ≤ 8) (hk : 8 ≤ dd + k) (fl : List Nat) (nk : Nat) (XX : Nat × Bool) (hdp : pd_dp (fl) = dd) (hiv : IV cd va pl TT XX (3, fl, nk, LL) pp bb), Met l yX12_readPlain (tb (.code yX12_readPlain cX12_readPlain 4 none)) (rm (30 + 3 * k)) (va_Pc [.ref h0, .int x1] (PX E D G (fun H => RX E D G h0 ff cd va pl TT pp bb LL H))) (QXv E D G (fun H => ∃ (p2 : Nat) (b2 : Int32) (L2 : Nat), RX E D G h0 ff cd va pl TT p2 b2 L2 H ∧ pp ≤ p2 ∧ (b2.toInt = -1 → bb.toInt = -1 ∧ Gr (rC cd TT) 3 dd pp p2) ∧ IV cd va pl TT XX (4, fl, nk, L2) p2 b2)) 0 0 (th_A G)) : Met l yX12_readBoth (tb (.code yX12_readBoth cX12_readBoth 2 none)) (rm (31 + 3 * k)) (va_Pc [.ref h0, .int x1] (PX E D G (fun H => RX E D G h0 ff cd va pl TT pp bb LL H))) (QXv E D G (fun H => ∃ (p2 : Nat) (b2 : Int32) (L2 : Nat), RX E D G h0 ff cd va pl TT p2 b2 L2 H ∧ pp ≤ p2 ∧ (b2.toInt = -1 → bb.toInt = -1 ∧ Gr (rC cd TT) 4 dd pp p2) ∧ IV cd va pl TT XX (4, tl :: fl, nk, L2) p2 b2 ∧ (b2.toInt = -1 → rC cd TT p2 ≠ 7))) 0 0 (th_A G) := by
  refine Met.ofW (cc := cX12_readBoth) (maxL := 2) (ret := none) (by decide) rfl ?_
  intro p e s m args below meth c s₁ B hml hv
  obtain ⟨hav, ⟨hI, hN, hK⟩, hX⟩ := hv
  have hx := B.exec
  have hb := B.bytes
  have hr := B.returns
  have hts := atoms_spec (ws := tb (.code yX12_readBoth cX12_readBoth 2 none)) B.pre
  have hown : s.vm.findClass RX12 = some m.cls := findClass_of_methodNamed B.named
  have hlocks := B.notSynchronized
  have hS : va_S (th_A G) s.heap s.heap [] := va_S.rf
  have hl := lv_entry ([.ref h0, .int x1]) (n := 2) (Nat.le_of_ble_eq_true rfl)
  rw [show entryFrame m args 2 = entryFrame m ([.ref h0, .int x1] : List Value).toArray 2 from by rw [hav], lg_entry_eq]
  generalize (lg_sl ([.ref h0, .int x1]) ++ List.replicate (2 - (lg_sl ([.ref h0, .int x1])).length) Slot.unset).toArray = ls at hl ⊢
  have hl : lv_has ls 2 [(0, .ref h0), (1, .int x1)] := hl
  generalize hR : (headSpec (tb (.code yX12_readBoth cX12_readBoth 2 none)) (rm (31 + 3 * k))).room = R
  have hR := hR.symm
  generalize hQ : MQ below (QXv E D G (fun H => ∃ (p2 : Nat) (b2 : Int32) (L2 : Nat), RX E D G h0 ff cd va pl TT p2 b2 L2 H ∧ pp ≤ p2 ∧ (b2.toInt = -1 → bb.toInt = -1 ∧ Gr (rC cd TT) 4 dd pp p2) ∧ IV cd va pl TT XX (4, tl :: fl, nk, L2) p2 b2 ∧ (b2.toInt = -1 → rC cd TT p2 ≠ 7))) args s 0 0 (th_A G) = QF
  have hQ := hQ.symm
  obtain ⟨⟨hkf, hT, hz0, k24, ⟨a1, hf2, hq3, hA4⟩, ⟨a5, hf6, hq7, hA8⟩, ⟨w17, hg18, k25⟩, ⟨w19, hg20, k26⟩, hg21⟩, ⟨a9, hf10, hq11, hA12⟩, ⟨a13, hf14, hq15, hA16⟩, hPl, ⟨w22, hg23, k27⟩, k28, k29⟩ := hX
  have J_5 : ∀ (nn : Nat) (H : Heap) (locs : List Loc) (ls : Array Slot)  (p1 : Nat) (b1 : Int32) (L1 : Nat), (Int.toNat (((TT : Nat) : Int) - ((p1 : Nat) : Int)) = nn) → lv_has ls 2 [(0, .ref h0), (1, .int x1)] → ((0 : Int) ≤ x1.toInt ∧ x1.toInt ≤ 8) → (pp ≤ p1) → (b1.toInt = -1 → bb.toInt = -1 ∧ ∀ r, Gr (rC cd TT) 9 dd p1 r → Gr (rC cd TT) 4 dd pp r) → (IV cd va pl TT XX (4, tl :: fl, nk, L1) p1 b1) → (RX E D G h0 ff cd va pl TT p1 b1 L1 H) → th_I (okM E) D G [] H → va_S (th_A G) s.heap H locs → W p l e R s m args below meth c H locs 0 0 QF (F0 m 5 ls []) := by
    intro nn
    induction nn using Nat.strongRecOn with
    | ind nn ih_5 =>
      intro H locs ls  p1 b1 L1 hm hl k1242 hle1 hInv hiv1 hE hI hS
      obtain ⟨⟨hkf, hT, hz0, k1266, ⟨a1243, hf1244, hq1245, hA1246⟩, ⟨a1247, hf1248, hq1249, hA1250⟩, ⟨w1259, hg1260, k1267⟩, ⟨w1261, hg1262, k1268⟩, hg1263⟩, ⟨a1251, hf1252, hq1253, hA1254⟩, ⟨a1255, hf1256, hq1257, hA1258⟩, hPl, ⟨w1264, hg1265, k1269⟩, k1270, k1271⟩ := hE
      refine lv_aload_n hx hb dX12_readBoth_5 rfl (lv_at hl 0 rfl) ?_
      refine lv_bipush (v := 7) hx hb dX12_readBoth_6 (by decide) ?_
      refine mx_i (As := [.int 7]) (rest := []) (n := 1) (d := 1) ⟨hx, hb, hml, hown, hts⟩ (c_X12_takes0 l E D G h0 hG0 7 ff cd va pl TT p1 L1 b1 (by first | decide | omega)) wd_1587 wd_1589 wp_66 wd_13 wd_1590 (by decide +kernel) ⟨by rw [hR]; show 1 + 1 ≤ 31 + 3 * k; omega, by rw [hR]; show 8 + (3 + 11) + 40 * (1) ≤ 40 * (31 + 3 * k); omega⟩ hI hN hK hS hG0 (⟨⟨hkf, hT, hz0, by omega, ⟨a1243, hf1244, hq1245, hA1246⟩, ⟨a1247, hf1248, hq1249, hA1250⟩, ⟨w1259, hg1260, by first | omega | decide⟩, ⟨w1261, hg1262, by first | omega | decide⟩, hg1263⟩, ⟨a1251, hf1252, hq1253, hA1254⟩, ⟨a1255, hf1256, hq1257, hA1258⟩, hPl, ⟨w1264, hg1265, by first | omega | decide⟩, by omega, by first | omega | (intro; omega)⟩) rfl hl.1 rfl (Nat.le_of_ble_eq_true rfl) dX12_readBoth_8 ⟨Nat.zero_le _, Nat.zero_le _⟩ (fun r1272 H locs hI hp hS => ?_)
      rcases hp with ⟨rfl, hp⟩ | ⟨rfl, hp⟩
      · skip
        try simp only [rg, not_and, Int.not_le] at hp
        have hp1273 := hp
        obtain ⟨hb1276, hc1274, k1275, hE⟩ := hp1273
        have hp1273 : True := trivial
        rw [show (7 : Int32).toInt = 7 from by decide] at hc1274
        obtain ⟨⟨hkf, hT, hz0, k1300, ⟨a1277, hf1278, hq1279, hA1280⟩, ⟨a1281, hf1282, hq1283, hA1284⟩, ⟨w1293, hg1294, k1301⟩, ⟨w1295, hg1296, k1302⟩, hg1297⟩, ⟨a1285, hf1286, hq1287, hA1288⟩, ⟨a1289, hf1290, hq1291, hA1292⟩, hPl, ⟨w1298, hg1299, k1303⟩, k1304, k1305⟩ := hE
        have hiv1306 : IV cd va pl TT XX (3, tl :: fl, nk, L1) (p1 + 1) b1 := hiv1.go (fun hb9 => pd_D_an k1275 ht45 (by omega))
        try rw [show (7 : Int32).toInt = 7 from by decide] at hp1273
        refine lv_if_eq (tgt := 22) hx hb dX12_readBoth_11 (by decide) (fun c => absurd c (by decide)) (fun _ => ?_)
        refine lv_aload_n hx hb dX12_readBoth_14 rfl (lv_at hl 0 rfl) ?_
        refine lv_iload_n hx hb dX12_readBoth_15 rfl (lv_at hl 1 rfl) ?_
        refine mx_v (As := [.int x1]) (rest := []) (n := 1) (d := (30 + 3 * k)) ⟨hx, hb, hml, hown, hts⟩ (hpl h0 hG0 x1 ff cd va pl TT (p1 + 1) L1 b1 dd (by first | decide | omega) (by omega) (by omega) (tl :: fl) nk XX hdp hiv1306) wd_1627 wd_1629 wp_76 wd_13 wd_1630 (by decide +kernel) ⟨by rw [hR]; show (30 + 3 * k) + 1 ≤ 31 + 3 * k; omega, by rw [hR]; show 8 + (4 + 11) + 40 * ((30 + 3 * k)) ≤ 40 * (31 + 3 * k); omega⟩ hI hN hK hS hG0 (⟨⟨hkf, hT, hz0, by omega, ⟨a1277, hf1278, hq1279, hA1280⟩, ⟨a1281, hf1282, hq1283, hA1284⟩, ⟨w1293, hg1294, by first | omega | decide⟩, ⟨w1295, hg1296, by first | omega | decide⟩, hg1297⟩, ⟨a1285, hf1286, hq1287, hA1288⟩, ⟨a1289, hf1290, hq1291, hA1292⟩, hPl, ⟨w1298, hg1299, by first | omega | decide⟩, by omega, by first | omega | (intro; omega)⟩) rfl hl.1 rfl (Nat.le_of_ble_eq_true rfl) dX12_readBoth_16 ⟨Nat.zero_le _, Nat.zero_le _⟩ (fun H locs hI hp hS => ?_)
        obtain ⟨pn1308, bn1309, Ln1310, hE, k1313, hi1311, hiv1312⟩ := hp
        obtain ⟨⟨hkf, hT, hz0, k1337, ⟨a1314, hf1315, hq1316, hA1317⟩, ⟨a1318, hf1319, hq1320, hA1321⟩, ⟨w1330, hg1331, k1338⟩, ⟨w1332, hg1333, k1339⟩, hg1334⟩, ⟨a1322, hf1323, hq1324, hA1325⟩, ⟨a1326, hf1327, hq1328, hA1329⟩, hPl, ⟨w1335, hg1336, k1340⟩, k1341, k1342⟩ := hE
        have hInv2 : bn1309.toInt = -1 → bb.toInt = -1 ∧ ∀ r, Gr (rC cd TT) 9 dd pn1308 r → Gr (rC cd TT) 4 dd pp r := fun h => ⟨(hInv hb1276).1, r9_m (hInv hb1276).2 (by omega) (hi1311 h).2⟩
        refine lv_goto (tgt := 5) hx hb dX12_readBoth_19 (by decide) ?_
        exact ih_5 _ (by omega) H locs ls  pn1308 bn1309 Ln1310 rfl (lv_sub hl [0, 1] rfl) ⟨by omega, by omega⟩ (by omega) (hInv2) (hiv1312) (⟨⟨hkf, hT, hz0, by omega, ⟨a1314, hf1315, hq1316, hA1317⟩, ⟨a1318, hf1319, hq1320, hA1321⟩, ⟨w1330, hg1331, by first | omega | decide⟩, ⟨w1332, hg1333, by first | omega | decide⟩, hg1334⟩, ⟨a1322, hf1323, hq1324, hA1325⟩, ⟨a1326, hf1327, hq1328, hA1329⟩, hPl, ⟨w1335, hg1336, by first | omega | decide⟩, by omega, by first | omega | (intro; omega)⟩) hI hS
      · skip
        try simp only [rg, not_and, Int.not_le] at hp
        have hp1343 := hp
        obtain ⟨hc1344, hE⟩ := hp1343
        have hp1343 : True := trivial
        rw [show (7 : Int32).toInt = 7 from by decide] at hc1344
        obtain ⟨⟨hkf, hT, hz0, k1369, ⟨a1346, hf1347, hq1348, hA1349⟩, ⟨a1350, hf1351, hq1352, hA1353⟩, ⟨w1362, hg1363, k1370⟩, ⟨w1364, hg1365, k1371⟩, hg1366⟩, ⟨a1354, hf1355, hq1356, hA1357⟩, ⟨a1358, hf1359, hq1360, hA1361⟩, hPl, ⟨w1367, hg1368, k1372⟩, k1373, k1374⟩ := hE
        try rw [show (7 : Int32).toInt = 7 from by decide] at hp1343
        refine lv_if_eq (tgt := 22) hx hb dX12_readBoth_11 (by decide) (fun _ => ?_) (fun c => absurd c (by decide))
        have hpost : ∃ (p2 : Nat) (b2 : Int32) (L2 : Nat), RX E D G h0 ff cd va pl TT p2 b2 L2 H ∧ pp ≤ p2 ∧ (b2.toInt = -1 → bb.toInt = -1 ∧ Gr (rC cd TT) 4 dd pp p2) ∧ IV cd va pl TT XX (4, tl :: fl, nk, L2) p2 b2 ∧ (b2.toInt = -1 → rC cd TT p2 ≠ 7) := ⟨p1, b1, L1, ⟨⟨hkf, hT, hz0, by omega, ⟨a1346, hf1347, hq1348, hA1349⟩, ⟨a1350, hf1351, hq1352, hA1353⟩, ⟨w1362, hg1363, by first | omega | decide⟩, ⟨w1364, hg1365, by first | omega | decide⟩, hg1366⟩, ⟨a1354, hf1355, hq1356, hA1357⟩, ⟨a1358, hf1359, hq1360, hA1361⟩, hPl, ⟨w1367, hg1368, by first | omega | decide⟩, by omega, by first | omega | (intro; omega)⟩, by omega, fun h => ⟨(hInv h).1, r9_x (hInv h).2 (by omega)⟩, hiv1, fun hb9 => (by omega)⟩
        rw [hQ]
        exact W.vret hx hb hr (fun t ht hW => ⟨⟨(), rfl, trivial, ⟨by rw [ht]; exact hI, hN.warm hW, va_K.moved hW.alike hK⟩, by first | (rw [ht]; exact hpost) | exact hpost⟩, hS.F ht⟩) hS.2.2 dX12_readBoth_22
  refine lv_aload_n hx hb dX12_readBoth_0 rfl (lv_at hl 0 rfl) ?_
  refine lv_iload_n hx hb dX12_readBoth_1 rfl (lv_at hl 1 rfl) ?_
  refine mx_v (As := [.int x1]) (rest := []) (n := 1) (d := (30 + 3 * k)) ⟨hx, hb, hml, hown, hts⟩ (hpl h0 hG0 x1 ff cd va pl TT pp LL bb dd (by first | decide | omega) (by omega) (by omega) (tl :: fl) nk XX hdp hiv) wd_1627 wd_1629 wp_76 wd_13 wd_1630 (by decide +kernel) ⟨by rw [hR]; show (30 + 3 * k) + 1 ≤ 31 + 3 * k; omega, by rw [hR]; show 8 + (4 + 11) + 40 * ((30 + 3 * k)) ≤ 40 * (31 + 3 * k); omega⟩ hI hN hK hS hG0 (⟨⟨hkf, hT, hz0, by omega, ⟨a1, hf2, hq3, hA4⟩, ⟨a5, hf6, hq7, hA8⟩, ⟨w17, hg18, by first | omega | decide⟩, ⟨w19, hg20, by first | omega | decide⟩, hg21⟩, ⟨a9, hf10, hq11, hA12⟩, ⟨a13, hf14, hq15, hA16⟩, hPl, ⟨w22, hg23, by first | omega | decide⟩, by omega, by first | omega | (intro; omega)⟩) rfl hl.1 rfl (Nat.le_of_ble_eq_true rfl) dX12_readBoth_2 ⟨Nat.zero_le _, Nat.zero_le _⟩ (fun H locs hI hp hS => ?_)
  obtain ⟨pn1376, bn1377, Ln1378, hE, k1381, hi1379, hiv1380⟩ := hp
  obtain ⟨⟨hkf, hT, hz0, k1405, ⟨a1382, hf1383, hq1384, hA1385⟩, ⟨a1386, hf1387, hq1388, hA1389⟩, ⟨w1398, hg1399, k1406⟩, ⟨w1400, hg1401, k1407⟩, hg1402⟩, ⟨a1390, hf1391, hq1392, hA1393⟩, ⟨a1394, hf1395, hq1396, hA1397⟩, hPl, ⟨w1403, hg1404, k1408⟩, k1409, k1410⟩ := hE
  have hInv0 : bn1377.toInt = -1 → bb.toInt = -1 ∧ ∀ r, Gr (rC cd TT) 9 dd pn1376 r → Gr (rC cd TT) 4 dd pp r := fun h => ⟨(hi1379 h).1, r9_i (hi1379 h).2⟩
  exact J_5 _ H locs ls  pn1376 bn1377 Ln1378 rfl (lv_sub hl [0, 1] rfl) ⟨by omega, by omega⟩ (by omega) (hInv0) (hiv1380) (⟨⟨hkf, hT, hz0, by omega, ⟨a1382, hf1383, hq1384, hA1385⟩, ⟨a1386, hf1387, hq1388, hA1389⟩, ⟨w1398, hg1399, by first | omega | decide⟩, ⟨w1400, hg1401, by first | omega | decide⟩, hg1402⟩, ⟨a1390, hf1391, hq1392, hA1393⟩, ⟨a1394, hf1395, hq1396, hA1397⟩, hPl, ⟨w1403, hg1404, by first | omega | decide⟩, by omega, by first | omega | (intro; omega)⟩) hI hS
