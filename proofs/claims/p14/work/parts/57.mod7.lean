theorem wp_62 : Cond.selects RX12 yX12_reads yX12_reads ∈ TB := tv 62 (by decide +kernel) (by decide +kernel)
theorem wp_63 : Cond.selects RX12 yX12_splits yX12_splits ∈ TB := tv 63 (by decide +kernel) (by decide +kernel)
theorem wp_64 : Cond.selects RX12 yX12_wordOf yX12_wordOf ∈ TB := tv 64 (by decide +kernel) (by decide +kernel)
theorem wp_65 : Cond.selects RX12 yX12_readClause yX12_readClause ∈ TB := tv 65 (by decide +kernel) (by decide +kernel)
theorem wp_74 : Cond.selects RX12 yX12_readTest yX12_readTest ∈ TB := tv 74 (by decide +kernel) (by decide +kernel)
theorem wp_75 : Cond.selects RX12 yX12_readBoth yX12_readBoth ∈ TB := tv 75 (by decide +kernel) (by decide +kernel)
theorem wp_76 : Cond.selects RX12 yX12_readPlain yX12_readPlain ∈ TB := tv 76 (by decide +kernel) (by decide +kernel)
theorem wd_1240 : (Cond.fieldLink RX12 (30 : Nat) "NineRiverModel" "words" "[B") ∈ TB := tw 1240 (by decide +kernel) (by decide +kernel)
theorem wd_1248 : (Cond.fieldLink RX12 (145 : Nat) "NineRiverModel" "tokens" "I") ∈ TB := tw 1248 (by decide +kernel) (by decide +kernel)
theorem wd_1564 : (Cond.methodLink RX12 (213 : Nat) yX12_reads) ∈ TB := tw 1564 (by decide +kernel) (by decide +kernel)
theorem wd_1566 : (Jvm.Cond.instanceMethod yX12_reads) ∈ TB := tw 1566 (by decide +kernel) (by decide +kernel)
theorem wd_1567 : (Cond.code yX12_reads cX12_reads 2 (Option.some Jvm.ClassFile.FieldType.boolean)) ∈ TB := tw 1567 (by decide +kernel) (by decide +kernel)
theorem wd_1568 : (Cond.methodLink RX12 (207 : Nat) yX12_splits) ∈ TB := tw 1568 (by decide +kernel) (by decide +kernel)
theorem wd_1570 : (Jvm.Cond.instanceMethod yX12_splits) ∈ TB := tw 1570 (by decide +kernel) (by decide +kernel)
theorem wd_1571 : (Cond.code yX12_splits cX12_splits 6 (Option.none : Option Jvm.ClassFile.FieldType)) ∈ TB := tw 1571 (by decide +kernel) (by decide +kernel)
theorem wd_1572 : (Cond.methodLink RX12 (148 : Nat) yX12_isSmall) ∈ TB := tw 1572 (by decide +kernel) (by decide +kernel)
theorem wd_1573 : (Jvm.Cond.static yX12_isSmall) ∈ TB := tw 1573 (by decide +kernel) (by decide +kernel)
theorem wd_1574 : (Cond.code yX12_isSmall cX12_isSmall 1 (Option.some Jvm.ClassFile.FieldType.boolean)) ∈ TB := tw 1574 (by decide +kernel) (by decide +kernel)
theorem wd_1575 : (Cond.methodLink RX12 (151 : Nat) yX12_isDigit) ∈ TB := tw 1575 (by decide +kernel) (by decide +kernel)
theorem wd_1576 : (Jvm.Cond.static yX12_isDigit) ∈ TB := tw 1576 (by decide +kernel) (by decide +kernel)
theorem wd_1577 : (Cond.code yX12_isDigit cX12_isDigit 1 (Option.some Jvm.ClassFile.FieldType.boolean)) ∈ TB := tw 1577 (by decide +kernel) (by decide +kernel)
theorem wd_1578 : (Cond.methodLink RX12 (154 : Nat) yX12_wordOf) ∈ TB := tw 1578 (by decide +kernel) (by decide +kernel)
theorem wd_1580 : (Jvm.Cond.instanceMethod yX12_wordOf) ∈ TB := tw 1580 (by decide +kernel) (by decide +kernel)
theorem wd_1581 : (Cond.code yX12_wordOf cX12_wordOf 8 (Option.some Jvm.ClassFile.FieldType.int)) ∈ TB := tw 1581 (by decide +kernel) (by decide +kernel)
theorem wd_1583 : (Cond.methodLink RX12 (210 : Nat) yX12_readClause) ∈ TB := tw 1583 (by decide +kernel) (by decide +kernel)
theorem wd_1585 : (Jvm.Cond.instanceMethod yX12_readClause) ∈ TB := tw 1585 (by decide +kernel) (by decide +kernel)
theorem wd_1586 : (Cond.code yX12_readClause cX12_readClause 1 (Option.none : Option Jvm.ClassFile.FieldType)) ∈ TB := tw 1586 (by decide +kernel) (by decide +kernel)
theorem wd_1619 : (Cond.methodLink RX12 (185 : Nat) yX12_readTest) ∈ TB := tw 1619 (by decide +kernel) (by decide +kernel)
theorem wd_1621 : (Jvm.Cond.instanceMethod yX12_readTest) ∈ TB := tw 1621 (by decide +kernel) (by decide +kernel)
theorem wd_1622 : (Cond.code yX12_readTest cX12_readTest 2 (Option.none : Option Jvm.ClassFile.FieldType)) ∈ TB := tw 1622 (by decide +kernel) (by decide +kernel)
theorem wd_1623 : (Cond.methodLink RX12 (188 : Nat) yX12_readBoth) ∈ TB := tw 1623 (by decide +kernel) (by decide +kernel)
theorem wd_1625 : (Jvm.Cond.instanceMethod yX12_readBoth) ∈ TB := tw 1625 (by decide +kernel) (by decide +kernel)
theorem wd_1626 : (Cond.code yX12_readBoth cX12_readBoth 2 (Option.none : Option Jvm.ClassFile.FieldType)) ∈ TB := tw 1626 (by decide +kernel) (by decide +kernel)
theorem wd_1627 : (Cond.methodLink RX12 (191 : Nat) yX12_readPlain) ∈ TB := tw 1627 (by decide +kernel) (by decide +kernel)
theorem wd_1629 : (Jvm.Cond.instanceMethod yX12_readPlain) ∈ TB := tw 1629 (by decide +kernel) (by decide +kernel)
theorem wd_1630 : (Cond.code yX12_readPlain cX12_readPlain 4 (Option.none : Option Jvm.ClassFile.FieldType)) ∈ TB := tw 1630 (by decide +kernel) (by decide +kernel)
theorem dX12_readBoth_0 : decode cX12_readBoth 0 = .ok (.aload_n 0, 1) := by decide +kernel
theorem dX12_readBoth_1 : decode cX12_readBoth 1 = .ok (.iload_n 1, 1) := by decide +kernel
theorem dX12_readBoth_2 : decode cX12_readBoth 2 = .ok (.invokevirtual 191, 3) := by decide +kernel
theorem dX12_readBoth_5 : decode cX12_readBoth 5 = .ok (.aload_n 0, 1) := by decide +kernel
theorem dX12_readBoth_6 : decode cX12_readBoth 6 = .ok (.bipush 7, 2) := by decide +kernel
theorem dX12_readBoth_8 : decode cX12_readBoth 8 = .ok (.invokevirtual 169, 3) := by decide +kernel
theorem dX12_readBoth_11 : decode cX12_readBoth 11 = .ok (.ifCond .eq 11, 3) := by decide +kernel
theorem dX12_readBoth_14 : decode cX12_readBoth 14 = .ok (.aload_n 0, 1) := by decide +kernel
theorem dX12_readBoth_15 : decode cX12_readBoth 15 = .ok (.iload_n 1, 1) := by decide +kernel
theorem dX12_readBoth_16 : decode cX12_readBoth 16 = .ok (.invokevirtual 191, 3) := by decide +kernel
theorem dX12_readBoth_19 : decode cX12_readBoth 19 = .ok (.goto (-14), 3) := by decide +kernel
theorem dX12_readBoth_22 : decode cX12_readBoth 22 = .ok (.return_, 1) := by decide +kernel
set_option maxHeartbeats 4000000 in
set_option maxRecDepth 100000 in
theorem c_X12_readBoth (l : Launch) (E : Nat → Nat) (D : va_G) (G : th_G) (k : Nat) (h0 : Nat) (hG0 : G h0 = some (10, 0)) (x1 : Int32) (ff cd va pl : Nat → Int32) (TT pp LL : Nat) (bb : Int32) (dd : Nat) (hdd : x1.toInt = (dd : Int)) (hd8 : dd ≤ 8) (hk : 8 ≤ dd + k) (tl : Nat) (fl : List Nat) (ht45 : tl = 4 ∨ tl = 5) (nk : Nat) (XX : Nat × Bool) (hdp : pd_dp (tl :: fl) = dd) (hiv : IV cd va pl TT XX (3, tl :: fl, nk, LL) pp bb) (hpl : ∀ (h0 : Nat) (hG0 : G h0 = some (10, 0)) (x1 : Int32) (ff cd va pl : Nat → Int32) (TT pp LL : Nat) (bb : Int32) (dd : Nat) (hdd : x1.toInt = (dd : Int)) (hd8 : dd ≤ 8) (hk : 8 ≤ dd + k) (fl : List Nat) (nk : Nat) (XX : Nat × Bool) (hdp : pd_dp (fl) = dd) (hiv : IV cd va pl TT XX (3, fl, nk, LL) pp bb), Met l yX12_readPlain (tb (.code yX12_readPlain cX12_readPlain 4 none)) (rm (30 + 3 * k)) (va_Pc [.ref h0, .int x1] (PX E D G (fun H => RX E D G h0 ff cd va pl TT pp bb LL H))) (QXv E D G (fun H => ∃ (p2 : Nat) (b2 : Int32) (L2 : Nat), RX E D G h0 ff cd va pl TT p2 b2 L2 H ∧ pp ≤ p2 ∧ (b2.toInt = -1 → bb.toInt = -1 ∧ Gr (rC cd TT) 3 dd pp p2) ∧ IV cd va pl TT XX (4, fl, nk, L2) p2 b2)) 0 0 (th_A G)) : Met l yX12_readBoth (tb (.code yX12_readBoth cX12_readBoth 2 none)) (rm (31 + 3 * k)) (va_Pc [.ref h0, .int x1] (PX E D G (fun H => RX E D G h0 ff cd va pl TT pp bb LL H))) (QXv E D G (fun H => ∃ (p2 : Nat) (b2 : Int32) (L2 : Nat), RX E D G h0 ff cd va pl TT p2 b2 L2 H ∧ pp ≤ p2 ∧ (b2.toInt = -1 → bb.toInt = -1 ∧ Gr (rC cd TT) 4 dd pp p2) ∧ IV cd va pl TT XX (4, tl :: fl, nk, L2) p2 b2 ∧ (b2.toInt = -1 → rC cd TT p2 ≠ 7))) 0 0 (th_A G) := by
  refine Met.ofW (cc := cX12_readBoth) (maxL := 2) (ret := none) (by decide) rfl ?_
  intro p e s m args below meth c s₁ B hml hv
  obtain ⟨hav, ⟨hI, hN, hK⟩, hX⟩ := hv
  have hx := B.exec
  have hb := B.bytes
  have hr := B.returns
  have hts := atoms_spec (ws := tb (.code yX12_readBoth cX12_readBoth 2 none)) B.pre
  have hown : s.vm.findClass RX12 = some m.cls := findClass_of_methodNamed B.named
  have hlocks := B.notSynchronized
  have hS : va_S (th_A G) s.heap s.heap [] := va_S.rf
  have hl := lv_entry ([.ref h0, .int x1]) (n := 2) (Nat.le_of_ble_eq_true rfl)
  rw [show entryFrame m args 2 = entryFrame m ([.ref h0, .int x1] : List Value).toArray 2 from by rw [hav], lg_entry_eq]
  generalize (lg_sl ([.ref h0, .int x1]) ++ List.replicate (2 - (lg_sl ([.ref h0, .int x1])).length) Slot.unset).toArray = ls at hl ⊢
  have hl : lv_has ls 2 [(0, .ref h0), (1, .int x1)] := hl
  generalize hR : (headSpec (tb (.code yX12_readBoth cX12_readBoth 2 none)) (rm (31 + 3 * k))).room = R
  have hR := hR.symm
  generalize hQ : MQ below (QXv E D G (fun H => ∃ (p2 : Nat) (b2 : Int32) (L2 : Nat), RX E D G h0 ff cd va pl TT p2 b2 L2 H ∧ pp ≤ p2 ∧ (b2.toInt = -1 → bb.toInt = -1 ∧ Gr (rC cd TT) 4 dd pp p2) ∧ IV cd va pl TT XX (4, tl :: fl, nk, L2) p2 b2 ∧ (b2.toInt = -1 → rC cd TT p2 ≠ 7))) args s 0 0 (th_A G) = QF
  have hQ := hQ.symm
  obtain ⟨⟨hkf, hT, hz0, k24, ⟨a1, hf2, hq3, hA4⟩, ⟨a5, hf6, hq7, hA8⟩, ⟨w17, hg18, k25⟩, ⟨w19, hg20, k26⟩, hg21⟩, ⟨a9, hf10, hq11, hA12⟩, ⟨a13, hf14, hq15, hA16⟩, hPl, ⟨w22, hg23, k27⟩, k28, k29⟩ := hX
  have J_5 : ∀ (nn : Nat) (H : Heap) (locs : List Loc) (ls : Array Slot)  (p1 : Nat) (b1 : Int32) (L1 : Nat), (Int.toNat (((TT : Nat) : Int) - ((p1 : Nat) : Int)) = nn) → lv_has ls 2 [(0, .ref h0), (1, .int x1)] → ((0 : Int) ≤ x1.toInt ∧ x1.toInt ≤ 8) → (pp ≤ p1) → (b1.toInt = -1 → bb.toInt = -1 ∧ ∀ r, Gr (rC cd TT) 9 dd p1 r → Gr (rC cd TT) 4 dd pp r) → (IV cd va pl TT XX (4, tl :: fl, nk, L1) p1 b1) → (RX E D G h0 ff cd va pl TT p1 b1 L1 H) → th_I (okM E) D G [] H → va_S (th_A G) s.heap H locs → W p l e R s m args below meth c H locs 0 0 QF (F0 m 5 ls []) := by
    intro nn
    induction nn using Nat.strongRecOn with
    | ind nn ih_5 =>
      intro H locs ls  p1 b1 L1 hm hl k1242 hle1 hInv hiv1 hE hI hS
      obtain ⟨⟨hkf, hT, hz0, k1266, ⟨a1243, hf1244, hq1245, hA1246⟩, ⟨a1247, hf1248, hq1249, hA1250⟩, ⟨w1259, hg1260, k1267⟩, ⟨w1261, hg1262, k1268⟩, hg1263⟩, ⟨a1251, hf1252, hq1253, hA1254⟩, ⟨a1255, hf1256, hq1257, hA1258⟩, hPl, ⟨w1264, hg1265, k1269⟩, k1270, k1271⟩ := hE
      refine lv_aload_n hx hb dX12_readBoth_5 rfl (lv_at hl 0 rfl) ?_
      refine lv_bipush (v := 7) hx hb dX12_readBoth_6 (by decide) ?_
      refine mx_i (As := [.int 7]) (rest := []) (n := 1) (d := 1) ⟨hx, hb, hml, hown, hts⟩ (c_X12_takes0 l E D G h0 hG0 7 ff cd va pl TT p1 L1 b1 (by first | decide | omega)) wd_1587 wd_1589 wp_66 wd_13 wd_1590 (by decide +kernel) ⟨by rw [hR]; show 1 + 1 ≤ 31 + 3 * k; omega, by rw [hR]; show 8 + (3 + 11) + 40 * (1) ≤ 40 * (31 + 3 * k); omega⟩ hI hN hK hS hG0 (⟨⟨hkf, hT, hz0, by omega, ⟨a1243, hf1244, hq1245, hA1246⟩, ⟨a1247, hf1248, hq1249, hA1250⟩, ⟨w1259, hg1260, by first | omega | decide⟩, ⟨w1261, hg1262, by first | omega | decide⟩, hg1263⟩, ⟨a1251, hf1252, hq1253, hA1254⟩, ⟨a1255, hf1256, hq1257, hA1258⟩, hPl, ⟨w1264, hg1265, by first | omega | decide⟩, by omega, by first | omega | (intro; omega)⟩) rfl hl.1 rfl (Nat.le_of_ble_eq_true rfl) dX12_readBoth_8 ⟨Nat.zero_le _, Nat.zero_le _⟩ (fun r1272 H locs hI hp hS => ?_)
      rcases hp with ⟨rfl, hp⟩ | ⟨rfl, hp⟩
      · skip
        try simp only [rg, not_and, Int.not_le] at hp
        have hp1273 := hp
        obtain ⟨hb1276, hc1274, k1275, hE⟩ := hp1273
        have hp1273 : True := trivial
        rw [show (7 : Int32).toInt = 7 from by decide] at hc1274
        obtain ⟨⟨hkf, hT, hz0, k1300, ⟨a1277, hf1278, hq1279, hA1280⟩, ⟨a1281, hf1282, hq1283, hA1284⟩, ⟨w1293, hg1294, k1301⟩, ⟨w1295, hg1296, k1302⟩, hg1297⟩, ⟨a1285, hf1286, hq1287, hA1288⟩, ⟨a1289, hf1290, hq1291, hA1292⟩, hPl, ⟨w1298, hg1299, k1303⟩, k1304, k1305⟩ := hE
        have hiv1306 : IV cd va pl TT XX (3, tl :: fl, nk, L1) (p1 + 1) b1 := hiv1.go (fun hb9 => pd_D_an k1275 ht45 (by omega))
        try rw [show (7 : Int32).toInt = 7 from by decide] at hp1273
        refine lv_if_eq (tgt := 22) hx hb dX12_readBoth_11 (by decide) (fun c => absurd c (by decide)) (fun _ => ?_)
        refine lv_aload_n hx hb dX12_readBoth_14 rfl (lv_at hl 0 rfl) ?_
        refine lv_iload_n hx hb dX12_readBoth_15 rfl (lv_at hl 1 rfl) ?_
        refine mx_v (As := [.int x1]) (rest := []) (n := 1) (d := (30 + 3 * k)) ⟨hx, hb, hml, hown, hts⟩ (hpl h0 hG0 x1 ff cd va pl TT (p1 + 1) L1 b1 dd (by first | decide | omega) (by omega) (by omega) (tl :: fl) nk XX hdp hiv1306) wd_1627 wd_1629 wp_76 wd_13 wd_1630 (by decide +kernel) ⟨by rw [hR]; show (30 + 3 * k) + 1 ≤ 31 + 3 * k; omega, by rw [hR]; show 8 + (4 + 11) + 40 * ((30 + 3 * k)) ≤ 40 * (31 + 3 * k); omega⟩ hI hN hK hS hG0 (⟨⟨hkf, hT, hz0, by omega, ⟨a1277, hf1278, hq1279, hA1280⟩, ⟨a1281, hf1282, hq1283, hA1284⟩, ⟨w1293, hg1294, by first | omega | decide⟩, ⟨w1295, hg1296, by first | omega | decide⟩, hg1297⟩, ⟨a1285, hf1286, hq1287, hA1288⟩, ⟨a1289, hf1290, hq1291, hA1292⟩, hPl, ⟨w1298, hg1299, by first | omega | decide⟩, by omega, by first | omega | (intro; omega)⟩) rfl hl.1 rfl (Nat.le_of_ble_eq_true rfl) dX12_readBoth_16 ⟨Nat.zero_le _, Nat.zero_le _⟩ (fun H locs hI hp hS => ?_)
        obtain ⟨pn1308, bn1309, Ln1310, hE, k1313, hi1311, hiv1312⟩ := hp
        obtain ⟨⟨hkf, hT, hz0, k1337, ⟨a1314, hf1315, hq1316, hA1317⟩, ⟨a1318, hf1319, hq1320, hA1321⟩, ⟨w1330, hg1331, k1338⟩, ⟨w1332, hg1333, k1339⟩, hg1334⟩, ⟨a1322, hf1323, hq1324, hA1325⟩, ⟨a1326, hf1327, hq1328, hA1329⟩, hPl, ⟨w1335, hg1336, k1340⟩, k1341, k1342⟩ := hE
        have hInv2 : bn1309.toInt = -1 → bb.toInt = -1 ∧ ∀ r, Gr (rC cd TT) 9 dd pn1308 r → Gr (rC cd TT) 4 dd pp r := fun h => ⟨(hInv hb1276).1, r9_m (hInv hb1276).2 (by omega) (hi1311 h).2⟩
        refine lv_goto (tgt := 5) hx hb dX12_readBoth_19 (by decide) ?_
        exact ih_5 _ (by omega) H locs ls  pn1308 bn1309 Ln1310 rfl (lv_sub hl [0, 1] rfl) ⟨by omega, by omega⟩ (by omega) (hInv2) (hiv1312) (⟨⟨hkf, hT, hz0, by omega, ⟨a1314, hf1315, hq1316, hA1317⟩, ⟨a1318, hf1319, hq1320, hA1321⟩, ⟨w1330, hg1331, by first | omega | decide⟩, ⟨w1332, hg1333, by first | omega | decide⟩, hg1334⟩, ⟨a1322, hf1323, hq1324, hA1325⟩, ⟨a1326, hf1327, hq1328, hA1329⟩, hPl, ⟨w1335, hg1336, by first | omega | decide⟩, by omega, by first | omega | (intro; omega)⟩) hI hS
      · skip
        try simp only [rg, not_and, Int.not_le] at hp
        have hp1343 := hp
        obtain ⟨hc1344, hE⟩ := hp1343
        have hp1343 : True := trivial
        rw [show (7 : Int32).toInt = 7 from by decide] at hc1344
        obtain ⟨⟨hkf, hT, hz0, k1369, ⟨a1346, hf1347, hq1348, hA1349⟩, ⟨a1350, hf1351, hq1352, hA1353⟩, ⟨w1362, hg1363, k1370⟩, ⟨w1364, hg1365, k1371⟩, hg1366⟩, ⟨a1354, hf1355, hq1356, hA1357⟩, ⟨a1358, hf1359, hq1360, hA1361⟩, hPl, ⟨w1367, hg1368, k1372⟩, k1373, k1374⟩ := hE
        try rw [show (7 : Int32).toInt = 7 from by decide] at hp1343
        refine lv_if_eq (tgt := 22) hx hb dX12_readBoth_11 (by decide) (fun _ => ?_) (fun c => absurd c (by decide))
        have hpost : ∃ (p2 : Nat) (b2 : Int32) (L2 : Nat), RX E D G h0 ff cd va pl TT p2 b2 L2 H ∧ pp ≤ p2 ∧ (b2.toInt = -1 → bb.toInt = -1 ∧ Gr (rC cd TT) 4 dd pp p2) ∧ IV cd va pl TT XX (4, tl :: fl, nk, L2) p2 b2 ∧ (b2.toInt = -1 → rC cd TT p2 ≠ 7) := ⟨p1, b1, L1, ⟨⟨hkf, hT, hz0, by omega, ⟨a1346, hf1347, hq1348, hA1349⟩, ⟨a1350, hf1351, hq1352, hA1353⟩, ⟨w1362, hg1363, by first | omega | decide⟩, ⟨w1364, hg1365, by first | omega | decide⟩, hg1366⟩, ⟨a1354, hf1355, hq1356, hA1357⟩, ⟨a1358, hf1359, hq1360, hA1361⟩, hPl, ⟨w1367, hg1368, by first | omega | decide⟩, by omega, by first | omega | (intro; omega)⟩, by omega, fun h => ⟨(hInv h).1, r9_x (hInv h).2 (by omega)⟩, hiv1, fun hb9 => (by omega)⟩
        rw [hQ]
        exact W.vret hx hb hr (fun t ht hW => ⟨⟨(), rfl, trivial, ⟨by rw [ht]; exact hI, hN.warm hW, va_K.moved hW.alike hK⟩, by first | (rw [ht]; exact hpost) | exact hpost⟩, hS.F ht⟩) hS.2.2 dX12_readBoth_22
  refine lv_aload_n hx hb dX12_readBoth_0 rfl (lv_at hl 0 rfl) ?_
  refine lv_iload_n hx hb dX12_readBoth_1 rfl (lv_at hl 1 rfl) ?_
  refine mx_v (As := [.int x1]) (rest := []) (n := 1) (d := (30 + 3 * k)) ⟨hx, hb, hml, hown, hts⟩ (hpl h0 hG0 x1 ff cd va pl TT pp LL bb dd (by first | decide | omega) (by omega) (by omega) (tl :: fl) nk XX hdp hiv) wd_1627 wd_1629 wp_76 wd_13 wd_1630 (by decide +kernel) ⟨by rw [hR]; show (30 + 3 * k) + 1 ≤ 31 + 3 * k; omega, by rw [hR]; show 8 + (4 + 11) + 40 * ((30 + 3 * k)) ≤ 40 * (31 + 3 * k); omega⟩ hI hN hK hS hG0 (⟨⟨hkf, hT, hz0, by omega, ⟨a1, hf2, hq3, hA4⟩, ⟨a5, hf6, hq7, hA8⟩, ⟨w17, hg18, by first | omega | decide⟩, ⟨w19, hg20, by first | omega | decide⟩, hg21⟩, ⟨a9, hf10, hq11, hA12⟩, ⟨a13, hf14, hq15, hA16⟩, hPl, ⟨w22, hg23, by first | omega | decide⟩, by omega, by first | omega | (intro; omega)⟩) rfl hl.1 rfl (Nat.le_of_ble_eq_true rfl) dX12_readBoth_2 ⟨Nat.zero_le _, Nat.zero_le _⟩ (fun H locs hI hp hS => ?_)
  obtain ⟨pn1376, bn1377, Ln1378, hE, k1381, hi1379, hiv1380⟩ := hp
  obtain ⟨⟨hkf, hT, hz0, k1405, ⟨a1382, hf1383, hq1384, hA1385⟩, ⟨a1386, hf1387, hq1388, hA1389⟩, ⟨w1398, hg1399, k1406⟩, ⟨w1400, hg1401, k1407⟩, hg1402⟩, ⟨a1390, hf1391, hq1392, hA1393⟩, ⟨a1394, hf1395, hq1396, hA1397⟩, hPl, ⟨w1403, hg1404, k1408⟩, k1409, k1410⟩ := hE
  have hInv0 : bn1377.toInt = -1 → bb.toInt = -1 ∧ ∀ r, Gr (rC cd TT) 9 dd pn1376 r → Gr (rC cd TT) 4 dd pp r := fun h => ⟨(hi1379 h).1, r9_i (hi1379 h).2⟩
  exact J_5 _ H locs ls  pn1376 bn1377 Ln1378 rfl (lv_sub hl [0, 1] rfl) ⟨by omega, by omega⟩ (by omega) (hInv0) (hiv1380) (⟨⟨hkf, hT, hz0, by omega, ⟨a1382, hf1383, hq1384, hA1385⟩, ⟨a1386, hf1387, hq1388, hA1389⟩, ⟨w1398, hg1399, by first | omega | decide⟩, ⟨w1400, hg1401, by first | omega | decide⟩, hg1402⟩, ⟨a1390, hf1391, hq1392, hA1393⟩, ⟨a1394, hf1395, hq1396, hA1397⟩, hPl, ⟨w1403, hg1404, by first | omega | decide⟩, by omega, by first | omega | (intro; omega)⟩) hI hS
theorem dX12_readTest_0 : decode cX12_readTest 0 = .ok (.aload_n 0, 1) := by decide +kernel
theorem dX12_readTest_1 : decode cX12_readTest 1 = .ok (.iload_n 1, 1) := by decide +kernel
theorem dX12_readTest_2 : decode cX12_readTest 2 = .ok (.invokevirtual 188, 3) := by decide +kernel
theorem dX12_readTest_5 : decode cX12_readTest 5 = .ok (.aload_n 0, 1) := by decide +kernel
theorem dX12_readTest_6 : decode cX12_readTest 6 = .ok (.bipush 6, 2) := by decide +kernel
theorem dX12_readTest_8 : decode cX12_readTest 8 = .ok (.invokevirtual 169, 3) := by decide +kernel
theorem dX12_readTest_11 : decode cX12_readTest 11 = .ok (.ifCond .eq 11, 3) := by decide +kernel
theorem dX12_readTest_14 : decode cX12_readTest 14 = .ok (.aload_n 0, 1) := by decide +kernel
theorem dX12_readTest_15 : decode cX12_readTest 15 = .ok (.iload_n 1, 1) := by decide +kernel
theorem dX12_readTest_16 : decode cX12_readTest 16 = .ok (.invokevirtual 188, 3) := by decide +kernel
theorem dX12_readTest_19 : decode cX12_readTest 19 = .ok (.goto (-14), 3) := by decide +kernel
theorem dX12_readTest_22 : decode cX12_readTest 22 = .ok (.return_, 1) := by decide +kernel
set_option maxHeartbeats 4000000 in
set_option maxRecDepth 100000 in
theorem c_X12_readTest (l : Launch) (E : Nat → Nat) (D : va_G) (G : th_G) (k : Nat) (h0 : Nat) (hG0 : G h0 = some (10, 0)) (x1 : Int32) (ff cd va pl : Nat → Int32) (TT pp LL : Nat) (bb : Int32) (dd : Nat) (hdd : x1.toInt = (dd : Int)) (hd8 : dd ≤ 8) (hk : 8 ≤ dd + k) (tl : Nat) (fl : List Nat) (ht45 : tl = 4 ∨ tl = 5) (nk : Nat) (XX : Nat × Bool) (hdp : pd_dp (tl :: fl) = dd) (hiv : IV cd va pl TT XX (3, tl :: fl, nk, LL) pp bb) (hpl : ∀ (h0 : Nat) (hG0 : G h0 = some (10, 0)) (x1 : Int32) (ff cd va pl : Nat → Int32) (TT pp LL : Nat) (bb : Int32) (dd : Nat) (hdd : x1.toInt = (dd : Int)) (hd8 : dd ≤ 8) (hk : 8 ≤ dd + k) (fl : List Nat) (nk : Nat) (XX : Nat × Bool) (hdp : pd_dp (fl) = dd) (hiv : IV cd va pl TT XX (3, fl, nk, LL) pp bb), Met l yX12_readPlain (tb (.code yX12_readPlain cX12_readPlain 4 none)) (rm (30 + 3 * k)) (va_Pc [.ref h0, .int x1] (PX E D G (fun H => RX E D G h0 ff cd va pl TT pp bb LL H))) (QXv E D G (fun H => ∃ (p2 : Nat) (b2 : Int32) (L2 : Nat), RX E D G h0 ff cd va pl TT p2 b2 L2 H ∧ pp ≤ p2 ∧ (b2.toInt = -1 → bb.toInt = -1 ∧ Gr (rC cd TT) 3 dd pp p2) ∧ IV cd va pl TT XX (4, fl, nk, L2) p2 b2)) 0 0 (th_A G)) : Met l yX12_readTest (tb (.code yX12_readTest cX12_readTest 2 none)) (rm (32 + 3 * k)) (va_Pc [.ref h0, .int x1] (PX E D G (fun H => RX E D G h0 ff cd va pl TT pp bb LL H))) (QXv E D G (fun H => ∃ (p2 : Nat) (b2 : Int32) (L2 : Nat), RX E D G h0 ff cd va pl TT p2 b2 L2 H ∧ pp ≤ p2 ∧ (b2.toInt = -1 → bb.toInt = -1 ∧ Gr (rC cd TT) 5 dd pp p2) ∧ IV cd va pl TT XX (4, tl :: fl, nk, L2) p2 b2 ∧ (b2.toInt = -1 → rC cd TT p2 ≠ 6 ∧ rC cd TT p2 ≠ 7))) 0 0 (th_A G) := by
  refine Met.ofW (cc := cX12_readTest) (maxL := 2) (ret := none) (by decide) rfl ?_
  intro p e s m args below meth c s₁ B hml hv
  obtain ⟨hav, ⟨hI, hN, hK⟩, hX⟩ := hv
  have hx := B.exec
  have hb := B.bytes
  have hr := B.returns
  have hts := atoms_spec (ws := tb (.code yX12_readTest cX12_readTest 2 none)) B.pre
  have hown : s.vm.findClass RX12 = some m.cls := findClass_of_methodNamed B.named
  have hlocks := B.notSynchronized
  have hS : va_S (th_A G) s.heap s.heap [] := va_S.rf
  have hl := lv_entry ([.ref h0, .int x1]) (n := 2) (Nat.le_of_ble_eq_true rfl)
  rw [show entryFrame m args 2 = entryFrame m ([.ref h0, .int x1] : List Value).toArray 2 from by rw [hav], lg_entry_eq]
  generalize (lg_sl ([.ref h0, .int x1]) ++ List.replicate (2 - (lg_sl ([.ref h0, .int x1])).length) Slot.unset).toArray = ls at hl ⊢
  have hl : lv_has ls 2 [(0, .ref h0), (1, .int x1)] := hl
  generalize hR : (headSpec (tb (.code yX12_readTest cX12_readTest 2 none)) (rm (32 + 3 * k))).room = R
  have hR := hR.symm
  generalize hQ : MQ below (QXv E D G (fun H => ∃ (p2 : Nat) (b2 : Int32) (L2 : Nat), RX E D G h0 ff cd va pl TT p2 b2 L2 H ∧ pp ≤ p2 ∧ (b2.toInt = -1 → bb.toInt = -1 ∧ Gr (rC cd TT) 5 dd pp p2) ∧ IV cd va pl TT XX (4, tl :: fl, nk, L2) p2 b2 ∧ (b2.toInt = -1 → rC cd TT p2 ≠ 6 ∧ rC cd TT p2 ≠ 7))) args s 0 0 (th_A G) = QF
  have hQ := hQ.symm
  obtain ⟨⟨hkf, hT, hz0, k24, ⟨a1, hf2, hq3, hA4⟩, ⟨a5, hf6, hq7, hA8⟩, ⟨w17, hg18, k25⟩, ⟨w19, hg20, k26⟩, hg21⟩, ⟨a9, hf10, hq11, hA12⟩, ⟨a13, hf14, hq15, hA16⟩, hPl, ⟨w22, hg23, k27⟩, k28, k29⟩ := hX
  have J_5 : ∀ (nn : Nat) (H : Heap) (locs : List Loc) (ls : Array Slot)  (p1 : Nat) (b1 : Int32) (L1 : Nat), (Int.toNat (((TT : Nat) : Int) - ((p1 : Nat) : Int)) = nn) → lv_has ls 2 [(0, .ref h0), (1, .int x1)] → ((0 : Int) ≤ x1.toInt ∧ x1.toInt ≤ 8) → (pp ≤ p1) → (b1.toInt = -1 → bb.toInt = -1 ∧ ∀ r, Gr (rC cd TT) 10 dd p1 r → Gr (rC cd TT) 5 dd pp r) → (IV cd va pl TT XX (4, tl :: fl, nk, L1) p1 b1) → (b1.toInt = -1 → rC cd TT p1 ≠ 7) → (RX E D G h0 ff cd va pl TT p1 b1 L1 H) → th_I (okM E) D G [] H → va_S (th_A G) s.heap H locs → W p l e R s m args below meth c H locs 0 0 QF (F0 m 5 ls []) := by
    intro nn
    induction nn using Nat.strongRecOn with
    | ind nn ih_5 =>
      intro H locs ls  p1 b1 L1 hm hl k1257 hle1 hInv hiv1 hno1 hE hI hS
      obtain ⟨⟨hkf, hT, hz0, k1281, ⟨a1258, hf1259, hq1260, hA1261⟩, ⟨a1262, hf1263, hq1264, hA1265⟩, ⟨w1274, hg1275, k1282⟩, ⟨w1276, hg1277, k1283⟩, hg1278⟩, ⟨a1266, hf1267, hq1268, hA1269⟩, ⟨a1270, hf1271, hq1272, hA1273⟩, hPl, ⟨w1279, hg1280, k1284⟩, k1285, k1286⟩ := hE
      refine lv_aload_n hx hb dX12_readTest_5 rfl (lv_at hl 0 rfl) ?_
      refine lv_bipush (v := 6) hx hb dX12_readTest_6 (by decide) ?_
      refine mx_i (As := [.int 6]) (rest := []) (n := 1) (d := 1) ⟨hx, hb, hml, hown, hts⟩ (c_X12_takes0 l E D G h0 hG0 6 ff cd va pl TT p1 L1 b1 (by first | decide | omega)) wd_1587 wd_1589 wp_66 wd_13 wd_1590 (by decide +kernel) ⟨by rw [hR]; show 1 + 1 ≤ 32 + 3 * k; omega, by rw [hR]; show 8 + (3 + 11) + 40 * (1) ≤ 40 * (32 + 3 * k); omega⟩ hI hN hK hS hG0 (⟨⟨hkf, hT, hz0, by omega, ⟨a1258, hf1259, hq1260, hA1261⟩, ⟨a1262, hf1263, hq1264, hA1265⟩, ⟨w1274, hg1275, by first | omega | decide⟩, ⟨w1276, hg1277, by first | omega | decide⟩, hg1278⟩, ⟨a1266, hf1267, hq1268, hA1269⟩, ⟨a1270, hf1271, hq1272, hA1273⟩, hPl, ⟨w1279, hg1280, by first | omega | decide⟩, by omega, by first | omega | (intro; omega)⟩) rfl hl.1 rfl (Nat.le_of_ble_eq_true rfl) dX12_readTest_8 ⟨Nat.zero_le _, Nat.zero_le _⟩ (fun r1287 H locs hI hp hS => ?_)
      rcases hp with ⟨rfl, hp⟩ | ⟨rfl, hp⟩
      · skip
        try simp only [rg, not_and, Int.not_le] at hp
        have hp1288 := hp
        obtain ⟨hb1291, hc1289, k1290, hE⟩ := hp1288
        have hp1288 : True := trivial
        rw [show (6 : Int32).toInt = 6 from by decide] at hc1289
        obtain ⟨⟨hkf, hT, hz0, k1315, ⟨a1292, hf1293, hq1294, hA1295⟩, ⟨a1296, hf1297, hq1298, hA1299⟩, ⟨w1308, hg1309, k1316⟩, ⟨w1310, hg1311, k1317⟩, hg1312⟩, ⟨a1300, hf1301, hq1302, hA1303⟩, ⟨a1304, hf1305, hq1306, hA1307⟩, hPl, ⟨w1313, hg1314, k1318⟩, k1319, k1320⟩ := hE
        have hiv1321 : IV cd va pl TT XX (3, tl :: fl, nk, L1) (p1 + 1) b1 := hiv1.go (fun hb9 => pd_D_an k1290 ht45 (by omega))
        try rw [show (6 : Int32).toInt = 6 from by decide] at hp1288
        refine lv_if_eq (tgt := 22) hx hb dX12_readTest_11 (by decide) (fun c => absurd c (by decide)) (fun _ => ?_)
        refine lv_aload_n hx hb dX12_readTest_14 rfl (lv_at hl 0 rfl) ?_
        refine lv_iload_n hx hb dX12_readTest_15 rfl (lv_at hl 1 rfl) ?_
        refine mx_v (As := [.int x1]) (rest := []) (n := 1) (d := (31 + 3 * k)) ⟨hx, hb, hml, hown, hts⟩ (c_X12_readBoth l E D G k h0 hG0 x1 ff cd va pl TT (p1 + 1) L1 b1 dd (by first | decide | omega) (by omega) (by omega) tl fl ht45 nk XX hdp hiv1321 hpl) wd_1623 wd_1625 wp_75 wd_13 wd_1626 (by decide +kernel) ⟨by rw [hR]; show (31 + 3 * k) + 1 ≤ 32 + 3 * k; omega, by rw [hR]; show 8 + (2 + 11) + 40 * ((31 + 3 * k)) ≤ 40 * (32 + 3 * k); omega⟩ hI hN hK hS hG0 (⟨⟨hkf, hT, hz0, by omega, ⟨a1292, hf1293, hq1294, hA1295⟩, ⟨a1296, hf1297, hq1298, hA1299⟩, ⟨w1308, hg1309, by first | omega | decide⟩, ⟨w1310, hg1311, by first | omega | decide⟩, hg1312⟩, ⟨a1300, hf1301, hq1302, hA1303⟩, ⟨a1304, hf1305, hq1306, hA1307⟩, hPl, ⟨w1313, hg1314, by first | omega | decide⟩, by omega, by first | omega | (intro; omega)⟩) rfl hl.1 rfl (Nat.le_of_ble_eq_true rfl) dX12_readTest_16 ⟨Nat.zero_le _, Nat.zero_le _⟩ (fun H locs hI hp hS => ?_)
        obtain ⟨pn1323, bn1324, Ln1325, hE, k1329, hi1326, hiv1327, hno1328⟩ := hp
        obtain ⟨⟨hkf, hT, hz0, k1353, ⟨a1330, hf1331, hq1332, hA1333⟩, ⟨a1334, hf1335, hq1336, hA1337⟩, ⟨w1346, hg1347, k1354⟩, ⟨w1348, hg1349, k1355⟩, hg1350⟩, ⟨a1338, hf1339, hq1340, hA1341⟩, ⟨a1342, hf1343, hq1344, hA1345⟩, hPl, ⟨w1351, hg1352, k1356⟩, k1357, k1358⟩ := hE
        have hInv2 : bn1324.toInt = -1 → bb.toInt = -1 ∧ ∀ r, Gr (rC cd TT) 10 dd pn1323 r → Gr (rC cd TT) 5 dd pp r := fun h => ⟨(hInv hb1291).1, r10_m (hInv hb1291).2 (by omega) (hi1326 h).2⟩
        refine lv_goto (tgt := 5) hx hb dX12_readTest_19 (by decide) ?_
        exact ih_5 _ (by omega) H locs ls  pn1323 bn1324 Ln1325 rfl (lv_sub hl [0, 1] rfl) ⟨by omega, by omega⟩ (by omega) (hInv2) (hiv1327) (hno1328) (⟨⟨hkf, hT, hz0, by omega, ⟨a1330, hf1331, hq1332, hA1333⟩, ⟨a1334, hf1335, hq1336, hA1337⟩, ⟨w1346, hg1347, by first | omega | decide⟩, ⟨w1348, hg1349, by first | omega | decide⟩, hg1350⟩, ⟨a1338, hf1339, hq1340, hA1341⟩, ⟨a1342, hf1343, hq1344, hA1345⟩, hPl, ⟨w1351, hg1352, by first | omega | decide⟩, by omega, by first | omega | (intro; omega)⟩) hI hS
      · skip
        try simp only [rg, not_and, Int.not_le] at hp
        have hp1359 := hp
        obtain ⟨hc1360, hE⟩ := hp1359
        have hp1359 : True := trivial
        rw [show (6 : Int32).toInt = 6 from by decide] at hc1360
        obtain ⟨⟨hkf, hT, hz0, k1385, ⟨a1362, hf1363, hq1364, hA1365⟩, ⟨a1366, hf1367, hq1368, hA1369⟩, ⟨w1378, hg1379, k1386⟩, ⟨w1380, hg1381, k1387⟩, hg1382⟩, ⟨a1370, hf1371, hq1372, hA1373⟩, ⟨a1374, hf1375, hq1376, hA1377⟩, hPl, ⟨w1383, hg1384, k1388⟩, k1389, k1390⟩ := hE
        try rw [show (6 : Int32).toInt = 6 from by decide] at hp1359
        refine lv_if_eq (tgt := 22) hx hb dX12_readTest_11 (by decide) (fun _ => ?_) (fun c => absurd c (by decide))
        have hpost : ∃ (p2 : Nat) (b2 : Int32) (L2 : Nat), RX E D G h0 ff cd va pl TT p2 b2 L2 H ∧ pp ≤ p2 ∧ (b2.toInt = -1 → bb.toInt = -1 ∧ Gr (rC cd TT) 5 dd pp p2) ∧ IV cd va pl TT XX (4, tl :: fl, nk, L2) p2 b2 ∧ (b2.toInt = -1 → rC cd TT p2 ≠ 6 ∧ rC cd TT p2 ≠ 7) := ⟨p1, b1, L1, ⟨⟨hkf, hT, hz0, by omega, ⟨a1362, hf1363, hq1364, hA1365⟩, ⟨a1366, hf1367, hq1368, hA1369⟩, ⟨w1378, hg1379, by first | omega | decide⟩, ⟨w1380, hg1381, by first | omega | decide⟩, hg1382⟩, ⟨a1370, hf1371, hq1372, hA1373⟩, ⟨a1374, hf1375, hq1376, hA1377⟩, hPl, ⟨w1383, hg1384, by first | omega | decide⟩, by omega, by first | omega | (intro; omega)⟩, by omega, fun h => ⟨(hInv h).1, r10_x (hInv h).2 (by omega)⟩, hiv1, fun hb9 => ⟨by omega, hno1 hb9⟩⟩
        rw [hQ]
        exact W.vret hx hb hr (fun t ht hW => ⟨⟨(), rfl, trivial, ⟨by rw [ht]; exact hI, hN.warm hW, va_K.moved hW.alike hK⟩, by first | (rw [ht]; exact hpost) | exact hpost⟩, hS.F ht⟩) hS.2.2 dX12_readTest_22
  refine lv_aload_n hx hb dX12_readTest_0 rfl (lv_at hl 0 rfl) ?_
  refine lv_iload_n hx hb dX12_readTest_1 rfl (lv_at hl 1 rfl) ?_
  refine mx_v (As := [.int x1]) (rest := []) (n := 1) (d := (31 + 3 * k)) ⟨hx, hb, hml, hown, hts⟩ (c_X12_readBoth l E D G k h0 hG0 x1 ff cd va pl TT pp LL bb dd (by first | decide | omega) (by omega) (by omega) tl fl ht45 nk XX hdp hiv hpl) wd_1623 wd_1625 wp_75 wd_13 wd_1626 (by decide +kernel) ⟨by rw [hR]; show (31 + 3 * k) + 1 ≤ 32 + 3 * k; omega, by rw [hR]; show 8 + (2 + 11) + 40 * ((31 + 3 * k)) ≤ 40 * (32 + 3 * k); omega⟩ hI hN hK hS hG0 (⟨⟨hkf, hT, hz0, by omega, ⟨a1, hf2, hq3, hA4⟩, ⟨a5, hf6, hq7, hA8⟩, ⟨w17, hg18, by first | omega | decide⟩, ⟨w19, hg20, by first | omega | decide⟩, hg21⟩, ⟨a9, hf10, hq11, hA12⟩, ⟨a13, hf14, hq15, hA16⟩, hPl, ⟨w22, hg23, by first | omega | decide⟩, by omega, by first | omega | (intro; omega)⟩) rfl hl.1 rfl (Nat.le_of_ble_eq_true rfl) dX12_readTest_2 ⟨Nat.zero_le _, Nat.zero_le _⟩ (fun H locs hI hp hS => ?_)
  obtain ⟨pn1392, bn1393, Ln1394, hE, k1398, hi1395, hiv1396, hno1397⟩ := hp
  obtain ⟨⟨hkf, hT, hz0, k1422, ⟨a1399, hf1400, hq1401, hA1402⟩, ⟨a1403, hf1404, hq1405, hA1406⟩, ⟨w1415, hg1416, k1423⟩, ⟨w1417, hg1418, k1424⟩, hg1419⟩, ⟨a1407, hf1408, hq1409, hA1410⟩, ⟨a1411, hf1412, hq1413, hA1414⟩, hPl, ⟨w1420, hg1421, k1425⟩, k1426, k1427⟩ := hE
  have hInv0 : bn1393.toInt = -1 → bb.toInt = -1 ∧ ∀ r, Gr (rC cd TT) 10 dd pn1392 r → Gr (rC cd TT) 5 dd pp r := fun h => ⟨(hi1395 h).1, r10_i (hi1395 h).2⟩
  exact J_5 _ H locs ls  pn1392 bn1393 Ln1394 rfl (lv_sub hl [0, 1] rfl) ⟨by omega, by omega⟩ (by omega) (hInv0) (hiv1396) (hno1397) (⟨⟨hkf, hT, hz0, by omega, ⟨a1399, hf1400, hq1401, hA1402⟩, ⟨a1403, hf1404, hq1405, hA1406⟩, ⟨w1415, hg1416, by first | omega | decide⟩, ⟨w1417, hg1418, by first | omega | decide⟩, hg1419⟩, ⟨a1407, hf1408, hq1409, hA1410⟩, ⟨a1411, hf1412, hq1413, hA1414⟩, hPl, ⟨w1420, hg1421, by first | omega | decide⟩, by omega, by first | omega | (intro; omega)⟩) hI hS
theorem dX12_readPlain_0 : decode cX12_readPlain 0 = .ok (.iconst 1, 1) := by decide +kernel
theorem dX12_readPlain_1 : decode cX12_readPlain 1 = .ok (.istore_n 2, 1) := by decide +kernel
theorem dX12_readPlain_2 : decode cX12_readPlain 2 = .ok (.iload_n 2, 1) := by decide +kernel
theorem dX12_readPlain_3 : decode cX12_readPlain 3 = .ok (.ifCond .eq 13, 3) := by decide +kernel
theorem dX12_readPlain_6 : decode cX12_readPlain 6 = .ok (.aload_n 0, 1) := by decide +kernel
theorem dX12_readPlain_7 : decode cX12_readPlain 7 = .ok (.bipush 8, 2) := by decide +kernel
theorem dX12_readPlain_9 : decode cX12_readPlain 9 = .ok (.invokevirtual 169, 3) := by decide +kernel
theorem dX12_readPlain_12 : decode cX12_readPlain 12 = .ok (.istore_n 2, 1) := by decide +kernel
theorem dX12_readPlain_13 : decode cX12_readPlain 13 = .ok (.goto (-11), 3) := by decide +kernel
theorem dX12_readPlain_16 : decode cX12_readPlain 16 = .ok (.aload_n 0, 1) := by decide +kernel
theorem dX12_readPlain_17 : decode cX12_readPlain 17 = .ok (.invokevirtual 162, 3) := by decide +kernel
theorem dX12_readPlain_20 : decode cX12_readPlain 20 = .ok (.ifCond .ne 4, 3) := by decide +kernel
theorem dX12_readPlain_23 : decode cX12_readPlain 23 = .ok (.return_, 1) := by decide +kernel
theorem dX12_readPlain_24 : decode cX12_readPlain 24 = .ok (.aload_n 0, 1) := by decide +kernel
theorem dX12_readPlain_25 : decode cX12_readPlain 25 = .ok (.getfield 43, 3) := by decide +kernel
theorem dX12_readPlain_28 : decode cX12_readPlain 28 = .ok (.aload_n 0, 1) := by decide +kernel
theorem dX12_readPlain_29 : decode cX12_readPlain 29 = .ok (.getfield 166, 3) := by decide +kernel
theorem dX12_readPlain_32 : decode cX12_readPlain 32 = .ok (.iaload, 1) := by decide +kernel
theorem dX12_readPlain_33 : decode cX12_readPlain 33 = .ok (.istore_n 3, 1) := by decide +kernel
theorem dX12_readPlain_34 : decode cX12_readPlain 34 = .ok (.iload_n 3, 1) := by decide +kernel
theorem dX12_readPlain_35 : decode cX12_readPlain 35 = .ok (.bipush 40, 2) := by decide +kernel
theorem dX12_readPlain_37 : decode cX12_readPlain 37 = .ok (.invokestatic 194, 3) := by decide +kernel
theorem dX12_readPlain_40 : decode cX12_readPlain 40 = .ok (.if_icmp .ne 50, 3) := by decide +kernel
theorem dX12_readPlain_43 : decode cX12_readPlain 43 = .ok (.iload_n 1, 1) := by decide +kernel
theorem dX12_readPlain_44 : decode cX12_readPlain 44 = .ok (.bipush 8, 2) := by decide +kernel
theorem dX12_readPlain_46 : decode cX12_readPlain 46 = .ok (.if_icmp .ne 7, 3) := by decide +kernel
theorem dX12_readPlain_49 : decode cX12_readPlain 49 = .ok (.aload_n 0, 1) := by decide +kernel
theorem dX12_readPlain_50 : decode cX12_readPlain 50 = .ok (.invokevirtual 172, 3) := by decide +kernel
theorem dX12_readPlain_53 : decode cX12_readPlain 53 = .ok (.aload_n 0, 1) := by decide +kernel
theorem dX12_readPlain_54 : decode cX12_readPlain 54 = .ok (.invokevirtual 162, 3) := by decide +kernel
theorem dX12_readPlain_57 : decode cX12_readPlain 57 = .ok (.ifCond .ne 4, 3) := by decide +kernel
theorem dX12_readPlain_60 : decode cX12_readPlain 60 = .ok (.return_, 1) := by decide +kernel
theorem dX12_readPlain_61 : decode cX12_readPlain 61 = .ok (.aload_n 0, 1) := by decide +kernel
theorem dX12_readPlain_62 : decode cX12_readPlain 62 = .ok (.dup, 1) := by decide +kernel
theorem dX12_readPlain_63 : decode cX12_readPlain 63 = .ok (.getfield 166, 3) := by decide +kernel
theorem dX12_readPlain_66 : decode cX12_readPlain 66 = .ok (.iconst 1, 1) := by decide +kernel
theorem dX12_readPlain_67 : decode cX12_readPlain 67 = .ok (.iadd, 1) := by decide +kernel
theorem dX12_readPlain_68 : decode cX12_readPlain 68 = .ok (.putfield 166, 3) := by decide +kernel
theorem dX12_readPlain_71 : decode cX12_readPlain 71 = .ok (.aload_n 0, 1) := by decide +kernel
theorem dX12_readPlain_72 : decode cX12_readPlain 72 = .ok (.iload_n 1, 1) := by decide +kernel
theorem dX12_readPlain_73 : decode cX12_readPlain 73 = .ok (.iconst 1, 1) := by decide +kernel
theorem dX12_readPlain_74 : decode cX12_readPlain 74 = .ok (.iadd, 1) := by decide +kernel
theorem dX12_readPlain_75 : decode cX12_readPlain 75 = .ok (.invokevirtual 185, 3) := by decide +kernel
theorem dX12_readPlain_78 : decode cX12_readPlain 78 = .ok (.aload_n 0, 1) := by decide +kernel
theorem dX12_readPlain_79 : decode cX12_readPlain 79 = .ok (.bipush 41, 2) := by decide +kernel
theorem dX12_readPlain_81 : decode cX12_readPlain 81 = .ok (.invokestatic 194, 3) := by decide +kernel
theorem dX12_readPlain_84 : decode cX12_readPlain 84 = .ok (.invokevirtual 182, 3) := by decide +kernel
theorem dX12_readPlain_87 : decode cX12_readPlain 87 = .ok (.goto 46, 3) := by decide +kernel
theorem dX12_readPlain_90 : decode cX12_readPlain 90 = .ok (.aload_n 0, 1) := by decide +kernel
theorem dX12_readPlain_91 : decode cX12_readPlain 91 = .ok (.iload_n 1, 1) := by decide +kernel
theorem dX12_readPlain_92 : decode cX12_readPlain 92 = .ok (.invokevirtual 178, 3) := by decide +kernel
theorem dX12_readPlain_95 : decode cX12_readPlain 95 = .ok (.aload_n 0, 1) := by decide +kernel
theorem dX12_readPlain_96 : decode cX12_readPlain 96 = .ok (.bipush 60, 2) := by decide +kernel
theorem dX12_readPlain_98 : decode cX12_readPlain 98 = .ok (.invokestatic 194, 3) := by decide +kernel
theorem dX12_readPlain_101 : decode cX12_readPlain 101 = .ok (.invokevirtual 169, 3) := by decide +kernel
theorem dX12_readPlain_104 : decode cX12_readPlain 104 = .ok (.ifCond .ne 24, 3) := by decide +kernel
theorem dX12_readPlain_107 : decode cX12_readPlain 107 = .ok (.aload_n 0, 1) := by decide +kernel
theorem dX12_readPlain_108 : decode cX12_readPlain 108 = .ok (.bipush 62, 2) := by decide +kernel
theorem dX12_readPlain_110 : decode cX12_readPlain 110 = .ok (.invokestatic 194, 3) := by decide +kernel
theorem dX12_readPlain_113 : decode cX12_readPlain 113 = .ok (.invokevirtual 169, 3) := by decide +kernel
theorem dX12_readPlain_116 : decode cX12_readPlain 116 = .ok (.ifCond .ne 12, 3) := by decide +kernel
theorem dX12_readPlain_119 : decode cX12_readPlain 119 = .ok (.aload_n 0, 1) := by decide +kernel
theorem dX12_readPlain_120 : decode cX12_readPlain 120 = .ok (.bipush 61, 2) := by decide +kernel
theorem dX12_readPlain_122 : decode cX12_readPlain 122 = .ok (.invokestatic 194, 3) := by decide +kernel
theorem dX12_readPlain_125 : decode cX12_readPlain 125 = .ok (.invokevirtual 182, 3) := by decide +kernel
theorem dX12_readPlain_128 : decode cX12_readPlain 128 = .ok (.aload_n 0, 1) := by decide +kernel
theorem dX12_readPlain_129 : decode cX12_readPlain 129 = .ok (.iload_n 1, 1) := by decide +kernel
theorem dX12_readPlain_130 : decode cX12_readPlain 130 = .ok (.invokevirtual 178, 3) := by decide +kernel
theorem dX12_readPlain_133 : decode cX12_readPlain 133 = .ok (.return_, 1) := by decide +kernel
set_option maxHeartbeats 4000000 in
set_option maxRecDepth 100000 in
theorem c_X12_readPlain (l : Launch) (E : Nat → Nat) (D : va_G) (G : th_G) (k : Nat) : ∀ (h0 : Nat) (hG0 : G h0 = some (10, 0)) (x1 : Int32) (ff cd va pl : Nat → Int32) (TT pp LL : Nat) (bb : Int32) (dd : Nat) (hdd : x1.toInt = (dd : Int)) (hd8 : dd ≤ 8) (hk : 8 ≤ dd + k) (fl : List Nat) (nk : Nat) (XX : Nat × Bool) (hdp : pd_dp (fl) = dd) (hiv : IV cd va pl TT XX (3, fl, nk, LL) pp bb), Met l yX12_readPlain (tb (.code yX12_readPlain cX12_readPlain 4 none)) (rm (30 + 3 * k)) (va_Pc [.ref h0, .int x1] (PX E D G (fun H => RX E D G h0 ff cd va pl TT pp bb LL H))) (QXv E D G (fun H => ∃ (p2 : Nat) (b2 : Int32) (L2 : Nat), RX E D G h0 ff cd va pl TT p2 b2 L2 H ∧ pp ≤ p2 ∧ (b2.toInt = -1 → bb.toInt = -1 ∧ Gr (rC cd TT) 3 dd pp p2) ∧ IV cd va pl TT XX (4, fl, nk, L2) p2 b2)) 0 0 (th_A G) := by
  induction k using Nat.strongRecOn with
  | ind k ih =>
  intro h0 hG0 x1 ff cd va pl TT pp LL bb dd hdd hd8 hk fl nk XX hdp hiv
  refine Met.ofW (cc := cX12_readPlain) (maxL := 4) (ret := none) (by decide) rfl ?_
  intro p e s m args below meth c s₁ B hml hv
  obtain ⟨hav, ⟨hI, hN, hK⟩, hX⟩ := hv
  have hx := B.exec
  have hb := B.bytes
  have hr := B.returns
  have hts := atoms_spec (ws := tb (.code yX12_readPlain cX12_readPlain 4 none)) B.pre
  have hown : s.vm.findClass RX12 = some m.cls := findClass_of_methodNamed B.named
  have hlocks := B.notSynchronized
  have hS : va_S (th_A G) s.heap s.heap [] := va_S.rf
  have hl := lv_entry ([.ref h0, .int x1]) (n := 4) (Nat.le_of_ble_eq_true rfl)
  rw [show entryFrame m args 4 = entryFrame m ([.ref h0, .int x1] : List Value).toArray 4 from by rw [hav], lg_entry_eq]
  generalize (lg_sl ([.ref h0, .int x1]) ++ List.replicate (4 - (lg_sl ([.ref h0, .int x1])).length) Slot.unset).toArray = ls at hl ⊢
  have hl : lv_has ls 4 [(0, .ref h0), (1, .int x1)] := hl
  generalize hR : (headSpec (tb (.code yX12_readPlain cX12_readPlain 4 none)) (rm (30 + 3 * k))).room = R
  have hR := hR.symm
  generalize hQ : MQ below (QXv E D G (fun H => ∃ (p2 : Nat) (b2 : Int32) (L2 : Nat), RX E D G h0 ff cd va pl TT p2 b2 L2 H ∧ pp ≤ p2 ∧ (b2.toInt = -1 → bb.toInt = -1 ∧ Gr (rC cd TT) 3 dd pp p2) ∧ IV cd va pl TT XX (4, fl, nk, L2) p2 b2)) args s 0 0 (th_A G) = QF
  have hQ := hQ.symm
  obtain ⟨⟨hkf, hT, hz0, k24, ⟨a1, hf2, hq3, hA4⟩, ⟨a5, hf6, hq7, hA8⟩, ⟨w17, hg18, k25⟩, ⟨w19, hg20, k26⟩, hg21⟩, ⟨a9, hf10, hq11, hA12⟩, ⟨a13, hf14, hq15, hA16⟩, hPl, ⟨w22, hg23, k27⟩, k28, k29⟩ := hX
  have hInv0 : bb.toInt = -1 → bb.toInt = -1 ∧ ∀ r, Gr (rC cd TT) 3 dd pp r → Gr (rC cd TT) 3 dd pp r := fun h => ⟨h, fun r hr => hr⟩
  have J_2 : ∀ (nn : Nat) (H : Heap) (locs : List Loc) (ls : Array Slot) (v4123 : Int32) (p1 : Nat) (b1 : Int32) (L1 : Nat), (Int.toNat (2 * (((TT : Nat) : Int) - ((p1 : Nat) : Int)) + v4123.toInt) = nn) → lv_has ls 4 [(2, .int v4123), (0, .ref h0), (1, .int x1)] → ((0 : Int) ≤ v4123.toInt ∧ v4123.toInt ≤ 1) → ((0 : Int) ≤ x1.toInt ∧ x1.toInt ≤ 8) → (pp ≤ p1) → (v4123.toInt = 1 ∨ b1.toInt ≠ -1 ∨ rC cd TT p1 ≠ 8) → (b1.toInt = -1 → bb.toInt = -1 ∧ ∀ r, Gr (rC cd TT) 3 dd p1 r → Gr (rC cd TT) 3 dd pp r) → (IV cd va pl TT XX (3, fl, nk, L1) p1 b1) → (RX E D G h0 ff cd va pl TT p1 b1 L1 H) → th_I (okM E) D G [] H → va_S (th_A G) s.heap H locs → W p l e R s m args below meth c H locs 0 0 QF (F0 m 2 ls []) := by
    intro nn
    induction nn using Nat.strongRecOn with
    | ind nn ih_2 =>
      intro H locs ls v4123 p1 b1 L1 hm hl k4124 k4125 hle1 hno hInv hiv1 hE hI hS
      obtain ⟨⟨hkf, hT, hz0, k4149, ⟨a4126, hf4127, hq4128, hA4129⟩, ⟨a4130, hf4131, hq4132, hA4133⟩, ⟨w4142, hg4143, k4150⟩, ⟨w4144, hg4145, k4151⟩, hg4146⟩, ⟨a4134, hf4135, hq4136, hA4137⟩, ⟨a4138, hf4139, hq4140, hA4141⟩, hPl, ⟨w4147, hg4148, k4152⟩, k4153, k4154⟩ := hE
      refine lv_iload_n hx hb dX12_readPlain_2 rfl (lv_at hl 0 rfl) ?_
      refine lv_if_eq (tgt := 16) hx hb dX12_readPlain_3 (by decide) (fun c4155 => ?_) (fun c4155 => ?_)
      · skip
        have k4156 := iv_eq (X := v4123.toInt) (Y := (0)) rfl (by decide) c4155
        refine lv_aload_n hx hb dX12_readPlain_16 rfl (lv_at hl 1 rfl) ?_
        refine mr_i (As := []) (rest := []) (n := 0) (d := 0) ⟨hx, hb, hml, hown, hts⟩ (c_X12_fine l E D G H h0 hG0  ff cd TT p1 b1 ⟨hkf, hT, hz0, by omega, ⟨a4126, hf4127, hq4128, hA4129⟩, ⟨a4130, hf4131, hq4132, hA4133⟩, ⟨w4142, hg4143, by first | omega | decide⟩, ⟨w4144, hg4145, by first | omega | decide⟩, hg4146⟩) wd_1591 wd_1593 wp_67 wd_13 wd_1594 (by decide +kernel) ⟨by rw [hR]; show 0 + 1 ≤ 30 + 3 * k; omega, by rw [hR]; show 8 + (1 + 11) + 40 * (0) ≤ 40 * (30 + 3 * k); omega⟩ hI hN hK hS hG0 rfl hl.1 rfl (Nat.le_of_ble_eq_true rfl) dX12_readPlain_17 ⟨Nat.zero_le _, Nat.zero_le _⟩ (fun r4157 locs hp hS => ?_)
        rcases hp with ⟨rfl, hp⟩ | ⟨rfl, hp⟩
        · skip
          try simp only [rg, not_and, Int.not_le] at hp
          have hp4158 := hp
          refine lv_if_ne (tgt := 24) hx hb dX12_readPlain_20 (by decide) (fun _ => ?_) (fun c => absurd c (by decide))
          refine lv_aload_n hx hb dX12_readPlain_24 rfl (lv_at hl 1 rfl) ?_
          refine gmA hx hb hts inT12 hown hK hI List.not_mem_nil hG0 12 (by decide) (hts _ (tb_c wd_1245)) rfl rfl dX12_readPlain_25 (fun a4159 hq4160 hf4161 => ?_)
          obtain rfl := fr.uniq (by decide) hf4131 hf4161
          refine lv_aload_n hx hb dX12_readPlain_28 rfl (lv_at hl 1 rfl) ?_
          refine gmI hx hb hts inT12 hown hK hI List.not_mem_nil hG0 16 (by decide) (hts _ (tb_c wd_1249)) rfl rfl dX12_readPlain_29 (fun w4162 hg4163 k4164 k4165 => ?_)
          obtain rfl := gf.uniq (by decide) hg4145 hg4163
          refine th_iald hx hb hK hA4133 0 rfl (iv_in (X := w4144.toInt) rfl (by omega) (by omega)) dX12_readPlain_32 (fun v4166 e4167 => ?_)
          have hrc := rC_rd (TT := TT) e4167 (j := p1) (by omega) (by omega) hz0
          refine lv_istore_n (lv' := [(3, .int v4166), (2, .int v4123), (0, .ref h0), (1, .int x1)]) hx hb dX12_readPlain_33 rfl hl (by decide) rfl (fun ls hl => ?_)
          refine lv_iload_n hx hb dX12_readPlain_34 rfl (lv_at hl 0 rfl) ?_
          refine lv_bipush (v := 40) hx hb dX12_readPlain_35 (by decide) ?_
          refine th_cSs (As := [.int 40]) (rest := [.int v4166]) (n := 1) (d := 0) ⟨hx, hb, hml, hown, hts⟩ (c_X12_sign l H 40) wd_1495 wd_1496 wd_13 wd_1497 (by decide +kernel) ⟨by rw [hR]; show 0 + 1 ≤ 30 + 3 * k; omega, by rw [hR]; show 8 + (1 + 11) + 40 * (0) ≤ 40 * (30 + 3 * k); omega⟩ hN hS rfl hl.1 rfl (Nat.le_of_ble_eq_true rfl) dX12_readPlain_37 ⟨Nat.zero_le _, Nat.zero_le _⟩ (fun r4168 locs hp hS => ?_)
          obtain rfl : r4168 = 140 := hp.trans (by decide)
          have k4169 := iv_lo v4166
          have k4170 := iv_hi v4166
          refine lv_icmp_ne (tgt := 90) hx hb dX12_readPlain_40 (by decide) (fun c4171 => ?_) (fun c4171 => ?_)
          · skip
            have k4172 := iv_ne (X := v4166.toInt) (Y := (140)) rfl (by decide) c4171
            have hiv4173 : IV cd va pl TT XX (1, 1 :: fl, nk, L1) p1 b1 := hiv1.go (fun hb9 => pd_Q_E (fun _ => ⟨by omega, by omega⟩))
            refine lv_aload_n hx hb dX12_readPlain_90 rfl (lv_at hl 2 rfl) ?_
            refine lv_iload_n hx hb dX12_readPlain_91 rfl (lv_at hl 3 rfl) ?_
            refine mx_v (As := [.int x1]) (rest := []) (n := 1) (d := 29) ⟨hx, hb, hml, hown, hts⟩ (c_X12_readSum l E D G 8 h0 hG0 x1 ff cd va pl TT p1 L1 b1 dd (by first | decide | omega) (by omega) (by omega) (1 :: fl) nk XX (by rw [pd_dp1, hdp]) hiv4173 (c_X12_readPart l E D G 8)) wd_1595 wd_1597 wp_68 wd_13 wd_1598 (by decide +kernel) ⟨by rw [hR]; show 29 + 1 ≤ 30 + 3 * k; omega, by rw [hR]; show 8 + (2 + 11) + 40 * (29) ≤ 40 * (30 + 3 * k); omega⟩ hI hN hK hS hG0 (⟨⟨hkf, hT, hz0, by omega, ⟨a4126, hf4127, hq4128, hA4129⟩, ⟨a4130, hf4131, hq4132, hA4133⟩, ⟨w4142, hg4143, by first | omega | decide⟩, ⟨w4144, hg4145, by first | omega | decide⟩, hg4146⟩, ⟨a4134, hf4135, hq4136, hA4137⟩, ⟨a4138, hf4139, hq4140, hA4141⟩, hPl, ⟨w4147, hg4148, by first | omega | decide⟩, by omega, by first | omega | (intro; omega)⟩) rfl hl.1 rfl (Nat.le_of_ble_eq_true rfl) dX12_readPlain_92 ⟨Nat.zero_le _, Nat.zero_le _⟩ (fun H locs hI hp hS => ?_)
            obtain ⟨pn4175, bn4176, Ln4177, hE, k4181, hi4178, hiv4179, hno4180⟩ := hp
            obtain ⟨⟨hkf, hT, hz0, k4205, ⟨a4182, hf4183, hq4184, hA4185⟩, ⟨a4186, hf4187, hq4188, hA4189⟩, ⟨w4198, hg4199, k4206⟩, ⟨w4200, hg4201, k4207⟩, hg4202⟩, ⟨a4190, hf4191, hq4192, hA4193⟩, ⟨a4194, hf4195, hq4196, hA4197⟩, hPl, ⟨w4203, hg4204, k4208⟩, k4209, k4210⟩ := hE
            refine lv_aload_n hx hb dX12_readPlain_95 rfl (lv_at hl 2 rfl) ?_
            refine lv_bipush (v := 60) hx hb dX12_readPlain_96 (by decide) ?_
            refine th_cSs (As := [.int 60]) (rest := [.ref h0]) (n := 1) (d := 0) ⟨hx, hb, hml, hown, hts⟩ (c_X12_sign l H 60) wd_1495 wd_1496 wd_13 wd_1497 (by decide +kernel) ⟨by rw [hR]; show 0 + 1 ≤ 30 + 3 * k; omega, by rw [hR]; show 8 + (1 + 11) + 40 * (0) ≤ 40 * (30 + 3 * k); omega⟩ hN hS rfl hl.1 rfl (Nat.le_of_ble_eq_true rfl) dX12_readPlain_98 ⟨Nat.zero_le _, Nat.zero_le _⟩ (fun r4211 locs hp hS => ?_)
            obtain rfl : r4211 = 160 := hp.trans (by decide)
            refine mx_i (As := [.int 160]) (rest := []) (n := 1) (d := 1) ⟨hx, hb, hml, hown, hts⟩ (c_X12_takes0 l E D G h0 hG0 160 ff cd va pl TT pn4175 Ln4177 bn4176 (by first | decide | omega)) wd_1587 wd_1589 wp_66 wd_13 wd_1590 (by decide +kernel) ⟨by rw [hR]; show 1 + 1 ≤ 30 + 3 * k; omega, by rw [hR]; show 8 + (3 + 11) + 40 * (1) ≤ 40 * (30 + 3 * k); omega⟩ hI hN hK hS hG0 (⟨⟨hkf, hT, hz0, by omega, ⟨a4182, hf4183, hq4184, hA4185⟩, ⟨a4186, hf4187, hq4188, hA4189⟩, ⟨w4198, hg4199, by first | omega | decide⟩, ⟨w4200, hg4201, by first | omega | decide⟩, hg4202⟩, ⟨a4190, hf4191, hq4192, hA4193⟩, ⟨a4194, hf4195, hq4196, hA4197⟩, hPl, ⟨w4203, hg4204, by first | omega | decide⟩, by omega, by first | omega | (intro; omega)⟩) rfl hl.1 rfl (Nat.le_of_ble_eq_true rfl) dX12_readPlain_101 ⟨Nat.zero_le _, Nat.zero_le _⟩ (fun r4212 H locs hI hp hS => ?_)
            rcases hp with ⟨rfl, hp⟩ | ⟨rfl, hp⟩
            · skip
              try simp only [rg, not_and, Int.not_le] at hp
              have hp4213 := hp
              obtain ⟨hb4216, hc4214, k4215, hE⟩ := hp4213
              have hp4213 : True := trivial
              rw [show (160 : Int32).toInt = 160 from by decide] at hc4214
              obtain ⟨⟨hkf, hT, hz0, k4240, ⟨a4217, hf4218, hq4219, hA4220⟩, ⟨a4221, hf4222, hq4223, hA4224⟩, ⟨w4233, hg4234, k4241⟩, ⟨w4235, hg4236, k4242⟩, hg4237⟩, ⟨a4225, hf4226, hq4227, hA4228⟩, ⟨a4229, hf4230, hq4231, hA4232⟩, hPl, ⟨w4238, hg4239, k4243⟩, k4244, k4245⟩ := hE
              have hiv4246 : IV cd va pl TT XX (1, 2 :: fl, nk, Ln4177) (pn4175 + 1) bn4176 := hiv4179.go (fun hb9 => pd_A_cm k4215 (by omega))
              try rw [show (160 : Int32).toInt = 160 from by decide] at hp4213
              refine lv_if_ne (tgt := 128) hx hb dX12_readPlain_104 (by decide) (fun _ => ?_) (fun c => absurd c (by decide))
              refine lv_aload_n hx hb dX12_readPlain_128 rfl (lv_at hl 2 rfl) ?_
              refine lv_iload_n hx hb dX12_readPlain_129 rfl (lv_at hl 3 rfl) ?_
              refine mx_v (As := [.int x1]) (rest := []) (n := 1) (d := 29) ⟨hx, hb, hml, hown, hts⟩ (c_X12_readSum l E D G 8 h0 hG0 x1 ff cd va pl TT (pn4175 + 1) Ln4177 bn4176 dd (by first | decide | omega) (by omega) (by omega) (2 :: fl) nk XX (by rw [pd_dp2, hdp]) hiv4246 (c_X12_readPart l E D G 8)) wd_1595 wd_1597 wp_68 wd_13 wd_1598 (by decide +kernel) ⟨by rw [hR]; show 29 + 1 ≤ 30 + 3 * k; omega, by rw [hR]; show 8 + (2 + 11) + 40 * (29) ≤ 40 * (30 + 3 * k); omega⟩ hI hN hK hS hG0 (⟨⟨hkf, hT, hz0, by omega, ⟨a4217, hf4218, hq4219, hA4220⟩, ⟨a4221, hf4222, hq4223, hA4224⟩, ⟨w4233, hg4234, by first | omega | decide⟩, ⟨w4235, hg4236, by first | omega | decide⟩, hg4237⟩, ⟨a4225, hf4226, hq4227, hA4228⟩, ⟨a4229, hf4230, hq4231, hA4232⟩, hPl, ⟨w4238, hg4239, by first | omega | decide⟩, by omega, by first | omega | (intro; omega)⟩) rfl hl.1 rfl (Nat.le_of_ble_eq_true rfl) dX12_readPlain_130 ⟨Nat.zero_le _, Nat.zero_le _⟩ (fun H locs hI hp hS => ?_)
              obtain ⟨pn4248, bn4249, Ln4250, hE, k4254, hi4251, hiv4252, hno4253⟩ := hp
              obtain ⟨⟨hkf, hT, hz0, k4278, ⟨a4255, hf4256, hq4257, hA4258⟩, ⟨a4259, hf4260, hq4261, hA4262⟩, ⟨w4271, hg4272, k4279⟩, ⟨w4273, hg4274, k4280⟩, hg4275⟩, ⟨a4263, hf4264, hq4265, hA4266⟩, ⟨a4267, hf4268, hq4269, hA4270⟩, hPl, ⟨w4276, hg4277, k4281⟩, k4282, k4283⟩ := hE
              have hiv4284 : IV cd va pl TT XX (4, fl, nk, Ln4250) pn4248 bn4249 := hiv4252.go (fun hb9 => pd_A_rt (fun _ => hno4253 hb9))
              have hpost : ∃ (p2 : Nat) (b2 : Int32) (L2 : Nat), RX E D G h0 ff cd va pl TT p2 b2 L2 H ∧ pp ≤ p2 ∧ (b2.toInt = -1 → bb.toInt = -1 ∧ Gr (rC cd TT) 3 dd pp p2) ∧ IV cd va pl TT XX (4, fl, nk, L2) p2 b2 := ⟨pn4248, bn4249, Ln4250, ⟨⟨hkf, hT, hz0, by omega, ⟨a4255, hf4256, hq4257, hA4258⟩, ⟨a4259, hf4260, hq4261, hA4262⟩, ⟨w4271, hg4272, by first | omega | decide⟩, ⟨w4273, hg4274, by first | omega | decide⟩, hg4275⟩, ⟨a4263, hf4264, hq4265, hA4266⟩, ⟨a4267, hf4268, hq4269, hA4270⟩, hPl, ⟨w4276, hg4277, by first | omega | decide⟩, by omega, by first | omega | (intro; omega)⟩, by omega, fun h => ⟨(hInv (by omega)).1, r3_x (hInv (by omega)).2 (by omega) (by omega) (hi4178 hb4216).2 (by omega) (hi4251 h).2⟩, hiv4284⟩
              rw [hQ]
              exact W.vret hx hb hr (fun t ht hW => ⟨⟨(), rfl, trivial, ⟨by rw [ht]; exact hI, hN.warm hW, va_K.moved hW.alike hK⟩, by first | (rw [ht]; exact hpost) | exact hpost⟩, hS.F ht⟩) hS.2.2 dX12_readPlain_133
            · skip
              try simp only [rg, not_and, Int.not_le] at hp
              have hp4285 := hp
              obtain ⟨hc4286, hE⟩ := hp4285
              have hp4285 : True := trivial
              rw [show (160 : Int32).toInt = 160 from by decide] at hc4286
              obtain ⟨⟨hkf, hT, hz0, k4311, ⟨a4288, hf4289, hq4290, hA4291⟩, ⟨a4292, hf4293, hq4294, hA4295⟩, ⟨w4304, hg4305, k4312⟩, ⟨w4306, hg4307, k4313⟩, hg4308⟩, ⟨a4296, hf4297, hq4298, hA4299⟩, ⟨a4300, hf4301, hq4302, hA4303⟩, hPl, ⟨w4309, hg4310, k4314⟩, k4315, k4316⟩ := hE
              try rw [show (160 : Int32).toInt = 160 from by decide] at hp4285
              refine lv_if_ne (tgt := 128) hx hb dX12_readPlain_104 (by decide) (fun c => absurd c (by decide)) (fun _ => ?_)
              refine lv_aload_n hx hb dX12_readPlain_107 rfl (lv_at hl 2 rfl) ?_
              refine lv_bipush (v := 62) hx hb dX12_readPlain_108 (by decide) ?_
              refine th_cSs (As := [.int 62]) (rest := [.ref h0]) (n := 1) (d := 0) ⟨hx, hb, hml, hown, hts⟩ (c_X12_sign l H 62) wd_1495 wd_1496 wd_13 wd_1497 (by decide +kernel) ⟨by rw [hR]; show 0 + 1 ≤ 30 + 3 * k; omega, by rw [hR]; show 8 + (1 + 11) + 40 * (0) ≤ 40 * (30 + 3 * k); omega⟩ hN hS rfl hl.1 rfl (Nat.le_of_ble_eq_true rfl) dX12_readPlain_110 ⟨Nat.zero_le _, Nat.zero_le _⟩ (fun r4317 locs hp hS => ?_)
              obtain rfl : r4317 = 162 := hp.trans (by decide)
              refine mx_i (As := [.int 162]) (rest := []) (n := 1) (d := 1) ⟨hx, hb, hml, hown, hts⟩ (c_X12_takes0 l E D G h0 hG0 162 ff cd va pl TT pn4175 Ln4177 bn4176 (by first | decide | omega)) wd_1587 wd_1589 wp_66 wd_13 wd_1590 (by decide +kernel) ⟨by rw [hR]; show 1 + 1 ≤ 30 + 3 * k; omega, by rw [hR]; show 8 + (3 + 11) + 40 * (1) ≤ 40 * (30 + 3 * k); omega⟩ hI hN hK hS hG0 (⟨⟨hkf, hT, hz0, by omega, ⟨a4288, hf4289, hq4290, hA4291⟩, ⟨a4292, hf4293, hq4294, hA4295⟩, ⟨w4304, hg4305, by first | omega | decide⟩, ⟨w4306, hg4307, by first | omega | decide⟩, hg4308⟩, ⟨a4296, hf4297, hq4298, hA4299⟩, ⟨a4300, hf4301, hq4302, hA4303⟩, hPl, ⟨w4309, hg4310, by first | omega | decide⟩, by omega, by first | omega | (intro; omega)⟩) rfl hl.1 rfl (Nat.le_of_ble_eq_true rfl) dX12_readPlain_113 ⟨Nat.zero_le _, Nat.zero_le _⟩ (fun r4318 H locs hI hp hS => ?_)
              rcases hp with ⟨rfl, hp⟩ | ⟨rfl, hp⟩
              · skip
                try simp only [rg, not_and, Int.not_le] at hp
                have hp4319 := hp
                obtain ⟨hb4322, hc4320, k4321, hE⟩ := hp4319
                have hp4319 : True := trivial
                rw [show (162 : Int32).toInt = 162 from by decide] at hc4320
                obtain ⟨⟨hkf, hT, hz0, k4346, ⟨a4323, hf4324, hq4325, hA4326⟩, ⟨a4327, hf4328, hq4329, hA4330⟩, ⟨w4339, hg4340, k4347⟩, ⟨w4341, hg4342, k4348⟩, hg4343⟩, ⟨a4331, hf4332, hq4333, hA4334⟩, ⟨a4335, hf4336, hq4337, hA4338⟩, hPl, ⟨w4344, hg4345, k4349⟩, k4350, k4351⟩ := hE
                have hiv4352 : IV cd va pl TT XX (1, 2 :: fl, nk, Ln4177) (pn4175 + 1) bn4176 := hiv4179.go (fun hb9 => pd_A_cm k4321 (by omega))
                try rw [show (162 : Int32).toInt = 162 from by decide] at hp4319
                refine lv_if_ne (tgt := 128) hx hb dX12_readPlain_116 (by decide) (fun _ => ?_) (fun c => absurd c (by decide))
                refine lv_aload_n hx hb dX12_readPlain_128 rfl (lv_at hl 2 rfl) ?_
                refine lv_iload_n hx hb dX12_readPlain_129 rfl (lv_at hl 3 rfl) ?_
                refine mx_v (As := [.int x1]) (rest := []) (n := 1) (d := 29) ⟨hx, hb, hml, hown, hts⟩ (c_X12_readSum l E D G 8 h0 hG0 x1 ff cd va pl TT (pn4175 + 1) Ln4177 bn4176 dd (by first | decide | omega) (by omega) (by omega) (2 :: fl) nk XX (by rw [pd_dp2, hdp]) hiv4352 (c_X12_readPart l E D G 8)) wd_1595 wd_1597 wp_68 wd_13 wd_1598 (by decide +kernel) ⟨by rw [hR]; show 29 + 1 ≤ 30 + 3 * k; omega, by rw [hR]; show 8 + (2 + 11) + 40 * (29) ≤ 40 * (30 + 3 * k); omega⟩ hI hN hK hS hG0 (⟨⟨hkf, hT, hz0, by omega, ⟨a4323, hf4324, hq4325, hA4326⟩, ⟨a4327, hf4328, hq4329, hA4330⟩, ⟨w4339, hg4340, by first | omega | decide⟩, ⟨w4341, hg4342, by first | omega | decide⟩, hg4343⟩, ⟨a4331, hf4332, hq4333, hA4334⟩, ⟨a4335, hf4336, hq4337, hA4338⟩, hPl, ⟨w4344, hg4345, by first | omega | decide⟩, by omega, by first | omega | (intro; omega)⟩) rfl hl.1 rfl (Nat.le_of_ble_eq_true rfl) dX12_readPlain_130 ⟨Nat.zero_le _, Nat.zero_le _⟩ (fun H locs hI hp hS => ?_)
                obtain ⟨pn4354, bn4355, Ln4356, hE, k4360, hi4357, hiv4358, hno4359⟩ := hp
                obtain ⟨⟨hkf, hT, hz0, k4384, ⟨a4361, hf4362, hq4363, hA4364⟩, ⟨a4365, hf4366, hq4367, hA4368⟩, ⟨w4377, hg4378, k4385⟩, ⟨w4379, hg4380, k4386⟩, hg4381⟩, ⟨a4369, hf4370, hq4371, hA4372⟩, ⟨a4373, hf4374, hq4375, hA4376⟩, hPl, ⟨w4382, hg4383, k4387⟩, k4388, k4389⟩ := hE
                have hiv4390 : IV cd va pl TT XX (4, fl, nk, Ln4356) pn4354 bn4355 := hiv4358.go (fun hb9 => pd_A_rt (fun _ => hno4359 hb9))
                have hpost : ∃ (p2 : Nat) (b2 : Int32) (L2 : Nat), RX E D G h0 ff cd va pl TT p2 b2 L2 H ∧ pp ≤ p2 ∧ (b2.toInt = -1 → bb.toInt = -1 ∧ Gr (rC cd TT) 3 dd pp p2) ∧ IV cd va pl TT XX (4, fl, nk, L2) p2 b2 := ⟨pn4354, bn4355, Ln4356, ⟨⟨hkf, hT, hz0, by omega, ⟨a4361, hf4362, hq4363, hA4364⟩, ⟨a4365, hf4366, hq4367, hA4368⟩, ⟨w4377, hg4378, by first | omega | decide⟩, ⟨w4379, hg4380, by first | omega | decide⟩, hg4381⟩, ⟨a4369, hf4370, hq4371, hA4372⟩, ⟨a4373, hf4374, hq4375, hA4376⟩, hPl, ⟨w4382, hg4383, by first | omega | decide⟩, by omega, by first | omega | (intro; omega)⟩, by omega, fun h => ⟨(hInv (by omega)).1, r3_x (hInv (by omega)).2 (by omega) (by omega) (hi4178 hb4322).2 (by omega) (hi4357 h).2⟩, hiv4390⟩
                rw [hQ]
                exact W.vret hx hb hr (fun t ht hW => ⟨⟨(), rfl, trivial, ⟨by rw [ht]; exact hI, hN.warm hW, va_K.moved hW.alike hK⟩, by first | (rw [ht]; exact hpost) | exact hpost⟩, hS.F ht⟩) hS.2.2 dX12_readPlain_133
              · skip
                try simp only [rg, not_and, Int.not_le] at hp
                have hp4391 := hp
                obtain ⟨hc4392, hE⟩ := hp4391
                have hp4391 : True := trivial
                rw [show (162 : Int32).toInt = 162 from by decide] at hc4392
                obtain ⟨⟨hkf, hT, hz0, k4417, ⟨a4394, hf4395, hq4396, hA4397⟩, ⟨a4398, hf4399, hq4400, hA4401⟩, ⟨w4410, hg4411, k4418⟩, ⟨w4412, hg4413, k4419⟩, hg4414⟩, ⟨a4402, hf4403, hq4404, hA4405⟩, ⟨a4406, hf4407, hq4408, hA4409⟩, hPl, ⟨w4415, hg4416, k4420⟩, k4421, k4422⟩ := hE
                try rw [show (162 : Int32).toInt = 162 from by decide] at hp4391
                refine lv_if_ne (tgt := 128) hx hb dX12_readPlain_116 (by decide) (fun c => absurd c (by decide)) (fun _ => ?_)
                refine lv_aload_n hx hb dX12_readPlain_119 rfl (lv_at hl 2 rfl) ?_
                refine lv_bipush (v := 61) hx hb dX12_readPlain_120 (by decide) ?_
                refine th_cSs (As := [.int 61]) (rest := [.ref h0]) (n := 1) (d := 0) ⟨hx, hb, hml, hown, hts⟩ (c_X12_sign l H 61) wd_1495 wd_1496 wd_13 wd_1497 (by decide +kernel) ⟨by rw [hR]; show 0 + 1 ≤ 30 + 3 * k; omega, by rw [hR]; show 8 + (1 + 11) + 40 * (0) ≤ 40 * (30 + 3 * k); omega⟩ hN hS rfl hl.1 rfl (Nat.le_of_ble_eq_true rfl) dX12_readPlain_122 ⟨Nat.zero_le _, Nat.zero_le _⟩ (fun r4423 locs hp hS => ?_)
                obtain rfl : r4423 = 161 := hp.trans (by decide)
                refine mx_v (As := [.int 161]) (rest := []) (n := 1) (d := 2) ⟨hx, hb, hml, hown, hts⟩ (c_X12_must l E D G h0 hG0 161 ff cd va pl TT pn4175 Ln4177 bn4176 (by first | decide | omega)) wd_1611 wd_1613 wp_72 wd_13 wd_1614 (by decide +kernel) ⟨by rw [hR]; show 2 + 1 ≤ 30 + 3 * k; omega, by rw [hR]; show 8 + (2 + 11) + 40 * (2) ≤ 40 * (30 + 3 * k); omega⟩ hI hN hK hS hG0 (⟨⟨hkf, hT, hz0, by omega, ⟨a4394, hf4395, hq4396, hA4397⟩, ⟨a4398, hf4399, hq4400, hA4401⟩, ⟨w4410, hg4411, by first | omega | decide⟩, ⟨w4412, hg4413, by first | omega | decide⟩, hg4414⟩, ⟨a4402, hf4403, hq4404, hA4405⟩, ⟨a4406, hf4407, hq4408, hA4409⟩, hPl, ⟨w4415, hg4416, by first | omega | decide⟩, by omega, by first | omega | (intro; omega)⟩) rfl hl.1 rfl (Nat.le_of_ble_eq_true rfl) dX12_readPlain_125 ⟨Nat.zero_le _, Nat.zero_le _⟩ (fun H locs hI hp hS => ?_)
                obtain ⟨pn4425, bn4426, hE, k4428, hm4427⟩ := hp
                rw [show (161 : Int32).toInt = 161 from by decide] at hm4427
                have hi4429 := hm4427.i
                obtain ⟨⟨hkf, hT, hz0, k4453, ⟨a4430, hf4431, hq4432, hA4433⟩, ⟨a4434, hf4435, hq4436, hA4437⟩, ⟨w4446, hg4447, k4454⟩, ⟨w4448, hg4449, k4455⟩, hg4450⟩, ⟨a4438, hf4439, hq4440, hA4441⟩, ⟨a4442, hf4443, hq4444, hA4445⟩, hPl, ⟨w4451, hg4452, k4456⟩, k4457, k4458⟩ := hE
                have hiv4459 : IV cd va pl TT XX (1, 2 :: fl, nk, Ln4177) pn4425 bn4426 := IV.must hiv4179 hm4427 (fun hb9 hc9 => pd_A_cm (rC_lt (cd := cd) (by omega)) (by omega)) (fun hb9 hc9 => pd_A_cmno (fun _ => ⟨hno4180 hb9, by omega⟩))
                refine lv_aload_n hx hb dX12_readPlain_128 rfl (lv_at hl 2 rfl) ?_
                refine lv_iload_n hx hb dX12_readPlain_129 rfl (lv_at hl 3 rfl) ?_
                refine mx_v (As := [.int x1]) (rest := []) (n := 1) (d := 29) ⟨hx, hb, hml, hown, hts⟩ (c_X12_readSum l E D G 8 h0 hG0 x1 ff cd va pl TT pn4425 Ln4177 bn4426 dd (by first | decide | omega) (by omega) (by omega) (2 :: fl) nk XX (by rw [pd_dp2, hdp]) hiv4459 (c_X12_readPart l E D G 8)) wd_1595 wd_1597 wp_68 wd_13 wd_1598 (by decide +kernel) ⟨by rw [hR]; show 29 + 1 ≤ 30 + 3 * k; omega, by rw [hR]; show 8 + (2 + 11) + 40 * (29) ≤ 40 * (30 + 3 * k); omega⟩ hI hN hK hS hG0 (⟨⟨hkf, hT, hz0, by omega, ⟨a4430, hf4431, hq4432, hA4433⟩, ⟨a4434, hf4435, hq4436, hA4437⟩, ⟨w4446, hg4447, by first | omega | decide⟩, ⟨w4448, hg4449, by first | omega | decide⟩, hg4450⟩, ⟨a4438, hf4439, hq4440, hA4441⟩, ⟨a4442, hf4443, hq4444, hA4445⟩, hPl, ⟨w4451, hg4452, by first | omega | decide⟩, by omega, by first | omega | (intro; omega)⟩) rfl hl.1 rfl (Nat.le_of_ble_eq_true rfl) dX12_readPlain_130 ⟨Nat.zero_le _, Nat.zero_le _⟩ (fun H locs hI hp hS => ?_)
                obtain ⟨pn4461, bn4462, Ln4463, hE, k4467, hi4464, hiv4465, hno4466⟩ := hp
                obtain ⟨⟨hkf, hT, hz0, k4491, ⟨a4468, hf4469, hq4470, hA4471⟩, ⟨a4472, hf4473, hq4474, hA4475⟩, ⟨w4484, hg4485, k4492⟩, ⟨w4486, hg4487, k4493⟩, hg4488⟩, ⟨a4476, hf4477, hq4478, hA4479⟩, ⟨a4480, hf4481, hq4482, hA4483⟩, hPl, ⟨w4489, hg4490, k4494⟩, k4495, k4496⟩ := hE
                have hiv4497 : IV cd va pl TT XX (4, fl, nk, Ln4463) pn4461 bn4462 := hiv4465.go (fun hb9 => pd_A_rt (fun _ => hno4466 hb9))
                have hpost : ∃ (p2 : Nat) (b2 : Int32) (L2 : Nat), RX E D G h0 ff cd va pl TT p2 b2 L2 H ∧ pp ≤ p2 ∧ (b2.toInt = -1 → bb.toInt = -1 ∧ Gr (rC cd TT) 3 dd pp p2) ∧ IV cd va pl TT XX (4, fl, nk, L2) p2 b2 := by
                    refine ⟨pn4461, bn4462, Ln4463, ⟨⟨hkf, hT, hz0, by omega, ⟨a4468, hf4469, hq4470, hA4471⟩, ⟨a4472, hf4473, hq4474, hA4475⟩, ⟨w4484, hg4485, by first | omega | decide⟩, ⟨w4486, hg4487, by first | omega | decide⟩, hg4488⟩, ⟨a4476, hf4477, hq4478, hA4479⟩, ⟨a4480, hf4481, hq4482, hA4483⟩, hPl, ⟨w4489, hg4490, by first | omega | decide⟩, by omega, by first | omega | (intro; omega)⟩, by omega, ?_, hiv4497⟩
                    intro h
                    obtain ⟨hz1, hz2⟩ := hi4464 h
                    obtain ⟨hm1, hm2, hm3⟩ := hi4429 hz1
                    obtain ⟨ha1, ha2⟩ := hi4178 hm1
                    rw [hm3] at hz2
                    exact ⟨(hInv ha1).1, r3_x (hInv ha1).2 (by omega) (by omega) ha2 (by omega) hz2⟩
                rw [hQ]
                exact W.vret hx hb hr (fun t ht hW => ⟨⟨(), rfl, trivial, ⟨by rw [ht]; exact hI, hN.warm hW, va_K.moved hW.alike hK⟩, by first | (rw [ht]; exact hpost) | exact hpost⟩, hS.F ht⟩) hS.2.2 dX12_readPlain_133
          · skip
            have k4498 := iv_eq (X := v4166.toInt) (Y := (140)) rfl (by decide) c4171
            refine lv_iload_n hx hb dX12_readPlain_43 rfl (lv_at hl 3 rfl) ?_
            refine lv_bipush (v := 8) hx hb dX12_readPlain_44 (by decide) ?_
            refine lv_icmp_ne (tgt := 53) hx hb dX12_readPlain_46 (by decide) (fun c4499 => ?_) (fun c4499 => ?_)
            · skip
              have k4500 := iv_ne (X := x1.toInt) (Y := (8)) rfl (by decide) c4499
              refine lv_aload_n hx hb dX12_readPlain_53 rfl (lv_at hl 2 rfl) ?_
              refine mr_i (As := []) (rest := []) (n := 0) (d := 0) ⟨hx, hb, hml, hown, hts⟩ (c_X12_fine l E D G H h0 hG0  ff cd TT p1 b1 ⟨hkf, hT, hz0, by omega, ⟨a4126, hf4127, hq4128, hA4129⟩, ⟨a4130, hf4131, hq4132, hA4133⟩, ⟨w4142, hg4143, by first | omega | decide⟩, ⟨w4144, hg4145, by first | omega | decide⟩, hg4146⟩) wd_1591 wd_1593 wp_67 wd_13 wd_1594 (by decide +kernel) ⟨by rw [hR]; show 0 + 1 ≤ 30 + 3 * k; omega, by rw [hR]; show 8 + (1 + 11) + 40 * (0) ≤ 40 * (30 + 3 * k); omega⟩ hI hN hK hS hG0 rfl hl.1 rfl (Nat.le_of_ble_eq_true rfl) dX12_readPlain_54 ⟨Nat.zero_le _, Nat.zero_le _⟩ (fun r4501 locs hp hS => ?_)
              rcases hp with ⟨rfl, hp⟩ | ⟨rfl, hp⟩
              · skip
                try simp only [rg, not_and, Int.not_le] at hp
                have hp4502 := hp
                refine lv_if_ne (tgt := 61) hx hb dX12_readPlain_57 (by decide) (fun _ => ?_) (fun c => absurd c (by decide))
                have hlt9 : p1 < TT := rC_lt (cd := cd) (by omega)
                refine lv_aload_n hx hb dX12_readPlain_61 rfl (lv_at hl 2 rfl) ?_
                refine lv_dup hx hb dX12_readPlain_62 rfl ?_
                refine gmI hx hb hts inT12 hown hK hI List.not_mem_nil hG0 16 (by decide) (hts _ (tb_c wd_1249)) rfl rfl dX12_readPlain_63 (fun w4503 hg4504 k4505 k4506 => ?_)
                obtain rfl := gf.uniq (by decide) hg4145 hg4504
                refine lv_iconst (v := 1) hx hb dX12_readPlain_66 (by decide) ?_
                refine lv_iadd hx hb dX12_readPlain_67 ?_
                refine lv_topi (fun v4507 e4508 => ?_)
                have tv4507 : v4507.toInt = w4144.toInt + (1) := iv_add rfl (by decide) e4508 (by omega) (by omega)
                refine pmI (ty := .int) hx hb hts inT12 hown hK hI List.not_mem_nil hG0 hS ⟨_, hG0⟩ 16 (by decide) (by decide) (hts _ (tb_c wd_1249)) rfl rfl (by decide +kernel) rfl rfl rfl (by omega) (by omega) dX12_readPlain_68 (fun H locs hI hgP hS => ?_)
                have hg4143 := hgP.2.2.1 15 _ (by decide) (by decide) hg4143
                have hg4146 := hgP.2.2.1 18 _ (by decide) (by decide) hg4146
                have hg4148 := hgP.2.2.1 17 _ (by decide) (by decide) hg4148
                have hg4509 := hgP.2.1
                have hf4127 := hgP.2.2.2 3 _ (by decide) (by decide) hf4127
                have hf4131 := hgP.2.2.2 12 _ (by decide) (by decide) hf4131
                have hf4135 := hgP.2.2.2 13 _ (by decide) (by decide) hf4135
                have hf4139 := hgP.2.2.2 14 _ (by decide) (by decide) hf4139
                have hA4129 := va_at.kept hA4129 (hgP.1 _ (m_ne hq4128 hG0 (by first | decide | (dsimp only; decide))))
                have hA4133 := va_at.kept hA4133 (hgP.1 _ (m_ne hq4132 hG0 (by first | decide | (dsimp only; decide))))
                have hA4137 := va_at.kept hA4137 (hgP.1 _ (m_ne hq4136 hG0 (by first | decide | (dsimp only; decide))))
                have hA4141 := va_at.kept hA4141 (hgP.1 _ (m_ne hq4140 hG0 (by first | decide | (dsimp only; decide))))
                have hiv4510 : IV cd va pl TT XX (3, 4 :: fl, nk, L1) (p1 + 1) b1 := hiv1.go (fun hb9 => pd_Q_br hlt9 (by omega) (by omega))
                refine lv_aload_n hx hb dX12_readPlain_71 rfl (lv_at hl 2 rfl) ?_
                refine lv_iload_n hx hb dX12_readPlain_72 rfl (lv_at hl 3 rfl) ?_
                refine lv_iconst (v := 1) hx hb dX12_readPlain_73 (by decide) ?_
                refine lv_iadd hx hb dX12_readPlain_74 ?_
                refine lv_topi (fun v4511 e4512 => ?_)
                have tv4511 : v4511.toInt = x1.toInt + (1) := iv_add rfl (by decide) e4512 (by omega) (by omega)
                refine mx_v (As := [.int v4511]) (rest := []) (n := 1) (d := (32 + 3 * (k - 1))) ⟨hx, hb, hml, hown, hts⟩ (c_X12_readTest l E D G (k - 1) h0 hG0 v4511 ff cd va pl TT (p1 + 1) L1 b1 (dd + 1) (by first | decide | omega) (by omega) (by omega) 4 fl (Or.inl rfl) nk XX (by rw [pd_dp4, hdp]) hiv4510 (ih (k - 1) (by omega))) wd_1619 wd_1621 wp_74 wd_13 wd_1622 (by decide +kernel) ⟨by rw [hR]; show (32 + 3 * (k - 1)) + 1 ≤ 30 + 3 * k; omega, by rw [hR]; show 8 + (2 + 11) + 40 * ((32 + 3 * (k - 1))) ≤ 40 * (30 + 3 * k); omega⟩ hI hN hK hS hG0 (⟨⟨hkf, hT, hz0, by omega, ⟨a4126, hf4127, hq4128, hA4129⟩, ⟨a4130, hf4131, hq4132, hA4133⟩, ⟨w4142, hg4143, by first | omega | decide⟩, ⟨v4507, hg4509, by first | omega | decide⟩, hg4146⟩, ⟨a4134, hf4135, hq4136, hA4137⟩, ⟨a4138, hf4139, hq4140, hA4141⟩, hPl, ⟨w4147, hg4148, by first | omega | decide⟩, by omega, by first | omega | (intro; omega)⟩) rfl hl.1 rfl (Nat.le_of_ble_eq_true rfl) dX12_readPlain_75 ⟨Nat.zero_le _, Nat.zero_le _⟩ (fun H locs hI hp hS => ?_)
                obtain ⟨pn4514, bn4515, Ln4516, hE, k4520, hi4517, hiv4518, hno4519⟩ := hp
                obtain ⟨⟨hkf, hT, hz0, k4544, ⟨a4521, hf4522, hq4523, hA4524⟩, ⟨a4525, hf4526, hq4527, hA4528⟩, ⟨w4537, hg4538, k4545⟩, ⟨w4539, hg4540, k4546⟩, hg4541⟩, ⟨a4529, hf4530, hq4531, hA4532⟩, ⟨a4533, hf4534, hq4535, hA4536⟩, hPl, ⟨w4542, hg4543, k4547⟩, k4548, k4549⟩ := hE
                refine lv_aload_n hx hb dX12_readPlain_78 rfl (lv_at hl 2 rfl) ?_
                refine lv_bipush (v := 41) hx hb dX12_readPlain_79 (by decide) ?_
                refine th_cSs (As := [.int 41]) (rest := [.ref h0]) (n := 1) (d := 0) ⟨hx, hb, hml, hown, hts⟩ (c_X12_sign l H 41) wd_1495 wd_1496 wd_13 wd_1497 (by decide +kernel) ⟨by rw [hR]; show 0 + 1 ≤ 30 + 3 * k; omega, by rw [hR]; show 8 + (1 + 11) + 40 * (0) ≤ 40 * (30 + 3 * k); omega⟩ hN hS rfl hl.1 rfl (Nat.le_of_ble_eq_true rfl) dX12_readPlain_81 ⟨Nat.zero_le _, Nat.zero_le _⟩ (fun r4550 locs hp hS => ?_)
                obtain rfl : r4550 = 141 := hp.trans (by decide)
                refine mx_v (As := [.int 141]) (rest := []) (n := 1) (d := 2) ⟨hx, hb, hml, hown, hts⟩ (c_X12_must l E D G h0 hG0 141 ff cd va pl TT pn4514 Ln4516 bn4515 (by first | decide | omega)) wd_1611 wd_1613 wp_72 wd_13 wd_1614 (by decide +kernel) ⟨by rw [hR]; show 2 + 1 ≤ 30 + 3 * k; omega, by rw [hR]; show 8 + (2 + 11) + 40 * (2) ≤ 40 * (30 + 3 * k); omega⟩ hI hN hK hS hG0 (⟨⟨hkf, hT, hz0, by omega, ⟨a4521, hf4522, hq4523, hA4524⟩, ⟨a4525, hf4526, hq4527, hA4528⟩, ⟨w4537, hg4538, by first | omega | decide⟩, ⟨w4539, hg4540, by first | omega | decide⟩, hg4541⟩, ⟨a4529, hf4530, hq4531, hA4532⟩, ⟨a4533, hf4534, hq4535, hA4536⟩, hPl, ⟨w4542, hg4543, by first | omega | decide⟩, by omega, by first | omega | (intro; omega)⟩) rfl hl.1 rfl (Nat.le_of_ble_eq_true rfl) dX12_readPlain_84 ⟨Nat.zero_le _, Nat.zero_le _⟩ (fun H locs hI hp hS => ?_)
                obtain ⟨pn4552, bn4553, hE, k4555, hm4554⟩ := hp
                rw [show (141 : Int32).toInt = 141 from by decide] at hm4554
                have hi4556 := hm4554.i
                obtain ⟨⟨hkf, hT, hz0, k4580, ⟨a4557, hf4558, hq4559, hA4560⟩, ⟨a4561, hf4562, hq4563, hA4564⟩, ⟨w4573, hg4574, k4581⟩, ⟨w4575, hg4576, k4582⟩, hg4577⟩, ⟨a4565, hf4566, hq4567, hA4568⟩, ⟨a4569, hf4570, hq4571, hA4572⟩, hPl, ⟨w4578, hg4579, k4583⟩, k4584, k4585⟩ := hE
                have hiv4586 : IV cd va pl TT XX (4, fl, nk, Ln4516) pn4552 bn4553 := IV.must hiv4518 hm4554 (fun hb9 hc9 => pd_D_cl (rC_lt (cd := cd) (by omega)) hc9) (fun hb9 hc9 => pd_D_clno (fun _ => ⟨(hno4519 hb9).1, (hno4519 hb9).2, hc9⟩))
                refine lv_goto (tgt := 133) hx hb dX12_readPlain_87 (by decide) ?_
                have hpost : ∃ (p2 : Nat) (b2 : Int32) (L2 : Nat), RX E D G h0 ff cd va pl TT p2 b2 L2 H ∧ pp ≤ p2 ∧ (b2.toInt = -1 → bb.toInt = -1 ∧ Gr (rC cd TT) 3 dd pp p2) ∧ IV cd va pl TT XX (4, fl, nk, L2) p2 b2 := ⟨pn4552, bn4553, Ln4516, ⟨⟨hkf, hT, hz0, by omega, ⟨a4557, hf4558, hq4559, hA4560⟩, ⟨a4561, hf4562, hq4563, hA4564⟩, ⟨w4573, hg4574, by first | omega | decide⟩, ⟨w4575, hg4576, by first | omega | decide⟩, hg4577⟩, ⟨a4565, hf4566, hq4567, hA4568⟩, ⟨a4569, hf4570, hq4571, hA4572⟩, hPl, ⟨w4578, hg4579, by first | omega | decide⟩, by omega, by first | omega | (intro; omega)⟩, by omega, fun h => ⟨(hInv (by omega)).1, r3_br (hInv (by omega)).2 (by omega) (by omega) (hi4517 (hi4556 h).1).2 (hi4556 h).2.1 (hi4556 h).2.2⟩, hiv4586⟩
                rw [hQ]
                exact W.vret hx hb hr (fun t ht hW => ⟨⟨(), rfl, trivial, ⟨by rw [ht]; exact hI, hN.warm hW, va_K.moved hW.alike hK⟩, by first | (rw [ht]; exact hpost) | exact hpost⟩, hS.F ht⟩) hS.2.2 dX12_readPlain_133
              · skip
                try simp only [rg, not_and, Int.not_le] at hp
                have hp4587 := hp
                exfalso; omega
            · skip
              have k4588 := iv_eq (X := x1.toInt) (Y := (8)) rfl (by decide) c4499
              refine lv_aload_n hx hb dX12_readPlain_49 rfl (lv_at hl 2 rfl) ?_
              refine mx_v (As := []) (rest := []) (n := 0) (d := 1) ⟨hx, hb, hml, hown, hts⟩ (c_X12_faults l E D G h0 hG0  ff cd va pl TT p1 L1 b1) wd_1607 wd_1609 wp_71 wd_13 wd_1610 (by decide +kernel) ⟨by rw [hR]; show 1 + 1 ≤ 30 + 3 * k; omega, by rw [hR]; show 8 + (1 + 11) + 40 * (1) ≤ 40 * (30 + 3 * k); omega⟩ hI hN hK hS hG0 (⟨⟨hkf, hT, hz0, by omega, ⟨a4126, hf4127, hq4128, hA4129⟩, ⟨a4130, hf4131, hq4132, hA4133⟩, ⟨w4142, hg4143, by first | omega | decide⟩, ⟨w4144, hg4145, by first | omega | decide⟩, hg4146⟩, ⟨a4134, hf4135, hq4136, hA4137⟩, ⟨a4138, hf4139, hq4140, hA4141⟩, hPl, ⟨w4147, hg4148, by first | omega | decide⟩, by omega, by first | omega | (intro; omega)⟩) rfl hl.1 rfl (Nat.le_of_ble_eq_true rfl) dX12_readPlain_50 ⟨Nat.zero_le _, Nat.zero_le _⟩ (fun H locs hI hp hS => ?_)
              obtain ⟨bn4590, hb4591, hd4592, hE⟩ := hp
              obtain ⟨⟨hkf, hT, hz0, k4616, ⟨a4593, hf4594, hq4595, hA4596⟩, ⟨a4597, hf4598, hq4599, hA4600⟩, ⟨w4609, hg4610, k4617⟩, ⟨w4611, hg4612, k4618⟩, hg4613⟩, ⟨a4601, hf4602, hq4603, hA4604⟩, ⟨a4605, hf4606, hq4607, hA4608⟩, hPl, ⟨w4614, hg4615, k4619⟩, k4620, k4621⟩ := hE
              have hiv4622 : IV cd va pl TT XX (4, fl, nk, L1) p1 bn4590 := hiv1.flt (fun _ => pd_Q_brno (fun _ => by omega) (by omega)) hb4591 hd4592
              refine lv_aload_n hx hb dX12_readPlain_53 rfl (lv_at hl 2 rfl) ?_
              refine mr_i (As := []) (rest := []) (n := 0) (d := 0) ⟨hx, hb, hml, hown, hts⟩ (c_X12_fine l E D G H h0 hG0  ff cd TT p1 bn4590 ⟨hkf, hT, hz0, by omega, ⟨a4593, hf4594, hq4595, hA4596⟩, ⟨a4597, hf4598, hq4599, hA4600⟩, ⟨w4609, hg4610, by first | omega | decide⟩, ⟨w4611, hg4612, by first | omega | decide⟩, hg4613⟩) wd_1591 wd_1593 wp_67 wd_13 wd_1594 (by decide +kernel) ⟨by rw [hR]; show 0 + 1 ≤ 30 + 3 * k; omega, by rw [hR]; show 8 + (1 + 11) + 40 * (0) ≤ 40 * (30 + 3 * k); omega⟩ hI hN hK hS hG0 rfl hl.1 rfl (Nat.le_of_ble_eq_true rfl) dX12_readPlain_54 ⟨Nat.zero_le _, Nat.zero_le _⟩ (fun r4623 locs hp hS => ?_)
              rcases hp with ⟨rfl, hp⟩ | ⟨rfl, hp⟩
              · skip
                try simp only [rg, not_and, Int.not_le] at hp
                have hp4624 := hp
                exfalso; omega
              · skip
                try simp only [rg, not_and, Int.not_le] at hp
                have hp4625 := hp
                refine lv_if_ne (tgt := 61) hx hb dX12_readPlain_57 (by decide) (fun c => absurd c (by decide)) (fun _ => ?_)
                have hpost : ∃ (p2 : Nat) (b2 : Int32) (L2 : Nat), RX E D G h0 ff cd va pl TT p2 b2 L2 H ∧ pp ≤ p2 ∧ (b2.toInt = -1 → bb.toInt = -1 ∧ Gr (rC cd TT) 3 dd pp p2) ∧ IV cd va pl TT XX (4, fl, nk, L2) p2 b2 := ⟨p1, bn4590, L1, ⟨⟨hkf, hT, hz0, by omega, ⟨a4593, hf4594, hq4595, hA4596⟩, ⟨a4597, hf4598, hq4599, hA4600⟩, ⟨w4609, hg4610, by first | omega | decide⟩, ⟨w4611, hg4612, by first | omega | decide⟩, hg4613⟩, ⟨a4601, hf4602, hq4603, hA4604⟩, ⟨a4605, hf4606, hq4607, hA4608⟩, hPl, ⟨w4614, hg4615, by first | omega | decide⟩, by omega, by first | omega | (intro; omega)⟩, by omega, fun h => absurd h (by omega), hiv4622⟩
                rw [hQ]
                exact W.vret hx hb hr (fun t ht hW => ⟨⟨(), rfl, trivial, ⟨by rw [ht]; exact hI, hN.warm hW, va_K.moved hW.alike hK⟩, by first | (rw [ht]; exact hpost) | exact hpost⟩, hS.F ht⟩) hS.2.2 dX12_readPlain_60
        · skip
          try simp only [rg, not_and, Int.not_le] at hp
          have hp4626 := hp
          refine lv_if_ne (tgt := 24) hx hb dX12_readPlain_20 (by decide) (fun c => absurd c (by decide)) (fun _ => ?_)
          have hiv4627 : IV cd va pl TT XX (4, fl, nk, L1) p1 b1 := hiv1.bad (by omega)
          have hpost : ∃ (p2 : Nat) (b2 : Int32) (L2 : Nat), RX E D G h0 ff cd va pl TT p2 b2 L2 H ∧ pp ≤ p2 ∧ (b2.toInt = -1 → bb.toInt = -1 ∧ Gr (rC cd TT) 3 dd pp p2) ∧ IV cd va pl TT XX (4, fl, nk, L2) p2 b2 := ⟨p1, b1, L1, ⟨⟨hkf, hT, hz0, by omega, ⟨a4126, hf4127, hq4128, hA4129⟩, ⟨a4130, hf4131, hq4132, hA4133⟩, ⟨w4142, hg4143, by first | omega | decide⟩, ⟨w4144, hg4145, by first | omega | decide⟩, hg4146⟩, ⟨a4134, hf4135, hq4136, hA4137⟩, ⟨a4138, hf4139, hq4140, hA4141⟩, hPl, ⟨w4147, hg4148, by first | omega | decide⟩, by omega, by first | omega | (intro; omega)⟩, by omega, fun h => absurd h (by omega), hiv4627⟩
          rw [hQ]
          exact W.vret hx hb hr (fun t ht hW => ⟨⟨(), rfl, trivial, ⟨by rw [ht]; exact hI, hN.warm hW, va_K.moved hW.alike hK⟩, by first | (rw [ht]; exact hpost) | exact hpost⟩, hS.F ht⟩) hS.2.2 dX12_readPlain_23
      · skip
        have k4628 := iv_ne (X := v4123.toInt) (Y := (0)) rfl (by decide) c4155
        refine lv_aload_n hx hb dX12_readPlain_6 rfl (lv_at hl 1 rfl) ?_
        refine lv_bipush (v := 8) hx hb dX12_readPlain_7 (by decide) ?_
        refine mx_i (As := [.int 8]) (rest := []) (n := 1) (d := 1) ⟨hx, hb, hml, hown, hts⟩ (c_X12_takes0 l E D G h0 hG0 8 ff cd va pl TT p1 L1 b1 (by first | decide | omega)) wd_1587 wd_1589 wp_66 wd_13 wd_1590 (by decide +kernel) ⟨by rw [hR]; show 1 + 1 ≤ 30 + 3 * k; omega, by rw [hR]; show 8 + (3 + 11) + 40 * (1) ≤ 40 * (30 + 3 * k); omega⟩ hI hN hK hS hG0 (⟨⟨hkf, hT, hz0, by omega, ⟨a4126, hf4127, hq4128, hA4129⟩, ⟨a4130, hf4131, hq4132, hA4133⟩, ⟨w4142, hg4143, by first | omega | decide⟩, ⟨w4144, hg4145, by first | omega | decide⟩, hg4146⟩, ⟨a4134, hf4135, hq4136, hA4137⟩, ⟨a4138, hf4139, hq4140, hA4141⟩, hPl, ⟨w4147, hg4148, by first | omega | decide⟩, by omega, by first | omega | (intro; omega)⟩) rfl hl.1 rfl (Nat.le_of_ble_eq_true rfl) dX12_readPlain_9 ⟨Nat.zero_le _, Nat.zero_le _⟩ (fun r4629 H locs hI hp hS => ?_)
        rcases hp with ⟨rfl, hp⟩ | ⟨rfl, hp⟩
        · skip
          try simp only [rg, not_and, Int.not_le] at hp
          have hp4630 := hp
          obtain ⟨hb4633, hc4631, k4632, hE⟩ := hp4630
          have hp4630 : True := trivial
          rw [show (8 : Int32).toInt = 8 from by decide] at hc4631
          obtain ⟨⟨hkf, hT, hz0, k4657, ⟨a4634, hf4635, hq4636, hA4637⟩, ⟨a4638, hf4639, hq4640, hA4641⟩, ⟨w4650, hg4651, k4658⟩, ⟨w4652, hg4653, k4659⟩, hg4654⟩, ⟨a4642, hf4643, hq4644, hA4645⟩, ⟨a4646, hf4647, hq4648, hA4649⟩, hPl, ⟨w4655, hg4656, k4660⟩, k4661, k4662⟩ := hE
          have hInv2 : b1.toInt = -1 → bb.toInt = -1 ∧ ∀ r, Gr (rC cd TT) 3 dd (p1 + 1) r → Gr (rC cd TT) 3 dd pp r := fun h => ⟨(hInv h).1, r3_m (hInv h).2 hc4631⟩
          have hiv4663 : IV cd va pl TT XX (3, fl, nk, L1) (p1 + 1) b1 := hiv1.go (fun hb9 => pd_Q_nt k4632 hc4631)
          try rw [show (8 : Int32).toInt = 8 from by decide] at hp4630
          refine lv_istore_n (lv' := [(2, .int 1), (0, .ref h0), (1, .int x1)]) hx hb dX12_readPlain_12 rfl hl (by decide) rfl (fun ls hl => ?_)
          refine lv_goto (tgt := 2) hx hb dX12_readPlain_13 (by decide) ?_
          have zl : (1 : Int32).toInt = 1 := by decide
          exact ih_2 _ (by omega) H locs ls 1 (p1 + 1) b1 L1 rfl (lv_sub hl [0, 1, 2] rfl) ⟨by decide, by decide⟩ ⟨by omega, by omega⟩ (by omega) (by first | omega | exact Or.inl (by decide)) (hInv2) (hiv4663) (⟨⟨hkf, hT, hz0, by omega, ⟨a4634, hf4635, hq4636, hA4637⟩, ⟨a4638, hf4639, hq4640, hA4641⟩, ⟨w4650, hg4651, by first | omega | decide⟩, ⟨w4652, hg4653, by first | omega | decide⟩, hg4654⟩, ⟨a4642, hf4643, hq4644, hA4645⟩, ⟨a4646, hf4647, hq4648, hA4649⟩, hPl, ⟨w4655, hg4656, by first | omega | decide⟩, by omega, by first | omega | (intro; omega)⟩) hI hS
        · skip
          try simp only [rg, not_and, Int.not_le] at hp
          have hp4664 := hp
          obtain ⟨hc4665, hE⟩ := hp4664
          have hp4664 : True := trivial
          rw [show (8 : Int32).toInt = 8 from by decide] at hc4665
          obtain ⟨⟨hkf, hT, hz0, k4690, ⟨a4667, hf4668, hq4669, hA4670⟩, ⟨a4671, hf4672, hq4673, hA4674⟩, ⟨w4683, hg4684, k4691⟩, ⟨w4685, hg4686, k4692⟩, hg4687⟩, ⟨a4675, hf4676, hq4677, hA4678⟩, ⟨a4679, hf4680, hq4681, hA4682⟩, hPl, ⟨w4688, hg4689, k4693⟩, k4694, k4695⟩ := hE
          try rw [show (8 : Int32).toInt = 8 from by decide] at hp4664
          refine lv_istore_n (lv' := [(2, .int 0), (0, .ref h0), (1, .int x1)]) hx hb dX12_readPlain_12 rfl hl (by decide) rfl (fun ls hl => ?_)
          refine lv_goto (tgt := 2) hx hb dX12_readPlain_13 (by decide) ?_
          have zl : (0 : Int32).toInt = 0 := by decide
          exact ih_2 _ (by omega) H locs ls 0 p1 b1 L1 rfl (lv_sub hl [0, 1, 2] rfl) ⟨by decide, by decide⟩ ⟨by omega, by omega⟩ (by omega) (by first | omega | exact Or.inl (by decide)) (hInv) (hiv1) (⟨⟨hkf, hT, hz0, by omega, ⟨a4667, hf4668, hq4669, hA4670⟩, ⟨a4671, hf4672, hq4673, hA4674⟩, ⟨w4683, hg4684, by first | omega | decide⟩, ⟨w4685, hg4686, by first | omega | decide⟩, hg4687⟩, ⟨a4675, hf4676, hq4677, hA4678⟩, ⟨a4679, hf4680, hq4681, hA4682⟩, hPl, ⟨w4688, hg4689, by first | omega | decide⟩, by omega, by first | omega | (intro; omega)⟩) hI hS
  refine lv_iconst (v := 1) hx hb dX12_readPlain_0 (by decide) ?_
  refine lv_istore_n (lv' := [(2, .int 1), (0, .ref h0), (1, .int x1)]) hx hb dX12_readPlain_1 rfl hl (by decide) rfl (fun ls hl => ?_)
  have zl : (1 : Int32).toInt = 1 := by decide
  exact J_2 _ s.heap [] ls 1 pp bb LL rfl (lv_sub hl [0, 1, 2] rfl) ⟨by decide, by decide⟩ ⟨by omega, by omega⟩ (by omega) (by first | omega | exact Or.inl (by decide)) (hInv0) (hiv) (⟨⟨hkf, hT, hz0, by omega, ⟨a1, hf2, hq3, hA4⟩, ⟨a5, hf6, hq7, hA8⟩, ⟨w17, hg18, by first | omega | decide⟩, ⟨w19, hg20, by first | omega | decide⟩, hg21⟩, ⟨a9, hf10, hq11, hA12⟩, ⟨a13, hf14, hq15, hA16⟩, hPl, ⟨w22, hg23, by first | omega | decide⟩, by omega, by first | omega | (intro; omega)⟩) hI hS
theorem dX12_readClause_0 : decode cX12_readClause 0 = .ok (.aload_n 0, 1) := by decide +kernel
theorem dX12_readClause_1 : decode cX12_readClause 1 = .ok (.iconst 1, 1) := by decide +kernel
theorem dX12_readClause_2 : decode cX12_readClause 2 = .ok (.invokevirtual 169, 3) := by decide +kernel
theorem dX12_readClause_5 : decode cX12_readClause 5 = .ok (.ifCond .ne 19, 3) := by decide +kernel
theorem dX12_readClause_8 : decode cX12_readClause 8 = .ok (.aload_n 0, 1) := by decide +kernel
theorem dX12_readClause_9 : decode cX12_readClause 9 = .ok (.iconst 2, 1) := by decide +kernel
theorem dX12_readClause_10 : decode cX12_readClause 10 = .ok (.invokevirtual 169, 3) := by decide +kernel
theorem dX12_readClause_13 : decode cX12_readClause 13 = .ok (.ifCond .ne 11, 3) := by decide +kernel
theorem dX12_readClause_16 : decode cX12_readClause 16 = .ok (.aload_n 0, 1) := by decide +kernel
theorem dX12_readClause_17 : decode cX12_readClause 17 = .ok (.iconst 3, 1) := by decide +kernel
theorem dX12_readClause_18 : decode cX12_readClause 18 = .ok (.invokevirtual 169, 3) := by decide +kernel
theorem dX12_readClause_21 : decode cX12_readClause 21 = .ok (.ifCond .eq 11, 3) := by decide +kernel
theorem dX12_readClause_24 : decode cX12_readClause 24 = .ok (.aload_n 0, 1) := by decide +kernel
theorem dX12_readClause_25 : decode cX12_readClause 25 = .ok (.iconst 0, 1) := by decide +kernel
theorem dX12_readClause_26 : decode cX12_readClause 26 = .ok (.invokevirtual 178, 3) := by decide +kernel
theorem dX12_readClause_29 : decode cX12_readClause 29 = .ok (.goto 8, 3) := by decide +kernel
theorem dX12_readClause_32 : decode cX12_readClause 32 = .ok (.aload_n 0, 1) := by decide +kernel
theorem dX12_readClause_33 : decode cX12_readClause 33 = .ok (.iconst 4, 1) := by decide +kernel
theorem dX12_readClause_34 : decode cX12_readClause 34 = .ok (.invokevirtual 182, 3) := by decide +kernel
theorem dX12_readClause_37 : decode cX12_readClause 37 = .ok (.aload_n 0, 1) := by decide +kernel
theorem dX12_readClause_38 : decode cX12_readClause 38 = .ok (.iconst 5, 1) := by decide +kernel
theorem dX12_readClause_39 : decode cX12_readClause 39 = .ok (.invokevirtual 169, 3) := by decide +kernel
theorem dX12_readClause_42 : decode cX12_readClause 42 = .ok (.ifCond .eq 8, 3) := by decide +kernel
theorem dX12_readClause_45 : decode cX12_readClause 45 = .ok (.aload_n 0, 1) := by decide +kernel
theorem dX12_readClause_46 : decode cX12_readClause 46 = .ok (.iconst 0, 1) := by decide +kernel
theorem dX12_readClause_47 : decode cX12_readClause 47 = .ok (.invokevirtual 185, 3) := by decide +kernel
theorem dX12_readClause_50 : decode cX12_readClause 50 = .ok (.return_, 1) := by decide +kernel
set_option maxHeartbeats 4000000 in
set_option maxRecDepth 100000 in
theorem c_X12_readClause (l : Launch) (E : Nat → Nat) (D : va_G) (G : th_G) (h0 : Nat) (hG0 : G h0 = some (10, 0)) (ff cd va pl : Nat → Int32) (TT pp LL : Nat) (bb : Int32) (nk : Nat) (XX : Nat × Bool) (hn12 : nk < 12) (hiv : IV cd va pl TT XX (0, [], nk, LL) pp bb) : Met l yX12_readClause (tb (.code yX12_readClause cX12_readClause 1 none)) (rm 57) (va_Pc [.ref h0] (PX E D G (fun H => RX E D G h0 ff cd va pl TT pp bb LL H))) (QXv E D G (fun H => ∃ (p2 : Nat) (b2 : Int32) (L2 : Nat), RX E D G h0 ff cd va pl TT p2 b2 L2 H ∧ pp ≤ p2 ∧ (b2.toInt = -1 → bb.toInt = -1 ∧ g_cl (rC cd TT) pp p2) ∧ IV cd va pl TT XX (5, [], nk + 1, L2) p2 b2)) 0 0 (th_A G) := by
  refine Met.ofW (cc := cX12_readClause) (maxL := 1) (ret := none) (by decide) rfl ?_
  intro p e s m args below meth c s₁ B hml hv
  obtain ⟨hav, ⟨hI, hN, hK⟩, hX⟩ := hv
  have hx := B.exec
  have hb := B.bytes
  have hr := B.returns
  have hts := atoms_spec (ws := tb (.code yX12_readClause cX12_readClause 1 none)) B.pre
  have hown : s.vm.findClass RX12 = some m.cls := findClass_of_methodNamed B.named
  have hlocks := B.notSynchronized
  have hS : va_S (th_A G) s.heap s.heap [] := va_S.rf
  have hl := lv_entry ([.ref h0]) (n := 1) (Nat.le_of_ble_eq_true rfl)
  rw [show entryFrame m args 1 = entryFrame m ([.ref h0] : List Value).toArray 1 from by rw [hav], lg_entry_eq]
  generalize (lg_sl ([.ref h0]) ++ List.replicate (1 - (lg_sl ([.ref h0])).length) Slot.unset).toArray = ls at hl ⊢
  have hl : lv_has ls 1 [(0, .ref h0)] := hl
  generalize hR : (headSpec (tb (.code yX12_readClause cX12_readClause 1 none)) (rm 57)).room = R
  have hR := hR.symm
  generalize hQ : MQ below (QXv E D G (fun H => ∃ (p2 : Nat) (b2 : Int32) (L2 : Nat), RX E D G h0 ff cd va pl TT p2 b2 L2 H ∧ pp ≤ p2 ∧ (b2.toInt = -1 → bb.toInt = -1 ∧ g_cl (rC cd TT) pp p2) ∧ IV cd va pl TT XX (5, [], nk + 1, L2) p2 b2)) args s 0 0 (th_A G) = QF
  have hQ := hQ.symm
  obtain ⟨⟨hkf, hT, hz0, k24, ⟨a1, hf2, hq3, hA4⟩, ⟨a5, hf6, hq7, hA8⟩, ⟨w17, hg18, k25⟩, ⟨w19, hg20, k26⟩, hg21⟩, ⟨a9, hf10, hq11, hA12⟩, ⟨a13, hf14, hq15, hA16⟩, hPl, ⟨w22, hg23, k27⟩, k28, k29⟩ := hX
  refine lv_aload_n hx hb dX12_readClause_0 rfl (lv_at hl 0 rfl) ?_
  refine lv_iconst (v := 1) hx hb dX12_readClause_1 (by decide) ?_
  refine mx_i (As := [.int 1]) (rest := []) (n := 1) (d := 1) ⟨hx, hb, hml, hown, hts⟩ (c_X12_takes0 l E D G h0 hG0 1 ff cd va pl TT pp LL bb (by first | decide | omega)) wd_1587 wd_1589 wp_66 wd_13 wd_1590 (by decide +kernel) ⟨by rw [hR]; exact Nat.le_of_ble_eq_true rfl, by rw [hR]; exact Nat.le_of_ble_eq_true rfl⟩ hI hN hK hS hG0 (⟨⟨hkf, hT, hz0, by omega, ⟨a1, hf2, hq3, hA4⟩, ⟨a5, hf6, hq7, hA8⟩, ⟨w17, hg18, by first | omega | decide⟩, ⟨w19, hg20, by first | omega | decide⟩, hg21⟩, ⟨a9, hf10, hq11, hA12⟩, ⟨a13, hf14, hq15, hA16⟩, hPl, ⟨w22, hg23, by first | omega | decide⟩, by omega, by first | omega | (intro; omega)⟩) rfl hl.1 rfl (Nat.le_of_ble_eq_true rfl) dX12_readClause_2 ⟨Nat.zero_le _, Nat.zero_le _⟩ (fun r30 H locs hI hp hS => ?_)
  rcases hp with ⟨rfl, hp⟩ | ⟨rfl, hp⟩
  · skip
    try simp only [rg, not_and, Int.not_le] at hp
    have hp31 := hp
    obtain ⟨hb34, hc32, k33, hE⟩ := hp31
    have hp31 : True := trivial
    rw [show (1 : Int32).toInt = 1 from by decide] at hc32
    obtain ⟨⟨hkf, hT, hz0, k58, ⟨a35, hf36, hq37, hA38⟩, ⟨a39, hf40, hq41, hA42⟩, ⟨w51, hg52, k59⟩, ⟨w53, hg54, k60⟩, hg55⟩, ⟨a43, hf44, hq45, hA46⟩, ⟨a47, hf48, hq49, hA50⟩, hPl, ⟨w56, hg57, k61⟩, k62, k63⟩ := hE
    have hiv64 : IV cd va pl TT XX (1, [0], nk + 1, LL) (pp + 1) bb := hiv.go (fun hb9 => pd_H_sm k33 hn12 (by omega))
    try rw [show (1 : Int32).toInt = 1 from by decide] at hp31
    refine lv_if_ne (tgt := 24) hx hb dX12_readClause_5 (by decide) (fun _ => ?_) (fun c => absurd c (by decide))
    refine lv_aload_n hx hb dX12_readClause_24 rfl (lv_at hl 0 rfl) ?_
    refine lv_iconst (v := 0) hx hb dX12_readClause_25 (by decide) ?_
    refine mx_v (As := [.int 0]) (rest := []) (n := 1) (d := 29) ⟨hx, hb, hml, hown, hts⟩ (c_X12_readSum l E D G 8 h0 hG0 0 ff cd va pl TT (pp + 1) LL bb 0 (by first | decide | omega) (by omega) (by omega) [0] (nk + 1) XX rfl hiv64 (c_X12_readPart l E D G 8)) wd_1595 wd_1597 wp_68 wd_13 wd_1598 (by decide +kernel) ⟨by rw [hR]; exact Nat.le_of_ble_eq_true rfl, by rw [hR]; exact Nat.le_of_ble_eq_true rfl⟩ hI hN hK hS hG0 (⟨⟨hkf, hT, hz0, by omega, ⟨a35, hf36, hq37, hA38⟩, ⟨a39, hf40, hq41, hA42⟩, ⟨w51, hg52, by first | omega | decide⟩, ⟨w53, hg54, by first | omega | decide⟩, hg55⟩, ⟨a43, hf44, hq45, hA46⟩, ⟨a47, hf48, hq49, hA50⟩, hPl, ⟨w56, hg57, by first | omega | decide⟩, by omega, by first | omega | (intro; omega)⟩) rfl hl.1 rfl (Nat.le_of_ble_eq_true rfl) dX12_readClause_26 ⟨Nat.zero_le _, Nat.zero_le _⟩ (fun H locs hI hp hS => ?_)
    obtain ⟨pn66, bn67, Ln68, hE, k72, hi69, hiv70, hno71⟩ := hp
    obtain ⟨⟨hkf, hT, hz0, k96, ⟨a73, hf74, hq75, hA76⟩, ⟨a77, hf78, hq79, hA80⟩, ⟨w89, hg90, k97⟩, ⟨w91, hg92, k98⟩, hg93⟩, ⟨a81, hf82, hq83, hA84⟩, ⟨a85, hf86, hq87, hA88⟩, hPl, ⟨w94, hg95, k99⟩, k100, k101⟩ := hE
    have hiv102 : IV cd va pl TT XX (4, [0], nk + 1, Ln68) pn66 bn67 := hiv70.go (fun hb9 => pd_A_s (fun _ => hno71 hb9))
    refine lv_goto (tgt := 37) hx hb dX12_readClause_29 (by decide) ?_
    refine lv_aload_n hx hb dX12_readClause_37 rfl (lv_at hl 0 rfl) ?_
    refine lv_iconst (v := 5) hx hb dX12_readClause_38 (by decide) ?_
    refine mx_i (As := [.int 5]) (rest := []) (n := 1) (d := 1) ⟨hx, hb, hml, hown, hts⟩ (c_X12_takes0 l E D G h0 hG0 5 ff cd va pl TT pn66 Ln68 bn67 (by first | decide | omega)) wd_1587 wd_1589 wp_66 wd_13 wd_1590 (by decide +kernel) ⟨by rw [hR]; exact Nat.le_of_ble_eq_true rfl, by rw [hR]; exact Nat.le_of_ble_eq_true rfl⟩ hI hN hK hS hG0 (⟨⟨hkf, hT, hz0, by omega, ⟨a73, hf74, hq75, hA76⟩, ⟨a77, hf78, hq79, hA80⟩, ⟨w89, hg90, by first | omega | decide⟩, ⟨w91, hg92, by first | omega | decide⟩, hg93⟩, ⟨a81, hf82, hq83, hA84⟩, ⟨a85, hf86, hq87, hA88⟩, hPl, ⟨w94, hg95, by first | omega | decide⟩, by omega, by first | omega | (intro; omega)⟩) rfl hl.1 rfl (Nat.le_of_ble_eq_true rfl) dX12_readClause_39 ⟨Nat.zero_le _, Nat.zero_le _⟩ (fun r103 H locs hI hp hS => ?_)
    rcases hp with ⟨rfl, hp⟩ | ⟨rfl, hp⟩
    · skip
      try simp only [rg, not_and, Int.not_le] at hp
      have hp104 := hp
      obtain ⟨hb107, hc105, k106, hE⟩ := hp104
      have hp104 : True := trivial
      rw [show (5 : Int32).toInt = 5 from by decide] at hc105
      obtain ⟨⟨hkf, hT, hz0, k131, ⟨a108, hf109, hq110, hA111⟩, ⟨a112, hf113, hq114, hA115⟩, ⟨w124, hg125, k132⟩, ⟨w126, hg127, k133⟩, hg128⟩, ⟨a116, hf117, hq118, hA119⟩, ⟨a120, hf121, hq122, hA123⟩, hPl, ⟨w129, hg130, k134⟩, k135, k136⟩ := hE
      have hiv137 : IV cd va pl TT XX (3, [5], nk + 1, Ln68) (pn66 + 1) bn67 := hiv102.go (fun hb9 => pd_D_if k106 hc105)
      try rw [show (5 : Int32).toInt = 5 from by decide] at hp104
      refine lv_if_eq (tgt := 50) hx hb dX12_readClause_42 (by decide) (fun c => absurd c (by decide)) (fun _ => ?_)
      refine lv_aload_n hx hb dX12_readClause_45 rfl (lv_at hl 0 rfl) ?_
      refine lv_iconst (v := 0) hx hb dX12_readClause_46 (by decide) ?_
      refine mx_v (As := [.int 0]) (rest := []) (n := 1) (d := 56) ⟨hx, hb, hml, hown, hts⟩ (c_X12_readTest l E D G 8 h0 hG0 0 ff cd va pl TT (pn66 + 1) Ln68 bn67 0 (by first | decide | omega) (by omega) (by omega) 5 [] (Or.inr rfl) (nk + 1) XX rfl hiv137 (c_X12_readPlain l E D G 8)) wd_1619 wd_1621 wp_74 wd_13 wd_1622 (by decide +kernel) ⟨by rw [hR]; exact Nat.le_of_ble_eq_true rfl, by rw [hR]; exact Nat.le_of_ble_eq_true rfl⟩ hI hN hK hS hG0 (⟨⟨hkf, hT, hz0, by omega, ⟨a108, hf109, hq110, hA111⟩, ⟨a112, hf113, hq114, hA115⟩, ⟨w124, hg125, by first | omega | decide⟩, ⟨w126, hg127, by first | omega | decide⟩, hg128⟩, ⟨a116, hf117, hq118, hA119⟩, ⟨a120, hf121, hq122, hA123⟩, hPl, ⟨w129, hg130, by first | omega | decide⟩, by omega, by first | omega | (intro; omega)⟩) rfl hl.1 rfl (Nat.le_of_ble_eq_true rfl) dX12_readClause_47 ⟨Nat.zero_le _, Nat.zero_le _⟩ (fun H locs hI hp hS => ?_)
      obtain ⟨pn139, bn140, Ln141, hE, k145, hi142, hiv143, hno144⟩ := hp
      obtain ⟨⟨hkf, hT, hz0, k169, ⟨a146, hf147, hq148, hA149⟩, ⟨a150, hf151, hq152, hA153⟩, ⟨w162, hg163, k170⟩, ⟨w164, hg165, k171⟩, hg166⟩, ⟨a154, hf155, hq156, hA157⟩, ⟨a158, hf159, hq160, hA161⟩, hPl, ⟨w167, hg168, k172⟩, k173, k174⟩ := hE
      have hiv175 : IV cd va pl TT XX (5, [], nk + 1, Ln141) pn139 bn140 := hiv143.go (fun hb9 => pd_D_c5 (fun _ => hno144 hb9))
      have hpost : ∃ (p2 : Nat) (b2 : Int32) (L2 : Nat), RX E D G h0 ff cd va pl TT p2 b2 L2 H ∧ pp ≤ p2 ∧ (b2.toInt = -1 → bb.toInt = -1 ∧ g_cl (rC cd TT) pp p2) ∧ IV cd va pl TT XX (5, [], nk + 1, L2) p2 b2 := by
          refine ⟨pn139, bn140, Ln141, ⟨⟨hkf, hT, hz0, by omega, ⟨a146, hf147, hq148, hA149⟩, ⟨a150, hf151, hq152, hA153⟩, ⟨w162, hg163, by first | omega | decide⟩, ⟨w164, hg165, by first | omega | decide⟩, hg166⟩, ⟨a154, hf155, hq156, hA157⟩, ⟨a158, hf159, hq160, hA161⟩, hPl, ⟨w167, hg168, by first | omega | decide⟩, by omega, by first | omega | (intro; omega)⟩, by omega, ?_, hiv175⟩
          intro h
          obtain ⟨hz1, hz2⟩ := hi142 h
          obtain ⟨ha1, ha2⟩ := hi69 hb107
          exact ⟨ha1, cl_1 (by omega) ha2 (Or.inr ⟨hc105, hz2⟩)⟩
      rw [hQ]
      exact W.vret hx hb hr (fun t ht hW => ⟨⟨(), rfl, trivial, ⟨by rw [ht]; exact hI, hN.warm hW, va_K.moved hW.alike hK⟩, by first | (rw [ht]; exact hpost) | exact hpost⟩, hS.F ht⟩) hS.2.2 dX12_readClause_50
    · skip
      try simp only [rg, not_and, Int.not_le] at hp
      have hp176 := hp
      obtain ⟨hc177, hE⟩ := hp176
      have hp176 : True := trivial
      rw [show (5 : Int32).toInt = 5 from by decide] at hc177
      obtain ⟨⟨hkf, hT, hz0, k202, ⟨a179, hf180, hq181, hA182⟩, ⟨a183, hf184, hq185, hA186⟩, ⟨w195, hg196, k203⟩, ⟨w197, hg198, k204⟩, hg199⟩, ⟨a187, hf188, hq189, hA190⟩, ⟨a191, hf192, hq193, hA194⟩, hPl, ⟨w200, hg201, k205⟩, k206, k207⟩ := hE
      have hiv208 : IV cd va pl TT XX (5, [], nk + 1, Ln68) pn66 bn67 := hiv102.go (fun hb9 => pd_D_c0 (fun _ => by omega))
      try rw [show (5 : Int32).toInt = 5 from by decide] at hp176
      refine lv_if_eq (tgt := 50) hx hb dX12_readClause_42 (by decide) (fun _ => ?_) (fun c => absurd c (by decide))
      have hpost : ∃ (p2 : Nat) (b2 : Int32) (L2 : Nat), RX E D G h0 ff cd va pl TT p2 b2 L2 H ∧ pp ≤ p2 ∧ (b2.toInt = -1 → bb.toInt = -1 ∧ g_cl (rC cd TT) pp p2) ∧ IV cd va pl TT XX (5, [], nk + 1, L2) p2 b2 := by
          refine ⟨pn66, bn67, Ln68, ⟨⟨hkf, hT, hz0, by omega, ⟨a179, hf180, hq181, hA182⟩, ⟨a183, hf184, hq185, hA186⟩, ⟨w195, hg196, by first | omega | decide⟩, ⟨w197, hg198, by first | omega | decide⟩, hg199⟩, ⟨a187, hf188, hq189, hA190⟩, ⟨a191, hf192, hq193, hA194⟩, hPl, ⟨w200, hg201, by first | omega | decide⟩, by omega, by first | omega | (intro; omega)⟩, by omega, ?_, hiv208⟩
          intro h
          obtain ⟨ha1, ha2⟩ := hi69 h
          exact ⟨ha1, cl_1 (by omega) ha2 (Or.inl ⟨by omega, rfl⟩)⟩
      rw [hQ]
      exact W.vret hx hb hr (fun t ht hW => ⟨⟨(), rfl, trivial, ⟨by rw [ht]; exact hI, hN.warm hW, va_K.moved hW.alike hK⟩, by first | (rw [ht]; exact hpost) | exact hpost⟩, hS.F ht⟩) hS.2.2 dX12_readClause_50
  · skip
    try simp only [rg, not_and, Int.not_le] at hp
    have hp209 := hp
    obtain ⟨hc210, hE⟩ := hp209
    have hp209 : True := trivial
    rw [show (1 : Int32).toInt = 1 from by decide] at hc210
    obtain ⟨⟨hkf, hT, hz0, k235, ⟨a212, hf213, hq214, hA215⟩, ⟨a216, hf217, hq218, hA219⟩, ⟨w228, hg229, k236⟩, ⟨w230, hg231, k237⟩, hg232⟩, ⟨a220, hf221, hq222, hA223⟩, ⟨a224, hf225, hq226, hA227⟩, hPl, ⟨w233, hg234, k238⟩, k239, k240⟩ := hE
    try rw [show (1 : Int32).toInt = 1 from by decide] at hp209
    refine lv_if_ne (tgt := 24) hx hb dX12_readClause_5 (by decide) (fun c => absurd c (by decide)) (fun _ => ?_)
    refine lv_aload_n hx hb dX12_readClause_8 rfl (lv_at hl 0 rfl) ?_
    refine lv_iconst (v := 2) hx hb dX12_readClause_9 (by decide) ?_
    refine mx_i (As := [.int 2]) (rest := []) (n := 1) (d := 1) ⟨hx, hb, hml, hown, hts⟩ (c_X12_takes0 l E D G h0 hG0 2 ff cd va pl TT pp LL bb (by first | decide | omega)) wd_1587 wd_1589 wp_66 wd_13 wd_1590 (by decide +kernel) ⟨by rw [hR]; exact Nat.le_of_ble_eq_true rfl, by rw [hR]; exact Nat.le_of_ble_eq_true rfl⟩ hI hN hK hS hG0 (⟨⟨hkf, hT, hz0, by omega, ⟨a212, hf213, hq214, hA215⟩, ⟨a216, hf217, hq218, hA219⟩, ⟨w228, hg229, by first | omega | decide⟩, ⟨w230, hg231, by first | omega | decide⟩, hg232⟩, ⟨a220, hf221, hq222, hA223⟩, ⟨a224, hf225, hq226, hA227⟩, hPl, ⟨w233, hg234, by first | omega | decide⟩, by omega, by first | omega | (intro; omega)⟩) rfl hl.1 rfl (Nat.le_of_ble_eq_true rfl) dX12_readClause_10 ⟨Nat.zero_le _, Nat.zero_le _⟩ (fun r241 H locs hI hp hS => ?_)
    rcases hp with ⟨rfl, hp⟩ | ⟨rfl, hp⟩
    · skip
      try simp only [rg, not_and, Int.not_le] at hp
      have hp242 := hp
      obtain ⟨hb245, hc243, k244, hE⟩ := hp242
      have hp242 : True := trivial
      rw [show (2 : Int32).toInt = 2 from by decide] at hc243
      obtain ⟨⟨hkf, hT, hz0, k269, ⟨a246, hf247, hq248, hA249⟩, ⟨a250, hf251, hq252, hA253⟩, ⟨w262, hg263, k270⟩, ⟨w264, hg265, k271⟩, hg266⟩, ⟨a254, hf255, hq256, hA257⟩, ⟨a258, hf259, hq260, hA261⟩, hPl, ⟨w267, hg268, k272⟩, k273, k274⟩ := hE
      have hiv275 : IV cd va pl TT XX (1, [0], nk + 1, LL) (pp + 1) bb := hiv.go (fun hb9 => pd_H_sm k244 hn12 (by omega))
      try rw [show (2 : Int32).toInt = 2 from by decide] at hp242
      refine lv_if_ne (tgt := 24) hx hb dX12_readClause_13 (by decide) (fun _ => ?_) (fun c => absurd c (by decide))
      refine lv_aload_n hx hb dX12_readClause_24 rfl (lv_at hl 0 rfl) ?_
      refine lv_iconst (v := 0) hx hb dX12_readClause_25 (by decide) ?_
      refine mx_v (As := [.int 0]) (rest := []) (n := 1) (d := 29) ⟨hx, hb, hml, hown, hts⟩ (c_X12_readSum l E D G 8 h0 hG0 0 ff cd va pl TT (pp + 1) LL bb 0 (by first | decide | omega) (by omega) (by omega) [0] (nk + 1) XX rfl hiv275 (c_X12_readPart l E D G 8)) wd_1595 wd_1597 wp_68 wd_13 wd_1598 (by decide +kernel) ⟨by rw [hR]; exact Nat.le_of_ble_eq_true rfl, by rw [hR]; exact Nat.le_of_ble_eq_true rfl⟩ hI hN hK hS hG0 (⟨⟨hkf, hT, hz0, by omega, ⟨a246, hf247, hq248, hA249⟩, ⟨a250, hf251, hq252, hA253⟩, ⟨w262, hg263, by first | omega | decide⟩, ⟨w264, hg265, by first | omega | decide⟩, hg266⟩, ⟨a254, hf255, hq256, hA257⟩, ⟨a258, hf259, hq260, hA261⟩, hPl, ⟨w267, hg268, by first | omega | decide⟩, by omega, by first | omega | (intro; omega)⟩) rfl hl.1 rfl (Nat.le_of_ble_eq_true rfl) dX12_readClause_26 ⟨Nat.zero_le _, Nat.zero_le _⟩ (fun H locs hI hp hS => ?_)
      obtain ⟨pn277, bn278, Ln279, hE, k283, hi280, hiv281, hno282⟩ := hp
      obtain ⟨⟨hkf, hT, hz0, k307, ⟨a284, hf285, hq286, hA287⟩, ⟨a288, hf289, hq290, hA291⟩, ⟨w300, hg301, k308⟩, ⟨w302, hg303, k309⟩, hg304⟩, ⟨a292, hf293, hq294, hA295⟩, ⟨a296, hf297, hq298, hA299⟩, hPl, ⟨w305, hg306, k310⟩, k311, k312⟩ := hE
      have hiv313 : IV cd va pl TT XX (4, [0], nk + 1, Ln279) pn277 bn278 := hiv281.go (fun hb9 => pd_A_s (fun _ => hno282 hb9))
      refine lv_goto (tgt := 37) hx hb dX12_readClause_29 (by decide) ?_
      refine lv_aload_n hx hb dX12_readClause_37 rfl (lv_at hl 0 rfl) ?_
      refine lv_iconst (v := 5) hx hb dX12_readClause_38 (by decide) ?_
      refine mx_i (As := [.int 5]) (rest := []) (n := 1) (d := 1) ⟨hx, hb, hml, hown, hts⟩ (c_X12_takes0 l E D G h0 hG0 5 ff cd va pl TT pn277 Ln279 bn278 (by first | decide | omega)) wd_1587 wd_1589 wp_66 wd_13 wd_1590 (by decide +kernel) ⟨by rw [hR]; exact Nat.le_of_ble_eq_true rfl, by rw [hR]; exact Nat.le_of_ble_eq_true rfl⟩ hI hN hK hS hG0 (⟨⟨hkf, hT, hz0, by omega, ⟨a284, hf285, hq286, hA287⟩, ⟨a288, hf289, hq290, hA291⟩, ⟨w300, hg301, by first | omega | decide⟩, ⟨w302, hg303, by first | omega | decide⟩, hg304⟩, ⟨a292, hf293, hq294, hA295⟩, ⟨a296, hf297, hq298, hA299⟩, hPl, ⟨w305, hg306, by first | omega | decide⟩, by omega, by first | omega | (intro; omega)⟩) rfl hl.1 rfl (Nat.le_of_ble_eq_true rfl) dX12_readClause_39 ⟨Nat.zero_le _, Nat.zero_le _⟩ (fun r314 H locs hI hp hS => ?_)
      rcases hp with ⟨rfl, hp⟩ | ⟨rfl, hp⟩
      · skip
        try simp only [rg, not_and, Int.not_le] at hp
        have hp315 := hp
        obtain ⟨hb318, hc316, k317, hE⟩ := hp315
        have hp315 : True := trivial
        rw [show (5 : Int32).toInt = 5 from by decide] at hc316
        obtain ⟨⟨hkf, hT, hz0, k342, ⟨a319, hf320, hq321, hA322⟩, ⟨a323, hf324, hq325, hA326⟩, ⟨w335, hg336, k343⟩, ⟨w337, hg338, k344⟩, hg339⟩, ⟨a327, hf328, hq329, hA330⟩, ⟨a331, hf332, hq333, hA334⟩, hPl, ⟨w340, hg341, k345⟩, k346, k347⟩ := hE
        have hiv348 : IV cd va pl TT XX (3, [5], nk + 1, Ln279) (pn277 + 1) bn278 := hiv313.go (fun hb9 => pd_D_if k317 hc316)
        try rw [show (5 : Int32).toInt = 5 from by decide] at hp315
        refine lv_if_eq (tgt := 50) hx hb dX12_readClause_42 (by decide) (fun c => absurd c (by decide)) (fun _ => ?_)
        refine lv_aload_n hx hb dX12_readClause_45 rfl (lv_at hl 0 rfl) ?_
        refine lv_iconst (v := 0) hx hb dX12_readClause_46 (by decide) ?_
        refine mx_v (As := [.int 0]) (rest := []) (n := 1) (d := 56) ⟨hx, hb, hml, hown, hts⟩ (c_X12_readTest l E D G 8 h0 hG0 0 ff cd va pl TT (pn277 + 1) Ln279 bn278 0 (by first | decide | omega) (by omega) (by omega) 5 [] (Or.inr rfl) (nk + 1) XX rfl hiv348 (c_X12_readPlain l E D G 8)) wd_1619 wd_1621 wp_74 wd_13 wd_1622 (by decide +kernel) ⟨by rw [hR]; exact Nat.le_of_ble_eq_true rfl, by rw [hR]; exact Nat.le_of_ble_eq_true rfl⟩ hI hN hK hS hG0 (⟨⟨hkf, hT, hz0, by omega, ⟨a319, hf320, hq321, hA322⟩, ⟨a323, hf324, hq325, hA326⟩, ⟨w335, hg336, by first | omega | decide⟩, ⟨w337, hg338, by first | omega | decide⟩, hg339⟩, ⟨a327, hf328, hq329, hA330⟩, ⟨a331, hf332, hq333, hA334⟩, hPl, ⟨w340, hg341, by first | omega | decide⟩, by omega, by first | omega | (intro; omega)⟩) rfl hl.1 rfl (Nat.le_of_ble_eq_true rfl) dX12_readClause_47 ⟨Nat.zero_le _, Nat.zero_le _⟩ (fun H locs hI hp hS => ?_)
        obtain ⟨pn350, bn351, Ln352, hE, k356, hi353, hiv354, hno355⟩ := hp
        obtain ⟨⟨hkf, hT, hz0, k380, ⟨a357, hf358, hq359, hA360⟩, ⟨a361, hf362, hq363, hA364⟩, ⟨w373, hg374, k381⟩, ⟨w375, hg376, k382⟩, hg377⟩, ⟨a365, hf366, hq367, hA368⟩, ⟨a369, hf370, hq371, hA372⟩, hPl, ⟨w378, hg379, k383⟩, k384, k385⟩ := hE
        have hiv386 : IV cd va pl TT XX (5, [], nk + 1, Ln352) pn350 bn351 := hiv354.go (fun hb9 => pd_D_c5 (fun _ => hno355 hb9))
        have hpost : ∃ (p2 : Nat) (b2 : Int32) (L2 : Nat), RX E D G h0 ff cd va pl TT p2 b2 L2 H ∧ pp ≤ p2 ∧ (b2.toInt = -1 → bb.toInt = -1 ∧ g_cl (rC cd TT) pp p2) ∧ IV cd va pl TT XX (5, [], nk + 1, L2) p2 b2 := by
            refine ⟨pn350, bn351, Ln352, ⟨⟨hkf, hT, hz0, by omega, ⟨a357, hf358, hq359, hA360⟩, ⟨a361, hf362, hq363, hA364⟩, ⟨w373, hg374, by first | omega | decide⟩, ⟨w375, hg376, by first | omega | decide⟩, hg377⟩, ⟨a365, hf366, hq367, hA368⟩, ⟨a369, hf370, hq371, hA372⟩, hPl, ⟨w378, hg379, by first | omega | decide⟩, by omega, by first | omega | (intro; omega)⟩, by omega, ?_, hiv386⟩
            intro h
            obtain ⟨hz1, hz2⟩ := hi353 h
            obtain ⟨ha1, ha2⟩ := hi280 hb318
            exact ⟨ha1, cl_1 (by omega) ha2 (Or.inr ⟨hc316, hz2⟩)⟩
        rw [hQ]
        exact W.vret hx hb hr (fun t ht hW => ⟨⟨(), rfl, trivial, ⟨by rw [ht]; exact hI, hN.warm hW, va_K.moved hW.alike hK⟩, by first | (rw [ht]; exact hpost) | exact hpost⟩, hS.F ht⟩) hS.2.2 dX12_readClause_50
      · skip
        try simp only [rg, not_and, Int.not_le] at hp
        have hp387 := hp
        obtain ⟨hc388, hE⟩ := hp387
        have hp387 : True := trivial
        rw [show (5 : Int32).toInt = 5 from by decide] at hc388
        obtain ⟨⟨hkf, hT, hz0, k413, ⟨a390, hf391, hq392, hA393⟩, ⟨a394, hf395, hq396, hA397⟩, ⟨w406, hg407, k414⟩, ⟨w408, hg409, k415⟩, hg410⟩, ⟨a398, hf399, hq400, hA401⟩, ⟨a402, hf403, hq404, hA405⟩, hPl, ⟨w411, hg412, k416⟩, k417, k418⟩ := hE
        have hiv419 : IV cd va pl TT XX (5, [], nk + 1, Ln279) pn277 bn278 := hiv313.go (fun hb9 => pd_D_c0 (fun _ => by omega))
        try rw [show (5 : Int32).toInt = 5 from by decide] at hp387
        refine lv_if_eq (tgt := 50) hx hb dX12_readClause_42 (by decide) (fun _ => ?_) (fun c => absurd c (by decide))
        have hpost : ∃ (p2 : Nat) (b2 : Int32) (L2 : Nat), RX E D G h0 ff cd va pl TT p2 b2 L2 H ∧ pp ≤ p2 ∧ (b2.toInt = -1 → bb.toInt = -1 ∧ g_cl (rC cd TT) pp p2) ∧ IV cd va pl TT XX (5, [], nk + 1, L2) p2 b2 := by
            refine ⟨pn277, bn278, Ln279, ⟨⟨hkf, hT, hz0, by omega, ⟨a390, hf391, hq392, hA393⟩, ⟨a394, hf395, hq396, hA397⟩, ⟨w406, hg407, by first | omega | decide⟩, ⟨w408, hg409, by first | omega | decide⟩, hg410⟩, ⟨a398, hf399, hq400, hA401⟩, ⟨a402, hf403, hq404, hA405⟩, hPl, ⟨w411, hg412, by first | omega | decide⟩, by omega, by first | omega | (intro; omega)⟩, by omega, ?_, hiv419⟩
            intro h
            obtain ⟨ha1, ha2⟩ := hi280 h
            exact ⟨ha1, cl_1 (by omega) ha2 (Or.inl ⟨by omega, rfl⟩)⟩
        rw [hQ]
        exact W.vret hx hb hr (fun t ht hW => ⟨⟨(), rfl, trivial, ⟨by rw [ht]; exact hI, hN.warm hW, va_K.moved hW.alike hK⟩, by first | (rw [ht]; exact hpost) | exact hpost⟩, hS.F ht⟩) hS.2.2 dX12_readClause_50
    · skip
      try simp only [rg, not_and, Int.not_le] at hp
      have hp420 := hp
      obtain ⟨hc421, hE⟩ := hp420
      have hp420 : True := trivial
      rw [show (2 : Int32).toInt = 2 from by decide] at hc421
      obtain ⟨⟨hkf, hT, hz0, k446, ⟨a423, hf424, hq425, hA426⟩, ⟨a427, hf428, hq429, hA430⟩, ⟨w439, hg440, k447⟩, ⟨w441, hg442, k448⟩, hg443⟩, ⟨a431, hf432, hq433, hA434⟩, ⟨a435, hf436, hq437, hA438⟩, hPl, ⟨w444, hg445, k449⟩, k450, k451⟩ := hE
      try rw [show (2 : Int32).toInt = 2 from by decide] at hp420
      refine lv_if_ne (tgt := 24) hx hb dX12_readClause_13 (by decide) (fun c => absurd c (by decide)) (fun _ => ?_)
      refine lv_aload_n hx hb dX12_readClause_16 rfl (lv_at hl 0 rfl) ?_
      refine lv_iconst (v := 3) hx hb dX12_readClause_17 (by decide) ?_
      refine mx_i (As := [.int 3]) (rest := []) (n := 1) (d := 1) ⟨hx, hb, hml, hown, hts⟩ (c_X12_takes0 l E D G h0 hG0 3 ff cd va pl TT pp LL bb (by first | decide | omega)) wd_1587 wd_1589 wp_66 wd_13 wd_1590 (by decide +kernel) ⟨by rw [hR]; exact Nat.le_of_ble_eq_true rfl, by rw [hR]; exact Nat.le_of_ble_eq_true rfl⟩ hI hN hK hS hG0 (⟨⟨hkf, hT, hz0, by omega, ⟨a423, hf424, hq425, hA426⟩, ⟨a427, hf428, hq429, hA430⟩, ⟨w439, hg440, by first | omega | decide⟩, ⟨w441, hg442, by first | omega | decide⟩, hg443⟩, ⟨a431, hf432, hq433, hA434⟩, ⟨a435, hf436, hq437, hA438⟩, hPl, ⟨w444, hg445, by first | omega | decide⟩, by omega, by first | omega | (intro; omega)⟩) rfl hl.1 rfl (Nat.le_of_ble_eq_true rfl) dX12_readClause_18 ⟨Nat.zero_le _, Nat.zero_le _⟩ (fun r452 H locs hI hp hS => ?_)
      rcases hp with ⟨rfl, hp⟩ | ⟨rfl, hp⟩
      · skip
        try simp only [rg, not_and, Int.not_le] at hp
        have hp453 := hp
        obtain ⟨hb456, hc454, k455, hE⟩ := hp453
        have hp453 : True := trivial
        rw [show (3 : Int32).toInt = 3 from by decide] at hc454
        obtain ⟨⟨hkf, hT, hz0, k480, ⟨a457, hf458, hq459, hA460⟩, ⟨a461, hf462, hq463, hA464⟩, ⟨w473, hg474, k481⟩, ⟨w475, hg476, k482⟩, hg477⟩, ⟨a465, hf466, hq467, hA468⟩, ⟨a469, hf470, hq471, hA472⟩, hPl, ⟨w478, hg479, k483⟩, k484, k485⟩ := hE
        have hiv486 : IV cd va pl TT XX (1, [0], nk + 1, LL) (pp + 1) bb := hiv.go (fun hb9 => pd_H_sm k455 hn12 (by omega))
        try rw [show (3 : Int32).toInt = 3 from by decide] at hp453
        refine lv_if_eq (tgt := 32) hx hb dX12_readClause_21 (by decide) (fun c => absurd c (by decide)) (fun _ => ?_)
        refine lv_aload_n hx hb dX12_readClause_24 rfl (lv_at hl 0 rfl) ?_
        refine lv_iconst (v := 0) hx hb dX12_readClause_25 (by decide) ?_
        refine mx_v (As := [.int 0]) (rest := []) (n := 1) (d := 29) ⟨hx, hb, hml, hown, hts⟩ (c_X12_readSum l E D G 8 h0 hG0 0 ff cd va pl TT (pp + 1) LL bb 0 (by first | decide | omega) (by omega) (by omega) [0] (nk + 1) XX rfl hiv486 (c_X12_readPart l E D G 8)) wd_1595 wd_1597 wp_68 wd_13 wd_1598 (by decide +kernel) ⟨by rw [hR]; exact Nat.le_of_ble_eq_true rfl, by rw [hR]; exact Nat.le_of_ble_eq_true rfl⟩ hI hN hK hS hG0 (⟨⟨hkf, hT, hz0, by omega, ⟨a457, hf458, hq459, hA460⟩, ⟨a461, hf462, hq463, hA464⟩, ⟨w473, hg474, by first | omega | decide⟩, ⟨w475, hg476, by first | omega | decide⟩, hg477⟩, ⟨a465, hf466, hq467, hA468⟩, ⟨a469, hf470, hq471, hA472⟩, hPl, ⟨w478, hg479, by first | omega | decide⟩, by omega, by first | omega | (intro; omega)⟩) rfl hl.1 rfl (Nat.le_of_ble_eq_true rfl) dX12_readClause_26 ⟨Nat.zero_le _, Nat.zero_le _⟩ (fun H locs hI hp hS => ?_)
        obtain ⟨pn488, bn489, Ln490, hE, k494, hi491, hiv492, hno493⟩ := hp
        obtain ⟨⟨hkf, hT, hz0, k518, ⟨a495, hf496, hq497, hA498⟩, ⟨a499, hf500, hq501, hA502⟩, ⟨w511, hg512, k519⟩, ⟨w513, hg514, k520⟩, hg515⟩, ⟨a503, hf504, hq505, hA506⟩, ⟨a507, hf508, hq509, hA510⟩, hPl, ⟨w516, hg517, k521⟩, k522, k523⟩ := hE
        have hiv524 : IV cd va pl TT XX (4, [0], nk + 1, Ln490) pn488 bn489 := hiv492.go (fun hb9 => pd_A_s (fun _ => hno493 hb9))
        refine lv_goto (tgt := 37) hx hb dX12_readClause_29 (by decide) ?_
        refine lv_aload_n hx hb dX12_readClause_37 rfl (lv_at hl 0 rfl) ?_
        refine lv_iconst (v := 5) hx hb dX12_readClause_38 (by decide) ?_
        refine mx_i (As := [.int 5]) (rest := []) (n := 1) (d := 1) ⟨hx, hb, hml, hown, hts⟩ (c_X12_takes0 l E D G h0 hG0 5 ff cd va pl TT pn488 Ln490 bn489 (by first | decide | omega)) wd_1587 wd_1589 wp_66 wd_13 wd_1590 (by decide +kernel) ⟨by rw [hR]; exact Nat.le_of_ble_eq_true rfl, by rw [hR]; exact Nat.le_of_ble_eq_true rfl⟩ hI hN hK hS hG0 (⟨⟨hkf, hT, hz0, by omega, ⟨a495, hf496, hq497, hA498⟩, ⟨a499, hf500, hq501, hA502⟩, ⟨w511, hg512, by first | omega | decide⟩, ⟨w513, hg514, by first | omega | decide⟩, hg515⟩, ⟨a503, hf504, hq505, hA506⟩, ⟨a507, hf508, hq509, hA510⟩, hPl, ⟨w516, hg517, by first | omega | decide⟩, by omega, by first | omega | (intro; omega)⟩) rfl hl.1 rfl (Nat.le_of_ble_eq_true rfl) dX12_readClause_39 ⟨Nat.zero_le _, Nat.zero_le _⟩ (fun r525 H locs hI hp hS => ?_)
        rcases hp with ⟨rfl, hp⟩ | ⟨rfl, hp⟩
        · skip
          try simp only [rg, not_and, Int.not_le] at hp
          have hp526 := hp
          obtain ⟨hb529, hc527, k528, hE⟩ := hp526
          have hp526 : True := trivial
          rw [show (5 : Int32).toInt = 5 from by decide] at hc527
          obtain ⟨⟨hkf, hT, hz0, k553, ⟨a530, hf531, hq532, hA533⟩, ⟨a534, hf535, hq536, hA537⟩, ⟨w546, hg547, k554⟩, ⟨w548, hg549, k555⟩, hg550⟩, ⟨a538, hf539, hq540, hA541⟩, ⟨a542, hf543, hq544, hA545⟩, hPl, ⟨w551, hg552, k556⟩, k557, k558⟩ := hE
          have hiv559 : IV cd va pl TT XX (3, [5], nk + 1, Ln490) (pn488 + 1) bn489 := hiv524.go (fun hb9 => pd_D_if k528 hc527)
          try rw [show (5 : Int32).toInt = 5 from by decide] at hp526
          refine lv_if_eq (tgt := 50) hx hb dX12_readClause_42 (by decide) (fun c => absurd c (by decide)) (fun _ => ?_)
          refine lv_aload_n hx hb dX12_readClause_45 rfl (lv_at hl 0 rfl) ?_
          refine lv_iconst (v := 0) hx hb dX12_readClause_46 (by decide) ?_
          refine mx_v (As := [.int 0]) (rest := []) (n := 1) (d := 56) ⟨hx, hb, hml, hown, hts⟩ (c_X12_readTest l E D G 8 h0 hG0 0 ff cd va pl TT (pn488 + 1) Ln490 bn489 0 (by first | decide | omega) (by omega) (by omega) 5 [] (Or.inr rfl) (nk + 1) XX rfl hiv559 (c_X12_readPlain l E D G 8)) wd_1619 wd_1621 wp_74 wd_13 wd_1622 (by decide +kernel) ⟨by rw [hR]; exact Nat.le_of_ble_eq_true rfl, by rw [hR]; exact Nat.le_of_ble_eq_true rfl⟩ hI hN hK hS hG0 (⟨⟨hkf, hT, hz0, by omega, ⟨a530, hf531, hq532, hA533⟩, ⟨a534, hf535, hq536, hA537⟩, ⟨w546, hg547, by first | omega | decide⟩, ⟨w548, hg549, by first | omega | decide⟩, hg550⟩, ⟨a538, hf539, hq540, hA541⟩, ⟨a542, hf543, hq544, hA545⟩, hPl, ⟨w551, hg552, by first | omega | decide⟩, by omega, by first | omega | (intro; omega)⟩) rfl hl.1 rfl (Nat.le_of_ble_eq_true rfl) dX12_readClause_47 ⟨Nat.zero_le _, Nat.zero_le _⟩ (fun H locs hI hp hS => ?_)
          obtain ⟨pn561, bn562, Ln563, hE, k567, hi564, hiv565, hno566⟩ := hp
          obtain ⟨⟨hkf, hT, hz0, k591, ⟨a568, hf569, hq570, hA571⟩, ⟨a572, hf573, hq574, hA575⟩, ⟨w584, hg585, k592⟩, ⟨w586, hg587, k593⟩, hg588⟩, ⟨a576, hf577, hq578, hA579⟩, ⟨a580, hf581, hq582, hA583⟩, hPl, ⟨w589, hg590, k594⟩, k595, k596⟩ := hE
          have hiv597 : IV cd va pl TT XX (5, [], nk + 1, Ln563) pn561 bn562 := hiv565.go (fun hb9 => pd_D_c5 (fun _ => hno566 hb9))
          have hpost : ∃ (p2 : Nat) (b2 : Int32) (L2 : Nat), RX E D G h0 ff cd va pl TT p2 b2 L2 H ∧ pp ≤ p2 ∧ (b2.toInt = -1 → bb.toInt = -1 ∧ g_cl (rC cd TT) pp p2) ∧ IV cd va pl TT XX (5, [], nk + 1, L2) p2 b2 := by
              refine ⟨pn561, bn562, Ln563, ⟨⟨hkf, hT, hz0, by omega, ⟨a568, hf569, hq570, hA571⟩, ⟨a572, hf573, hq574, hA575⟩, ⟨w584, hg585, by first | omega | decide⟩, ⟨w586, hg587, by first | omega | decide⟩, hg588⟩, ⟨a576, hf577, hq578, hA579⟩, ⟨a580, hf581, hq582, hA583⟩, hPl, ⟨w589, hg590, by first | omega | decide⟩, by omega, by first | omega | (intro; omega)⟩, by omega, ?_, hiv597⟩
              intro h
              obtain ⟨hz1, hz2⟩ := hi564 h
              obtain ⟨ha1, ha2⟩ := hi491 hb529
              exact ⟨ha1, cl_1 (by omega) ha2 (Or.inr ⟨hc527, hz2⟩)⟩
          rw [hQ]
          exact W.vret hx hb hr (fun t ht hW => ⟨⟨(), rfl, trivial, ⟨by rw [ht]; exact hI, hN.warm hW, va_K.moved hW.alike hK⟩, by first | (rw [ht]; exact hpost) | exact hpost⟩, hS.F ht⟩) hS.2.2 dX12_readClause_50
        · skip
          try simp only [rg, not_and, Int.not_le] at hp
          have hp598 := hp
          obtain ⟨hc599, hE⟩ := hp598
          have hp598 : True := trivial
          rw [show (5 : Int32).toInt = 5 from by decide] at hc599
          obtain ⟨⟨hkf, hT, hz0, k624, ⟨a601, hf602, hq603, hA604⟩, ⟨a605, hf606, hq607, hA608⟩, ⟨w617, hg618, k625⟩, ⟨w619, hg620, k626⟩, hg621⟩, ⟨a609, hf610, hq611, hA612⟩, ⟨a613, hf614, hq615, hA616⟩, hPl, ⟨w622, hg623, k627⟩, k628, k629⟩ := hE
          have hiv630 : IV cd va pl TT XX (5, [], nk + 1, Ln490) pn488 bn489 := hiv524.go (fun hb9 => pd_D_c0 (fun _ => by omega))
          try rw [show (5 : Int32).toInt = 5 from by decide] at hp598
          refine lv_if_eq (tgt := 50) hx hb dX12_readClause_42 (by decide) (fun _ => ?_) (fun c => absurd c (by decide))
          have hpost : ∃ (p2 : Nat) (b2 : Int32) (L2 : Nat), RX E D G h0 ff cd va pl TT p2 b2 L2 H ∧ pp ≤ p2 ∧ (b2.toInt = -1 → bb.toInt = -1 ∧ g_cl (rC cd TT) pp p2) ∧ IV cd va pl TT XX (5, [], nk + 1, L2) p2 b2 := by
              refine ⟨pn488, bn489, Ln490, ⟨⟨hkf, hT, hz0, by omega, ⟨a601, hf602, hq603, hA604⟩, ⟨a605, hf606, hq607, hA608⟩, ⟨w617, hg618, by first | omega | decide⟩, ⟨w619, hg620, by first | omega | decide⟩, hg621⟩, ⟨a609, hf610, hq611, hA612⟩, ⟨a613, hf614, hq615, hA616⟩, hPl, ⟨w622, hg623, by first | omega | decide⟩, by omega, by first | omega | (intro; omega)⟩, by omega, ?_, hiv630⟩
              intro h
              obtain ⟨ha1, ha2⟩ := hi491 h
              exact ⟨ha1, cl_1 (by omega) ha2 (Or.inl ⟨by omega, rfl⟩)⟩
          rw [hQ]
          exact W.vret hx hb hr (fun t ht hW => ⟨⟨(), rfl, trivial, ⟨by rw [ht]; exact hI, hN.warm hW, va_K.moved hW.alike hK⟩, by first | (rw [ht]; exact hpost) | exact hpost⟩, hS.F ht⟩) hS.2.2 dX12_readClause_50
      · skip
        try simp only [rg, not_and, Int.not_le] at hp
        have hp631 := hp
        obtain ⟨hc632, hE⟩ := hp631
        have hp631 : True := trivial
        rw [show (3 : Int32).toInt = 3 from by decide] at hc632
        obtain ⟨⟨hkf, hT, hz0, k657, ⟨a634, hf635, hq636, hA637⟩, ⟨a638, hf639, hq640, hA641⟩, ⟨w650, hg651, k658⟩, ⟨w652, hg653, k659⟩, hg654⟩, ⟨a642, hf643, hq644, hA645⟩, ⟨a646, hf647, hq648, hA649⟩, hPl, ⟨w655, hg656, k660⟩, k661, k662⟩ := hE
        try rw [show (3 : Int32).toInt = 3 from by decide] at hp631
        refine lv_if_eq (tgt := 32) hx hb dX12_readClause_21 (by decide) (fun _ => ?_) (fun c => absurd c (by decide))
        refine lv_aload_n hx hb dX12_readClause_32 rfl (lv_at hl 0 rfl) ?_
        refine lv_iconst (v := 4) hx hb dX12_readClause_33 (by decide) ?_
        refine mx_v (As := [.int 4]) (rest := []) (n := 1) (d := 2) ⟨hx, hb, hml, hown, hts⟩ (c_X12_must l E D G h0 hG0 4 ff cd va pl TT pp LL bb (by first | decide | omega)) wd_1611 wd_1613 wp_72 wd_13 wd_1614 (by decide +kernel) ⟨by rw [hR]; exact Nat.le_of_ble_eq_true rfl, by rw [hR]; exact Nat.le_of_ble_eq_true rfl⟩ hI hN hK hS hG0 (⟨⟨hkf, hT, hz0, by omega, ⟨a634, hf635, hq636, hA637⟩, ⟨a638, hf639, hq640, hA641⟩, ⟨w650, hg651, by first | omega | decide⟩, ⟨w652, hg653, by first | omega | decide⟩, hg654⟩, ⟨a642, hf643, hq644, hA645⟩, ⟨a646, hf647, hq648, hA649⟩, hPl, ⟨w655, hg656, by first | omega | decide⟩, by omega, by first | omega | (intro; omega)⟩) rfl hl.1 rfl (Nat.le_of_ble_eq_true rfl) dX12_readClause_34 ⟨Nat.zero_le _, Nat.zero_le _⟩ (fun H locs hI hp hS => ?_)
        obtain ⟨pn664, bn665, hE, k667, hm666⟩ := hp
        rw [show (4 : Int32).toInt = 4 from by decide] at hm666
        have hi668 := hm666.i
        obtain ⟨⟨hkf, hT, hz0, k692, ⟨a669, hf670, hq671, hA672⟩, ⟨a673, hf674, hq675, hA676⟩, ⟨w685, hg686, k693⟩, ⟨w687, hg688, k694⟩, hg689⟩, ⟨a677, hf678, hq679, hA680⟩, ⟨a681, hf682, hq683, hA684⟩, hPl, ⟨w690, hg691, k695⟩, k696, k697⟩ := hE
        have hiv698 : IV cd va pl TT XX (4, [0], nk + 1, LL) pn664 bn665 := IV.must hiv hm666 (fun hb9 hc9 => pd_H_ba (rC_lt (cd := cd) (by omega)) hn12 hc9) (fun hb9 hc9 => pd_H_no (fun _ _ => by omega))
        refine lv_aload_n hx hb dX12_readClause_37 rfl (lv_at hl 0 rfl) ?_
        refine lv_iconst (v := 5) hx hb dX12_readClause_38 (by decide) ?_
        refine mx_i (As := [.int 5]) (rest := []) (n := 1) (d := 1) ⟨hx, hb, hml, hown, hts⟩ (c_X12_takes0 l E D G h0 hG0 5 ff cd va pl TT pn664 LL bn665 (by first | decide | omega)) wd_1587 wd_1589 wp_66 wd_13 wd_1590 (by decide +kernel) ⟨by rw [hR]; exact Nat.le_of_ble_eq_true rfl, by rw [hR]; exact Nat.le_of_ble_eq_true rfl⟩ hI hN hK hS hG0 (⟨⟨hkf, hT, hz0, by omega, ⟨a669, hf670, hq671, hA672⟩, ⟨a673, hf674, hq675, hA676⟩, ⟨w685, hg686, by first | omega | decide⟩, ⟨w687, hg688, by first | omega | decide⟩, hg689⟩, ⟨a677, hf678, hq679, hA680⟩, ⟨a681, hf682, hq683, hA684⟩, hPl, ⟨w690, hg691, by first | omega | decide⟩, by omega, by first | omega | (intro; omega)⟩) rfl hl.1 rfl (Nat.le_of_ble_eq_true rfl) dX12_readClause_39 ⟨Nat.zero_le _, Nat.zero_le _⟩ (fun r699 H locs hI hp hS => ?_)
        rcases hp with ⟨rfl, hp⟩ | ⟨rfl, hp⟩
        · skip
          try simp only [rg, not_and, Int.not_le] at hp
          have hp700 := hp
          obtain ⟨hb703, hc701, k702, hE⟩ := hp700
          have hp700 : True := trivial
          rw [show (5 : Int32).toInt = 5 from by decide] at hc701
          obtain ⟨⟨hkf, hT, hz0, k727, ⟨a704, hf705, hq706, hA707⟩, ⟨a708, hf709, hq710, hA711⟩, ⟨w720, hg721, k728⟩, ⟨w722, hg723, k729⟩, hg724⟩, ⟨a712, hf713, hq714, hA715⟩, ⟨a716, hf717, hq718, hA719⟩, hPl, ⟨w725, hg726, k730⟩, k731, k732⟩ := hE
          have hiv733 : IV cd va pl TT XX (3, [5], nk + 1, LL) (pn664 + 1) bn665 := hiv698.go (fun hb9 => pd_D_if k702 hc701)
          try rw [show (5 : Int32).toInt = 5 from by decide] at hp700
          refine lv_if_eq (tgt := 50) hx hb dX12_readClause_42 (by decide) (fun c => absurd c (by decide)) (fun _ => ?_)
          refine lv_aload_n hx hb dX12_readClause_45 rfl (lv_at hl 0 rfl) ?_
          refine lv_iconst (v := 0) hx hb dX12_readClause_46 (by decide) ?_
          refine mx_v (As := [.int 0]) (rest := []) (n := 1) (d := 56) ⟨hx, hb, hml, hown, hts⟩ (c_X12_readTest l E D G 8 h0 hG0 0 ff cd va pl TT (pn664 + 1) LL bn665 0 (by first | decide | omega) (by omega) (by omega) 5 [] (Or.inr rfl) (nk + 1) XX rfl hiv733 (c_X12_readPlain l E D G 8)) wd_1619 wd_1621 wp_74 wd_13 wd_1622 (by decide +kernel) ⟨by rw [hR]; exact Nat.le_of_ble_eq_true rfl, by rw [hR]; exact Nat.le_of_ble_eq_true rfl⟩ hI hN hK hS hG0 (⟨⟨hkf, hT, hz0, by omega, ⟨a704, hf705, hq706, hA707⟩, ⟨a708, hf709, hq710, hA711⟩, ⟨w720, hg721, by first | omega | decide⟩, ⟨w722, hg723, by first | omega | decide⟩, hg724⟩, ⟨a712, hf713, hq714, hA715⟩, ⟨a716, hf717, hq718, hA719⟩, hPl, ⟨w725, hg726, by first | omega | decide⟩, by omega, by first | omega | (intro; omega)⟩) rfl hl.1 rfl (Nat.le_of_ble_eq_true rfl) dX12_readClause_47 ⟨Nat.zero_le _, Nat.zero_le _⟩ (fun H locs hI hp hS => ?_)
          obtain ⟨pn735, bn736, Ln737, hE, k741, hi738, hiv739, hno740⟩ := hp
          obtain ⟨⟨hkf, hT, hz0, k765, ⟨a742, hf743, hq744, hA745⟩, ⟨a746, hf747, hq748, hA749⟩, ⟨w758, hg759, k766⟩, ⟨w760, hg761, k767⟩, hg762⟩, ⟨a750, hf751, hq752, hA753⟩, ⟨a754, hf755, hq756, hA757⟩, hPl, ⟨w763, hg764, k768⟩, k769, k770⟩ := hE
          have hiv771 : IV cd va pl TT XX (5, [], nk + 1, Ln737) pn735 bn736 := hiv739.go (fun hb9 => pd_D_c5 (fun _ => hno740 hb9))
          have hpost : ∃ (p2 : Nat) (b2 : Int32) (L2 : Nat), RX E D G h0 ff cd va pl TT p2 b2 L2 H ∧ pp ≤ p2 ∧ (b2.toInt = -1 → bb.toInt = -1 ∧ g_cl (rC cd TT) pp p2) ∧ IV cd va pl TT XX (5, [], nk + 1, L2) p2 b2 := by
              refine ⟨pn735, bn736, Ln737, ⟨⟨hkf, hT, hz0, by omega, ⟨a742, hf743, hq744, hA745⟩, ⟨a746, hf747, hq748, hA749⟩, ⟨w758, hg759, by first | omega | decide⟩, ⟨w760, hg761, by first | omega | decide⟩, hg762⟩, ⟨a750, hf751, hq752, hA753⟩, ⟨a754, hf755, hq756, hA757⟩, hPl, ⟨w763, hg764, by first | omega | decide⟩, by omega, by first | omega | (intro; omega)⟩, by omega, ?_, hiv771⟩
              intro h
              obtain ⟨hz1, hz2⟩ := hi738 h
              obtain ⟨ha1, ha2, ha3⟩ := hi668 hb703
              exact ⟨ha1, cl_2 ha2 ha3 (Or.inr ⟨hc701, hz2⟩)⟩
          rw [hQ]
          exact W.vret hx hb hr (fun t ht hW => ⟨⟨(), rfl, trivial, ⟨by rw [ht]; exact hI, hN.warm hW, va_K.moved hW.alike hK⟩, by first | (rw [ht]; exact hpost) | exact hpost⟩, hS.F ht⟩) hS.2.2 dX12_readClause_50
        · skip
          try simp only [rg, not_and, Int.not_le] at hp
          have hp772 := hp
          obtain ⟨hc773, hE⟩ := hp772
          have hp772 : True := trivial
          rw [show (5 : Int32).toInt = 5 from by decide] at hc773
          obtain ⟨⟨hkf, hT, hz0, k798, ⟨a775, hf776, hq777, hA778⟩, ⟨a779, hf780, hq781, hA782⟩, ⟨w791, hg792, k799⟩, ⟨w793, hg794, k800⟩, hg795⟩, ⟨a783, hf784, hq785, hA786⟩, ⟨a787, hf788, hq789, hA790⟩, hPl, ⟨w796, hg797, k801⟩, k802, k803⟩ := hE
          have hiv804 : IV cd va pl TT XX (5, [], nk + 1, LL) pn664 bn665 := hiv698.go (fun hb9 => pd_D_c0 (fun _ => by omega))
          try rw [show (5 : Int32).toInt = 5 from by decide] at hp772
          refine lv_if_eq (tgt := 50) hx hb dX12_readClause_42 (by decide) (fun _ => ?_) (fun c => absurd c (by decide))
          have hpost : ∃ (p2 : Nat) (b2 : Int32) (L2 : Nat), RX E D G h0 ff cd va pl TT p2 b2 L2 H ∧ pp ≤ p2 ∧ (b2.toInt = -1 → bb.toInt = -1 ∧ g_cl (rC cd TT) pp p2) ∧ IV cd va pl TT XX (5, [], nk + 1, L2) p2 b2 := by
              refine ⟨pn664, bn665, LL, ⟨⟨hkf, hT, hz0, by omega, ⟨a775, hf776, hq777, hA778⟩, ⟨a779, hf780, hq781, hA782⟩, ⟨w791, hg792, by first | omega | decide⟩, ⟨w793, hg794, by first | omega | decide⟩, hg795⟩, ⟨a783, hf784, hq785, hA786⟩, ⟨a787, hf788, hq789, hA790⟩, hPl, ⟨w796, hg797, by first | omega | decide⟩, by omega, by first | omega | (intro; omega)⟩, by omega, ?_, hiv804⟩
              intro h
              obtain ⟨ha1, ha2, ha3⟩ := hi668 h
              exact ⟨ha1, cl_2 ha2 ha3 (Or.inl ⟨by omega, rfl⟩)⟩
          rw [hQ]
          exact W.vret hx hb hr (fun t ht hW => ⟨⟨(), rfl, trivial, ⟨by rw [ht]; exact hI, hN.warm hW, va_K.moved hW.alike hK⟩, by first | (rw [ht]; exact hpost) | exact hpost⟩, hS.F ht⟩) hS.2.2 dX12_readClause_50
theorem dX12_wordOf_0 : decode cX12_wordOf 0 = .ok (.iconst 1, 1) := by decide +kernel
theorem dX12_wordOf_1 : decode cX12_wordOf 1 = .ok (.istore_n 3, 1) := by decide +kernel
theorem dX12_wordOf_2 : decode cX12_wordOf 2 = .ok (.iconst 0, 1) := by decide +kernel
theorem dX12_wordOf_3 : decode cX12_wordOf 3 = .ok (.istore 4, 2) := by decide +kernel
theorem dX12_wordOf_5 : decode cX12_wordOf 5 = .ok (.iload 4, 2) := by decide +kernel
theorem dX12_wordOf_7 : decode cX12_wordOf 7 = .ok (.aload_n 0, 1) := by decide +kernel
theorem dX12_wordOf_8 : decode cX12_wordOf 8 = .ok (.getfield 30, 3) := by decide +kernel
theorem dX12_wordOf_11 : decode cX12_wordOf 11 = .ok (.arraylength, 1) := by decide +kernel
theorem dX12_wordOf_12 : decode cX12_wordOf 12 = .ok (.if_icmp .ge 114, 3) := by decide +kernel
theorem dX12_wordOf_15 : decode cX12_wordOf 15 = .ok (.iconst 0, 1) := by decide +kernel
theorem dX12_wordOf_16 : decode cX12_wordOf 16 = .ok (.istore 5, 2) := by decide +kernel
theorem dX12_wordOf_18 : decode cX12_wordOf 18 = .ok (.aload_n 0, 1) := by decide +kernel
theorem dX12_wordOf_19 : decode cX12_wordOf 19 = .ok (.getfield 30, 3) := by decide +kernel
theorem dX12_wordOf_22 : decode cX12_wordOf 22 = .ok (.iload 4, 2) := by decide +kernel
theorem dX12_wordOf_24 : decode cX12_wordOf 24 = .ok (.iload 5, 2) := by decide +kernel
theorem dX12_wordOf_26 : decode cX12_wordOf 26 = .ok (.iadd, 1) := by decide +kernel
theorem dX12_wordOf_27 : decode cX12_wordOf 27 = .ok (.baload, 1) := by decide +kernel
theorem dX12_wordOf_28 : decode cX12_wordOf 28 = .ok (.bipush 32, 2) := by decide +kernel
theorem dX12_wordOf_30 : decode cX12_wordOf 30 = .ok (.if_icmp .eq 9, 3) := by decide +kernel
theorem dX12_wordOf_33 : decode cX12_wordOf 33 = .ok (.iinc 5 1, 3) := by decide +kernel
theorem dX12_wordOf_36 : decode cX12_wordOf 36 = .ok (.goto (-18), 3) := by decide +kernel
theorem dX12_wordOf_39 : decode cX12_wordOf 39 = .ok (.iload 5, 2) := by decide +kernel
theorem dX12_wordOf_41 : decode cX12_wordOf 41 = .ok (.iload_n 2, 1) := by decide +kernel
theorem dX12_wordOf_42 : decode cX12_wordOf 42 = .ok (.iload_n 1, 1) := by decide +kernel
theorem dX12_wordOf_43 : decode cX12_wordOf 43 = .ok (.isub, 1) := by decide +kernel
theorem dX12_wordOf_44 : decode cX12_wordOf 44 = .ok (.if_icmp .ne 7, 3) := by decide +kernel
theorem dX12_wordOf_47 : decode cX12_wordOf 47 = .ok (.iconst 1, 1) := by decide +kernel
theorem dX12_wordOf_48 : decode cX12_wordOf 48 = .ok (.goto 4, 3) := by decide +kernel
theorem dX12_wordOf_51 : decode cX12_wordOf 51 = .ok (.iconst 0, 1) := by decide +kernel
theorem dX12_wordOf_52 : decode cX12_wordOf 52 = .ok (.istore 6, 2) := by decide +kernel
theorem dX12_wordOf_54 : decode cX12_wordOf 54 = .ok (.iconst 0, 1) := by decide +kernel
theorem dX12_wordOf_55 : decode cX12_wordOf 55 = .ok (.istore 7, 2) := by decide +kernel
theorem dX12_wordOf_57 : decode cX12_wordOf 57 = .ok (.iload 7, 2) := by decide +kernel
theorem dX12_wordOf_59 : decode cX12_wordOf 59 = .ok (.iload 5, 2) := by decide +kernel
theorem dX12_wordOf_61 : decode cX12_wordOf 61 = .ok (.if_icmp .ge 43, 3) := by decide +kernel
theorem dX12_wordOf_64 : decode cX12_wordOf 64 = .ok (.iload 6, 2) := by decide +kernel
theorem dX12_wordOf_66 : decode cX12_wordOf 66 = .ok (.ifCond .eq 38, 3) := by decide +kernel
theorem dX12_wordOf_69 : decode cX12_wordOf 69 = .ok (.aload_n 0, 1) := by decide +kernel
theorem dX12_wordOf_70 : decode cX12_wordOf 70 = .ok (.getfield 30, 3) := by decide +kernel
theorem dX12_wordOf_73 : decode cX12_wordOf 73 = .ok (.iload 4, 2) := by decide +kernel
theorem dX12_wordOf_75 : decode cX12_wordOf 75 = .ok (.iload 7, 2) := by decide +kernel
theorem dX12_wordOf_77 : decode cX12_wordOf 77 = .ok (.iadd, 1) := by decide +kernel
theorem dX12_wordOf_78 : decode cX12_wordOf 78 = .ok (.baload, 1) := by decide +kernel
theorem dX12_wordOf_79 : decode cX12_wordOf 79 = .ok (.aload_n 0, 1) := by decide +kernel
theorem dX12_wordOf_80 : decode cX12_wordOf 80 = .ok (.getfield 34, 3) := by decide +kernel
theorem dX12_wordOf_83 : decode cX12_wordOf 83 = .ok (.iload_n 1, 1) := by decide +kernel
theorem dX12_wordOf_84 : decode cX12_wordOf 84 = .ok (.iload 7, 2) := by decide +kernel
theorem dX12_wordOf_86 : decode cX12_wordOf 86 = .ok (.iadd, 1) := by decide +kernel
theorem dX12_wordOf_87 : decode cX12_wordOf 87 = .ok (.baload, 1) := by decide +kernel
theorem dX12_wordOf_88 : decode cX12_wordOf 88 = .ok (.if_icmp .ne 7, 3) := by decide +kernel
theorem dX12_wordOf_91 : decode cX12_wordOf 91 = .ok (.iconst 1, 1) := by decide +kernel
theorem dX12_wordOf_92 : decode cX12_wordOf 92 = .ok (.goto 4, 3) := by decide +kernel
theorem dX12_wordOf_95 : decode cX12_wordOf 95 = .ok (.iconst 0, 1) := by decide +kernel
theorem dX12_wordOf_96 : decode cX12_wordOf 96 = .ok (.istore 6, 2) := by decide +kernel
theorem dX12_wordOf_98 : decode cX12_wordOf 98 = .ok (.iinc 7 1, 3) := by decide +kernel
theorem dX12_wordOf_101 : decode cX12_wordOf 101 = .ok (.goto (-44), 3) := by decide +kernel
theorem dX12_wordOf_104 : decode cX12_wordOf 104 = .ok (.iload 6, 2) := by decide +kernel
theorem dX12_wordOf_106 : decode cX12_wordOf 106 = .ok (.ifCond .eq 5, 3) := by decide +kernel
theorem dX12_wordOf_109 : decode cX12_wordOf 109 = .ok (.iload_n 3, 1) := by decide +kernel
theorem dX12_wordOf_110 : decode cX12_wordOf 110 = .ok (.ireturn, 1) := by decide +kernel
theorem dX12_wordOf_111 : decode cX12_wordOf 111 = .ok (.iload 4, 2) := by decide +kernel
theorem dX12_wordOf_113 : decode cX12_wordOf 113 = .ok (.iload 5, 2) := by decide +kernel
theorem dX12_wordOf_115 : decode cX12_wordOf 115 = .ok (.iconst 1, 1) := by decide +kernel
theorem dX12_wordOf_116 : decode cX12_wordOf 116 = .ok (.iadd, 1) := by decide +kernel
theorem dX12_wordOf_117 : decode cX12_wordOf 117 = .ok (.iadd, 1) := by decide +kernel
theorem dX12_wordOf_118 : decode cX12_wordOf 118 = .ok (.istore 4, 2) := by decide +kernel
theorem dX12_wordOf_120 : decode cX12_wordOf 120 = .ok (.iinc 3 1, 3) := by decide +kernel
theorem dX12_wordOf_123 : decode cX12_wordOf 123 = .ok (.goto (-118), 3) := by decide +kernel
theorem dX12_wordOf_126 : decode cX12_wordOf 126 = .ok (.iconst 0, 1) := by decide +kernel
theorem dX12_wordOf_127 : decode cX12_wordOf 127 = .ok (.ireturn, 1) := by decide +kernel
set_option maxHeartbeats 4000000 in
set_option maxRecDepth 100000 in
theorem c_X12_wordOf (l : Launch) (E : Nat → Nat) (D : va_G) (G : th_G) (H0 : Heap) (h0 : Nat) (hG0 : G h0 = some (10, 0)) (x1 : Int32) (x2 : Int32) (hx1 : (0 : Int) ≤ x1.toInt ∧ x1.toInt ≤ 400) (hx2 : (0 : Int) ≤ x2.toInt ∧ x2.toInt ≤ 400) (fi ee : Nat) (hfi : x1.toInt = (fi : Int)) (hee : x2.toInt = (ee : Int)) (hfe : fi ≤ ee) : Met l yX12_wordOf (tb (.code yX12_wordOf cX12_wordOf 8 (some .int))) (rm 0) (va_Pc [.ref h0, .int x1, .int x2] (PR E D G H0)) (QS H0 (fun r => ∃ w : Nat, (r : Int32).toInt = (w : Int) ∧ tk_w (tB E) fi ee w)) 0 0 (fun _ => False) := by
  refine Met.ofW (cc := cX12_wordOf) (maxL := 8) (ret := (some .int)) (by decide) rfl ?_
  intro p e s m args below meth c s₁ B hml hv
  obtain ⟨hav, rfl, hI, hN, hK⟩ := hv
  have hx := B.exec
  have hb := B.bytes
  have hr := B.returns
  have hts := atoms_spec (ws := tb (.code yX12_wordOf cX12_wordOf 8 (some .int))) B.pre
  have hown : s.vm.findClass RX12 = some m.cls := findClass_of_methodNamed B.named
  have hlocks := B.notSynchronized
  have hS : va_S (fun _ => False) s.heap s.heap [] := va_S.rf
  have hl := lv_entry ([.ref h0, .int x1, .int x2]) (n := 8) (Nat.le_of_ble_eq_true rfl)
  rw [show entryFrame m args 8 = entryFrame m ([.ref h0, .int x1, .int x2] : List Value).toArray 8 from by rw [hav], lg_entry_eq]
  generalize (lg_sl ([.ref h0, .int x1, .int x2]) ++ List.replicate (8 - (lg_sl ([.ref h0, .int x1, .int x2])).length) Slot.unset).toArray = ls at hl ⊢
  have hl : lv_has ls 8 [(0, .ref h0), (1, .int x1), (2, .int x2)] := hl
  generalize hR : (headSpec (tb (.code yX12_wordOf cX12_wordOf 8 (some .int))) (rm 0)).room = R
  have hR := hR.symm
  generalize hQ : MQ below (QS s.heap (fun r => ∃ w : Nat, (r : Int32).toInt = (w : Int) ∧ tk_w (tB E) fi ee w)) args s 0 0 (fun _ => False) = QF
  have hQ := hQ.symm
  obtain ⟨q_7, hq_7, hf_7⟩ := fr_of hI hG0 7 (by decide) (kd := (7, 89)) rfl
  obtain ⟨F_7, hA_7, hP_7⟩ := om_7 hI hq_7 List.not_mem_nil
  obtain ⟨q_8, hq_8, hf_8⟩ := fr_of hI hG0 8 (by decide) (kd := (4, 400)) rfl
  obtain ⟨F_8, hA_8, hP_8⟩ := om_4 hI hq_8 List.not_mem_nil
  have J_5 : ∀ (nn : Nat) (locs : List Loc) (ls : Array Slot) (v649 : Int32) (v650 : Int32) (kk : Nat), (Int.toNat (89 - v649.toInt) = nn) → lv_has ls 8 [(4, .int v649), (3, .int v650), (0, .ref h0), (1, .int x1), (2, .int x2)] → ((0 : Int) ≤ v649.toInt ∧ v649.toInt ≤ 89) → ((1 : Int) ≤ v650.toInt ∧ v650.toInt ≤ 18) → ((0 : Int) ≤ x1.toInt ∧ x1.toInt ≤ 400) → ((0 : Int) ≤ x2.toInt ∧ x2.toInt ≤ 400) → (kk ≤ 17) → (v650.toInt = (kk : Int) + 1) → (v649.toInt = (tk_O kk : Int)) → (∀ k' : Nat, k' < kk → ¬ tk_m (tB E) fi ee k') → va_S (fun _ => False) s.heap s.heap locs → W p l e R s m args below meth c s.heap locs 0 0 QF (F0 m 5 ls []) := by
    intro nn
    induction nn using Nat.strongRecOn with
    | ind nn ih_5 =>
      intro locs ls v649 v650 kk hm hl k651 k652 k653 k654 hk17 hk3 hk4 hall hS
      have hkO : (kk < 17 ∧ tk_O kk < 89) ∨ (kk = 17 ∧ tk_O kk = 89) := wd_O hk17
      have J_57 : ∀ (nn : Nat) (locs : List Loc) (ls : Array Slot) (v655 : Int32) (v656 : Int32) (v657 : Int32) (kk : Nat) (ii : Nat), (Int.toNat (v657.toInt - v655.toInt) = nn) → lv_has ls 8 [(7, .int v655), (6, .int v656), (5, .int v657), (4, .int v649), (3, .int v650), (0, .ref h0), (1, .int x1), (2, .int x2)] → ((0 : Int) ≤ v655.toInt ∧ v655.toInt ≤ 88) → ((0 : Int) ≤ v656.toInt ∧ v656.toInt ≤ 1) → ((0 : Int) ≤ v657.toInt ∧ v657.toInt ≤ 88) → ((0 : Int) ≤ v649.toInt ∧ v649.toInt ≤ 88) → (kk < 17) → (v650.toInt = (kk : Int) + 1) → (v649.toInt = (tk_O kk : Int)) → (∀ k' : Nat, k' < kk → ¬ tk_m (tB E) fi ee k') → (v657.toInt = (tk_wl kk : Int)) → (ii ≤ tk_wl kk) → (v655.toInt = (ii : Int)) → (WM_ (tB E) fi ee kk ii (v656.toInt)) → va_S (fun _ => False) s.heap s.heap locs → W p l e R s m args below meth c s.heap locs 0 0 QF (F0 m 57 ls []) := by
        intro nn
        induction nn using Nat.strongRecOn with
        | ind nn ih_57 =>
          intro locs ls v655 v656 v657 kk ii hm hl k660 k661 k662 k663 hkk hk3 hk4 hall hk5 hii hk7 hWM hS
          obtain ⟨hw1, hw2, hw3, hw4, hw5, hw6⟩ := wd_T kk hkk
          refine lv_iload hx hb dX12_wordOf_57 (lv_at hl 0 rfl) ?_
          refine lv_iload hx hb dX12_wordOf_59 (lv_at hl 2 rfl) ?_
          refine lv_icmp_ge (tgt := 104) hx hb dX12_wordOf_61 (by decide) (fun c664 => ?_) (fun c664 => ?_)
          · skip
            have k665 := iv_le (X := v657.toInt) (Y := v655.toInt) rfl rfl c664
            refine lv_iload hx hb dX12_wordOf_104 (lv_at hl 1 rfl) ?_
            refine lv_if_eq (tgt := 111) hx hb dX12_wordOf_106 (by decide) (fun c666 => ?_) (fun c666 => ?_)
            · skip
              have k667 := iv_eq (X := v656.toInt) (Y := (0)) rfl (by decide) c666
              refine lv_iload hx hb dX12_wordOf_111 (lv_at hl 3 rfl) ?_
              refine lv_iload hx hb dX12_wordOf_113 (lv_at hl 2 rfl) ?_
              refine lv_iconst (v := 1) hx hb dX12_wordOf_115 (by decide) ?_
              refine lv_iadd hx hb dX12_wordOf_116 ?_
              refine lv_topi (fun v668 e669 => ?_)
              have tv668 : v668.toInt = v657.toInt + (1) := iv_add rfl (by decide) e669 (by omega) (by omega)
              refine lv_iadd hx hb dX12_wordOf_117 ?_
              refine lv_topi (fun v670 e671 => ?_)
              have tv670 : v670.toInt = v649.toInt + v668.toInt := iv_add rfl rfl e671 (by omega) (by omega)
              refine lv_istore (lv' := [(4, .int v670), (7, .int v655), (6, .int v656), (5, .int v657), (3, .int v650), (0, .ref h0), (1, .int x1), (2, .int x2)]) hx hb dX12_wordOf_118 hl (by decide) rfl (fun ls hl => ?_)
              obtain ⟨v672, e673⟩ : ∃ y : Int32, y = v650 + (1) := ⟨_, rfl⟩
              have tv672 : v672.toInt = v650.toInt + (1) := iv_add rfl (by decide) e673 (by omega) (by omega)
              refine lv_iinc (v := v672) (lv' := [(3, .int v672), (4, .int v670), (7, .int v655), (6, .int v656), (5, .int v657), (0, .ref h0), (1, .int x1), (2, .int x2)]) hx hb dX12_wordOf_120 hl (k := 4) rfl (by rw [e673]; rfl) (by decide) rfl (fun ls hl => ?_)
              refine lv_goto (tgt := 5) hx hb dX12_wordOf_123 (by decide) ?_
              exact ih_5 _ (by omega) locs ls v670 v672 (kk + 1) rfl (lv_sub hl [1, 0, 5, 6, 7] rfl) ⟨by omega, by omega⟩ ⟨by omega, by omega⟩ ⟨by omega, by omega⟩ ⟨by omega, by omega⟩ (by omega) (by first | omega | decide) (by first | omega | decide) (tk_nx hall (WM_.not hWM (by omega))) hS
            · skip
              have k674 := iv_ne (X := v656.toInt) (Y := (0)) rfl (by decide) c666
              refine lv_iload_n hx hb dX12_wordOf_109 rfl (lv_at hl 4 rfl) ?_
              have hpost : ∃ w : Nat, (v650 : Int32).toInt = (w : Int) ∧ tk_w (tB E) fi ee w := ⟨kk + 1, by omega, Or.inl ⟨kk, hkk, WM_.done hWM (by omega) (by omega), hall, rfl⟩⟩
              rw [hQ]
              exact W.iret (v := v650) hx hb hr (fun t ht hW => ⟨⟨v650, (), rfl, hpost, ht⟩, hS.F ht⟩) hS.2.2 dX12_wordOf_110
          · skip
            have k675 := iv_nle (X := v657.toInt) (Y := v655.toInt) rfl rfl c664
            refine lv_iload hx hb dX12_wordOf_64 (lv_at hl 1 rfl) ?_
            refine lv_if_eq (tgt := 104) hx hb dX12_wordOf_66 (by decide) (fun c676 => ?_) (fun c676 => ?_)
            · skip
              have k677 := iv_eq (X := v656.toInt) (Y := (0)) rfl (by decide) c676
              refine lv_iload hx hb dX12_wordOf_104 (lv_at hl 1 rfl) ?_
              refine lv_if_eq (tgt := 111) hx hb dX12_wordOf_106 (by decide) (fun c678 => ?_) (fun c678 => ?_)
              · skip
                have k679 := iv_eq (X := v656.toInt) (Y := (0)) rfl (by decide) c678
                refine lv_iload hx hb dX12_wordOf_111 (lv_at hl 3 rfl) ?_
                refine lv_iload hx hb dX12_wordOf_113 (lv_at hl 2 rfl) ?_
                refine lv_iconst (v := 1) hx hb dX12_wordOf_115 (by decide) ?_
                refine lv_iadd hx hb dX12_wordOf_116 ?_
                refine lv_topi (fun v680 e681 => ?_)
                have tv680 : v680.toInt = v657.toInt + (1) := iv_add rfl (by decide) e681 (by omega) (by omega)
                refine lv_iadd hx hb dX12_wordOf_117 ?_
                refine lv_topi (fun v682 e683 => ?_)
                have tv682 : v682.toInt = v649.toInt + v680.toInt := iv_add rfl rfl e683 (by omega) (by omega)
                refine lv_istore (lv' := [(4, .int v682), (7, .int v655), (6, .int v656), (5, .int v657), (3, .int v650), (0, .ref h0), (1, .int x1), (2, .int x2)]) hx hb dX12_wordOf_118 hl (by decide) rfl (fun ls hl => ?_)
                obtain ⟨v684, e685⟩ : ∃ y : Int32, y = v650 + (1) := ⟨_, rfl⟩
                have tv684 : v684.toInt = v650.toInt + (1) := iv_add rfl (by decide) e685 (by omega) (by omega)
                refine lv_iinc (v := v684) (lv' := [(3, .int v684), (4, .int v682), (7, .int v655), (6, .int v656), (5, .int v657), (0, .ref h0), (1, .int x1), (2, .int x2)]) hx hb dX12_wordOf_120 hl (k := 4) rfl (by rw [e685]; rfl) (by decide) rfl (fun ls hl => ?_)
                refine lv_goto (tgt := 5) hx hb dX12_wordOf_123 (by decide) ?_
                exact ih_5 _ (by omega) locs ls v682 v684 (kk + 1) rfl (lv_sub hl [1, 0, 5, 6, 7] rfl) ⟨by omega, by omega⟩ ⟨by omega, by omega⟩ ⟨by omega, by omega⟩ ⟨by omega, by omega⟩ (by omega) (by first | omega | decide) (by first | omega | decide) (tk_nx hall (WM_.not hWM (by omega))) hS
              · skip
                have k686 := iv_ne (X := v656.toInt) (Y := (0)) rfl (by decide) c678
                exfalso; omega
            · skip
              have k687 := iv_ne (X := v656.toInt) (Y := (0)) rfl (by decide) c676
              have hln := WM_.len hWM (by omega)
              have hw7 := hw6 ii (by omega)
              refine lv_aload_n hx hb dX12_wordOf_69 rfl (lv_at hl 5 rfl) ?_
              refine gmA hx hb hts inT12 hown hK hI List.not_mem_nil hG0 7 (by decide) (hts _ (tb_c wd_1240)) rfl rfl dX12_wordOf_70 (fun a688 hq689 hf690 => ?_)
              obtain rfl := fr.uniq (by decide) hf_7 hf690
              refine lv_iload hx hb dX12_wordOf_73 (lv_at hl 3 rfl) ?_
              refine lv_iload hx hb dX12_wordOf_75 (lv_at hl 0 rfl) ?_
              refine lv_iadd hx hb dX12_wordOf_77 ?_
              refine lv_topi (fun v691 e692 => ?_)
              have tv691 : v691.toInt = v649.toInt + v655.toInt := iv_add rfl rfl e692 (by omega) (by omega)
              refine va_bald hx hb hK (th_one hA_7) 0 3 rfl rfl (iv_in (X := v691.toInt) rfl (by omega) (by omega)) dX12_wordOf_78 ?_
              refine lv_topi (fun v693 e694 => ?_)
              have k695 := wd_at hP_7 e694 (p := (tk_O kk + ii)) (by omega) (by omega)
              refine lv_aload_n hx hb dX12_wordOf_79 rfl (lv_at hl 5 rfl) ?_
              refine gmA hx hb hts inT12 hown hK hI List.not_mem_nil hG0 8 (by decide) (hts _ (tb_c wd_1241)) rfl rfl dX12_wordOf_80 (fun a696 hq697 hf698 => ?_)
              obtain rfl := fr.uniq (by decide) hf_8 hf698
              refine lv_iload_n hx hb dX12_wordOf_83 rfl (lv_at hl 6 rfl) ?_
              refine lv_iload hx hb dX12_wordOf_84 (lv_at hl 0 rfl) ?_
              refine lv_iadd hx hb dX12_wordOf_86 ?_
              refine lv_topi (fun v699 e700 => ?_)
              have tv699 : v699.toInt = x1.toInt + v655.toInt := iv_add rfl rfl e700 (by omega) (by omega)
              refine va_bald hx hb hK (th_one hA_8) 0 3 rfl rfl (iv_in (X := v699.toInt) rfl (by omega) (by omega)) dX12_wordOf_87 ?_
              refine lv_topi (fun v701 e702 => ?_)
              have k703 := tp_at hP_8 e702 (p := (fi + ii)) (by omega) (by omega)
              have k704 := iv_lo v693
              have k705 := iv_hi v693
              have k706 := iv_lo v701
              have k707 := iv_hi v701
              refine lv_icmp_ne (tgt := 95) hx hb dX12_wordOf_88 (by decide) (fun c708 => ?_) (fun c708 => ?_)
              · skip
                have k709 := iv_ne (X := v693.toInt) (Y := v701.toInt) rfl rfl c708
                refine lv_iconst (v := 0) hx hb dX12_wordOf_95 (by decide) ?_
                refine lv_istore (lv' := [(6, .int 0), (7, .int v655), (5, .int v657), (4, .int v649), (3, .int v650), (0, .ref h0), (1, .int x1), (2, .int x2)]) hx hb dX12_wordOf_96 hl (by decide) rfl (fun ls hl => ?_)
                obtain ⟨v710, e711⟩ : ∃ y : Int32, y = v655 + (1) := ⟨_, rfl⟩
                have tv710 : v710.toInt = v655.toInt + (1) := iv_add rfl (by decide) e711 (by omega) (by omega)
                refine lv_iinc (v := v710) (lv' := [(7, .int v710), (6, .int 0), (5, .int v657), (4, .int v649), (3, .int v650), (0, .ref h0), (1, .int x1), (2, .int x2)]) hx hb dX12_wordOf_98 hl (k := 1) rfl (by rw [e711]; rfl) (by decide) rfl (fun ls hl => ?_)
                refine lv_goto (tgt := 57) hx hb dX12_wordOf_101 (by decide) ?_
                exact ih_57 _ (by omega) locs ls v710 0 v657 kk (ii + 1) rfl (lv_sub hl [0, 1, 2, 3, 4, 5, 6, 7] rfl) ⟨by omega, by omega⟩ ⟨by decide, by decide⟩ ⟨by omega, by omega⟩ ⟨by omega, by omega⟩ (hkk) (by omega) (by omega) (hall) (by omega) (by omega) (by first | omega | decide) ((by rw [show (0 : Int32).toInt = 0 from by decide]; exact WM_.dif (by omega) (by omega))) hS
              · skip
                have k712 := iv_eq (X := v693.toInt) (Y := v701.toInt) rfl rfl c708
                refine lv_iconst (v := 1) hx hb dX12_wordOf_91 (by decide) ?_
                refine lv_goto (tgt := 96) hx hb dX12_wordOf_92 (by decide) ?_
                refine lv_istore (lv' := [(6, .int 1), (7, .int v655), (5, .int v657), (4, .int v649), (3, .int v650), (0, .ref h0), (1, .int x1), (2, .int x2)]) hx hb dX12_wordOf_96 hl (by decide) rfl (fun ls hl => ?_)
                obtain ⟨v713, e714⟩ : ∃ y : Int32, y = v655 + (1) := ⟨_, rfl⟩
                have tv713 : v713.toInt = v655.toInt + (1) := iv_add rfl (by decide) e714 (by omega) (by omega)
                refine lv_iinc (v := v713) (lv' := [(7, .int v713), (6, .int 1), (5, .int v657), (4, .int v649), (3, .int v650), (0, .ref h0), (1, .int x1), (2, .int x2)]) hx hb dX12_wordOf_98 hl (k := 1) rfl (by rw [e714]; rfl) (by decide) rfl (fun ls hl => ?_)
                refine lv_goto (tgt := 57) hx hb dX12_wordOf_101 (by decide) ?_
                exact ih_57 _ (by omega) locs ls v713 1 v657 kk (ii + 1) rfl (lv_sub hl [0, 1, 2, 3, 4, 5, 6, 7] rfl) ⟨by omega, by omega⟩ ⟨by decide, by decide⟩ ⟨by omega, by omega⟩ ⟨by omega, by omega⟩ (hkk) (by omega) (by omega) (hall) (by omega) (by omega) (by first | omega | decide) ((by rw [show (1 : Int32).toInt = 1 from by decide]; exact WM_.yes hWM (by omega) (by omega))) hS
      have J_18 : ∀ (nn : Nat) (locs : List Loc) (ls : Array Slot) (v715 : Int32) (kk : Nat) (nq : Nat), (Int.toNat (88 - v715.toInt) = nn) → lv_has ls 8 [(5, .int v715), (4, .int v649), (3, .int v650), (0, .ref h0), (1, .int x1), (2, .int x2)] → ((0 : Int) ≤ v715.toInt ∧ v715.toInt ≤ 88) → ((0 : Int) ≤ v649.toInt ∧ v649.toInt ≤ 88) → (kk < 17) → (v650.toInt = (kk : Int) + 1) → (v649.toInt = (tk_O kk : Int)) → (∀ k' : Nat, k' < kk → ¬ tk_m (tB E) fi ee k') → (nq ≤ tk_wl kk) → (v715.toInt = (nq : Int)) → va_S (fun _ => False) s.heap s.heap locs → W p l e R s m args below meth c s.heap locs 0 0 QF (F0 m 18 ls []) := by
        intro nn
        induction nn using Nat.strongRecOn with
        | ind nn ih_18 =>
          intro locs ls v715 kk nq hm hl k718 k719 hkk hk3 hk4 hall hnn hk5 hS
          obtain ⟨hw1, hw2, hw3, hw4, hw5, hw6⟩ := wd_T kk hkk
          have hw18 := wd_e18 hkk hnn
          refine lv_aload_n hx hb dX12_wordOf_18 rfl (lv_at hl 3 rfl) ?_
          refine gmA hx hb hts inT12 hown hK hI List.not_mem_nil hG0 7 (by decide) (hts _ (tb_c wd_1240)) rfl rfl dX12_wordOf_19 (fun a720 hq721 hf722 => ?_)
          obtain rfl := fr.uniq (by decide) hf_7 hf722
          refine lv_iload hx hb dX12_wordOf_22 (lv_at hl 1 rfl) ?_
          refine lv_iload hx hb dX12_wordOf_24 (lv_at hl 0 rfl) ?_
          refine lv_iadd hx hb dX12_wordOf_26 ?_
          refine lv_topi (fun v723 e724 => ?_)
          have tv723 : v723.toInt = v649.toInt + v715.toInt := iv_add rfl rfl e724 (by omega) (by omega)
          refine va_bald hx hb hK (th_one hA_7) 0 3 rfl rfl (iv_in (X := v723.toInt) rfl (by omega) (by omega)) dX12_wordOf_27 ?_
          refine lv_topi (fun v725 e726 => ?_)
          have k727 := wd_at hP_7 e726 (p := (tk_O kk + nq)) (by omega) (by omega)
          refine lv_bipush (v := 32) hx hb dX12_wordOf_28 (by decide) ?_
          have k728 := iv_lo v725
          have k729 := iv_hi v725
          refine lv_icmp_eq (tgt := 39) hx hb dX12_wordOf_30 (by decide) (fun c730 => ?_) (fun c730 => ?_)
          · skip
            have k731 := iv_eq (X := v725.toInt) (Y := (32)) rfl (by decide) c730
            refine lv_iload hx hb dX12_wordOf_39 (lv_at hl 0 rfl) ?_
            refine lv_iload_n hx hb dX12_wordOf_41 rfl (lv_at hl 5 rfl) ?_
            refine lv_iload_n hx hb dX12_wordOf_42 rfl (lv_at hl 4 rfl) ?_
            refine lv_isub hx hb dX12_wordOf_43 ?_
            refine lv_topi (fun v732 e733 => ?_)
            have tv732 : v732.toInt = x2.toInt - x1.toInt := iv_sub rfl rfl e733 (by omega) (by omega)
            refine lv_icmp_ne (tgt := 51) hx hb dX12_wordOf_44 (by decide) (fun c734 => ?_) (fun c734 => ?_)
            · skip
              have k735 := iv_ne (X := v715.toInt) (Y := v732.toInt) rfl rfl c734
              refine lv_iconst (v := 0) hx hb dX12_wordOf_51 (by decide) ?_
              refine lv_istore (lv' := [(6, .int 0), (5, .int v715), (4, .int v649), (3, .int v650), (0, .ref h0), (1, .int x1), (2, .int x2)]) hx hb dX12_wordOf_52 hl (by decide) rfl (fun ls hl => ?_)
              refine lv_iconst (v := 0) hx hb dX12_wordOf_54 (by decide) ?_
              refine lv_istore (lv' := [(7, .int 0), (6, .int 0), (5, .int v715), (4, .int v649), (3, .int v650), (0, .ref h0), (1, .int x1), (2, .int x2)]) hx hb dX12_wordOf_55 hl (by decide) rfl (fun ls hl => ?_)
              have zl : (0 : Int32).toInt = 0 := by decide
              exact J_57 _ locs ls 0 0 v715 kk 0 rfl (lv_sub hl [0, 1, 2, 3, 4, 5, 6, 7] rfl) ⟨by decide, by decide⟩ ⟨by decide, by decide⟩ ⟨by omega, by omega⟩ ⟨by omega, by omega⟩ (hkk) (by omega) (by omega) (hall) (by omega) (by omega) (by first | omega | decide) ((by rw [show (0 : Int32).toInt = 0 from by decide]; exact WM_.no (by omega))) hS
            · skip
              have k736 := iv_eq (X := v715.toInt) (Y := v732.toInt) rfl rfl c734
              refine lv_iconst (v := 1) hx hb dX12_wordOf_47 (by decide) ?_
              refine lv_goto (tgt := 52) hx hb dX12_wordOf_48 (by decide) ?_
              refine lv_istore (lv' := [(6, .int 1), (5, .int v715), (4, .int v649), (3, .int v650), (0, .ref h0), (1, .int x1), (2, .int x2)]) hx hb dX12_wordOf_52 hl (by decide) rfl (fun ls hl => ?_)
              refine lv_iconst (v := 0) hx hb dX12_wordOf_54 (by decide) ?_
              refine lv_istore (lv' := [(7, .int 0), (6, .int 1), (5, .int v715), (4, .int v649), (3, .int v650), (0, .ref h0), (1, .int x1), (2, .int x2)]) hx hb dX12_wordOf_55 hl (by decide) rfl (fun ls hl => ?_)
              have zl : (0 : Int32).toInt = 0 := by decide
              exact J_57 _ locs ls 0 1 v715 kk 0 rfl (lv_sub hl [0, 1, 2, 3, 4, 5, 6, 7] rfl) ⟨by decide, by decide⟩ ⟨by decide, by decide⟩ ⟨by omega, by omega⟩ ⟨by omega, by omega⟩ (hkk) (by omega) (by omega) (hall) (by omega) (by omega) (by first | omega | decide) ((by rw [show (1 : Int32).toInt = 1 from by decide]; exact WM_.ini (by omega))) hS
          · skip
            have k737 := iv_ne (X := v725.toInt) (Y := (32)) rfl (by decide) c730
            obtain ⟨v738, e739⟩ : ∃ y : Int32, y = v715 + (1) := ⟨_, rfl⟩
            have tv738 : v738.toInt = v715.toInt + (1) := iv_add rfl (by decide) e739 (by omega) (by omega)
            refine lv_iinc (v := v738) (lv' := [(5, .int v738), (4, .int v649), (3, .int v650), (0, .ref h0), (1, .int x1), (2, .int x2)]) hx hb dX12_wordOf_33 hl (k := 0) rfl (by rw [e739]; rfl) (by decide) rfl (fun ls hl => ?_)
            refine lv_goto (tgt := 18) hx hb dX12_wordOf_36 (by decide) ?_
            exact ih_18 _ (by omega) locs ls v738 kk (nq + 1) rfl (lv_sub hl [0, 1, 2, 3, 4, 5] rfl) ⟨by omega, by omega⟩ ⟨by omega, by omega⟩ (by omega) (by omega) (by omega) (hall) (by omega) (by first | omega | decide) hS
      refine lv_iload hx hb dX12_wordOf_5 (lv_at hl 0 rfl) ?_
      refine lv_aload_n hx hb dX12_wordOf_7 rfl (lv_at hl 2 rfl) ?_
      refine gmA hx hb hts inT12 hown hK hI List.not_mem_nil hG0 7 (by decide) (hts _ (tb_c wd_1240)) rfl rfl dX12_wordOf_8 (fun a740 hq741 hf742 => ?_)
      obtain rfl := fr.uniq (by decide) hf_7 hf742
      refine va_alen hx hb hK (th_one hA_7) 0 3 rfl (v := 89) rfl (show Int32.ofNat 89 = (89 : Int32) from by decide) dX12_wordOf_11 ?_
      refine lv_icmp_ge (tgt := 126) hx hb dX12_wordOf_12 (by decide) (fun c743 => ?_) (fun c743 => ?_)
      · skip
        have k744 := iv_le (X := (89)) (Y := v649.toInt) (by decide) rfl c743
        refine lv_iconst (v := 0) hx hb dX12_wordOf_126 (by decide) ?_
        have hpost : ∃ w : Nat, (0 : Int32).toInt = (w : Int) ∧ tk_w (tB E) fi ee w := ⟨0, by decide, Or.inr ⟨fun k z => hall k (by omega), rfl⟩⟩
        rw [hQ]
        exact W.iret (v := 0) hx hb hr (fun t ht hW => ⟨⟨0, (), rfl, hpost, ht⟩, hS.F ht⟩) hS.2.2 dX12_wordOf_127
      · skip
        have k745 := iv_nle (X := (89)) (Y := v649.toInt) (by decide) rfl c743
        have hkk : kk < 17 := by omega
        refine lv_iconst (v := 0) hx hb dX12_wordOf_15 (by decide) ?_
        refine lv_istore (lv' := [(5, .int 0), (4, .int v649), (3, .int v650), (0, .ref h0), (1, .int x1), (2, .int x2)]) hx hb dX12_wordOf_16 hl (by decide) rfl (fun ls hl => ?_)
        have zl : (0 : Int32).toInt = 0 := by decide
        exact J_18 _ locs ls 0 kk 0 rfl (lv_sub hl [0, 1, 2, 3, 4, 5] rfl) ⟨by decide, by decide⟩ ⟨by omega, by omega⟩ (by omega) (by omega) (by omega) (hall) (by omega) (by first | omega | decide) hS
  refine lv_iconst (v := 1) hx hb dX12_wordOf_0 (by decide) ?_
  refine lv_istore_n (lv' := [(3, .int 1), (0, .ref h0), (1, .int x1), (2, .int x2)]) hx hb dX12_wordOf_1 rfl hl (by decide) rfl (fun ls hl => ?_)
  refine lv_iconst (v := 0) hx hb dX12_wordOf_2 (by decide) ?_
  refine lv_istore (lv' := [(4, .int 0), (3, .int 1), (0, .ref h0), (1, .int x1), (2, .int x2)]) hx hb dX12_wordOf_3 hl (by decide) rfl (fun ls hl => ?_)
  have zl : (0 : Int32).toInt = 0 := by decide
  exact J_5 _ [] ls 0 1 0 rfl (lv_sub hl [0, 1, 2, 3, 4] rfl) ⟨by decide, by decide⟩ ⟨by decide, by decide⟩ ⟨by omega, by omega⟩ ⟨by omega, by omega⟩ (by omega) (by first | omega | decide) (by first | omega | decide) (fun _ z => absurd z (Nat.not_lt_zero _)) hS
theorem dX12_splits_0 : decode cX12_splits 0 = .ok (.aload_n 0, 1) := by decide +kernel
theorem dX12_splits_1 : decode cX12_splits 1 = .ok (.iconst 0, 1) := by decide +kernel
theorem dX12_splits_2 : decode cX12_splits 2 = .ok (.putfield 145, 3) := by decide +kernel
theorem dX12_splits_5 : decode cX12_splits 5 = .ok (.iconst 0, 1) := by decide +kernel
theorem dX12_splits_6 : decode cX12_splits 6 = .ok (.istore_n 2, 1) := by decide +kernel
theorem dX12_splits_7 : decode cX12_splits 7 = .ok (.iload_n 2, 1) := by decide +kernel
theorem dX12_splits_8 : decode cX12_splits 8 = .ok (.iload_n 1, 1) := by decide +kernel
theorem dX12_splits_9 : decode cX12_splits 9 = .ok (.if_icmp .ge 254, 3) := by decide +kernel
theorem dX12_splits_12 : decode cX12_splits 12 = .ok (.aload_n 0, 1) := by decide +kernel
theorem dX12_splits_13 : decode cX12_splits 13 = .ok (.getfield 34, 3) := by decide +kernel
theorem dX12_splits_16 : decode cX12_splits 16 = .ok (.iload_n 2, 1) := by decide +kernel
theorem dX12_splits_17 : decode cX12_splits 17 = .ok (.baload, 1) := by decide +kernel
theorem dX12_splits_18 : decode cX12_splits 18 = .ok (.istore_n 3, 1) := by decide +kernel
theorem dX12_splits_19 : decode cX12_splits 19 = .ok (.iload_n 3, 1) := by decide +kernel
theorem dX12_splits_20 : decode cX12_splits 20 = .ok (.bipush 32, 2) := by decide +kernel
theorem dX12_splits_22 : decode cX12_splits 22 = .ok (.if_icmp .ne 9, 3) := by decide +kernel
theorem dX12_splits_25 : decode cX12_splits 25 = .ok (.iinc 2 1, 3) := by decide +kernel
theorem dX12_splits_28 : decode cX12_splits 28 = .ok (.goto (-21), 3) := by decide +kernel
theorem dX12_splits_31 : decode cX12_splits 31 = .ok (.iload_n 2, 1) := by decide +kernel
theorem dX12_splits_32 : decode cX12_splits 32 = .ok (.iconst 1, 1) := by decide +kernel
theorem dX12_splits_33 : decode cX12_splits 33 = .ok (.iadd, 1) := by decide +kernel
theorem dX12_splits_34 : decode cX12_splits 34 = .ok (.istore 4, 2) := by decide +kernel
theorem dX12_splits_36 : decode cX12_splits 36 = .ok (.iload_n 3, 1) := by decide +kernel
theorem dX12_splits_37 : decode cX12_splits 37 = .ok (.invokestatic 148, 3) := by decide +kernel
theorem dX12_splits_40 : decode cX12_splits 40 = .ok (.ifCond .eq 28, 3) := by decide +kernel
theorem dX12_splits_43 : decode cX12_splits 43 = .ok (.iload 4, 2) := by decide +kernel
theorem dX12_splits_45 : decode cX12_splits 45 = .ok (.iload_n 1, 1) := by decide +kernel
theorem dX12_splits_46 : decode cX12_splits 46 = .ok (.if_icmp .ge 22, 3) := by decide +kernel
theorem dX12_splits_49 : decode cX12_splits 49 = .ok (.aload_n 0, 1) := by decide +kernel
theorem dX12_splits_50 : decode cX12_splits 50 = .ok (.getfield 34, 3) := by decide +kernel
theorem dX12_splits_53 : decode cX12_splits 53 = .ok (.iload 4, 2) := by decide +kernel
theorem dX12_splits_55 : decode cX12_splits 55 = .ok (.baload, 1) := by decide +kernel
theorem dX12_splits_56 : decode cX12_splits 56 = .ok (.invokestatic 148, 3) := by decide +kernel
theorem dX12_splits_59 : decode cX12_splits 59 = .ok (.ifCond .eq 9, 3) := by decide +kernel
theorem dX12_splits_62 : decode cX12_splits 62 = .ok (.iinc 4 1, 3) := by decide +kernel
theorem dX12_splits_65 : decode cX12_splits 65 = .ok (.goto (-22), 3) := by decide +kernel
theorem dX12_splits_68 : decode cX12_splits 68 = .ok (.iload_n 3, 1) := by decide +kernel
theorem dX12_splits_69 : decode cX12_splits 69 = .ok (.invokestatic 151, 3) := by decide +kernel
theorem dX12_splits_72 : decode cX12_splits 72 = .ok (.ifCond .eq 28, 3) := by decide +kernel
theorem dX12_splits_75 : decode cX12_splits 75 = .ok (.iload 4, 2) := by decide +kernel
theorem dX12_splits_77 : decode cX12_splits 77 = .ok (.iload_n 1, 1) := by decide +kernel
theorem dX12_splits_78 : decode cX12_splits 78 = .ok (.if_icmp .ge 22, 3) := by decide +kernel
theorem dX12_splits_81 : decode cX12_splits 81 = .ok (.aload_n 0, 1) := by decide +kernel
theorem dX12_splits_82 : decode cX12_splits 82 = .ok (.getfield 34, 3) := by decide +kernel
theorem dX12_splits_85 : decode cX12_splits 85 = .ok (.iload 4, 2) := by decide +kernel
theorem dX12_splits_87 : decode cX12_splits 87 = .ok (.baload, 1) := by decide +kernel
theorem dX12_splits_88 : decode cX12_splits 88 = .ok (.invokestatic 151, 3) := by decide +kernel
theorem dX12_splits_91 : decode cX12_splits 91 = .ok (.ifCond .eq 9, 3) := by decide +kernel
theorem dX12_splits_94 : decode cX12_splits 94 = .ok (.iinc 4 1, 3) := by decide +kernel
theorem dX12_splits_97 : decode cX12_splits 97 = .ok (.goto (-22), 3) := by decide +kernel
theorem dX12_splits_100 : decode cX12_splits 100 = .ok (.aload_n 0, 1) := by decide +kernel
theorem dX12_splits_101 : decode cX12_splits 101 = .ok (.getfield 49, 3) := by decide +kernel
theorem dX12_splits_104 : decode cX12_splits 104 = .ok (.aload_n 0, 1) := by decide +kernel
theorem dX12_splits_105 : decode cX12_splits 105 = .ok (.getfield 145, 3) := by decide +kernel
theorem dX12_splits_108 : decode cX12_splits 108 = .ok (.iload_n 2, 1) := by decide +kernel
theorem dX12_splits_109 : decode cX12_splits 109 = .ok (.iastore, 1) := by decide +kernel
theorem dX12_splits_110 : decode cX12_splits 110 = .ok (.aload_n 0, 1) := by decide +kernel
theorem dX12_splits_111 : decode cX12_splits 111 = .ok (.getfield 46, 3) := by decide +kernel
theorem dX12_splits_114 : decode cX12_splits 114 = .ok (.aload_n 0, 1) := by decide +kernel
theorem dX12_splits_115 : decode cX12_splits 115 = .ok (.getfield 145, 3) := by decide +kernel
theorem dX12_splits_118 : decode cX12_splits 118 = .ok (.iconst 0, 1) := by decide +kernel
theorem dX12_splits_119 : decode cX12_splits 119 = .ok (.iastore, 1) := by decide +kernel
theorem dX12_splits_120 : decode cX12_splits 120 = .ok (.aload_n 0, 1) := by decide +kernel
theorem dX12_splits_121 : decode cX12_splits 121 = .ok (.getfield 43, 3) := by decide +kernel
theorem dX12_splits_124 : decode cX12_splits 124 = .ok (.aload_n 0, 1) := by decide +kernel
theorem dX12_splits_125 : decode cX12_splits 125 = .ok (.getfield 145, 3) := by decide +kernel
theorem dX12_splits_128 : decode cX12_splits 128 = .ok (.iload_n 3, 1) := by decide +kernel
theorem dX12_splits_129 : decode cX12_splits 129 = .ok (.invokestatic 148, 3) := by decide +kernel
theorem dX12_splits_132 : decode cX12_splits 132 = .ok (.ifCond .eq 13, 3) := by decide +kernel
theorem dX12_splits_135 : decode cX12_splits 135 = .ok (.aload_n 0, 1) := by decide +kernel
theorem dX12_splits_136 : decode cX12_splits 136 = .ok (.iload_n 2, 1) := by decide +kernel
theorem dX12_splits_137 : decode cX12_splits 137 = .ok (.iload 4, 2) := by decide +kernel
theorem dX12_splits_139 : decode cX12_splits 139 = .ok (.invokevirtual 154, 3) := by decide +kernel
theorem dX12_splits_142 : decode cX12_splits 142 = .ok (.goto 23, 3) := by decide +kernel
theorem dX12_splits_145 : decode cX12_splits 145 = .ok (.iload_n 3, 1) := by decide +kernel
theorem dX12_splits_146 : decode cX12_splits 146 = .ok (.invokestatic 151, 3) := by decide +kernel
theorem dX12_splits_149 : decode cX12_splits 149 = .ok (.ifCond .eq 8, 3) := by decide +kernel
theorem dX12_splits_152 : decode cX12_splits 152 = .ok (.bipush 50, 2) := by decide +kernel
theorem dX12_splits_154 : decode cX12_splits 154 = .ok (.goto 11, 3) := by decide +kernel
theorem dX12_splits_157 : decode cX12_splits 157 = .ok (.bipush 100, 2) := by decide +kernel
theorem dX12_splits_159 : decode cX12_splits 159 = .ok (.iload_n 3, 1) := by decide +kernel
theorem dX12_splits_160 : decode cX12_splits 160 = .ok (.sipush 255, 3) := by decide +kernel
theorem dX12_splits_163 : decode cX12_splits 163 = .ok (.iand, 1) := by decide +kernel
theorem dX12_splits_164 : decode cX12_splits 164 = .ok (.iadd, 1) := by decide +kernel
theorem dX12_splits_165 : decode cX12_splits 165 = .ok (.iastore, 1) := by decide +kernel
theorem dX12_splits_166 : decode cX12_splits 166 = .ok (.iload_n 2, 1) := by decide +kernel
theorem dX12_splits_167 : decode cX12_splits 167 = .ok (.istore 5, 2) := by decide +kernel
theorem dX12_splits_169 : decode cX12_splits 169 = .ok (.iload 5, 2) := by decide +kernel
theorem dX12_splits_171 : decode cX12_splits 171 = .ok (.iload 4, 2) := by decide +kernel
theorem dX12_splits_173 : decode cX12_splits 173 = .ok (.if_icmp .ge 74, 3) := by decide +kernel
theorem dX12_splits_176 : decode cX12_splits 176 = .ok (.iload_n 3, 1) := by decide +kernel
theorem dX12_splits_177 : decode cX12_splits 177 = .ok (.invokestatic 151, 3) := by decide +kernel
theorem dX12_splits_180 : decode cX12_splits 180 = .ok (.ifCond .eq 67, 3) := by decide +kernel
theorem dX12_splits_183 : decode cX12_splits 183 = .ok (.aload_n 0, 1) := by decide +kernel
theorem dX12_splits_184 : decode cX12_splits 184 = .ok (.getfield 46, 3) := by decide +kernel
theorem dX12_splits_187 : decode cX12_splits 187 = .ok (.aload_n 0, 1) := by decide +kernel
theorem dX12_splits_188 : decode cX12_splits 188 = .ok (.getfield 145, 3) := by decide +kernel
theorem dX12_splits_191 : decode cX12_splits 191 = .ok (.aload_n 0, 1) := by decide +kernel
theorem dX12_splits_192 : decode cX12_splits 192 = .ok (.getfield 46, 3) := by decide +kernel
theorem dX12_splits_195 : decode cX12_splits 195 = .ok (.aload_n 0, 1) := by decide +kernel
theorem dX12_splits_196 : decode cX12_splits 196 = .ok (.getfield 145, 3) := by decide +kernel
theorem dX12_splits_199 : decode cX12_splits 199 = .ok (.iaload, 1) := by decide +kernel
theorem dX12_splits_200 : decode cX12_splits 200 = .ok (.ldc 158, 2) := by decide +kernel
theorem dX12_splits_202 : decode cX12_splits 202 = .ok (.if_icmp .le 15, 3) := by decide +kernel
theorem dX12_splits_205 : decode cX12_splits 205 = .ok (.aload_n 0, 1) := by decide +kernel
theorem dX12_splits_206 : decode cX12_splits 206 = .ok (.getfield 46, 3) := by decide +kernel
theorem dX12_splits_209 : decode cX12_splits 209 = .ok (.aload_n 0, 1) := by decide +kernel
theorem dX12_splits_210 : decode cX12_splits 210 = .ok (.getfield 145, 3) := by decide +kernel
theorem dX12_splits_213 : decode cX12_splits 213 = .ok (.iaload, 1) := by decide +kernel
theorem dX12_splits_214 : decode cX12_splits 214 = .ok (.goto 26, 3) := by decide +kernel
theorem dX12_splits_217 : decode cX12_splits 217 = .ok (.bipush 10, 2) := by decide +kernel
theorem dX12_splits_219 : decode cX12_splits 219 = .ok (.aload_n 0, 1) := by decide +kernel
theorem dX12_splits_220 : decode cX12_splits 220 = .ok (.getfield 46, 3) := by decide +kernel
theorem dX12_splits_223 : decode cX12_splits 223 = .ok (.aload_n 0, 1) := by decide +kernel
theorem dX12_splits_224 : decode cX12_splits 224 = .ok (.getfield 145, 3) := by decide +kernel
theorem dX12_splits_227 : decode cX12_splits 227 = .ok (.iaload, 1) := by decide +kernel
theorem dX12_splits_228 : decode cX12_splits 228 = .ok (.imul, 1) := by decide +kernel
theorem dX12_splits_229 : decode cX12_splits 229 = .ok (.aload_n 0, 1) := by decide +kernel
theorem dX12_splits_230 : decode cX12_splits 230 = .ok (.getfield 34, 3) := by decide +kernel
theorem dX12_splits_233 : decode cX12_splits 233 = .ok (.iload 5, 2) := by decide +kernel
theorem dX12_splits_235 : decode cX12_splits 235 = .ok (.baload, 1) := by decide +kernel
theorem dX12_splits_236 : decode cX12_splits 236 = .ok (.iadd, 1) := by decide +kernel
theorem dX12_splits_237 : decode cX12_splits 237 = .ok (.bipush 48, 2) := by decide +kernel
theorem dX12_splits_239 : decode cX12_splits 239 = .ok (.isub, 1) := by decide +kernel
theorem dX12_splits_240 : decode cX12_splits 240 = .ok (.iastore, 1) := by decide +kernel
theorem dX12_splits_241 : decode cX12_splits 241 = .ok (.iinc 5 1, 3) := by decide +kernel
theorem dX12_splits_244 : decode cX12_splits 244 = .ok (.goto (-75), 3) := by decide +kernel
theorem dX12_splits_247 : decode cX12_splits 247 = .ok (.aload_n 0, 1) := by decide +kernel
theorem dX12_splits_248 : decode cX12_splits 248 = .ok (.dup, 1) := by decide +kernel
theorem dX12_splits_249 : decode cX12_splits 249 = .ok (.getfield 145, 3) := by decide +kernel
theorem dX12_splits_252 : decode cX12_splits 252 = .ok (.iconst 1, 1) := by decide +kernel
theorem dX12_splits_253 : decode cX12_splits 253 = .ok (.iadd, 1) := by decide +kernel
theorem dX12_splits_254 : decode cX12_splits 254 = .ok (.putfield 145, 3) := by decide +kernel
theorem dX12_splits_257 : decode cX12_splits 257 = .ok (.iload 4, 2) := by decide +kernel
theorem dX12_splits_259 : decode cX12_splits 259 = .ok (.istore_n 2, 1) := by decide +kernel
theorem dX12_splits_260 : decode cX12_splits 260 = .ok (.goto (-253), 3) := by decide +kernel
theorem dX12_splits_263 : decode cX12_splits 263 = .ok (.aload_n 0, 1) := by decide +kernel
theorem dX12_splits_264 : decode cX12_splits 264 = .ok (.getfield 49, 3) := by decide +kernel
theorem dX12_splits_267 : decode cX12_splits 267 = .ok (.aload_n 0, 1) := by decide +kernel
theorem dX12_splits_268 : decode cX12_splits 268 = .ok (.getfield 145, 3) := by decide +kernel
theorem dX12_splits_271 : decode cX12_splits 271 = .ok (.iload_n 1, 1) := by decide +kernel
theorem dX12_splits_272 : decode cX12_splits 272 = .ok (.iastore, 1) := by decide +kernel
theorem dX12_splits_273 : decode cX12_splits 273 = .ok (.aload_n 0, 1) := by decide +kernel
theorem dX12_splits_274 : decode cX12_splits 274 = .ok (.getfield 43, 3) := by decide +kernel
theorem dX12_splits_277 : decode cX12_splits 277 = .ok (.aload_n 0, 1) := by decide +kernel
theorem dX12_splits_278 : decode cX12_splits 278 = .ok (.getfield 145, 3) := by decide +kernel
theorem dX12_splits_281 : decode cX12_splits 281 = .ok (.iconst 0, 1) := by decide +kernel
theorem dX12_splits_282 : decode cX12_splits 282 = .ok (.iastore, 1) := by decide +kernel
theorem dX12_splits_283 : decode cX12_splits 283 = .ok (.aload_n 0, 1) := by decide +kernel
theorem dX12_splits_284 : decode cX12_splits 284 = .ok (.getfield 46, 3) := by decide +kernel
theorem dX12_splits_287 : decode cX12_splits 287 = .ok (.aload_n 0, 1) := by decide +kernel
theorem dX12_splits_288 : decode cX12_splits 288 = .ok (.getfield 145, 3) := by decide +kernel
theorem dX12_splits_291 : decode cX12_splits 291 = .ok (.iconst 0, 1) := by decide +kernel
theorem dX12_splits_292 : decode cX12_splits 292 = .ok (.iastore, 1) := by decide +kernel
theorem dX12_splits_293 : decode cX12_splits 293 = .ok (.return_, 1) := by decide +kernel
set_option maxHeartbeats 4000000 in
set_option maxRecDepth 100000 in
theorem c_X12_splits (l : Launch) (E : Nat → Nat) (D : va_G) (G : th_G) (h0 : Nat) (hG0 : G h0 = some (10, 0)) (x1 : Int32) (hx1 : (0 : Int) ≤ x1.toInt ∧ x1.toInt ≤ 400) (ff : Nat → Int32) (hkf : kOk (E 10) ff) (sz : Nat) (hsz : x1.toInt = (sz : Int)) : Met l yX12_splits (tb (.code yX12_splits cX12_splits 6 none)) (rm 2) (va_Pc [.ref h0, .int x1] (PX E D G (fun H => ga E D G h0 3 (1, 5123) ff H))) (QXv E D G (fun H => ∃ (TT : Nat) (cd va pl : Nat → Int32), (∃ z, gf D h0 15 z H ∧ z.toInt = (TT : Int)) ∧ TT ≤ 400 ∧ ga E D G h0 3 (1, 5123) ff H ∧ ga E D G h0 12 (8, 401) cd H ∧ ga E D G h0 13 (0, 401) va H ∧ ga E D G h0 14 (6, 401) pl H ∧ (∀ j : Nat, j < 401 → 0 ≤ (pl j).toInt ∧ (pl j).toInt ≤ 400) ∧ (cd TT).toInt = 0 ∧ (pl TT).toInt = (sz : Int) ∧ TI_ E sz pl cd va sz TT)) 0 0 (th_A G) := by
  refine Met.ofW (cc := cX12_splits) (maxL := 6) (ret := none) (by decide) rfl ?_
  intro p e s m args below meth c s₁ B hml hv
  obtain ⟨hav, ⟨hI, hN, hK⟩, hX⟩ := hv
  have hx := B.exec
  have hb := B.bytes
  have hr := B.returns
  have hts := atoms_spec (ws := tb (.code yX12_splits cX12_splits 6 none)) B.pre
  have hown : s.vm.findClass RX12 = some m.cls := findClass_of_methodNamed B.named
  have hlocks := B.notSynchronized
  have hS : va_S (th_A G) s.heap s.heap [] := va_S.rf
  have hl := lv_entry ([.ref h0, .int x1]) (n := 6) (Nat.le_of_ble_eq_true rfl)
  rw [show entryFrame m args 6 = entryFrame m ([.ref h0, .int x1] : List Value).toArray 6 from by rw [hav], lg_entry_eq]
  generalize (lg_sl ([.ref h0, .int x1]) ++ List.replicate (6 - (lg_sl ([.ref h0, .int x1])).length) Slot.unset).toArray = ls at hl ⊢
  have hl : lv_has ls 6 [(0, .ref h0), (1, .int x1)] := hl
  generalize hR : (headSpec (tb (.code yX12_splits cX12_splits 6 none)) (rm 2)).room = R
  have hR := hR.symm
  generalize hQ : MQ below (QXv E D G (fun H => ∃ (TT : Nat) (cd va pl : Nat → Int32), (∃ z, gf D h0 15 z H ∧ z.toInt = (TT : Int)) ∧ TT ≤ 400 ∧ ga E D G h0 3 (1, 5123) ff H ∧ ga E D G h0 12 (8, 401) cd H ∧ ga E D G h0 13 (0, 401) va H ∧ ga E D G h0 14 (6, 401) pl H ∧ (∀ j : Nat, j < 401 → 0 ≤ (pl j).toInt ∧ (pl j).toInt ≤ 400) ∧ (cd TT).toInt = 0 ∧ (pl TT).toInt = (sz : Int) ∧ TI_ E sz pl cd va sz TT)) args s 0 0 (th_A G) = QF
  have hQ := hQ.symm
  obtain ⟨q_3, hf_3, hq_3, hA_3⟩ := hX
  have J_7 : ∀ (nn : Nat) (H : Heap) (locs : List Loc) (ls : Array Slot) (v3290 : Int32) (v3291 : Int32) (kk : Nat) (tt : Nat) (cd : Nat → Int32) (va : Nat → Int32) (pl : Nat → Int32), (Int.toNat (x1.toInt - v3290.toInt) = nn) → lv_has ls 6 [(2, .int v3290), (0, .ref h0), (1, .int x1)] → ((0 : Int) ≤ v3290.toInt ∧ v3290.toInt ≤ 400) → ((0 : Int) ≤ x1.toInt ∧ x1.toInt ≤ 400) → ((0 : Int) ≤ v3291.toInt ∧ v3291.toInt ≤ 400) → gf D h0 15 v3291 H → ga E D G h0 3 (1, 5123) ff H → ga E D G h0 12 (8, 401) cd H → ga E D G h0 13 (0, 401) va H → ga E D G h0 14 (6, 401) pl H → (v3290.toInt = (kk : Int)) → (v3291.toInt = (tt : Int)) → (∀ j : Nat, j < 401 → 0 ≤ (pl j).toInt ∧ (pl j).toInt ≤ 400) → (TI_ E sz pl cd va kk tt) → th_I (okM E) D G [] H → va_S (th_A G) s.heap H locs → W p l e R s m args below meth c H locs 0 0 QF (F0 m 7 ls []) := by
    intro nn
    induction nn using Nat.strongRecOn with
    | ind nn ih_7 =>
      intro H locs ls v3290 v3291 kk tt cd va pl hm hl k3292 k3293 k3294 hg3295 hga_3 hga_12 hga_13 hga_14 hk2 ht15 hPl hTI hI hS
      obtain ⟨a3296, hf3297, hq3298, hA3299⟩ := hga_3
      obtain ⟨a3300, hf3301, hq3302, hA3303⟩ := hga_12
      obtain ⟨a3304, hf3305, hq3306, hA3307⟩ := hga_13
      obtain ⟨a3308, hf3309, hq3310, hA3311⟩ := hga_14
      have hle := tk_I.le hTI
      have J_169 : ∀ (nn : Nat) (H : Heap) (locs : List Loc) (ls : Array Slot) (v3312 : Int32) (v3313 : Int32) (v3314 : Int32) (v3315 : Int32) (v3316 : Int32) (kk : Nat) (tt : Nat) (ee : Nat) (ii : Nat) (cd : Nat → Int32) (va : Nat → Int32) (pl : Nat → Int32), (Int.toNat (v3313.toInt - v3312.toInt) = nn) → lv_has ls 6 [(5, .int v3312), (4, .int v3313), (3, .int v3314), (2, .int v3315), (0, .ref h0), (1, .int x1)] → ((0 : Int) ≤ v3312.toInt ∧ v3312.toInt ≤ 400) → ((1 : Int) ≤ v3313.toInt ∧ v3313.toInt ≤ 400) → ((0 : Int) ≤ v3315.toInt ∧ v3315.toInt ≤ 399) → ((1 : Int) ≤ x1.toInt ∧ x1.toInt ≤ 400) → ((0 : Int) ≤ v3316.toInt ∧ v3316.toInt ≤ 399) → gf D h0 15 v3316 H → ga E D G h0 3 (1, 5123) ff H → ga E D G h0 12 (8, 401) cd H → ga E D G h0 13 (0, 401) va H → ga E D G h0 14 (6, 401) pl H → (v3315.toInt = (kk : Int)) → (v3316.toInt = (tt : Int)) → (∀ j : Nat, j < 401 → 0 ≤ (pl j).toInt ∧ (pl j).toInt ≤ 400) → (TI_ E sz pl cd va kk tt) → ((v3314.toInt = (tB E kk : Int) ∧ tB E kk < 128) ∨ (v3314.toInt = (tB E kk : Int) - 256 ∧ 128 ≤ tB E kk ∧ tB E kk ≤ 255)) → (tB E kk ≠ 32) → (v3313.toInt = (ee : Int)) → (kk < ee ∧ ee ≤ sz) → ((∀ j, kk < j → j < ee → tk_ct (tB E) j) ∧ (ee = sz ∨ ¬ tk_ct (tB E) ee)) → (v3312.toInt = (ii : Int)) → (kk ≤ ii ∧ ii ≤ ee) → ((pl tt).toInt = (kk : Int)) → (tk_z (tB E) sz kk (cd tt).toInt) → (VI E sz kk ee ii (va tt).toInt) → th_I (okM E) D G [] H → va_S (th_A G) s.heap H locs → W p l e R s m args below meth c H locs 0 0 QF (F0 m 169 ls []) := by
        intro nn
        induction nn using Nat.strongRecOn with
        | ind nn ih_169 =>
          intro H locs ls v3312 v3313 v3314 v3315 v3316 kk tt ee ii cd va pl hm hl k3317 k3318 k3319 k3320 k3321 hg3322 hga_3 hga_12 hga_13 hga_14 hk2 ht15 hPl hTI hb3 hb32 hk4 hke hct hk5 hki hpt hzt hVI hI hS
          obtain ⟨a3323, hf3324, hq3325, hA3326⟩ := hga_3
          obtain ⟨a3327, hf3328, hq3329, hA3330⟩ := hga_12
          obtain ⟨a3331, hf3332, hq3333, hA3334⟩ := hga_13
          obtain ⟨a3335, hf3336, hq3337, hA3338⟩ := hga_14
          have hle := tk_I.le hTI
          obtain ⟨hv1, hv2, _⟩ := id hVI
          refine lv_iload hx hb dX12_splits_169 (lv_at hl 0 rfl) ?_
          refine lv_iload hx hb dX12_splits_171 (lv_at hl 1 rfl) ?_
          refine lv_icmp_ge (tgt := 247) hx hb dX12_splits_173 (by decide) (fun c3339 => ?_) (fun c3339 => ?_)
          · skip
            have k3340 := iv_le (X := v3313.toInt) (Y := v3312.toInt) rfl rfl c3339
            refine lv_aload_n hx hb dX12_splits_247 rfl (lv_at hl 4 rfl) ?_
            refine lv_dup hx hb dX12_splits_248 rfl ?_
            refine gmI hx hb hts inT12 hown hK hI List.not_mem_nil hG0 15 (by decide) (hts _ (tb_c wd_1248)) rfl rfl dX12_splits_249 (fun w3341 hg3342 k3343 k3344 => ?_)
            obtain rfl := gf.uniq (by decide) hg3322 hg3342
            refine lv_iconst (v := 1) hx hb dX12_splits_252 (by decide) ?_
            refine lv_iadd hx hb dX12_splits_253 ?_
            refine lv_topi (fun v3345 e3346 => ?_)
            have tv3345 : v3345.toInt = v3316.toInt + (1) := iv_add rfl (by decide) e3346 (by omega) (by omega)
            refine pmI (ty := .int) hx hb hts inT12 hown hK hI List.not_mem_nil hG0 hS ⟨_, hG0⟩ 15 (by decide) (by decide) (hts _ (tb_c wd_1248)) rfl rfl (by decide +kernel) rfl rfl rfl (by omega) (by omega) dX12_splits_254 (fun H locs hI hgP hS => ?_)
            have hg3347 := hgP.2.1
            have hf3324 := hgP.2.2.2 3 _ (by decide) (by decide) hf3324
            have hf3328 := hgP.2.2.2 12 _ (by decide) (by decide) hf3328
            have hf3332 := hgP.2.2.2 13 _ (by decide) (by decide) hf3332
            have hf3336 := hgP.2.2.2 14 _ (by decide) (by decide) hf3336
            have hA3326 := va_at.kept hA3326 (hgP.1 _ (m_ne hq3325 hG0 (by first | decide | (dsimp only; decide))))
            have hA3330 := va_at.kept hA3330 (hgP.1 _ (m_ne hq3329 hG0 (by first | decide | (dsimp only; decide))))
            have hA3334 := va_at.kept hA3334 (hgP.1 _ (m_ne hq3333 hG0 (by first | decide | (dsimp only; decide))))
            have hA3338 := va_at.kept hA3338 (hgP.1 _ (m_ne hq3337 hG0 (by first | decide | (dsimp only; decide))))
            refine lv_iload hx hb dX12_splits_257 (lv_at hl 1 rfl) ?_
            refine lv_istore_n (lv' := [(2, .int v3313), (5, .int v3312), (4, .int v3313), (3, .int v3314), (0, .ref h0), (1, .int x1)]) hx hb dX12_splits_259 rfl hl (by decide) rfl (fun ls hl => ?_)
            refine lv_goto (tgt := 7) hx hb dX12_splits_260 (by decide) ?_
            exact ih_7 _ (by omega) H locs ls v3313 v3345 ee (tt + 1) cd va pl rfl (lv_sub hl [0, 4, 5] rfl) ⟨by omega, by omega⟩ ⟨by omega, by omega⟩ ⟨by omega, by omega⟩ hg3347 ⟨a3323, hf3324, hq3325, hA3326⟩ ⟨a3327, hf3328, hq3329, hA3330⟩ ⟨a3331, hf3332, hq3333, hA3334⟩ ⟨a3335, hf3336, hq3337, hA3338⟩ (by first | omega | (rw [show (0 : Int32).toInt = 0 from by decide]; omega)) (by first | omega | decide) (hPl) (tk_I.tok hTI (by omega) hb32 (by omega) (by omega) hct (fun j hj => ⟨rfl, rfl, rfl⟩) hpt hzt (VI.y hVI (fun z => by first | omega | (exfalso; unfold tk_dg at z; omega)))) hI hS
          · skip
            have k3348 := iv_nle (X := v3313.toInt) (Y := v3312.toInt) rfl rfl c3339
            refine lv_iload_n hx hb dX12_splits_176 rfl (lv_at hl 2 rfl) ?_
            refine th_cSs (As := [.int v3314]) (rest := []) (n := 1) (d := 1) ⟨hx, hb, hml, hown, hts⟩ (c_X12_isDigit l H v3314) wd_1575 wd_1576 wd_13 wd_1577 (by decide +kernel) ⟨by rw [hR]; exact Nat.le_of_ble_eq_true rfl, by rw [hR]; exact Nat.le_of_ble_eq_true rfl⟩ hN hS rfl hl.1 rfl (Nat.le_of_ble_eq_true rfl) dX12_splits_177 ⟨Nat.zero_le _, Nat.zero_le _⟩ (fun r3349 locs hp hS => ?_)
            rcases hp with ⟨rfl, hp⟩ | ⟨rfl, hp⟩
            · skip
              try simp only [rg, not_and, Int.not_le] at hp
              have hp3350 := hp
              refine lv_if_eq (tgt := 247) hx hb dX12_splits_180 (by decide) (fun c => absurd c (by decide)) (fun _ => ?_)
              have hdg9 : tk_dg (tB E kk) := by unfold tk_dg; omega
              refine lv_aload_n hx hb dX12_splits_183 rfl (lv_at hl 4 rfl) ?_
              refine gmA hx hb hts inT12 hown hK hI List.not_mem_nil hG0 13 (by decide) (hts _ (tb_c wd_1246)) rfl rfl dX12_splits_184 (fun a3351 hq3352 hf3353 => ?_)
              obtain rfl := fr.uniq (by decide) hf3332 hf3353
              refine lv_aload_n hx hb dX12_splits_187 rfl (lv_at hl 4 rfl) ?_
              refine gmI hx hb hts inT12 hown hK hI List.not_mem_nil hG0 15 (by decide) (hts _ (tb_c wd_1248)) rfl rfl dX12_splits_188 (fun w3354 hg3355 k3356 k3357 => ?_)
              obtain rfl := gf.uniq (by decide) hg3322 hg3355
              refine lv_aload_n hx hb dX12_splits_191 rfl (lv_at hl 4 rfl) ?_
              refine gmA hx hb hts inT12 hown hK hI List.not_mem_nil hG0 13 (by decide) (hts _ (tb_c wd_1246)) rfl rfl dX12_splits_192 (fun a3358 hq3359 hf3360 => ?_)
              obtain rfl := fr.uniq (by decide) hf3332 hf3360
              refine lv_aload_n hx hb dX12_splits_195 rfl (lv_at hl 4 rfl) ?_
              refine gmI hx hb hts inT12 hown hK hI List.not_mem_nil hG0 15 (by decide) (hts _ (tb_c wd_1248)) rfl rfl dX12_splits_196 (fun w3361 hg3362 k3363 k3364 => ?_)
              obtain rfl := gf.uniq (by decide) hg3322 hg3362
              refine th_iald hx hb hK hA3334 0 rfl (iv_in (X := v3316.toInt) rfl (by omega) (by omega)) dX12_splits_199 (fun v3365 e3366 => ?_)
              have k3367 := rd_at (p := tt) e3366 (by omega)
              refine lv_ldc hx hb hown (hts _ (tb_c wd_1582)) dX12_splits_200 ?_
              refine lv_icmp_le (tgt := 217) hx hb dX12_splits_202 (by decide) (fun c3368 => ?_) (fun c3368 => ?_)
              · skip
                have k3369 := iv_le (X := v3365.toInt) (Y := (1000000)) rfl (by decide) c3368
                refine lv_bipush (v := 10) hx hb dX12_splits_217 (by decide) ?_
                refine lv_aload_n hx hb dX12_splits_219 rfl (lv_at hl 4 rfl) ?_
                refine gmA hx hb hts inT12 hown hK hI List.not_mem_nil hG0 13 (by decide) (hts _ (tb_c wd_1246)) rfl rfl dX12_splits_220 (fun a3370 hq3371 hf3372 => ?_)
                obtain rfl := fr.uniq (by decide) hf3332 hf3372
                refine lv_aload_n hx hb dX12_splits_223 rfl (lv_at hl 4 rfl) ?_
                refine gmI hx hb hts inT12 hown hK hI List.not_mem_nil hG0 15 (by decide) (hts _ (tb_c wd_1248)) rfl rfl dX12_splits_224 (fun w3373 hg3374 k3375 k3376 => ?_)
                obtain rfl := gf.uniq (by decide) hg3322 hg3374
                refine th_iald hx hb hK hA3334 0 rfl (iv_in (X := v3316.toInt) rfl (by omega) (by omega)) dX12_splits_227 (fun v3377 e3378 => ?_)
                obtain rfl := (rd_same (i := v3316) (j := v3316) e3366 e3378 (X := v3316.toInt) (Y := v3316.toInt) rfl rfl (by omega)).symm
                refine lv_imul hx hb dX12_splits_228 ?_
                refine lv_topi (fun v3379 e3380 => ?_)
                have tv3379 : v3379.toInt = (10) * v3365.toInt := iv_mul (by decide) rfl e3380 (by omega) (by omega)
                refine lv_aload_n hx hb dX12_splits_229 rfl (lv_at hl 4 rfl) ?_
                refine gmA hx hb hts inT12 hown hK hI List.not_mem_nil hG0 8 (by decide) (hts _ (tb_c wd_1241)) rfl rfl dX12_splits_230 (fun a3381 hq3382 hf3383 => ?_)
                refine lv_iload hx hb dX12_splits_233 (lv_at hl 0 rfl) ?_
                obtain ⟨F3384, hA3385, hP3386⟩ := om_4 hI hq3382 List.not_mem_nil
                refine va_bald hx hb hK (th_one hA3385) 0 3 rfl rfl (iv_in (X := v3312.toInt) rfl (by omega) (by omega)) dX12_splits_235 ?_
                refine lv_topi (fun v3387 e3388 => ?_)
                have k3389 := tp_at hP3386 e3388 (p := ii) (by omega) (by omega)
                refine lv_iadd hx hb dX12_splits_236 ?_
                refine lv_topi (fun v3390 e3391 => ?_)
                try have tv3390 : v3390.toInt = v3379.toInt + v3387.toInt := iv_add rfl rfl e3391 (by omega) (by omega)
                refine lv_bipush (v := 48) hx hb dX12_splits_237 (by decide) ?_
                refine lv_isub hx hb dX12_splits_239 ?_
                refine lv_topi (fun v3392 e3393 => ?_)
                try have tv3392 : v3392.toInt = v3390.toInt - (48) := iv_sub rfl (by decide) e3393 (by omega) (by omega)
                refine th_iast hx hb hK hA3334 0 rfl hS ⟨_, hq3333⟩ (iv_in (X := v3316.toInt) rfl (by omega) (by omega)) dX12_splits_240 (fun H locs hA3394 oq hS => ?_)
                have hI := th_I.put hI hq3333 hA3394 ok_m0 oq
                have hg3322 := gf.arr hG0 hq3333 (by decide) oq hg3322
                have hf3324 := fr.arr hG0 hq3333 (by decide) oq hf3324
                have hf3328 := fr.arr hG0 hq3333 (by decide) oq hf3328
                have hf3332 := fr.arr hG0 hq3333 (by decide) oq hf3332
                have hf3336 := fr.arr hG0 hq3333 (by decide) oq hf3336
                have hf3383 := fr.arr hG0 hq3333 (by decide) oq hf3383
                have hA3326 := va_at.kept hA3326 (oq _ (m_ne hq3325 hq3333 (by first | decide | (dsimp only; decide))))
                have hA3330 := va_at.kept hA3330 (oq _ (m_ne hq3329 hq3333 (by first | decide | (dsimp only; decide))))
                have hA3338 := va_at.kept hA3338 (oq _ (m_ne hq3337 hq3333 (by first | decide | (dsimp only; decide))))
                have hA3385 := va_at.kept hA3385 (oq _ (m_ne hq3382 hq3333 (by first | decide | (dsimp only; decide))))
                have e3395 : v3392 = (upd va (v3316 : Int32).toNatClampNeg v3392) (v3316 : Int32).toNatClampNeg := rd_us
                obtain ⟨v3396, e3397⟩ : ∃ y : Int32, y = v3312 + (1) := ⟨_, rfl⟩
                have tv3396 : v3396.toInt = v3312.toInt + (1) := iv_add rfl (by decide) e3397 (by omega) (by omega)
                refine lv_iinc (v := v3396) (lv' := [(5, .int v3396), (4, .int v3313), (3, .int v3314), (2, .int v3315), (0, .ref h0), (1, .int x1)]) hx hb dX12_splits_241 hl (k := 0) rfl (by rw [e3397]; rfl) (by decide) rfl (fun ls hl => ?_)
                refine lv_goto (tgt := 169) hx hb dX12_splits_244 (by decide) ?_
                exact ih_169 _ (by omega) H locs ls v3396 v3313 v3314 v3315 v3316 kk tt ee (ii + 1) cd (upd va (v3316 : Int32).toNatClampNeg v3392) pl rfl (lv_sub hl [0, 1, 2, 3, 4, 5] rfl) ⟨by omega, by omega⟩ ⟨by omega, by omega⟩ ⟨by omega, by omega⟩ ⟨by omega, by omega⟩ ⟨by omega, by omega⟩ hg3322 ⟨a3323, hf3324, hq3325, hA3326⟩ ⟨a3327, hf3328, hq3329, hA3330⟩ ⟨a3331, hf3332, hq3333, hA3394⟩ ⟨a3335, hf3336, hq3337, hA3338⟩ (by first | omega | (rw [show (0 : Int32).toInt = 0 from by decide]; omega)) (by first | omega | decide) (hPl) (tk_I.upd hTI (fun j hj => ⟨rfl, rfl, by rw [YV_ne (by omega) hj]⟩)) (by omega) (by omega) (by omega) (⟨by omega, by omega⟩) (hct) (by omega) (⟨by omega, by omega⟩) (hpt) (hzt) (by rw [up_at (by omega), show (v3392).toInt = 10 * (va tt).toInt + (tB E ii : Int) - 48 by omega]; exact VI.add hVI (by omega) (by omega) (by omega) rfl hdg9) hI hS
              · skip
                have k3398 := iv_nle (X := v3365.toInt) (Y := (1000000)) rfl (by decide) c3368
                refine lv_aload_n hx hb dX12_splits_205 rfl (lv_at hl 4 rfl) ?_
                refine gmA hx hb hts inT12 hown hK hI List.not_mem_nil hG0 13 (by decide) (hts _ (tb_c wd_1246)) rfl rfl dX12_splits_206 (fun a3399 hq3400 hf3401 => ?_)
                obtain rfl := fr.uniq (by decide) hf3332 hf3401
                refine lv_aload_n hx hb dX12_splits_209 rfl (lv_at hl 4 rfl) ?_
                refine gmI hx hb hts inT12 hown hK hI List.not_mem_nil hG0 15 (by decide) (hts _ (tb_c wd_1248)) rfl rfl dX12_splits_210 (fun w3402 hg3403 k3404 k3405 => ?_)
                obtain rfl := gf.uniq (by decide) hg3322 hg3403
                refine th_iald hx hb hK hA3334 0 rfl (iv_in (X := v3316.toInt) rfl (by omega) (by omega)) dX12_splits_213 (fun v3406 e3407 => ?_)
                obtain rfl := (rd_same (i := v3316) (j := v3316) e3366 e3407 (X := v3316.toInt) (Y := v3316.toInt) rfl rfl (by omega)).symm
                refine lv_goto (tgt := 240) hx hb dX12_splits_214 (by decide) ?_
                refine th_iast hx hb hK hA3334 0 rfl hS ⟨_, hq3333⟩ (iv_in (X := v3316.toInt) rfl (by omega) (by omega)) dX12_splits_240 (fun H locs hA3408 oq hS => ?_)
                have hI := th_I.put hI hq3333 hA3408 ok_m0 oq
                have hg3322 := gf.arr hG0 hq3333 (by decide) oq hg3322
                have hf3324 := fr.arr hG0 hq3333 (by decide) oq hf3324
                have hf3328 := fr.arr hG0 hq3333 (by decide) oq hf3328
                have hf3332 := fr.arr hG0 hq3333 (by decide) oq hf3332
                have hf3336 := fr.arr hG0 hq3333 (by decide) oq hf3336
                have hA3326 := va_at.kept hA3326 (oq _ (m_ne hq3325 hq3333 (by first | decide | (dsimp only; decide))))
                have hA3330 := va_at.kept hA3330 (oq _ (m_ne hq3329 hq3333 (by first | decide | (dsimp only; decide))))
                have hA3338 := va_at.kept hA3338 (oq _ (m_ne hq3337 hq3333 (by first | decide | (dsimp only; decide))))
                have e3409 : v3365 = (upd va (v3316 : Int32).toNatClampNeg v3365) (v3316 : Int32).toNatClampNeg := rd_us
                obtain ⟨v3410, e3411⟩ : ∃ y : Int32, y = v3312 + (1) := ⟨_, rfl⟩
                have tv3410 : v3410.toInt = v3312.toInt + (1) := iv_add rfl (by decide) e3411 (by omega) (by omega)
                refine lv_iinc (v := v3410) (lv' := [(5, .int v3410), (4, .int v3313), (3, .int v3314), (2, .int v3315), (0, .ref h0), (1, .int x1)]) hx hb dX12_splits_241 hl (k := 0) rfl (by rw [e3411]; rfl) (by decide) rfl (fun ls hl => ?_)
                refine lv_goto (tgt := 169) hx hb dX12_splits_244 (by decide) ?_
                exact ih_169 _ (by omega) H locs ls v3410 v3313 v3314 v3315 v3316 kk tt ee (ii + 1) cd (upd va (v3316 : Int32).toNatClampNeg v3365) pl rfl (lv_sub hl [0, 1, 2, 3, 4, 5] rfl) ⟨by omega, by omega⟩ ⟨by omega, by omega⟩ ⟨by omega, by omega⟩ ⟨by omega, by omega⟩ ⟨by omega, by omega⟩ hg3322 ⟨a3323, hf3324, hq3325, hA3326⟩ ⟨a3327, hf3328, hq3329, hA3330⟩ ⟨a3331, hf3332, hq3333, hA3408⟩ ⟨a3335, hf3336, hq3337, hA3338⟩ (by first | omega | (rw [show (0 : Int32).toInt = 0 from by decide]; omega)) (by first | omega | decide) (hPl) (tk_I.upd hTI (fun j hj => ⟨rfl, rfl, by rw [YV_ne (by omega) hj]⟩)) (by omega) (by omega) (by omega) (⟨by omega, by omega⟩) (hct) (by omega) (⟨by omega, by omega⟩) (hpt) (hzt) (by rw [up_at (by omega)]; exact VI.big hVI (by omega) (by omega)) hI hS
            · skip
              try simp only [rg, not_and, Int.not_le] at hp
              have hp3412 := hp
              refine lv_if_eq (tgt := 247) hx hb dX12_splits_180 (by decide) (fun _ => ?_) (fun c => absurd c (by decide))
              refine lv_aload_n hx hb dX12_splits_247 rfl (lv_at hl 4 rfl) ?_
              refine lv_dup hx hb dX12_splits_248 rfl ?_
              refine gmI hx hb hts inT12 hown hK hI List.not_mem_nil hG0 15 (by decide) (hts _ (tb_c wd_1248)) rfl rfl dX12_splits_249 (fun w3413 hg3414 k3415 k3416 => ?_)
              obtain rfl := gf.uniq (by decide) hg3322 hg3414
              refine lv_iconst (v := 1) hx hb dX12_splits_252 (by decide) ?_
              refine lv_iadd hx hb dX12_splits_253 ?_
              refine lv_topi (fun v3417 e3418 => ?_)
              have tv3417 : v3417.toInt = v3316.toInt + (1) := iv_add rfl (by decide) e3418 (by omega) (by omega)
              refine pmI (ty := .int) hx hb hts inT12 hown hK hI List.not_mem_nil hG0 hS ⟨_, hG0⟩ 15 (by decide) (by decide) (hts _ (tb_c wd_1248)) rfl rfl (by decide +kernel) rfl rfl rfl (by omega) (by omega) dX12_splits_254 (fun H locs hI hgP hS => ?_)
              have hg3419 := hgP.2.1
              have hf3324 := hgP.2.2.2 3 _ (by decide) (by decide) hf3324
              have hf3328 := hgP.2.2.2 12 _ (by decide) (by decide) hf3328
              have hf3332 := hgP.2.2.2 13 _ (by decide) (by decide) hf3332
              have hf3336 := hgP.2.2.2 14 _ (by decide) (by decide) hf3336
              have hA3326 := va_at.kept hA3326 (hgP.1 _ (m_ne hq3325 hG0 (by first | decide | (dsimp only; decide))))
              have hA3330 := va_at.kept hA3330 (hgP.1 _ (m_ne hq3329 hG0 (by first | decide | (dsimp only; decide))))
              have hA3334 := va_at.kept hA3334 (hgP.1 _ (m_ne hq3333 hG0 (by first | decide | (dsimp only; decide))))
              have hA3338 := va_at.kept hA3338 (hgP.1 _ (m_ne hq3337 hG0 (by first | decide | (dsimp only; decide))))
              refine lv_iload hx hb dX12_splits_257 (lv_at hl 1 rfl) ?_
              refine lv_istore_n (lv' := [(2, .int v3313), (5, .int v3312), (4, .int v3313), (3, .int v3314), (0, .ref h0), (1, .int x1)]) hx hb dX12_splits_259 rfl hl (by decide) rfl (fun ls hl => ?_)
              refine lv_goto (tgt := 7) hx hb dX12_splits_260 (by decide) ?_
              exact ih_7 _ (by omega) H locs ls v3313 v3417 ee (tt + 1) cd va pl rfl (lv_sub hl [0, 4, 5] rfl) ⟨by omega, by omega⟩ ⟨by omega, by omega⟩ ⟨by omega, by omega⟩ hg3419 ⟨a3323, hf3324, hq3325, hA3326⟩ ⟨a3327, hf3328, hq3329, hA3330⟩ ⟨a3331, hf3332, hq3333, hA3334⟩ ⟨a3335, hf3336, hq3337, hA3338⟩ (by first | omega | (rw [show (0 : Int32).toInt = 0 from by decide]; omega)) (by first | omega | decide) (hPl) (tk_I.tok hTI (by omega) hb32 (by omega) (by omega) hct (fun j hj => ⟨rfl, rfl, rfl⟩) hpt hzt (VI.y hVI (fun z => by first | omega | (exfalso; unfold tk_dg at z; omega)))) hI hS
      have J_75 : ∀ (nn : Nat) (H : Heap) (locs : List Loc) (ls : Array Slot) (v3420 : Int32) (v3421 : Int32) (v3422 : Int32) (v3423 : Int32) (kk : Nat) (tt : Nat) (ee : Nat) (cd : Nat → Int32) (va : Nat → Int32) (pl : Nat → Int32), (Int.toNat (x1.toInt - v3420.toInt) = nn) → lv_has ls 6 [(4, .int v3420), (3, .int v3421), (2, .int v3422), (0, .ref h0), (1, .int x1)] → ((1 : Int) ≤ v3420.toInt ∧ v3420.toInt ≤ 400) → ((48 : Int) ≤ v3421.toInt ∧ v3421.toInt ≤ 57) → ((0 : Int) ≤ v3422.toInt ∧ v3422.toInt ≤ 399) → ((1 : Int) ≤ x1.toInt ∧ x1.toInt ≤ 400) → ((0 : Int) ≤ v3423.toInt ∧ v3423.toInt ≤ 399) → gf D h0 15 v3423 H → ga E D G h0 3 (1, 5123) ff H → ga E D G h0 12 (8, 401) cd H → ga E D G h0 13 (0, 401) va H → ga E D G h0 14 (6, 401) pl H → (v3422.toInt = (kk : Int)) → (v3423.toInt = (tt : Int)) → (∀ j : Nat, j < 401 → 0 ≤ (pl j).toInt ∧ (pl j).toInt ≤ 400) → (TI_ E sz pl cd va kk tt) → ((v3421.toInt = (tB E kk : Int) ∧ tB E kk < 128) ∨ (v3421.toInt = (tB E kk : Int) - 256 ∧ 128 ≤ tB E kk ∧ tB E kk ≤ 255)) → (tB E kk ≠ 32) → (v3420.toInt = (ee : Int)) → (kk < ee ∧ ee ≤ sz) → (∀ j : Nat, kk ≤ j → j < ee → tk_dg (tB E j)) → th_I (okM E) D G [] H → va_S (th_A G) s.heap H locs → W p l e R s m args below meth c H locs 0 0 QF (F0 m 75 ls []) := by
        intro nn
        induction nn using Nat.strongRecOn with
        | ind nn ih_75 =>
          intro H locs ls v3420 v3421 v3422 v3423 kk tt ee cd va pl hm hl k3424 k3425 k3426 k3427 k3428 hg3429 hga_3 hga_12 hga_13 hga_14 hk2 ht15 hPl hTI hb3 hb32 hk4 hke hrun hI hS
          obtain ⟨a3430, hf3431, hq3432, hA3433⟩ := hga_3
          obtain ⟨a3434, hf3435, hq3436, hA3437⟩ := hga_12
          obtain ⟨a3438, hf3439, hq3440, hA3441⟩ := hga_13
          obtain ⟨a3442, hf3443, hq3444, hA3445⟩ := hga_14
          have hle := tk_I.le hTI
          refine lv_iload hx hb dX12_splits_75 (lv_at hl 0 rfl) ?_
          refine lv_iload_n hx hb dX12_splits_77 rfl (lv_at hl 4 rfl) ?_
          refine lv_icmp_ge (tgt := 100) hx hb dX12_splits_78 (by decide) (fun c3446 => ?_) (fun c3446 => ?_)
          · skip
            have k3447 := iv_le (X := x1.toInt) (Y := v3420.toInt) rfl rfl c3446
            have hrd : tk_rd (tB E) sz kk ee := ⟨by omega, by omega, hrun, by first | exact Or.inl (by omega) | exact Or.inr (by unfold tk_dg; omega)⟩
            have hct := tk_rd_ct hrd
            have hdr : tk_dg (tB E kk) → tk_rd (tB E) sz kk ee := fun _ => hrd
            refine lv_aload_n hx hb dX12_splits_100 rfl (lv_at hl 3 rfl) ?_
            refine gmA hx hb hts inT12 hown hK hI List.not_mem_nil hG0 14 (by decide) (hts _ (tb_c wd_1247)) rfl rfl dX12_splits_101 (fun a3448 hq3449 hf3450 => ?_)
            obtain rfl := fr.uniq (by decide) hf3443 hf3450
            refine lv_aload_n hx hb dX12_splits_104 rfl (lv_at hl 3 rfl) ?_
            refine gmI hx hb hts inT12 hown hK hI List.not_mem_nil hG0 15 (by decide) (hts _ (tb_c wd_1248)) rfl rfl dX12_splits_105 (fun w3451 hg3452 k3453 k3454 => ?_)
            obtain rfl := gf.uniq (by decide) hg3429 hg3452
            refine lv_iload_n hx hb dX12_splits_108 rfl (lv_at hl 2 rfl) ?_
            refine th_iast hx hb hK hA3445 0 rfl hS ⟨_, hq3444⟩ (iv_in (X := v3423.toInt) rfl (by omega) (by omega)) dX12_splits_109 (fun H locs hA3455 oq hS => ?_)
            have hP3456 := rgs_set (k := v3423.toNatClampNeg) (v := v3422) hPl (by omega) (by omega)
            have hI := th_I.put hI hq3444 hA3455 (ok_m6 hP3456) oq
            have hg3429 := gf.arr hG0 hq3444 (by decide) oq hg3429
            have hf3431 := fr.arr hG0 hq3444 (by decide) oq hf3431
            have hf3435 := fr.arr hG0 hq3444 (by decide) oq hf3435
            have hf3439 := fr.arr hG0 hq3444 (by decide) oq hf3439
            have hf3443 := fr.arr hG0 hq3444 (by decide) oq hf3443
            have hA3433 := va_at.kept hA3433 (oq _ (m_ne hq3432 hq3444 (by first | decide | (dsimp only; decide))))
            have hA3437 := va_at.kept hA3437 (oq _ (m_ne hq3436 hq3444 (by first | decide | (dsimp only; decide))))
            have hA3441 := va_at.kept hA3441 (oq _ (m_ne hq3440 hq3444 (by first | decide | (dsimp only; decide))))
            have e3457 : v3422 = (upd pl (v3423 : Int32).toNatClampNeg v3422) (v3423 : Int32).toNatClampNeg := rd_us
            refine lv_aload_n hx hb dX12_splits_110 rfl (lv_at hl 3 rfl) ?_
            refine gmA hx hb hts inT12 hown hK hI List.not_mem_nil hG0 13 (by decide) (hts _ (tb_c wd_1246)) rfl rfl dX12_splits_111 (fun a3458 hq3459 hf3460 => ?_)
            obtain rfl := fr.uniq (by decide) hf3439 hf3460
            refine lv_aload_n hx hb dX12_splits_114 rfl (lv_at hl 3 rfl) ?_
            refine gmI hx hb hts inT12 hown hK hI List.not_mem_nil hG0 15 (by decide) (hts _ (tb_c wd_1248)) rfl rfl dX12_splits_115 (fun w3461 hg3462 k3463 k3464 => ?_)
            obtain rfl := gf.uniq (by decide) hg3429 hg3462
            refine lv_iconst (v := 0) hx hb dX12_splits_118 (by decide) ?_
            refine th_iast hx hb hK hA3441 0 rfl hS ⟨_, hq3440⟩ (iv_in (X := v3423.toInt) rfl (by omega) (by omega)) dX12_splits_119 (fun H locs hA3465 oq hS => ?_)
            have hI := th_I.put hI hq3440 hA3465 ok_m0 oq
            have hg3429 := gf.arr hG0 hq3440 (by decide) oq hg3429
            have hf3431 := fr.arr hG0 hq3440 (by decide) oq hf3431
            have hf3435 := fr.arr hG0 hq3440 (by decide) oq hf3435
            have hf3439 := fr.arr hG0 hq3440 (by decide) oq hf3439
            have hf3443 := fr.arr hG0 hq3440 (by decide) oq hf3443
            have hA3433 := va_at.kept hA3433 (oq _ (m_ne hq3432 hq3440 (by first | decide | (dsimp only; decide))))
            have hA3437 := va_at.kept hA3437 (oq _ (m_ne hq3436 hq3440 (by first | decide | (dsimp only; decide))))
            have hA3455 := va_at.kept hA3455 (oq _ (m_ne hq3444 hq3440 (by first | decide | (dsimp only; decide))))
            have e3466 : 0 = (upd va (v3423 : Int32).toNatClampNeg 0) (v3423 : Int32).toNatClampNeg := rd_us
            refine lv_aload_n hx hb dX12_splits_120 rfl (lv_at hl 3 rfl) ?_
            refine gmA hx hb hts inT12 hown hK hI List.not_mem_nil hG0 12 (by decide) (hts _ (tb_c wd_1245)) rfl rfl dX12_splits_121 (fun a3467 hq3468 hf3469 => ?_)
            obtain rfl := fr.uniq (by decide) hf3435 hf3469
            refine lv_aload_n hx hb dX12_splits_124 rfl (lv_at hl 3 rfl) ?_
            refine gmI hx hb hts inT12 hown hK hI List.not_mem_nil hG0 15 (by decide) (hts _ (tb_c wd_1248)) rfl rfl dX12_splits_125 (fun w3470 hg3471 k3472 k3473 => ?_)
            obtain rfl := gf.uniq (by decide) hg3429 hg3471
            refine lv_iload_n hx hb dX12_splits_128 rfl (lv_at hl 1 rfl) ?_
            refine th_cSs (As := [.int v3421]) (rest := [.int v3423, .ref a3434]) (n := 1) (d := 1) ⟨hx, hb, hml, hown, hts⟩ (c_X12_isSmall l H v3421) wd_1572 wd_1573 wd_13 wd_1574 (by decide +kernel) ⟨by rw [hR]; exact Nat.le_of_ble_eq_true rfl, by rw [hR]; exact Nat.le_of_ble_eq_true rfl⟩ hN hS rfl hl.1 rfl (Nat.le_of_ble_eq_true rfl) dX12_splits_129 ⟨Nat.zero_le _, Nat.zero_le _⟩ (fun r3474 locs hp hS => ?_)
            rcases hp with ⟨rfl, hp⟩ | ⟨rfl, hp⟩
            · skip
              try simp only [rg, not_and, Int.not_le] at hp
              have hp3475 := hp
              exfalso; omega
            · skip
              try simp only [rg, not_and, Int.not_le] at hp
              have hp3476 := hp
              refine lv_if_eq (tgt := 145) hx hb dX12_splits_132 (by decide) (fun _ => ?_) (fun c => absurd c (by decide))
              refine lv_iload_n hx hb dX12_splits_145 rfl (lv_at hl 1 rfl) ?_
              refine th_cSs (As := [.int v3421]) (rest := [.int v3423, .ref a3434]) (n := 1) (d := 1) ⟨hx, hb, hml, hown, hts⟩ (c_X12_isDigit l H v3421) wd_1575 wd_1576 wd_13 wd_1577 (by decide +kernel) ⟨by rw [hR]; exact Nat.le_of_ble_eq_true rfl, by rw [hR]; exact Nat.le_of_ble_eq_true rfl⟩ hN hS rfl hl.1 rfl (Nat.le_of_ble_eq_true rfl) dX12_splits_146 ⟨Nat.zero_le _, Nat.zero_le _⟩ (fun r3477 locs hp hS => ?_)
              rcases hp with ⟨rfl, hp⟩ | ⟨rfl, hp⟩
              · skip
                try simp only [rg, not_and, Int.not_le] at hp
                have hp3478 := hp
                refine lv_if_eq (tgt := 157) hx hb dX12_splits_149 (by decide) (fun c => absurd c (by decide)) (fun _ => ?_)
                refine lv_bipush (v := 50) hx hb dX12_splits_152 (by decide) ?_
                refine lv_goto (tgt := 165) hx hb dX12_splits_154 (by decide) ?_
                have hzz : tk_z (tB E) sz kk (50 : Int32).toInt := Or.inr (Or.inl ⟨hrun kk (Nat.le_refl _) (by omega), by decide⟩)
                refine th_iast hx hb hK hA3437 0 rfl hS ⟨_, hq3436⟩ (iv_in (X := v3423.toInt) rfl (by omega) (by omega)) dX12_splits_165 (fun H locs hA3479 oq hS => ?_)
                have hI := th_I.put hI hq3436 hA3479 ok_m8 oq
                have hg3429 := gf.arr hG0 hq3436 (by decide) oq hg3429
                have hf3431 := fr.arr hG0 hq3436 (by decide) oq hf3431
                have hf3435 := fr.arr hG0 hq3436 (by decide) oq hf3435
                have hf3439 := fr.arr hG0 hq3436 (by decide) oq hf3439
                have hf3443 := fr.arr hG0 hq3436 (by decide) oq hf3443
                have hA3433 := va_at.kept hA3433 (oq _ (m_ne hq3432 hq3436 (by first | decide | (dsimp only; decide))))
                have hA3465 := va_at.kept hA3465 (oq _ (m_ne hq3440 hq3436 (by first | decide | (dsimp only; decide))))
                have hA3455 := va_at.kept hA3455 (oq _ (m_ne hq3444 hq3436 (by first | decide | (dsimp only; decide))))
                have e3480 : 50 = (upd cd (v3423 : Int32).toNatClampNeg 50) (v3423 : Int32).toNatClampNeg := rd_us
                refine lv_iload_n hx hb dX12_splits_166 rfl (lv_at hl 2 rfl) ?_
                refine lv_istore (lv' := [(5, .int v3422), (4, .int v3420), (3, .int v3421), (2, .int v3422), (0, .ref h0), (1, .int x1)]) hx hb dX12_splits_167 hl (by decide) rfl (fun ls hl => ?_)
                exact J_169 _ H locs ls v3422 v3420 v3421 v3422 v3423 kk tt ee kk (upd cd (v3423 : Int32).toNatClampNeg 50) (upd va (v3423 : Int32).toNatClampNeg 0) (upd pl (v3423 : Int32).toNatClampNeg v3422) rfl (lv_sub hl [0, 1, 2, 3, 4, 5] rfl) ⟨by omega, by omega⟩ ⟨by omega, by omega⟩ ⟨by omega, by omega⟩ ⟨by omega, by omega⟩ ⟨by omega, by omega⟩ hg3429 ⟨a3430, hf3431, hq3432, hA3433⟩ ⟨a3434, hf3435, hq3436, hA3479⟩ ⟨a3438, hf3439, hq3440, hA3465⟩ ⟨a3442, hf3443, hq3444, hA3455⟩ (by first | omega | (rw [show (0 : Int32).toInt = 0 from by decide]; omega)) (by first | omega | decide) (hP3456) (tk_I.upd hTI (fun j hj => ⟨by rw [up_ne (by omega) hj], by rw [up_ne (by omega) hj], by rw [YV_ne (by omega) hj]⟩)) (by omega) (by omega) (by omega) (⟨by omega, by omega⟩) (hct) (by omega) (⟨by omega, by omega⟩) (by rw [up_at (by omega)]; omega) (by rw [up_at (by omega)]; exact hzz) (by rw [up_at (by omega), show (0 : Int32).toInt = 0 from by decide]; exact VI.ini hdr) hI hS
              · skip
                try simp only [rg, not_and, Int.not_le] at hp
                have hp3481 := hp
                exfalso; omega
          · skip
            have k3482 := iv_nle (X := x1.toInt) (Y := v3420.toInt) rfl rfl c3446
            refine lv_aload_n hx hb dX12_splits_81 rfl (lv_at hl 3 rfl) ?_
            refine gmA hx hb hts inT12 hown hK hI List.not_mem_nil hG0 8 (by decide) (hts _ (tb_c wd_1241)) rfl rfl dX12_splits_82 (fun a3483 hq3484 hf3485 => ?_)
            refine lv_iload hx hb dX12_splits_85 (lv_at hl 0 rfl) ?_
            obtain ⟨F3486, hA3487, hP3488⟩ := om_4 hI hq3484 List.not_mem_nil
            refine va_bald hx hb hK (th_one hA3487) 0 3 rfl rfl (iv_in (X := v3420.toInt) rfl (by omega) (by omega)) dX12_splits_87 ?_
            refine lv_topi (fun v3489 e3490 => ?_)
            have k3491 := tp_at hP3488 e3490 (p := ee) (by omega) (by omega)
            refine th_cSs (As := [.int v3489]) (rest := []) (n := 1) (d := 1) ⟨hx, hb, hml, hown, hts⟩ (c_X12_isDigit l H v3489) wd_1575 wd_1576 wd_13 wd_1577 (by decide +kernel) ⟨by rw [hR]; exact Nat.le_of_ble_eq_true rfl, by rw [hR]; exact Nat.le_of_ble_eq_true rfl⟩ hN hS rfl hl.1 rfl (Nat.le_of_ble_eq_true rfl) dX12_splits_88 ⟨Nat.zero_le _, Nat.zero_le _⟩ (fun r3492 locs hp hS => ?_)
            rcases hp with ⟨rfl, hp⟩ | ⟨rfl, hp⟩
            · skip
              try simp only [rg, not_and, Int.not_le] at hp
              have hp3493 := hp
              refine lv_if_eq (tgt := 100) hx hb dX12_splits_91 (by decide) (fun c => absurd c (by decide)) (fun _ => ?_)
              obtain ⟨v3494, e3495⟩ : ∃ y : Int32, y = v3420 + (1) := ⟨_, rfl⟩
              have tv3494 : v3494.toInt = v3420.toInt + (1) := iv_add rfl (by decide) e3495 (by omega) (by omega)
              refine lv_iinc (v := v3494) (lv' := [(4, .int v3494), (3, .int v3421), (2, .int v3422), (0, .ref h0), (1, .int x1)]) hx hb dX12_splits_94 hl (k := 0) rfl (by rw [e3495]; rfl) (by decide) rfl (fun ls hl => ?_)
              refine lv_goto (tgt := 75) hx hb dX12_splits_97 (by decide) ?_
              exact ih_75 _ (by omega) H locs ls v3494 v3421 v3422 v3423 kk tt (ee + 1) cd va pl rfl (lv_sub hl [0, 1, 2, 3, 4] rfl) ⟨by omega, by omega⟩ ⟨by omega, by omega⟩ ⟨by omega, by omega⟩ ⟨by omega, by omega⟩ ⟨by omega, by omega⟩ hg3429 ⟨a3430, hf3431, hq3432, hA3433⟩ ⟨a3434, hf3435, hq3436, hA3437⟩ ⟨a3438, hf3439, hq3440, hA3441⟩ ⟨a3442, hf3443, hq3444, hA3445⟩ (by first | omega | (rw [show (0 : Int32).toInt = 0 from by decide]; omega)) (by first | omega | decide) (hPl) (hTI) (by omega) (by omega) (by omega) (⟨by omega, by omega⟩) (fun j h1 h2 => (Nat.lt_or_ge j ee).elim (fun q => hrun j h1 q) (fun q => by rw [show j = ee by omega]; unfold tk_dg; omega)) hI hS
            · skip
              try simp only [rg, not_and, Int.not_le] at hp
              have hp3496 := hp
              refine lv_if_eq (tgt := 100) hx hb dX12_splits_91 (by decide) (fun _ => ?_) (fun c => absurd c (by decide))
              have hrd : tk_rd (tB E) sz kk ee := ⟨by omega, by omega, hrun, by first | exact Or.inl (by omega) | exact Or.inr (by unfold tk_dg; omega)⟩
              have hct := tk_rd_ct hrd
              have hdr : tk_dg (tB E kk) → tk_rd (tB E) sz kk ee := fun _ => hrd
              refine lv_aload_n hx hb dX12_splits_100 rfl (lv_at hl 3 rfl) ?_
              refine gmA hx hb hts inT12 hown hK hI List.not_mem_nil hG0 14 (by decide) (hts _ (tb_c wd_1247)) rfl rfl dX12_splits_101 (fun a3497 hq3498 hf3499 => ?_)
              obtain rfl := fr.uniq (by decide) hf3443 hf3499
              refine lv_aload_n hx hb dX12_splits_104 rfl (lv_at hl 3 rfl) ?_
              refine gmI hx hb hts inT12 hown hK hI List.not_mem_nil hG0 15 (by decide) (hts _ (tb_c wd_1248)) rfl rfl dX12_splits_105 (fun w3500 hg3501 k3502 k3503 => ?_)
              obtain rfl := gf.uniq (by decide) hg3429 hg3501
              refine lv_iload_n hx hb dX12_splits_108 rfl (lv_at hl 2 rfl) ?_
              refine th_iast hx hb hK hA3445 0 rfl hS ⟨_, hq3444⟩ (iv_in (X := v3423.toInt) rfl (by omega) (by omega)) dX12_splits_109 (fun H locs hA3504 oq hS => ?_)
              have hP3505 := rgs_set (k := v3423.toNatClampNeg) (v := v3422) hPl (by omega) (by omega)
              have hI := th_I.put hI hq3444 hA3504 (ok_m6 hP3505) oq
              have hg3429 := gf.arr hG0 hq3444 (by decide) oq hg3429
              have hf3431 := fr.arr hG0 hq3444 (by decide) oq hf3431
              have hf3435 := fr.arr hG0 hq3444 (by decide) oq hf3435
              have hf3439 := fr.arr hG0 hq3444 (by decide) oq hf3439
              have hf3443 := fr.arr hG0 hq3444 (by decide) oq hf3443
              have hf3485 := fr.arr hG0 hq3444 (by decide) oq hf3485
              have hA3433 := va_at.kept hA3433 (oq _ (m_ne hq3432 hq3444 (by first | decide | (dsimp only; decide))))
              have hA3437 := va_at.kept hA3437 (oq _ (m_ne hq3436 hq3444 (by first | decide | (dsimp only; decide))))
              have hA3441 := va_at.kept hA3441 (oq _ (m_ne hq3440 hq3444 (by first | decide | (dsimp only; decide))))
              have hA3487 := va_at.kept hA3487 (oq _ (m_ne hq3484 hq3444 (by first | decide | (dsimp only; decide))))
              have e3506 : v3422 = (upd pl (v3423 : Int32).toNatClampNeg v3422) (v3423 : Int32).toNatClampNeg := rd_us
              refine lv_aload_n hx hb dX12_splits_110 rfl (lv_at hl 3 rfl) ?_
              refine gmA hx hb hts inT12 hown hK hI List.not_mem_nil hG0 13 (by decide) (hts _ (tb_c wd_1246)) rfl rfl dX12_splits_111 (fun a3507 hq3508 hf3509 => ?_)
              obtain rfl := fr.uniq (by decide) hf3439 hf3509
              refine lv_aload_n hx hb dX12_splits_114 rfl (lv_at hl 3 rfl) ?_
              refine gmI hx hb hts inT12 hown hK hI List.not_mem_nil hG0 15 (by decide) (hts _ (tb_c wd_1248)) rfl rfl dX12_splits_115 (fun w3510 hg3511 k3512 k3513 => ?_)
              obtain rfl := gf.uniq (by decide) hg3429 hg3511
              refine lv_iconst (v := 0) hx hb dX12_splits_118 (by decide) ?_
              refine th_iast hx hb hK hA3441 0 rfl hS ⟨_, hq3440⟩ (iv_in (X := v3423.toInt) rfl (by omega) (by omega)) dX12_splits_119 (fun H locs hA3514 oq hS => ?_)
              have hI := th_I.put hI hq3440 hA3514 ok_m0 oq
              have hg3429 := gf.arr hG0 hq3440 (by decide) oq hg3429
              have hf3431 := fr.arr hG0 hq3440 (by decide) oq hf3431
              have hf3435 := fr.arr hG0 hq3440 (by decide) oq hf3435
              have hf3439 := fr.arr hG0 hq3440 (by decide) oq hf3439
              have hf3443 := fr.arr hG0 hq3440 (by decide) oq hf3443
              have hf3485 := fr.arr hG0 hq3440 (by decide) oq hf3485
              have hA3433 := va_at.kept hA3433 (oq _ (m_ne hq3432 hq3440 (by first | decide | (dsimp only; decide))))
              have hA3437 := va_at.kept hA3437 (oq _ (m_ne hq3436 hq3440 (by first | decide | (dsimp only; decide))))
              have hA3504 := va_at.kept hA3504 (oq _ (m_ne hq3444 hq3440 (by first | decide | (dsimp only; decide))))
              have hA3487 := va_at.kept hA3487 (oq _ (m_ne hq3484 hq3440 (by first | decide | (dsimp only; decide))))
              have e3515 : 0 = (upd va (v3423 : Int32).toNatClampNeg 0) (v3423 : Int32).toNatClampNeg := rd_us
              refine lv_aload_n hx hb dX12_splits_120 rfl (lv_at hl 3 rfl) ?_
              refine gmA hx hb hts inT12 hown hK hI List.not_mem_nil hG0 12 (by decide) (hts _ (tb_c wd_1245)) rfl rfl dX12_splits_121 (fun a3516 hq3517 hf3518 => ?_)
              obtain rfl := fr.uniq (by decide) hf3435 hf3518
              refine lv_aload_n hx hb dX12_splits_124 rfl (lv_at hl 3 rfl) ?_
              refine gmI hx hb hts inT12 hown hK hI List.not_mem_nil hG0 15 (by decide) (hts _ (tb_c wd_1248)) rfl rfl dX12_splits_125 (fun w3519 hg3520 k3521 k3522 => ?_)
              obtain rfl := gf.uniq (by decide) hg3429 hg3520
              refine lv_iload_n hx hb dX12_splits_128 rfl (lv_at hl 1 rfl) ?_
              refine th_cSs (As := [.int v3421]) (rest := [.int v3423, .ref a3434]) (n := 1) (d := 1) ⟨hx, hb, hml, hown, hts⟩ (c_X12_isSmall l H v3421) wd_1572 wd_1573 wd_13 wd_1574 (by decide +kernel) ⟨by rw [hR]; exact Nat.le_of_ble_eq_true rfl, by rw [hR]; exact Nat.le_of_ble_eq_true rfl⟩ hN hS rfl hl.1 rfl (Nat.le_of_ble_eq_true rfl) dX12_splits_129 ⟨Nat.zero_le _, Nat.zero_le _⟩ (fun r3523 locs hp hS => ?_)
              rcases hp with ⟨rfl, hp⟩ | ⟨rfl, hp⟩
              · skip
                try simp only [rg, not_and, Int.not_le] at hp
                have hp3524 := hp
                exfalso; omega
              · skip
                try simp only [rg, not_and, Int.not_le] at hp
                have hp3525 := hp
                refine lv_if_eq (tgt := 145) hx hb dX12_splits_132 (by decide) (fun _ => ?_) (fun c => absurd c (by decide))
                refine lv_iload_n hx hb dX12_splits_145 rfl (lv_at hl 1 rfl) ?_
                refine th_cSs (As := [.int v3421]) (rest := [.int v3423, .ref a3434]) (n := 1) (d := 1) ⟨hx, hb, hml, hown, hts⟩ (c_X12_isDigit l H v3421) wd_1575 wd_1576 wd_13 wd_1577 (by decide +kernel) ⟨by rw [hR]; exact Nat.le_of_ble_eq_true rfl, by rw [hR]; exact Nat.le_of_ble_eq_true rfl⟩ hN hS rfl hl.1 rfl (Nat.le_of_ble_eq_true rfl) dX12_splits_146 ⟨Nat.zero_le _, Nat.zero_le _⟩ (fun r3526 locs hp hS => ?_)
                rcases hp with ⟨rfl, hp⟩ | ⟨rfl, hp⟩
                · skip
                  try simp only [rg, not_and, Int.not_le] at hp
                  have hp3527 := hp
                  refine lv_if_eq (tgt := 157) hx hb dX12_splits_149 (by decide) (fun c => absurd c (by decide)) (fun _ => ?_)
                  refine lv_bipush (v := 50) hx hb dX12_splits_152 (by decide) ?_
                  refine lv_goto (tgt := 165) hx hb dX12_splits_154 (by decide) ?_
                  have hzz : tk_z (tB E) sz kk (50 : Int32).toInt := Or.inr (Or.inl ⟨hrun kk (Nat.le_refl _) (by omega), by decide⟩)
                  refine th_iast hx hb hK hA3437 0 rfl hS ⟨_, hq3436⟩ (iv_in (X := v3423.toInt) rfl (by omega) (by omega)) dX12_splits_165 (fun H locs hA3528 oq hS => ?_)
                  have hI := th_I.put hI hq3436 hA3528 ok_m8 oq
                  have hg3429 := gf.arr hG0 hq3436 (by decide) oq hg3429
                  have hf3431 := fr.arr hG0 hq3436 (by decide) oq hf3431
                  have hf3435 := fr.arr hG0 hq3436 (by decide) oq hf3435
                  have hf3439 := fr.arr hG0 hq3436 (by decide) oq hf3439
                  have hf3443 := fr.arr hG0 hq3436 (by decide) oq hf3443
                  have hf3485 := fr.arr hG0 hq3436 (by decide) oq hf3485
                  have hA3433 := va_at.kept hA3433 (oq _ (m_ne hq3432 hq3436 (by first | decide | (dsimp only; decide))))
                  have hA3514 := va_at.kept hA3514 (oq _ (m_ne hq3440 hq3436 (by first | decide | (dsimp only; decide))))
                  have hA3504 := va_at.kept hA3504 (oq _ (m_ne hq3444 hq3436 (by first | decide | (dsimp only; decide))))
                  have hA3487 := va_at.kept hA3487 (oq _ (m_ne hq3484 hq3436 (by first | decide | (dsimp only; decide))))
                  have e3529 : 50 = (upd cd (v3423 : Int32).toNatClampNeg 50) (v3423 : Int32).toNatClampNeg := rd_us
                  refine lv_iload_n hx hb dX12_splits_166 rfl (lv_at hl 2 rfl) ?_
                  refine lv_istore (lv' := [(5, .int v3422), (4, .int v3420), (3, .int v3421), (2, .int v3422), (0, .ref h0), (1, .int x1)]) hx hb dX12_splits_167 hl (by decide) rfl (fun ls hl => ?_)
                  exact J_169 _ H locs ls v3422 v3420 v3421 v3422 v3423 kk tt ee kk (upd cd (v3423 : Int32).toNatClampNeg 50) (upd va (v3423 : Int32).toNatClampNeg 0) (upd pl (v3423 : Int32).toNatClampNeg v3422) rfl (lv_sub hl [0, 1, 2, 3, 4, 5] rfl) ⟨by omega, by omega⟩ ⟨by omega, by omega⟩ ⟨by omega, by omega⟩ ⟨by omega, by omega⟩ ⟨by omega, by omega⟩ hg3429 ⟨a3430, hf3431, hq3432, hA3433⟩ ⟨a3434, hf3435, hq3436, hA3528⟩ ⟨a3438, hf3439, hq3440, hA3514⟩ ⟨a3442, hf3443, hq3444, hA3504⟩ (by first | omega | (rw [show (0 : Int32).toInt = 0 from by decide]; omega)) (by first | omega | decide) (hP3505) (tk_I.upd hTI (fun j hj => ⟨by rw [up_ne (by omega) hj], by rw [up_ne (by omega) hj], by rw [YV_ne (by omega) hj]⟩)) (by omega) (by omega) (by omega) (⟨by omega, by omega⟩) (hct) (by omega) (⟨by omega, by omega⟩) (by rw [up_at (by omega)]; omega) (by rw [up_at (by omega)]; exact hzz) (by rw [up_at (by omega), show (0 : Int32).toInt = 0 from by decide]; exact VI.ini hdr) hI hS
                · skip
                  try simp only [rg, not_and, Int.not_le] at hp
                  have hp3530 := hp
                  exfalso; omega
      have J_43 : ∀ (nn : Nat) (H : Heap) (locs : List Loc) (ls : Array Slot) (v3531 : Int32) (v3532 : Int32) (v3533 : Int32) (v3534 : Int32) (kk : Nat) (tt : Nat) (ee : Nat) (cd : Nat → Int32) (va : Nat → Int32) (pl : Nat → Int32), (Int.toNat (x1.toInt - v3531.toInt) = nn) → lv_has ls 6 [(4, .int v3531), (3, .int v3532), (2, .int v3533), (0, .ref h0), (1, .int x1)] → ((1 : Int) ≤ v3531.toInt ∧ v3531.toInt ≤ 400) → ((97 : Int) ≤ v3532.toInt ∧ v3532.toInt ≤ 122) → ((0 : Int) ≤ v3533.toInt ∧ v3533.toInt ≤ 399) → ((1 : Int) ≤ x1.toInt ∧ x1.toInt ≤ 400) → ((0 : Int) ≤ v3534.toInt ∧ v3534.toInt ≤ 399) → gf D h0 15 v3534 H → ga E D G h0 3 (1, 5123) ff H → ga E D G h0 12 (8, 401) cd H → ga E D G h0 13 (0, 401) va H → ga E D G h0 14 (6, 401) pl H → (v3533.toInt = (kk : Int)) → (v3534.toInt = (tt : Int)) → (∀ j : Nat, j < 401 → 0 ≤ (pl j).toInt ∧ (pl j).toInt ≤ 400) → (TI_ E sz pl cd va kk tt) → ((v3532.toInt = (tB E kk : Int) ∧ tB E kk < 128) ∨ (v3532.toInt = (tB E kk : Int) - 256 ∧ 128 ≤ tB E kk ∧ tB E kk ≤ 255)) → (tB E kk ≠ 32) → (v3531.toInt = (ee : Int)) → (kk < ee ∧ ee ≤ sz) → (∀ j : Nat, kk ≤ j → j < ee → tk_lt (tB E j)) → th_I (okM E) D G [] H → va_S (th_A G) s.heap H locs → W p l e R s m args below meth c H locs 0 0 QF (F0 m 43 ls []) := by
        intro nn
        induction nn using Nat.strongRecOn with
        | ind nn ih_43 =>
          intro H locs ls v3531 v3532 v3533 v3534 kk tt ee cd va pl hm hl k3535 k3536 k3537 k3538 k3539 hg3540 hga_3 hga_12 hga_13 hga_14 hk2 ht15 hPl hTI hb3 hb32 hk4 hke hrun hI hS
          obtain ⟨a3541, hf3542, hq3543, hA3544⟩ := hga_3
          obtain ⟨a3545, hf3546, hq3547, hA3548⟩ := hga_12
          obtain ⟨a3549, hf3550, hq3551, hA3552⟩ := hga_13
          obtain ⟨a3553, hf3554, hq3555, hA3556⟩ := hga_14
          have hle := tk_I.le hTI
          refine lv_iload hx hb dX12_splits_43 (lv_at hl 0 rfl) ?_
          refine lv_iload_n hx hb dX12_splits_45 rfl (lv_at hl 4 rfl) ?_
          refine lv_icmp_ge (tgt := 68) hx hb dX12_splits_46 (by decide) (fun c3557 => ?_) (fun c3557 => ?_)
          · skip
            have k3558 := iv_le (X := x1.toInt) (Y := v3531.toInt) rfl rfl c3557
            refine lv_iload_n hx hb dX12_splits_68 rfl (lv_at hl 1 rfl) ?_
            refine th_cSs (As := [.int v3532]) (rest := []) (n := 1) (d := 1) ⟨hx, hb, hml, hown, hts⟩ (c_X12_isDigit l H v3532) wd_1575 wd_1576 wd_13 wd_1577 (by decide +kernel) ⟨by rw [hR]; exact Nat.le_of_ble_eq_true rfl, by rw [hR]; exact Nat.le_of_ble_eq_true rfl⟩ hN hS rfl hl.1 rfl (Nat.le_of_ble_eq_true rfl) dX12_splits_69 ⟨Nat.zero_le _, Nat.zero_le _⟩ (fun r3559 locs hp hS => ?_)
            rcases hp with ⟨rfl, hp⟩ | ⟨rfl, hp⟩
            · skip
              try simp only [rg, not_and, Int.not_le] at hp
              have hp3560 := hp
              exfalso; omega
            · skip
              try simp only [rg, not_and, Int.not_le] at hp
              have hp3561 := hp
              refine lv_if_eq (tgt := 100) hx hb dX12_splits_72 (by decide) (fun _ => ?_) (fun c => absurd c (by decide))
              have hrl : tk_rl (tB E) sz kk ee := ⟨by omega, by omega, hrun, by first | exact Or.inl (by omega) | exact Or.inr (by unfold tk_lt; omega)⟩
              have hct := tk_rl_ct hrl
              have hdr : tk_dg (tB E kk) → tk_rd (tB E) sz kk ee := fun z => by have := hrun kk (Nat.le_refl _) (by omega); unfold tk_lt at this; unfold tk_dg at z; omega
              refine lv_aload_n hx hb dX12_splits_100 rfl (lv_at hl 3 rfl) ?_
              refine gmA hx hb hts inT12 hown hK hI List.not_mem_nil hG0 14 (by decide) (hts _ (tb_c wd_1247)) rfl rfl dX12_splits_101 (fun a3562 hq3563 hf3564 => ?_)
              obtain rfl := fr.uniq (by decide) hf3554 hf3564
              refine lv_aload_n hx hb dX12_splits_104 rfl (lv_at hl 3 rfl) ?_
              refine gmI hx hb hts inT12 hown hK hI List.not_mem_nil hG0 15 (by decide) (hts _ (tb_c wd_1248)) rfl rfl dX12_splits_105 (fun w3565 hg3566 k3567 k3568 => ?_)
              obtain rfl := gf.uniq (by decide) hg3540 hg3566
              refine lv_iload_n hx hb dX12_splits_108 rfl (lv_at hl 2 rfl) ?_
              refine th_iast hx hb hK hA3556 0 rfl hS ⟨_, hq3555⟩ (iv_in (X := v3534.toInt) rfl (by omega) (by omega)) dX12_splits_109 (fun H locs hA3569 oq hS => ?_)
              have hP3570 := rgs_set (k := v3534.toNatClampNeg) (v := v3533) hPl (by omega) (by omega)
              have hI := th_I.put hI hq3555 hA3569 (ok_m6 hP3570) oq
              have hg3540 := gf.arr hG0 hq3555 (by decide) oq hg3540
              have hf3542 := fr.arr hG0 hq3555 (by decide) oq hf3542
              have hf3546 := fr.arr hG0 hq3555 (by decide) oq hf3546
              have hf3550 := fr.arr hG0 hq3555 (by decide) oq hf3550
              have hf3554 := fr.arr hG0 hq3555 (by decide) oq hf3554
              have hA3544 := va_at.kept hA3544 (oq _ (m_ne hq3543 hq3555 (by first | decide | (dsimp only; decide))))
              have hA3548 := va_at.kept hA3548 (oq _ (m_ne hq3547 hq3555 (by first | decide | (dsimp only; decide))))
              have hA3552 := va_at.kept hA3552 (oq _ (m_ne hq3551 hq3555 (by first | decide | (dsimp only; decide))))
              have e3571 : v3533 = (upd pl (v3534 : Int32).toNatClampNeg v3533) (v3534 : Int32).toNatClampNeg := rd_us
              refine lv_aload_n hx hb dX12_splits_110 rfl (lv_at hl 3 rfl) ?_
              refine gmA hx hb hts inT12 hown hK hI List.not_mem_nil hG0 13 (by decide) (hts _ (tb_c wd_1246)) rfl rfl dX12_splits_111 (fun a3572 hq3573 hf3574 => ?_)
              obtain rfl := fr.uniq (by decide) hf3550 hf3574
              refine lv_aload_n hx hb dX12_splits_114 rfl (lv_at hl 3 rfl) ?_
              refine gmI hx hb hts inT12 hown hK hI List.not_mem_nil hG0 15 (by decide) (hts _ (tb_c wd_1248)) rfl rfl dX12_splits_115 (fun w3575 hg3576 k3577 k3578 => ?_)
              obtain rfl := gf.uniq (by decide) hg3540 hg3576
              refine lv_iconst (v := 0) hx hb dX12_splits_118 (by decide) ?_
              refine th_iast hx hb hK hA3552 0 rfl hS ⟨_, hq3551⟩ (iv_in (X := v3534.toInt) rfl (by omega) (by omega)) dX12_splits_119 (fun H locs hA3579 oq hS => ?_)
              have hI := th_I.put hI hq3551 hA3579 ok_m0 oq
              have hg3540 := gf.arr hG0 hq3551 (by decide) oq hg3540
              have hf3542 := fr.arr hG0 hq3551 (by decide) oq hf3542
              have hf3546 := fr.arr hG0 hq3551 (by decide) oq hf3546
              have hf3550 := fr.arr hG0 hq3551 (by decide) oq hf3550
              have hf3554 := fr.arr hG0 hq3551 (by decide) oq hf3554
              have hA3544 := va_at.kept hA3544 (oq _ (m_ne hq3543 hq3551 (by first | decide | (dsimp only; decide))))
              have hA3548 := va_at.kept hA3548 (oq _ (m_ne hq3547 hq3551 (by first | decide | (dsimp only; decide))))
              have hA3569 := va_at.kept hA3569 (oq _ (m_ne hq3555 hq3551 (by first | decide | (dsimp only; decide))))
              have e3580 : 0 = (upd va (v3534 : Int32).toNatClampNeg 0) (v3534 : Int32).toNatClampNeg := rd_us
              refine lv_aload_n hx hb dX12_splits_120 rfl (lv_at hl 3 rfl) ?_
              refine gmA hx hb hts inT12 hown hK hI List.not_mem_nil hG0 12 (by decide) (hts _ (tb_c wd_1245)) rfl rfl dX12_splits_121 (fun a3581 hq3582 hf3583 => ?_)
              obtain rfl := fr.uniq (by decide) hf3546 hf3583
              refine lv_aload_n hx hb dX12_splits_124 rfl (lv_at hl 3 rfl) ?_
              refine gmI hx hb hts inT12 hown hK hI List.not_mem_nil hG0 15 (by decide) (hts _ (tb_c wd_1248)) rfl rfl dX12_splits_125 (fun w3584 hg3585 k3586 k3587 => ?_)
              obtain rfl := gf.uniq (by decide) hg3540 hg3585
              refine lv_iload_n hx hb dX12_splits_128 rfl (lv_at hl 1 rfl) ?_
              refine th_cSs (As := [.int v3532]) (rest := [.int v3534, .ref a3545]) (n := 1) (d := 1) ⟨hx, hb, hml, hown, hts⟩ (c_X12_isSmall l H v3532) wd_1572 wd_1573 wd_13 wd_1574 (by decide +kernel) ⟨by rw [hR]; exact Nat.le_of_ble_eq_true rfl, by rw [hR]; exact Nat.le_of_ble_eq_true rfl⟩ hN hS rfl hl.1 rfl (Nat.le_of_ble_eq_true rfl) dX12_splits_129 ⟨Nat.zero_le _, Nat.zero_le _⟩ (fun r3588 locs hp hS => ?_)
              rcases hp with ⟨rfl, hp⟩ | ⟨rfl, hp⟩
              · skip
                try simp only [rg, not_and, Int.not_le] at hp
                have hp3589 := hp
                refine lv_if_eq (tgt := 145) hx hb dX12_splits_132 (by decide) (fun c => absurd c (by decide)) (fun _ => ?_)
                refine lv_aload_n hx hb dX12_splits_135 rfl (lv_at hl 3 rfl) ?_
                refine lv_iload_n hx hb dX12_splits_136 rfl (lv_at hl 2 rfl) ?_
                refine lv_iload hx hb dX12_splits_137 (lv_at hl 0 rfl) ?_
                refine mr_i (As := [.int v3533, .int v3531]) (rest := [.int v3534, .ref a3545]) (n := 2) (d := 0) ⟨hx, hb, hml, hown, hts⟩ (c_X12_wordOf l E D G H h0 hG0 v3533 v3531 ⟨by omega, by omega⟩ ⟨by omega, by omega⟩ kk ee (by omega) (by omega) (by omega)) wd_1578 wd_1580 wp_64 wd_13 wd_1581 (by decide +kernel) ⟨by rw [hR]; exact Nat.le_of_ble_eq_true rfl, by rw [hR]; exact Nat.le_of_ble_eq_true rfl⟩ hI hN hK hS hG0 rfl hl.1 rfl (Nat.le_of_ble_eq_true rfl) dX12_splits_139 ⟨Nat.zero_le _, Nat.zero_le _⟩ (fun r3590 locs hp hS => ?_)
                obtain ⟨w3591, hw3592, hw3593⟩ := hp
                refine lv_goto (tgt := 165) hx hb dX12_splits_142 (by decide) ?_
                have hzz : tk_z (tB E) sz kk (r3590).toInt := by rw [hw3592]; exact tk_z_lt hrl hw3593
                refine th_iast hx hb hK hA3548 0 rfl hS ⟨_, hq3547⟩ (iv_in (X := v3534.toInt) rfl (by omega) (by omega)) dX12_splits_165 (fun H locs hA3594 oq hS => ?_)
                have hI := th_I.put hI hq3547 hA3594 ok_m8 oq
                have hg3540 := gf.arr hG0 hq3547 (by decide) oq hg3540
                have hf3542 := fr.arr hG0 hq3547 (by decide) oq hf3542
                have hf3546 := fr.arr hG0 hq3547 (by decide) oq hf3546
                have hf3550 := fr.arr hG0 hq3547 (by decide) oq hf3550
                have hf3554 := fr.arr hG0 hq3547 (by decide) oq hf3554
                have hA3544 := va_at.kept hA3544 (oq _ (m_ne hq3543 hq3547 (by first | decide | (dsimp only; decide))))
                have hA3579 := va_at.kept hA3579 (oq _ (m_ne hq3551 hq3547 (by first | decide | (dsimp only; decide))))
                have hA3569 := va_at.kept hA3569 (oq _ (m_ne hq3555 hq3547 (by first | decide | (dsimp only; decide))))
                have e3595 : r3590 = (upd cd (v3534 : Int32).toNatClampNeg r3590) (v3534 : Int32).toNatClampNeg := rd_us
                refine lv_iload_n hx hb dX12_splits_166 rfl (lv_at hl 2 rfl) ?_
                refine lv_istore (lv' := [(5, .int v3533), (4, .int v3531), (3, .int v3532), (2, .int v3533), (0, .ref h0), (1, .int x1)]) hx hb dX12_splits_167 hl (by decide) rfl (fun ls hl => ?_)
                exact J_169 _ H locs ls v3533 v3531 v3532 v3533 v3534 kk tt ee kk (upd cd (v3534 : Int32).toNatClampNeg r3590) (upd va (v3534 : Int32).toNatClampNeg 0) (upd pl (v3534 : Int32).toNatClampNeg v3533) rfl (lv_sub hl [0, 1, 2, 3, 4, 5] rfl) ⟨by omega, by omega⟩ ⟨by omega, by omega⟩ ⟨by omega, by omega⟩ ⟨by omega, by omega⟩ ⟨by omega, by omega⟩ hg3540 ⟨a3541, hf3542, hq3543, hA3544⟩ ⟨a3545, hf3546, hq3547, hA3594⟩ ⟨a3549, hf3550, hq3551, hA3579⟩ ⟨a3553, hf3554, hq3555, hA3569⟩ (by first | omega | (rw [show (0 : Int32).toInt = 0 from by decide]; omega)) (by first | omega | decide) (hP3570) (tk_I.upd hTI (fun j hj => ⟨by rw [up_ne (by omega) hj], by rw [up_ne (by omega) hj], by rw [YV_ne (by omega) hj]⟩)) (by omega) (by omega) (by omega) (⟨by omega, by omega⟩) (hct) (by omega) (⟨by omega, by omega⟩) (by rw [up_at (by omega)]; omega) (by rw [up_at (by omega)]; exact hzz) (by rw [up_at (by omega), show (0 : Int32).toInt = 0 from by decide]; exact VI.ini hdr) hI hS
              · skip
                try simp only [rg, not_and, Int.not_le] at hp
                have hp3596 := hp
                exfalso; omega
          · skip
            have k3597 := iv_nle (X := x1.toInt) (Y := v3531.toInt) rfl rfl c3557
            refine lv_aload_n hx hb dX12_splits_49 rfl (lv_at hl 3 rfl) ?_
            refine gmA hx hb hts inT12 hown hK hI List.not_mem_nil hG0 8 (by decide) (hts _ (tb_c wd_1241)) rfl rfl dX12_splits_50 (fun a3598 hq3599 hf3600 => ?_)
            refine lv_iload hx hb dX12_splits_53 (lv_at hl 0 rfl) ?_
            obtain ⟨F3601, hA3602, hP3603⟩ := om_4 hI hq3599 List.not_mem_nil
            refine va_bald hx hb hK (th_one hA3602) 0 3 rfl rfl (iv_in (X := v3531.toInt) rfl (by omega) (by omega)) dX12_splits_55 ?_
            refine lv_topi (fun v3604 e3605 => ?_)
            have k3606 := tp_at hP3603 e3605 (p := ee) (by omega) (by omega)
            refine th_cSs (As := [.int v3604]) (rest := []) (n := 1) (d := 1) ⟨hx, hb, hml, hown, hts⟩ (c_X12_isSmall l H v3604) wd_1572 wd_1573 wd_13 wd_1574 (by decide +kernel) ⟨by rw [hR]; exact Nat.le_of_ble_eq_true rfl, by rw [hR]; exact Nat.le_of_ble_eq_true rfl⟩ hN hS rfl hl.1 rfl (Nat.le_of_ble_eq_true rfl) dX12_splits_56 ⟨Nat.zero_le _, Nat.zero_le _⟩ (fun r3607 locs hp hS => ?_)
            rcases hp with ⟨rfl, hp⟩ | ⟨rfl, hp⟩
            · skip
              try simp only [rg, not_and, Int.not_le] at hp
              have hp3608 := hp
              refine lv_if_eq (tgt := 68) hx hb dX12_splits_59 (by decide) (fun c => absurd c (by decide)) (fun _ => ?_)
              obtain ⟨v3609, e3610⟩ : ∃ y : Int32, y = v3531 + (1) := ⟨_, rfl⟩
              have tv3609 : v3609.toInt = v3531.toInt + (1) := iv_add rfl (by decide) e3610 (by omega) (by omega)
              refine lv_iinc (v := v3609) (lv' := [(4, .int v3609), (3, .int v3532), (2, .int v3533), (0, .ref h0), (1, .int x1)]) hx hb dX12_splits_62 hl (k := 0) rfl (by rw [e3610]; rfl) (by decide) rfl (fun ls hl => ?_)
              refine lv_goto (tgt := 43) hx hb dX12_splits_65 (by decide) ?_
              exact ih_43 _ (by omega) H locs ls v3609 v3532 v3533 v3534 kk tt (ee + 1) cd va pl rfl (lv_sub hl [0, 1, 2, 3, 4] rfl) ⟨by omega, by omega⟩ ⟨by omega, by omega⟩ ⟨by omega, by omega⟩ ⟨by omega, by omega⟩ ⟨by omega, by omega⟩ hg3540 ⟨a3541, hf3542, hq3543, hA3544⟩ ⟨a3545, hf3546, hq3547, hA3548⟩ ⟨a3549, hf3550, hq3551, hA3552⟩ ⟨a3553, hf3554, hq3555, hA3556⟩ (by first | omega | (rw [show (0 : Int32).toInt = 0 from by decide]; omega)) (by first | omega | decide) (hPl) (hTI) (by omega) (by omega) (by omega) (⟨by omega, by omega⟩) (fun j h1 h2 => (Nat.lt_or_ge j ee).elim (fun q => hrun j h1 q) (fun q => by rw [show j = ee by omega]; unfold tk_lt; omega)) hI hS
            · skip
              try simp only [rg, not_and, Int.not_le] at hp
              have hp3611 := hp
              refine lv_if_eq (tgt := 68) hx hb dX12_splits_59 (by decide) (fun _ => ?_) (fun c => absurd c (by decide))
              refine lv_iload_n hx hb dX12_splits_68 rfl (lv_at hl 1 rfl) ?_
              refine th_cSs (As := [.int v3532]) (rest := []) (n := 1) (d := 1) ⟨hx, hb, hml, hown, hts⟩ (c_X12_isDigit l H v3532) wd_1575 wd_1576 wd_13 wd_1577 (by decide +kernel) ⟨by rw [hR]; exact Nat.le_of_ble_eq_true rfl, by rw [hR]; exact Nat.le_of_ble_eq_true rfl⟩ hN hS rfl hl.1 rfl (Nat.le_of_ble_eq_true rfl) dX12_splits_69 ⟨Nat.zero_le _, Nat.zero_le _⟩ (fun r3612 locs hp hS => ?_)
              rcases hp with ⟨rfl, hp⟩ | ⟨rfl, hp⟩
              · skip
                try simp only [rg, not_and, Int.not_le] at hp
                have hp3613 := hp
                exfalso; omega
              · skip
                try simp only [rg, not_and, Int.not_le] at hp
                have hp3614 := hp
                refine lv_if_eq (tgt := 100) hx hb dX12_splits_72 (by decide) (fun _ => ?_) (fun c => absurd c (by decide))
                have hrl : tk_rl (tB E) sz kk ee := ⟨by omega, by omega, hrun, by first | exact Or.inl (by omega) | exact Or.inr (by unfold tk_lt; omega)⟩
                have hct := tk_rl_ct hrl
                have hdr : tk_dg (tB E kk) → tk_rd (tB E) sz kk ee := fun z => by have := hrun kk (Nat.le_refl _) (by omega); unfold tk_lt at this; unfold tk_dg at z; omega
                refine lv_aload_n hx hb dX12_splits_100 rfl (lv_at hl 3 rfl) ?_
                refine gmA hx hb hts inT12 hown hK hI List.not_mem_nil hG0 14 (by decide) (hts _ (tb_c wd_1247)) rfl rfl dX12_splits_101 (fun a3615 hq3616 hf3617 => ?_)
                obtain rfl := fr.uniq (by decide) hf3554 hf3617
                refine lv_aload_n hx hb dX12_splits_104 rfl (lv_at hl 3 rfl) ?_
                refine gmI hx hb hts inT12 hown hK hI List.not_mem_nil hG0 15 (by decide) (hts _ (tb_c wd_1248)) rfl rfl dX12_splits_105 (fun w3618 hg3619 k3620 k3621 => ?_)
                obtain rfl := gf.uniq (by decide) hg3540 hg3619
                refine lv_iload_n hx hb dX12_splits_108 rfl (lv_at hl 2 rfl) ?_
                refine th_iast hx hb hK hA3556 0 rfl hS ⟨_, hq3555⟩ (iv_in (X := v3534.toInt) rfl (by omega) (by omega)) dX12_splits_109 (fun H locs hA3622 oq hS => ?_)
                have hP3623 := rgs_set (k := v3534.toNatClampNeg) (v := v3533) hPl (by omega) (by omega)
                have hI := th_I.put hI hq3555 hA3622 (ok_m6 hP3623) oq
                have hg3540 := gf.arr hG0 hq3555 (by decide) oq hg3540
                have hf3542 := fr.arr hG0 hq3555 (by decide) oq hf3542
                have hf3546 := fr.arr hG0 hq3555 (by decide) oq hf3546
                have hf3550 := fr.arr hG0 hq3555 (by decide) oq hf3550
                have hf3554 := fr.arr hG0 hq3555 (by decide) oq hf3554
                have hf3600 := fr.arr hG0 hq3555 (by decide) oq hf3600
                have hA3544 := va_at.kept hA3544 (oq _ (m_ne hq3543 hq3555 (by first | decide | (dsimp only; decide))))
                have hA3548 := va_at.kept hA3548 (oq _ (m_ne hq3547 hq3555 (by first | decide | (dsimp only; decide))))
                have hA3552 := va_at.kept hA3552 (oq _ (m_ne hq3551 hq3555 (by first | decide | (dsimp only; decide))))
                have hA3602 := va_at.kept hA3602 (oq _ (m_ne hq3599 hq3555 (by first | decide | (dsimp only; decide))))
                have e3624 : v3533 = (upd pl (v3534 : Int32).toNatClampNeg v3533) (v3534 : Int32).toNatClampNeg := rd_us
                refine lv_aload_n hx hb dX12_splits_110 rfl (lv_at hl 3 rfl) ?_
                refine gmA hx hb hts inT12 hown hK hI List.not_mem_nil hG0 13 (by decide) (hts _ (tb_c wd_1246)) rfl rfl dX12_splits_111 (fun a3625 hq3626 hf3627 => ?_)
                obtain rfl := fr.uniq (by decide) hf3550 hf3627
                refine lv_aload_n hx hb dX12_splits_114 rfl (lv_at hl 3 rfl) ?_
                refine gmI hx hb hts inT12 hown hK hI List.not_mem_nil hG0 15 (by decide) (hts _ (tb_c wd_1248)) rfl rfl dX12_splits_115 (fun w3628 hg3629 k3630 k3631 => ?_)
                obtain rfl := gf.uniq (by decide) hg3540 hg3629
                refine lv_iconst (v := 0) hx hb dX12_splits_118 (by decide) ?_
                refine th_iast hx hb hK hA3552 0 rfl hS ⟨_, hq3551⟩ (iv_in (X := v3534.toInt) rfl (by omega) (by omega)) dX12_splits_119 (fun H locs hA3632 oq hS => ?_)
                have hI := th_I.put hI hq3551 hA3632 ok_m0 oq
                have hg3540 := gf.arr hG0 hq3551 (by decide) oq hg3540
                have hf3542 := fr.arr hG0 hq3551 (by decide) oq hf3542
                have hf3546 := fr.arr hG0 hq3551 (by decide) oq hf3546
                have hf3550 := fr.arr hG0 hq3551 (by decide) oq hf3550
                have hf3554 := fr.arr hG0 hq3551 (by decide) oq hf3554
                have hf3600 := fr.arr hG0 hq3551 (by decide) oq hf3600
                have hA3544 := va_at.kept hA3544 (oq _ (m_ne hq3543 hq3551 (by first | decide | (dsimp only; decide))))
                have hA3548 := va_at.kept hA3548 (oq _ (m_ne hq3547 hq3551 (by first | decide | (dsimp only; decide))))
                have hA3622 := va_at.kept hA3622 (oq _ (m_ne hq3555 hq3551 (by first | decide | (dsimp only; decide))))
                have hA3602 := va_at.kept hA3602 (oq _ (m_ne hq3599 hq3551 (by first | decide | (dsimp only; decide))))
                have e3633 : 0 = (upd va (v3534 : Int32).toNatClampNeg 0) (v3534 : Int32).toNatClampNeg := rd_us
                refine lv_aload_n hx hb dX12_splits_120 rfl (lv_at hl 3 rfl) ?_
                refine gmA hx hb hts inT12 hown hK hI List.not_mem_nil hG0 12 (by decide) (hts _ (tb_c wd_1245)) rfl rfl dX12_splits_121 (fun a3634 hq3635 hf3636 => ?_)
                obtain rfl := fr.uniq (by decide) hf3546 hf3636
                refine lv_aload_n hx hb dX12_splits_124 rfl (lv_at hl 3 rfl) ?_
                refine gmI hx hb hts inT12 hown hK hI List.not_mem_nil hG0 15 (by decide) (hts _ (tb_c wd_1248)) rfl rfl dX12_splits_125 (fun w3637 hg3638 k3639 k3640 => ?_)
                obtain rfl := gf.uniq (by decide) hg3540 hg3638
                refine lv_iload_n hx hb dX12_splits_128 rfl (lv_at hl 1 rfl) ?_
                refine th_cSs (As := [.int v3532]) (rest := [.int v3534, .ref a3545]) (n := 1) (d := 1) ⟨hx, hb, hml, hown, hts⟩ (c_X12_isSmall l H v3532) wd_1572 wd_1573 wd_13 wd_1574 (by decide +kernel) ⟨by rw [hR]; exact Nat.le_of_ble_eq_true rfl, by rw [hR]; exact Nat.le_of_ble_eq_true rfl⟩ hN hS rfl hl.1 rfl (Nat.le_of_ble_eq_true rfl) dX12_splits_129 ⟨Nat.zero_le _, Nat.zero_le _⟩ (fun r3641 locs hp hS => ?_)
                rcases hp with ⟨rfl, hp⟩ | ⟨rfl, hp⟩
                · skip
                  try simp only [rg, not_and, Int.not_le] at hp
                  have hp3642 := hp
                  refine lv_if_eq (tgt := 145) hx hb dX12_splits_132 (by decide) (fun c => absurd c (by decide)) (fun _ => ?_)
                  refine lv_aload_n hx hb dX12_splits_135 rfl (lv_at hl 3 rfl) ?_
                  refine lv_iload_n hx hb dX12_splits_136 rfl (lv_at hl 2 rfl) ?_
                  refine lv_iload hx hb dX12_splits_137 (lv_at hl 0 rfl) ?_
                  refine mr_i (As := [.int v3533, .int v3531]) (rest := [.int v3534, .ref a3545]) (n := 2) (d := 0) ⟨hx, hb, hml, hown, hts⟩ (c_X12_wordOf l E D G H h0 hG0 v3533 v3531 ⟨by omega, by omega⟩ ⟨by omega, by omega⟩ kk ee (by omega) (by omega) (by omega)) wd_1578 wd_1580 wp_64 wd_13 wd_1581 (by decide +kernel) ⟨by rw [hR]; exact Nat.le_of_ble_eq_true rfl, by rw [hR]; exact Nat.le_of_ble_eq_true rfl⟩ hI hN hK hS hG0 rfl hl.1 rfl (Nat.le_of_ble_eq_true rfl) dX12_splits_139 ⟨Nat.zero_le _, Nat.zero_le _⟩ (fun r3643 locs hp hS => ?_)
                  obtain ⟨w3644, hw3645, hw3646⟩ := hp
                  refine lv_goto (tgt := 165) hx hb dX12_splits_142 (by decide) ?_
                  have hzz : tk_z (tB E) sz kk (r3643).toInt := by rw [hw3645]; exact tk_z_lt hrl hw3646
                  refine th_iast hx hb hK hA3548 0 rfl hS ⟨_, hq3547⟩ (iv_in (X := v3534.toInt) rfl (by omega) (by omega)) dX12_splits_165 (fun H locs hA3647 oq hS => ?_)
                  have hI := th_I.put hI hq3547 hA3647 ok_m8 oq
                  have hg3540 := gf.arr hG0 hq3547 (by decide) oq hg3540
                  have hf3542 := fr.arr hG0 hq3547 (by decide) oq hf3542
                  have hf3546 := fr.arr hG0 hq3547 (by decide) oq hf3546
                  have hf3550 := fr.arr hG0 hq3547 (by decide) oq hf3550
                  have hf3554 := fr.arr hG0 hq3547 (by decide) oq hf3554
                  have hf3600 := fr.arr hG0 hq3547 (by decide) oq hf3600
                  have hA3544 := va_at.kept hA3544 (oq _ (m_ne hq3543 hq3547 (by first | decide | (dsimp only; decide))))
                  have hA3632 := va_at.kept hA3632 (oq _ (m_ne hq3551 hq3547 (by first | decide | (dsimp only; decide))))
                  have hA3622 := va_at.kept hA3622 (oq _ (m_ne hq3555 hq3547 (by first | decide | (dsimp only; decide))))
                  have hA3602 := va_at.kept hA3602 (oq _ (m_ne hq3599 hq3547 (by first | decide | (dsimp only; decide))))
                  have e3648 : r3643 = (upd cd (v3534 : Int32).toNatClampNeg r3643) (v3534 : Int32).toNatClampNeg := rd_us
                  refine lv_iload_n hx hb dX12_splits_166 rfl (lv_at hl 2 rfl) ?_
                  refine lv_istore (lv' := [(5, .int v3533), (4, .int v3531), (3, .int v3532), (2, .int v3533), (0, .ref h0), (1, .int x1)]) hx hb dX12_splits_167 hl (by decide) rfl (fun ls hl => ?_)
                  exact J_169 _ H locs ls v3533 v3531 v3532 v3533 v3534 kk tt ee kk (upd cd (v3534 : Int32).toNatClampNeg r3643) (upd va (v3534 : Int32).toNatClampNeg 0) (upd pl (v3534 : Int32).toNatClampNeg v3533) rfl (lv_sub hl [0, 1, 2, 3, 4, 5] rfl) ⟨by omega, by omega⟩ ⟨by omega, by omega⟩ ⟨by omega, by omega⟩ ⟨by omega, by omega⟩ ⟨by omega, by omega⟩ hg3540 ⟨a3541, hf3542, hq3543, hA3544⟩ ⟨a3545, hf3546, hq3547, hA3647⟩ ⟨a3549, hf3550, hq3551, hA3632⟩ ⟨a3553, hf3554, hq3555, hA3622⟩ (by first | omega | (rw [show (0 : Int32).toInt = 0 from by decide]; omega)) (by first | omega | decide) (hP3623) (tk_I.upd hTI (fun j hj => ⟨by rw [up_ne (by omega) hj], by rw [up_ne (by omega) hj], by rw [YV_ne (by omega) hj]⟩)) (by omega) (by omega) (by omega) (⟨by omega, by omega⟩) (hct) (by omega) (⟨by omega, by omega⟩) (by rw [up_at (by omega)]; omega) (by rw [up_at (by omega)]; exact hzz) (by rw [up_at (by omega), show (0 : Int32).toInt = 0 from by decide]; exact VI.ini hdr) hI hS
                · skip
                  try simp only [rg, not_and, Int.not_le] at hp
                  have hp3649 := hp
                  exfalso; omega
      refine lv_iload_n hx hb dX12_splits_7 rfl (lv_at hl 0 rfl) ?_
      refine lv_iload_n hx hb dX12_splits_8 rfl (lv_at hl 2 rfl) ?_
      refine lv_icmp_ge (tgt := 263) hx hb dX12_splits_9 (by decide) (fun c3650 => ?_) (fun c3650 => ?_)
      · skip
        have k3651 := iv_le (X := x1.toInt) (Y := v3290.toInt) rfl rfl c3650
        refine lv_aload_n hx hb dX12_splits_263 rfl (lv_at hl 1 rfl) ?_
        refine gmA hx hb hts inT12 hown hK hI List.not_mem_nil hG0 14 (by decide) (hts _ (tb_c wd_1247)) rfl rfl dX12_splits_264 (fun a3652 hq3653 hf3654 => ?_)
        obtain rfl := fr.uniq (by decide) hf3309 hf3654
        refine lv_aload_n hx hb dX12_splits_267 rfl (lv_at hl 1 rfl) ?_
        refine gmI hx hb hts inT12 hown hK hI List.not_mem_nil hG0 15 (by decide) (hts _ (tb_c wd_1248)) rfl rfl dX12_splits_268 (fun w3655 hg3656 k3657 k3658 => ?_)
        obtain rfl := gf.uniq (by decide) hg3295 hg3656
        refine lv_iload_n hx hb dX12_splits_271 rfl (lv_at hl 2 rfl) ?_
        refine th_iast hx hb hK hA3311 0 rfl hS ⟨_, hq3310⟩ (iv_in (X := v3291.toInt) rfl (by omega) (by omega)) dX12_splits_272 (fun H locs hA3659 oq hS => ?_)
        have hP3660 := rgs_set (k := v3291.toNatClampNeg) (v := x1) hPl (by omega) (by omega)
        have hI := th_I.put hI hq3310 hA3659 (ok_m6 hP3660) oq
        have hg3295 := gf.arr hG0 hq3310 (by decide) oq hg3295
        have hf3297 := fr.arr hG0 hq3310 (by decide) oq hf3297
        have hf3301 := fr.arr hG0 hq3310 (by decide) oq hf3301
        have hf3305 := fr.arr hG0 hq3310 (by decide) oq hf3305
        have hf3309 := fr.arr hG0 hq3310 (by decide) oq hf3309
        have hA3299 := va_at.kept hA3299 (oq _ (m_ne hq3298 hq3310 (by first | decide | (dsimp only; decide))))
        have hA3303 := va_at.kept hA3303 (oq _ (m_ne hq3302 hq3310 (by first | decide | (dsimp only; decide))))
        have hA3307 := va_at.kept hA3307 (oq _ (m_ne hq3306 hq3310 (by first | decide | (dsimp only; decide))))
        have e3661 : x1 = (upd pl (v3291 : Int32).toNatClampNeg x1) (v3291 : Int32).toNatClampNeg := rd_us
        refine lv_aload_n hx hb dX12_splits_273 rfl (lv_at hl 1 rfl) ?_
        refine gmA hx hb hts inT12 hown hK hI List.not_mem_nil hG0 12 (by decide) (hts _ (tb_c wd_1245)) rfl rfl dX12_splits_274 (fun a3662 hq3663 hf3664 => ?_)
        obtain rfl := fr.uniq (by decide) hf3301 hf3664
        refine lv_aload_n hx hb dX12_splits_277 rfl (lv_at hl 1 rfl) ?_
        refine gmI hx hb hts inT12 hown hK hI List.not_mem_nil hG0 15 (by decide) (hts _ (tb_c wd_1248)) rfl rfl dX12_splits_278 (fun w3665 hg3666 k3667 k3668 => ?_)
        obtain rfl := gf.uniq (by decide) hg3295 hg3666
        refine lv_iconst (v := 0) hx hb dX12_splits_281 (by decide) ?_
        refine th_iast hx hb hK hA3303 0 rfl hS ⟨_, hq3302⟩ (iv_in (X := v3291.toInt) rfl (by omega) (by omega)) dX12_splits_282 (fun H locs hA3669 oq hS => ?_)
        have hI := th_I.put hI hq3302 hA3669 ok_m8 oq
        have hg3295 := gf.arr hG0 hq3302 (by decide) oq hg3295
        have hf3297 := fr.arr hG0 hq3302 (by decide) oq hf3297
        have hf3301 := fr.arr hG0 hq3302 (by decide) oq hf3301
        have hf3305 := fr.arr hG0 hq3302 (by decide) oq hf3305
        have hf3309 := fr.arr hG0 hq3302 (by decide) oq hf3309
        have hA3299 := va_at.kept hA3299 (oq _ (m_ne hq3298 hq3302 (by first | decide | (dsimp only; decide))))
        have hA3307 := va_at.kept hA3307 (oq _ (m_ne hq3306 hq3302 (by first | decide | (dsimp only; decide))))
        have hA3659 := va_at.kept hA3659 (oq _ (m_ne hq3310 hq3302 (by first | decide | (dsimp only; decide))))
        have e3670 : 0 = (upd cd (v3291 : Int32).toNatClampNeg 0) (v3291 : Int32).toNatClampNeg := rd_us
        refine lv_aload_n hx hb dX12_splits_283 rfl (lv_at hl 1 rfl) ?_
        refine gmA hx hb hts inT12 hown hK hI List.not_mem_nil hG0 13 (by decide) (hts _ (tb_c wd_1246)) rfl rfl dX12_splits_284 (fun a3671 hq3672 hf3673 => ?_)
        obtain rfl := fr.uniq (by decide) hf3305 hf3673
        refine lv_aload_n hx hb dX12_splits_287 rfl (lv_at hl 1 rfl) ?_
        refine gmI hx hb hts inT12 hown hK hI List.not_mem_nil hG0 15 (by decide) (hts _ (tb_c wd_1248)) rfl rfl dX12_splits_288 (fun w3674 hg3675 k3676 k3677 => ?_)
        obtain rfl := gf.uniq (by decide) hg3295 hg3675
        refine lv_iconst (v := 0) hx hb dX12_splits_291 (by decide) ?_
        refine th_iast hx hb hK hA3307 0 rfl hS ⟨_, hq3306⟩ (iv_in (X := v3291.toInt) rfl (by omega) (by omega)) dX12_splits_292 (fun H locs hA3678 oq hS => ?_)
        have hI := th_I.put hI hq3306 hA3678 ok_m0 oq
        have hg3295 := gf.arr hG0 hq3306 (by decide) oq hg3295
        have hf3297 := fr.arr hG0 hq3306 (by decide) oq hf3297
        have hf3301 := fr.arr hG0 hq3306 (by decide) oq hf3301
        have hf3305 := fr.arr hG0 hq3306 (by decide) oq hf3305
        have hf3309 := fr.arr hG0 hq3306 (by decide) oq hf3309
        have hA3299 := va_at.kept hA3299 (oq _ (m_ne hq3298 hq3306 (by first | decide | (dsimp only; decide))))
        have hA3669 := va_at.kept hA3669 (oq _ (m_ne hq3302 hq3306 (by first | decide | (dsimp only; decide))))
        have hA3659 := va_at.kept hA3659 (oq _ (m_ne hq3310 hq3306 (by first | decide | (dsimp only; decide))))
        have e3679 : 0 = (upd va (v3291 : Int32).toNatClampNeg 0) (v3291 : Int32).toNatClampNeg := rd_us
        have hpost : ∃ (TT : Nat) (cd va pl : Nat → Int32), (∃ z, gf D h0 15 z H ∧ z.toInt = (TT : Int)) ∧ TT ≤ 400 ∧ ga E D G h0 3 (1, 5123) ff H ∧ ga E D G h0 12 (8, 401) cd H ∧ ga E D G h0 13 (0, 401) va H ∧ ga E D G h0 14 (6, 401) pl H ∧ (∀ j : Nat, j < 401 → 0 ≤ (pl j).toInt ∧ (pl j).toInt ≤ 400) ∧ (cd TT).toInt = 0 ∧ (pl TT).toInt = (sz : Int) ∧ TI_ E sz pl cd va sz TT := ⟨tt, (upd cd (v3291 : Int32).toNatClampNeg 0), (upd va (v3291 : Int32).toNatClampNeg 0), (upd pl (v3291 : Int32).toNatClampNeg x1), ⟨v3291, hg3295, by omega⟩, by omega, ⟨a3296, hf3297, hq3298, hA3299⟩, ⟨a3300, hf3301, hq3302, hA3669⟩, ⟨a3304, hf3305, hq3306, hA3678⟩, ⟨a3308, hf3309, hq3310, hA3659⟩, hP3660, by rw [up_at (by omega)]; decide, by rw [up_at (by omega)]; omega, by rw [show kk = sz by omega] at hTI; exact tk_I.upd hTI (fun j hj => ⟨by rw [up_ne (by omega) hj], by rw [up_ne (by omega) hj], by rw [YV_ne (by omega) hj]⟩)⟩
        rw [hQ]
        exact W.vret hx hb hr (fun t ht hW => ⟨⟨(), rfl, trivial, ⟨by rw [ht]; exact hI, hN.warm hW, va_K.moved hW.alike hK⟩, by first | (rw [ht]; exact hpost) | exact hpost⟩, hS.F ht⟩) hS.2.2 dX12_splits_293
      · skip
        have k3680 := iv_nle (X := x1.toInt) (Y := v3290.toInt) rfl rfl c3650
        refine lv_aload_n hx hb dX12_splits_12 rfl (lv_at hl 1 rfl) ?_
        refine gmA hx hb hts inT12 hown hK hI List.not_mem_nil hG0 8 (by decide) (hts _ (tb_c wd_1241)) rfl rfl dX12_splits_13 (fun a3681 hq3682 hf3683 => ?_)
        refine lv_iload_n hx hb dX12_splits_16 rfl (lv_at hl 0 rfl) ?_
        obtain ⟨F3684, hA3685, hP3686⟩ := om_4 hI hq3682 List.not_mem_nil
        refine va_bald hx hb hK (th_one hA3685) 0 3 rfl rfl (iv_in (X := v3290.toInt) rfl (by omega) (by omega)) dX12_splits_17 ?_
        refine lv_topi (fun v3687 e3688 => ?_)
        have k3689 := tp_at hP3686 e3688 (p := kk) (by omega) (by omega)
        refine lv_istore_n (lv' := [(3, .int v3687), (2, .int v3290), (0, .ref h0), (1, .int x1)]) hx hb dX12_splits_18 rfl hl (by decide) rfl (fun ls hl => ?_)
        refine lv_iload_n hx hb dX12_splits_19 rfl (lv_at hl 0 rfl) ?_
        refine lv_bipush (v := 32) hx hb dX12_splits_20 (by decide) ?_
        have k3690 := iv_lo v3687
        have k3691 := iv_hi v3687
        refine lv_icmp_ne (tgt := 31) hx hb dX12_splits_22 (by decide) (fun c3692 => ?_) (fun c3692 => ?_)
        · skip
          have k3693 := iv_ne (X := v3687.toInt) (Y := (32)) rfl (by decide) c3692
          have hb32 : tB E kk ≠ 32 := by omega
          refine lv_iload_n hx hb dX12_splits_31 rfl (lv_at hl 1 rfl) ?_
          refine lv_iconst (v := 1) hx hb dX12_splits_32 (by decide) ?_
          refine lv_iadd hx hb dX12_splits_33 ?_
          refine lv_topi (fun v3694 e3695 => ?_)
          have tv3694 : v3694.toInt = v3290.toInt + (1) := iv_add rfl (by decide) e3695 (by omega) (by omega)
          refine lv_istore (lv' := [(4, .int v3694), (3, .int v3687), (2, .int v3290), (0, .ref h0), (1, .int x1)]) hx hb dX12_splits_34 hl (by decide) rfl (fun ls hl => ?_)
          refine lv_iload_n hx hb dX12_splits_36 rfl (lv_at hl 1 rfl) ?_
          refine th_cSs (As := [.int v3687]) (rest := []) (n := 1) (d := 1) ⟨hx, hb, hml, hown, hts⟩ (c_X12_isSmall l H v3687) wd_1572 wd_1573 wd_13 wd_1574 (by decide +kernel) ⟨by rw [hR]; exact Nat.le_of_ble_eq_true rfl, by rw [hR]; exact Nat.le_of_ble_eq_true rfl⟩ hN hS rfl hl.1 rfl (Nat.le_of_ble_eq_true rfl) dX12_splits_37 ⟨Nat.zero_le _, Nat.zero_le _⟩ (fun r3696 locs hp hS => ?_)
          rcases hp with ⟨rfl, hp⟩ | ⟨rfl, hp⟩
          · skip
            try simp only [rg, not_and, Int.not_le] at hp
            have hp3697 := hp
            refine lv_if_eq (tgt := 68) hx hb dX12_splits_40 (by decide) (fun c => absurd c (by decide)) (fun _ => ?_)
            exact J_43 _ H locs ls v3694 v3687 v3290 v3291 kk tt (kk + 1) cd va pl rfl (lv_sub hl [0, 1, 2, 3, 4] rfl) ⟨by omega, by omega⟩ ⟨by omega, by omega⟩ ⟨by omega, by omega⟩ ⟨by omega, by omega⟩ ⟨by omega, by omega⟩ hg3295 ⟨a3296, hf3297, hq3298, hA3299⟩ ⟨a3300, hf3301, hq3302, hA3303⟩ ⟨a3304, hf3305, hq3306, hA3307⟩ ⟨a3308, hf3309, hq3310, hA3311⟩ (by first | omega | (rw [show (0 : Int32).toInt = 0 from by decide]; omega)) (by first | omega | decide) (hPl) (hTI) (by omega) (by omega) (by omega) (⟨by omega, by omega⟩) (fun j h1 h2 => by rw [show j = kk by omega]; unfold tk_lt; omega) hI hS
          · skip
            try simp only [rg, not_and, Int.not_le] at hp
            have hp3698 := hp
            refine lv_if_eq (tgt := 68) hx hb dX12_splits_40 (by decide) (fun _ => ?_) (fun c => absurd c (by decide))
            refine lv_iload_n hx hb dX12_splits_68 rfl (lv_at hl 1 rfl) ?_
            refine th_cSs (As := [.int v3687]) (rest := []) (n := 1) (d := 1) ⟨hx, hb, hml, hown, hts⟩ (c_X12_isDigit l H v3687) wd_1575 wd_1576 wd_13 wd_1577 (by decide +kernel) ⟨by rw [hR]; exact Nat.le_of_ble_eq_true rfl, by rw [hR]; exact Nat.le_of_ble_eq_true rfl⟩ hN hS rfl hl.1 rfl (Nat.le_of_ble_eq_true rfl) dX12_splits_69 ⟨Nat.zero_le _, Nat.zero_le _⟩ (fun r3699 locs hp hS => ?_)
            rcases hp with ⟨rfl, hp⟩ | ⟨rfl, hp⟩
            · skip
              try simp only [rg, not_and, Int.not_le] at hp
              have hp3700 := hp
              refine lv_if_eq (tgt := 100) hx hb dX12_splits_72 (by decide) (fun c => absurd c (by decide)) (fun _ => ?_)
              exact J_75 _ H locs ls v3694 v3687 v3290 v3291 kk tt (kk + 1) cd va pl rfl (lv_sub hl [0, 1, 2, 3, 4] rfl) ⟨by omega, by omega⟩ ⟨by omega, by omega⟩ ⟨by omega, by omega⟩ ⟨by omega, by omega⟩ ⟨by omega, by omega⟩ hg3295 ⟨a3296, hf3297, hq3298, hA3299⟩ ⟨a3300, hf3301, hq3302, hA3303⟩ ⟨a3304, hf3305, hq3306, hA3307⟩ ⟨a3308, hf3309, hq3310, hA3311⟩ (by first | omega | (rw [show (0 : Int32).toInt = 0 from by decide]; omega)) (by first | omega | decide) (hPl) (hTI) (by omega) (by omega) (by omega) (⟨by omega, by omega⟩) (fun j h1 h2 => by rw [show j = kk by omega]; unfold tk_dg; omega) hI hS
            · skip
              try simp only [rg, not_and, Int.not_le] at hp
              have hp3701 := hp
              refine lv_if_eq (tgt := 100) hx hb dX12_splits_72 (by decide) (fun _ => ?_) (fun c => absurd c (by decide))
              have hct : (∀ j, kk < j → j < kk + 1 → tk_ct (tB E) j) ∧ (kk + 1 = sz ∨ ¬ tk_ct (tB E) (kk + 1)) := tk_ot_ct (by unfold tk_lt; omega) (by unfold tk_dg; omega)
              have hdr : tk_dg (tB E kk) → tk_rd (tB E) sz kk (kk + 1) := fun z => by unfold tk_dg at z; omega
              refine lv_aload_n hx hb dX12_splits_100 rfl (lv_at hl 3 rfl) ?_
              refine gmA hx hb hts inT12 hown hK hI List.not_mem_nil hG0 14 (by decide) (hts _ (tb_c wd_1247)) rfl rfl dX12_splits_101 (fun a3702 hq3703 hf3704 => ?_)
              obtain rfl := fr.uniq (by decide) hf3309 hf3704
              refine lv_aload_n hx hb dX12_splits_104 rfl (lv_at hl 3 rfl) ?_
              refine gmI hx hb hts inT12 hown hK hI List.not_mem_nil hG0 15 (by decide) (hts _ (tb_c wd_1248)) rfl rfl dX12_splits_105 (fun w3705 hg3706 k3707 k3708 => ?_)
              obtain rfl := gf.uniq (by decide) hg3295 hg3706
              refine lv_iload_n hx hb dX12_splits_108 rfl (lv_at hl 2 rfl) ?_
              refine th_iast hx hb hK hA3311 0 rfl hS ⟨_, hq3310⟩ (iv_in (X := v3291.toInt) rfl (by omega) (by omega)) dX12_splits_109 (fun H locs hA3709 oq hS => ?_)
              have hP3710 := rgs_set (k := v3291.toNatClampNeg) (v := v3290) hPl (by omega) (by omega)
              have hI := th_I.put hI hq3310 hA3709 (ok_m6 hP3710) oq
              have hg3295 := gf.arr hG0 hq3310 (by decide) oq hg3295
              have hf3297 := fr.arr hG0 hq3310 (by decide) oq hf3297
              have hf3301 := fr.arr hG0 hq3310 (by decide) oq hf3301
              have hf3305 := fr.arr hG0 hq3310 (by decide) oq hf3305
              have hf3309 := fr.arr hG0 hq3310 (by decide) oq hf3309
              have hf3683 := fr.arr hG0 hq3310 (by decide) oq hf3683
              have hA3299 := va_at.kept hA3299 (oq _ (m_ne hq3298 hq3310 (by first | decide | (dsimp only; decide))))
              have hA3303 := va_at.kept hA3303 (oq _ (m_ne hq3302 hq3310 (by first | decide | (dsimp only; decide))))
              have hA3307 := va_at.kept hA3307 (oq _ (m_ne hq3306 hq3310 (by first | decide | (dsimp only; decide))))
              have hA3685 := va_at.kept hA3685 (oq _ (m_ne hq3682 hq3310 (by first | decide | (dsimp only; decide))))
              have e3711 : v3290 = (upd pl (v3291 : Int32).toNatClampNeg v3290) (v3291 : Int32).toNatClampNeg := rd_us
              refine lv_aload_n hx hb dX12_splits_110 rfl (lv_at hl 3 rfl) ?_
              refine gmA hx hb hts inT12 hown hK hI List.not_mem_nil hG0 13 (by decide) (hts _ (tb_c wd_1246)) rfl rfl dX12_splits_111 (fun a3712 hq3713 hf3714 => ?_)
              obtain rfl := fr.uniq (by decide) hf3305 hf3714
              refine lv_aload_n hx hb dX12_splits_114 rfl (lv_at hl 3 rfl) ?_
              refine gmI hx hb hts inT12 hown hK hI List.not_mem_nil hG0 15 (by decide) (hts _ (tb_c wd_1248)) rfl rfl dX12_splits_115 (fun w3715 hg3716 k3717 k3718 => ?_)
              obtain rfl := gf.uniq (by decide) hg3295 hg3716
              refine lv_iconst (v := 0) hx hb dX12_splits_118 (by decide) ?_
              refine th_iast hx hb hK hA3307 0 rfl hS ⟨_, hq3306⟩ (iv_in (X := v3291.toInt) rfl (by omega) (by omega)) dX12_splits_119 (fun H locs hA3719 oq hS => ?_)
              have hI := th_I.put hI hq3306 hA3719 ok_m0 oq
              have hg3295 := gf.arr hG0 hq3306 (by decide) oq hg3295
              have hf3297 := fr.arr hG0 hq3306 (by decide) oq hf3297
              have hf3301 := fr.arr hG0 hq3306 (by decide) oq hf3301
              have hf3305 := fr.arr hG0 hq3306 (by decide) oq hf3305
              have hf3309 := fr.arr hG0 hq3306 (by decide) oq hf3309
              have hf3683 := fr.arr hG0 hq3306 (by decide) oq hf3683
              have hA3299 := va_at.kept hA3299 (oq _ (m_ne hq3298 hq3306 (by first | decide | (dsimp only; decide))))
              have hA3303 := va_at.kept hA3303 (oq _ (m_ne hq3302 hq3306 (by first | decide | (dsimp only; decide))))
              have hA3709 := va_at.kept hA3709 (oq _ (m_ne hq3310 hq3306 (by first | decide | (dsimp only; decide))))
              have hA3685 := va_at.kept hA3685 (oq _ (m_ne hq3682 hq3306 (by first | decide | (dsimp only; decide))))
              have e3720 : 0 = (upd va (v3291 : Int32).toNatClampNeg 0) (v3291 : Int32).toNatClampNeg := rd_us
              refine lv_aload_n hx hb dX12_splits_120 rfl (lv_at hl 3 rfl) ?_
              refine gmA hx hb hts inT12 hown hK hI List.not_mem_nil hG0 12 (by decide) (hts _ (tb_c wd_1245)) rfl rfl dX12_splits_121 (fun a3721 hq3722 hf3723 => ?_)
              obtain rfl := fr.uniq (by decide) hf3301 hf3723
              refine lv_aload_n hx hb dX12_splits_124 rfl (lv_at hl 3 rfl) ?_
              refine gmI hx hb hts inT12 hown hK hI List.not_mem_nil hG0 15 (by decide) (hts _ (tb_c wd_1248)) rfl rfl dX12_splits_125 (fun w3724 hg3725 k3726 k3727 => ?_)
              obtain rfl := gf.uniq (by decide) hg3295 hg3725
              refine lv_iload_n hx hb dX12_splits_128 rfl (lv_at hl 1 rfl) ?_
              refine th_cSs (As := [.int v3687]) (rest := [.int v3291, .ref a3300]) (n := 1) (d := 1) ⟨hx, hb, hml, hown, hts⟩ (c_X12_isSmall l H v3687) wd_1572 wd_1573 wd_13 wd_1574 (by decide +kernel) ⟨by rw [hR]; exact Nat.le_of_ble_eq_true rfl, by rw [hR]; exact Nat.le_of_ble_eq_true rfl⟩ hN hS rfl hl.1 rfl (Nat.le_of_ble_eq_true rfl) dX12_splits_129 ⟨Nat.zero_le _, Nat.zero_le _⟩ (fun r3728 locs hp hS => ?_)
              rcases hp with ⟨rfl, hp⟩ | ⟨rfl, hp⟩
              · skip
                try simp only [rg, not_and, Int.not_le] at hp
                have hp3729 := hp
                exfalso; omega
              · skip
                try simp only [rg, not_and, Int.not_le] at hp
                have hp3730 := hp
                refine lv_if_eq (tgt := 145) hx hb dX12_splits_132 (by decide) (fun _ => ?_) (fun c => absurd c (by decide))
                refine lv_iload_n hx hb dX12_splits_145 rfl (lv_at hl 1 rfl) ?_
                refine th_cSs (As := [.int v3687]) (rest := [.int v3291, .ref a3300]) (n := 1) (d := 1) ⟨hx, hb, hml, hown, hts⟩ (c_X12_isDigit l H v3687) wd_1575 wd_1576 wd_13 wd_1577 (by decide +kernel) ⟨by rw [hR]; exact Nat.le_of_ble_eq_true rfl, by rw [hR]; exact Nat.le_of_ble_eq_true rfl⟩ hN hS rfl hl.1 rfl (Nat.le_of_ble_eq_true rfl) dX12_splits_146 ⟨Nat.zero_le _, Nat.zero_le _⟩ (fun r3731 locs hp hS => ?_)
                rcases hp with ⟨rfl, hp⟩ | ⟨rfl, hp⟩
                · skip
                  try simp only [rg, not_and, Int.not_le] at hp
                  have hp3732 := hp
                  exfalso; omega
                · skip
                  try simp only [rg, not_and, Int.not_le] at hp
                  have hp3733 := hp
                  refine lv_if_eq (tgt := 157) hx hb dX12_splits_149 (by decide) (fun _ => ?_) (fun c => absurd c (by decide))
                  refine lv_bipush (v := 100) hx hb dX12_splits_157 (by decide) ?_
                  refine lv_iload_n hx hb dX12_splits_159 rfl (lv_at hl 1 rfl) ?_
                  refine lv_sipush (v := 255) hx hb dX12_splits_160 (by decide) ?_
                  refine lv_iand hx hb dX12_splits_163 ?_
                  refine lv_topi (fun v3734 e3735 => ?_)
                  have tv3734 := iv_andr (m := 255) (M := 255) e3735 (by decide) (by decide)
                  refine lv_iadd hx hb dX12_splits_164 ?_
                  refine lv_topi (fun v3736 e3737 => ?_)
                  have tv3736 : v3736.toInt = (100) + v3734.toInt := iv_add (by decide) rfl e3737 (by omega) (by omega)
                  have hzz : tk_z (tB E) sz kk (v3736).toInt := Or.inr (Or.inr ⟨by unfold tk_lt; omega, by unfold tk_dg; omega, by omega⟩)
                  refine th_iast hx hb hK hA3303 0 rfl hS ⟨_, hq3302⟩ (iv_in (X := v3291.toInt) rfl (by omega) (by omega)) dX12_splits_165 (fun H locs hA3738 oq hS => ?_)
                  have hI := th_I.put hI hq3302 hA3738 ok_m8 oq
                  have hg3295 := gf.arr hG0 hq3302 (by decide) oq hg3295
                  have hf3297 := fr.arr hG0 hq3302 (by decide) oq hf3297
                  have hf3301 := fr.arr hG0 hq3302 (by decide) oq hf3301
                  have hf3305 := fr.arr hG0 hq3302 (by decide) oq hf3305
                  have hf3309 := fr.arr hG0 hq3302 (by decide) oq hf3309
                  have hf3683 := fr.arr hG0 hq3302 (by decide) oq hf3683
                  have hA3299 := va_at.kept hA3299 (oq _ (m_ne hq3298 hq3302 (by first | decide | (dsimp only; decide))))
                  have hA3719 := va_at.kept hA3719 (oq _ (m_ne hq3306 hq3302 (by first | decide | (dsimp only; decide))))
                  have hA3709 := va_at.kept hA3709 (oq _ (m_ne hq3310 hq3302 (by first | decide | (dsimp only; decide))))
                  have hA3685 := va_at.kept hA3685 (oq _ (m_ne hq3682 hq3302 (by first | decide | (dsimp only; decide))))
                  have e3739 : v3736 = (upd cd (v3291 : Int32).toNatClampNeg v3736) (v3291 : Int32).toNatClampNeg := rd_us
                  refine lv_iload_n hx hb dX12_splits_166 rfl (lv_at hl 2 rfl) ?_
                  refine lv_istore (lv' := [(5, .int v3290), (4, .int v3694), (3, .int v3687), (2, .int v3290), (0, .ref h0), (1, .int x1)]) hx hb dX12_splits_167 hl (by decide) rfl (fun ls hl => ?_)
                  exact J_169 _ H locs ls v3290 v3694 v3687 v3290 v3291 kk tt (kk + 1) kk (upd cd (v3291 : Int32).toNatClampNeg v3736) (upd va (v3291 : Int32).toNatClampNeg 0) (upd pl (v3291 : Int32).toNatClampNeg v3290) rfl (lv_sub hl [0, 1, 2, 3, 4, 5] rfl) ⟨by omega, by omega⟩ ⟨by omega, by omega⟩ ⟨by omega, by omega⟩ ⟨by omega, by omega⟩ ⟨by omega, by omega⟩ hg3295 ⟨a3296, hf3297, hq3298, hA3299⟩ ⟨a3300, hf3301, hq3302, hA3738⟩ ⟨a3304, hf3305, hq3306, hA3719⟩ ⟨a3308, hf3309, hq3310, hA3709⟩ (by first | omega | (rw [show (0 : Int32).toInt = 0 from by decide]; omega)) (by first | omega | decide) (hP3710) (tk_I.upd hTI (fun j hj => ⟨by rw [up_ne (by omega) hj], by rw [up_ne (by omega) hj], by rw [YV_ne (by omega) hj]⟩)) (by omega) (by omega) (by omega) (⟨by omega, by omega⟩) (hct) (by omega) (⟨by omega, by omega⟩) (by rw [up_at (by omega)]; omega) (by rw [up_at (by omega)]; exact hzz) (by rw [up_at (by omega), show (0 : Int32).toInt = 0 from by decide]; exact VI.ini hdr) hI hS
        · skip
          have k3740 := iv_eq (X := v3687.toInt) (Y := (32)) rfl (by decide) c3692
          obtain ⟨v3741, e3742⟩ : ∃ y : Int32, y = v3290 + (1) := ⟨_, rfl⟩
          have tv3741 : v3741.toInt = v3290.toInt + (1) := iv_add rfl (by decide) e3742 (by omega) (by omega)
          refine lv_iinc (v := v3741) (lv' := [(2, .int v3741), (3, .int v3687), (0, .ref h0), (1, .int x1)]) hx hb dX12_splits_25 hl (k := 1) rfl (by rw [e3742]; rfl) (by decide) rfl (fun ls hl => ?_)
          refine lv_goto (tgt := 7) hx hb dX12_splits_28 (by decide) ?_
          exact ih_7 _ (by omega) H locs ls v3741 v3291 (kk + 1) tt cd va pl rfl (lv_sub hl [0, 2, 3] rfl) ⟨by omega, by omega⟩ ⟨by omega, by omega⟩ ⟨by omega, by omega⟩ hg3295 ⟨a3296, hf3297, hq3298, hA3299⟩ ⟨a3300, hf3301, hq3302, hA3303⟩ ⟨a3304, hf3305, hq3306, hA3307⟩ ⟨a3308, hf3309, hq3310, hA3311⟩ (by first | omega | (rw [show (0 : Int32).toInt = 0 from by decide]; omega)) (by first | omega | decide) (hPl) (tk_I.sp hTI (by omega) (by omega)) hI hS
  refine lv_aload_n hx hb dX12_splits_0 rfl (lv_at hl 0 rfl) ?_
  refine lv_iconst (v := 0) hx hb dX12_splits_1 (by decide) ?_
  refine pmI (ty := .int) hx hb hts inT12 hown hK hI List.not_mem_nil hG0 hS ⟨_, hG0⟩ 15 (by decide) (by decide) (hts _ (tb_c wd_1248)) rfl rfl (by decide +kernel) rfl rfl rfl (by decide) (by decide) dX12_splits_2 (fun H locs hI hgP hS => ?_)
  have hg3743 := hgP.2.1
  have hf_3 := hgP.2.2.2 3 _ (by decide) (by decide) hf_3
  have hA_3 := va_at.kept hA_3 (hgP.1 _ (m_ne hq_3 hG0 (by first | decide | (dsimp only; decide))))
  refine lv_iconst (v := 0) hx hb dX12_splits_5 (by decide) ?_
  refine lv_istore_n (lv' := [(2, .int 0), (0, .ref h0), (1, .int x1)]) hx hb dX12_splits_6 rfl hl (by decide) rfl (fun ls hl => ?_)
  obtain ⟨a3744, hq3745, hf3746⟩ := fr_of hI hG0 12 (by decide) (kd := (8, 401)) rfl
  obtain ⟨F3747, hA3748⟩ := om_8 hI hq3745 List.not_mem_nil
  obtain ⟨a3749, hq3750, hf3751⟩ := fr_of hI hG0 13 (by decide) (kd := (0, 401)) rfl
  obtain ⟨F3752, hA3753⟩ := om_0 hI hq3750 List.not_mem_nil
  obtain ⟨a3754, hq3755, hf3756⟩ := fr_of hI hG0 14 (by decide) (kd := (6, 401)) rfl
  obtain ⟨F3757, hA3758, hP3759⟩ := om_6 hI hq3755 List.not_mem_nil
  have zl : (0 : Int32).toInt = 0 := by decide
  exact J_7 _ H locs ls 0 0 0 0 F3747 F3752 F3757 rfl (lv_sub hl [0, 1, 2] rfl) ⟨by decide, by decide⟩ ⟨by omega, by omega⟩ ⟨by decide, by decide⟩ hg3743 ⟨q_3, hf_3, hq_3, hA_3⟩ ⟨a3744, hf3746, hq3745, hA3748⟩ ⟨a3749, hf3751, hq3750, hA3753⟩ ⟨a3754, hf3756, hq3755, hA3758⟩ (by first | omega | (rw [show (0 : Int32).toInt = 0 from by decide]; omega)) (by first | omega | decide) (hP3759) (tk_I.ini) hI hS
theorem dX12_reads_0 : decode cX12_reads 0 = .ok (.aload_n 0, 1) := by decide +kernel
theorem dX12_reads_1 : decode cX12_reads 1 = .ok (.aload_n 0, 1) := by decide +kernel
theorem dX12_reads_2 : decode cX12_reads 2 = .ok (.getfield 132, 3) := by decide +kernel
theorem dX12_reads_5 : decode cX12_reads 5 = .ok (.invokevirtual 207, 3) := by decide +kernel
theorem dX12_reads_8 : decode cX12_reads 8 = .ok (.aload_n 0, 1) := by decide +kernel
theorem dX12_reads_9 : decode cX12_reads 9 = .ok (.iconst 0, 1) := by decide +kernel
theorem dX12_reads_10 : decode cX12_reads 10 = .ok (.putfield 132, 3) := by decide +kernel
theorem dX12_reads_13 : decode cX12_reads 13 = .ok (.aload_n 0, 1) := by decide +kernel
theorem dX12_reads_14 : decode cX12_reads 14 = .ok (.iconst 0, 1) := by decide +kernel
theorem dX12_reads_15 : decode cX12_reads 15 = .ok (.putfield 166, 3) := by decide +kernel
theorem dX12_reads_18 : decode cX12_reads 18 = .ok (.aload_n 0, 1) := by decide +kernel
theorem dX12_reads_19 : decode cX12_reads 19 = .ok (.iconst 0, 1) := by decide +kernel
theorem dX12_reads_20 : decode cX12_reads 20 = .ok (.putfield 175, 3) := by decide +kernel
theorem dX12_reads_23 : decode cX12_reads 23 = .ok (.aload_n 0, 1) := by decide +kernel
theorem dX12_reads_24 : decode cX12_reads 24 = .ok (.iconst (-1), 1) := by decide +kernel
theorem dX12_reads_25 : decode cX12_reads 25 = .ok (.putfield 159, 3) := by decide +kernel
theorem dX12_reads_28 : decode cX12_reads 28 = .ok (.aload_n 0, 1) := by decide +kernel
theorem dX12_reads_29 : decode cX12_reads 29 = .ok (.invokevirtual 210, 3) := by decide +kernel
theorem dX12_reads_32 : decode cX12_reads 32 = .ok (.iconst 1, 1) := by decide +kernel
theorem dX12_reads_33 : decode cX12_reads 33 = .ok (.istore_n 1, 1) := by decide +kernel
theorem dX12_reads_34 : decode cX12_reads 34 = .ok (.aload_n 0, 1) := by decide +kernel
theorem dX12_reads_35 : decode cX12_reads 35 = .ok (.bipush 59, 2) := by decide +kernel
theorem dX12_reads_37 : decode cX12_reads 37 = .ok (.invokestatic 194, 3) := by decide +kernel
theorem dX12_reads_40 : decode cX12_reads 40 = .ok (.invokevirtual 169, 3) := by decide +kernel
theorem dX12_reads_43 : decode cX12_reads 43 = .ok (.ifCond .eq 30, 3) := by decide +kernel
theorem dX12_reads_46 : decode cX12_reads 46 = .ok (.iload_n 1, 1) := by decide +kernel
theorem dX12_reads_47 : decode cX12_reads 47 = .ok (.bipush 12, 2) := by decide +kernel
theorem dX12_reads_49 : decode cX12_reads 49 = .ok (.if_icmp .ne 7, 3) := by decide +kernel
theorem dX12_reads_52 : decode cX12_reads 52 = .ok (.aload_n 0, 1) := by decide +kernel
theorem dX12_reads_53 : decode cX12_reads 53 = .ok (.invokevirtual 172, 3) := by decide +kernel
theorem dX12_reads_56 : decode cX12_reads 56 = .ok (.aload_n 0, 1) := by decide +kernel
theorem dX12_reads_57 : decode cX12_reads 57 = .ok (.invokevirtual 162, 3) := by decide +kernel
theorem dX12_reads_60 : decode cX12_reads 60 = .ok (.ifCond .eq 7, 3) := by decide +kernel
theorem dX12_reads_63 : decode cX12_reads 63 = .ok (.aload_n 0, 1) := by decide +kernel
theorem dX12_reads_64 : decode cX12_reads 64 = .ok (.invokevirtual 210, 3) := by decide +kernel
theorem dX12_reads_67 : decode cX12_reads 67 = .ok (.iinc 1 1, 3) := by decide +kernel
theorem dX12_reads_70 : decode cX12_reads 70 = .ok (.goto (-36), 3) := by decide +kernel
theorem dX12_reads_73 : decode cX12_reads 73 = .ok (.aload_n 0, 1) := by decide +kernel
theorem dX12_reads_74 : decode cX12_reads 74 = .ok (.invokevirtual 162, 3) := by decide +kernel
theorem dX12_reads_77 : decode cX12_reads 77 = .ok (.ifCond .eq 18, 3) := by decide +kernel
theorem dX12_reads_80 : decode cX12_reads 80 = .ok (.aload_n 0, 1) := by decide +kernel
theorem dX12_reads_81 : decode cX12_reads 81 = .ok (.getfield 166, 3) := by decide +kernel
theorem dX12_reads_84 : decode cX12_reads 84 = .ok (.aload_n 0, 1) := by decide +kernel
theorem dX12_reads_85 : decode cX12_reads 85 = .ok (.getfield 145, 3) := by decide +kernel
theorem dX12_reads_88 : decode cX12_reads 88 = .ok (.if_icmp .ge 7, 3) := by decide +kernel
theorem dX12_reads_91 : decode cX12_reads 91 = .ok (.aload_n 0, 1) := by decide +kernel
theorem dX12_reads_92 : decode cX12_reads 92 = .ok (.invokevirtual 172, 3) := by decide +kernel
theorem dX12_reads_95 : decode cX12_reads 95 = .ok (.aload_n 0, 1) := by decide +kernel
theorem dX12_reads_96 : decode cX12_reads 96 = .ok (.aload_n 0, 1) := by decide +kernel
theorem dX12_reads_97 : decode cX12_reads 97 = .ok (.getfield 159, 3) := by decide +kernel
theorem dX12_reads_100 : decode cX12_reads 100 = .ok (.putfield 40, 3) := by decide +kernel
theorem dX12_reads_103 : decode cX12_reads 103 = .ok (.aload_n 0, 1) := by decide +kernel
theorem dX12_reads_104 : decode cX12_reads 104 = .ok (.invokevirtual 162, 3) := by decide +kernel
theorem dX12_reads_107 : decode cX12_reads 107 = .ok (.ireturn, 1) := by decide +kernel
set_option maxHeartbeats 4000000 in
set_option maxRecDepth 100000 in
theorem c_X12_reads (l : Launch) (Eo : Nat → Nat) (D : va_G) (G : th_G) (h0 : Nat) (hG0 : G h0 = some (10, 0)) (ff : Nat → Int32) (hkf : kOk (Eo 10) ff) (hU10 : UQ G 10) : Met l yX12_reads (tb (.code yX12_reads cX12_reads 2 (some .boolean))) (rm 58) (va_Pc [.ref h0] (PX Eo D G (fun H => ga Eo D G h0 3 (1, 5123) ff H))) (QXi (eu (eu Eo 15 0) 16 (lwF (lwo (tB Eo) (Eo 15)))) D G (fun r H => ((r : Int32) = 1 ∧ ∃ f : Int, OUTR (tB Eo) (Eo 15) true f ∧ LD Eo D G h0 ff H) ∨ ((r : Int32) = 0 ∧ ∃ f : Int, OUTR (tB Eo) (Eo 15) false f ∧ ga Eo D G h0 3 (1, 5123) ff H))) 0 0 (th_A G) := by
  refine Met.ofW (cc := cX12_reads) (maxL := 2) (ret := (some .boolean)) (by decide) rfl ?_
  intro p e s m args below meth c s₁ B hml hv
  obtain ⟨hav, ⟨hI, hN, hK⟩, hX⟩ := hv
  have hx := B.exec
  have hb := B.bytes
  have hr := B.returns
  have hts := atoms_spec (ws := tb (.code yX12_reads cX12_reads 2 (some .boolean))) B.pre
  have hown : s.vm.findClass RX12 = some m.cls := findClass_of_methodNamed B.named
  have hlocks := B.notSynchronized
  have hS : va_S (th_A G) s.heap s.heap [] := va_S.rf
  have hl := lv_entry ([.ref h0]) (n := 2) (Nat.le_of_ble_eq_true rfl)
  rw [show entryFrame m args 2 = entryFrame m ([.ref h0] : List Value).toArray 2 from by rw [hav], lg_entry_eq]
  generalize (lg_sl ([.ref h0]) ++ List.replicate (2 - (lg_sl ([.ref h0])).length) Slot.unset).toArray = ls at hl ⊢
  obtain ⟨E, hEe⟩ : ∃ x : Nat → Nat, x = eu (eu Eo 15 0) 16 (lwF (lwo (tB Eo) (Eo 15))) := ⟨_, rfl⟩
  have hl : lv_has ls 2 [(0, .ref h0)] := hl
  generalize hR : (headSpec (tb (.code yX12_reads cX12_reads 2 (some .boolean))) (rm 58)).room = R
  have hR := hR.symm
  generalize hQ : MQ below (QXi (eu (eu Eo 15 0) 16 (lwF (lwo (tB Eo) (Eo 15)))) D G (fun r H => ((r : Int32) = 1 ∧ ∃ f : Int, OUTR (tB Eo) (Eo 15) true f ∧ LD Eo D G h0 ff H) ∨ ((r : Int32) = 0 ∧ ∃ f : Int, OUTR (tB Eo) (Eo 15) false f ∧ ga Eo D G h0 3 (1, 5123) ff H))) args s 0 0 (th_A G) = QF
  have hQ := hQ.symm
  obtain ⟨q_3, hf_3, hq_3, hA_3⟩ := hX
  obtain ⟨Em, hEm⟩ : ∃ x : Nat → Nat, x = eu Eo 15 0 := ⟨_, rfl⟩
  have hKm : va_K D vwCl (th_tys Em) s := by rw [hEm, tys_eu (by decide)]; exact hK
  have J_34 : ∀ (nn : Nat) (H : Heap) (locs : List Loc) (ls : Array Slot) (v2334 : Int32) (cd : Nat → Int32) (va : Nat → Int32) (pl : Nat → Int32) (TT : Nat) (XX : Nat × Bool) (p1 : Nat) (b1 : Int32) (L1 : Nat) (nj : Nat), (Int.toNat (((TT : Nat) : Int) - ((p1 : Nat) : Int)) = nn) → lv_has ls 2 [(1, .int v2334), (0, .ref h0)] → ((1 : Int) ≤ v2334.toInt ∧ v2334.toInt ≤ 13) → (TI_ Eo (Eo 15) pl cd va (Eo 15) TT) → ((pl TT).toInt = ((Eo 15 : Nat) : Int)) → (RR cd va TT (0, [], 0, 0) 0 = XX) → (v2334.toInt = (nj : Int)) → (IV cd va pl TT XX (5, [], nj, L1) p1 b1) → (b1.toInt = -1 → g_so (rC cd TT) TT p1) → (RX Em D G h0 ff cd va pl TT p1 b1 L1 H) → th_I (okM Em) D G [] H → va_S (th_A G) s.heap H locs → W p l e R s m args below meth c H locs 0 0 QF (F0 m 34 ls []) := by
    intro nn
    induction nn using Nat.strongRecOn with
    | ind nn ih_34 =>
      intro H locs ls v2334 cd va pl TT XX p1 b1 L1 nj hm hl k2335 hTI hpe hXX hnj hiv1 hInv hE hI hS
      have hK := hKm
      obtain ⟨⟨hkf, hT, hz0, k2359, ⟨a2336, hf2337, hq2338, hA2339⟩, ⟨a2340, hf2341, hq2342, hA2343⟩, ⟨w2352, hg2353, k2360⟩, ⟨w2354, hg2355, k2361⟩, hg2356⟩, ⟨a2344, hf2345, hq2346, hA2347⟩, ⟨a2348, hf2349, hq2350, hA2351⟩, hPl, ⟨w2357, hg2358, k2362⟩, k2363, k2364⟩ := hE
      refine lv_aload_n hx hb dX12_reads_34 rfl (lv_at hl 1 rfl) ?_
      refine lv_bipush (v := 59) hx hb dX12_reads_35 (by decide) ?_
      refine th_cSs (As := [.int 59]) (rest := [.ref h0]) (n := 1) (d := 0) ⟨hx, hb, hml, hown, hts⟩ (c_X12_sign l H 59) wd_1495 wd_1496 wd_13 wd_1497 (by decide +kernel) ⟨by rw [hR]; exact Nat.le_of_ble_eq_true rfl, by rw [hR]; exact Nat.le_of_ble_eq_true rfl⟩ hN hS rfl hl.1 rfl (Nat.le_of_ble_eq_true rfl) dX12_reads_37 ⟨Nat.zero_le _, Nat.zero_le _⟩ (fun r2365 locs hp hS => ?_)
      obtain rfl : r2365 = 159 := hp.trans (by decide)
      refine mx_i (As := [.int 159]) (rest := []) (n := 1) (d := 1) ⟨hx, hb, hml, hown, hts⟩ (c_X12_takes0 l Em D G h0 hG0 159 ff cd va pl TT p1 L1 b1 (by first | decide | omega)) wd_1587 wd_1589 wp_66 wd_13 wd_1590 (by decide +kernel) ⟨by rw [hR]; exact Nat.le_of_ble_eq_true rfl, by rw [hR]; exact Nat.le_of_ble_eq_true rfl⟩ hI hN hK hS hG0 (⟨⟨hkf, hT, hz0, by omega, ⟨a2336, hf2337, hq2338, hA2339⟩, ⟨a2340, hf2341, hq2342, hA2343⟩, ⟨w2352, hg2353, by first | omega | decide⟩, ⟨w2354, hg2355, by first | omega | decide⟩, hg2356⟩, ⟨a2344, hf2345, hq2346, hA2347⟩, ⟨a2348, hf2349, hq2350, hA2351⟩, hPl, ⟨w2357, hg2358, by first | omega | decide⟩, by omega, by first | omega | (intro; omega)⟩) rfl hl.1 rfl (Nat.le_of_ble_eq_true rfl) dX12_reads_40 ⟨Nat.zero_le _, Nat.zero_le _⟩ (fun r2366 H locs hI hp hS => ?_)
      rcases hp with ⟨rfl, hp⟩ | ⟨rfl, hp⟩
      · skip
        try simp only [rg, not_and, Int.not_le] at hp
        have hp2367 := hp
        obtain ⟨hb2370, hc2368, k2369, hE⟩ := hp2367
        have hp2367 : True := trivial
        rw [show (159 : Int32).toInt = 159 from by decide] at hc2368
        obtain ⟨⟨hkf, hT, hz0, k2394, ⟨a2371, hf2372, hq2373, hA2374⟩, ⟨a2375, hf2376, hq2377, hA2378⟩, ⟨w2387, hg2388, k2395⟩, ⟨w2389, hg2390, k2396⟩, hg2391⟩, ⟨a2379, hf2380, hq2381, hA2382⟩, ⟨a2383, hf2384, hq2385, hA2386⟩, hPl, ⟨w2392, hg2393, k2397⟩, k2398, k2399⟩ := hE
        have hiv2400 : IV cd va pl TT XX (0, [], nj, L1) (p1 + 1) b1 := hiv1.go (fun hb9 => pd_C_se k2369 hc2368)
        try rw [show (159 : Int32).toInt = 159 from by decide] at hp2367
        refine lv_if_eq (tgt := 73) hx hb dX12_reads_43 (by decide) (fun c => absurd c (by decide)) (fun _ => ?_)
        refine lv_iload_n hx hb dX12_reads_46 rfl (lv_at hl 0 rfl) ?_
        refine lv_bipush (v := 12) hx hb dX12_reads_47 (by decide) ?_
        refine lv_icmp_ne (tgt := 56) hx hb dX12_reads_49 (by decide) (fun c2401 => ?_) (fun c2401 => ?_)
        · skip
          have k2402 := iv_ne (X := v2334.toInt) (Y := (12)) rfl (by decide) c2401
          refine lv_aload_n hx hb dX12_reads_56 rfl (lv_at hl 1 rfl) ?_
          refine mr_i (As := []) (rest := []) (n := 0) (d := 0) ⟨hx, hb, hml, hown, hts⟩ (c_X12_fine l Em D G H h0 hG0  ff cd TT (p1 + 1) b1 ⟨hkf, hT, hz0, by omega, ⟨a2371, hf2372, hq2373, hA2374⟩, ⟨a2375, hf2376, hq2377, hA2378⟩, ⟨w2387, hg2388, by first | omega | decide⟩, ⟨w2389, hg2390, by first | omega | decide⟩, hg2391⟩) wd_1591 wd_1593 wp_67 wd_13 wd_1594 (by decide +kernel) ⟨by rw [hR]; exact Nat.le_of_ble_eq_true rfl, by rw [hR]; exact Nat.le_of_ble_eq_true rfl⟩ hI hN hK hS hG0 rfl hl.1 rfl (Nat.le_of_ble_eq_true rfl) dX12_reads_57 ⟨Nat.zero_le _, Nat.zero_le _⟩ (fun r2403 locs hp hS => ?_)
          rcases hp with ⟨rfl, hp⟩ | ⟨rfl, hp⟩
          · skip
            try simp only [rg, not_and, Int.not_le] at hp
            have hp2404 := hp
            refine lv_if_eq (tgt := 67) hx hb dX12_reads_60 (by decide) (fun c => absurd c (by decide)) (fun _ => ?_)
            refine lv_aload_n hx hb dX12_reads_63 rfl (lv_at hl 1 rfl) ?_
            refine mx_v (As := []) (rest := []) (n := 0) (d := 57) ⟨hx, hb, hml, hown, hts⟩ (c_X12_readClause l Em D G h0 hG0  ff cd va pl TT (p1 + 1) L1 b1 nj XX (by omega) hiv2400) wd_1583 wd_1585 wp_65 wd_13 wd_1586 (by decide +kernel) ⟨by rw [hR]; exact Nat.le_of_ble_eq_true rfl, by rw [hR]; exact Nat.le_of_ble_eq_true rfl⟩ hI hN hK hS hG0 (⟨⟨hkf, hT, hz0, by omega, ⟨a2371, hf2372, hq2373, hA2374⟩, ⟨a2375, hf2376, hq2377, hA2378⟩, ⟨w2387, hg2388, by first | omega | decide⟩, ⟨w2389, hg2390, by first | omega | decide⟩, hg2391⟩, ⟨a2379, hf2380, hq2381, hA2382⟩, ⟨a2383, hf2384, hq2385, hA2386⟩, hPl, ⟨w2392, hg2393, by first | omega | decide⟩, by omega, by first | omega | (intro; omega)⟩) rfl hl.1 rfl (Nat.le_of_ble_eq_true rfl) dX12_reads_64 ⟨Nat.zero_le _, Nat.zero_le _⟩ (fun H locs hI hp hS => ?_)
            obtain ⟨pn2406, bn2407, Ln2408, hE, k2411, hi2409, hiv2410⟩ := hp
            obtain ⟨⟨hkf, hT, hz0, k2435, ⟨a2412, hf2413, hq2414, hA2415⟩, ⟨a2416, hf2417, hq2418, hA2419⟩, ⟨w2428, hg2429, k2436⟩, ⟨w2430, hg2431, k2437⟩, hg2432⟩, ⟨a2420, hf2421, hq2422, hA2423⟩, ⟨a2424, hf2425, hq2426, hA2427⟩, hPl, ⟨w2433, hg2434, k2438⟩, k2439, k2440⟩ := hE
            have hInv2 : bn2407.toInt = -1 → g_so (rC cd TT) TT pn2406 := fun h => so_m (hInv hb2370) hc2368 (hi2409 h).2
            obtain ⟨v2441, e2442⟩ : ∃ y : Int32, y = v2334 + (1) := ⟨_, rfl⟩
            have tv2441 : v2441.toInt = v2334.toInt + (1) := iv_add rfl (by decide) e2442 (by omega) (by omega)
            refine lv_iinc (v := v2441) (lv' := [(1, .int v2441), (0, .ref h0)]) hx hb dX12_reads_67 hl (k := 0) rfl (by rw [e2442]; rfl) (by decide) rfl (fun ls hl => ?_)
            refine lv_goto (tgt := 34) hx hb dX12_reads_70 (by decide) ?_
            exact ih_34 _ (by omega) H locs ls v2441 cd va pl TT XX pn2406 bn2407 Ln2408 (nj + 1) rfl (lv_sub hl [0, 1] rfl) ⟨by omega, by omega⟩ (hTI) (hpe) (hXX) (by first | omega | decide) (hiv2410) (hInv2) (⟨⟨hkf, hT, hz0, by omega, ⟨a2412, hf2413, hq2414, hA2415⟩, ⟨a2416, hf2417, hq2418, hA2419⟩, ⟨w2428, hg2429, by first | omega | decide⟩, ⟨w2430, hg2431, by first | omega | decide⟩, hg2432⟩, ⟨a2420, hf2421, hq2422, hA2423⟩, ⟨a2424, hf2425, hq2426, hA2427⟩, hPl, ⟨w2433, hg2434, by first | omega | decide⟩, by omega, by first | omega | (intro; omega)⟩) hI hS
          · skip
            try simp only [rg, not_and, Int.not_le] at hp
            have hp2443 := hp
            exfalso; omega
        · skip
          have k2444 := iv_eq (X := v2334.toInt) (Y := (12)) rfl (by decide) c2401
          refine lv_aload_n hx hb dX12_reads_52 rfl (lv_at hl 1 rfl) ?_
          refine mx_v (As := []) (rest := []) (n := 0) (d := 1) ⟨hx, hb, hml, hown, hts⟩ (c_X12_faults l Em D G h0 hG0  ff cd va pl TT (p1 + 1) L1 b1) wd_1607 wd_1609 wp_71 wd_13 wd_1610 (by decide +kernel) ⟨by rw [hR]; exact Nat.le_of_ble_eq_true rfl, by rw [hR]; exact Nat.le_of_ble_eq_true rfl⟩ hI hN hK hS hG0 (⟨⟨hkf, hT, hz0, by omega, ⟨a2371, hf2372, hq2373, hA2374⟩, ⟨a2375, hf2376, hq2377, hA2378⟩, ⟨w2387, hg2388, by first | omega | decide⟩, ⟨w2389, hg2390, by first | omega | decide⟩, hg2391⟩, ⟨a2379, hf2380, hq2381, hA2382⟩, ⟨a2383, hf2384, hq2385, hA2386⟩, hPl, ⟨w2392, hg2393, by first | omega | decide⟩, by omega, by first | omega | (intro; omega)⟩) rfl hl.1 rfl (Nat.le_of_ble_eq_true rfl) dX12_reads_53 ⟨Nat.zero_le _, Nat.zero_le _⟩ (fun H locs hI hp hS => ?_)
          obtain ⟨bn2446, hb2447, hd2448, hE⟩ := hp
          obtain ⟨⟨hkf, hT, hz0, k2472, ⟨a2449, hf2450, hq2451, hA2452⟩, ⟨a2453, hf2454, hq2455, hA2456⟩, ⟨w2465, hg2466, k2473⟩, ⟨w2467, hg2468, k2474⟩, hg2469⟩, ⟨a2457, hf2458, hq2459, hA2460⟩, ⟨a2461, hf2462, hq2463, hA2464⟩, hPl, ⟨w2470, hg2471, k2475⟩, k2476, k2477⟩ := hE
          have hiv2478 : IV cd va pl TT XX (5, [], (nj + 1), L1) (p1 + 1) bn2446 := IV.flt hiv2400 (fun _ => pd_H_no (fun _ h => by omega)) hb2447 hd2448
          refine lv_aload_n hx hb dX12_reads_56 rfl (lv_at hl 1 rfl) ?_
          refine mr_i (As := []) (rest := []) (n := 0) (d := 0) ⟨hx, hb, hml, hown, hts⟩ (c_X12_fine l Em D G H h0 hG0  ff cd TT (p1 + 1) bn2446 ⟨hkf, hT, hz0, by omega, ⟨a2449, hf2450, hq2451, hA2452⟩, ⟨a2453, hf2454, hq2455, hA2456⟩, ⟨w2465, hg2466, by first | omega | decide⟩, ⟨w2467, hg2468, by first | omega | decide⟩, hg2469⟩) wd_1591 wd_1593 wp_67 wd_13 wd_1594 (by decide +kernel) ⟨by rw [hR]; exact Nat.le_of_ble_eq_true rfl, by rw [hR]; exact Nat.le_of_ble_eq_true rfl⟩ hI hN hK hS hG0 rfl hl.1 rfl (Nat.le_of_ble_eq_true rfl) dX12_reads_57 ⟨Nat.zero_le _, Nat.zero_le _⟩ (fun r2479 locs hp hS => ?_)
          rcases hp with ⟨rfl, hp⟩ | ⟨rfl, hp⟩
          · skip
            try simp only [rg, not_and, Int.not_le] at hp
            have hp2480 := hp
            exfalso; omega
          · skip
            try simp only [rg, not_and, Int.not_le] at hp
            have hp2481 := hp
            refine lv_if_eq (tgt := 67) hx hb dX12_reads_60 (by decide) (fun _ => ?_) (fun c => absurd c (by decide))
            obtain ⟨v2482, e2483⟩ : ∃ y : Int32, y = v2334 + (1) := ⟨_, rfl⟩
            have tv2482 : v2482.toInt = v2334.toInt + (1) := iv_add rfl (by decide) e2483 (by omega) (by omega)
            refine lv_iinc (v := v2482) (lv' := [(1, .int v2482), (0, .ref h0)]) hx hb dX12_reads_67 hl (k := 0) rfl (by rw [e2483]; rfl) (by decide) rfl (fun ls hl => ?_)
            refine lv_goto (tgt := 34) hx hb dX12_reads_70 (by decide) ?_
            exact ih_34 _ (by omega) H locs ls v2482 cd va pl TT XX (p1 + 1) bn2446 L1 (nj + 1) rfl (lv_sub hl [0, 1] rfl) ⟨by omega, by omega⟩ (hTI) (hpe) (hXX) (by first | omega | decide) (hiv2478) (fun h => absurd h (by omega)) (⟨⟨hkf, hT, hz0, by omega, ⟨a2449, hf2450, hq2451, hA2452⟩, ⟨a2453, hf2454, hq2455, hA2456⟩, ⟨w2465, hg2466, by first | omega | decide⟩, ⟨w2467, hg2468, by first | omega | decide⟩, hg2469⟩, ⟨a2457, hf2458, hq2459, hA2460⟩, ⟨a2461, hf2462, hq2463, hA2464⟩, hPl, ⟨w2470, hg2471, by first | omega | decide⟩, by omega, by first | omega | (intro; omega)⟩) hI hS
      · skip
        try simp only [rg, not_and, Int.not_le] at hp
        have hp2484 := hp
        obtain ⟨hc2485, hE⟩ := hp2484
        have hp2484 : True := trivial
        rw [show (159 : Int32).toInt = 159 from by decide] at hc2485
        obtain ⟨⟨hkf, hT, hz0, k2510, ⟨a2487, hf2488, hq2489, hA2490⟩, ⟨a2491, hf2492, hq2493, hA2494⟩, ⟨w2503, hg2504, k2511⟩, ⟨w2505, hg2506, k2512⟩, hg2507⟩, ⟨a2495, hf2496, hq2497, hA2498⟩, ⟨a2499, hf2500, hq2501, hA2502⟩, hPl, ⟨w2508, hg2509, k2513⟩, k2514, k2515⟩ := hE
        try rw [show (159 : Int32).toInt = 159 from by decide] at hp2484
        refine lv_if_eq (tgt := 73) hx hb dX12_reads_43 (by decide) (fun _ => ?_) (fun c => absurd c (by decide))
        refine lv_aload_n hx hb dX12_reads_73 rfl (lv_at hl 1 rfl) ?_
        refine mr_i (As := []) (rest := []) (n := 0) (d := 0) ⟨hx, hb, hml, hown, hts⟩ (c_X12_fine l Em D G H h0 hG0  ff cd TT p1 b1 ⟨hkf, hT, hz0, by omega, ⟨a2487, hf2488, hq2489, hA2490⟩, ⟨a2491, hf2492, hq2493, hA2494⟩, ⟨w2503, hg2504, by first | omega | decide⟩, ⟨w2505, hg2506, by first | omega | decide⟩, hg2507⟩) wd_1591 wd_1593 wp_67 wd_13 wd_1594 (by decide +kernel) ⟨by rw [hR]; exact Nat.le_of_ble_eq_true rfl, by rw [hR]; exact Nat.le_of_ble_eq_true rfl⟩ hI hN hK hS hG0 rfl hl.1 rfl (Nat.le_of_ble_eq_true rfl) dX12_reads_74 ⟨Nat.zero_le _, Nat.zero_le _⟩ (fun r2516 locs hp hS => ?_)
        rcases hp with ⟨rfl, hp⟩ | ⟨rfl, hp⟩
        · skip
          try simp only [rg, not_and, Int.not_le] at hp
          have hp2517 := hp
          refine lv_if_eq (tgt := 95) hx hb dX12_reads_77 (by decide) (fun c => absurd c (by decide)) (fun _ => ?_)
          refine lv_aload_n hx hb dX12_reads_80 rfl (lv_at hl 1 rfl) ?_
          refine gmI hx hb hts inT12 hown hK hI List.not_mem_nil hG0 16 (by decide) (hts _ (tb_c wd_1249)) rfl rfl dX12_reads_81 (fun w2518 hg2519 k2520 k2521 => ?_)
          obtain rfl := gf.uniq (by decide) hg2506 hg2519
          refine lv_aload_n hx hb dX12_reads_84 rfl (lv_at hl 1 rfl) ?_
          refine gmI hx hb hts inT12 hown hK hI List.not_mem_nil hG0 15 (by decide) (hts _ (tb_c wd_1248)) rfl rfl dX12_reads_85 (fun w2522 hg2523 k2524 k2525 => ?_)
          obtain rfl := gf.uniq (by decide) hg2504 hg2523
          refine lv_icmp_ge (tgt := 95) hx hb dX12_reads_88 (by decide) (fun c2526 => ?_) (fun c2526 => ?_)
          · skip
            have k2527 := iv_le (X := w2503.toInt) (Y := w2505.toInt) rfl rfl c2526
            have hR9 := RR_cd hXX
            have hX9 : XX = (p1, true) := (IV.yes hiv1 (by omega)).symm.trans (pd_C_end (by omega))
            have hO9 : OUTR (tB Eo) (Eo 15) true (pl p1).toInt := ⟨TT, p1, _, _, _, hTI, hpe, by omega, hR9.trans hX9, rfl⟩
            refine lv_aload_n hx hb dX12_reads_95 rfl (lv_at hl 1 rfl) ?_
            refine lv_aload_n hx hb dX12_reads_96 rfl (lv_at hl 1 rfl) ?_
            refine gmI hx hb hts inT12 hown hK hI List.not_mem_nil hG0 18 (by decide) (hts _ (tb_c wd_1251)) rfl rfl dX12_reads_97 (fun w2528 hg2529 k2530 k2531 => ?_)
            obtain rfl := gf.uniq (by decide) hg2507 hg2529
            have k2532 := iv_lo b1
            have k2533 := iv_hi b1
            refine pmE (E' := eu Em 16 (((b1 : Int32).toInt + 1).toNat)) (ty := .int) hx hb hts inT12 hown hK hI List.not_mem_nil hG0 hS ⟨_, hG0⟩ 11 (by decide) (hts _ (tb_c wd_1244)) rfl rfl hU10 (okM_g15 (by decide)) (fun fs a b => c10_16 a b (by omega)) (by decide +kernel) rfl rfl rfl (by omega) (by omega) dX12_reads_100 (fun H locs hI hgP hS => ?_)
            have hg2504 := hgP.2.2.1 15 _ (by decide) (by decide) hg2504
            have hg2506 := hgP.2.2.1 16 _ (by decide) (by decide) hg2506
            have hg2507 := hgP.2.2.1 18 _ (by decide) (by decide) hg2507
            have hg2509 := hgP.2.2.1 17 _ (by decide) (by decide) hg2509
            have hg2534 := hgP.2.1
            have hf2488 := hgP.2.2.2 3 _ (by decide) (by decide) hf2488
            have hf2492 := hgP.2.2.2 12 _ (by decide) (by decide) hf2492
            have hf2496 := hgP.2.2.2 13 _ (by decide) (by decide) hf2496
            have hf2500 := hgP.2.2.2 14 _ (by decide) (by decide) hf2500
            have hA2490 := va_at.kept hA2490 (hgP.1 _ (m_ne hq2489 hG0 (by first | decide | (dsimp only; decide))))
            have hA2494 := va_at.kept hA2494 (hgP.1 _ (m_ne hq2493 hG0 (by first | decide | (dsimp only; decide))))
            have hA2498 := va_at.kept hA2498 (hgP.1 _ (m_ne hq2497 hG0 (by first | decide | (dsimp only; decide))))
            have hA2502 := va_at.kept hA2502 (hgP.1 _ (m_ne hq2501 hG0 (by first | decide | (dsimp only; decide))))
            have hEq : eu Em 16 (((b1 : Int32).toInt + 1).toNat) = E := by rw [hEe, hEm, lwo_eq hO9]; exact congrArg (fun z => eu (eu Eo 15 0) 16 z) (show _ = (0 : Nat) from by omega)
            have hI : th_I (okM E) D G [] H := by rw [← hEq]; exact hI
            have hK : va_K D vwCl (th_tys E) s := by rw [← hEq, tys_eu (by decide)]; exact hK
            have hA2490 : va_at D vwCl (a2487, .inl (E 0, 5123, .inl ff)) H := by rw [show E 0 = Em 0 from (by rw [← hEq]; exact eu_ne (by decide))]; exact hA2490
            have hkf : kOk (E 10) ff := by rw [show E 10 = Em 10 from (by rw [← hEq]; exact eu_ne (by decide))]; exact hkf
            have hA2494 : va_at D vwCl (a2491, .inl (E 0, 401, .inl cd)) H := by rw [show E 0 = Em 0 from (by rw [← hEq]; exact eu_ne (by decide))]; exact hA2494
            have hA2498 : va_at D vwCl (a2495, .inl (E 0, 401, .inl va)) H := by rw [show E 0 = Em 0 from (by rw [← hEq]; exact eu_ne (by decide))]; exact hA2498
            have hA2502 : va_at D vwCl (a2499, .inl (E 0, 401, .inl pl)) H := by rw [show E 0 = Em 0 from (by rw [← hEq]; exact eu_ne (by decide))]; exact hA2502
            refine lv_aload_n hx hb dX12_reads_103 rfl (lv_at hl 1 rfl) ?_
            refine mr_i (As := []) (rest := []) (n := 0) (d := 0) ⟨hx, hb, hml, hown, hts⟩ (c_X12_fine l E D G H h0 hG0  ff cd TT p1 b1 ⟨hkf, hT, hz0, by omega, ⟨a2487, hf2488, hq2489, hA2490⟩, ⟨a2491, hf2492, hq2493, hA2494⟩, ⟨w2503, hg2504, by first | omega | decide⟩, ⟨w2505, hg2506, by first | omega | decide⟩, hg2507⟩) wd_1591 wd_1593 wp_67 wd_13 wd_1594 (by decide +kernel) ⟨by rw [hR]; exact Nat.le_of_ble_eq_true rfl, by rw [hR]; exact Nat.le_of_ble_eq_true rfl⟩ hI hN hK hS hG0 rfl hl.1 rfl (Nat.le_of_ble_eq_true rfl) dX12_reads_104 ⟨Nat.zero_le _, Nat.zero_le _⟩ (fun r2535 locs hp hS => ?_)
            rcases hp with ⟨rfl, hp⟩ | ⟨rfl, hp⟩
            · skip
              try simp only [rg, not_and, Int.not_le] at hp
              have hp2536 := hp
              have hpost : ((1 : Int32) = 1 ∧ ∃ f : Int, OUTR (tB Eo) (Eo 15) true f ∧ LD Eo D G h0 ff H) ∨ ((1 : Int32) = 0 ∧ ∃ f : Int, OUTR (tB Eo) (Eo 15) false f ∧ ga Eo D G h0 3 (1, 5123) ff H) := Or.inl ⟨rfl, _, hO9, LD_E (by rw [hEe, eu_ne (by decide), eu_ne (by decide)]) ⟨cd, TT, hT, ⟨a2487, hf2488, hq2489, hA2490⟩, ⟨a2491, hf2492, hq2493, hA2494⟩, ⟨w2503, hg2504, by omega⟩, so_x (hInv (by omega)) (by omega)⟩⟩
              subst hEe
              rw [hQ]
              exact W.zret (v := 1) hx hb hr (by decide) (fun t ht hW => ⟨⟨1, 1, rfl, rfl, ⟨by rw [ht]; exact hI, hN.warm hW, va_K.moved hW.alike hK⟩, by first | (rw [ht]; exact hpost) | exact hpost⟩, hS.F ht⟩) hS.2.2 dX12_reads_107
            · skip
              try simp only [rg, not_and, Int.not_le] at hp
              have hp2537 := hp
              exfalso; omega
          · skip
            have k2538 := iv_nle (X := w2503.toInt) (Y := w2505.toInt) rfl rfl c2526
            refine lv_aload_n hx hb dX12_reads_91 rfl (lv_at hl 1 rfl) ?_
            refine mx_v (As := []) (rest := []) (n := 0) (d := 1) ⟨hx, hb, hml, hown, hts⟩ (c_X12_faults l Em D G h0 hG0  ff cd va pl TT p1 L1 b1) wd_1607 wd_1609 wp_71 wd_13 wd_1610 (by decide +kernel) ⟨by rw [hR]; exact Nat.le_of_ble_eq_true rfl, by rw [hR]; exact Nat.le_of_ble_eq_true rfl⟩ hI hN hK hS hG0 (⟨⟨hkf, hT, hz0, by omega, ⟨a2487, hf2488, hq2489, hA2490⟩, ⟨a2491, hf2492, hq2493, hA2494⟩, ⟨w2503, hg2504, by first | omega | decide⟩, ⟨w2505, hg2506, by first | omega | decide⟩, hg2507⟩, ⟨a2495, hf2496, hq2497, hA2498⟩, ⟨a2499, hf2500, hq2501, hA2502⟩, hPl, ⟨w2508, hg2509, by first | omega | decide⟩, by omega, by first | omega | (intro; omega)⟩) rfl hl.1 rfl (Nat.le_of_ble_eq_true rfl) dX12_reads_92 ⟨Nat.zero_le _, Nat.zero_le _⟩ (fun H locs hI hp hS => ?_)
            obtain ⟨bn2540, hb2541, hd2542, hE⟩ := hp
            obtain ⟨⟨hkf, hT, hz0, k2566, ⟨a2543, hf2544, hq2545, hA2546⟩, ⟨a2547, hf2548, hq2549, hA2550⟩, ⟨w2559, hg2560, k2567⟩, ⟨w2561, hg2562, k2568⟩, hg2563⟩, ⟨a2551, hf2552, hq2553, hA2554⟩, ⟨a2555, hf2556, hq2557, hA2558⟩, hPl, ⟨w2564, hg2565, k2569⟩, k2570, k2571⟩ := hE
            have hiv2572 : IV cd va pl TT XX (5, [], nj, L1) p1 bn2540 := hiv1.flt (fun _ => pd_C_no (by omega) (by omega)) hb2541 hd2542
            have hR9 := RR_cd hXX
            obtain ⟨hx9, hb9⟩ := IV.no hiv2572 (by omega)
            have hq9 : XX.1 ≤ TT := by rw [← hXX]; exact pd_R_le (Nat.zero_le _)
            have hp9 := hPl XX.1 (by omega)
            have hO9 : OUTR (tB Eo) (Eo 15) false (bn2540).toInt := ⟨TT, XX.1, _, _, _, hTI, hpe, hq9, hR9.trans (Prod.ext rfl hx9), hb9⟩
            refine lv_aload_n hx hb dX12_reads_95 rfl (lv_at hl 1 rfl) ?_
            refine lv_aload_n hx hb dX12_reads_96 rfl (lv_at hl 1 rfl) ?_
            refine gmI hx hb hts inT12 hown hK hI List.not_mem_nil hG0 18 (by decide) (hts _ (tb_c wd_1251)) rfl rfl dX12_reads_97 (fun w2573 hg2574 k2575 k2576 => ?_)
            obtain rfl := gf.uniq (by decide) hg2563 hg2574
            have k2577 := iv_lo bn2540
            have k2578 := iv_hi bn2540
            refine pmE (E' := eu Em 16 (((bn2540 : Int32).toInt + 1).toNat)) (ty := .int) hx hb hts inT12 hown hK hI List.not_mem_nil hG0 hS ⟨_, hG0⟩ 11 (by decide) (hts _ (tb_c wd_1244)) rfl rfl hU10 (okM_g15 (by decide)) (fun fs a b => c10_16 a b (by omega)) (by decide +kernel) rfl rfl rfl (by omega) (by omega) dX12_reads_100 (fun H locs hI hgP hS => ?_)
            have hg2560 := hgP.2.2.1 15 _ (by decide) (by decide) hg2560
            have hg2562 := hgP.2.2.1 16 _ (by decide) (by decide) hg2562
            have hg2563 := hgP.2.2.1 18 _ (by decide) (by decide) hg2563
            have hg2565 := hgP.2.2.1 17 _ (by decide) (by decide) hg2565
            have hg2579 := hgP.2.1
            have hf2544 := hgP.2.2.2 3 _ (by decide) (by decide) hf2544
            have hf2548 := hgP.2.2.2 12 _ (by decide) (by decide) hf2548
            have hf2552 := hgP.2.2.2 13 _ (by decide) (by decide) hf2552
            have hf2556 := hgP.2.2.2 14 _ (by decide) (by decide) hf2556
            have hA2546 := va_at.kept hA2546 (hgP.1 _ (m_ne hq2545 hG0 (by first | decide | (dsimp only; decide))))
            have hA2550 := va_at.kept hA2550 (hgP.1 _ (m_ne hq2549 hG0 (by first | decide | (dsimp only; decide))))
            have hA2554 := va_at.kept hA2554 (hgP.1 _ (m_ne hq2553 hG0 (by first | decide | (dsimp only; decide))))
            have hA2558 := va_at.kept hA2558 (hgP.1 _ (m_ne hq2557 hG0 (by first | decide | (dsimp only; decide))))
            have hEq : eu Em 16 (((bn2540 : Int32).toInt + 1).toNat) = E := by rw [hEe, hEm, lwo_eq hO9]; exact congrArg (fun z => eu (eu Eo 15 0) 16 z) (rfl)
            have hI : th_I (okM E) D G [] H := by rw [← hEq]; exact hI
            have hK : va_K D vwCl (th_tys E) s := by rw [← hEq, tys_eu (by decide)]; exact hK
            have hA2546 : va_at D vwCl (a2543, .inl (E 0, 5123, .inl ff)) H := by rw [show E 0 = Em 0 from (by rw [← hEq]; exact eu_ne (by decide))]; exact hA2546
            have hkf : kOk (E 10) ff := by rw [show E 10 = Em 10 from (by rw [← hEq]; exact eu_ne (by decide))]; exact hkf
            have hA2550 : va_at D vwCl (a2547, .inl (E 0, 401, .inl cd)) H := by rw [show E 0 = Em 0 from (by rw [← hEq]; exact eu_ne (by decide))]; exact hA2550
            have hA2554 : va_at D vwCl (a2551, .inl (E 0, 401, .inl va)) H := by rw [show E 0 = Em 0 from (by rw [← hEq]; exact eu_ne (by decide))]; exact hA2554
            have hA2558 : va_at D vwCl (a2555, .inl (E 0, 401, .inl pl)) H := by rw [show E 0 = Em 0 from (by rw [← hEq]; exact eu_ne (by decide))]; exact hA2558
            refine lv_aload_n hx hb dX12_reads_103 rfl (lv_at hl 1 rfl) ?_
            refine mr_i (As := []) (rest := []) (n := 0) (d := 0) ⟨hx, hb, hml, hown, hts⟩ (c_X12_fine l E D G H h0 hG0  ff cd TT p1 bn2540 ⟨hkf, hT, hz0, by omega, ⟨a2543, hf2544, hq2545, hA2546⟩, ⟨a2547, hf2548, hq2549, hA2550⟩, ⟨w2559, hg2560, by first | omega | decide⟩, ⟨w2561, hg2562, by first | omega | decide⟩, hg2563⟩) wd_1591 wd_1593 wp_67 wd_13 wd_1594 (by decide +kernel) ⟨by rw [hR]; exact Nat.le_of_ble_eq_true rfl, by rw [hR]; exact Nat.le_of_ble_eq_true rfl⟩ hI hN hK hS hG0 rfl hl.1 rfl (Nat.le_of_ble_eq_true rfl) dX12_reads_104 ⟨Nat.zero_le _, Nat.zero_le _⟩ (fun r2580 locs hp hS => ?_)
            rcases hp with ⟨rfl, hp⟩ | ⟨rfl, hp⟩
            · skip
              try simp only [rg, not_and, Int.not_le] at hp
              have hp2581 := hp
              exfalso; omega
            · skip
              try simp only [rg, not_and, Int.not_le] at hp
              have hp2582 := hp
              have hpost : ((0 : Int32) = 1 ∧ ∃ f : Int, OUTR (tB Eo) (Eo 15) true f ∧ LD Eo D G h0 ff H) ∨ ((0 : Int32) = 0 ∧ ∃ f : Int, OUTR (tB Eo) (Eo 15) false f ∧ ga Eo D G h0 3 (1, 5123) ff H) := Or.inr ⟨rfl, _, hO9, ga_E (by rw [hEe, eu_ne (by decide), eu_ne (by decide)]) ⟨a2543, hf2544, hq2545, hA2546⟩⟩
              subst hEe
              rw [hQ]
              exact W.zret (v := 0) hx hb hr (by decide) (fun t ht hW => ⟨⟨0, 0, rfl, rfl, ⟨by rw [ht]; exact hI, hN.warm hW, va_K.moved hW.alike hK⟩, by first | (rw [ht]; exact hpost) | exact hpost⟩, hS.F ht⟩) hS.2.2 dX12_reads_107
        · skip
          try simp only [rg, not_and, Int.not_le] at hp
          have hp2583 := hp
          refine lv_if_eq (tgt := 95) hx hb dX12_reads_77 (by decide) (fun _ => ?_) (fun c => absurd c (by decide))
          have hR9 := RR_cd hXX
          obtain ⟨hx9, hb9⟩ := IV.no hiv1 (by omega)
          have hq9 : XX.1 ≤ TT := by rw [← hXX]; exact pd_R_le (Nat.zero_le _)
          have hp9 := hPl XX.1 (by omega)
          have hO9 : OUTR (tB Eo) (Eo 15) false (b1).toInt := ⟨TT, XX.1, _, _, _, hTI, hpe, hq9, hR9.trans (Prod.ext rfl hx9), hb9⟩
          refine lv_aload_n hx hb dX12_reads_95 rfl (lv_at hl 1 rfl) ?_
          refine lv_aload_n hx hb dX12_reads_96 rfl (lv_at hl 1 rfl) ?_
          refine gmI hx hb hts inT12 hown hK hI List.not_mem_nil hG0 18 (by decide) (hts _ (tb_c wd_1251)) rfl rfl dX12_reads_97 (fun w2584 hg2585 k2586 k2587 => ?_)
          obtain rfl := gf.uniq (by decide) hg2507 hg2585
          have k2588 := iv_lo b1
          have k2589 := iv_hi b1
          refine pmE (E' := eu Em 16 (((b1 : Int32).toInt + 1).toNat)) (ty := .int) hx hb hts inT12 hown hK hI List.not_mem_nil hG0 hS ⟨_, hG0⟩ 11 (by decide) (hts _ (tb_c wd_1244)) rfl rfl hU10 (okM_g15 (by decide)) (fun fs a b => c10_16 a b (by omega)) (by decide +kernel) rfl rfl rfl (by omega) (by omega) dX12_reads_100 (fun H locs hI hgP hS => ?_)
          have hg2504 := hgP.2.2.1 15 _ (by decide) (by decide) hg2504
          have hg2506 := hgP.2.2.1 16 _ (by decide) (by decide) hg2506
          have hg2507 := hgP.2.2.1 18 _ (by decide) (by decide) hg2507
          have hg2509 := hgP.2.2.1 17 _ (by decide) (by decide) hg2509
          have hg2590 := hgP.2.1
          have hf2488 := hgP.2.2.2 3 _ (by decide) (by decide) hf2488
          have hf2492 := hgP.2.2.2 12 _ (by decide) (by decide) hf2492
          have hf2496 := hgP.2.2.2 13 _ (by decide) (by decide) hf2496
          have hf2500 := hgP.2.2.2 14 _ (by decide) (by decide) hf2500
          have hA2490 := va_at.kept hA2490 (hgP.1 _ (m_ne hq2489 hG0 (by first | decide | (dsimp only; decide))))
          have hA2494 := va_at.kept hA2494 (hgP.1 _ (m_ne hq2493 hG0 (by first | decide | (dsimp only; decide))))
          have hA2498 := va_at.kept hA2498 (hgP.1 _ (m_ne hq2497 hG0 (by first | decide | (dsimp only; decide))))
          have hA2502 := va_at.kept hA2502 (hgP.1 _ (m_ne hq2501 hG0 (by first | decide | (dsimp only; decide))))
          have hEq : eu Em 16 (((b1 : Int32).toInt + 1).toNat) = E := by rw [hEe, hEm, lwo_eq hO9]; exact congrArg (fun z => eu (eu Eo 15 0) 16 z) (rfl)
          have hI : th_I (okM E) D G [] H := by rw [← hEq]; exact hI
          have hK : va_K D vwCl (th_tys E) s := by rw [← hEq, tys_eu (by decide)]; exact hK
          have hA2490 : va_at D vwCl (a2487, .inl (E 0, 5123, .inl ff)) H := by rw [show E 0 = Em 0 from (by rw [← hEq]; exact eu_ne (by decide))]; exact hA2490
          have hkf : kOk (E 10) ff := by rw [show E 10 = Em 10 from (by rw [← hEq]; exact eu_ne (by decide))]; exact hkf
          have hA2494 : va_at D vwCl (a2491, .inl (E 0, 401, .inl cd)) H := by rw [show E 0 = Em 0 from (by rw [← hEq]; exact eu_ne (by decide))]; exact hA2494
          have hA2498 : va_at D vwCl (a2495, .inl (E 0, 401, .inl va)) H := by rw [show E 0 = Em 0 from (by rw [← hEq]; exact eu_ne (by decide))]; exact hA2498
          have hA2502 : va_at D vwCl (a2499, .inl (E 0, 401, .inl pl)) H := by rw [show E 0 = Em 0 from (by rw [← hEq]; exact eu_ne (by decide))]; exact hA2502
          refine lv_aload_n hx hb dX12_reads_103 rfl (lv_at hl 1 rfl) ?_
          refine mr_i (As := []) (rest := []) (n := 0) (d := 0) ⟨hx, hb, hml, hown, hts⟩ (c_X12_fine l E D G H h0 hG0  ff cd TT p1 b1 ⟨hkf, hT, hz0, by omega, ⟨a2487, hf2488, hq2489, hA2490⟩, ⟨a2491, hf2492, hq2493, hA2494⟩, ⟨w2503, hg2504, by first | omega | decide⟩, ⟨w2505, hg2506, by first | omega | decide⟩, hg2507⟩) wd_1591 wd_1593 wp_67 wd_13 wd_1594 (by decide +kernel) ⟨by rw [hR]; exact Nat.le_of_ble_eq_true rfl, by rw [hR]; exact Nat.le_of_ble_eq_true rfl⟩ hI hN hK hS hG0 rfl hl.1 rfl (Nat.le_of_ble_eq_true rfl) dX12_reads_104 ⟨Nat.zero_le _, Nat.zero_le _⟩ (fun r2591 locs hp hS => ?_)
          rcases hp with ⟨rfl, hp⟩ | ⟨rfl, hp⟩
          · skip
            try simp only [rg, not_and, Int.not_le] at hp
            have hp2592 := hp
            exfalso; omega
          · skip
            try simp only [rg, not_and, Int.not_le] at hp
            have hp2593 := hp
            have hpost : ((0 : Int32) = 1 ∧ ∃ f : Int, OUTR (tB Eo) (Eo 15) true f ∧ LD Eo D G h0 ff H) ∨ ((0 : Int32) = 0 ∧ ∃ f : Int, OUTR (tB Eo) (Eo 15) false f ∧ ga Eo D G h0 3 (1, 5123) ff H) := Or.inr ⟨rfl, _, hO9, ga_E (by rw [hEe, eu_ne (by decide), eu_ne (by decide)]) ⟨a2487, hf2488, hq2489, hA2490⟩⟩
            subst hEe
            rw [hQ]
            exact W.zret (v := 0) hx hb hr (by decide) (fun t ht hW => ⟨⟨0, 0, rfl, rfl, ⟨by rw [ht]; exact hI, hN.warm hW, va_K.moved hW.alike hK⟩, by first | (rw [ht]; exact hpost) | exact hpost⟩, hS.F ht⟩) hS.2.2 dX12_reads_107
  refine lv_aload_n hx hb dX12_reads_0 rfl (lv_at hl 0 rfl) ?_
  refine lv_aload_n hx hb dX12_reads_1 rfl (lv_at hl 0 rfl) ?_
  refine gmI hx hb hts inT12 hown hK hI List.not_mem_nil hG0 10 (by decide) (hts _ (tb_c wd_1243)) rfl rfl dX12_reads_2 (fun w2594 hg2595 k2596 k2597 => ?_)
  have k2598 := lw_g10 hI hG0 List.not_mem_nil hg2595
  refine mx_v (As := [.int w2594]) (rest := []) (n := 1) (d := 2) ⟨hx, hb, hml, hown, hts⟩ (c_X12_splits l Eo D G h0 hG0 w2594 ⟨by omega, by omega⟩ ff hkf (Eo 15) (by omega)) wd_1568 wd_1570 wp_63 wd_13 wd_1571 (by decide +kernel) ⟨by rw [hR]; exact Nat.le_of_ble_eq_true rfl, by rw [hR]; exact Nat.le_of_ble_eq_true rfl⟩ hI hN hK hS hG0 (⟨q_3, hf_3, hq_3, hA_3⟩) rfl hl.1 rfl (Nat.le_of_ble_eq_true rfl) dX12_reads_5 ⟨Nat.zero_le _, Nat.zero_le _⟩ (fun H locs hI hp hS => ?_)
  obtain ⟨TT, cd, va, pl, ⟨w2600, hg2601, k2602⟩, hT, ⟨a2603, hf2604, hq2605, hA2606⟩, ⟨a2607, hf2608, hq2609, hA2610⟩, ⟨a2611, hf2612, hq2613, hA2614⟩, ⟨a2615, hf2616, hq2617, hA2618⟩, hPl, hz0, hpe, hTI⟩ := hp
  refine lv_aload_n hx hb dX12_reads_8 rfl (lv_at hl 0 rfl) ?_
  refine lv_iconst (v := 0) hx hb dX12_reads_9 (by decide) ?_
  refine pmE (E' := eu Eo 15 0) (ty := .int) hx hb hts inT12 hown hK hI List.not_mem_nil hG0 hS ⟨_, hG0⟩ 10 (by decide) (hts _ (tb_c wd_1243)) rfl rfl hU10 (okM_g15 (by decide)) (fun fs a b => c10_15 a b (by decide)) (by decide +kernel) rfl rfl rfl (by decide) (by decide) dX12_reads_10 (fun H locs hI hgP hS => ?_)
  have hg2601 := hgP.2.2.1 15 _ (by decide) (by decide) hg2601
  have hg2619 := hgP.2.1
  have hf2604 := hgP.2.2.2 3 _ (by decide) (by decide) hf2604
  have hf2608 := hgP.2.2.2 12 _ (by decide) (by decide) hf2608
  have hf2612 := hgP.2.2.2 13 _ (by decide) (by decide) hf2612
  have hf2616 := hgP.2.2.2 14 _ (by decide) (by decide) hf2616
  have hA2606 := va_at.kept hA2606 (hgP.1 _ (m_ne hq2605 hG0 (by first | decide | (dsimp only; decide))))
  have hA2610 := va_at.kept hA2610 (hgP.1 _ (m_ne hq2609 hG0 (by first | decide | (dsimp only; decide))))
  have hA2614 := va_at.kept hA2614 (hgP.1 _ (m_ne hq2613 hG0 (by first | decide | (dsimp only; decide))))
  have hA2618 := va_at.kept hA2618 (hgP.1 _ (m_ne hq2617 hG0 (by first | decide | (dsimp only; decide))))
  have hI : th_I (okM Em) D G [] H := by rw [hEm]; exact hI
  have hK := hKm
  have hA2606 : va_at D vwCl (a2603, .inl (Em 0, 5123, .inl ff)) H := by rw [show Em 0 = Eo 0 from (by rw [hEm]; exact eu_ne (by decide))]; exact hA2606
  have hkf : kOk (Em 10) ff := by rw [show Em 10 = Eo 10 from (by rw [hEm]; exact eu_ne (by decide))]; exact hkf
  have hA2610 : va_at D vwCl (a2607, .inl (Em 0, 401, .inl cd)) H := by rw [show Em 0 = Eo 0 from (by rw [hEm]; exact eu_ne (by decide))]; exact hA2610
  have hA2614 : va_at D vwCl (a2611, .inl (Em 0, 401, .inl va)) H := by rw [show Em 0 = Eo 0 from (by rw [hEm]; exact eu_ne (by decide))]; exact hA2614
  have hA2618 : va_at D vwCl (a2615, .inl (Em 0, 401, .inl pl)) H := by rw [show Em 0 = Eo 0 from (by rw [hEm]; exact eu_ne (by decide))]; exact hA2618
  refine lv_aload_n hx hb dX12_reads_13 rfl (lv_at hl 0 rfl) ?_
  refine lv_iconst (v := 0) hx hb dX12_reads_14 (by decide) ?_
  refine pmI (ty := .int) hx hb hts inT12 hown hK hI List.not_mem_nil hG0 hS ⟨_, hG0⟩ 16 (by decide) (by decide) (hts _ (tb_c wd_1249)) rfl rfl (by decide +kernel) rfl rfl rfl (by decide) (by decide) dX12_reads_15 (fun H locs hI hgP hS => ?_)
  have hg2601 := hgP.2.2.1 15 _ (by decide) (by decide) hg2601
  have hg2619 := hgP.2.2.1 10 _ (by decide) (by decide) hg2619
  have hg2620 := hgP.2.1
  have hf2604 := hgP.2.2.2 3 _ (by decide) (by decide) hf2604
  have hf2608 := hgP.2.2.2 12 _ (by decide) (by decide) hf2608
  have hf2612 := hgP.2.2.2 13 _ (by decide) (by decide) hf2612
  have hf2616 := hgP.2.2.2 14 _ (by decide) (by decide) hf2616
  have hA2606 := va_at.kept hA2606 (hgP.1 _ (m_ne hq2605 hG0 (by first | decide | (dsimp only; decide))))
  have hA2610 := va_at.kept hA2610 (hgP.1 _ (m_ne hq2609 hG0 (by first | decide | (dsimp only; decide))))
  have hA2614 := va_at.kept hA2614 (hgP.1 _ (m_ne hq2613 hG0 (by first | decide | (dsimp only; decide))))
  have hA2618 := va_at.kept hA2618 (hgP.1 _ (m_ne hq2617 hG0 (by first | decide | (dsimp only; decide))))
  refine lv_aload_n hx hb dX12_reads_18 rfl (lv_at hl 0 rfl) ?_
  refine lv_iconst (v := 0) hx hb dX12_reads_19 (by decide) ?_
  refine pmI (ty := .int) hx hb hts inT12 hown hK hI List.not_mem_nil hG0 hS ⟨_, hG0⟩ 17 (by decide) (by decide) (hts _ (tb_c wd_1250)) rfl rfl (by decide +kernel) rfl rfl rfl (by decide) (by decide) dX12_reads_20 (fun H locs hI hgP hS => ?_)
  have hg2601 := hgP.2.2.1 15 _ (by decide) (by decide) hg2601
  have hg2619 := hgP.2.2.1 10 _ (by decide) (by decide) hg2619
  have hg2620 := hgP.2.2.1 16 _ (by decide) (by decide) hg2620
  have hg2621 := hgP.2.1
  have hf2604 := hgP.2.2.2 3 _ (by decide) (by decide) hf2604
  have hf2608 := hgP.2.2.2 12 _ (by decide) (by decide) hf2608
  have hf2612 := hgP.2.2.2 13 _ (by decide) (by decide) hf2612
  have hf2616 := hgP.2.2.2 14 _ (by decide) (by decide) hf2616
  have hA2606 := va_at.kept hA2606 (hgP.1 _ (m_ne hq2605 hG0 (by first | decide | (dsimp only; decide))))
  have hA2610 := va_at.kept hA2610 (hgP.1 _ (m_ne hq2609 hG0 (by first | decide | (dsimp only; decide))))
  have hA2614 := va_at.kept hA2614 (hgP.1 _ (m_ne hq2613 hG0 (by first | decide | (dsimp only; decide))))
  have hA2618 := va_at.kept hA2618 (hgP.1 _ (m_ne hq2617 hG0 (by first | decide | (dsimp only; decide))))
  refine lv_aload_n hx hb dX12_reads_23 rfl (lv_at hl 0 rfl) ?_
  refine lv_iconst (v := (-1)) hx hb dX12_reads_24 (by decide) ?_
  refine pmI (ty := .int) hx hb hts inT12 hown hK hI List.not_mem_nil hG0 hS ⟨_, hG0⟩ 18 (by decide) (by decide) (hts _ (tb_c wd_1251)) rfl rfl (by decide +kernel) rfl rfl rfl (by decide) (by decide) dX12_reads_25 (fun H locs hI hgP hS => ?_)
  have hg2601 := hgP.2.2.1 15 _ (by decide) (by decide) hg2601
  have hg2619 := hgP.2.2.1 10 _ (by decide) (by decide) hg2619
  have hg2620 := hgP.2.2.1 16 _ (by decide) (by decide) hg2620
  have hg2621 := hgP.2.2.1 17 _ (by decide) (by decide) hg2621
  have hg2622 := hgP.2.1
  have hf2604 := hgP.2.2.2 3 _ (by decide) (by decide) hf2604
  have hf2608 := hgP.2.2.2 12 _ (by decide) (by decide) hf2608
  have hf2612 := hgP.2.2.2 13 _ (by decide) (by decide) hf2612
  have hf2616 := hgP.2.2.2 14 _ (by decide) (by decide) hf2616
  have hA2606 := va_at.kept hA2606 (hgP.1 _ (m_ne hq2605 hG0 (by first | decide | (dsimp only; decide))))
  have hA2610 := va_at.kept hA2610 (hgP.1 _ (m_ne hq2609 hG0 (by first | decide | (dsimp only; decide))))
  have hA2614 := va_at.kept hA2614 (hgP.1 _ (m_ne hq2613 hG0 (by first | decide | (dsimp only; decide))))
  have hA2618 := va_at.kept hA2618 (hgP.1 _ (m_ne hq2617 hG0 (by first | decide | (dsimp only; decide))))
  obtain ⟨XX, hXX⟩ : ∃ X : Nat × Bool, RR cd va TT (0, [], 0, 0) 0 = X := ⟨_, rfl⟩
  have hiv0 : IV cd va pl TT XX (0, [], 0, 0) 0 (-1) := Or.inl ⟨by decide, hXX⟩
  refine lv_aload_n hx hb dX12_reads_28 rfl (lv_at hl 0 rfl) ?_
  refine mx_v (As := []) (rest := []) (n := 0) (d := 57) ⟨hx, hb, hml, hown, hts⟩ (c_X12_readClause l Em D G h0 hG0  ff cd va pl TT 0 0 (-1) 0 XX (by omega) hiv0) wd_1583 wd_1585 wp_65 wd_13 wd_1586 (by decide +kernel) ⟨by rw [hR]; exact Nat.le_of_ble_eq_true rfl, by rw [hR]; exact Nat.le_of_ble_eq_true rfl⟩ hI hN hK hS hG0 (⟨⟨hkf, hT, hz0, by omega, ⟨a2603, hf2604, hq2605, hA2606⟩, ⟨a2607, hf2608, hq2609, hA2610⟩, ⟨w2600, hg2601, by first | omega | decide⟩, ⟨0, hg2620, by first | omega | decide⟩, hg2622⟩, ⟨a2611, hf2612, hq2613, hA2614⟩, ⟨a2615, hf2616, hq2617, hA2618⟩, hPl, ⟨0, hg2621, by first | omega | decide⟩, by omega, by first | omega | (intro; omega)⟩) rfl hl.1 rfl (Nat.le_of_ble_eq_true rfl) dX12_reads_29 ⟨Nat.zero_le _, Nat.zero_le _⟩ (fun H locs hI hp hS => ?_)
  obtain ⟨pn2624, bn2625, Ln2626, hE, k2629, hi2627, hiv2628⟩ := hp
  obtain ⟨⟨hkf, hT, hz0, k2653, ⟨a2630, hf2631, hq2632, hA2633⟩, ⟨a2634, hf2635, hq2636, hA2637⟩, ⟨w2646, hg2647, k2654⟩, ⟨w2648, hg2649, k2655⟩, hg2650⟩, ⟨a2638, hf2639, hq2640, hA2641⟩, ⟨a2642, hf2643, hq2644, hA2645⟩, hPl, ⟨w2651, hg2652, k2656⟩, k2657, k2658⟩ := hE
  have hInv0 : bn2625.toInt = -1 → g_so (rC cd TT) TT pn2624 := fun h => so_i (hi2627 h).2
  refine lv_iconst (v := 1) hx hb dX12_reads_32 (by decide) ?_
  refine lv_istore_n (lv' := [(1, .int 1), (0, .ref h0)]) hx hb dX12_reads_33 rfl hl (by decide) rfl (fun ls hl => ?_)
  exact J_34 _ H locs ls 1 cd va pl TT XX pn2624 bn2625 Ln2626 1 rfl (lv_sub hl [0, 1] rfl) ⟨by decide, by decide⟩ (hTI) (hpe) (hXX) (by first | omega | decide) (hiv2628) (hInv0) (⟨⟨hkf, hT, hz0, by omega, ⟨a2630, hf2631, hq2632, hA2633⟩, ⟨a2634, hf2635, hq2636, hA2637⟩, ⟨w2646, hg2647, by first | omega | decide⟩, ⟨w2648, hg2649, by first | omega | decide⟩, hg2650⟩, ⟨a2638, hf2639, hq2640, hA2641⟩, ⟨a2642, hf2643, hq2644, hA2645⟩, hPl, ⟨w2651, hg2652, by first | omega | decide⟩, by omega, by first | omega | (intro; omega)⟩) hI hS
theorem dX12_law_0 : decode cX12_law 0 = .ok (.aload_n 0, 1) := by decide +kernel
theorem dX12_law_1 : decode cX12_law 1 = .ok (.getfield 20, 3) := by decide +kernel
theorem dX12_law_4 : decode cX12_law 4 = .ok (.sipush 315, 3) := by decide +kernel
theorem dX12_law_7 : decode cX12_law 7 = .ok (.iaload, 1) := by decide +kernel
theorem dX12_law_8 : decode cX12_law 8 = .ok (.bipush 6, 2) := by decide +kernel
theorem dX12_law_10 : decode cX12_law 10 = .ok (.if_icmp .ne 15, 3) := by decide +kernel
theorem dX12_law_13 : decode cX12_law 13 = .ok (.aload_n 0, 1) := by decide +kernel
theorem dX12_law_14 : decode cX12_law 14 = .ok (.iconst 0, 1) := by decide +kernel
theorem dX12_law_15 : decode cX12_law 15 = .ok (.putfield 132, 3) := by decide +kernel
theorem dX12_law_18 : decode cX12_law 18 = .ok (.aload_n 0, 1) := by decide +kernel
theorem dX12_law_19 : decode cX12_law 19 = .ok (.bipush (-5), 2) := by decide +kernel
theorem dX12_law_21 : decode cX12_law 21 = .ok (.invokevirtual 107, 3) := by decide +kernel
theorem dX12_law_24 : decode cX12_law 24 = .ok (.ireturn, 1) := by decide +kernel
theorem dX12_law_25 : decode cX12_law 25 = .ok (.aload_n 0, 1) := by decide +kernel
theorem dX12_law_26 : decode cX12_law 26 = .ok (.invokevirtual 213, 3) := by decide +kernel
theorem dX12_law_29 : decode cX12_law 29 = .ok (.ifCond .ne 10, 3) := by decide +kernel
theorem dX12_law_32 : decode cX12_law 32 = .ok (.aload_n 0, 1) := by decide +kernel
theorem dX12_law_33 : decode cX12_law 33 = .ok (.bipush (-6), 2) := by decide +kernel
theorem dX12_law_35 : decode cX12_law 35 = .ok (.invokevirtual 107, 3) := by decide +kernel
theorem dX12_law_38 : decode cX12_law 38 = .ok (.ireturn, 1) := by decide +kernel
theorem dX12_law_39 : decode cX12_law 39 = .ok (.aload_n 0, 1) := by decide +kernel
theorem dX12_law_40 : decode cX12_law 40 = .ok (.getfield 20, 3) := by decide +kernel
theorem dX12_law_43 : decode cX12_law 43 = .ok (.sipush 315, 3) := by decide +kernel
theorem dX12_law_46 : decode cX12_law 46 = .ok (.iaload, 1) := by decide +kernel
theorem dX12_law_47 : decode cX12_law 47 = .ok (.istore_n 1, 1) := by decide +kernel
theorem dX12_law_48 : decode cX12_law 48 = .ok (.aload_n 0, 1) := by decide +kernel
theorem dX12_law_49 : decode cX12_law 49 = .ok (.getfield 20, 3) := by decide +kernel
theorem dX12_law_52 : decode cX12_law 52 = .ok (.sipush 317, 3) := by decide +kernel
theorem dX12_law_55 : decode cX12_law 55 = .ok (.iload_n 1, 1) := by decide +kernel
theorem dX12_law_56 : decode cX12_law 56 = .ok (.iadd, 1) := by decide +kernel
theorem dX12_law_57 : decode cX12_law 57 = .ok (.aload_n 0, 1) := by decide +kernel
theorem dX12_law_58 : decode cX12_law 58 = .ok (.getfield 145, 3) := by decide +kernel
theorem dX12_law_61 : decode cX12_law 61 = .ok (.iastore, 1) := by decide +kernel
theorem dX12_law_62 : decode cX12_law 62 = .ok (.iconst 0, 1) := by decide +kernel
theorem dX12_law_63 : decode cX12_law 63 = .ok (.istore_n 2, 1) := by decide +kernel
theorem dX12_law_64 : decode cX12_law 64 = .ok (.iload_n 2, 1) := by decide +kernel
theorem dX12_law_65 : decode cX12_law 65 = .ok (.aload_n 0, 1) := by decide +kernel
theorem dX12_law_66 : decode cX12_law 66 = .ok (.getfield 145, 3) := by decide +kernel
theorem dX12_law_69 : decode cX12_law 69 = .ok (.if_icmp .ge 53, 3) := by decide +kernel
theorem dX12_law_72 : decode cX12_law 72 = .ok (.aload_n 0, 1) := by decide +kernel
theorem dX12_law_73 : decode cX12_law 73 = .ok (.getfield 20, 3) := by decide +kernel
theorem dX12_law_76 : decode cX12_law 76 = .ok (.sipush 323, 3) := by decide +kernel
theorem dX12_law_79 : decode cX12_law 79 = .ok (.sipush 400, 3) := by decide +kernel
theorem dX12_law_82 : decode cX12_law 82 = .ok (.iload_n 1, 1) := by decide +kernel
theorem dX12_law_83 : decode cX12_law 83 = .ok (.imul, 1) := by decide +kernel
theorem dX12_law_84 : decode cX12_law 84 = .ok (.iadd, 1) := by decide +kernel
theorem dX12_law_85 : decode cX12_law 85 = .ok (.iload_n 2, 1) := by decide +kernel
theorem dX12_law_86 : decode cX12_law 86 = .ok (.iadd, 1) := by decide +kernel
theorem dX12_law_87 : decode cX12_law 87 = .ok (.aload_n 0, 1) := by decide +kernel
theorem dX12_law_88 : decode cX12_law 88 = .ok (.getfield 43, 3) := by decide +kernel
theorem dX12_law_91 : decode cX12_law 91 = .ok (.iload_n 2, 1) := by decide +kernel
theorem dX12_law_92 : decode cX12_law 92 = .ok (.iaload, 1) := by decide +kernel
theorem dX12_law_93 : decode cX12_law 93 = .ok (.iastore, 1) := by decide +kernel
theorem dX12_law_94 : decode cX12_law 94 = .ok (.aload_n 0, 1) := by decide +kernel
theorem dX12_law_95 : decode cX12_law 95 = .ok (.getfield 20, 3) := by decide +kernel
theorem dX12_law_98 : decode cX12_law 98 = .ok (.sipush 2723, 3) := by decide +kernel
theorem dX12_law_101 : decode cX12_law 101 = .ok (.sipush 400, 3) := by decide +kernel
theorem dX12_law_104 : decode cX12_law 104 = .ok (.iload_n 1, 1) := by decide +kernel
theorem dX12_law_105 : decode cX12_law 105 = .ok (.imul, 1) := by decide +kernel
theorem dX12_law_106 : decode cX12_law 106 = .ok (.iadd, 1) := by decide +kernel
theorem dX12_law_107 : decode cX12_law 107 = .ok (.iload_n 2, 1) := by decide +kernel
theorem dX12_law_108 : decode cX12_law 108 = .ok (.iadd, 1) := by decide +kernel
theorem dX12_law_109 : decode cX12_law 109 = .ok (.aload_n 0, 1) := by decide +kernel
theorem dX12_law_110 : decode cX12_law 110 = .ok (.getfield 46, 3) := by decide +kernel
theorem dX12_law_113 : decode cX12_law 113 = .ok (.iload_n 2, 1) := by decide +kernel
theorem dX12_law_114 : decode cX12_law 114 = .ok (.iaload, 1) := by decide +kernel
theorem dX12_law_115 : decode cX12_law 115 = .ok (.iastore, 1) := by decide +kernel
theorem dX12_law_116 : decode cX12_law 116 = .ok (.iinc 2 1, 3) := by decide +kernel
theorem dX12_law_119 : decode cX12_law 119 = .ok (.goto (-55), 3) := by decide +kernel
theorem dX12_law_122 : decode cX12_law 122 = .ok (.aload_n 0, 1) := by decide +kernel
theorem dX12_law_123 : decode cX12_law 123 = .ok (.getfield 20, 3) := by decide +kernel
theorem dX12_law_126 : decode cX12_law 126 = .ok (.sipush 315, 3) := by decide +kernel
theorem dX12_law_129 : decode cX12_law 129 = .ok (.dup2, 1) := by decide +kernel
theorem dX12_law_130 : decode cX12_law 130 = .ok (.iaload, 1) := by decide +kernel
theorem dX12_law_131 : decode cX12_law 131 = .ok (.iconst 1, 1) := by decide +kernel
theorem dX12_law_132 : decode cX12_law 132 = .ok (.iadd, 1) := by decide +kernel
theorem dX12_law_133 : decode cX12_law 133 = .ok (.iastore, 1) := by decide +kernel
theorem dX12_law_134 : decode cX12_law 134 = .ok (.aload_n 0, 1) := by decide +kernel
theorem dX12_law_135 : decode cX12_law 135 = .ok (.iload_n 1, 1) := by decide +kernel
theorem dX12_law_136 : decode cX12_law 136 = .ok (.invokevirtual 111, 3) := by decide +kernel
theorem dX12_law_139 : decode cX12_law 139 = .ok (.ireturn, 1) := by decide +kernel
set_option maxHeartbeats 4000000 in
set_option maxRecDepth 100000 in
theorem c_X12_law (l : Launch) (Eo : Nat → Nat) (D : va_G) (G : th_G) (h0 : Nat) (hG0 : G h0 = some (10, 0)) (hU1 : UQ G 1) (hU10 : UQ G 10) : Met l yX12_law (tb (.code yX12_law cX12_law 3 (some .int))) (rm 59) (va_Pc [.ref h0] (PX Eo D G (fun H => True))) (QXi (mL Eo 15 16 10 (tB Eo)) D G (fun r H => (r : Int32).toInt = lwR (Eo 10) (lwo (tB Eo) (Eo 15)))) 0 0 (th_A G) := by
  refine Met.ofW (cc := cX12_law) (maxL := 3) (ret := (some .int)) (by decide) rfl ?_
  intro p e s m args below meth c s₁ B hml hv
  obtain ⟨hav, ⟨hI, hN, hK⟩, hX⟩ := hv
  have hx := B.exec
  have hb := B.bytes
  have hr := B.returns
  have hts := atoms_spec (ws := tb (.code yX12_law cX12_law 3 (some .int))) B.pre
  have hown : s.vm.findClass RX12 = some m.cls := findClass_of_methodNamed B.named
  have hlocks := B.notSynchronized
  have hS : va_S (th_A G) s.heap s.heap [] := va_S.rf
  have hl := lv_entry ([.ref h0]) (n := 3) (Nat.le_of_ble_eq_true rfl)
  rw [show entryFrame m args 3 = entryFrame m ([.ref h0] : List Value).toArray 3 from by rw [hav], lg_entry_eq]
  generalize (lg_sl ([.ref h0]) ++ List.replicate (3 - (lg_sl ([.ref h0])).length) Slot.unset).toArray = ls at hl ⊢
  obtain ⟨E, hEe⟩ : ∃ x : Nat → Nat, x = mL Eo 15 16 10 (tB Eo) := ⟨_, rfl⟩
  have hl : lv_has ls 3 [(0, .ref h0)] := hl
  generalize hR : (headSpec (tb (.code yX12_law cX12_law 3 (some .int))) (rm 59)).room = R
  have hR := hR.symm
  generalize hQ : MQ below (QXi (mL Eo 15 16 10 (tB Eo)) D G (fun r H => (r : Int32).toInt = lwR (Eo 10) (lwo (tB Eo) (Eo 15)))) args s 0 0 (th_A G) = QF
  have hQ := hQ.symm
  obtain ⟨Em, hEm⟩ : ∃ x : Nat → Nat, x = eu (eu Eo 15 0) 16 (lwF (lwo (tB Eo) (Eo 15))) := ⟨_, rfl⟩
  have hKm : va_K D vwCl (th_tys Em) s := by rw [hEm, tys_eu (by decide), tys_eu (by decide)]; exact hK
  have hEm10 : Em 10 = Eo 10 := by rw [hEm, eu_ne (by decide)]; exact eu_ne (by decide)
  have J_64 : ∀ (nn : Nat) (H : Heap) (locs : List Loc) (ls : Array Slot) (v891 : Int32) (v892 : Int32) (v893 : Int32) (qr : Nat) (ff : Nat → Int32) (cd : Nat → Int32) (FF : Nat → Int32) (tt : Nat) (TT : Nat) (kk : Nat), (Int.toNat (((TT : Nat) : Int) - ((kk : Nat) : Int)) = nn) → lv_has ls 3 [(2, .int v891), (1, .int v892), (0, .ref h0)] → ((0 : Int) ≤ v891.toInt ∧ v891.toInt ≤ 400) → ((0 : Int) ≤ v892.toInt ∧ v892.toInt ≤ 5) → ((0 : Int) ≤ v893.toInt ∧ v893.toInt ≤ 400) → gf D h0 15 v893 H → ga Em D G h0 12 (8, 401) cd H → (G qr = some (1, 5123)) → (fr D h0 3 qr H) → (va_at D vwCl (qr, .inl (Em 0, 5123, .inl FF)) H) → (kOk (Em 10) ff) → (tt < 6) → (TT ≤ 400) → (∃ n, g_lw (rC cd TT) TT n 0) → ((tt : Int) = v892.toInt) → (v893.toInt = (TT : Int)) → (v891.toInt = (kk : Int)) → (kk ≤ TT) → ((ff 315).toInt ≤ 5) → (LI ff cd FF tt TT kk) → (v892.toInt = ((Eo 10 / 8 : Nat) : Int)) → (Eo 10 < 48) → (∃ f : Int, OUTR (tB Eo) (Eo 15) true f) → th_I (okM Em) D G [qr] H → va_S (th_A G) s.heap H locs → W p l e R s m args below meth c H locs 0 0 QF (F0 m 64 ls []) := by
    intro nn
    induction nn using Nat.strongRecOn with
    | ind nn ih_64 =>
      intro H locs ls v891 v892 v893 qr ff cd FF tt TT kk hm hl k894 k895 k896 hg897 hga_12 hqr hfr hAr hkf ht6 hT hgl htt hTT hkk hkT h315f hLI hx10 hx48 hO9x hI hS
      have hK := hKm
      obtain ⟨a898, hf899, hq900, hA901⟩ := hga_12
      obtain ⟨f9, hO9⟩ := hO9x
      refine lv_iload_n hx hb dX12_law_64 rfl (lv_at hl 0 rfl) ?_
      refine lv_aload_n hx hb dX12_law_65 rfl (lv_at hl 2 rfl) ?_
      refine gmI hx hb hts inT12 hown hK hI (m_nin hG0 hqr (by first | decide | (dsimp only; decide))) hG0 15 (by decide) (hts _ (tb_c wd_1248)) rfl rfl dX12_law_66 (fun w902 hg903 k904 k905 => ?_)
      obtain rfl := gf.uniq (by decide) hg897 hg903
      refine lv_icmp_ge (tgt := 122) hx hb dX12_law_69 (by decide) (fun c906 => ?_) (fun c906 => ?_)
      · skip
        have k907 := iv_le (X := v893.toInt) (Y := v891.toInt) rfl rfl c906
        obtain rfl : kk = TT := by omega
        have hPn := LI.done hLI hkf ht6 hT hgl
        have hI := th_I.close hI hqr hAr (ok_m1 hPn)
        have h315 : FF 315 = ff 315 := hLI.1 315 (by omega) (by omega) (by omega)
        refine lv_aload_n hx hb dX12_law_122 rfl (lv_at hl 2 rfl) ?_
        refine gmA hx hb hts inT12 hown hK hI List.not_mem_nil hG0 3 (by decide) (hts _ (tb_c wd_1236)) rfl rfl dX12_law_123 (fun a908 hq909 hf910 => ?_)
        obtain rfl := fr.uniq (by decide) hfr hf910
        refine lv_sipush (v := 315) hx hb dX12_law_126 (by decide) ?_
        refine lv_dup2_11 hx hb dX12_law_129 rfl rfl ?_
        refine th_iald hx hb hK hAr 0 rfl (iv_in (X := (315)) (by decide) (by omega) (by omega)) dX12_law_130 (fun v911 e912 => ?_)
        have k913 := kg_t315 (kOk.get (i := 315) hPn e912 (X := (315)) (by decide) (by omega) (by omega)) (by omega) (by omega) (by omega)
        have k914 : v911.toInt ≤ 5 := by rw [e912]; show (FF 315).toInt ≤ 5; rw [h315]; omega
        refine lv_iconst (v := 1) hx hb dX12_law_131 (by decide) ?_
        refine lv_iadd hx hb dX12_law_132 ?_
        refine lv_topi (fun v915 e916 => ?_)
        have tv915 : v915.toInt = v911.toInt + (1) := iv_add rfl (by decide) e916 (by omega) (by omega)
        refine th_iast hx hb hK hAr 0 rfl hS ⟨_, hqr⟩ (iv_in (X := (315)) (by decide) (by omega) (by omega)) dX12_law_133 (fun H locs hA917 oq hS => ?_)
        have hPt := kOk.set6 (i := 315) (v := v915) (c' := (8 * (v915.toInt).toNat + Em 10 % 8)) hPn (X := (315)) (by decide) (by omega) (by omega) ⟨by omega, by omega, by omega⟩ (by omega)
        have hEq : eu Em 10 (8 * (v915.toInt).toNat + Em 10 % 8) = E := by rw [hEe, mL_yes (by omega) hO9, show (8 * (v915.toInt).toNat + Em 10 % 8) = Eo 10 + 8 by omega, hEm, lwo_eq hO9]; rfl
        have hI : th_I (okM E) D G [] H := by rw [← hEq]; exact em_put hI hqr hU1 (fun _ _ _ => okM_e10 rfl) hA917 (ok_m1T hPt) oq
        have hK : va_K D vwCl (th_tys E) s := by rw [← hEq, tys_eu (by decide)]; exact hK
        have hg897 := gf.arr hG0 hqr (by decide) oq hg897
        have hf899 := fr.arr hG0 hqr (by decide) oq hf899
        have hfr := fr.arr hG0 hqr (by decide) oq hfr
        refine lv_aload_n hx hb dX12_law_134 rfl (lv_at hl 2 rfl) ?_
        refine lv_iload_n hx hb dX12_law_135 rfl (lv_at hl 1 rfl) ?_
        refine mx_i (As := [.int v892]) (rest := []) (n := 1) (d := 0) ⟨hx, hb, hml, hown, hts⟩ (c_X12_good l E D G h0 hG0 v892) wd_1402 wd_1404 wp_41 wd_13 wd_1405 (by decide +kernel) ⟨by rw [hR]; exact Nat.le_of_ble_eq_true rfl, by rw [hR]; exact Nat.le_of_ble_eq_true rfl⟩ hI hN hK hS hG0 (trivial) rfl hl.1 rfl (Nat.le_of_ble_eq_true rfl) dX12_law_136 ⟨Nat.zero_le _, Nat.zero_le _⟩ (fun r918 H locs hI hp hS => ?_)
        obtain rfl := hp.symm
        have hpost : (v892 : Int32).toInt = lwR (Eo 10) (lwo (tB Eo) (Eo 15)) := by rw [lwR_yes (by omega) hO9]; omega
        subst hEe
        rw [hQ]
        exact W.iret (v := v892) hx hb hr (fun t ht hW => ⟨⟨v892, v892, rfl, rfl, ⟨by rw [ht]; exact hI, hN.warm hW, va_K.moved hW.alike hK⟩, by first | (rw [ht]; exact hpost) | exact hpost⟩, hS.F ht⟩) hS.2.2 dX12_law_139
      · skip
        have k919 := iv_nle (X := v893.toInt) (Y := v891.toInt) rfl rfl c906
        refine lv_aload_n hx hb dX12_law_72 rfl (lv_at hl 2 rfl) ?_
        refine gmA hx hb hts inT12 hown hK hI (m_nin hG0 hqr (by first | decide | (dsimp only; decide))) hG0 3 (by decide) (hts _ (tb_c wd_1236)) rfl rfl dX12_law_73 (fun a920 hq921 hf922 => ?_)
        obtain rfl := fr.uniq (by decide) hfr hf922
        refine lv_sipush (v := 323) hx hb dX12_law_76 (by decide) ?_
        refine lv_sipush (v := 400) hx hb dX12_law_79 (by decide) ?_
        refine lv_iload_n hx hb dX12_law_82 rfl (lv_at hl 1 rfl) ?_
        refine lv_imul hx hb dX12_law_83 ?_
        refine lv_topi (fun v923 e924 => ?_)
        have tv923 : v923.toInt = (400) * v892.toInt := iv_mul (by decide) rfl e924 (by omega) (by omega)
        refine lv_iadd hx hb dX12_law_84 ?_
        refine lv_topi (fun v925 e926 => ?_)
        have tv925 : v925.toInt = (323) + v923.toInt := iv_add (by decide) rfl e926 (by omega) (by omega)
        refine lv_iload_n hx hb dX12_law_85 rfl (lv_at hl 0 rfl) ?_
        refine lv_iadd hx hb dX12_law_86 ?_
        refine lv_topi (fun v927 e928 => ?_)
        have tv927 : v927.toInt = v925.toInt + v891.toInt := iv_add rfl rfl e928 (by omega) (by omega)
        refine lv_aload_n hx hb dX12_law_87 rfl (lv_at hl 2 rfl) ?_
        refine gmA hx hb hts inT12 hown hK hI (m_nin hG0 hqr (by first | decide | (dsimp only; decide))) hG0 12 (by decide) (hts _ (tb_c wd_1245)) rfl rfl dX12_law_88 (fun a929 hq930 hf931 => ?_)
        obtain rfl := fr.uniq (by decide) hf899 hf931
        refine lv_iload_n hx hb dX12_law_91 rfl (lv_at hl 0 rfl) ?_
        refine th_iald hx hb hK hA901 0 rfl (iv_in (X := v891.toInt) rfl (by omega) (by omega)) dX12_law_92 (fun v932 e933 => ?_)
        refine th_iast hx hb hK hAr 0 rfl hS ⟨_, hqr⟩ (iv_in (X := v927.toInt) rfl (by omega) (by omega)) dX12_law_93 (fun H locs hA934 oq hS => ?_)
        have hI := th_I.moved hI oq
        have hg897 := gf.arr hG0 hqr (by decide) oq hg897
        have hf899 := fr.arr hG0 hqr (by decide) oq hf899
        have hfr := fr.arr hG0 hqr (by decide) oq hfr
        have hA901 := va_at.kept hA901 (oq _ (m_ne hq900 hqr (by first | decide | (dsimp only; decide))))
        have e935 : v932 = (upd FF (v927 : Int32).toNatClampNeg v932) (v927 : Int32).toNatClampNeg := rd_us
        refine lv_aload_n hx hb dX12_law_94 rfl (lv_at hl 2 rfl) ?_
        refine gmA hx hb hts inT12 hown hK hI (m_nin hG0 hqr (by first | decide | (dsimp only; decide))) hG0 3 (by decide) (hts _ (tb_c wd_1236)) rfl rfl dX12_law_95 (fun a936 hq937 hf938 => ?_)
        obtain rfl := fr.uniq (by decide) hfr hf938
        refine lv_sipush (v := 2723) hx hb dX12_law_98 (by decide) ?_
        refine lv_sipush (v := 400) hx hb dX12_law_101 (by decide) ?_
        refine lv_iload_n hx hb dX12_law_104 rfl (lv_at hl 1 rfl) ?_
        refine lv_imul hx hb dX12_law_105 ?_
        refine lv_topi (fun v939 e940 => ?_)
        have tv939 : v939.toInt = (400) * v892.toInt := iv_mul (by decide) rfl e940 (by omega) (by omega)
        refine lv_iadd hx hb dX12_law_106 ?_
        refine lv_topi (fun v941 e942 => ?_)
        have tv941 : v941.toInt = (2723) + v939.toInt := iv_add (by decide) rfl e942 (by omega) (by omega)
        refine lv_iload_n hx hb dX12_law_107 rfl (lv_at hl 0 rfl) ?_
        refine lv_iadd hx hb dX12_law_108 ?_
        refine lv_topi (fun v943 e944 => ?_)
        have tv943 : v943.toInt = v941.toInt + v891.toInt := iv_add rfl rfl e944 (by omega) (by omega)
        refine lv_aload_n hx hb dX12_law_109 rfl (lv_at hl 2 rfl) ?_
        refine gmA hx hb hts inT12 hown hK hI (m_nin hG0 hqr (by first | decide | (dsimp only; decide))) hG0 13 (by decide) (hts _ (tb_c wd_1246)) rfl rfl dX12_law_110 (fun a945 hq946 hf947 => ?_)
        refine lv_iload_n hx hb dX12_law_113 rfl (lv_at hl 0 rfl) ?_
        obtain ⟨F948, hA949⟩ := om_0 hI hq946 (m_nin hq946 hqr (by first | decide | (dsimp only; decide)))
        refine th_iald hx hb hK hA949 0 rfl (iv_in (X := v891.toInt) rfl (by omega) (by omega)) dX12_law_114 (fun v950 e951 => ?_)
        refine th_iast hx hb hK hA934 0 rfl hS ⟨_, hqr⟩ (iv_in (X := v943.toInt) rfl (by omega) (by omega)) dX12_law_115 (fun H locs hA952 oq hS => ?_)
        have hI := th_I.moved hI oq
        have hg897 := gf.arr hG0 hqr (by decide) oq hg897
        have hf899 := fr.arr hG0 hqr (by decide) oq hf899
        have hfr := fr.arr hG0 hqr (by decide) oq hfr
        have hf947 := fr.arr hG0 hqr (by decide) oq hf947
        have hA901 := va_at.kept hA901 (oq _ (m_ne hq900 hqr (by first | decide | (dsimp only; decide))))
        have hA949 := va_at.kept hA949 (oq _ (m_ne hq946 hqr (by first | decide | (dsimp only; decide))))
        have e953 := rd_un (i := v927) (j := v943) (v := v950) e935 (X := v927.toInt) (Y := v943.toInt) rfl rfl (by omega) (by omega) (by omega)
        have e954 : v950 = (upd (upd FF (v927 : Int32).toNatClampNeg v932) (v943 : Int32).toNatClampNeg v950) (v943 : Int32).toNatClampNeg := rd_us
        obtain ⟨v955, e956⟩ : ∃ y : Int32, y = v891 + (1) := ⟨_, rfl⟩
        have tv955 : v955.toInt = v891.toInt + (1) := iv_add rfl (by decide) e956 (by omega) (by omega)
        refine lv_iinc (v := v955) (lv' := [(2, .int v955), (1, .int v892), (0, .ref h0)]) hx hb dX12_law_116 hl (k := 0) rfl (by rw [e956]; rfl) (by decide) rfl (fun ls hl => ?_)
        refine lv_goto (tgt := 64) hx hb dX12_law_119 (by decide) ?_
        exact ih_64 _ (by omega) H locs ls v955 v892 v893 qr ff cd (upd (upd FF (v927 : Int32).toNatClampNeg v932) (v943 : Int32).toNatClampNeg v950) tt TT (kk + 1) rfl (lv_sub hl [0, 1, 2] rfl) ⟨by omega, by omega⟩ ⟨by omega, by omega⟩ ⟨by omega, by omega⟩ hg897 ⟨a898, hf899, hq900, hA901⟩ (hqr) (hfr) (hA952) (hkf) (ht6) (hT) (hgl) (by omega) (by omega) (by first | omega | decide) (by omega) (h315f) (LI.step (k := v891) hLI ht6 (by omega) (by omega) (by omega) e933 (by omega)) (by omega) (by omega) (⟨f9, hO9⟩) hI hS
  refine lv_aload_n hx hb dX12_law_0 rfl (lv_at hl 0 rfl) ?_
  refine gmA hx hb hts inT12 hown hK hI List.not_mem_nil hG0 3 (by decide) (hts _ (tb_c wd_1236)) rfl rfl dX12_law_1 (fun a957 hq958 hf959 => ?_)
  refine lv_sipush (v := 315) hx hb dX12_law_4 (by decide) ?_
  obtain ⟨F960, hA961, hP962⟩ := om_1 hI hq958 List.not_mem_nil
  refine th_iald hx hb hK hA961 0 rfl (iv_in (X := (315)) (by decide) (by omega) (by omega)) dX12_law_7 (fun v963 e964 => ?_)
  have k965 := kg_t315 (kOk.get (i := 315) hP962 e964 (X := (315)) (by decide) (by omega) (by omega)) (by omega) (by omega) (by omega)
  refine lv_bipush (v := 6) hx hb dX12_law_8 (by decide) ?_
  refine lv_icmp_ne (tgt := 25) hx hb dX12_law_10 (by decide) (fun c966 => ?_) (fun c966 => ?_)
  · skip
    have k967 := iv_ne (X := v963.toInt) (Y := (6)) rfl (by decide) c966
    refine lv_aload_n hx hb dX12_law_25 rfl (lv_at hl 0 rfl) ?_
    refine mx_iE (As := []) (rest := []) (n := 0) (d := 58) ⟨hx, hb, hml, hown, hts⟩ (c_X12_reads l Eo D G h0 hG0  F960 hP962 hU10) wd_1564 wd_1566 wp_62 wd_13 wd_1567 (by decide +kernel) ⟨by rw [hR]; exact Nat.le_of_ble_eq_true rfl, by rw [hR]; exact Nat.le_of_ble_eq_true rfl⟩ hI hN hK (by rw [tys_eu (by decide), tys_eu (by decide)]; exact hK) hS hG0 (⟨a957, hf959, hq958, hA961⟩) rfl hl.1 rfl (Nat.le_of_ble_eq_true rfl) dX12_law_26 ⟨Nat.zero_le _, Nat.zero_le _⟩ (fun r968 H locs Eu969 hEu969 hI hK hp hS => ?_)
    have hEq : Eu969 = Em := hEu969.trans hEm.symm
    rw [hEq] at hI hK
    rcases hp with ⟨rfl, hp⟩ | ⟨rfl, hp⟩
    · skip
      try simp only [rg, not_and, Int.not_le] at hp
      have hp970 := hp
      obtain ⟨f9, hO9, cd, TT, hT, ⟨a971, hf972, hq973, hA974⟩, ⟨a975, hf976, hq977, hA978⟩, ⟨w979, hg980, k981⟩, hgl⟩ := hp970
      have hp970 : True := trivial
      have hA974 : va_at D vwCl (a971, .inl (Em 0, 5123, .inl F960)) H := by rw [show Em 0 = Eo 0 from (by rw [hEm, eu_ne (by decide)]; exact eu_ne (by decide))]; exact hA974
      have hP962 : kOk (Em 10) F960 := by rw [show Em 10 = Eo 10 from (by rw [hEm, eu_ne (by decide)]; exact eu_ne (by decide))]; exact hP962
      have hA978 : va_at D vwCl (a975, .inl (Em 0, 401, .inl cd)) H := by rw [show Em 0 = Eo 0 from (by rw [hEm, eu_ne (by decide)]; exact eu_ne (by decide))]; exact hA978
      refine lv_if_ne (tgt := 39) hx hb dX12_law_29 (by decide) (fun _ => ?_) (fun c => absurd c (by decide))
      refine lv_aload_n hx hb dX12_law_39 rfl (lv_at hl 0 rfl) ?_
      refine gmA hx hb hts inT12 hown hK hI List.not_mem_nil hG0 3 (by decide) (hts _ (tb_c wd_1236)) rfl rfl dX12_law_40 (fun a982 hq983 hf984 => ?_)
      obtain rfl := fr.uniq (by decide) hf972 hf984
      refine lv_sipush (v := 315) hx hb dX12_law_43 (by decide) ?_
      refine th_iald hx hb hK hA974 0 rfl (iv_in (X := (315)) (by decide) (by omega) (by omega)) dX12_law_46 (fun v985 e986 => ?_)
      obtain rfl := (rd_same (i := 315) (j := 315) e964 e986 (X := (315)) (Y := (315)) (by decide) (by decide) (by omega)).symm
      refine lv_istore_n (lv' := [(1, .int v963), (0, .ref h0)]) hx hb dX12_law_47 rfl hl (by decide) rfl (fun ls hl => ?_)
      have hI := th_I.weak (a := a971) hI
      obtain ⟨tt, htt⟩ : ∃ t : Nat, (t : Int) = v963.toInt := ⟨v963.toInt.toNat, by omega⟩
      have ht6 : tt < 6 := by omega
      refine lv_aload_n hx hb dX12_law_48 rfl (lv_at hl 1 rfl) ?_
      refine gmA hx hb hts inT12 hown hK hI (m_nin hG0 hq973 (by first | decide | (dsimp only; decide))) hG0 3 (by decide) (hts _ (tb_c wd_1236)) rfl rfl dX12_law_49 (fun a987 hq988 hf989 => ?_)
      obtain rfl := fr.uniq (by decide) hf972 hf989
      refine lv_sipush (v := 317) hx hb dX12_law_52 (by decide) ?_
      refine lv_iload_n hx hb dX12_law_55 rfl (lv_at hl 0 rfl) ?_
      refine lv_iadd hx hb dX12_law_56 ?_
      refine lv_topi (fun v990 e991 => ?_)
      have tv990 : v990.toInt = (317) + v963.toInt := iv_add (by decide) rfl e991 (by omega) (by omega)
      refine lv_aload_n hx hb dX12_law_57 rfl (lv_at hl 1 rfl) ?_
      refine gmI hx hb hts inT12 hown hK hI (m_nin hG0 hq973 (by first | decide | (dsimp only; decide))) hG0 15 (by decide) (hts _ (tb_c wd_1248)) rfl rfl dX12_law_58 (fun w992 hg993 k994 k995 => ?_)
      obtain rfl := gf.uniq (by decide) hg980 hg993
      refine th_iast hx hb hK hA974 0 rfl hS ⟨_, hq973⟩ (iv_in (X := v990.toInt) rfl (by omega) (by omega)) dX12_law_61 (fun H locs hA996 oq hS => ?_)
      have hI := th_I.moved hI oq
      have hg980 := gf.arr hG0 hq973 (by decide) oq hg980
      have hf972 := fr.arr hG0 hq973 (by decide) oq hf972
      have hf976 := fr.arr hG0 hq973 (by decide) oq hf976
      have hA978 := va_at.kept hA978 (oq _ (m_ne hq977 hq973 (by first | decide | (dsimp only; decide))))
      have e997 := rd_un (i := 315) (j := v990) (v := w979) e964 (X := (315)) (Y := v990.toInt) (by decide) rfl (by omega) (by omega) (by omega)
      have e998 : w979 = (upd F960 (v990 : Int32).toNatClampNeg w979) (v990 : Int32).toNatClampNeg := rd_us
      refine lv_iconst (v := 0) hx hb dX12_law_62 (by decide) ?_
      refine lv_istore_n (lv' := [(2, .int 0), (1, .int v963), (0, .ref h0)]) hx hb dX12_law_63 rfl hl (by decide) rfl (fun ls hl => ?_)
      have zl : (0 : Int32).toInt = 0 := by decide
      exact J_64 _ H locs ls 0 v963 w979 a971 F960 cd (upd F960 (v990 : Int32).toNatClampNeg w979) tt TT 0 rfl (lv_sub hl [0, 1, 2] rfl) ⟨by decide, by decide⟩ ⟨by omega, by omega⟩ ⟨by omega, by omega⟩ hg980 ⟨a975, hf976, hq977, hA978⟩ (hq973) (hf972) (hA996) (hP962) (ht6) (hT) (hgl) (by omega) (by omega) (by first | omega | decide) (by omega) (by rw [show F960 315 = v963 from (e964).symm]; omega) (LI.init (i := v990) (by omega) (by omega)) (by omega) (by omega) (⟨f9, hO9⟩) hI hS
    · skip
      try simp only [rg, not_and, Int.not_le] at hp
      have hp999 := hp
      obtain ⟨f9, hO9, a1000, hf1001, hq1002, hA1003⟩ := hp999
      have hp999 : True := trivial
      have hA1003 : va_at D vwCl (a1000, .inl (Em 0, 5123, .inl F960)) H := by rw [show Em 0 = Eo 0 from (by rw [hEm, eu_ne (by decide)]; exact eu_ne (by decide))]; exact hA1003
      have hP962 : kOk (Em 10) F960 := by rw [show Em 10 = Eo 10 from (by rw [hEm, eu_ne (by decide)]; exact eu_ne (by decide))]; exact hP962
      refine lv_if_ne (tgt := 39) hx hb dX12_law_29 (by decide) (fun c => absurd c (by decide)) (fun _ => ?_)
      refine lv_aload_n hx hb dX12_law_32 rfl (lv_at hl 0 rfl) ?_
      refine lv_bipush (v := (-6)) hx hb dX12_law_33 (by decide) ?_
      refine mx_i (As := [.int (-6)]) (rest := []) (n := 1) (d := 0) ⟨hx, hb, hml, hown, hts⟩ (c_X12_refuses l Em D G h0 hG0 (-6) ⟨by decide, by decide⟩) wd_1398 wd_1400 wp_40 wd_13 wd_1401 (by decide +kernel) ⟨by rw [hR]; exact Nat.le_of_ble_eq_true rfl, by rw [hR]; exact Nat.le_of_ble_eq_true rfl⟩ hI hN hK hS hG0 (trivial) rfl hl.1 rfl (Nat.le_of_ble_eq_true rfl) dX12_law_35 ⟨Nat.zero_le _, Nat.zero_le _⟩ (fun r1010 H locs hI hp hS => ?_)
      obtain rfl := hp.symm
      have hEq : Em = E := by rw [hEe, mL_no (by omega) hO9 (by decide) (by decide), hEm, lwo_eq hO9]; rfl
      rw [hEq] at hI hK
      have hpost : ((-6) : Int32).toInt = lwR (Eo 10) (lwo (tB Eo) (Eo 15)) := by rw [lwR_no (by omega) hO9]; decide
      subst hEe
      rw [hQ]
      exact W.iret (v := (-6)) hx hb hr (fun t ht hW => ⟨⟨(-6), (-6), rfl, rfl, ⟨by rw [ht]; exact hI, hN.warm hW, va_K.moved hW.alike hK⟩, by first | (rw [ht]; exact hpost) | exact hpost⟩, hS.F ht⟩) hS.2.2 dX12_law_38
  · skip
    have k1011 := iv_eq (X := v963.toInt) (Y := (6)) rfl (by decide) c966
    refine lv_aload_n hx hb dX12_law_13 rfl (lv_at hl 0 rfl) ?_
    refine lv_iconst (v := 0) hx hb dX12_law_14 (by decide) ?_
    refine pmE (E' := eu Eo 15 0) (ty := .int) hx hb hts inT12 hown hK hI List.not_mem_nil hG0 hS ⟨_, hG0⟩ 10 (by decide) (hts _ (tb_c wd_1243)) rfl rfl hU10 (okM_g15 (by decide)) (fun fs a b => c10_15 a b (by decide)) (by decide +kernel) rfl rfl rfl (by decide) (by decide) dX12_law_15 (fun H locs hI hgP hS => ?_)
    have hg1012 := hgP.2.1
    have hf959 := hgP.2.2.2 3 _ (by decide) (by decide) hf959
    have hA961 := va_at.kept hA961 (hgP.1 _ (m_ne hq958 hG0 (by first | decide | (dsimp only; decide))))
    have hEq : eu Eo 15 0 = E := (hEe.trans (mL_full (by omega) (by decide) (by decide) (by decide))).symm
    have hI : th_I (okM E) D G [] H := by rw [← hEq]; exact hI
    have hK : va_K D vwCl (th_tys E) s := by rw [← hEq, tys_eu (by decide)]; exact hK
    refine lv_aload_n hx hb dX12_law_18 rfl (lv_at hl 0 rfl) ?_
    refine lv_bipush (v := (-5)) hx hb dX12_law_19 (by decide) ?_
    refine mx_i (As := [.int (-5)]) (rest := []) (n := 1) (d := 0) ⟨hx, hb, hml, hown, hts⟩ (c_X12_refuses l E D G h0 hG0 (-5) ⟨by decide, by decide⟩) wd_1398 wd_1400 wp_40 wd_13 wd_1401 (by decide +kernel) ⟨by rw [hR]; exact Nat.le_of_ble_eq_true rfl, by rw [hR]; exact Nat.le_of_ble_eq_true rfl⟩ hI hN hK hS hG0 (trivial) rfl hl.1 rfl (Nat.le_of_ble_eq_true rfl) dX12_law_21 ⟨Nat.zero_le _, Nat.zero_le _⟩ (fun r1013 H locs hI hp hS => ?_)
    obtain rfl := hp.symm
    have hpost : ((-5) : Int32).toInt = lwR (Eo 10) (lwo (tB Eo) (Eo 15)) := by rw [lwR_full (by omega)]; decide
    subst hEe
    rw [hQ]
    exact W.iret (v := (-5)) hx hb hr (fun t ht hW => ⟨⟨(-5), (-5), rfl, rfl, ⟨by rw [ht]; exact hI, hN.warm hW, va_K.moved hW.alike hK⟩, by first | (rw [ht]; exact hpost) | exact hpost⟩, hS.F ht⟩) hS.2.2 dX12_law_24
