theorem wp_64 : Cond.selects RX12 yX12_wordOf yX12_wordOf ∈ TB := tv 64 (by decide +kernel) (by decide +kernel)
theorem wp_66 : Cond.selects RX12 yX12_takes0 yX12_takes0 ∈ TB := tv 66 (by decide +kernel) (by decide +kernel)
theorem wp_67 : Cond.selects RX12 yX12_fine yX12_fine ∈ TB := tv 67 (by decide +kernel) (by decide +kernel)
theorem wp_68 : Cond.selects RX12 yX12_readSum yX12_readSum ∈ TB := tv 68 (by decide +kernel) (by decide +kernel)
theorem wp_69 : Cond.selects RX12 yX12_readTerm yX12_readTerm ∈ TB := tv 69 (by decide +kernel) (by decide +kernel)
theorem wp_70 : Cond.selects RX12 yX12_readPart yX12_readPart ∈ TB := tv 70 (by decide +kernel) (by decide +kernel)
theorem wp_71 : Cond.selects RX12 yX12_faults yX12_faults ∈ TB := tv 71 (by decide +kernel) (by decide +kernel)
theorem wp_72 : Cond.selects RX12 yX12_must yX12_must ∈ TB := tv 72 (by decide +kernel) (by decide +kernel)
theorem wp_73 : Cond.selects RX12 yX12_leaf yX12_leaf ∈ TB := tv 73 (by decide +kernel) (by decide +kernel)
theorem wp_74 : Cond.selects RX12 yX12_readTest yX12_readTest ∈ TB := tv 74 (by decide +kernel) (by decide +kernel)
theorem wp_75 : Cond.selects RX12 yX12_readBoth yX12_readBoth ∈ TB := tv 75 (by decide +kernel) (by decide +kernel)
theorem wp_76 : Cond.selects RX12 yX12_readPlain yX12_readPlain ∈ TB := tv 76 (by decide +kernel) (by decide +kernel)
theorem wd_1240 : (Cond.fieldLink RX12 (30 : Nat) "NineRiverModel" "words" "[B") ∈ TB := tw 1240 (by decide +kernel) (by decide +kernel)
theorem wd_1245 : (Cond.fieldLink RX12 (43 : Nat) "NineRiverModel" "code" "[I") ∈ TB := tw 1245 (by decide +kernel) (by decide +kernel)
theorem wd_1246 : (Cond.fieldLink RX12 (46 : Nat) "NineRiverModel" "value" "[I") ∈ TB := tw 1246 (by decide +kernel) (by decide +kernel)
theorem wd_1247 : (Cond.fieldLink RX12 (49 : Nat) "NineRiverModel" "placed" "[I") ∈ TB := tw 1247 (by decide +kernel) (by decide +kernel)
theorem wd_1248 : (Cond.fieldLink RX12 (145 : Nat) "NineRiverModel" "tokens" "I") ∈ TB := tw 1248 (by decide +kernel) (by decide +kernel)
theorem wd_1249 : (Cond.fieldLink RX12 (166 : Nat) "NineRiverModel" "token" "I") ∈ TB := tw 1249 (by decide +kernel) (by decide +kernel)
theorem wd_1250 : (Cond.fieldLink RX12 (175 : Nat) "NineRiverModel" "leaves" "I") ∈ TB := tw 1250 (by decide +kernel) (by decide +kernel)
theorem wd_1251 : (Cond.fieldLink RX12 (159 : Nat) "NineRiverModel" "bad" "I") ∈ TB := tw 1251 (by decide +kernel) (by decide +kernel)
theorem wd_1272 : (Cond.fieldLink RX12 (88 : Nat) "NineRiverModel" "clean" "[Z") ∈ TB := tw 1272 (by decide +kernel) (by decide +kernel)
theorem wd_1572 : (Cond.methodLink RX12 (148 : Nat) yX12_isSmall) ∈ TB := tw 1572 (by decide +kernel) (by decide +kernel)
theorem wd_1573 : (Jvm.Cond.static yX12_isSmall) ∈ TB := tw 1573 (by decide +kernel) (by decide +kernel)
theorem wd_1574 : (Cond.code yX12_isSmall cX12_isSmall 1 (Option.some Jvm.ClassFile.FieldType.boolean)) ∈ TB := tw 1574 (by decide +kernel) (by decide +kernel)
theorem wd_1575 : (Cond.methodLink RX12 (151 : Nat) yX12_isDigit) ∈ TB := tw 1575 (by decide +kernel) (by decide +kernel)
theorem wd_1576 : (Jvm.Cond.static yX12_isDigit) ∈ TB := tw 1576 (by decide +kernel) (by decide +kernel)
theorem wd_1577 : (Cond.code yX12_isDigit cX12_isDigit 1 (Option.some Jvm.ClassFile.FieldType.boolean)) ∈ TB := tw 1577 (by decide +kernel) (by decide +kernel)
theorem wd_1578 : (Cond.methodLink RX12 (154 : Nat) yX12_wordOf) ∈ TB := tw 1578 (by decide +kernel) (by decide +kernel)
theorem wd_1580 : (Jvm.Cond.instanceMethod yX12_wordOf) ∈ TB := tw 1580 (by decide +kernel) (by decide +kernel)
theorem wd_1581 : (Cond.code yX12_wordOf cX12_wordOf 8 (Option.some Jvm.ClassFile.FieldType.int)) ∈ TB := tw 1581 (by decide +kernel) (by decide +kernel)
theorem wd_1587 : (Cond.methodLink RX12 (169 : Nat) yX12_takes0) ∈ TB := tw 1587 (by decide +kernel) (by decide +kernel)
theorem wd_1589 : (Jvm.Cond.instanceMethod yX12_takes0) ∈ TB := tw 1589 (by decide +kernel) (by decide +kernel)
theorem wd_1590 : (Cond.code yX12_takes0 cX12_takes0 3 (Option.some Jvm.ClassFile.FieldType.boolean)) ∈ TB := tw 1590 (by decide +kernel) (by decide +kernel)
theorem wd_1591 : (Cond.methodLink RX12 (162 : Nat) yX12_fine) ∈ TB := tw 1591 (by decide +kernel) (by decide +kernel)
theorem wd_1593 : (Jvm.Cond.instanceMethod yX12_fine) ∈ TB := tw 1593 (by decide +kernel) (by decide +kernel)
theorem wd_1594 : (Cond.code yX12_fine cX12_fine 1 (Option.some Jvm.ClassFile.FieldType.boolean)) ∈ TB := tw 1594 (by decide +kernel) (by decide +kernel)
theorem wd_1595 : (Cond.methodLink RX12 (178 : Nat) yX12_readSum) ∈ TB := tw 1595 (by decide +kernel) (by decide +kernel)
theorem wd_1597 : (Jvm.Cond.instanceMethod yX12_readSum) ∈ TB := tw 1597 (by decide +kernel) (by decide +kernel)
theorem wd_1598 : (Cond.code yX12_readSum cX12_readSum 2 (Option.none : Option Jvm.ClassFile.FieldType)) ∈ TB := tw 1598 (by decide +kernel) (by decide +kernel)
theorem wd_1599 : (Cond.methodLink RX12 (198 : Nat) yX12_readTerm) ∈ TB := tw 1599 (by decide +kernel) (by decide +kernel)
theorem wd_1601 : (Jvm.Cond.instanceMethod yX12_readTerm) ∈ TB := tw 1601 (by decide +kernel) (by decide +kernel)
theorem wd_1602 : (Cond.code yX12_readTerm cX12_readTerm 2 (Option.none : Option Jvm.ClassFile.FieldType)) ∈ TB := tw 1602 (by decide +kernel) (by decide +kernel)
theorem wd_1603 : (Cond.methodLink RX12 (201 : Nat) yX12_readPart) ∈ TB := tw 1603 (by decide +kernel) (by decide +kernel)
theorem wd_1605 : (Jvm.Cond.instanceMethod yX12_readPart) ∈ TB := tw 1605 (by decide +kernel) (by decide +kernel)
theorem wd_1606 : (Cond.code yX12_readPart cX12_readPart 3 (Option.none : Option Jvm.ClassFile.FieldType)) ∈ TB := tw 1606 (by decide +kernel) (by decide +kernel)
theorem wd_1607 : (Cond.methodLink RX12 (172 : Nat) yX12_faults) ∈ TB := tw 1607 (by decide +kernel) (by decide +kernel)
theorem wd_1609 : (Jvm.Cond.instanceMethod yX12_faults) ∈ TB := tw 1609 (by decide +kernel) (by decide +kernel)
theorem wd_1610 : (Cond.code yX12_faults cX12_faults 1 (Option.none : Option Jvm.ClassFile.FieldType)) ∈ TB := tw 1610 (by decide +kernel) (by decide +kernel)
theorem wd_1611 : (Cond.methodLink RX12 (182 : Nat) yX12_must) ∈ TB := tw 1611 (by decide +kernel) (by decide +kernel)
theorem wd_1613 : (Jvm.Cond.instanceMethod yX12_must) ∈ TB := tw 1613 (by decide +kernel) (by decide +kernel)
theorem wd_1614 : (Cond.code yX12_must cX12_must 2 (Option.none : Option Jvm.ClassFile.FieldType)) ∈ TB := tw 1614 (by decide +kernel) (by decide +kernel)
theorem wd_1615 : (Cond.methodLink RX12 (204 : Nat) yX12_leaf) ∈ TB := tw 1615 (by decide +kernel) (by decide +kernel)
theorem wd_1617 : (Jvm.Cond.instanceMethod yX12_leaf) ∈ TB := tw 1617 (by decide +kernel) (by decide +kernel)
theorem wd_1618 : (Cond.code yX12_leaf cX12_leaf 1 (Option.none : Option Jvm.ClassFile.FieldType)) ∈ TB := tw 1618 (by decide +kernel) (by decide +kernel)
theorem wd_1619 : (Cond.methodLink RX12 (185 : Nat) yX12_readTest) ∈ TB := tw 1619 (by decide +kernel) (by decide +kernel)
theorem wd_1621 : (Jvm.Cond.instanceMethod yX12_readTest) ∈ TB := tw 1621 (by decide +kernel) (by decide +kernel)
theorem wd_1622 : (Cond.code yX12_readTest cX12_readTest 2 (Option.none : Option Jvm.ClassFile.FieldType)) ∈ TB := tw 1622 (by decide +kernel) (by decide +kernel)
theorem wd_1623 : (Cond.methodLink RX12 (188 : Nat) yX12_readBoth) ∈ TB := tw 1623 (by decide +kernel) (by decide +kernel)
theorem wd_1625 : (Jvm.Cond.instanceMethod yX12_readBoth) ∈ TB := tw 1625 (by decide +kernel) (by decide +kernel)
theorem wd_1626 : (Cond.code yX12_readBoth cX12_readBoth 2 (Option.none : Option Jvm.ClassFile.FieldType)) ∈ TB := tw 1626 (by decide +kernel) (by decide +kernel)
theorem wd_1627 : (Cond.methodLink RX12 (191 : Nat) yX12_readPlain) ∈ TB := tw 1627 (by decide +kernel) (by decide +kernel)
theorem wd_1629 : (Jvm.Cond.instanceMethod yX12_readPlain) ∈ TB := tw 1629 (by decide +kernel) (by decide +kernel)
theorem wd_1630 : (Cond.code yX12_readPlain cX12_readPlain 4 (Option.none : Option Jvm.ClassFile.FieldType)) ∈ TB := tw 1630 (by decide +kernel) (by decide +kernel)
theorem dX12_beginsAt_0 : decode cX12_beginsAt 0 = .ok (.aload_n 0, 1) := by decide +kernel
theorem dX12_beginsAt_1 : decode cX12_beginsAt 1 = .ok (.getfield 20, 3) := by decide +kernel
theorem dX12_beginsAt_4 : decode cX12_beginsAt 4 = .ok (.sipush 264, 3) := by decide +kernel
theorem dX12_beginsAt_7 : decode cX12_beginsAt 7 = .ok (.iconst 3, 1) := by decide +kernel
theorem dX12_beginsAt_8 : decode cX12_beginsAt 8 = .ok (.iload_n 1, 1) := by decide +kernel
theorem dX12_beginsAt_9 : decode cX12_beginsAt 9 = .ok (.imul, 1) := by decide +kernel
theorem dX12_beginsAt_10 : decode cX12_beginsAt 10 = .ok (.iadd, 1) := by decide +kernel
theorem dX12_beginsAt_11 : decode cX12_beginsAt 11 = .ok (.iaload, 1) := by decide +kernel
theorem dX12_beginsAt_12 : decode cX12_beginsAt 12 = .ok (.istore_n 3, 1) := by decide +kernel
theorem dX12_beginsAt_13 : decode cX12_beginsAt 13 = .ok (.aload_n 0, 1) := by decide +kernel
theorem dX12_beginsAt_14 : decode cX12_beginsAt 14 = .ok (.getfield 20, 3) := by decide +kernel
theorem dX12_beginsAt_17 : decode cX12_beginsAt 17 = .ok (.sipush 264, 3) := by decide +kernel
theorem dX12_beginsAt_20 : decode cX12_beginsAt 20 = .ok (.iconst 3, 1) := by decide +kernel
theorem dX12_beginsAt_21 : decode cX12_beginsAt 21 = .ok (.iload_n 1, 1) := by decide +kernel
theorem dX12_beginsAt_22 : decode cX12_beginsAt 22 = .ok (.imul, 1) := by decide +kernel
theorem dX12_beginsAt_23 : decode cX12_beginsAt 23 = .ok (.iadd, 1) := by decide +kernel
theorem dX12_beginsAt_24 : decode cX12_beginsAt 24 = .ok (.iconst 1, 1) := by decide +kernel
theorem dX12_beginsAt_25 : decode cX12_beginsAt 25 = .ok (.iadd, 1) := by decide +kernel
theorem dX12_beginsAt_26 : decode cX12_beginsAt 26 = .ok (.iaload, 1) := by decide +kernel
theorem dX12_beginsAt_27 : decode cX12_beginsAt 27 = .ok (.istore 4, 2) := by decide +kernel
theorem dX12_beginsAt_29 : decode cX12_beginsAt 29 = .ok (.iconst 0, 1) := by decide +kernel
theorem dX12_beginsAt_30 : decode cX12_beginsAt 30 = .ok (.istore 5, 2) := by decide +kernel
theorem dX12_beginsAt_32 : decode cX12_beginsAt 32 = .ok (.iload_n 2, 1) := by decide +kernel
theorem dX12_beginsAt_33 : decode cX12_beginsAt 33 = .ok (.aload_n 0, 1) := by decide +kernel
theorem dX12_beginsAt_34 : decode cX12_beginsAt 34 = .ok (.getfield 20, 3) := by decide +kernel
theorem dX12_beginsAt_37 : decode cX12_beginsAt 37 = .ok (.sipush 264, 3) := by decide +kernel
theorem dX12_beginsAt_40 : decode cX12_beginsAt 40 = .ok (.iconst 3, 1) := by decide +kernel
theorem dX12_beginsAt_41 : decode cX12_beginsAt 41 = .ok (.iload_n 1, 1) := by decide +kernel
theorem dX12_beginsAt_42 : decode cX12_beginsAt 42 = .ok (.imul, 1) := by decide +kernel
theorem dX12_beginsAt_43 : decode cX12_beginsAt 43 = .ok (.iadd, 1) := by decide +kernel
theorem dX12_beginsAt_44 : decode cX12_beginsAt 44 = .ok (.iconst 2, 1) := by decide +kernel
theorem dX12_beginsAt_45 : decode cX12_beginsAt 45 = .ok (.iadd, 1) := by decide +kernel
theorem dX12_beginsAt_46 : decode cX12_beginsAt 46 = .ok (.iaload, 1) := by decide +kernel
theorem dX12_beginsAt_47 : decode cX12_beginsAt 47 = .ok (.if_icmp .le 7, 3) := by decide +kernel
theorem dX12_beginsAt_50 : decode cX12_beginsAt 50 = .ok (.iload_n 2, 1) := by decide +kernel
theorem dX12_beginsAt_51 : decode cX12_beginsAt 51 = .ok (.goto 17, 3) := by decide +kernel
theorem dX12_beginsAt_54 : decode cX12_beginsAt 54 = .ok (.aload_n 0, 1) := by decide +kernel
theorem dX12_beginsAt_55 : decode cX12_beginsAt 55 = .ok (.getfield 20, 3) := by decide +kernel
theorem dX12_beginsAt_58 : decode cX12_beginsAt 58 = .ok (.sipush 264, 3) := by decide +kernel
theorem dX12_beginsAt_61 : decode cX12_beginsAt 61 = .ok (.iconst 3, 1) := by decide +kernel
theorem dX12_beginsAt_62 : decode cX12_beginsAt 62 = .ok (.iload_n 1, 1) := by decide +kernel
theorem dX12_beginsAt_63 : decode cX12_beginsAt 63 = .ok (.imul, 1) := by decide +kernel
theorem dX12_beginsAt_64 : decode cX12_beginsAt 64 = .ok (.iadd, 1) := by decide +kernel
theorem dX12_beginsAt_65 : decode cX12_beginsAt 65 = .ok (.iconst 2, 1) := by decide +kernel
theorem dX12_beginsAt_66 : decode cX12_beginsAt 66 = .ok (.iadd, 1) := by decide +kernel
theorem dX12_beginsAt_67 : decode cX12_beginsAt 67 = .ok (.iaload, 1) := by decide +kernel
theorem dX12_beginsAt_68 : decode cX12_beginsAt 68 = .ok (.istore 6, 2) := by decide +kernel
theorem dX12_beginsAt_70 : decode cX12_beginsAt 70 = .ok (.iload 6, 2) := by decide +kernel
theorem dX12_beginsAt_72 : decode cX12_beginsAt 72 = .ok (.bipush 96, 2) := by decide +kernel
theorem dX12_beginsAt_74 : decode cX12_beginsAt 74 = .ok (.if_icmp .ge 49, 3) := by decide +kernel
theorem dX12_beginsAt_77 : decode cX12_beginsAt 77 = .ok (.aload_n 0, 1) := by decide +kernel
theorem dX12_beginsAt_78 : decode cX12_beginsAt 78 = .ok (.getfield 88, 3) := by decide +kernel
theorem dX12_beginsAt_81 : decode cX12_beginsAt 81 = .ok (.bipush 24, 2) := by decide +kernel
theorem dX12_beginsAt_83 : decode cX12_beginsAt 83 = .ok (.iload 6, 2) := by decide +kernel
theorem dX12_beginsAt_85 : decode cX12_beginsAt 85 = .ok (.imul, 1) := by decide +kernel
theorem dX12_beginsAt_86 : decode cX12_beginsAt 86 = .ok (.iload_n 3, 1) := by decide +kernel
theorem dX12_beginsAt_87 : decode cX12_beginsAt 87 = .ok (.iadd, 1) := by decide +kernel
theorem dX12_beginsAt_88 : decode cX12_beginsAt 88 = .ok (.baload, 1) := by decide +kernel
theorem dX12_beginsAt_89 : decode cX12_beginsAt 89 = .ok (.ifCond .eq 10, 3) := by decide +kernel
theorem dX12_beginsAt_92 : decode cX12_beginsAt 92 = .ok (.iload 5, 2) := by decide +kernel
theorem dX12_beginsAt_94 : decode cX12_beginsAt 94 = .ok (.iconst 1, 1) := by decide +kernel
theorem dX12_beginsAt_95 : decode cX12_beginsAt 95 = .ok (.iadd, 1) := by decide +kernel
theorem dX12_beginsAt_96 : decode cX12_beginsAt 96 = .ok (.goto 4, 3) := by decide +kernel
theorem dX12_beginsAt_99 : decode cX12_beginsAt 99 = .ok (.iconst 0, 1) := by decide +kernel
theorem dX12_beginsAt_100 : decode cX12_beginsAt 100 = .ok (.istore 5, 2) := by decide +kernel
theorem dX12_beginsAt_102 : decode cX12_beginsAt 102 = .ok (.iload 5, 2) := by decide +kernel
theorem dX12_beginsAt_104 : decode cX12_beginsAt 104 = .ok (.iload 4, 2) := by decide +kernel
theorem dX12_beginsAt_106 : decode cX12_beginsAt 106 = .ok (.if_icmp .ne 11, 3) := by decide +kernel
theorem dX12_beginsAt_109 : decode cX12_beginsAt 109 = .ok (.iload 6, 2) := by decide +kernel
theorem dX12_beginsAt_111 : decode cX12_beginsAt 111 = .ok (.iconst 1, 1) := by decide +kernel
theorem dX12_beginsAt_112 : decode cX12_beginsAt 112 = .ok (.iadd, 1) := by decide +kernel
theorem dX12_beginsAt_113 : decode cX12_beginsAt 113 = .ok (.iload 4, 2) := by decide +kernel
theorem dX12_beginsAt_115 : decode cX12_beginsAt 115 = .ok (.isub, 1) := by decide +kernel
theorem dX12_beginsAt_116 : decode cX12_beginsAt 116 = .ok (.ireturn, 1) := by decide +kernel
theorem dX12_beginsAt_117 : decode cX12_beginsAt 117 = .ok (.iinc 6 1, 3) := by decide +kernel
theorem dX12_beginsAt_120 : decode cX12_beginsAt 120 = .ok (.goto (-50), 3) := by decide +kernel
theorem dX12_beginsAt_123 : decode cX12_beginsAt 123 = .ok (.iconst (-1), 1) := by decide +kernel
theorem dX12_beginsAt_124 : decode cX12_beginsAt 124 = .ok (.ireturn, 1) := by decide +kernel
set_option maxHeartbeats 4000000 in
set_option maxRecDepth 100000 in
theorem c_X12_beginsAt (l : Launch) (E : Nat → Nat) (D : va_G) (G : th_G) (H0 : Heap) (h0 : Nat) (hG0 : G h0 = some (10, 0)) (x1 : Int32) (x2 : Int32) (hx1 : (0 : Int) ≤ x1.toInt ∧ x1.toInt ≤ 5) : Met l yX12_beginsAt (tb (.code yX12_beginsAt cX12_beginsAt 7 (some .int))) (rm 0) (va_Pc [.ref h0, .int x1, .int x2] (PR E D G H0)) (QS H0 (fun r => True)) 0 0 (fun _ => False) := by
  refine Met.ofW (cc := cX12_beginsAt) (maxL := 7) (ret := (some .int)) (by decide) rfl ?_
  intro p e s m args below meth c s₁ B hml hv
  obtain ⟨hav, rfl, hI, hN, hK⟩ := hv
  have hx := B.exec
  have hb := B.bytes
  have hr := B.returns
  have hts := atoms_spec (ws := tb (.code yX12_beginsAt cX12_beginsAt 7 (some .int))) B.pre
  have hown : s.vm.findClass RX12 = some m.cls := findClass_of_methodNamed B.named
  have hlocks := B.notSynchronized
  have hS : va_S (fun _ => False) s.heap s.heap [] := va_S.rf
  have hl := lv_entry ([.ref h0, .int x1, .int x2]) (n := 7) (Nat.le_of_ble_eq_true rfl)
  rw [show entryFrame m args 7 = entryFrame m ([.ref h0, .int x1, .int x2] : List Value).toArray 7 from by rw [hav], lg_entry_eq]
  generalize (lg_sl ([.ref h0, .int x1, .int x2]) ++ List.replicate (7 - (lg_sl ([.ref h0, .int x1, .int x2])).length) Slot.unset).toArray = ls at hl ⊢
  have hl : lv_has ls 7 [(0, .ref h0), (1, .int x1), (2, .int x2)] := hl
  generalize hR : (headSpec (tb (.code yX12_beginsAt cX12_beginsAt 7 (some .int))) (rm 0)).room = R
  have hR := hR.symm
  generalize hQ : MQ below (QS s.heap (fun r => True)) args s 0 0 (fun _ => False) = QF
  have hQ := hQ.symm
  obtain ⟨q_3, hq_3, hf_3⟩ := fr_of hI hG0 3 (by decide) (kd := (1, 5123)) rfl
  obtain ⟨F_3, hA_3, hP_3⟩ := om_1 hI hq_3 List.not_mem_nil
  have J_70 : ∀ (nn : Nat) (locs : List Loc) (ls : Array Slot) (v5804 : Int32) (v5805 : Int32) (v5806 : Int32) (v5807 : Int32) , (Int.toNat (96 - v5804.toInt) = nn) → lv_has ls 7 [(6, .int v5804), (5, .int v5805), (4, .int v5806), (3, .int v5807), (0, .ref h0), (1, .int x1), (2, .int x2)] → ((0 : Int) ≤ v5804.toInt) → ((0 : Int) ≤ v5807.toInt ∧ v5807.toInt ≤ 23) → ((0 : Int) ≤ x1.toInt ∧ x1.toInt ≤ 5) → va_S (fun _ => False) s.heap s.heap locs → W p l e R s m args below meth c s.heap locs 0 0 QF (F0 m 70 ls []) := by
    intro nn
    induction nn using Nat.strongRecOn with
    | ind nn ih_70 =>
      intro locs ls v5804 v5805 v5806 v5807  hm hl k5808 k5809 k5810 hS
      have J_100 : ∀ (locs : List Loc) (ls : Array Slot) (v5815 : Int32) , lv_has ls 7 [(6, .int v5804), (5, .int v5805), (4, .int v5806), (3, .int v5807), (0, .ref h0), (1, .int x1), (2, .int x2)] → ((0 : Int) ≤ v5804.toInt ∧ v5804.toInt ≤ 95) → va_S (fun _ => False) s.heap s.heap locs → W p l e R s m args below meth c s.heap locs 0 0 QF (F0 m 100 ls [.int v5815]) := by
        intro locs ls v5815  hl k5816 hS
        refine lv_istore (lv' := [(5, .int v5815), (6, .int v5804), (4, .int v5806), (3, .int v5807), (0, .ref h0), (1, .int x1), (2, .int x2)]) hx hb dX12_beginsAt_100 hl (by decide) rfl (fun ls hl => ?_)
        refine lv_iload hx hb dX12_beginsAt_102 (lv_at hl 0 rfl) ?_
        refine lv_iload hx hb dX12_beginsAt_104 (lv_at hl 2 rfl) ?_
        have k5817 := iv_lo v5815
        have k5818 := iv_hi v5815
        have k5819 := iv_lo v5806
        have k5820 := iv_hi v5806
        refine lv_icmp_ne (tgt := 117) hx hb dX12_beginsAt_106 (by decide) (fun c5821 => ?_) (fun c5821 => ?_)
        · skip
          have k5822 := iv_ne (X := v5815.toInt) (Y := v5806.toInt) rfl rfl c5821
          obtain ⟨v5823, e5824⟩ : ∃ y : Int32, y = v5804 + (1) := ⟨_, rfl⟩
          have tv5823 : v5823.toInt = v5804.toInt + (1) := iv_add rfl (by decide) e5824 (by omega) (by omega)
          refine lv_iinc (v := v5823) (lv' := [(6, .int v5823), (5, .int v5815), (4, .int v5806), (3, .int v5807), (0, .ref h0), (1, .int x1), (2, .int x2)]) hx hb dX12_beginsAt_117 hl (k := 1) rfl (by rw [e5824]; rfl) (by decide) rfl (fun ls hl => ?_)
          refine lv_goto (tgt := 70) hx hb dX12_beginsAt_120 (by decide) ?_
          exact ih_70 _ (by omega) locs ls v5823 v5815 v5806 v5807  rfl (lv_sub hl [0, 1, 2, 3, 4, 5, 6] rfl) (by omega) ⟨by omega, by omega⟩ ⟨by omega, by omega⟩ hS
        · skip
          have k5825 := iv_eq (X := v5815.toInt) (Y := v5806.toInt) rfl rfl c5821
          refine lv_iload hx hb dX12_beginsAt_109 (lv_at hl 1 rfl) ?_
          refine lv_iconst (v := 1) hx hb dX12_beginsAt_111 (by decide) ?_
          refine lv_iadd hx hb dX12_beginsAt_112 ?_
          refine lv_topi (fun v5826 e5827 => ?_)
          have tv5826 : v5826.toInt = v5804.toInt + (1) := iv_add rfl (by decide) e5827 (by omega) (by omega)
          refine lv_iload hx hb dX12_beginsAt_113 (lv_at hl 2 rfl) ?_
          refine lv_isub hx hb dX12_beginsAt_115 ?_
          refine lv_topi (fun v5828 e5829 => ?_)
          try have tv5828 : v5828.toInt = v5826.toInt - v5806.toInt := iv_sub rfl rfl e5829 (by omega) (by omega)
          have hpost : True := trivial
          rw [hQ]
          exact W.iret (v := v5828) hx hb hr (fun t ht hW => ⟨⟨v5828, (), rfl, hpost, ht⟩, hS.F ht⟩) hS.2.2 dX12_beginsAt_116
      refine lv_iload hx hb dX12_beginsAt_70 (lv_at hl 0 rfl) ?_
      refine lv_bipush (v := 96) hx hb dX12_beginsAt_72 (by decide) ?_
      have k5830 := iv_lo v5804
      have k5831 := iv_hi v5804
      refine lv_icmp_ge (tgt := 123) hx hb dX12_beginsAt_74 (by decide) (fun c5832 => ?_) (fun c5832 => ?_)
      · skip
        have k5833 := iv_le (X := (96)) (Y := v5804.toInt) (by decide) rfl c5832
        refine lv_iconst (v := (-1)) hx hb dX12_beginsAt_123 (by decide) ?_
        have hpost : True := trivial
        rw [hQ]
        exact W.iret (v := (-1)) hx hb hr (fun t ht hW => ⟨⟨(-1), (), rfl, hpost, ht⟩, hS.F ht⟩) hS.2.2 dX12_beginsAt_124
      · skip
        have k5834 := iv_nle (X := (96)) (Y := v5804.toInt) (by decide) rfl c5832
        refine lv_aload_n hx hb dX12_beginsAt_77 rfl (lv_at hl 4 rfl) ?_
        refine gmA hx hb hts inT12 hown hK hI List.not_mem_nil hG0 39 (by decide) (hts _ (tb_c wd_1272)) rfl rfl dX12_beginsAt_78 (fun a5835 hq5836 hf5837 => ?_)
        refine lv_bipush (v := 24) hx hb dX12_beginsAt_81 (by decide) ?_
        refine lv_iload hx hb dX12_beginsAt_83 (lv_at hl 0 rfl) ?_
        refine lv_imul hx hb dX12_beginsAt_85 ?_
        refine lv_topi (fun v5838 e5839 => ?_)
        have tv5838 : v5838.toInt = (24) * v5804.toInt := iv_mul (by decide) rfl e5839 (by omega) (by omega)
        refine lv_iload_n hx hb dX12_beginsAt_86 rfl (lv_at hl 3 rfl) ?_
        refine lv_iadd hx hb dX12_beginsAt_87 ?_
        refine lv_topi (fun v5840 e5841 => ?_)
        have tv5840 : v5840.toInt = v5838.toInt + v5807.toInt := iv_add rfl rfl e5841 (by omega) (by omega)
        obtain ⟨F5842, hA5843⟩ := om_5 hI hq5836 List.not_mem_nil
        refine va_zald hx hb hK (th_one hA5843) 0 2 rfl rfl (iv_in (X := v5840.toInt) rfl (by omega) (by omega)) dX12_beginsAt_88 ?_
        refine lv_topi (fun v5844 e5845 => ?_)
        have k5846 := iv_lo v5844
        have k5847 := iv_hi v5844
        refine lv_if_eq (tgt := 99) hx hb dX12_beginsAt_89 (by decide) (fun c5848 => ?_) (fun c5848 => ?_)
        · skip
          have k5849 := iv_eq (X := v5844.toInt) (Y := (0)) rfl (by decide) c5848
          refine lv_iconst (v := 0) hx hb dX12_beginsAt_99 (by decide) ?_
          exact J_100 locs ls 0  (lv_sub hl [0, 1, 2, 3, 4, 5, 6] rfl) ⟨by omega, by omega⟩ hS
        · skip
          have k5850 := iv_ne (X := v5844.toInt) (Y := (0)) rfl (by decide) c5848
          refine lv_iload hx hb dX12_beginsAt_92 (lv_at hl 1 rfl) ?_
          refine lv_iconst (v := 1) hx hb dX12_beginsAt_94 (by decide) ?_
          refine lv_iadd hx hb dX12_beginsAt_95 ?_
          refine lv_topi (fun v5851 e5852 => ?_)
          try have tv5851 : v5851.toInt = v5805.toInt + (1) := iv_add rfl (by decide) e5852 (by omega) (by omega)
          refine lv_goto (tgt := 100) hx hb dX12_beginsAt_96 (by decide) ?_
          exact J_100 locs ls v5851  (lv_sub hl [0, 1, 2, 3, 4, 5, 6] rfl) ⟨by omega, by omega⟩ hS
  have J_68 : ∀ (locs : List Loc) (ls : Array Slot) (v5853 : Int32) (v5854 : Int32) (v5855 : Int32) , lv_has ls 7 [(5, .int 0), (4, .int v5853), (3, .int v5854), (0, .ref h0), (1, .int x1), (2, .int x2)] → ((0 : Int) ≤ v5854.toInt ∧ v5854.toInt ≤ 23) → ((0 : Int) ≤ x1.toInt ∧ x1.toInt ≤ 5) → ((0 : Int) ≤ v5855.toInt) → va_S (fun _ => False) s.heap s.heap locs → W p l e R s m args below meth c s.heap locs 0 0 QF (F0 m 68 ls [.int v5855]) := by
    intro locs ls v5853 v5854 v5855  hl k5856 k5857 k5858 hS
    refine lv_istore (lv' := [(6, .int v5855), (5, .int 0), (4, .int v5853), (3, .int v5854), (0, .ref h0), (1, .int x1), (2, .int x2)]) hx hb dX12_beginsAt_68 hl (by decide) rfl (fun ls hl => ?_)
    exact J_70 _ locs ls v5855 0 v5853 v5854  rfl (lv_sub hl [0, 1, 2, 3, 4, 5, 6] rfl) (by omega) ⟨by omega, by omega⟩ ⟨by omega, by omega⟩ hS
  refine lv_aload_n hx hb dX12_beginsAt_0 rfl (lv_at hl 0 rfl) ?_
  refine gmA hx hb hts inT12 hown hK hI List.not_mem_nil hG0 3 (by decide) (hts _ (tb_c wd_1236)) rfl rfl dX12_beginsAt_1 (fun a5859 hq5860 hf5861 => ?_)
  obtain rfl := fr.uniq (by decide) hf_3 hf5861
  refine lv_sipush (v := 264) hx hb dX12_beginsAt_4 (by decide) ?_
  refine lv_iconst (v := 3) hx hb dX12_beginsAt_7 (by decide) ?_
  refine lv_iload_n hx hb dX12_beginsAt_8 rfl (lv_at hl 1 rfl) ?_
  refine lv_imul hx hb dX12_beginsAt_9 ?_
  refine lv_topi (fun v5862 e5863 => ?_)
  have tv5862 : v5862.toInt = (3) * x1.toInt := iv_mul (by decide) rfl e5863 (by omega) (by omega)
  refine lv_iadd hx hb dX12_beginsAt_10 ?_
  refine lv_topi (fun v5864 e5865 => ?_)
  have tv5864 : v5864.toInt = (264) + v5862.toInt := iv_add (by decide) rfl e5865 (by omega) (by omega)
  refine th_iald hx hb hK hA_3 0 rfl (iv_in (X := v5864.toInt) rfl (by omega) (by omega)) dX12_beginsAt_11 (fun v5866 e5867 => ?_)
  have k5868 := kg_job0 (kOk.get (i := v5864) hP_3 e5867 (X := v5864.toInt) rfl (by omega) (by omega)) (by omega) (by omega) (by omega)
  refine lv_istore_n (lv' := [(3, .int v5866), (0, .ref h0), (1, .int x1), (2, .int x2)]) hx hb dX12_beginsAt_12 rfl hl (by decide) rfl (fun ls hl => ?_)
  refine lv_aload_n hx hb dX12_beginsAt_13 rfl (lv_at hl 1 rfl) ?_
  refine gmA hx hb hts inT12 hown hK hI List.not_mem_nil hG0 3 (by decide) (hts _ (tb_c wd_1236)) rfl rfl dX12_beginsAt_14 (fun a5869 hq5870 hf5871 => ?_)
  obtain rfl := fr.uniq (by decide) hf_3 hf5871
  refine lv_sipush (v := 264) hx hb dX12_beginsAt_17 (by decide) ?_
  refine lv_iconst (v := 3) hx hb dX12_beginsAt_20 (by decide) ?_
  refine lv_iload_n hx hb dX12_beginsAt_21 rfl (lv_at hl 2 rfl) ?_
  refine lv_imul hx hb dX12_beginsAt_22 ?_
  refine lv_topi (fun v5872 e5873 => ?_)
  have tv5872 : v5872.toInt = (3) * x1.toInt := iv_mul (by decide) rfl e5873 (by omega) (by omega)
  refine lv_iadd hx hb dX12_beginsAt_23 ?_
  refine lv_topi (fun v5874 e5875 => ?_)
  have tv5874 : v5874.toInt = (264) + v5872.toInt := iv_add (by decide) rfl e5875 (by omega) (by omega)
  refine lv_iconst (v := 1) hx hb dX12_beginsAt_24 (by decide) ?_
  refine lv_iadd hx hb dX12_beginsAt_25 ?_
  refine lv_topi (fun v5876 e5877 => ?_)
  have tv5876 : v5876.toInt = v5874.toInt + (1) := iv_add rfl (by decide) e5877 (by omega) (by omega)
  refine th_iald hx hb hK hA_3 0 rfl (iv_in (X := v5876.toInt) rfl (by omega) (by omega)) dX12_beginsAt_26 (fun v5878 e5879 => ?_)
  refine lv_istore (lv' := [(4, .int v5878), (3, .int v5866), (0, .ref h0), (1, .int x1), (2, .int x2)]) hx hb dX12_beginsAt_27 hl (by decide) rfl (fun ls hl => ?_)
  refine lv_iconst (v := 0) hx hb dX12_beginsAt_29 (by decide) ?_
  refine lv_istore (lv' := [(5, .int 0), (4, .int v5878), (3, .int v5866), (0, .ref h0), (1, .int x1), (2, .int x2)]) hx hb dX12_beginsAt_30 hl (by decide) rfl (fun ls hl => ?_)
  refine lv_iload_n hx hb dX12_beginsAt_32 rfl (lv_at hl 5 rfl) ?_
  refine lv_aload_n hx hb dX12_beginsAt_33 rfl (lv_at hl 3 rfl) ?_
  refine gmA hx hb hts inT12 hown hK hI List.not_mem_nil hG0 3 (by decide) (hts _ (tb_c wd_1236)) rfl rfl dX12_beginsAt_34 (fun a5880 hq5881 hf5882 => ?_)
  obtain rfl := fr.uniq (by decide) hf_3 hf5882
  refine lv_sipush (v := 264) hx hb dX12_beginsAt_37 (by decide) ?_
  refine lv_iconst (v := 3) hx hb dX12_beginsAt_40 (by decide) ?_
  refine lv_iload_n hx hb dX12_beginsAt_41 rfl (lv_at hl 4 rfl) ?_
  refine lv_imul hx hb dX12_beginsAt_42 ?_
  refine lv_topi (fun v5883 e5884 => ?_)
  have tv5883 : v5883.toInt = (3) * x1.toInt := iv_mul (by decide) rfl e5884 (by omega) (by omega)
  refine lv_iadd hx hb dX12_beginsAt_43 ?_
  refine lv_topi (fun v5885 e5886 => ?_)
  have tv5885 : v5885.toInt = (264) + v5883.toInt := iv_add (by decide) rfl e5886 (by omega) (by omega)
  refine lv_iconst (v := 2) hx hb dX12_beginsAt_44 (by decide) ?_
  refine lv_iadd hx hb dX12_beginsAt_45 ?_
  refine lv_topi (fun v5887 e5888 => ?_)
  have tv5887 : v5887.toInt = v5885.toInt + (2) := iv_add rfl (by decide) e5888 (by omega) (by omega)
  refine th_iald hx hb hK hA_3 0 rfl (iv_in (X := v5887.toInt) rfl (by omega) (by omega)) dX12_beginsAt_46 (fun v5889 e5890 => ?_)
  have k5891 := kg_job2 (kOk.get (i := v5887) hP_3 e5890 (X := v5887.toInt) rfl (by omega) (by omega)) (by omega) (by omega) (by omega)
  have k5892 := iv_lo x2
  have k5893 := iv_hi x2
  refine lv_icmp_le (tgt := 54) hx hb dX12_beginsAt_47 (by decide) (fun c5894 => ?_) (fun c5894 => ?_)
  · skip
    have k5895 := iv_le (X := x2.toInt) (Y := v5889.toInt) rfl rfl c5894
    refine lv_aload_n hx hb dX12_beginsAt_54 rfl (lv_at hl 3 rfl) ?_
    refine gmA hx hb hts inT12 hown hK hI List.not_mem_nil hG0 3 (by decide) (hts _ (tb_c wd_1236)) rfl rfl dX12_beginsAt_55 (fun a5896 hq5897 hf5898 => ?_)
    obtain rfl := fr.uniq (by decide) hf_3 hf5898
    refine lv_sipush (v := 264) hx hb dX12_beginsAt_58 (by decide) ?_
    refine lv_iconst (v := 3) hx hb dX12_beginsAt_61 (by decide) ?_
    refine lv_iload_n hx hb dX12_beginsAt_62 rfl (lv_at hl 4 rfl) ?_
    refine lv_imul hx hb dX12_beginsAt_63 ?_
    refine lv_topi (fun v5899 e5900 => ?_)
    have tv5899 : v5899.toInt = (3) * x1.toInt := iv_mul (by decide) rfl e5900 (by omega) (by omega)
    refine lv_iadd hx hb dX12_beginsAt_64 ?_
    refine lv_topi (fun v5901 e5902 => ?_)
    have tv5901 : v5901.toInt = (264) + v5899.toInt := iv_add (by decide) rfl e5902 (by omega) (by omega)
    refine lv_iconst (v := 2) hx hb dX12_beginsAt_65 (by decide) ?_
    refine lv_iadd hx hb dX12_beginsAt_66 ?_
    refine lv_topi (fun v5903 e5904 => ?_)
    have tv5903 : v5903.toInt = v5901.toInt + (2) := iv_add rfl (by decide) e5904 (by omega) (by omega)
    refine th_iald hx hb hK hA_3 0 rfl (iv_in (X := v5903.toInt) rfl (by omega) (by omega)) dX12_beginsAt_67 (fun v5905 e5906 => ?_)
    obtain rfl := (rd_same (i := v5887) (j := v5903) e5890 e5906 (X := v5887.toInt) (Y := v5903.toInt) rfl rfl (by omega)).symm
    exact J_68 [] ls v5878 v5866 v5889  (lv_sub hl [0, 1, 2, 3, 4, 5] rfl) ⟨by omega, by omega⟩ ⟨by omega, by omega⟩ (by omega) hS
  · skip
    have k5907 := iv_nle (X := x2.toInt) (Y := v5889.toInt) rfl rfl c5894
    refine lv_iload_n hx hb dX12_beginsAt_50 rfl (lv_at hl 5 rfl) ?_
    refine lv_goto (tgt := 68) hx hb dX12_beginsAt_51 (by decide) ?_
    exact J_68 [] ls v5878 v5866 x2  (lv_sub hl [0, 1, 2, 3, 4, 5] rfl) ⟨by omega, by omega⟩ ⟨by omega, by omega⟩ (by omega) hS
theorem dX12_fine_0 : decode cX12_fine 0 = .ok (.aload_n 0, 1) := by decide +kernel
theorem dX12_fine_1 : decode cX12_fine 1 = .ok (.getfield 159, 3) := by decide +kernel
theorem dX12_fine_4 : decode cX12_fine 4 = .ok (.iconst (-1), 1) := by decide +kernel
theorem dX12_fine_5 : decode cX12_fine 5 = .ok (.if_icmp .ne 7, 3) := by decide +kernel
theorem dX12_fine_8 : decode cX12_fine 8 = .ok (.iconst 1, 1) := by decide +kernel
theorem dX12_fine_9 : decode cX12_fine 9 = .ok (.goto 4, 3) := by decide +kernel
theorem dX12_fine_12 : decode cX12_fine 12 = .ok (.iconst 0, 1) := by decide +kernel
theorem dX12_fine_13 : decode cX12_fine 13 = .ok (.ireturn, 1) := by decide +kernel
set_option maxHeartbeats 4000000 in
set_option maxRecDepth 100000 in
theorem c_X12_fine (l : Launch) (E : Nat → Nat) (D : va_G) (G : th_G) (H0 : Heap) (h0 : Nat) (hG0 : G h0 = some (10, 0)) (ff cd : Nat → Int32) (TT pp : Nat) (bb : Int32) (hE : RD E D G h0 ff cd TT pp bb H0) : Met l yX12_fine (tb (.code yX12_fine cX12_fine 1 (some .boolean))) (rm 0) (va_Pc [.ref h0] (PR E D G H0)) (QS H0 (fun r => ((r : Int32) = 1 ∧ bb.toInt = -1) ∨ ((r : Int32) = 0 ∧ bb.toInt ≠ -1))) 0 0 (fun _ => False) := by
  refine Met.ofW (cc := cX12_fine) (maxL := 1) (ret := (some .boolean)) (by decide) rfl ?_
  intro p e s m args below meth c s₁ B hml hv
  obtain ⟨hav, rfl, hI, hN, hK⟩ := hv
  have hx := B.exec
  have hb := B.bytes
  have hr := B.returns
  have hts := atoms_spec (ws := tb (.code yX12_fine cX12_fine 1 (some .boolean))) B.pre
  have hown : s.vm.findClass RX12 = some m.cls := findClass_of_methodNamed B.named
  have hlocks := B.notSynchronized
  have hS : va_S (fun _ => False) s.heap s.heap [] := va_S.rf
  have hl := lv_entry ([.ref h0]) (n := 1) (Nat.le_of_ble_eq_true rfl)
  rw [show entryFrame m args 1 = entryFrame m ([.ref h0] : List Value).toArray 1 from by rw [hav], lg_entry_eq]
  generalize (lg_sl ([.ref h0]) ++ List.replicate (1 - (lg_sl ([.ref h0])).length) Slot.unset).toArray = ls at hl ⊢
  have hl : lv_has ls 1 [(0, .ref h0)] := hl
  generalize hR : (headSpec (tb (.code yX12_fine cX12_fine 1 (some .boolean))) (rm 0)).room = R
  have hR := hR.symm
  generalize hQ : MQ below (QS s.heap (fun r => ((r : Int32) = 1 ∧ bb.toInt = -1) ∨ ((r : Int32) = 0 ∧ bb.toInt ≠ -1))) args s 0 0 (fun _ => False) = QF
  have hQ := hQ.symm
  obtain ⟨hkf, hT, hz0, k14, ⟨a1, hf2, hq3, hA4⟩, ⟨a5, hf6, hq7, hA8⟩, ⟨w9, hg10, k15⟩, ⟨w11, hg12, k16⟩, hg13⟩ := hE
  refine lv_aload_n hx hb dX12_fine_0 rfl (lv_at hl 0 rfl) ?_
  refine gmI hx hb hts inT12 hown hK hI List.not_mem_nil hG0 18 (by decide) (hts _ (tb_c wd_1251)) rfl rfl dX12_fine_1 (fun w17 hg18 k19 k20 => ?_)
  obtain rfl := gf.uniq (by decide) hg13 hg18
  refine lv_iconst (v := (-1)) hx hb dX12_fine_4 (by decide) ?_
  have k21 := iv_lo bb
  have k22 := iv_hi bb
  refine lv_icmp_ne (tgt := 12) hx hb dX12_fine_5 (by decide) (fun c23 => ?_) (fun c23 => ?_)
  · skip
    have k24 := iv_ne (X := bb.toInt) (Y := (-1)) rfl (by decide) c23
    refine lv_iconst (v := 0) hx hb dX12_fine_12 (by decide) ?_
    have hpost : ((0 : Int32) = 1 ∧ bb.toInt = -1) ∨ ((0 : Int32) = 0 ∧ bb.toInt ≠ -1) := by first | exact Or.inl ⟨rfl, by omega⟩ | exact Or.inr ⟨rfl, by omega⟩
    rw [hQ]
    exact W.zret (v := 0) hx hb hr (by decide) (fun t ht hW => ⟨⟨0, (), rfl, hpost, ht⟩, hS.F ht⟩) hS.2.2 dX12_fine_13
  · skip
    have k25 := iv_eq (X := bb.toInt) (Y := (-1)) rfl (by decide) c23
    refine lv_iconst (v := 1) hx hb dX12_fine_8 (by decide) ?_
    refine lv_goto (tgt := 13) hx hb dX12_fine_9 (by decide) ?_
    have hpost : ((1 : Int32) = 1 ∧ bb.toInt = -1) ∨ ((1 : Int32) = 0 ∧ bb.toInt ≠ -1) := by first | exact Or.inl ⟨rfl, by omega⟩ | exact Or.inr ⟨rfl, by omega⟩
    rw [hQ]
    exact W.zret (v := 1) hx hb hr (by decide) (fun t ht hW => ⟨⟨1, (), rfl, hpost, ht⟩, hS.F ht⟩) hS.2.2 dX12_fine_13
theorem dX12_faults_0 : decode cX12_faults 0 = .ok (.aload_n 0, 1) := by decide +kernel
theorem dX12_faults_1 : decode cX12_faults 1 = .ok (.invokevirtual 162, 3) := by decide +kernel
theorem dX12_faults_4 : decode cX12_faults 4 = .ok (.ifCond .eq 16, 3) := by decide +kernel
theorem dX12_faults_7 : decode cX12_faults 7 = .ok (.aload_n 0, 1) := by decide +kernel
theorem dX12_faults_8 : decode cX12_faults 8 = .ok (.aload_n 0, 1) := by decide +kernel
theorem dX12_faults_9 : decode cX12_faults 9 = .ok (.getfield 49, 3) := by decide +kernel
theorem dX12_faults_12 : decode cX12_faults 12 = .ok (.aload_n 0, 1) := by decide +kernel
theorem dX12_faults_13 : decode cX12_faults 13 = .ok (.getfield 166, 3) := by decide +kernel
theorem dX12_faults_16 : decode cX12_faults 16 = .ok (.iaload, 1) := by decide +kernel
theorem dX12_faults_17 : decode cX12_faults 17 = .ok (.putfield 159, 3) := by decide +kernel
theorem dX12_faults_20 : decode cX12_faults 20 = .ok (.return_, 1) := by decide +kernel
set_option maxHeartbeats 4000000 in
set_option maxRecDepth 100000 in
theorem c_X12_faults (l : Launch) (E : Nat → Nat) (D : va_G) (G : th_G) (h0 : Nat) (hG0 : G h0 = some (10, 0)) (ff cd : Nat → Int32) (TT pp : Nat) (bb : Int32) : Met l yX12_faults (tb (.code yX12_faults cX12_faults 1 none)) (rm 1) (va_Pc [.ref h0] (PX E D G (fun H => RD E D G h0 ff cd TT pp bb H))) (QXv E D G (fun H => ∃ b2 : Int32, b2.toInt ≠ -1 ∧ RD E D G h0 ff cd TT pp b2 H)) 0 0 (th_A G) := by
  refine Met.ofW (cc := cX12_faults) (maxL := 1) (ret := none) (by decide) rfl ?_
  intro p e s m args below meth c s₁ B hml hv
  obtain ⟨hav, ⟨hI, hN, hK⟩, hX⟩ := hv
  have hx := B.exec
  have hb := B.bytes
  have hr := B.returns
  have hts := atoms_spec (ws := tb (.code yX12_faults cX12_faults 1 none)) B.pre
  have hown : s.vm.findClass RX12 = some m.cls := findClass_of_methodNamed B.named
  have hlocks := B.notSynchronized
  have hS : va_S (th_A G) s.heap s.heap [] := va_S.rf
  have hl := lv_entry ([.ref h0]) (n := 1) (Nat.le_of_ble_eq_true rfl)
  rw [show entryFrame m args 1 = entryFrame m ([.ref h0] : List Value).toArray 1 from by rw [hav], lg_entry_eq]
  generalize (lg_sl ([.ref h0]) ++ List.replicate (1 - (lg_sl ([.ref h0])).length) Slot.unset).toArray = ls at hl ⊢
  have hl : lv_has ls 1 [(0, .ref h0)] := hl
  generalize hR : (headSpec (tb (.code yX12_faults cX12_faults 1 none)) (rm 1)).room = R
  have hR := hR.symm
  generalize hQ : MQ below (QXv E D G (fun H => ∃ b2 : Int32, b2.toInt ≠ -1 ∧ RD E D G h0 ff cd TT pp b2 H)) args s 0 0 (th_A G) = QF
  have hQ := hQ.symm
  obtain ⟨hkf, hT, hz0, k14, ⟨a1, hf2, hq3, hA4⟩, ⟨a5, hf6, hq7, hA8⟩, ⟨w9, hg10, k15⟩, ⟨w11, hg12, k16⟩, hg13⟩ := hX
  refine lv_aload_n hx hb dX12_faults_0 rfl (lv_at hl 0 rfl) ?_
  refine mr_i (As := []) (rest := []) (n := 0) (d := 0) ⟨hx, hb, hml, hown, hts⟩ (c_X12_fine l E D G s.heap h0 hG0  ff cd TT pp bb ⟨hkf, hT, hz0, by omega, ⟨a1, hf2, hq3, hA4⟩, ⟨a5, hf6, hq7, hA8⟩, ⟨w9, hg10, by omega⟩, ⟨w11, hg12, by omega⟩, hg13⟩) wd_1591 wd_1593 wp_67 wd_13 wd_1594 (by decide +kernel) ⟨by rw [hR]; exact Nat.le_of_ble_eq_true rfl, by rw [hR]; exact Nat.le_of_ble_eq_true rfl⟩ hI hN hK hS hG0 rfl hl.1 rfl (Nat.le_of_ble_eq_true rfl) dX12_faults_1 ⟨Nat.zero_le _, Nat.zero_le _⟩ (fun r17 locs hp hS => ?_)
  rcases hp with ⟨rfl, hp⟩ | ⟨rfl, hp⟩
  · skip
    try simp only [rg, not_and, Int.not_le] at hp
    have hp18 := hp
    refine lv_if_eq (tgt := 20) hx hb dX12_faults_4 (by decide) (fun c => absurd c (by decide)) (fun _ => ?_)
    refine lv_aload_n hx hb dX12_faults_7 rfl (lv_at hl 0 rfl) ?_
    refine lv_aload_n hx hb dX12_faults_8 rfl (lv_at hl 0 rfl) ?_
    refine gmA hx hb hts inT12 hown hK hI List.not_mem_nil hG0 14 (by decide) (hts _ (tb_c wd_1247)) rfl rfl dX12_faults_9 (fun a19 hq20 hf21 => ?_)
    refine lv_aload_n hx hb dX12_faults_12 rfl (lv_at hl 0 rfl) ?_
    refine gmI hx hb hts inT12 hown hK hI List.not_mem_nil hG0 16 (by decide) (hts _ (tb_c wd_1249)) rfl rfl dX12_faults_13 (fun w22 hg23 k24 k25 => ?_)
    obtain rfl := gf.uniq (by decide) hg12 hg23
    obtain ⟨F26, hA27, hP28⟩ := om_6 hI hq20 List.not_mem_nil
    refine th_iald hx hb hK hA27 0 rfl (iv_in (X := w11.toInt) rfl (by omega) (by omega)) dX12_faults_16 (fun v29 e30 => ?_)
    have k31 := rgs_get hP28 e30 (X := w11.toInt) rfl (by omega) (by omega)
    refine pmI (ty := .int) hx hb hts inT12 hown hK hI List.not_mem_nil hG0 hS ⟨_, hG0⟩ 18 (by decide) (hts _ (tb_c wd_1251)) rfl rfl (by decide +kernel) rfl rfl rfl (by omega) (by omega) dX12_faults_17 (fun H locs hI hgP hS => ?_)
    have hg10 := hgP.2.2.1 15 _ (by decide) (by decide) hg10
    have hg12 := hgP.2.2.1 16 _ (by decide) (by decide) hg12
    have hg32 := hgP.2.1
    have hf2 := hgP.2.2.2 3 _ (by decide) (by decide) hf2
    have hf6 := hgP.2.2.2 12 _ (by decide) (by decide) hf6
    have hf21 := hgP.2.2.2 14 _ (by decide) (by decide) hf21
    have hA4 := va_at.kept hA4 (hgP.1 _ (m_ne hq3 hG0 (by first | decide | (dsimp only; decide))))
    have hA8 := va_at.kept hA8 (hgP.1 _ (m_ne hq7 hG0 (by first | decide | (dsimp only; decide))))
    have hA27 := va_at.kept hA27 (hgP.1 _ (m_ne hq20 hG0 (by first | decide | (dsimp only; decide))))
    have hpost : ∃ b2 : Int32, b2.toInt ≠ -1 ∧ RD E D G h0 ff cd TT pp b2 H := ⟨v29, by omega, ⟨hkf, hT, hz0, by omega, ⟨a1, hf2, hq3, hA4⟩, ⟨a5, hf6, hq7, hA8⟩, ⟨w9, hg10, by omega⟩, ⟨w11, hg12, by omega⟩, hg32⟩⟩
    rw [hQ]
    exact W.vret hx hb hr (fun t ht hW => ⟨⟨(), rfl, trivial, ⟨by rw [ht]; exact hI, hN.warm hW, va_K.moved hW.alike hK⟩, by first | (rw [ht]; exact hpost) | exact hpost⟩, hS.F ht⟩) hS.2.2 dX12_faults_20
  · skip
    try simp only [rg, not_and, Int.not_le] at hp
    have hp33 := hp
    refine lv_if_eq (tgt := 20) hx hb dX12_faults_4 (by decide) (fun _ => ?_) (fun c => absurd c (by decide))
    have hpost : ∃ b2 : Int32, b2.toInt ≠ -1 ∧ RD E D G h0 ff cd TT pp b2 s.heap := ⟨bb, by omega, ⟨hkf, hT, hz0, by omega, ⟨a1, hf2, hq3, hA4⟩, ⟨a5, hf6, hq7, hA8⟩, ⟨w9, hg10, by omega⟩, ⟨w11, hg12, by omega⟩, hg13⟩⟩
    rw [hQ]
    exact W.vret hx hb hr (fun t ht hW => ⟨⟨(), rfl, trivial, ⟨by rw [ht]; exact hI, hN.warm hW, va_K.moved hW.alike hK⟩, by first | (rw [ht]; exact hpost) | exact hpost⟩, hS.F ht⟩) hS.2.2 dX12_faults_20
theorem dX12_takes0_0 : decode cX12_takes0 0 = .ok (.aload_n 0, 1) := by decide +kernel
theorem dX12_takes0_1 : decode cX12_takes0 1 = .ok (.invokevirtual 162, 3) := by decide +kernel
theorem dX12_takes0_4 : decode cX12_takes0 4 = .ok (.ifCond .eq 20, 3) := by decide +kernel
theorem dX12_takes0_7 : decode cX12_takes0 7 = .ok (.aload_n 0, 1) := by decide +kernel
theorem dX12_takes0_8 : decode cX12_takes0 8 = .ok (.getfield 43, 3) := by decide +kernel
theorem dX12_takes0_11 : decode cX12_takes0 11 = .ok (.aload_n 0, 1) := by decide +kernel
theorem dX12_takes0_12 : decode cX12_takes0 12 = .ok (.getfield 166, 3) := by decide +kernel
theorem dX12_takes0_15 : decode cX12_takes0 15 = .ok (.iaload, 1) := by decide +kernel
theorem dX12_takes0_16 : decode cX12_takes0 16 = .ok (.iload_n 1, 1) := by decide +kernel
theorem dX12_takes0_17 : decode cX12_takes0 17 = .ok (.if_icmp .ne 7, 3) := by decide +kernel
theorem dX12_takes0_20 : decode cX12_takes0 20 = .ok (.iconst 1, 1) := by decide +kernel
theorem dX12_takes0_21 : decode cX12_takes0 21 = .ok (.goto 4, 3) := by decide +kernel
theorem dX12_takes0_24 : decode cX12_takes0 24 = .ok (.iconst 0, 1) := by decide +kernel
theorem dX12_takes0_25 : decode cX12_takes0 25 = .ok (.istore_n 2, 1) := by decide +kernel
theorem dX12_takes0_26 : decode cX12_takes0 26 = .ok (.iload_n 2, 1) := by decide +kernel
theorem dX12_takes0_27 : decode cX12_takes0 27 = .ok (.ifCond .eq 13, 3) := by decide +kernel
theorem dX12_takes0_30 : decode cX12_takes0 30 = .ok (.aload_n 0, 1) := by decide +kernel
theorem dX12_takes0_31 : decode cX12_takes0 31 = .ok (.dup, 1) := by decide +kernel
theorem dX12_takes0_32 : decode cX12_takes0 32 = .ok (.getfield 166, 3) := by decide +kernel
theorem dX12_takes0_35 : decode cX12_takes0 35 = .ok (.iconst 1, 1) := by decide +kernel
theorem dX12_takes0_36 : decode cX12_takes0 36 = .ok (.iadd, 1) := by decide +kernel
theorem dX12_takes0_37 : decode cX12_takes0 37 = .ok (.putfield 166, 3) := by decide +kernel
theorem dX12_takes0_40 : decode cX12_takes0 40 = .ok (.iload_n 2, 1) := by decide +kernel
theorem dX12_takes0_41 : decode cX12_takes0 41 = .ok (.ireturn, 1) := by decide +kernel
set_option maxHeartbeats 4000000 in
set_option maxRecDepth 100000 in
theorem c_X12_takes0 (l : Launch) (E : Nat → Nat) (D : va_G) (G : th_G) (h0 : Nat) (hG0 : G h0 = some (10, 0)) (x1 : Int32) (ff cd : Nat → Int32) (TT pp : Nat) (bb : Int32) (hx0 : x1.toInt ≠ 0) : Met l yX12_takes0 (tb (.code yX12_takes0 cX12_takes0 3 (some .boolean))) (rm 1) (va_Pc [.ref h0, .int x1] (PX E D G (fun H => RD E D G h0 ff cd TT pp bb H))) (QXi E D G (fun r H => ((r : Int32) = 1 ∧ (bb.toInt = -1 ∧ rC cd TT pp = x1.toInt ∧ pp < TT ∧ RD E D G h0 ff cd TT (pp + 1) bb H)) ∨ ((r : Int32) = 0 ∧ ((bb.toInt ≠ -1 ∨ rC cd TT pp ≠ x1.toInt) ∧ RD E D G h0 ff cd TT pp bb H)))) 0 0 (th_A G) := by
  refine Met.ofW (cc := cX12_takes0) (maxL := 3) (ret := (some .boolean)) (by decide) rfl ?_
  intro p e s m args below meth c s₁ B hml hv
  obtain ⟨hav, ⟨hI, hN, hK⟩, hX⟩ := hv
  have hx := B.exec
  have hb := B.bytes
  have hr := B.returns
  have hts := atoms_spec (ws := tb (.code yX12_takes0 cX12_takes0 3 (some .boolean))) B.pre
  have hown : s.vm.findClass RX12 = some m.cls := findClass_of_methodNamed B.named
  have hlocks := B.notSynchronized
  have hS : va_S (th_A G) s.heap s.heap [] := va_S.rf
  have hl := lv_entry ([.ref h0, .int x1]) (n := 3) (Nat.le_of_ble_eq_true rfl)
  rw [show entryFrame m args 3 = entryFrame m ([.ref h0, .int x1] : List Value).toArray 3 from by rw [hav], lg_entry_eq]
  generalize (lg_sl ([.ref h0, .int x1]) ++ List.replicate (3 - (lg_sl ([.ref h0, .int x1])).length) Slot.unset).toArray = ls at hl ⊢
  have hl : lv_has ls 3 [(0, .ref h0), (1, .int x1)] := hl
  generalize hR : (headSpec (tb (.code yX12_takes0 cX12_takes0 3 (some .boolean))) (rm 1)).room = R
  have hR := hR.symm
  generalize hQ : MQ below (QXi E D G (fun r H => ((r : Int32) = 1 ∧ (bb.toInt = -1 ∧ rC cd TT pp = x1.toInt ∧ pp < TT ∧ RD E D G h0 ff cd TT (pp + 1) bb H)) ∨ ((r : Int32) = 0 ∧ ((bb.toInt ≠ -1 ∨ rC cd TT pp ≠ x1.toInt) ∧ RD E D G h0 ff cd TT pp bb H)))) args s 0 0 (th_A G) = QF
  have hQ := hQ.symm
  obtain ⟨hkf, hT, hz0, k14, ⟨a1, hf2, hq3, hA4⟩, ⟨a5, hf6, hq7, hA8⟩, ⟨w9, hg10, k15⟩, ⟨w11, hg12, k16⟩, hg13⟩ := hX
  refine lv_aload_n hx hb dX12_takes0_0 rfl (lv_at hl 0 rfl) ?_
  refine mr_i (As := []) (rest := []) (n := 0) (d := 0) ⟨hx, hb, hml, hown, hts⟩ (c_X12_fine l E D G s.heap h0 hG0  ff cd TT pp bb ⟨hkf, hT, hz0, by omega, ⟨a1, hf2, hq3, hA4⟩, ⟨a5, hf6, hq7, hA8⟩, ⟨w9, hg10, by omega⟩, ⟨w11, hg12, by omega⟩, hg13⟩) wd_1591 wd_1593 wp_67 wd_13 wd_1594 (by decide +kernel) ⟨by rw [hR]; exact Nat.le_of_ble_eq_true rfl, by rw [hR]; exact Nat.le_of_ble_eq_true rfl⟩ hI hN hK hS hG0 rfl hl.1 rfl (Nat.le_of_ble_eq_true rfl) dX12_takes0_1 ⟨Nat.zero_le _, Nat.zero_le _⟩ (fun r17 locs hp hS => ?_)
  rcases hp with ⟨rfl, hp⟩ | ⟨rfl, hp⟩
  · skip
    try simp only [rg, not_and, Int.not_le] at hp
    have hp18 := hp
    refine lv_if_eq (tgt := 24) hx hb dX12_takes0_4 (by decide) (fun c => absurd c (by decide)) (fun _ => ?_)
    refine lv_aload_n hx hb dX12_takes0_7 rfl (lv_at hl 0 rfl) ?_
    refine gmA hx hb hts inT12 hown hK hI List.not_mem_nil hG0 12 (by decide) (hts _ (tb_c wd_1245)) rfl rfl dX12_takes0_8 (fun a19 hq20 hf21 => ?_)
    obtain rfl := fr.uniq (by decide) hf6 hf21
    refine lv_aload_n hx hb dX12_takes0_11 rfl (lv_at hl 0 rfl) ?_
    refine gmI hx hb hts inT12 hown hK hI List.not_mem_nil hG0 16 (by decide) (hts _ (tb_c wd_1249)) rfl rfl dX12_takes0_12 (fun w22 hg23 k24 k25 => ?_)
    obtain rfl := gf.uniq (by decide) hg12 hg23
    refine th_iald hx hb hK hA8 0 rfl (iv_in (X := w11.toInt) rfl (by omega) (by omega)) dX12_takes0_15 (fun v26 e27 => ?_)
    have hrc0 := rC_rd (TT := TT) e27 (j := pp) (by omega) (by omega) hz0
    refine lv_iload_n hx hb dX12_takes0_16 rfl (lv_at hl 1 rfl) ?_
    have k28 := iv_lo v26
    have k29 := iv_hi v26
    have k30 := iv_lo x1
    have k31 := iv_hi x1
    refine lv_icmp_ne (tgt := 24) hx hb dX12_takes0_17 (by decide) (fun c32 => ?_) (fun c32 => ?_)
    · skip
      have k33 := iv_ne (X := v26.toInt) (Y := x1.toInt) rfl rfl c32
      refine lv_iconst (v := 0) hx hb dX12_takes0_24 (by decide) ?_
      refine lv_istore_n (lv' := [(2, .int 0), (0, .ref h0), (1, .int x1)]) hx hb dX12_takes0_25 rfl hl (by decide) rfl (fun ls hl => ?_)
      refine lv_iload_n hx hb dX12_takes0_26 rfl (lv_at hl 0 rfl) ?_
      refine lv_if_eq (tgt := 40) hx hb dX12_takes0_27 (by decide) (fun _ => ?_) (fun c => absurd c (by decide))
      refine lv_iload_n hx hb dX12_takes0_40 rfl (lv_at hl 0 rfl) ?_
      have hpost : ((0 : Int32) = 1 ∧ (bb.toInt = -1 ∧ rC cd TT pp = x1.toInt ∧ pp < TT ∧ RD E D G h0 ff cd TT (pp + 1) bb s.heap)) ∨ ((0 : Int32) = 0 ∧ ((bb.toInt ≠ -1 ∨ rC cd TT pp ≠ x1.toInt) ∧ RD E D G h0 ff cd TT pp bb s.heap)) := Or.inr ⟨rfl, Or.inr (by omega), ⟨hkf, hT, hz0, by omega, ⟨a1, hf2, hq3, hA4⟩, ⟨a5, hf6, hq7, hA8⟩, ⟨w9, hg10, by omega⟩, ⟨w11, hg12, by omega⟩, hg13⟩⟩
      rw [hQ]
      exact W.zret (v := 0) hx hb hr (by decide) (fun t ht hW => ⟨⟨0, 0, rfl, rfl, ⟨by rw [ht]; exact hI, hN.warm hW, va_K.moved hW.alike hK⟩, by first | (rw [ht]; exact hpost) | exact hpost⟩, hS.F ht⟩) hS.2.2 dX12_takes0_41
    · skip
      have k34 := iv_eq (X := v26.toInt) (Y := x1.toInt) rfl rfl c32
      have hrc : rC cd TT pp = x1.toInt := by omega
      refine lv_iconst (v := 1) hx hb dX12_takes0_20 (by decide) ?_
      refine lv_goto (tgt := 25) hx hb dX12_takes0_21 (by decide) ?_
      refine lv_istore_n (lv' := [(2, .int 1), (0, .ref h0), (1, .int x1)]) hx hb dX12_takes0_25 rfl hl (by decide) rfl (fun ls hl => ?_)
      refine lv_iload_n hx hb dX12_takes0_26 rfl (lv_at hl 0 rfl) ?_
      refine lv_if_eq (tgt := 40) hx hb dX12_takes0_27 (by decide) (fun c => absurd c (by decide)) (fun _ => ?_)
      refine lv_aload_n hx hb dX12_takes0_30 rfl (lv_at hl 1 rfl) ?_
      refine lv_dup hx hb dX12_takes0_31 rfl ?_
      refine gmI hx hb hts inT12 hown hK hI List.not_mem_nil hG0 16 (by decide) (hts _ (tb_c wd_1249)) rfl rfl dX12_takes0_32 (fun w35 hg36 k37 k38 => ?_)
      obtain rfl := gf.uniq (by decide) hg12 hg36
      refine lv_iconst (v := 1) hx hb dX12_takes0_35 (by decide) ?_
      have hlt9 : pp < TT := rC_lt (cd := cd) (by omega)
      refine lv_iadd hx hb dX12_takes0_36 ?_
      refine lv_topi (fun v39 e40 => ?_)
      have tv39 : v39.toInt = w11.toInt + (1) := iv_add rfl (by decide) e40 (by omega) (by omega)
      refine pmI (ty := .int) hx hb hts inT12 hown hK hI List.not_mem_nil hG0 hS ⟨_, hG0⟩ 16 (by decide) (hts _ (tb_c wd_1249)) rfl rfl (by decide +kernel) rfl rfl rfl (by omega) (by omega) dX12_takes0_37 (fun H locs hI hgP hS => ?_)
      have hg10 := hgP.2.2.1 15 _ (by decide) (by decide) hg10
      have hg13 := hgP.2.2.1 18 _ (by decide) (by decide) hg13
      have hg41 := hgP.2.1
      have hf2 := hgP.2.2.2 3 _ (by decide) (by decide) hf2
      have hf6 := hgP.2.2.2 12 _ (by decide) (by decide) hf6
      have hA4 := va_at.kept hA4 (hgP.1 _ (m_ne hq3 hG0 (by first | decide | (dsimp only; decide))))
      have hA8 := va_at.kept hA8 (hgP.1 _ (m_ne hq7 hG0 (by first | decide | (dsimp only; decide))))
      refine lv_iload_n hx hb dX12_takes0_40 rfl (lv_at hl 0 rfl) ?_
      have hpost : ((1 : Int32) = 1 ∧ (bb.toInt = -1 ∧ rC cd TT pp = x1.toInt ∧ pp < TT ∧ RD E D G h0 ff cd TT (pp + 1) bb H)) ∨ ((1 : Int32) = 0 ∧ ((bb.toInt ≠ -1 ∨ rC cd TT pp ≠ x1.toInt) ∧ RD E D G h0 ff cd TT pp bb H)) := Or.inl ⟨rfl, by omega, hrc, rC_lt (cd := cd) (by omega), ⟨hkf, hT, hz0, by omega, ⟨a1, hf2, hq3, hA4⟩, ⟨a5, hf6, hq7, hA8⟩, ⟨w9, hg10, by omega⟩, ⟨v39, hg41, by omega⟩, hg13⟩⟩
      rw [hQ]
      exact W.zret (v := 1) hx hb hr (by decide) (fun t ht hW => ⟨⟨1, 1, rfl, rfl, ⟨by rw [ht]; exact hI, hN.warm hW, va_K.moved hW.alike hK⟩, by first | (rw [ht]; exact hpost) | exact hpost⟩, hS.F ht⟩) hS.2.2 dX12_takes0_41
  · skip
    try simp only [rg, not_and, Int.not_le] at hp
    have hp42 := hp
    refine lv_if_eq (tgt := 24) hx hb dX12_takes0_4 (by decide) (fun _ => ?_) (fun c => absurd c (by decide))
    refine lv_iconst (v := 0) hx hb dX12_takes0_24 (by decide) ?_
    refine lv_istore_n (lv' := [(2, .int 0), (0, .ref h0), (1, .int x1)]) hx hb dX12_takes0_25 rfl hl (by decide) rfl (fun ls hl => ?_)
    refine lv_iload_n hx hb dX12_takes0_26 rfl (lv_at hl 0 rfl) ?_
    refine lv_if_eq (tgt := 40) hx hb dX12_takes0_27 (by decide) (fun _ => ?_) (fun c => absurd c (by decide))
    refine lv_iload_n hx hb dX12_takes0_40 rfl (lv_at hl 0 rfl) ?_
    have hpost : ((0 : Int32) = 1 ∧ (bb.toInt = -1 ∧ rC cd TT pp = x1.toInt ∧ pp < TT ∧ RD E D G h0 ff cd TT (pp + 1) bb s.heap)) ∨ ((0 : Int32) = 0 ∧ ((bb.toInt ≠ -1 ∨ rC cd TT pp ≠ x1.toInt) ∧ RD E D G h0 ff cd TT pp bb s.heap)) := Or.inr ⟨rfl, Or.inl (by omega), ⟨hkf, hT, hz0, by omega, ⟨a1, hf2, hq3, hA4⟩, ⟨a5, hf6, hq7, hA8⟩, ⟨w9, hg10, by omega⟩, ⟨w11, hg12, by omega⟩, hg13⟩⟩
    rw [hQ]
    exact W.zret (v := 0) hx hb hr (by decide) (fun t ht hW => ⟨⟨0, 0, rfl, rfl, ⟨by rw [ht]; exact hI, hN.warm hW, va_K.moved hW.alike hK⟩, by first | (rw [ht]; exact hpost) | exact hpost⟩, hS.F ht⟩) hS.2.2 dX12_takes0_41
theorem dX12_must_0 : decode cX12_must 0 = .ok (.aload_n 0, 1) := by decide +kernel
theorem dX12_must_1 : decode cX12_must 1 = .ok (.iload_n 1, 1) := by decide +kernel
theorem dX12_must_2 : decode cX12_must 2 = .ok (.invokevirtual 169, 3) := by decide +kernel
theorem dX12_must_5 : decode cX12_must 5 = .ok (.ifCond .ne 7, 3) := by decide +kernel
theorem dX12_must_8 : decode cX12_must 8 = .ok (.aload_n 0, 1) := by decide +kernel
theorem dX12_must_9 : decode cX12_must 9 = .ok (.invokevirtual 172, 3) := by decide +kernel
theorem dX12_must_12 : decode cX12_must 12 = .ok (.return_, 1) := by decide +kernel
set_option maxHeartbeats 4000000 in
set_option maxRecDepth 100000 in
theorem c_X12_must (l : Launch) (E : Nat → Nat) (D : va_G) (G : th_G) (h0 : Nat) (hG0 : G h0 = some (10, 0)) (x1 : Int32) (ff cd : Nat → Int32) (TT pp : Nat) (bb : Int32) (hx0 : x1.toInt ≠ 0) : Met l yX12_must (tb (.code yX12_must cX12_must 2 none)) (rm 2) (va_Pc [.ref h0, .int x1] (PX E D G (fun H => RD E D G h0 ff cd TT pp bb H))) (QXv E D G (fun H => ∃ (p2 : Nat) (b2 : Int32), RD E D G h0 ff cd TT p2 b2 H ∧ pp ≤ p2 ∧ (b2.toInt = -1 → bb.toInt = -1 ∧ rC cd TT pp = x1.toInt ∧ p2 = pp + 1))) 0 0 (th_A G) := by
  refine Met.ofW (cc := cX12_must) (maxL := 2) (ret := none) (by decide) rfl ?_
  intro p e s m args below meth c s₁ B hml hv
  obtain ⟨hav, ⟨hI, hN, hK⟩, hX⟩ := hv
  have hx := B.exec
  have hb := B.bytes
  have hr := B.returns
  have hts := atoms_spec (ws := tb (.code yX12_must cX12_must 2 none)) B.pre
  have hown : s.vm.findClass RX12 = some m.cls := findClass_of_methodNamed B.named
  have hlocks := B.notSynchronized
  have hS : va_S (th_A G) s.heap s.heap [] := va_S.rf
  have hl := lv_entry ([.ref h0, .int x1]) (n := 2) (Nat.le_of_ble_eq_true rfl)
  rw [show entryFrame m args 2 = entryFrame m ([.ref h0, .int x1] : List Value).toArray 2 from by rw [hav], lg_entry_eq]
  generalize (lg_sl ([.ref h0, .int x1]) ++ List.replicate (2 - (lg_sl ([.ref h0, .int x1])).length) Slot.unset).toArray = ls at hl ⊢
  have hl : lv_has ls 2 [(0, .ref h0), (1, .int x1)] := hl
  generalize hR : (headSpec (tb (.code yX12_must cX12_must 2 none)) (rm 2)).room = R
  have hR := hR.symm
  generalize hQ : MQ below (QXv E D G (fun H => ∃ (p2 : Nat) (b2 : Int32), RD E D G h0 ff cd TT p2 b2 H ∧ pp ≤ p2 ∧ (b2.toInt = -1 → bb.toInt = -1 ∧ rC cd TT pp = x1.toInt ∧ p2 = pp + 1))) args s 0 0 (th_A G) = QF
  have hQ := hQ.symm
  obtain ⟨hkf, hT, hz0, k14, ⟨a1, hf2, hq3, hA4⟩, ⟨a5, hf6, hq7, hA8⟩, ⟨w9, hg10, k15⟩, ⟨w11, hg12, k16⟩, hg13⟩ := hX
  refine lv_aload_n hx hb dX12_must_0 rfl (lv_at hl 0 rfl) ?_
  refine lv_iload_n hx hb dX12_must_1 rfl (lv_at hl 1 rfl) ?_
  refine mx_i (As := [.int x1]) (rest := []) (n := 1) (d := 1) ⟨hx, hb, hml, hown, hts⟩ (c_X12_takes0 l E D G h0 hG0 x1 ff cd TT pp bb (by first | decide | omega)) wd_1587 wd_1589 wp_66 wd_13 wd_1590 (by decide +kernel) ⟨by rw [hR]; exact Nat.le_of_ble_eq_true rfl, by rw [hR]; exact Nat.le_of_ble_eq_true rfl⟩ hI hN hK hS hG0 (⟨hkf, hT, hz0, by omega, ⟨a1, hf2, hq3, hA4⟩, ⟨a5, hf6, hq7, hA8⟩, ⟨w9, hg10, by omega⟩, ⟨w11, hg12, by omega⟩, hg13⟩) rfl hl.1 rfl (Nat.le_of_ble_eq_true rfl) dX12_must_2 ⟨Nat.zero_le _, Nat.zero_le _⟩ (fun r17 H locs hI hp hS => ?_)
  rcases hp with ⟨rfl, hp⟩ | ⟨rfl, hp⟩
  · skip
    try simp only [rg, not_and, Int.not_le] at hp
    have hp18 := hp
    obtain ⟨hb19, hc20, k21, hE⟩ := hp18
    have hp18 : True := trivial
    obtain ⟨hkf, hT, hz0, k35, ⟨a22, hf23, hq24, hA25⟩, ⟨a26, hf27, hq28, hA29⟩, ⟨w30, hg31, k36⟩, ⟨w32, hg33, k37⟩, hg34⟩ := hE
    refine lv_if_ne (tgt := 12) hx hb dX12_must_5 (by decide) (fun _ => ?_) (fun c => absurd c (by decide))
    have hpost : ∃ (p2 : Nat) (b2 : Int32), RD E D G h0 ff cd TT p2 b2 H ∧ pp ≤ p2 ∧ (b2.toInt = -1 → bb.toInt = -1 ∧ rC cd TT pp = x1.toInt ∧ p2 = pp + 1) := ⟨(pp + 1), bb, ⟨hkf, hT, hz0, by omega, ⟨a22, hf23, hq24, hA25⟩, ⟨a26, hf27, hq28, hA29⟩, ⟨w30, hg31, by omega⟩, ⟨w32, hg33, by omega⟩, hg34⟩, by omega, fun h => ⟨by omega, hc20, by omega⟩⟩
    rw [hQ]
    exact W.vret hx hb hr (fun t ht hW => ⟨⟨(), rfl, trivial, ⟨by rw [ht]; exact hI, hN.warm hW, va_K.moved hW.alike hK⟩, by first | (rw [ht]; exact hpost) | exact hpost⟩, hS.F ht⟩) hS.2.2 dX12_must_12
  · skip
    try simp only [rg, not_and, Int.not_le] at hp
    have hp38 := hp
    obtain ⟨hc39, hE⟩ := hp38
    have hp38 : True := trivial
    obtain ⟨hkf, hT, hz0, k53, ⟨a40, hf41, hq42, hA43⟩, ⟨a44, hf45, hq46, hA47⟩, ⟨w48, hg49, k54⟩, ⟨w50, hg51, k55⟩, hg52⟩ := hE
    refine lv_if_ne (tgt := 12) hx hb dX12_must_5 (by decide) (fun c => absurd c (by decide)) (fun _ => ?_)
    refine lv_aload_n hx hb dX12_must_8 rfl (lv_at hl 0 rfl) ?_
    refine mx_v (As := []) (rest := []) (n := 0) (d := 1) ⟨hx, hb, hml, hown, hts⟩ (c_X12_faults l E D G h0 hG0  ff cd TT pp bb) wd_1607 wd_1609 wp_71 wd_13 wd_1610 (by decide +kernel) ⟨by rw [hR]; exact Nat.le_of_ble_eq_true rfl, by rw [hR]; exact Nat.le_of_ble_eq_true rfl⟩ hI hN hK hS hG0 (⟨hkf, hT, hz0, by omega, ⟨a40, hf41, hq42, hA43⟩, ⟨a44, hf45, hq46, hA47⟩, ⟨w48, hg49, by omega⟩, ⟨w50, hg51, by omega⟩, hg52⟩) rfl hl.1 rfl (Nat.le_of_ble_eq_true rfl) dX12_must_9 ⟨Nat.zero_le _, Nat.zero_le _⟩ (fun H locs hI hp hS => ?_)
    obtain ⟨bn57, hb58, hE⟩ := hp
    obtain ⟨hkf, hT, hz0, k72, ⟨a59, hf60, hq61, hA62⟩, ⟨a63, hf64, hq65, hA66⟩, ⟨w67, hg68, k73⟩, ⟨w69, hg70, k74⟩, hg71⟩ := hE
    have hpost : ∃ (p2 : Nat) (b2 : Int32), RD E D G h0 ff cd TT p2 b2 H ∧ pp ≤ p2 ∧ (b2.toInt = -1 → bb.toInt = -1 ∧ rC cd TT pp = x1.toInt ∧ p2 = pp + 1) := ⟨pp, bn57, ⟨hkf, hT, hz0, by omega, ⟨a59, hf60, hq61, hA62⟩, ⟨a63, hf64, hq65, hA66⟩, ⟨w67, hg68, by omega⟩, ⟨w69, hg70, by omega⟩, hg71⟩, by omega, fun h => absurd h (by omega)⟩
    rw [hQ]
    exact W.vret hx hb hr (fun t ht hW => ⟨⟨(), rfl, trivial, ⟨by rw [ht]; exact hI, hN.warm hW, va_K.moved hW.alike hK⟩, by first | (rw [ht]; exact hpost) | exact hpost⟩, hS.F ht⟩) hS.2.2 dX12_must_12
theorem dX12_leaf_0 : decode cX12_leaf 0 = .ok (.aload_n 0, 1) := by decide +kernel
theorem dX12_leaf_1 : decode cX12_leaf 1 = .ok (.getfield 175, 3) := by decide +kernel
theorem dX12_leaf_4 : decode cX12_leaf 4 = .ok (.bipush 50, 2) := by decide +kernel
theorem dX12_leaf_6 : decode cX12_leaf 6 = .ok (.if_icmp .ne 7, 3) := by decide +kernel
theorem dX12_leaf_9 : decode cX12_leaf 9 = .ok (.aload_n 0, 1) := by decide +kernel
theorem dX12_leaf_10 : decode cX12_leaf 10 = .ok (.invokevirtual 172, 3) := by decide +kernel
theorem dX12_leaf_13 : decode cX12_leaf 13 = .ok (.aload_n 0, 1) := by decide +kernel
theorem dX12_leaf_14 : decode cX12_leaf 14 = .ok (.dup, 1) := by decide +kernel
theorem dX12_leaf_15 : decode cX12_leaf 15 = .ok (.getfield 175, 3) := by decide +kernel
theorem dX12_leaf_18 : decode cX12_leaf 18 = .ok (.iconst 1, 1) := by decide +kernel
theorem dX12_leaf_19 : decode cX12_leaf 19 = .ok (.iadd, 1) := by decide +kernel
theorem dX12_leaf_20 : decode cX12_leaf 20 = .ok (.putfield 175, 3) := by decide +kernel
theorem dX12_leaf_23 : decode cX12_leaf 23 = .ok (.aload_n 0, 1) := by decide +kernel
theorem dX12_leaf_24 : decode cX12_leaf 24 = .ok (.invokevirtual 162, 3) := by decide +kernel
theorem dX12_leaf_27 : decode cX12_leaf 27 = .ok (.ifCond .eq 13, 3) := by decide +kernel
theorem dX12_leaf_30 : decode cX12_leaf 30 = .ok (.aload_n 0, 1) := by decide +kernel
theorem dX12_leaf_31 : decode cX12_leaf 31 = .ok (.dup, 1) := by decide +kernel
theorem dX12_leaf_32 : decode cX12_leaf 32 = .ok (.getfield 166, 3) := by decide +kernel
theorem dX12_leaf_35 : decode cX12_leaf 35 = .ok (.iconst 1, 1) := by decide +kernel
theorem dX12_leaf_36 : decode cX12_leaf 36 = .ok (.iadd, 1) := by decide +kernel
theorem dX12_leaf_37 : decode cX12_leaf 37 = .ok (.putfield 166, 3) := by decide +kernel
theorem dX12_leaf_40 : decode cX12_leaf 40 = .ok (.return_, 1) := by decide +kernel
set_option maxHeartbeats 4000000 in
set_option maxRecDepth 100000 in
theorem c_X12_leaf (l : Launch) (E : Nat → Nat) (D : va_G) (G : th_G) (h0 : Nat) (hG0 : G h0 = some (10, 0)) (ff cd : Nat → Int32) (TT pp : Nat) (bb : Int32) (hlt : pp < TT) : Met l yX12_leaf (tb (.code yX12_leaf cX12_leaf 1 none)) (rm 2) (va_Pc [.ref h0] (PX E D G (fun H => RD E D G h0 ff cd TT pp bb H))) (QXv E D G (fun H => ∃ (p2 : Nat) (b2 : Int32), RD E D G h0 ff cd TT p2 b2 H ∧ pp ≤ p2 ∧ (b2.toInt = -1 → bb.toInt = -1 ∧ p2 = pp + 1))) 0 0 (th_A G) := by
  refine Met.ofW (cc := cX12_leaf) (maxL := 1) (ret := none) (by decide) rfl ?_
  intro p e s m args below meth c s₁ B hml hv
  obtain ⟨hav, ⟨hI, hN, hK⟩, hX⟩ := hv
  have hx := B.exec
  have hb := B.bytes
  have hr := B.returns
  have hts := atoms_spec (ws := tb (.code yX12_leaf cX12_leaf 1 none)) B.pre
  have hown : s.vm.findClass RX12 = some m.cls := findClass_of_methodNamed B.named
  have hlocks := B.notSynchronized
  have hS : va_S (th_A G) s.heap s.heap [] := va_S.rf
  have hl := lv_entry ([.ref h0]) (n := 1) (Nat.le_of_ble_eq_true rfl)
  rw [show entryFrame m args 1 = entryFrame m ([.ref h0] : List Value).toArray 1 from by rw [hav], lg_entry_eq]
  generalize (lg_sl ([.ref h0]) ++ List.replicate (1 - (lg_sl ([.ref h0])).length) Slot.unset).toArray = ls at hl ⊢
  have hl : lv_has ls 1 [(0, .ref h0)] := hl
  generalize hR : (headSpec (tb (.code yX12_leaf cX12_leaf 1 none)) (rm 2)).room = R
  have hR := hR.symm
  generalize hQ : MQ below (QXv E D G (fun H => ∃ (p2 : Nat) (b2 : Int32), RD E D G h0 ff cd TT p2 b2 H ∧ pp ≤ p2 ∧ (b2.toInt = -1 → bb.toInt = -1 ∧ p2 = pp + 1))) args s 0 0 (th_A G) = QF
  have hQ := hQ.symm
  obtain ⟨hkf, hT, hz0, k14, ⟨a1, hf2, hq3, hA4⟩, ⟨a5, hf6, hq7, hA8⟩, ⟨w9, hg10, k15⟩, ⟨w11, hg12, k16⟩, hg13⟩ := hX
  refine lv_aload_n hx hb dX12_leaf_0 rfl (lv_at hl 0 rfl) ?_
  refine gmI hx hb hts inT12 hown hK hI List.not_mem_nil hG0 17 (by decide) (hts _ (tb_c wd_1250)) rfl rfl dX12_leaf_1 (fun w17 hg18 k19 k20 => ?_)
  refine lv_bipush (v := 50) hx hb dX12_leaf_4 (by decide) ?_
  refine lv_icmp_ne (tgt := 13) hx hb dX12_leaf_6 (by decide) (fun c21 => ?_) (fun c21 => ?_)
  · skip
    have k22 := iv_ne (X := w17.toInt) (Y := (50)) rfl (by decide) c21
    refine lv_aload_n hx hb dX12_leaf_13 rfl (lv_at hl 0 rfl) ?_
    refine lv_dup hx hb dX12_leaf_14 rfl ?_
    refine gmI hx hb hts inT12 hown hK hI List.not_mem_nil hG0 17 (by decide) (hts _ (tb_c wd_1250)) rfl rfl dX12_leaf_15 (fun w23 hg24 k25 k26 => ?_)
    obtain rfl := gf.uniq (by decide) hg18 hg24
    refine lv_iconst (v := 1) hx hb dX12_leaf_18 (by decide) ?_
    refine lv_iadd hx hb dX12_leaf_19 ?_
    refine lv_topi (fun v27 e28 => ?_)
    try have tv27 : v27.toInt = w17.toInt + (1) := iv_add rfl (by decide) e28 (by omega) (by omega)
    have k29 := iv_lo v27
    have k30 := iv_hi v27
    refine pmI (ty := .int) hx hb hts inT12 hown hK hI List.not_mem_nil hG0 hS ⟨_, hG0⟩ 17 (by decide) (hts _ (tb_c wd_1250)) rfl rfl (by decide +kernel) rfl rfl rfl (by omega) (by omega) dX12_leaf_20 (fun H locs hI hgP hS => ?_)
    have hg10 := hgP.2.2.1 15 _ (by decide) (by decide) hg10
    have hg12 := hgP.2.2.1 16 _ (by decide) (by decide) hg12
    have hg13 := hgP.2.2.1 18 _ (by decide) (by decide) hg13
    have hg31 := hgP.2.1
    have hf2 := hgP.2.2.2 3 _ (by decide) (by decide) hf2
    have hf6 := hgP.2.2.2 12 _ (by decide) (by decide) hf6
    have hA4 := va_at.kept hA4 (hgP.1 _ (m_ne hq3 hG0 (by first | decide | (dsimp only; decide))))
    have hA8 := va_at.kept hA8 (hgP.1 _ (m_ne hq7 hG0 (by first | decide | (dsimp only; decide))))
    refine lv_aload_n hx hb dX12_leaf_23 rfl (lv_at hl 0 rfl) ?_
    refine mr_i (As := []) (rest := []) (n := 0) (d := 0) ⟨hx, hb, hml, hown, hts⟩ (c_X12_fine l E D G H h0 hG0  ff cd TT pp bb ⟨hkf, hT, hz0, by omega, ⟨a1, hf2, hq3, hA4⟩, ⟨a5, hf6, hq7, hA8⟩, ⟨w9, hg10, by omega⟩, ⟨w11, hg12, by omega⟩, hg13⟩) wd_1591 wd_1593 wp_67 wd_13 wd_1594 (by decide +kernel) ⟨by rw [hR]; exact Nat.le_of_ble_eq_true rfl, by rw [hR]; exact Nat.le_of_ble_eq_true rfl⟩ hI hN hK hS hG0 rfl hl.1 rfl (Nat.le_of_ble_eq_true rfl) dX12_leaf_24 ⟨Nat.zero_le _, Nat.zero_le _⟩ (fun r32 locs hp hS => ?_)
    rcases hp with ⟨rfl, hp⟩ | ⟨rfl, hp⟩
    · skip
      try simp only [rg, not_and, Int.not_le] at hp
      have hp33 := hp
      refine lv_if_eq (tgt := 40) hx hb dX12_leaf_27 (by decide) (fun c => absurd c (by decide)) (fun _ => ?_)
      refine lv_aload_n hx hb dX12_leaf_30 rfl (lv_at hl 0 rfl) ?_
      refine lv_dup hx hb dX12_leaf_31 rfl ?_
      refine gmI hx hb hts inT12 hown hK hI List.not_mem_nil hG0 16 (by decide) (hts _ (tb_c wd_1249)) rfl rfl dX12_leaf_32 (fun w34 hg35 k36 k37 => ?_)
      obtain rfl := gf.uniq (by decide) hg12 hg35
      refine lv_iconst (v := 1) hx hb dX12_leaf_35 (by decide) ?_
      refine lv_iadd hx hb dX12_leaf_36 ?_
      refine lv_topi (fun v38 e39 => ?_)
      have tv38 : v38.toInt = w11.toInt + (1) := iv_add rfl (by decide) e39 (by omega) (by omega)
      refine pmI (ty := .int) hx hb hts inT12 hown hK hI List.not_mem_nil hG0 hS ⟨_, hG0⟩ 16 (by decide) (hts _ (tb_c wd_1249)) rfl rfl (by decide +kernel) rfl rfl rfl (by omega) (by omega) dX12_leaf_37 (fun H locs hI hgP hS => ?_)
      have hg10 := hgP.2.2.1 15 _ (by decide) (by decide) hg10
      have hg13 := hgP.2.2.1 18 _ (by decide) (by decide) hg13
      have hg31 := hgP.2.2.1 17 _ (by decide) (by decide) hg31
      have hg40 := hgP.2.1
      have hf2 := hgP.2.2.2 3 _ (by decide) (by decide) hf2
      have hf6 := hgP.2.2.2 12 _ (by decide) (by decide) hf6
      have hA4 := va_at.kept hA4 (hgP.1 _ (m_ne hq3 hG0 (by first | decide | (dsimp only; decide))))
      have hA8 := va_at.kept hA8 (hgP.1 _ (m_ne hq7 hG0 (by first | decide | (dsimp only; decide))))
      have hpost : ∃ (p2 : Nat) (b2 : Int32), RD E D G h0 ff cd TT p2 b2 H ∧ pp ≤ p2 ∧ (b2.toInt = -1 → bb.toInt = -1 ∧ p2 = pp + 1) := ⟨(pp + 1), bb, ⟨hkf, hT, hz0, by omega, ⟨a1, hf2, hq3, hA4⟩, ⟨a5, hf6, hq7, hA8⟩, ⟨w9, hg10, by omega⟩, ⟨v38, hg40, by omega⟩, hg13⟩, by omega, fun h => by omega⟩
      rw [hQ]
      exact W.vret hx hb hr (fun t ht hW => ⟨⟨(), rfl, trivial, ⟨by rw [ht]; exact hI, hN.warm hW, va_K.moved hW.alike hK⟩, by first | (rw [ht]; exact hpost) | exact hpost⟩, hS.F ht⟩) hS.2.2 dX12_leaf_40
    · skip
      try simp only [rg, not_and, Int.not_le] at hp
      have hp41 := hp
      refine lv_if_eq (tgt := 40) hx hb dX12_leaf_27 (by decide) (fun _ => ?_) (fun c => absurd c (by decide))
      have hpost : ∃ (p2 : Nat) (b2 : Int32), RD E D G h0 ff cd TT p2 b2 H ∧ pp ≤ p2 ∧ (b2.toInt = -1 → bb.toInt = -1 ∧ p2 = pp + 1) := ⟨pp, bb, ⟨hkf, hT, hz0, by omega, ⟨a1, hf2, hq3, hA4⟩, ⟨a5, hf6, hq7, hA8⟩, ⟨w9, hg10, by omega⟩, ⟨w11, hg12, by omega⟩, hg13⟩, by omega, fun h => by omega⟩
      rw [hQ]
      exact W.vret hx hb hr (fun t ht hW => ⟨⟨(), rfl, trivial, ⟨by rw [ht]; exact hI, hN.warm hW, va_K.moved hW.alike hK⟩, by first | (rw [ht]; exact hpost) | exact hpost⟩, hS.F ht⟩) hS.2.2 dX12_leaf_40
  · skip
    have k42 := iv_eq (X := w17.toInt) (Y := (50)) rfl (by decide) c21
    refine lv_aload_n hx hb dX12_leaf_9 rfl (lv_at hl 0 rfl) ?_
    refine mx_v (As := []) (rest := []) (n := 0) (d := 1) ⟨hx, hb, hml, hown, hts⟩ (c_X12_faults l E D G h0 hG0  ff cd TT pp bb) wd_1607 wd_1609 wp_71 wd_13 wd_1610 (by decide +kernel) ⟨by rw [hR]; exact Nat.le_of_ble_eq_true rfl, by rw [hR]; exact Nat.le_of_ble_eq_true rfl⟩ hI hN hK hS hG0 (⟨hkf, hT, hz0, by omega, ⟨a1, hf2, hq3, hA4⟩, ⟨a5, hf6, hq7, hA8⟩, ⟨w9, hg10, by omega⟩, ⟨w11, hg12, by omega⟩, hg13⟩) rfl hl.1 rfl (Nat.le_of_ble_eq_true rfl) dX12_leaf_10 ⟨Nat.zero_le _, Nat.zero_le _⟩ (fun H locs hI hp hS => ?_)
    obtain ⟨bn44, hb45, hE⟩ := hp
    obtain ⟨hkf, hT, hz0, k59, ⟨a46, hf47, hq48, hA49⟩, ⟨a50, hf51, hq52, hA53⟩, ⟨w54, hg55, k60⟩, ⟨w56, hg57, k61⟩, hg58⟩ := hE
    refine lv_aload_n hx hb dX12_leaf_13 rfl (lv_at hl 0 rfl) ?_
    refine lv_dup hx hb dX12_leaf_14 rfl ?_
    refine gmI hx hb hts inT12 hown hK hI List.not_mem_nil hG0 17 (by decide) (hts _ (tb_c wd_1250)) rfl rfl dX12_leaf_15 (fun w62 hg63 k64 k65 => ?_)
    refine lv_iconst (v := 1) hx hb dX12_leaf_18 (by decide) ?_
    refine lv_iadd hx hb dX12_leaf_19 ?_
    refine lv_topi (fun v66 e67 => ?_)
    try have tv66 : v66.toInt = w62.toInt + (1) := iv_add rfl (by decide) e67 (by omega) (by omega)
    have k68 := iv_lo v66
    have k69 := iv_hi v66
    refine pmI (ty := .int) hx hb hts inT12 hown hK hI List.not_mem_nil hG0 hS ⟨_, hG0⟩ 17 (by decide) (hts _ (tb_c wd_1250)) rfl rfl (by decide +kernel) rfl rfl rfl (by omega) (by omega) dX12_leaf_20 (fun H locs hI hgP hS => ?_)
    have hg55 := hgP.2.2.1 15 _ (by decide) (by decide) hg55
    have hg57 := hgP.2.2.1 16 _ (by decide) (by decide) hg57
    have hg58 := hgP.2.2.1 18 _ (by decide) (by decide) hg58
    have hg70 := hgP.2.1
    have hf47 := hgP.2.2.2 3 _ (by decide) (by decide) hf47
    have hf51 := hgP.2.2.2 12 _ (by decide) (by decide) hf51
    have hA49 := va_at.kept hA49 (hgP.1 _ (m_ne hq48 hG0 (by first | decide | (dsimp only; decide))))
    have hA53 := va_at.kept hA53 (hgP.1 _ (m_ne hq52 hG0 (by first | decide | (dsimp only; decide))))
    refine lv_aload_n hx hb dX12_leaf_23 rfl (lv_at hl 0 rfl) ?_
    refine mr_i (As := []) (rest := []) (n := 0) (d := 0) ⟨hx, hb, hml, hown, hts⟩ (c_X12_fine l E D G H h0 hG0  ff cd TT pp bn44 ⟨hkf, hT, hz0, by omega, ⟨a46, hf47, hq48, hA49⟩, ⟨a50, hf51, hq52, hA53⟩, ⟨w54, hg55, by omega⟩, ⟨w56, hg57, by omega⟩, hg58⟩) wd_1591 wd_1593 wp_67 wd_13 wd_1594 (by decide +kernel) ⟨by rw [hR]; exact Nat.le_of_ble_eq_true rfl, by rw [hR]; exact Nat.le_of_ble_eq_true rfl⟩ hI hN hK hS hG0 rfl hl.1 rfl (Nat.le_of_ble_eq_true rfl) dX12_leaf_24 ⟨Nat.zero_le _, Nat.zero_le _⟩ (fun r71 locs hp hS => ?_)
    rcases hp with ⟨rfl, hp⟩ | ⟨rfl, hp⟩
    · skip
      try simp only [rg, not_and, Int.not_le] at hp
      have hp72 := hp
      refine lv_if_eq (tgt := 40) hx hb dX12_leaf_27 (by decide) (fun c => absurd c (by decide)) (fun _ => ?_)
      refine lv_aload_n hx hb dX12_leaf_30 rfl (lv_at hl 0 rfl) ?_
      refine lv_dup hx hb dX12_leaf_31 rfl ?_
      refine gmI hx hb hts inT12 hown hK hI List.not_mem_nil hG0 16 (by decide) (hts _ (tb_c wd_1249)) rfl rfl dX12_leaf_32 (fun w73 hg74 k75 k76 => ?_)
      obtain rfl := gf.uniq (by decide) hg57 hg74
      refine lv_iconst (v := 1) hx hb dX12_leaf_35 (by decide) ?_
      refine lv_iadd hx hb dX12_leaf_36 ?_
      refine lv_topi (fun v77 e78 => ?_)
      have tv77 : v77.toInt = w56.toInt + (1) := iv_add rfl (by decide) e78 (by omega) (by omega)
      refine pmI (ty := .int) hx hb hts inT12 hown hK hI List.not_mem_nil hG0 hS ⟨_, hG0⟩ 16 (by decide) (hts _ (tb_c wd_1249)) rfl rfl (by decide +kernel) rfl rfl rfl (by omega) (by omega) dX12_leaf_37 (fun H locs hI hgP hS => ?_)
      have hg55 := hgP.2.2.1 15 _ (by decide) (by decide) hg55
      have hg58 := hgP.2.2.1 18 _ (by decide) (by decide) hg58
      have hg70 := hgP.2.2.1 17 _ (by decide) (by decide) hg70
      have hg79 := hgP.2.1
      have hf47 := hgP.2.2.2 3 _ (by decide) (by decide) hf47
      have hf51 := hgP.2.2.2 12 _ (by decide) (by decide) hf51
      have hA49 := va_at.kept hA49 (hgP.1 _ (m_ne hq48 hG0 (by first | decide | (dsimp only; decide))))
      have hA53 := va_at.kept hA53 (hgP.1 _ (m_ne hq52 hG0 (by first | decide | (dsimp only; decide))))
      have hpost : ∃ (p2 : Nat) (b2 : Int32), RD E D G h0 ff cd TT p2 b2 H ∧ pp ≤ p2 ∧ (b2.toInt = -1 → bb.toInt = -1 ∧ p2 = pp + 1) := ⟨(pp + 1), bn44, ⟨hkf, hT, hz0, by omega, ⟨a46, hf47, hq48, hA49⟩, ⟨a50, hf51, hq52, hA53⟩, ⟨w54, hg55, by omega⟩, ⟨v77, hg79, by omega⟩, hg58⟩, by omega, fun h => by omega⟩
      rw [hQ]
      exact W.vret hx hb hr (fun t ht hW => ⟨⟨(), rfl, trivial, ⟨by rw [ht]; exact hI, hN.warm hW, va_K.moved hW.alike hK⟩, by first | (rw [ht]; exact hpost) | exact hpost⟩, hS.F ht⟩) hS.2.2 dX12_leaf_40
    · skip
      try simp only [rg, not_and, Int.not_le] at hp
      have hp80 := hp
      refine lv_if_eq (tgt := 40) hx hb dX12_leaf_27 (by decide) (fun _ => ?_) (fun c => absurd c (by decide))
      have hpost : ∃ (p2 : Nat) (b2 : Int32), RD E D G h0 ff cd TT p2 b2 H ∧ pp ≤ p2 ∧ (b2.toInt = -1 → bb.toInt = -1 ∧ p2 = pp + 1) := ⟨pp, bn44, ⟨hkf, hT, hz0, by omega, ⟨a46, hf47, hq48, hA49⟩, ⟨a50, hf51, hq52, hA53⟩, ⟨w54, hg55, by omega⟩, ⟨w56, hg57, by omega⟩, hg58⟩, by omega, fun h => by omega⟩
      rw [hQ]
      exact W.vret hx hb hr (fun t ht hW => ⟨⟨(), rfl, trivial, ⟨by rw [ht]; exact hI, hN.warm hW, va_K.moved hW.alike hK⟩, by first | (rw [ht]; exact hpost) | exact hpost⟩, hS.F ht⟩) hS.2.2 dX12_leaf_40
theorem dX12_readTerm_0 : decode cX12_readTerm 0 = .ok (.aload_n 0, 1) := by decide +kernel
theorem dX12_readTerm_1 : decode cX12_readTerm 1 = .ok (.iload_n 1, 1) := by decide +kernel
theorem dX12_readTerm_2 : decode cX12_readTerm 2 = .ok (.invokevirtual 201, 3) := by decide +kernel
theorem dX12_readTerm_5 : decode cX12_readTerm 5 = .ok (.aload_n 0, 1) := by decide +kernel
theorem dX12_readTerm_6 : decode cX12_readTerm 6 = .ok (.bipush 42, 2) := by decide +kernel
theorem dX12_readTerm_8 : decode cX12_readTerm 8 = .ok (.invokestatic 194, 3) := by decide +kernel
theorem dX12_readTerm_11 : decode cX12_readTerm 11 = .ok (.invokevirtual 169, 3) := by decide +kernel
theorem dX12_readTerm_14 : decode cX12_readTerm 14 = .ok (.ifCond .ne 27, 3) := by decide +kernel
theorem dX12_readTerm_17 : decode cX12_readTerm 17 = .ok (.aload_n 0, 1) := by decide +kernel
theorem dX12_readTerm_18 : decode cX12_readTerm 18 = .ok (.bipush 47, 2) := by decide +kernel
theorem dX12_readTerm_20 : decode cX12_readTerm 20 = .ok (.invokestatic 194, 3) := by decide +kernel
theorem dX12_readTerm_23 : decode cX12_readTerm 23 = .ok (.invokevirtual 169, 3) := by decide +kernel
theorem dX12_readTerm_26 : decode cX12_readTerm 26 = .ok (.ifCond .ne 15, 3) := by decide +kernel
theorem dX12_readTerm_29 : decode cX12_readTerm 29 = .ok (.aload_n 0, 1) := by decide +kernel
theorem dX12_readTerm_30 : decode cX12_readTerm 30 = .ok (.bipush 37, 2) := by decide +kernel
theorem dX12_readTerm_32 : decode cX12_readTerm 32 = .ok (.invokestatic 194, 3) := by decide +kernel
theorem dX12_readTerm_35 : decode cX12_readTerm 35 = .ok (.invokevirtual 169, 3) := by decide +kernel
theorem dX12_readTerm_38 : decode cX12_readTerm 38 = .ok (.ifCond .eq 11, 3) := by decide +kernel
theorem dX12_readTerm_41 : decode cX12_readTerm 41 = .ok (.aload_n 0, 1) := by decide +kernel
theorem dX12_readTerm_42 : decode cX12_readTerm 42 = .ok (.iload_n 1, 1) := by decide +kernel
theorem dX12_readTerm_43 : decode cX12_readTerm 43 = .ok (.invokevirtual 201, 3) := by decide +kernel
theorem dX12_readTerm_46 : decode cX12_readTerm 46 = .ok (.goto (-41), 3) := by decide +kernel
theorem dX12_readTerm_49 : decode cX12_readTerm 49 = .ok (.return_, 1) := by decide +kernel
set_option maxHeartbeats 4000000 in
set_option maxRecDepth 100000 in
theorem c_X12_readTerm (l : Launch) (E : Nat → Nat) (D : va_G) (G : th_G) (k : Nat) (h0 : Nat) (hG0 : G h0 = some (10, 0)) (x1 : Int32) (ff cd : Nat → Int32) (TT pp : Nat) (bb : Int32) (dd : Nat) (hdd : x1.toInt = (dd : Int)) (hd8 : dd ≤ 8) (hk : 8 ≤ dd + k) (hpart : ∀ (h0 : Nat) (hG0 : G h0 = some (10, 0)) (x1 : Int32) (ff cd : Nat → Int32) (TT pp : Nat) (bb : Int32) (dd : Nat) (hdd : x1.toInt = (dd : Int)) (hd8 : dd ≤ 8) (hk : 8 ≤ dd + k), Met l yX12_readPart (tb (.code yX12_readPart cX12_readPart 3 none)) (rm (3 + 3 * k)) (va_Pc [.ref h0, .int x1] (PX E D G (fun H => RD E D G h0 ff cd TT pp bb H))) (QXv E D G (fun H => ∃ (p2 : Nat) (b2 : Int32), RD E D G h0 ff cd TT p2 b2 H ∧ pp ≤ p2 ∧ (b2.toInt = -1 → bb.toInt = -1 ∧ Gr (rC cd TT) 0 dd pp p2))) 0 0 (th_A G)) : Met l yX12_readTerm (tb (.code yX12_readTerm cX12_readTerm 2 none)) (rm (4 + 3 * k)) (va_Pc [.ref h0, .int x1] (PX E D G (fun H => RD E D G h0 ff cd TT pp bb H))) (QXv E D G (fun H => ∃ (p2 : Nat) (b2 : Int32), RD E D G h0 ff cd TT p2 b2 H ∧ pp ≤ p2 ∧ (b2.toInt = -1 → bb.toInt = -1 ∧ Gr (rC cd TT) 1 dd pp p2))) 0 0 (th_A G) := by
  refine Met.ofW (cc := cX12_readTerm) (maxL := 2) (ret := none) (by decide) rfl ?_
  intro p e s m args below meth c s₁ B hml hv
  obtain ⟨hav, ⟨hI, hN, hK⟩, hX⟩ := hv
  have hx := B.exec
  have hb := B.bytes
  have hr := B.returns
  have hts := atoms_spec (ws := tb (.code yX12_readTerm cX12_readTerm 2 none)) B.pre
  have hown : s.vm.findClass RX12 = some m.cls := findClass_of_methodNamed B.named
  have hlocks := B.notSynchronized
  have hS : va_S (th_A G) s.heap s.heap [] := va_S.rf
  have hl := lv_entry ([.ref h0, .int x1]) (n := 2) (Nat.le_of_ble_eq_true rfl)
  rw [show entryFrame m args 2 = entryFrame m ([.ref h0, .int x1] : List Value).toArray 2 from by rw [hav], lg_entry_eq]
  generalize (lg_sl ([.ref h0, .int x1]) ++ List.replicate (2 - (lg_sl ([.ref h0, .int x1])).length) Slot.unset).toArray = ls at hl ⊢
  have hl : lv_has ls 2 [(0, .ref h0), (1, .int x1)] := hl
  generalize hR : (headSpec (tb (.code yX12_readTerm cX12_readTerm 2 none)) (rm (4 + 3 * k))).room = R
  have hR := hR.symm
  generalize hQ : MQ below (QXv E D G (fun H => ∃ (p2 : Nat) (b2 : Int32), RD E D G h0 ff cd TT p2 b2 H ∧ pp ≤ p2 ∧ (b2.toInt = -1 → bb.toInt = -1 ∧ Gr (rC cd TT) 1 dd pp p2))) args s 0 0 (th_A G) = QF
  have hQ := hQ.symm
  obtain ⟨hkf, hT, hz0, k14, ⟨a1, hf2, hq3, hA4⟩, ⟨a5, hf6, hq7, hA8⟩, ⟨w9, hg10, k15⟩, ⟨w11, hg12, k16⟩, hg13⟩ := hX
  have J_5 : ∀ (nn : Nat) (H : Heap) (locs : List Loc) (ls : Array Slot)  (p1 : Nat) (b1 : Int32), (Int.toNat (((TT : Nat) : Int) - ((p1 : Nat) : Int)) = nn) → lv_has ls 2 [(0, .ref h0), (1, .int x1)] → ((0 : Int) ≤ x1.toInt ∧ x1.toInt ≤ 8) → (pp ≤ p1) → (b1.toInt = -1 → bb.toInt = -1 ∧ ∀ r, Gr (rC cd TT) 7 dd p1 r → Gr (rC cd TT) 1 dd pp r) → (RD E D G h0 ff cd TT p1 b1 H) → th_I (okM E) D G [] H → va_S (th_A G) s.heap H locs → W p l e R s m args below meth c H locs 0 0 QF (F0 m 5 ls []) := by
    intro nn
    induction nn using Nat.strongRecOn with
    | ind nn ih_5 =>
      intro H locs ls  p1 b1 hm hl k1578 hle1 hInv hE hI hS
      obtain ⟨hkf, hT, hz0, k1592, ⟨a1579, hf1580, hq1581, hA1582⟩, ⟨a1583, hf1584, hq1585, hA1586⟩, ⟨w1587, hg1588, k1593⟩, ⟨w1589, hg1590, k1594⟩, hg1591⟩ := hE
      refine lv_aload_n hx hb dX12_readTerm_5 rfl (lv_at hl 0 rfl) ?_
      refine lv_bipush (v := 42) hx hb dX12_readTerm_6 (by decide) ?_
      refine th_cSs (As := [.int 42]) (rest := [.ref h0]) (n := 1) (d := 0) ⟨hx, hb, hml, hown, hts⟩ (c_X12_sign l H 42) wd_1495 wd_1496 wd_13 wd_1497 (by decide +kernel) ⟨by rw [hR]; show 0 + 1 ≤ 4 + 3 * k; omega, by rw [hR]; show 8 + (1 + 11) + 40 * (0) ≤ 40 * (4 + 3 * k); omega⟩ hN hS rfl hl.1 rfl (Nat.le_of_ble_eq_true rfl) dX12_readTerm_8 ⟨Nat.zero_le _, Nat.zero_le _⟩ (fun r1595 locs hp hS => ?_)
      obtain rfl : r1595 = 142 := hp.trans (by decide)
      refine mx_i (As := [.int 142]) (rest := []) (n := 1) (d := 1) ⟨hx, hb, hml, hown, hts⟩ (c_X12_takes0 l E D G h0 hG0 142 ff cd TT p1 b1 (by first | decide | omega)) wd_1587 wd_1589 wp_66 wd_13 wd_1590 (by decide +kernel) ⟨by rw [hR]; show 1 + 1 ≤ 4 + 3 * k; omega, by rw [hR]; show 8 + (3 + 11) + 40 * (1) ≤ 40 * (4 + 3 * k); omega⟩ hI hN hK hS hG0 (⟨hkf, hT, hz0, by omega, ⟨a1579, hf1580, hq1581, hA1582⟩, ⟨a1583, hf1584, hq1585, hA1586⟩, ⟨w1587, hg1588, by omega⟩, ⟨w1589, hg1590, by omega⟩, hg1591⟩) rfl hl.1 rfl (Nat.le_of_ble_eq_true rfl) dX12_readTerm_11 ⟨Nat.zero_le _, Nat.zero_le _⟩ (fun r1596 H locs hI hp hS => ?_)
      rcases hp with ⟨rfl, hp⟩ | ⟨rfl, hp⟩
      · skip
        try simp only [rg, not_and, Int.not_le] at hp
        have hp1597 := hp
        obtain ⟨hb1598, hc1599, k1600, hE⟩ := hp1597
        have hp1597 : True := trivial
        rw [show (142 : Int32).toInt = 142 from by decide] at hc1599
        obtain ⟨hkf, hT, hz0, k1614, ⟨a1601, hf1602, hq1603, hA1604⟩, ⟨a1605, hf1606, hq1607, hA1608⟩, ⟨w1609, hg1610, k1615⟩, ⟨w1611, hg1612, k1616⟩, hg1613⟩ := hE
        try rw [show (142 : Int32).toInt = 142 from by decide] at hp1597
        refine lv_if_ne (tgt := 41) hx hb dX12_readTerm_14 (by decide) (fun _ => ?_) (fun c => absurd c (by decide))
        refine lv_aload_n hx hb dX12_readTerm_41 rfl (lv_at hl 0 rfl) ?_
        refine lv_iload_n hx hb dX12_readTerm_42 rfl (lv_at hl 1 rfl) ?_
        refine mx_v (As := [.int x1]) (rest := []) (n := 1) (d := (3 + 3 * k)) ⟨hx, hb, hml, hown, hts⟩ (hpart h0 hG0 x1 ff cd TT (p1 + 1) b1 dd (by first | decide | omega) (by omega) (by omega)) wd_1603 wd_1605 wp_70 wd_13 wd_1606 (by decide +kernel) ⟨by rw [hR]; show (3 + 3 * k) + 1 ≤ 4 + 3 * k; omega, by rw [hR]; show 8 + (3 + 11) + 40 * ((3 + 3 * k)) ≤ 40 * (4 + 3 * k); omega⟩ hI hN hK hS hG0 (⟨hkf, hT, hz0, by omega, ⟨a1601, hf1602, hq1603, hA1604⟩, ⟨a1605, hf1606, hq1607, hA1608⟩, ⟨w1609, hg1610, by omega⟩, ⟨w1611, hg1612, by omega⟩, hg1613⟩) rfl hl.1 rfl (Nat.le_of_ble_eq_true rfl) dX12_readTerm_43 ⟨Nat.zero_le _, Nat.zero_le _⟩ (fun H locs hI hp hS => ?_)
        obtain ⟨pn1618, bn1619, hE, k1621, hi1620⟩ := hp
        obtain ⟨hkf, hT, hz0, k1635, ⟨a1622, hf1623, hq1624, hA1625⟩, ⟨a1626, hf1627, hq1628, hA1629⟩, ⟨w1630, hg1631, k1636⟩, ⟨w1632, hg1633, k1637⟩, hg1634⟩ := hE
        have hInv2 : bn1619.toInt = -1 → bb.toInt = -1 ∧ ∀ r, Gr (rC cd TT) 7 dd pn1618 r → Gr (rC cd TT) 1 dd pp r := fun h => ⟨(hInv hb1598).1, r7_m (hInv hb1598).2 (by omega) (hi1620 h).2⟩
        refine lv_goto (tgt := 5) hx hb dX12_readTerm_46 (by decide) ?_
        exact ih_5 _ (by omega) H locs ls  pn1618 bn1619 rfl (lv_sub hl [0, 1] rfl) ⟨by omega, by omega⟩ (by omega) (hInv2) (⟨hkf, hT, hz0, by omega, ⟨a1622, hf1623, hq1624, hA1625⟩, ⟨a1626, hf1627, hq1628, hA1629⟩, ⟨w1630, hg1631, by omega⟩, ⟨w1632, hg1633, by omega⟩, hg1634⟩) hI hS
      · skip
        try simp only [rg, not_and, Int.not_le] at hp
        have hp1638 := hp
        obtain ⟨hc1639, hE⟩ := hp1638
        have hp1638 : True := trivial
        rw [show (142 : Int32).toInt = 142 from by decide] at hc1639
        obtain ⟨hkf, hT, hz0, k1653, ⟨a1640, hf1641, hq1642, hA1643⟩, ⟨a1644, hf1645, hq1646, hA1647⟩, ⟨w1648, hg1649, k1654⟩, ⟨w1650, hg1651, k1655⟩, hg1652⟩ := hE
        try rw [show (142 : Int32).toInt = 142 from by decide] at hp1638
        refine lv_if_ne (tgt := 41) hx hb dX12_readTerm_14 (by decide) (fun c => absurd c (by decide)) (fun _ => ?_)
        refine lv_aload_n hx hb dX12_readTerm_17 rfl (lv_at hl 0 rfl) ?_
        refine lv_bipush (v := 47) hx hb dX12_readTerm_18 (by decide) ?_
        refine th_cSs (As := [.int 47]) (rest := [.ref h0]) (n := 1) (d := 0) ⟨hx, hb, hml, hown, hts⟩ (c_X12_sign l H 47) wd_1495 wd_1496 wd_13 wd_1497 (by decide +kernel) ⟨by rw [hR]; show 0 + 1 ≤ 4 + 3 * k; omega, by rw [hR]; show 8 + (1 + 11) + 40 * (0) ≤ 40 * (4 + 3 * k); omega⟩ hN hS rfl hl.1 rfl (Nat.le_of_ble_eq_true rfl) dX12_readTerm_20 ⟨Nat.zero_le _, Nat.zero_le _⟩ (fun r1656 locs hp hS => ?_)
        obtain rfl : r1656 = 147 := hp.trans (by decide)
        refine mx_i (As := [.int 147]) (rest := []) (n := 1) (d := 1) ⟨hx, hb, hml, hown, hts⟩ (c_X12_takes0 l E D G h0 hG0 147 ff cd TT p1 b1 (by first | decide | omega)) wd_1587 wd_1589 wp_66 wd_13 wd_1590 (by decide +kernel) ⟨by rw [hR]; show 1 + 1 ≤ 4 + 3 * k; omega, by rw [hR]; show 8 + (3 + 11) + 40 * (1) ≤ 40 * (4 + 3 * k); omega⟩ hI hN hK hS hG0 (⟨hkf, hT, hz0, by omega, ⟨a1640, hf1641, hq1642, hA1643⟩, ⟨a1644, hf1645, hq1646, hA1647⟩, ⟨w1648, hg1649, by omega⟩, ⟨w1650, hg1651, by omega⟩, hg1652⟩) rfl hl.1 rfl (Nat.le_of_ble_eq_true rfl) dX12_readTerm_23 ⟨Nat.zero_le _, Nat.zero_le _⟩ (fun r1657 H locs hI hp hS => ?_)
        rcases hp with ⟨rfl, hp⟩ | ⟨rfl, hp⟩
        · skip
          try simp only [rg, not_and, Int.not_le] at hp
          have hp1658 := hp
          obtain ⟨hb1659, hc1660, k1661, hE⟩ := hp1658
          have hp1658 : True := trivial
          rw [show (147 : Int32).toInt = 147 from by decide] at hc1660
          obtain ⟨hkf, hT, hz0, k1675, ⟨a1662, hf1663, hq1664, hA1665⟩, ⟨a1666, hf1667, hq1668, hA1669⟩, ⟨w1670, hg1671, k1676⟩, ⟨w1672, hg1673, k1677⟩, hg1674⟩ := hE
          try rw [show (147 : Int32).toInt = 147 from by decide] at hp1658
          refine lv_if_ne (tgt := 41) hx hb dX12_readTerm_26 (by decide) (fun _ => ?_) (fun c => absurd c (by decide))
          refine lv_aload_n hx hb dX12_readTerm_41 rfl (lv_at hl 0 rfl) ?_
          refine lv_iload_n hx hb dX12_readTerm_42 rfl (lv_at hl 1 rfl) ?_
          refine mx_v (As := [.int x1]) (rest := []) (n := 1) (d := (3 + 3 * k)) ⟨hx, hb, hml, hown, hts⟩ (hpart h0 hG0 x1 ff cd TT (p1 + 1) b1 dd (by first | decide | omega) (by omega) (by omega)) wd_1603 wd_1605 wp_70 wd_13 wd_1606 (by decide +kernel) ⟨by rw [hR]; show (3 + 3 * k) + 1 ≤ 4 + 3 * k; omega, by rw [hR]; show 8 + (3 + 11) + 40 * ((3 + 3 * k)) ≤ 40 * (4 + 3 * k); omega⟩ hI hN hK hS hG0 (⟨hkf, hT, hz0, by omega, ⟨a1662, hf1663, hq1664, hA1665⟩, ⟨a1666, hf1667, hq1668, hA1669⟩, ⟨w1670, hg1671, by omega⟩, ⟨w1672, hg1673, by omega⟩, hg1674⟩) rfl hl.1 rfl (Nat.le_of_ble_eq_true rfl) dX12_readTerm_43 ⟨Nat.zero_le _, Nat.zero_le _⟩ (fun H locs hI hp hS => ?_)
          obtain ⟨pn1679, bn1680, hE, k1682, hi1681⟩ := hp
          obtain ⟨hkf, hT, hz0, k1696, ⟨a1683, hf1684, hq1685, hA1686⟩, ⟨a1687, hf1688, hq1689, hA1690⟩, ⟨w1691, hg1692, k1697⟩, ⟨w1693, hg1694, k1698⟩, hg1695⟩ := hE
          have hInv2 : bn1680.toInt = -1 → bb.toInt = -1 ∧ ∀ r, Gr (rC cd TT) 7 dd pn1679 r → Gr (rC cd TT) 1 dd pp r := fun h => ⟨(hInv hb1659).1, r7_m (hInv hb1659).2 (by omega) (hi1681 h).2⟩
          refine lv_goto (tgt := 5) hx hb dX12_readTerm_46 (by decide) ?_
          exact ih_5 _ (by omega) H locs ls  pn1679 bn1680 rfl (lv_sub hl [0, 1] rfl) ⟨by omega, by omega⟩ (by omega) (hInv2) (⟨hkf, hT, hz0, by omega, ⟨a1683, hf1684, hq1685, hA1686⟩, ⟨a1687, hf1688, hq1689, hA1690⟩, ⟨w1691, hg1692, by omega⟩, ⟨w1693, hg1694, by omega⟩, hg1695⟩) hI hS
        · skip
          try simp only [rg, not_and, Int.not_le] at hp
          have hp1699 := hp
          obtain ⟨hc1700, hE⟩ := hp1699
          have hp1699 : True := trivial
          rw [show (147 : Int32).toInt = 147 from by decide] at hc1700
          obtain ⟨hkf, hT, hz0, k1714, ⟨a1701, hf1702, hq1703, hA1704⟩, ⟨a1705, hf1706, hq1707, hA1708⟩, ⟨w1709, hg1710, k1715⟩, ⟨w1711, hg1712, k1716⟩, hg1713⟩ := hE
          try rw [show (147 : Int32).toInt = 147 from by decide] at hp1699
          refine lv_if_ne (tgt := 41) hx hb dX12_readTerm_26 (by decide) (fun c => absurd c (by decide)) (fun _ => ?_)
          refine lv_aload_n hx hb dX12_readTerm_29 rfl (lv_at hl 0 rfl) ?_
          refine lv_bipush (v := 37) hx hb dX12_readTerm_30 (by decide) ?_
          refine th_cSs (As := [.int 37]) (rest := [.ref h0]) (n := 1) (d := 0) ⟨hx, hb, hml, hown, hts⟩ (c_X12_sign l H 37) wd_1495 wd_1496 wd_13 wd_1497 (by decide +kernel) ⟨by rw [hR]; show 0 + 1 ≤ 4 + 3 * k; omega, by rw [hR]; show 8 + (1 + 11) + 40 * (0) ≤ 40 * (4 + 3 * k); omega⟩ hN hS rfl hl.1 rfl (Nat.le_of_ble_eq_true rfl) dX12_readTerm_32 ⟨Nat.zero_le _, Nat.zero_le _⟩ (fun r1717 locs hp hS => ?_)
          obtain rfl : r1717 = 137 := hp.trans (by decide)
          refine mx_i (As := [.int 137]) (rest := []) (n := 1) (d := 1) ⟨hx, hb, hml, hown, hts⟩ (c_X12_takes0 l E D G h0 hG0 137 ff cd TT p1 b1 (by first | decide | omega)) wd_1587 wd_1589 wp_66 wd_13 wd_1590 (by decide +kernel) ⟨by rw [hR]; show 1 + 1 ≤ 4 + 3 * k; omega, by rw [hR]; show 8 + (3 + 11) + 40 * (1) ≤ 40 * (4 + 3 * k); omega⟩ hI hN hK hS hG0 (⟨hkf, hT, hz0, by omega, ⟨a1701, hf1702, hq1703, hA1704⟩, ⟨a1705, hf1706, hq1707, hA1708⟩, ⟨w1709, hg1710, by omega⟩, ⟨w1711, hg1712, by omega⟩, hg1713⟩) rfl hl.1 rfl (Nat.le_of_ble_eq_true rfl) dX12_readTerm_35 ⟨Nat.zero_le _, Nat.zero_le _⟩ (fun r1718 H locs hI hp hS => ?_)
          rcases hp with ⟨rfl, hp⟩ | ⟨rfl, hp⟩
          · skip
            try simp only [rg, not_and, Int.not_le] at hp
            have hp1719 := hp
            obtain ⟨hb1720, hc1721, k1722, hE⟩ := hp1719
            have hp1719 : True := trivial
            rw [show (137 : Int32).toInt = 137 from by decide] at hc1721
            obtain ⟨hkf, hT, hz0, k1736, ⟨a1723, hf1724, hq1725, hA1726⟩, ⟨a1727, hf1728, hq1729, hA1730⟩, ⟨w1731, hg1732, k1737⟩, ⟨w1733, hg1734, k1738⟩, hg1735⟩ := hE
            try rw [show (137 : Int32).toInt = 137 from by decide] at hp1719
            refine lv_if_eq (tgt := 49) hx hb dX12_readTerm_38 (by decide) (fun c => absurd c (by decide)) (fun _ => ?_)
            refine lv_aload_n hx hb dX12_readTerm_41 rfl (lv_at hl 0 rfl) ?_
            refine lv_iload_n hx hb dX12_readTerm_42 rfl (lv_at hl 1 rfl) ?_
            refine mx_v (As := [.int x1]) (rest := []) (n := 1) (d := (3 + 3 * k)) ⟨hx, hb, hml, hown, hts⟩ (hpart h0 hG0 x1 ff cd TT (p1 + 1) b1 dd (by first | decide | omega) (by omega) (by omega)) wd_1603 wd_1605 wp_70 wd_13 wd_1606 (by decide +kernel) ⟨by rw [hR]; show (3 + 3 * k) + 1 ≤ 4 + 3 * k; omega, by rw [hR]; show 8 + (3 + 11) + 40 * ((3 + 3 * k)) ≤ 40 * (4 + 3 * k); omega⟩ hI hN hK hS hG0 (⟨hkf, hT, hz0, by omega, ⟨a1723, hf1724, hq1725, hA1726⟩, ⟨a1727, hf1728, hq1729, hA1730⟩, ⟨w1731, hg1732, by omega⟩, ⟨w1733, hg1734, by omega⟩, hg1735⟩) rfl hl.1 rfl (Nat.le_of_ble_eq_true rfl) dX12_readTerm_43 ⟨Nat.zero_le _, Nat.zero_le _⟩ (fun H locs hI hp hS => ?_)
            obtain ⟨pn1740, bn1741, hE, k1743, hi1742⟩ := hp
            obtain ⟨hkf, hT, hz0, k1757, ⟨a1744, hf1745, hq1746, hA1747⟩, ⟨a1748, hf1749, hq1750, hA1751⟩, ⟨w1752, hg1753, k1758⟩, ⟨w1754, hg1755, k1759⟩, hg1756⟩ := hE
            have hInv2 : bn1741.toInt = -1 → bb.toInt = -1 ∧ ∀ r, Gr (rC cd TT) 7 dd pn1740 r → Gr (rC cd TT) 1 dd pp r := fun h => ⟨(hInv hb1720).1, r7_m (hInv hb1720).2 (by omega) (hi1742 h).2⟩
            refine lv_goto (tgt := 5) hx hb dX12_readTerm_46 (by decide) ?_
            exact ih_5 _ (by omega) H locs ls  pn1740 bn1741 rfl (lv_sub hl [0, 1] rfl) ⟨by omega, by omega⟩ (by omega) (hInv2) (⟨hkf, hT, hz0, by omega, ⟨a1744, hf1745, hq1746, hA1747⟩, ⟨a1748, hf1749, hq1750, hA1751⟩, ⟨w1752, hg1753, by omega⟩, ⟨w1754, hg1755, by omega⟩, hg1756⟩) hI hS
          · skip
            try simp only [rg, not_and, Int.not_le] at hp
            have hp1760 := hp
            obtain ⟨hc1761, hE⟩ := hp1760
            have hp1760 : True := trivial
            rw [show (137 : Int32).toInt = 137 from by decide] at hc1761
            obtain ⟨hkf, hT, hz0, k1775, ⟨a1762, hf1763, hq1764, hA1765⟩, ⟨a1766, hf1767, hq1768, hA1769⟩, ⟨w1770, hg1771, k1776⟩, ⟨w1772, hg1773, k1777⟩, hg1774⟩ := hE
            try rw [show (137 : Int32).toInt = 137 from by decide] at hp1760
            refine lv_if_eq (tgt := 49) hx hb dX12_readTerm_38 (by decide) (fun _ => ?_) (fun c => absurd c (by decide))
            have hpost : ∃ (p2 : Nat) (b2 : Int32), RD E D G h0 ff cd TT p2 b2 H ∧ pp ≤ p2 ∧ (b2.toInt = -1 → bb.toInt = -1 ∧ Gr (rC cd TT) 1 dd pp p2) := ⟨p1, b1, ⟨hkf, hT, hz0, by omega, ⟨a1762, hf1763, hq1764, hA1765⟩, ⟨a1766, hf1767, hq1768, hA1769⟩, ⟨w1770, hg1771, by omega⟩, ⟨w1772, hg1773, by omega⟩, hg1774⟩, by omega, fun h => ⟨(hInv h).1, r7_x (hInv h).2 (by omega) (by omega) (by omega)⟩⟩
            rw [hQ]
            exact W.vret hx hb hr (fun t ht hW => ⟨⟨(), rfl, trivial, ⟨by rw [ht]; exact hI, hN.warm hW, va_K.moved hW.alike hK⟩, by first | (rw [ht]; exact hpost) | exact hpost⟩, hS.F ht⟩) hS.2.2 dX12_readTerm_49
  refine lv_aload_n hx hb dX12_readTerm_0 rfl (lv_at hl 0 rfl) ?_
  refine lv_iload_n hx hb dX12_readTerm_1 rfl (lv_at hl 1 rfl) ?_
  refine mx_v (As := [.int x1]) (rest := []) (n := 1) (d := (3 + 3 * k)) ⟨hx, hb, hml, hown, hts⟩ (hpart h0 hG0 x1 ff cd TT pp bb dd (by first | decide | omega) (by omega) (by omega)) wd_1603 wd_1605 wp_70 wd_13 wd_1606 (by decide +kernel) ⟨by rw [hR]; show (3 + 3 * k) + 1 ≤ 4 + 3 * k; omega, by rw [hR]; show 8 + (3 + 11) + 40 * ((3 + 3 * k)) ≤ 40 * (4 + 3 * k); omega⟩ hI hN hK hS hG0 (⟨hkf, hT, hz0, by omega, ⟨a1, hf2, hq3, hA4⟩, ⟨a5, hf6, hq7, hA8⟩, ⟨w9, hg10, by omega⟩, ⟨w11, hg12, by omega⟩, hg13⟩) rfl hl.1 rfl (Nat.le_of_ble_eq_true rfl) dX12_readTerm_2 ⟨Nat.zero_le _, Nat.zero_le _⟩ (fun H locs hI hp hS => ?_)
  obtain ⟨pn1779, bn1780, hE, k1782, hi1781⟩ := hp
  obtain ⟨hkf, hT, hz0, k1796, ⟨a1783, hf1784, hq1785, hA1786⟩, ⟨a1787, hf1788, hq1789, hA1790⟩, ⟨w1791, hg1792, k1797⟩, ⟨w1793, hg1794, k1798⟩, hg1795⟩ := hE
  have hInv0 : bn1780.toInt = -1 → bb.toInt = -1 ∧ ∀ r, Gr (rC cd TT) 7 dd pn1779 r → Gr (rC cd TT) 1 dd pp r := fun h => ⟨(hi1781 h).1, r7_i (hi1781 h).2⟩
  exact J_5 _ H locs ls  pn1779 bn1780 rfl (lv_sub hl [0, 1] rfl) ⟨by omega, by omega⟩ (by omega) (hInv0) (⟨hkf, hT, hz0, by omega, ⟨a1783, hf1784, hq1785, hA1786⟩, ⟨a1787, hf1788, hq1789, hA1790⟩, ⟨w1791, hg1792, by omega⟩, ⟨w1793, hg1794, by omega⟩, hg1795⟩) hI hS
theorem dX12_readSum_0 : decode cX12_readSum 0 = .ok (.aload_n 0, 1) := by decide +kernel
theorem dX12_readSum_1 : decode cX12_readSum 1 = .ok (.iload_n 1, 1) := by decide +kernel
theorem dX12_readSum_2 : decode cX12_readSum 2 = .ok (.invokevirtual 198, 3) := by decide +kernel
theorem dX12_readSum_5 : decode cX12_readSum 5 = .ok (.aload_n 0, 1) := by decide +kernel
theorem dX12_readSum_6 : decode cX12_readSum 6 = .ok (.bipush 43, 2) := by decide +kernel
theorem dX12_readSum_8 : decode cX12_readSum 8 = .ok (.invokestatic 194, 3) := by decide +kernel
theorem dX12_readSum_11 : decode cX12_readSum 11 = .ok (.invokevirtual 169, 3) := by decide +kernel
theorem dX12_readSum_14 : decode cX12_readSum 14 = .ok (.ifCond .ne 15, 3) := by decide +kernel
theorem dX12_readSum_17 : decode cX12_readSum 17 = .ok (.aload_n 0, 1) := by decide +kernel
theorem dX12_readSum_18 : decode cX12_readSum 18 = .ok (.bipush 45, 2) := by decide +kernel
theorem dX12_readSum_20 : decode cX12_readSum 20 = .ok (.invokestatic 194, 3) := by decide +kernel
theorem dX12_readSum_23 : decode cX12_readSum 23 = .ok (.invokevirtual 169, 3) := by decide +kernel
theorem dX12_readSum_26 : decode cX12_readSum 26 = .ok (.ifCond .eq 11, 3) := by decide +kernel
theorem dX12_readSum_29 : decode cX12_readSum 29 = .ok (.aload_n 0, 1) := by decide +kernel
theorem dX12_readSum_30 : decode cX12_readSum 30 = .ok (.iload_n 1, 1) := by decide +kernel
theorem dX12_readSum_31 : decode cX12_readSum 31 = .ok (.invokevirtual 198, 3) := by decide +kernel
theorem dX12_readSum_34 : decode cX12_readSum 34 = .ok (.goto (-29), 3) := by decide +kernel
theorem dX12_readSum_37 : decode cX12_readSum 37 = .ok (.return_, 1) := by decide +kernel
set_option maxHeartbeats 4000000 in
set_option maxRecDepth 100000 in
theorem c_X12_readSum (l : Launch) (E : Nat → Nat) (D : va_G) (G : th_G) (k : Nat) (h0 : Nat) (hG0 : G h0 = some (10, 0)) (x1 : Int32) (ff cd : Nat → Int32) (TT pp : Nat) (bb : Int32) (dd : Nat) (hdd : x1.toInt = (dd : Int)) (hd8 : dd ≤ 8) (hk : 8 ≤ dd + k) (hpart : ∀ (h0 : Nat) (hG0 : G h0 = some (10, 0)) (x1 : Int32) (ff cd : Nat → Int32) (TT pp : Nat) (bb : Int32) (dd : Nat) (hdd : x1.toInt = (dd : Int)) (hd8 : dd ≤ 8) (hk : 8 ≤ dd + k), Met l yX12_readPart (tb (.code yX12_readPart cX12_readPart 3 none)) (rm (3 + 3 * k)) (va_Pc [.ref h0, .int x1] (PX E D G (fun H => RD E D G h0 ff cd TT pp bb H))) (QXv E D G (fun H => ∃ (p2 : Nat) (b2 : Int32), RD E D G h0 ff cd TT p2 b2 H ∧ pp ≤ p2 ∧ (b2.toInt = -1 → bb.toInt = -1 ∧ Gr (rC cd TT) 0 dd pp p2))) 0 0 (th_A G)) : Met l yX12_readSum (tb (.code yX12_readSum cX12_readSum 2 none)) (rm (5 + 3 * k)) (va_Pc [.ref h0, .int x1] (PX E D G (fun H => RD E D G h0 ff cd TT pp bb H))) (QXv E D G (fun H => ∃ (p2 : Nat) (b2 : Int32), RD E D G h0 ff cd TT p2 b2 H ∧ pp ≤ p2 ∧ (b2.toInt = -1 → bb.toInt = -1 ∧ Gr (rC cd TT) 2 dd pp p2))) 0 0 (th_A G) := by
  refine Met.ofW (cc := cX12_readSum) (maxL := 2) (ret := none) (by decide) rfl ?_
  intro p e s m args below meth c s₁ B hml hv
  obtain ⟨hav, ⟨hI, hN, hK⟩, hX⟩ := hv
  have hx := B.exec
  have hb := B.bytes
  have hr := B.returns
  have hts := atoms_spec (ws := tb (.code yX12_readSum cX12_readSum 2 none)) B.pre
  have hown : s.vm.findClass RX12 = some m.cls := findClass_of_methodNamed B.named
  have hlocks := B.notSynchronized
  have hS : va_S (th_A G) s.heap s.heap [] := va_S.rf
  have hl := lv_entry ([.ref h0, .int x1]) (n := 2) (Nat.le_of_ble_eq_true rfl)
  rw [show entryFrame m args 2 = entryFrame m ([.ref h0, .int x1] : List Value).toArray 2 from by rw [hav], lg_entry_eq]
  generalize (lg_sl ([.ref h0, .int x1]) ++ List.replicate (2 - (lg_sl ([.ref h0, .int x1])).length) Slot.unset).toArray = ls at hl ⊢
  have hl : lv_has ls 2 [(0, .ref h0), (1, .int x1)] := hl
  generalize hR : (headSpec (tb (.code yX12_readSum cX12_readSum 2 none)) (rm (5 + 3 * k))).room = R
  have hR := hR.symm
  generalize hQ : MQ below (QXv E D G (fun H => ∃ (p2 : Nat) (b2 : Int32), RD E D G h0 ff cd TT p2 b2 H ∧ pp ≤ p2 ∧ (b2.toInt = -1 → bb.toInt = -1 ∧ Gr (rC cd TT) 2 dd pp p2))) args s 0 0 (th_A G) = QF
  have hQ := hQ.symm
  obtain ⟨hkf, hT, hz0, k14, ⟨a1, hf2, hq3, hA4⟩, ⟨a5, hf6, hq7, hA8⟩, ⟨w9, hg10, k15⟩, ⟨w11, hg12, k16⟩, hg13⟩ := hX
  have J_5 : ∀ (nn : Nat) (H : Heap) (locs : List Loc) (ls : Array Slot)  (p1 : Nat) (b1 : Int32), (Int.toNat (((TT : Nat) : Int) - ((p1 : Nat) : Int)) = nn) → lv_has ls 2 [(0, .ref h0), (1, .int x1)] → ((0 : Int) ≤ x1.toInt ∧ x1.toInt ≤ 8) → (pp ≤ p1) → (b1.toInt = -1 → bb.toInt = -1 ∧ ∀ r, Gr (rC cd TT) 8 dd p1 r → Gr (rC cd TT) 2 dd pp r) → (RD E D G h0 ff cd TT p1 b1 H) → th_I (okM E) D G [] H → va_S (th_A G) s.heap H locs → W p l e R s m args below meth c H locs 0 0 QF (F0 m 5 ls []) := by
    intro nn
    induction nn using Nat.strongRecOn with
    | ind nn ih_5 =>
      intro H locs ls  p1 b1 hm hl k1151 hle1 hInv hE hI hS
      obtain ⟨hkf, hT, hz0, k1165, ⟨a1152, hf1153, hq1154, hA1155⟩, ⟨a1156, hf1157, hq1158, hA1159⟩, ⟨w1160, hg1161, k1166⟩, ⟨w1162, hg1163, k1167⟩, hg1164⟩ := hE
      refine lv_aload_n hx hb dX12_readSum_5 rfl (lv_at hl 0 rfl) ?_
      refine lv_bipush (v := 43) hx hb dX12_readSum_6 (by decide) ?_
      refine th_cSs (As := [.int 43]) (rest := [.ref h0]) (n := 1) (d := 0) ⟨hx, hb, hml, hown, hts⟩ (c_X12_sign l H 43) wd_1495 wd_1496 wd_13 wd_1497 (by decide +kernel) ⟨by rw [hR]; show 0 + 1 ≤ 5 + 3 * k; omega, by rw [hR]; show 8 + (1 + 11) + 40 * (0) ≤ 40 * (5 + 3 * k); omega⟩ hN hS rfl hl.1 rfl (Nat.le_of_ble_eq_true rfl) dX12_readSum_8 ⟨Nat.zero_le _, Nat.zero_le _⟩ (fun r1168 locs hp hS => ?_)
      obtain rfl : r1168 = 143 := hp.trans (by decide)
      refine mx_i (As := [.int 143]) (rest := []) (n := 1) (d := 1) ⟨hx, hb, hml, hown, hts⟩ (c_X12_takes0 l E D G h0 hG0 143 ff cd TT p1 b1 (by first | decide | omega)) wd_1587 wd_1589 wp_66 wd_13 wd_1590 (by decide +kernel) ⟨by rw [hR]; show 1 + 1 ≤ 5 + 3 * k; omega, by rw [hR]; show 8 + (3 + 11) + 40 * (1) ≤ 40 * (5 + 3 * k); omega⟩ hI hN hK hS hG0 (⟨hkf, hT, hz0, by omega, ⟨a1152, hf1153, hq1154, hA1155⟩, ⟨a1156, hf1157, hq1158, hA1159⟩, ⟨w1160, hg1161, by omega⟩, ⟨w1162, hg1163, by omega⟩, hg1164⟩) rfl hl.1 rfl (Nat.le_of_ble_eq_true rfl) dX12_readSum_11 ⟨Nat.zero_le _, Nat.zero_le _⟩ (fun r1169 H locs hI hp hS => ?_)
      rcases hp with ⟨rfl, hp⟩ | ⟨rfl, hp⟩
      · skip
        try simp only [rg, not_and, Int.not_le] at hp
        have hp1170 := hp
        obtain ⟨hb1171, hc1172, k1173, hE⟩ := hp1170
        have hp1170 : True := trivial
        rw [show (143 : Int32).toInt = 143 from by decide] at hc1172
        obtain ⟨hkf, hT, hz0, k1187, ⟨a1174, hf1175, hq1176, hA1177⟩, ⟨a1178, hf1179, hq1180, hA1181⟩, ⟨w1182, hg1183, k1188⟩, ⟨w1184, hg1185, k1189⟩, hg1186⟩ := hE
        try rw [show (143 : Int32).toInt = 143 from by decide] at hp1170
        refine lv_if_ne (tgt := 29) hx hb dX12_readSum_14 (by decide) (fun _ => ?_) (fun c => absurd c (by decide))
        refine lv_aload_n hx hb dX12_readSum_29 rfl (lv_at hl 0 rfl) ?_
        refine lv_iload_n hx hb dX12_readSum_30 rfl (lv_at hl 1 rfl) ?_
        refine mx_v (As := [.int x1]) (rest := []) (n := 1) (d := (4 + 3 * k)) ⟨hx, hb, hml, hown, hts⟩ (c_X12_readTerm l E D G k h0 hG0 x1 ff cd TT (p1 + 1) b1 dd (by first | decide | omega) (by omega) (by omega) hpart) wd_1599 wd_1601 wp_69 wd_13 wd_1602 (by decide +kernel) ⟨by rw [hR]; show (4 + 3 * k) + 1 ≤ 5 + 3 * k; omega, by rw [hR]; show 8 + (2 + 11) + 40 * ((4 + 3 * k)) ≤ 40 * (5 + 3 * k); omega⟩ hI hN hK hS hG0 (⟨hkf, hT, hz0, by omega, ⟨a1174, hf1175, hq1176, hA1177⟩, ⟨a1178, hf1179, hq1180, hA1181⟩, ⟨w1182, hg1183, by omega⟩, ⟨w1184, hg1185, by omega⟩, hg1186⟩) rfl hl.1 rfl (Nat.le_of_ble_eq_true rfl) dX12_readSum_31 ⟨Nat.zero_le _, Nat.zero_le _⟩ (fun H locs hI hp hS => ?_)
        obtain ⟨pn1191, bn1192, hE, k1194, hi1193⟩ := hp
        obtain ⟨hkf, hT, hz0, k1208, ⟨a1195, hf1196, hq1197, hA1198⟩, ⟨a1199, hf1200, hq1201, hA1202⟩, ⟨w1203, hg1204, k1209⟩, ⟨w1205, hg1206, k1210⟩, hg1207⟩ := hE
        have hInv2 : bn1192.toInt = -1 → bb.toInt = -1 ∧ ∀ r, Gr (rC cd TT) 8 dd pn1191 r → Gr (rC cd TT) 2 dd pp r := fun h => ⟨(hInv hb1171).1, r8_m (hInv hb1171).2 (by omega) (hi1193 h).2⟩
        refine lv_goto (tgt := 5) hx hb dX12_readSum_34 (by decide) ?_
        exact ih_5 _ (by omega) H locs ls  pn1191 bn1192 rfl (lv_sub hl [0, 1] rfl) ⟨by omega, by omega⟩ (by omega) (hInv2) (⟨hkf, hT, hz0, by omega, ⟨a1195, hf1196, hq1197, hA1198⟩, ⟨a1199, hf1200, hq1201, hA1202⟩, ⟨w1203, hg1204, by omega⟩, ⟨w1205, hg1206, by omega⟩, hg1207⟩) hI hS
      · skip
        try simp only [rg, not_and, Int.not_le] at hp
        have hp1211 := hp
        obtain ⟨hc1212, hE⟩ := hp1211
        have hp1211 : True := trivial
        rw [show (143 : Int32).toInt = 143 from by decide] at hc1212
        obtain ⟨hkf, hT, hz0, k1226, ⟨a1213, hf1214, hq1215, hA1216⟩, ⟨a1217, hf1218, hq1219, hA1220⟩, ⟨w1221, hg1222, k1227⟩, ⟨w1223, hg1224, k1228⟩, hg1225⟩ := hE
        try rw [show (143 : Int32).toInt = 143 from by decide] at hp1211
        refine lv_if_ne (tgt := 29) hx hb dX12_readSum_14 (by decide) (fun c => absurd c (by decide)) (fun _ => ?_)
        refine lv_aload_n hx hb dX12_readSum_17 rfl (lv_at hl 0 rfl) ?_
        refine lv_bipush (v := 45) hx hb dX12_readSum_18 (by decide) ?_
        refine th_cSs (As := [.int 45]) (rest := [.ref h0]) (n := 1) (d := 0) ⟨hx, hb, hml, hown, hts⟩ (c_X12_sign l H 45) wd_1495 wd_1496 wd_13 wd_1497 (by decide +kernel) ⟨by rw [hR]; show 0 + 1 ≤ 5 + 3 * k; omega, by rw [hR]; show 8 + (1 + 11) + 40 * (0) ≤ 40 * (5 + 3 * k); omega⟩ hN hS rfl hl.1 rfl (Nat.le_of_ble_eq_true rfl) dX12_readSum_20 ⟨Nat.zero_le _, Nat.zero_le _⟩ (fun r1229 locs hp hS => ?_)
        obtain rfl : r1229 = 145 := hp.trans (by decide)
        refine mx_i (As := [.int 145]) (rest := []) (n := 1) (d := 1) ⟨hx, hb, hml, hown, hts⟩ (c_X12_takes0 l E D G h0 hG0 145 ff cd TT p1 b1 (by first | decide | omega)) wd_1587 wd_1589 wp_66 wd_13 wd_1590 (by decide +kernel) ⟨by rw [hR]; show 1 + 1 ≤ 5 + 3 * k; omega, by rw [hR]; show 8 + (3 + 11) + 40 * (1) ≤ 40 * (5 + 3 * k); omega⟩ hI hN hK hS hG0 (⟨hkf, hT, hz0, by omega, ⟨a1213, hf1214, hq1215, hA1216⟩, ⟨a1217, hf1218, hq1219, hA1220⟩, ⟨w1221, hg1222, by omega⟩, ⟨w1223, hg1224, by omega⟩, hg1225⟩) rfl hl.1 rfl (Nat.le_of_ble_eq_true rfl) dX12_readSum_23 ⟨Nat.zero_le _, Nat.zero_le _⟩ (fun r1230 H locs hI hp hS => ?_)
        rcases hp with ⟨rfl, hp⟩ | ⟨rfl, hp⟩
        · skip
          try simp only [rg, not_and, Int.not_le] at hp
          have hp1231 := hp
          obtain ⟨hb1232, hc1233, k1234, hE⟩ := hp1231
          have hp1231 : True := trivial
          rw [show (145 : Int32).toInt = 145 from by decide] at hc1233
          obtain ⟨hkf, hT, hz0, k1248, ⟨a1235, hf1236, hq1237, hA1238⟩, ⟨a1239, hf1240, hq1241, hA1242⟩, ⟨w1243, hg1244, k1249⟩, ⟨w1245, hg1246, k1250⟩, hg1247⟩ := hE
          try rw [show (145 : Int32).toInt = 145 from by decide] at hp1231
          refine lv_if_eq (tgt := 37) hx hb dX12_readSum_26 (by decide) (fun c => absurd c (by decide)) (fun _ => ?_)
          refine lv_aload_n hx hb dX12_readSum_29 rfl (lv_at hl 0 rfl) ?_
          refine lv_iload_n hx hb dX12_readSum_30 rfl (lv_at hl 1 rfl) ?_
          refine mx_v (As := [.int x1]) (rest := []) (n := 1) (d := (4 + 3 * k)) ⟨hx, hb, hml, hown, hts⟩ (c_X12_readTerm l E D G k h0 hG0 x1 ff cd TT (p1 + 1) b1 dd (by first | decide | omega) (by omega) (by omega) hpart) wd_1599 wd_1601 wp_69 wd_13 wd_1602 (by decide +kernel) ⟨by rw [hR]; show (4 + 3 * k) + 1 ≤ 5 + 3 * k; omega, by rw [hR]; show 8 + (2 + 11) + 40 * ((4 + 3 * k)) ≤ 40 * (5 + 3 * k); omega⟩ hI hN hK hS hG0 (⟨hkf, hT, hz0, by omega, ⟨a1235, hf1236, hq1237, hA1238⟩, ⟨a1239, hf1240, hq1241, hA1242⟩, ⟨w1243, hg1244, by omega⟩, ⟨w1245, hg1246, by omega⟩, hg1247⟩) rfl hl.1 rfl (Nat.le_of_ble_eq_true rfl) dX12_readSum_31 ⟨Nat.zero_le _, Nat.zero_le _⟩ (fun H locs hI hp hS => ?_)
          obtain ⟨pn1252, bn1253, hE, k1255, hi1254⟩ := hp
          obtain ⟨hkf, hT, hz0, k1269, ⟨a1256, hf1257, hq1258, hA1259⟩, ⟨a1260, hf1261, hq1262, hA1263⟩, ⟨w1264, hg1265, k1270⟩, ⟨w1266, hg1267, k1271⟩, hg1268⟩ := hE
          have hInv2 : bn1253.toInt = -1 → bb.toInt = -1 ∧ ∀ r, Gr (rC cd TT) 8 dd pn1252 r → Gr (rC cd TT) 2 dd pp r := fun h => ⟨(hInv hb1232).1, r8_m (hInv hb1232).2 (by omega) (hi1254 h).2⟩
          refine lv_goto (tgt := 5) hx hb dX12_readSum_34 (by decide) ?_
          exact ih_5 _ (by omega) H locs ls  pn1252 bn1253 rfl (lv_sub hl [0, 1] rfl) ⟨by omega, by omega⟩ (by omega) (hInv2) (⟨hkf, hT, hz0, by omega, ⟨a1256, hf1257, hq1258, hA1259⟩, ⟨a1260, hf1261, hq1262, hA1263⟩, ⟨w1264, hg1265, by omega⟩, ⟨w1266, hg1267, by omega⟩, hg1268⟩) hI hS
        · skip
          try simp only [rg, not_and, Int.not_le] at hp
          have hp1272 := hp
          obtain ⟨hc1273, hE⟩ := hp1272
          have hp1272 : True := trivial
          rw [show (145 : Int32).toInt = 145 from by decide] at hc1273
          obtain ⟨hkf, hT, hz0, k1287, ⟨a1274, hf1275, hq1276, hA1277⟩, ⟨a1278, hf1279, hq1280, hA1281⟩, ⟨w1282, hg1283, k1288⟩, ⟨w1284, hg1285, k1289⟩, hg1286⟩ := hE
          try rw [show (145 : Int32).toInt = 145 from by decide] at hp1272
          refine lv_if_eq (tgt := 37) hx hb dX12_readSum_26 (by decide) (fun _ => ?_) (fun c => absurd c (by decide))
          have hpost : ∃ (p2 : Nat) (b2 : Int32), RD E D G h0 ff cd TT p2 b2 H ∧ pp ≤ p2 ∧ (b2.toInt = -1 → bb.toInt = -1 ∧ Gr (rC cd TT) 2 dd pp p2) := ⟨p1, b1, ⟨hkf, hT, hz0, by omega, ⟨a1274, hf1275, hq1276, hA1277⟩, ⟨a1278, hf1279, hq1280, hA1281⟩, ⟨w1282, hg1283, by omega⟩, ⟨w1284, hg1285, by omega⟩, hg1286⟩, by omega, fun h => ⟨(hInv h).1, r8_x (hInv h).2 (by omega) (by omega)⟩⟩
          rw [hQ]
          exact W.vret hx hb hr (fun t ht hW => ⟨⟨(), rfl, trivial, ⟨by rw [ht]; exact hI, hN.warm hW, va_K.moved hW.alike hK⟩, by first | (rw [ht]; exact hpost) | exact hpost⟩, hS.F ht⟩) hS.2.2 dX12_readSum_37
  refine lv_aload_n hx hb dX12_readSum_0 rfl (lv_at hl 0 rfl) ?_
  refine lv_iload_n hx hb dX12_readSum_1 rfl (lv_at hl 1 rfl) ?_
  refine mx_v (As := [.int x1]) (rest := []) (n := 1) (d := (4 + 3 * k)) ⟨hx, hb, hml, hown, hts⟩ (c_X12_readTerm l E D G k h0 hG0 x1 ff cd TT pp bb dd (by first | decide | omega) (by omega) (by omega) hpart) wd_1599 wd_1601 wp_69 wd_13 wd_1602 (by decide +kernel) ⟨by rw [hR]; show (4 + 3 * k) + 1 ≤ 5 + 3 * k; omega, by rw [hR]; show 8 + (2 + 11) + 40 * ((4 + 3 * k)) ≤ 40 * (5 + 3 * k); omega⟩ hI hN hK hS hG0 (⟨hkf, hT, hz0, by omega, ⟨a1, hf2, hq3, hA4⟩, ⟨a5, hf6, hq7, hA8⟩, ⟨w9, hg10, by omega⟩, ⟨w11, hg12, by omega⟩, hg13⟩) rfl hl.1 rfl (Nat.le_of_ble_eq_true rfl) dX12_readSum_2 ⟨Nat.zero_le _, Nat.zero_le _⟩ (fun H locs hI hp hS => ?_)
  obtain ⟨pn1291, bn1292, hE, k1294, hi1293⟩ := hp
  obtain ⟨hkf, hT, hz0, k1308, ⟨a1295, hf1296, hq1297, hA1298⟩, ⟨a1299, hf1300, hq1301, hA1302⟩, ⟨w1303, hg1304, k1309⟩, ⟨w1305, hg1306, k1310⟩, hg1307⟩ := hE
  have hInv0 : bn1292.toInt = -1 → bb.toInt = -1 ∧ ∀ r, Gr (rC cd TT) 8 dd pn1291 r → Gr (rC cd TT) 2 dd pp r := fun h => ⟨(hi1293 h).1, r8_i (hi1293 h).2⟩
  exact J_5 _ H locs ls  pn1291 bn1292 rfl (lv_sub hl [0, 1] rfl) ⟨by omega, by omega⟩ (by omega) (hInv0) (⟨hkf, hT, hz0, by omega, ⟨a1295, hf1296, hq1297, hA1298⟩, ⟨a1299, hf1300, hq1301, hA1302⟩, ⟨w1303, hg1304, by omega⟩, ⟨w1305, hg1306, by omega⟩, hg1307⟩) hI hS
theorem dX12_readPart_0 : decode cX12_readPart 0 = .ok (.aload_n 0, 1) := by decide +kernel
theorem dX12_readPart_1 : decode cX12_readPart 1 = .ok (.invokevirtual 162, 3) := by decide +kernel
theorem dX12_readPart_4 : decode cX12_readPart 4 = .ok (.ifCond .ne 4, 3) := by decide +kernel
theorem dX12_readPart_7 : decode cX12_readPart 7 = .ok (.return_, 1) := by decide +kernel
theorem dX12_readPart_8 : decode cX12_readPart 8 = .ok (.aload_n 0, 1) := by decide +kernel
theorem dX12_readPart_9 : decode cX12_readPart 9 = .ok (.getfield 43, 3) := by decide +kernel
theorem dX12_readPart_12 : decode cX12_readPart 12 = .ok (.aload_n 0, 1) := by decide +kernel
theorem dX12_readPart_13 : decode cX12_readPart 13 = .ok (.getfield 166, 3) := by decide +kernel
theorem dX12_readPart_16 : decode cX12_readPart 16 = .ok (.iaload, 1) := by decide +kernel
theorem dX12_readPart_17 : decode cX12_readPart 17 = .ok (.istore_n 2, 1) := by decide +kernel
theorem dX12_readPart_18 : decode cX12_readPart 18 = .ok (.iload_n 2, 1) := by decide +kernel
theorem dX12_readPart_19 : decode cX12_readPart 19 = .ok (.bipush 91, 2) := by decide +kernel
theorem dX12_readPart_21 : decode cX12_readPart 21 = .ok (.invokestatic 194, 3) := by decide +kernel
theorem dX12_readPart_24 : decode cX12_readPart 24 = .ok (.if_icmp .ne 50, 3) := by decide +kernel
theorem dX12_readPart_27 : decode cX12_readPart 27 = .ok (.iload_n 1, 1) := by decide +kernel
theorem dX12_readPart_28 : decode cX12_readPart 28 = .ok (.bipush 8, 2) := by decide +kernel
theorem dX12_readPart_30 : decode cX12_readPart 30 = .ok (.if_icmp .ne 7, 3) := by decide +kernel
theorem dX12_readPart_33 : decode cX12_readPart 33 = .ok (.aload_n 0, 1) := by decide +kernel
theorem dX12_readPart_34 : decode cX12_readPart 34 = .ok (.invokevirtual 172, 3) := by decide +kernel
theorem dX12_readPart_37 : decode cX12_readPart 37 = .ok (.aload_n 0, 1) := by decide +kernel
theorem dX12_readPart_38 : decode cX12_readPart 38 = .ok (.invokevirtual 162, 3) := by decide +kernel
theorem dX12_readPart_41 : decode cX12_readPart 41 = .ok (.ifCond .ne 4, 3) := by decide +kernel
theorem dX12_readPart_44 : decode cX12_readPart 44 = .ok (.return_, 1) := by decide +kernel
theorem dX12_readPart_45 : decode cX12_readPart 45 = .ok (.aload_n 0, 1) := by decide +kernel
theorem dX12_readPart_46 : decode cX12_readPart 46 = .ok (.dup, 1) := by decide +kernel
theorem dX12_readPart_47 : decode cX12_readPart 47 = .ok (.getfield 166, 3) := by decide +kernel
theorem dX12_readPart_50 : decode cX12_readPart 50 = .ok (.iconst 1, 1) := by decide +kernel
theorem dX12_readPart_51 : decode cX12_readPart 51 = .ok (.iadd, 1) := by decide +kernel
theorem dX12_readPart_52 : decode cX12_readPart 52 = .ok (.putfield 166, 3) := by decide +kernel
theorem dX12_readPart_55 : decode cX12_readPart 55 = .ok (.aload_n 0, 1) := by decide +kernel
theorem dX12_readPart_56 : decode cX12_readPart 56 = .ok (.iload_n 1, 1) := by decide +kernel
theorem dX12_readPart_57 : decode cX12_readPart 57 = .ok (.iconst 1, 1) := by decide +kernel
theorem dX12_readPart_58 : decode cX12_readPart 58 = .ok (.iadd, 1) := by decide +kernel
theorem dX12_readPart_59 : decode cX12_readPart 59 = .ok (.invokevirtual 178, 3) := by decide +kernel
theorem dX12_readPart_62 : decode cX12_readPart 62 = .ok (.aload_n 0, 1) := by decide +kernel
theorem dX12_readPart_63 : decode cX12_readPart 63 = .ok (.bipush 93, 2) := by decide +kernel
theorem dX12_readPart_65 : decode cX12_readPart 65 = .ok (.invokestatic 194, 3) := by decide +kernel
theorem dX12_readPart_68 : decode cX12_readPart 68 = .ok (.invokevirtual 182, 3) := by decide +kernel
theorem dX12_readPart_71 : decode cX12_readPart 71 = .ok (.goto 47, 3) := by decide +kernel
theorem dX12_readPart_74 : decode cX12_readPart 74 = .ok (.iload_n 2, 1) := by decide +kernel
theorem dX12_readPart_75 : decode cX12_readPart 75 = .ok (.bipush 50, 2) := by decide +kernel
theorem dX12_readPart_77 : decode cX12_readPart 77 = .ok (.if_icmp .ne 18, 3) := by decide +kernel
theorem dX12_readPart_80 : decode cX12_readPart 80 = .ok (.aload_n 0, 1) := by decide +kernel
theorem dX12_readPart_81 : decode cX12_readPart 81 = .ok (.getfield 46, 3) := by decide +kernel
theorem dX12_readPart_84 : decode cX12_readPart 84 = .ok (.aload_n 0, 1) := by decide +kernel
theorem dX12_readPart_85 : decode cX12_readPart 85 = .ok (.getfield 166, 3) := by decide +kernel
theorem dX12_readPart_88 : decode cX12_readPart 88 = .ok (.iaload, 1) := by decide +kernel
theorem dX12_readPart_89 : decode cX12_readPart 89 = .ok (.sipush 1000, 3) := by decide +kernel
theorem dX12_readPart_92 : decode cX12_readPart 92 = .ok (.if_icmp .le 15, 3) := by decide +kernel
theorem dX12_readPart_95 : decode cX12_readPart 95 = .ok (.iload_n 2, 1) := by decide +kernel
theorem dX12_readPart_96 : decode cX12_readPart 96 = .ok (.bipush 9, 2) := by decide +kernel
theorem dX12_readPart_98 : decode cX12_readPart 98 = .ok (.if_icmp .lt 16, 3) := by decide +kernel
theorem dX12_readPart_101 : decode cX12_readPart 101 = .ok (.iload_n 2, 1) := by decide +kernel
theorem dX12_readPart_102 : decode cX12_readPart 102 = .ok (.bipush 17, 2) := by decide +kernel
theorem dX12_readPart_104 : decode cX12_readPart 104 = .ok (.if_icmp .gt 10, 3) := by decide +kernel
theorem dX12_readPart_107 : decode cX12_readPart 107 = .ok (.aload_n 0, 1) := by decide +kernel
theorem dX12_readPart_108 : decode cX12_readPart 108 = .ok (.invokevirtual 204, 3) := by decide +kernel
theorem dX12_readPart_111 : decode cX12_readPart 111 = .ok (.goto 7, 3) := by decide +kernel
theorem dX12_readPart_114 : decode cX12_readPart 114 = .ok (.aload_n 0, 1) := by decide +kernel
theorem dX12_readPart_115 : decode cX12_readPart 115 = .ok (.invokevirtual 172, 3) := by decide +kernel
theorem dX12_readPart_118 : decode cX12_readPart 118 = .ok (.return_, 1) := by decide +kernel
set_option maxHeartbeats 4000000 in
set_option maxRecDepth 100000 in
theorem c_X12_readPart (l : Launch) (E : Nat → Nat) (D : va_G) (G : th_G) (k : Nat) : ∀ (h0 : Nat) (hG0 : G h0 = some (10, 0)) (x1 : Int32) (ff cd : Nat → Int32) (TT pp : Nat) (bb : Int32) (dd : Nat) (hdd : x1.toInt = (dd : Int)) (hd8 : dd ≤ 8) (hk : 8 ≤ dd + k), Met l yX12_readPart (tb (.code yX12_readPart cX12_readPart 3 none)) (rm (3 + 3 * k)) (va_Pc [.ref h0, .int x1] (PX E D G (fun H => RD E D G h0 ff cd TT pp bb H))) (QXv E D G (fun H => ∃ (p2 : Nat) (b2 : Int32), RD E D G h0 ff cd TT p2 b2 H ∧ pp ≤ p2 ∧ (b2.toInt = -1 → bb.toInt = -1 ∧ Gr (rC cd TT) 0 dd pp p2))) 0 0 (th_A G) := by
  induction k using Nat.strongRecOn with
  | ind k ih =>
  intro h0 hG0 x1 ff cd TT pp bb dd hdd hd8 hk
  refine Met.ofW (cc := cX12_readPart) (maxL := 3) (ret := none) (by decide) rfl ?_
  intro p e s m args below meth c s₁ B hml hv
  obtain ⟨hav, ⟨hI, hN, hK⟩, hX⟩ := hv
  have hx := B.exec
  have hb := B.bytes
  have hr := B.returns
  have hts := atoms_spec (ws := tb (.code yX12_readPart cX12_readPart 3 none)) B.pre
  have hown : s.vm.findClass RX12 = some m.cls := findClass_of_methodNamed B.named
  have hlocks := B.notSynchronized
  have hS : va_S (th_A G) s.heap s.heap [] := va_S.rf
  have hl := lv_entry ([.ref h0, .int x1]) (n := 3) (Nat.le_of_ble_eq_true rfl)
  rw [show entryFrame m args 3 = entryFrame m ([.ref h0, .int x1] : List Value).toArray 3 from by rw [hav], lg_entry_eq]
  generalize (lg_sl ([.ref h0, .int x1]) ++ List.replicate (3 - (lg_sl ([.ref h0, .int x1])).length) Slot.unset).toArray = ls at hl ⊢
  have hl : lv_has ls 3 [(0, .ref h0), (1, .int x1)] := hl
  generalize hR : (headSpec (tb (.code yX12_readPart cX12_readPart 3 none)) (rm (3 + 3 * k))).room = R
  have hR := hR.symm
  generalize hQ : MQ below (QXv E D G (fun H => ∃ (p2 : Nat) (b2 : Int32), RD E D G h0 ff cd TT p2 b2 H ∧ pp ≤ p2 ∧ (b2.toInt = -1 → bb.toInt = -1 ∧ Gr (rC cd TT) 0 dd pp p2))) args s 0 0 (th_A G) = QF
  have hQ := hQ.symm
  obtain ⟨hkf, hT, hz0, k14, ⟨a1, hf2, hq3, hA4⟩, ⟨a5, hf6, hq7, hA8⟩, ⟨w9, hg10, k15⟩, ⟨w11, hg12, k16⟩, hg13⟩ := hX
  refine lv_aload_n hx hb dX12_readPart_0 rfl (lv_at hl 0 rfl) ?_
  refine mr_i (As := []) (rest := []) (n := 0) (d := 0) ⟨hx, hb, hml, hown, hts⟩ (c_X12_fine l E D G s.heap h0 hG0  ff cd TT pp bb ⟨hkf, hT, hz0, by omega, ⟨a1, hf2, hq3, hA4⟩, ⟨a5, hf6, hq7, hA8⟩, ⟨w9, hg10, by omega⟩, ⟨w11, hg12, by omega⟩, hg13⟩) wd_1591 wd_1593 wp_67 wd_13 wd_1594 (by decide +kernel) ⟨by rw [hR]; show 0 + 1 ≤ 3 + 3 * k; omega, by rw [hR]; show 8 + (1 + 11) + 40 * (0) ≤ 40 * (3 + 3 * k); omega⟩ hI hN hK hS hG0 rfl hl.1 rfl (Nat.le_of_ble_eq_true rfl) dX12_readPart_1 ⟨Nat.zero_le _, Nat.zero_le _⟩ (fun r17 locs hp hS => ?_)
  rcases hp with ⟨rfl, hp⟩ | ⟨rfl, hp⟩
  · skip
    try simp only [rg, not_and, Int.not_le] at hp
    have hp18 := hp
    refine lv_if_ne (tgt := 8) hx hb dX12_readPart_4 (by decide) (fun _ => ?_) (fun c => absurd c (by decide))
    refine lv_aload_n hx hb dX12_readPart_8 rfl (lv_at hl 0 rfl) ?_
    refine gmA hx hb hts inT12 hown hK hI List.not_mem_nil hG0 12 (by decide) (hts _ (tb_c wd_1245)) rfl rfl dX12_readPart_9 (fun a19 hq20 hf21 => ?_)
    obtain rfl := fr.uniq (by decide) hf6 hf21
    refine lv_aload_n hx hb dX12_readPart_12 rfl (lv_at hl 0 rfl) ?_
    refine gmI hx hb hts inT12 hown hK hI List.not_mem_nil hG0 16 (by decide) (hts _ (tb_c wd_1249)) rfl rfl dX12_readPart_13 (fun w22 hg23 k24 k25 => ?_)
    obtain rfl := gf.uniq (by decide) hg12 hg23
    refine th_iald hx hb hK hA8 0 rfl (iv_in (X := w11.toInt) rfl (by omega) (by omega)) dX12_readPart_16 (fun v26 e27 => ?_)
    have hrc := rC_rd (TT := TT) e27 (j := pp) (by omega) (by omega) hz0
    refine lv_istore_n (lv' := [(2, .int v26), (0, .ref h0), (1, .int x1)]) hx hb dX12_readPart_17 rfl hl (by decide) rfl (fun ls hl => ?_)
    refine lv_iload_n hx hb dX12_readPart_18 rfl (lv_at hl 0 rfl) ?_
    refine lv_bipush (v := 91) hx hb dX12_readPart_19 (by decide) ?_
    refine th_cSs (As := [.int 91]) (rest := [.int v26]) (n := 1) (d := 0) ⟨hx, hb, hml, hown, hts⟩ (c_X12_sign l s.heap 91) wd_1495 wd_1496 wd_13 wd_1497 (by decide +kernel) ⟨by rw [hR]; show 0 + 1 ≤ 3 + 3 * k; omega, by rw [hR]; show 8 + (1 + 11) + 40 * (0) ≤ 40 * (3 + 3 * k); omega⟩ hN hS rfl hl.1 rfl (Nat.le_of_ble_eq_true rfl) dX12_readPart_21 ⟨Nat.zero_le _, Nat.zero_le _⟩ (fun r28 locs hp hS => ?_)
    obtain rfl : r28 = 191 := hp.trans (by decide)
    have k29 := iv_lo v26
    have k30 := iv_hi v26
    refine lv_icmp_ne (tgt := 74) hx hb dX12_readPart_24 (by decide) (fun c31 => ?_) (fun c31 => ?_)
    · skip
      have k32 := iv_ne (X := v26.toInt) (Y := (191)) rfl (by decide) c31
      refine lv_iload_n hx hb dX12_readPart_74 rfl (lv_at hl 0 rfl) ?_
      refine lv_bipush (v := 50) hx hb dX12_readPart_75 (by decide) ?_
      refine lv_icmp_ne (tgt := 95) hx hb dX12_readPart_77 (by decide) (fun c33 => ?_) (fun c33 => ?_)
      · skip
        have k34 := iv_ne (X := v26.toInt) (Y := (50)) rfl (by decide) c33
        refine lv_iload_n hx hb dX12_readPart_95 rfl (lv_at hl 0 rfl) ?_
        refine lv_bipush (v := 9) hx hb dX12_readPart_96 (by decide) ?_
        refine lv_icmp_lt (tgt := 114) hx hb dX12_readPart_98 (by decide) (fun c35 => ?_) (fun c35 => ?_)
        · skip
          have k36 := iv_lt (X := v26.toInt) (Y := (9)) rfl (by decide) c35
          refine lv_aload_n hx hb dX12_readPart_114 rfl (lv_at hl 1 rfl) ?_
          refine mx_v (As := []) (rest := []) (n := 0) (d := 1) ⟨hx, hb, hml, hown, hts⟩ (c_X12_faults l E D G h0 hG0  ff cd TT pp bb) wd_1607 wd_1609 wp_71 wd_13 wd_1610 (by decide +kernel) ⟨by rw [hR]; show 1 + 1 ≤ 3 + 3 * k; omega, by rw [hR]; show 8 + (1 + 11) + 40 * (1) ≤ 40 * (3 + 3 * k); omega⟩ hI hN hK hS hG0 (⟨hkf, hT, hz0, by omega, ⟨a1, hf2, hq3, hA4⟩, ⟨a5, hf6, hq7, hA8⟩, ⟨w9, hg10, by omega⟩, ⟨w11, hg12, by omega⟩, hg13⟩) rfl hl.1 rfl (Nat.le_of_ble_eq_true rfl) dX12_readPart_115 ⟨Nat.zero_le _, Nat.zero_le _⟩ (fun H locs hI hp hS => ?_)
          obtain ⟨bn38, hb39, hE⟩ := hp
          obtain ⟨hkf, hT, hz0, k53, ⟨a40, hf41, hq42, hA43⟩, ⟨a44, hf45, hq46, hA47⟩, ⟨w48, hg49, k54⟩, ⟨w50, hg51, k55⟩, hg52⟩ := hE
          have hpost : ∃ (p2 : Nat) (b2 : Int32), RD E D G h0 ff cd TT p2 b2 H ∧ pp ≤ p2 ∧ (b2.toInt = -1 → bb.toInt = -1 ∧ Gr (rC cd TT) 0 dd pp p2) := ⟨pp, bn38, ⟨hkf, hT, hz0, by omega, ⟨a40, hf41, hq42, hA43⟩, ⟨a44, hf45, hq46, hA47⟩, ⟨w48, hg49, by omega⟩, ⟨w50, hg51, by omega⟩, hg52⟩, by omega, fun h => absurd h (by omega)⟩
          rw [hQ]
          exact W.vret hx hb hr (fun t ht hW => ⟨⟨(), rfl, trivial, ⟨by rw [ht]; exact hI, hN.warm hW, va_K.moved hW.alike hK⟩, by first | (rw [ht]; exact hpost) | exact hpost⟩, hS.F ht⟩) hS.2.2 dX12_readPart_118
        · skip
          have k56 := iv_nlt (X := v26.toInt) (Y := (9)) rfl (by decide) c35
          refine lv_iload_n hx hb dX12_readPart_101 rfl (lv_at hl 0 rfl) ?_
          refine lv_bipush (v := 17) hx hb dX12_readPart_102 (by decide) ?_
          refine lv_icmp_gt (tgt := 114) hx hb dX12_readPart_104 (by decide) (fun c57 => ?_) (fun c57 => ?_)
          · skip
            have k58 := iv_lt (X := (17)) (Y := v26.toInt) (by decide) rfl c57
            refine lv_aload_n hx hb dX12_readPart_114 rfl (lv_at hl 1 rfl) ?_
            refine mx_v (As := []) (rest := []) (n := 0) (d := 1) ⟨hx, hb, hml, hown, hts⟩ (c_X12_faults l E D G h0 hG0  ff cd TT pp bb) wd_1607 wd_1609 wp_71 wd_13 wd_1610 (by decide +kernel) ⟨by rw [hR]; show 1 + 1 ≤ 3 + 3 * k; omega, by rw [hR]; show 8 + (1 + 11) + 40 * (1) ≤ 40 * (3 + 3 * k); omega⟩ hI hN hK hS hG0 (⟨hkf, hT, hz0, by omega, ⟨a1, hf2, hq3, hA4⟩, ⟨a5, hf6, hq7, hA8⟩, ⟨w9, hg10, by omega⟩, ⟨w11, hg12, by omega⟩, hg13⟩) rfl hl.1 rfl (Nat.le_of_ble_eq_true rfl) dX12_readPart_115 ⟨Nat.zero_le _, Nat.zero_le _⟩ (fun H locs hI hp hS => ?_)
            obtain ⟨bn60, hb61, hE⟩ := hp
            obtain ⟨hkf, hT, hz0, k75, ⟨a62, hf63, hq64, hA65⟩, ⟨a66, hf67, hq68, hA69⟩, ⟨w70, hg71, k76⟩, ⟨w72, hg73, k77⟩, hg74⟩ := hE
            have hpost : ∃ (p2 : Nat) (b2 : Int32), RD E D G h0 ff cd TT p2 b2 H ∧ pp ≤ p2 ∧ (b2.toInt = -1 → bb.toInt = -1 ∧ Gr (rC cd TT) 0 dd pp p2) := ⟨pp, bn60, ⟨hkf, hT, hz0, by omega, ⟨a62, hf63, hq64, hA65⟩, ⟨a66, hf67, hq68, hA69⟩, ⟨w70, hg71, by omega⟩, ⟨w72, hg73, by omega⟩, hg74⟩, by omega, fun h => absurd h (by omega)⟩
            rw [hQ]
            exact W.vret hx hb hr (fun t ht hW => ⟨⟨(), rfl, trivial, ⟨by rw [ht]; exact hI, hN.warm hW, va_K.moved hW.alike hK⟩, by first | (rw [ht]; exact hpost) | exact hpost⟩, hS.F ht⟩) hS.2.2 dX12_readPart_118
          · skip
            have k78 := iv_nlt (X := (17)) (Y := v26.toInt) (by decide) rfl c57
            have hlt9 : pp < TT := rC_lt (cd := cd) (by omega)
            refine lv_aload_n hx hb dX12_readPart_107 rfl (lv_at hl 1 rfl) ?_
            refine mx_v (As := []) (rest := []) (n := 0) (d := 2) ⟨hx, hb, hml, hown, hts⟩ (c_X12_leaf l E D G h0 hG0  ff cd TT pp bb (by omega)) wd_1615 wd_1617 wp_73 wd_13 wd_1618 (by decide +kernel) ⟨by rw [hR]; show 2 + 1 ≤ 3 + 3 * k; omega, by rw [hR]; show 8 + (1 + 11) + 40 * (2) ≤ 40 * (3 + 3 * k); omega⟩ hI hN hK hS hG0 (⟨hkf, hT, hz0, by omega, ⟨a1, hf2, hq3, hA4⟩, ⟨a5, hf6, hq7, hA8⟩, ⟨w9, hg10, by omega⟩, ⟨w11, hg12, by omega⟩, hg13⟩) rfl hl.1 rfl (Nat.le_of_ble_eq_true rfl) dX12_readPart_108 ⟨Nat.zero_le _, Nat.zero_le _⟩ (fun H locs hI hp hS => ?_)
            obtain ⟨pn80, bn81, hE, k83, hi82⟩ := hp
            obtain ⟨hkf, hT, hz0, k97, ⟨a84, hf85, hq86, hA87⟩, ⟨a88, hf89, hq90, hA91⟩, ⟨w92, hg93, k98⟩, ⟨w94, hg95, k99⟩, hg96⟩ := hE
            refine lv_goto (tgt := 118) hx hb dX12_readPart_111 (by decide) ?_
            have hpost : ∃ (p2 : Nat) (b2 : Int32), RD E D G h0 ff cd TT p2 b2 H ∧ pp ≤ p2 ∧ (b2.toInt = -1 → bb.toInt = -1 ∧ Gr (rC cd TT) 0 dd pp p2) := ⟨pn80, bn81, ⟨hkf, hT, hz0, by omega, ⟨a84, hf85, hq86, hA87⟩, ⟨a88, hf89, hq90, hA91⟩, ⟨w92, hg93, by omega⟩, ⟨w94, hg95, by omega⟩, hg96⟩, by omega, fun h => ⟨(hi82 h).1, r0_lf (by omega) (hi82 h).2⟩⟩
            rw [hQ]
            exact W.vret hx hb hr (fun t ht hW => ⟨⟨(), rfl, trivial, ⟨by rw [ht]; exact hI, hN.warm hW, va_K.moved hW.alike hK⟩, by first | (rw [ht]; exact hpost) | exact hpost⟩, hS.F ht⟩) hS.2.2 dX12_readPart_118
      · skip
        have k100 := iv_eq (X := v26.toInt) (Y := (50)) rfl (by decide) c33
        refine lv_aload_n hx hb dX12_readPart_80 rfl (lv_at hl 1 rfl) ?_
        refine gmA hx hb hts inT12 hown hK hI List.not_mem_nil hG0 13 (by decide) (hts _ (tb_c wd_1246)) rfl rfl dX12_readPart_81 (fun a101 hq102 hf103 => ?_)
        refine lv_aload_n hx hb dX12_readPart_84 rfl (lv_at hl 1 rfl) ?_
        refine gmI hx hb hts inT12 hown hK hI List.not_mem_nil hG0 16 (by decide) (hts _ (tb_c wd_1249)) rfl rfl dX12_readPart_85 (fun w104 hg105 k106 k107 => ?_)
        obtain rfl := gf.uniq (by decide) hg12 hg105
        obtain ⟨F108, hA109⟩ := om_0 hI hq102 List.not_mem_nil
        refine th_iald hx hb hK hA109 0 rfl (iv_in (X := w11.toInt) rfl (by omega) (by omega)) dX12_readPart_88 (fun v110 e111 => ?_)
        refine lv_sipush (v := 1000) hx hb dX12_readPart_89 (by decide) ?_
        have k112 := iv_lo v110
        have k113 := iv_hi v110
        refine lv_icmp_le (tgt := 107) hx hb dX12_readPart_92 (by decide) (fun c114 => ?_) (fun c114 => ?_)
        · skip
          have k115 := iv_le (X := v110.toInt) (Y := (1000)) rfl (by decide) c114
          have hlt9 : pp < TT := rC_lt (cd := cd) (by omega)
          refine lv_aload_n hx hb dX12_readPart_107 rfl (lv_at hl 1 rfl) ?_
          refine mx_v (As := []) (rest := []) (n := 0) (d := 2) ⟨hx, hb, hml, hown, hts⟩ (c_X12_leaf l E D G h0 hG0  ff cd TT pp bb (by omega)) wd_1615 wd_1617 wp_73 wd_13 wd_1618 (by decide +kernel) ⟨by rw [hR]; show 2 + 1 ≤ 3 + 3 * k; omega, by rw [hR]; show 8 + (1 + 11) + 40 * (2) ≤ 40 * (3 + 3 * k); omega⟩ hI hN hK hS hG0 (⟨hkf, hT, hz0, by omega, ⟨a1, hf2, hq3, hA4⟩, ⟨a5, hf6, hq7, hA8⟩, ⟨w9, hg10, by omega⟩, ⟨w11, hg12, by omega⟩, hg13⟩) rfl hl.1 rfl (Nat.le_of_ble_eq_true rfl) dX12_readPart_108 ⟨Nat.zero_le _, Nat.zero_le _⟩ (fun H locs hI hp hS => ?_)
          obtain ⟨pn117, bn118, hE, k120, hi119⟩ := hp
          obtain ⟨hkf, hT, hz0, k134, ⟨a121, hf122, hq123, hA124⟩, ⟨a125, hf126, hq127, hA128⟩, ⟨w129, hg130, k135⟩, ⟨w131, hg132, k136⟩, hg133⟩ := hE
          refine lv_goto (tgt := 118) hx hb dX12_readPart_111 (by decide) ?_
          have hpost : ∃ (p2 : Nat) (b2 : Int32), RD E D G h0 ff cd TT p2 b2 H ∧ pp ≤ p2 ∧ (b2.toInt = -1 → bb.toInt = -1 ∧ Gr (rC cd TT) 0 dd pp p2) := ⟨pn117, bn118, ⟨hkf, hT, hz0, by omega, ⟨a121, hf122, hq123, hA124⟩, ⟨a125, hf126, hq127, hA128⟩, ⟨w129, hg130, by omega⟩, ⟨w131, hg132, by omega⟩, hg133⟩, by omega, fun h => ⟨(hi119 h).1, r0_lf (by omega) (hi119 h).2⟩⟩
          rw [hQ]
          exact W.vret hx hb hr (fun t ht hW => ⟨⟨(), rfl, trivial, ⟨by rw [ht]; exact hI, hN.warm hW, va_K.moved hW.alike hK⟩, by first | (rw [ht]; exact hpost) | exact hpost⟩, hS.F ht⟩) hS.2.2 dX12_readPart_118
        · skip
          have k137 := iv_nle (X := v110.toInt) (Y := (1000)) rfl (by decide) c114
          refine lv_iload_n hx hb dX12_readPart_95 rfl (lv_at hl 0 rfl) ?_
          refine lv_bipush (v := 9) hx hb dX12_readPart_96 (by decide) ?_
          refine lv_icmp_lt (tgt := 114) hx hb dX12_readPart_98 (by decide) (fun c138 => ?_) (fun c138 => ?_)
          · skip
            have k139 := iv_lt (X := v26.toInt) (Y := (9)) rfl (by decide) c138
            exfalso; omega
          · skip
            have k140 := iv_nlt (X := v26.toInt) (Y := (9)) rfl (by decide) c138
            refine lv_iload_n hx hb dX12_readPart_101 rfl (lv_at hl 0 rfl) ?_
            refine lv_bipush (v := 17) hx hb dX12_readPart_102 (by decide) ?_
            refine lv_icmp_gt (tgt := 114) hx hb dX12_readPart_104 (by decide) (fun c141 => ?_) (fun c141 => ?_)
            · skip
              have k142 := iv_lt (X := (17)) (Y := v26.toInt) (by decide) rfl c141
              refine lv_aload_n hx hb dX12_readPart_114 rfl (lv_at hl 1 rfl) ?_
              refine mx_v (As := []) (rest := []) (n := 0) (d := 1) ⟨hx, hb, hml, hown, hts⟩ (c_X12_faults l E D G h0 hG0  ff cd TT pp bb) wd_1607 wd_1609 wp_71 wd_13 wd_1610 (by decide +kernel) ⟨by rw [hR]; show 1 + 1 ≤ 3 + 3 * k; omega, by rw [hR]; show 8 + (1 + 11) + 40 * (1) ≤ 40 * (3 + 3 * k); omega⟩ hI hN hK hS hG0 (⟨hkf, hT, hz0, by omega, ⟨a1, hf2, hq3, hA4⟩, ⟨a5, hf6, hq7, hA8⟩, ⟨w9, hg10, by omega⟩, ⟨w11, hg12, by omega⟩, hg13⟩) rfl hl.1 rfl (Nat.le_of_ble_eq_true rfl) dX12_readPart_115 ⟨Nat.zero_le _, Nat.zero_le _⟩ (fun H locs hI hp hS => ?_)
              obtain ⟨bn144, hb145, hE⟩ := hp
              obtain ⟨hkf, hT, hz0, k159, ⟨a146, hf147, hq148, hA149⟩, ⟨a150, hf151, hq152, hA153⟩, ⟨w154, hg155, k160⟩, ⟨w156, hg157, k161⟩, hg158⟩ := hE
              have hpost : ∃ (p2 : Nat) (b2 : Int32), RD E D G h0 ff cd TT p2 b2 H ∧ pp ≤ p2 ∧ (b2.toInt = -1 → bb.toInt = -1 ∧ Gr (rC cd TT) 0 dd pp p2) := ⟨pp, bn144, ⟨hkf, hT, hz0, by omega, ⟨a146, hf147, hq148, hA149⟩, ⟨a150, hf151, hq152, hA153⟩, ⟨w154, hg155, by omega⟩, ⟨w156, hg157, by omega⟩, hg158⟩, by omega, fun h => absurd h (by omega)⟩
              rw [hQ]
              exact W.vret hx hb hr (fun t ht hW => ⟨⟨(), rfl, trivial, ⟨by rw [ht]; exact hI, hN.warm hW, va_K.moved hW.alike hK⟩, by first | (rw [ht]; exact hpost) | exact hpost⟩, hS.F ht⟩) hS.2.2 dX12_readPart_118
            · skip
              have k162 := iv_nlt (X := (17)) (Y := v26.toInt) (by decide) rfl c141
              exfalso; omega
    · skip
      have k163 := iv_eq (X := v26.toInt) (Y := (191)) rfl (by decide) c31
      refine lv_iload_n hx hb dX12_readPart_27 rfl (lv_at hl 2 rfl) ?_
      refine lv_bipush (v := 8) hx hb dX12_readPart_28 (by decide) ?_
      refine lv_icmp_ne (tgt := 37) hx hb dX12_readPart_30 (by decide) (fun c164 => ?_) (fun c164 => ?_)
      · skip
        have k165 := iv_ne (X := x1.toInt) (Y := (8)) rfl (by decide) c164
        refine lv_aload_n hx hb dX12_readPart_37 rfl (lv_at hl 1 rfl) ?_
        refine mr_i (As := []) (rest := []) (n := 0) (d := 0) ⟨hx, hb, hml, hown, hts⟩ (c_X12_fine l E D G s.heap h0 hG0  ff cd TT pp bb ⟨hkf, hT, hz0, by omega, ⟨a1, hf2, hq3, hA4⟩, ⟨a5, hf6, hq7, hA8⟩, ⟨w9, hg10, by omega⟩, ⟨w11, hg12, by omega⟩, hg13⟩) wd_1591 wd_1593 wp_67 wd_13 wd_1594 (by decide +kernel) ⟨by rw [hR]; show 0 + 1 ≤ 3 + 3 * k; omega, by rw [hR]; show 8 + (1 + 11) + 40 * (0) ≤ 40 * (3 + 3 * k); omega⟩ hI hN hK hS hG0 rfl hl.1 rfl (Nat.le_of_ble_eq_true rfl) dX12_readPart_38 ⟨Nat.zero_le _, Nat.zero_le _⟩ (fun r166 locs hp hS => ?_)
        rcases hp with ⟨rfl, hp⟩ | ⟨rfl, hp⟩
        · skip
          try simp only [rg, not_and, Int.not_le] at hp
          have hp167 := hp
          refine lv_if_ne (tgt := 45) hx hb dX12_readPart_41 (by decide) (fun _ => ?_) (fun c => absurd c (by decide))
          have hlt9 : pp < TT := rC_lt (cd := cd) (by omega)
          refine lv_aload_n hx hb dX12_readPart_45 rfl (lv_at hl 1 rfl) ?_
          refine lv_dup hx hb dX12_readPart_46 rfl ?_
          refine gmI hx hb hts inT12 hown hK hI List.not_mem_nil hG0 16 (by decide) (hts _ (tb_c wd_1249)) rfl rfl dX12_readPart_47 (fun w168 hg169 k170 k171 => ?_)
          obtain rfl := gf.uniq (by decide) hg12 hg169
          refine lv_iconst (v := 1) hx hb dX12_readPart_50 (by decide) ?_
          refine lv_iadd hx hb dX12_readPart_51 ?_
          refine lv_topi (fun v172 e173 => ?_)
          have tv172 : v172.toInt = w11.toInt + (1) := iv_add rfl (by decide) e173 (by omega) (by omega)
          refine pmI (ty := .int) hx hb hts inT12 hown hK hI List.not_mem_nil hG0 hS ⟨_, hG0⟩ 16 (by decide) (hts _ (tb_c wd_1249)) rfl rfl (by decide +kernel) rfl rfl rfl (by omega) (by omega) dX12_readPart_52 (fun H locs hI hgP hS => ?_)
          have hg10 := hgP.2.2.1 15 _ (by decide) (by decide) hg10
          have hg13 := hgP.2.2.1 18 _ (by decide) (by decide) hg13
          have hg174 := hgP.2.1
          have hf2 := hgP.2.2.2 3 _ (by decide) (by decide) hf2
          have hf6 := hgP.2.2.2 12 _ (by decide) (by decide) hf6
          have hA4 := va_at.kept hA4 (hgP.1 _ (m_ne hq3 hG0 (by first | decide | (dsimp only; decide))))
          have hA8 := va_at.kept hA8 (hgP.1 _ (m_ne hq7 hG0 (by first | decide | (dsimp only; decide))))
          refine lv_aload_n hx hb dX12_readPart_55 rfl (lv_at hl 1 rfl) ?_
          refine lv_iload_n hx hb dX12_readPart_56 rfl (lv_at hl 2 rfl) ?_
          refine lv_iconst (v := 1) hx hb dX12_readPart_57 (by decide) ?_
          refine lv_iadd hx hb dX12_readPart_58 ?_
          refine lv_topi (fun v175 e176 => ?_)
          have tv175 : v175.toInt = x1.toInt + (1) := iv_add rfl (by decide) e176 (by omega) (by omega)
          refine mx_v (As := [.int v175]) (rest := []) (n := 1) (d := (5 + 3 * (k - 1))) ⟨hx, hb, hml, hown, hts⟩ (c_X12_readSum l E D G (k - 1) h0 hG0 v175 ff cd TT (pp + 1) bb (dd + 1) (by first | decide | omega) (by omega) (by omega) (ih (k - 1) (by omega))) wd_1595 wd_1597 wp_68 wd_13 wd_1598 (by decide +kernel) ⟨by rw [hR]; show (5 + 3 * (k - 1)) + 1 ≤ 3 + 3 * k; omega, by rw [hR]; show 8 + (2 + 11) + 40 * ((5 + 3 * (k - 1))) ≤ 40 * (3 + 3 * k); omega⟩ hI hN hK hS hG0 (⟨hkf, hT, hz0, by omega, ⟨a1, hf2, hq3, hA4⟩, ⟨a5, hf6, hq7, hA8⟩, ⟨w9, hg10, by omega⟩, ⟨v172, hg174, by omega⟩, hg13⟩) rfl hl.1 rfl (Nat.le_of_ble_eq_true rfl) dX12_readPart_59 ⟨Nat.zero_le _, Nat.zero_le _⟩ (fun H locs hI hp hS => ?_)
          obtain ⟨pn178, bn179, hE, k181, hi180⟩ := hp
          obtain ⟨hkf, hT, hz0, k195, ⟨a182, hf183, hq184, hA185⟩, ⟨a186, hf187, hq188, hA189⟩, ⟨w190, hg191, k196⟩, ⟨w192, hg193, k197⟩, hg194⟩ := hE
          refine lv_aload_n hx hb dX12_readPart_62 rfl (lv_at hl 1 rfl) ?_
          refine lv_bipush (v := 93) hx hb dX12_readPart_63 (by decide) ?_
          refine th_cSs (As := [.int 93]) (rest := [.ref h0]) (n := 1) (d := 0) ⟨hx, hb, hml, hown, hts⟩ (c_X12_sign l H 93) wd_1495 wd_1496 wd_13 wd_1497 (by decide +kernel) ⟨by rw [hR]; show 0 + 1 ≤ 3 + 3 * k; omega, by rw [hR]; show 8 + (1 + 11) + 40 * (0) ≤ 40 * (3 + 3 * k); omega⟩ hN hS rfl hl.1 rfl (Nat.le_of_ble_eq_true rfl) dX12_readPart_65 ⟨Nat.zero_le _, Nat.zero_le _⟩ (fun r198 locs hp hS => ?_)
          obtain rfl : r198 = 193 := hp.trans (by decide)
          refine mx_v (As := [.int 193]) (rest := []) (n := 1) (d := 2) ⟨hx, hb, hml, hown, hts⟩ (c_X12_must l E D G h0 hG0 193 ff cd TT pn178 bn179 (by first | decide | omega)) wd_1611 wd_1613 wp_72 wd_13 wd_1614 (by decide +kernel) ⟨by rw [hR]; show 2 + 1 ≤ 3 + 3 * k; omega, by rw [hR]; show 8 + (2 + 11) + 40 * (2) ≤ 40 * (3 + 3 * k); omega⟩ hI hN hK hS hG0 (⟨hkf, hT, hz0, by omega, ⟨a182, hf183, hq184, hA185⟩, ⟨a186, hf187, hq188, hA189⟩, ⟨w190, hg191, by omega⟩, ⟨w192, hg193, by omega⟩, hg194⟩) rfl hl.1 rfl (Nat.le_of_ble_eq_true rfl) dX12_readPart_68 ⟨Nat.zero_le _, Nat.zero_le _⟩ (fun H locs hI hp hS => ?_)
          obtain ⟨pn200, bn201, hE, k203, hi202⟩ := hp
          obtain ⟨hkf, hT, hz0, k217, ⟨a204, hf205, hq206, hA207⟩, ⟨a208, hf209, hq210, hA211⟩, ⟨w212, hg213, k218⟩, ⟨w214, hg215, k219⟩, hg216⟩ := hE
          rw [show (193 : Int32).toInt = 193 from by decide] at hi202
          refine lv_goto (tgt := 118) hx hb dX12_readPart_71 (by decide) ?_
          have hpost : ∃ (p2 : Nat) (b2 : Int32), RD E D G h0 ff cd TT p2 b2 H ∧ pp ≤ p2 ∧ (b2.toInt = -1 → bb.toInt = -1 ∧ Gr (rC cd TT) 0 dd pp p2) := ⟨pn200, bn201, ⟨hkf, hT, hz0, by omega, ⟨a204, hf205, hq206, hA207⟩, ⟨a208, hf209, hq210, hA211⟩, ⟨w212, hg213, by omega⟩, ⟨w214, hg215, by omega⟩, hg216⟩, by omega, fun h => ⟨by omega, r0_br (by omega) (by omega) (hi180 (hi202 h).1).2 (hi202 h).2.1 (hi202 h).2.2⟩⟩
          rw [hQ]
          exact W.vret hx hb hr (fun t ht hW => ⟨⟨(), rfl, trivial, ⟨by rw [ht]; exact hI, hN.warm hW, va_K.moved hW.alike hK⟩, by first | (rw [ht]; exact hpost) | exact hpost⟩, hS.F ht⟩) hS.2.2 dX12_readPart_118
        · skip
          try simp only [rg, not_and, Int.not_le] at hp
          have hp220 := hp
          refine lv_if_ne (tgt := 45) hx hb dX12_readPart_41 (by decide) (fun c => absurd c (by decide)) (fun _ => ?_)
          have hpost : ∃ (p2 : Nat) (b2 : Int32), RD E D G h0 ff cd TT p2 b2 s.heap ∧ pp ≤ p2 ∧ (b2.toInt = -1 → bb.toInt = -1 ∧ Gr (rC cd TT) 0 dd pp p2) := ⟨pp, bb, ⟨hkf, hT, hz0, by omega, ⟨a1, hf2, hq3, hA4⟩, ⟨a5, hf6, hq7, hA8⟩, ⟨w9, hg10, by omega⟩, ⟨w11, hg12, by omega⟩, hg13⟩, by omega, fun h => absurd h (by omega)⟩
          rw [hQ]
          exact W.vret hx hb hr (fun t ht hW => ⟨⟨(), rfl, trivial, ⟨by rw [ht]; exact hI, hN.warm hW, va_K.moved hW.alike hK⟩, by first | (rw [ht]; exact hpost) | exact hpost⟩, hS.F ht⟩) hS.2.2 dX12_readPart_44
      · skip
        have k221 := iv_eq (X := x1.toInt) (Y := (8)) rfl (by decide) c164
        refine lv_aload_n hx hb dX12_readPart_33 rfl (lv_at hl 1 rfl) ?_
        refine mx_v (As := []) (rest := []) (n := 0) (d := 1) ⟨hx, hb, hml, hown, hts⟩ (c_X12_faults l E D G h0 hG0  ff cd TT pp bb) wd_1607 wd_1609 wp_71 wd_13 wd_1610 (by decide +kernel) ⟨by rw [hR]; show 1 + 1 ≤ 3 + 3 * k; omega, by rw [hR]; show 8 + (1 + 11) + 40 * (1) ≤ 40 * (3 + 3 * k); omega⟩ hI hN hK hS hG0 (⟨hkf, hT, hz0, by omega, ⟨a1, hf2, hq3, hA4⟩, ⟨a5, hf6, hq7, hA8⟩, ⟨w9, hg10, by omega⟩, ⟨w11, hg12, by omega⟩, hg13⟩) rfl hl.1 rfl (Nat.le_of_ble_eq_true rfl) dX12_readPart_34 ⟨Nat.zero_le _, Nat.zero_le _⟩ (fun H locs hI hp hS => ?_)
        obtain ⟨bn223, hb224, hE⟩ := hp
        obtain ⟨hkf, hT, hz0, k238, ⟨a225, hf226, hq227, hA228⟩, ⟨a229, hf230, hq231, hA232⟩, ⟨w233, hg234, k239⟩, ⟨w235, hg236, k240⟩, hg237⟩ := hE
        refine lv_aload_n hx hb dX12_readPart_37 rfl (lv_at hl 1 rfl) ?_
        refine mr_i (As := []) (rest := []) (n := 0) (d := 0) ⟨hx, hb, hml, hown, hts⟩ (c_X12_fine l E D G H h0 hG0  ff cd TT pp bn223 ⟨hkf, hT, hz0, by omega, ⟨a225, hf226, hq227, hA228⟩, ⟨a229, hf230, hq231, hA232⟩, ⟨w233, hg234, by omega⟩, ⟨w235, hg236, by omega⟩, hg237⟩) wd_1591 wd_1593 wp_67 wd_13 wd_1594 (by decide +kernel) ⟨by rw [hR]; show 0 + 1 ≤ 3 + 3 * k; omega, by rw [hR]; show 8 + (1 + 11) + 40 * (0) ≤ 40 * (3 + 3 * k); omega⟩ hI hN hK hS hG0 rfl hl.1 rfl (Nat.le_of_ble_eq_true rfl) dX12_readPart_38 ⟨Nat.zero_le _, Nat.zero_le _⟩ (fun r241 locs hp hS => ?_)
        rcases hp with ⟨rfl, hp⟩ | ⟨rfl, hp⟩
        · skip
          try simp only [rg, not_and, Int.not_le] at hp
          have hp242 := hp
          refine lv_if_ne (tgt := 45) hx hb dX12_readPart_41 (by decide) (fun _ => ?_) (fun c => absurd c (by decide))
          have hlt9 : pp < TT := rC_lt (cd := cd) (by omega)
          refine lv_aload_n hx hb dX12_readPart_45 rfl (lv_at hl 1 rfl) ?_
          refine lv_dup hx hb dX12_readPart_46 rfl ?_
          refine gmI hx hb hts inT12 hown hK hI List.not_mem_nil hG0 16 (by decide) (hts _ (tb_c wd_1249)) rfl rfl dX12_readPart_47 (fun w243 hg244 k245 k246 => ?_)
          obtain rfl := gf.uniq (by decide) hg236 hg244
          refine lv_iconst (v := 1) hx hb dX12_readPart_50 (by decide) ?_
          refine lv_iadd hx hb dX12_readPart_51 ?_
          refine lv_topi (fun v247 e248 => ?_)
          have tv247 : v247.toInt = w235.toInt + (1) := iv_add rfl (by decide) e248 (by omega) (by omega)
          refine pmI (ty := .int) hx hb hts inT12 hown hK hI List.not_mem_nil hG0 hS ⟨_, hG0⟩ 16 (by decide) (hts _ (tb_c wd_1249)) rfl rfl (by decide +kernel) rfl rfl rfl (by omega) (by omega) dX12_readPart_52 (fun H locs hI hgP hS => ?_)
          have hg234 := hgP.2.2.1 15 _ (by decide) (by decide) hg234
          have hg237 := hgP.2.2.1 18 _ (by decide) (by decide) hg237
          have hg249 := hgP.2.1
          have hf226 := hgP.2.2.2 3 _ (by decide) (by decide) hf226
          have hf230 := hgP.2.2.2 12 _ (by decide) (by decide) hf230
          have hA228 := va_at.kept hA228 (hgP.1 _ (m_ne hq227 hG0 (by first | decide | (dsimp only; decide))))
          have hA232 := va_at.kept hA232 (hgP.1 _ (m_ne hq231 hG0 (by first | decide | (dsimp only; decide))))
          refine lv_aload_n hx hb dX12_readPart_55 rfl (lv_at hl 1 rfl) ?_
          refine lv_iload_n hx hb dX12_readPart_56 rfl (lv_at hl 2 rfl) ?_
          refine lv_iconst (v := 1) hx hb dX12_readPart_57 (by decide) ?_
          refine lv_iadd hx hb dX12_readPart_58 ?_
          refine lv_topi (fun v250 e251 => ?_)
          have tv250 : v250.toInt = x1.toInt + (1) := iv_add rfl (by decide) e251 (by omega) (by omega)
          refine mx_v (As := [.int v250]) (rest := []) (n := 1) (d := (5 + 3 * (k - 1))) ⟨hx, hb, hml, hown, hts⟩ (c_X12_readSum l E D G (k - 1) h0 hG0 v250 ff cd TT (pp + 1) bn223 (dd + 1) (by first | decide | omega) (by omega) (by omega) (ih (k - 1) (by omega))) wd_1595 wd_1597 wp_68 wd_13 wd_1598 (by decide +kernel) ⟨by rw [hR]; show (5 + 3 * (k - 1)) + 1 ≤ 3 + 3 * k; omega, by rw [hR]; show 8 + (2 + 11) + 40 * ((5 + 3 * (k - 1))) ≤ 40 * (3 + 3 * k); omega⟩ hI hN hK hS hG0 (⟨hkf, hT, hz0, by omega, ⟨a225, hf226, hq227, hA228⟩, ⟨a229, hf230, hq231, hA232⟩, ⟨w233, hg234, by omega⟩, ⟨v247, hg249, by omega⟩, hg237⟩) rfl hl.1 rfl (Nat.le_of_ble_eq_true rfl) dX12_readPart_59 ⟨Nat.zero_le _, Nat.zero_le _⟩ (fun H locs hI hp hS => ?_)
          obtain ⟨pn253, bn254, hE, k256, hi255⟩ := hp
          obtain ⟨hkf, hT, hz0, k270, ⟨a257, hf258, hq259, hA260⟩, ⟨a261, hf262, hq263, hA264⟩, ⟨w265, hg266, k271⟩, ⟨w267, hg268, k272⟩, hg269⟩ := hE
          refine lv_aload_n hx hb dX12_readPart_62 rfl (lv_at hl 1 rfl) ?_
          refine lv_bipush (v := 93) hx hb dX12_readPart_63 (by decide) ?_
          refine th_cSs (As := [.int 93]) (rest := [.ref h0]) (n := 1) (d := 0) ⟨hx, hb, hml, hown, hts⟩ (c_X12_sign l H 93) wd_1495 wd_1496 wd_13 wd_1497 (by decide +kernel) ⟨by rw [hR]; show 0 + 1 ≤ 3 + 3 * k; omega, by rw [hR]; show 8 + (1 + 11) + 40 * (0) ≤ 40 * (3 + 3 * k); omega⟩ hN hS rfl hl.1 rfl (Nat.le_of_ble_eq_true rfl) dX12_readPart_65 ⟨Nat.zero_le _, Nat.zero_le _⟩ (fun r273 locs hp hS => ?_)
          obtain rfl : r273 = 193 := hp.trans (by decide)
          refine mx_v (As := [.int 193]) (rest := []) (n := 1) (d := 2) ⟨hx, hb, hml, hown, hts⟩ (c_X12_must l E D G h0 hG0 193 ff cd TT pn253 bn254 (by first | decide | omega)) wd_1611 wd_1613 wp_72 wd_13 wd_1614 (by decide +kernel) ⟨by rw [hR]; show 2 + 1 ≤ 3 + 3 * k; omega, by rw [hR]; show 8 + (2 + 11) + 40 * (2) ≤ 40 * (3 + 3 * k); omega⟩ hI hN hK hS hG0 (⟨hkf, hT, hz0, by omega, ⟨a257, hf258, hq259, hA260⟩, ⟨a261, hf262, hq263, hA264⟩, ⟨w265, hg266, by omega⟩, ⟨w267, hg268, by omega⟩, hg269⟩) rfl hl.1 rfl (Nat.le_of_ble_eq_true rfl) dX12_readPart_68 ⟨Nat.zero_le _, Nat.zero_le _⟩ (fun H locs hI hp hS => ?_)
          obtain ⟨pn275, bn276, hE, k278, hi277⟩ := hp
          obtain ⟨hkf, hT, hz0, k292, ⟨a279, hf280, hq281, hA282⟩, ⟨a283, hf284, hq285, hA286⟩, ⟨w287, hg288, k293⟩, ⟨w289, hg290, k294⟩, hg291⟩ := hE
          rw [show (193 : Int32).toInt = 193 from by decide] at hi277
          refine lv_goto (tgt := 118) hx hb dX12_readPart_71 (by decide) ?_
          have hpost : ∃ (p2 : Nat) (b2 : Int32), RD E D G h0 ff cd TT p2 b2 H ∧ pp ≤ p2 ∧ (b2.toInt = -1 → bb.toInt = -1 ∧ Gr (rC cd TT) 0 dd pp p2) := ⟨pn275, bn276, ⟨hkf, hT, hz0, by omega, ⟨a279, hf280, hq281, hA282⟩, ⟨a283, hf284, hq285, hA286⟩, ⟨w287, hg288, by omega⟩, ⟨w289, hg290, by omega⟩, hg291⟩, by omega, fun h => ⟨by omega, r0_br (by omega) (by omega) (hi255 (hi277 h).1).2 (hi277 h).2.1 (hi277 h).2.2⟩⟩
          rw [hQ]
          exact W.vret hx hb hr (fun t ht hW => ⟨⟨(), rfl, trivial, ⟨by rw [ht]; exact hI, hN.warm hW, va_K.moved hW.alike hK⟩, by first | (rw [ht]; exact hpost) | exact hpost⟩, hS.F ht⟩) hS.2.2 dX12_readPart_118
        · skip
          try simp only [rg, not_and, Int.not_le] at hp
          have hp295 := hp
          refine lv_if_ne (tgt := 45) hx hb dX12_readPart_41 (by decide) (fun c => absurd c (by decide)) (fun _ => ?_)
          have hpost : ∃ (p2 : Nat) (b2 : Int32), RD E D G h0 ff cd TT p2 b2 H ∧ pp ≤ p2 ∧ (b2.toInt = -1 → bb.toInt = -1 ∧ Gr (rC cd TT) 0 dd pp p2) := ⟨pp, bn223, ⟨hkf, hT, hz0, by omega, ⟨a225, hf226, hq227, hA228⟩, ⟨a229, hf230, hq231, hA232⟩, ⟨w233, hg234, by omega⟩, ⟨w235, hg236, by omega⟩, hg237⟩, by omega, fun h => absurd h (by omega)⟩
          rw [hQ]
          exact W.vret hx hb hr (fun t ht hW => ⟨⟨(), rfl, trivial, ⟨by rw [ht]; exact hI, hN.warm hW, va_K.moved hW.alike hK⟩, by first | (rw [ht]; exact hpost) | exact hpost⟩, hS.F ht⟩) hS.2.2 dX12_readPart_44
  · skip
    try simp only [rg, not_and, Int.not_le] at hp
    have hp296 := hp
    refine lv_if_ne (tgt := 8) hx hb dX12_readPart_4 (by decide) (fun c => absurd c (by decide)) (fun _ => ?_)
    have hpost : ∃ (p2 : Nat) (b2 : Int32), RD E D G h0 ff cd TT p2 b2 s.heap ∧ pp ≤ p2 ∧ (b2.toInt = -1 → bb.toInt = -1 ∧ Gr (rC cd TT) 0 dd pp p2) := ⟨pp, bb, ⟨hkf, hT, hz0, by omega, ⟨a1, hf2, hq3, hA4⟩, ⟨a5, hf6, hq7, hA8⟩, ⟨w9, hg10, by omega⟩, ⟨w11, hg12, by omega⟩, hg13⟩, by omega, fun h => absurd h (by omega)⟩
    rw [hQ]
    exact W.vret hx hb hr (fun t ht hW => ⟨⟨(), rfl, trivial, ⟨by rw [ht]; exact hI, hN.warm hW, va_K.moved hW.alike hK⟩, by first | (rw [ht]; exact hpost) | exact hpost⟩, hS.F ht⟩) hS.2.2 dX12_readPart_7
theorem dX12_readBoth_0 : decode cX12_readBoth 0 = .ok (.aload_n 0, 1) := by decide +kernel
theorem dX12_readBoth_1 : decode cX12_readBoth 1 = .ok (.iload_n 1, 1) := by decide +kernel
theorem dX12_readBoth_2 : decode cX12_readBoth 2 = .ok (.invokevirtual 191, 3) := by decide +kernel
theorem dX12_readBoth_5 : decode cX12_readBoth 5 = .ok (.aload_n 0, 1) := by decide +kernel
theorem dX12_readBoth_6 : decode cX12_readBoth 6 = .ok (.bipush 7, 2) := by decide +kernel
theorem dX12_readBoth_8 : decode cX12_readBoth 8 = .ok (.invokevirtual 169, 3) := by decide +kernel
theorem dX12_readBoth_11 : decode cX12_readBoth 11 = .ok (.ifCond .eq 11, 3) := by decide +kernel
theorem dX12_readBoth_14 : decode cX12_readBoth 14 = .ok (.aload_n 0, 1) := by decide +kernel
theorem dX12_readBoth_15 : decode cX12_readBoth 15 = .ok (.iload_n 1, 1) := by decide +kernel
theorem dX12_readBoth_16 : decode cX12_readBoth 16 = .ok (.invokevirtual 191, 3) := by decide +kernel
theorem dX12_readBoth_19 : decode cX12_readBoth 19 = .ok (.goto (-14), 3) := by decide +kernel
theorem dX12_readBoth_22 : decode cX12_readBoth 22 = .ok (.return_, 1) := by decide +kernel
set_option maxHeartbeats 4000000 in
set_option maxRecDepth 100000 in
theorem c_X12_readBoth (l : Launch) (E : Nat → Nat) (D : va_G) (G : th_G) (k : Nat) (h0 : Nat) (hG0 : G h0 = some (10, 0)) (x1 : Int32) (ff cd : Nat → Int32) (TT pp : Nat) (bb : Int32) (dd : Nat) (hdd : x1.toInt = (dd : Int)) (hd8 : dd ≤ 8) (hk : 8 ≤ dd + k) (hpl : ∀ (h0 : Nat) (hG0 : G h0 = some (10, 0)) (x1 : Int32) (ff cd : Nat → Int32) (TT pp : Nat) (bb : Int32) (dd : Nat) (hdd : x1.toInt = (dd : Int)) (hd8 : dd ≤ 8) (hk : 8 ≤ dd + k), Met l yX12_readPlain (tb (.code yX12_readPlain cX12_readPlain 4 none)) (rm (30 + 3 * k)) (va_Pc [.ref h0, .int x1] (PX E D G (fun H => RD E D G h0 ff cd TT pp bb H))) (QXv E D G (fun H => ∃ (p2 : Nat) (b2 : Int32), RD E D G h0 ff cd TT p2 b2 H ∧ pp ≤ p2 ∧ (b2.toInt = -1 → bb.toInt = -1 ∧ Gr (rC cd TT) 3 dd pp p2))) 0 0 (th_A G)) : Met l yX12_readBoth (tb (.code yX12_readBoth cX12_readBoth 2 none)) (rm (31 + 3 * k)) (va_Pc [.ref h0, .int x1] (PX E D G (fun H => RD E D G h0 ff cd TT pp bb H))) (QXv E D G (fun H => ∃ (p2 : Nat) (b2 : Int32), RD E D G h0 ff cd TT p2 b2 H ∧ pp ≤ p2 ∧ (b2.toInt = -1 → bb.toInt = -1 ∧ Gr (rC cd TT) 4 dd pp p2))) 0 0 (th_A G) := by
  refine Met.ofW (cc := cX12_readBoth) (maxL := 2) (ret := none) (by decide) rfl ?_
  intro p e s m args below meth c s₁ B hml hv
  obtain ⟨hav, ⟨hI, hN, hK⟩, hX⟩ := hv
  have hx := B.exec
  have hb := B.bytes
  have hr := B.returns
  have hts := atoms_spec (ws := tb (.code yX12_readBoth cX12_readBoth 2 none)) B.pre
  have hown : s.vm.findClass RX12 = some m.cls := findClass_of_methodNamed B.named
  have hlocks := B.notSynchronized
  have hS : va_S (th_A G) s.heap s.heap [] := va_S.rf
  have hl := lv_entry ([.ref h0, .int x1]) (n := 2) (Nat.le_of_ble_eq_true rfl)
  rw [show entryFrame m args 2 = entryFrame m ([.ref h0, .int x1] : List Value).toArray 2 from by rw [hav], lg_entry_eq]
  generalize (lg_sl ([.ref h0, .int x1]) ++ List.replicate (2 - (lg_sl ([.ref h0, .int x1])).length) Slot.unset).toArray = ls at hl ⊢
  have hl : lv_has ls 2 [(0, .ref h0), (1, .int x1)] := hl
  generalize hR : (headSpec (tb (.code yX12_readBoth cX12_readBoth 2 none)) (rm (31 + 3 * k))).room = R
  have hR := hR.symm
  generalize hQ : MQ below (QXv E D G (fun H => ∃ (p2 : Nat) (b2 : Int32), RD E D G h0 ff cd TT p2 b2 H ∧ pp ≤ p2 ∧ (b2.toInt = -1 → bb.toInt = -1 ∧ Gr (rC cd TT) 4 dd pp p2))) args s 0 0 (th_A G) = QF
  have hQ := hQ.symm
  obtain ⟨hkf, hT, hz0, k14, ⟨a1, hf2, hq3, hA4⟩, ⟨a5, hf6, hq7, hA8⟩, ⟨w9, hg10, k15⟩, ⟨w11, hg12, k16⟩, hg13⟩ := hX
  have J_5 : ∀ (nn : Nat) (H : Heap) (locs : List Loc) (ls : Array Slot)  (p1 : Nat) (b1 : Int32), (Int.toNat (((TT : Nat) : Int) - ((p1 : Nat) : Int)) = nn) → lv_has ls 2 [(0, .ref h0), (1, .int x1)] → ((0 : Int) ≤ x1.toInt ∧ x1.toInt ≤ 8) → (pp ≤ p1) → (b1.toInt = -1 → bb.toInt = -1 ∧ ∀ r, Gr (rC cd TT) 9 dd p1 r → Gr (rC cd TT) 4 dd pp r) → (RD E D G h0 ff cd TT p1 b1 H) → th_I (okM E) D G [] H → va_S (th_A G) s.heap H locs → W p l e R s m args below meth c H locs 0 0 QF (F0 m 5 ls []) := by
    intro nn
    induction nn using Nat.strongRecOn with
    | ind nn ih_5 =>
      intro H locs ls  p1 b1 hm hl k717 hle1 hInv hE hI hS
      obtain ⟨hkf, hT, hz0, k731, ⟨a718, hf719, hq720, hA721⟩, ⟨a722, hf723, hq724, hA725⟩, ⟨w726, hg727, k732⟩, ⟨w728, hg729, k733⟩, hg730⟩ := hE
      refine lv_aload_n hx hb dX12_readBoth_5 rfl (lv_at hl 0 rfl) ?_
      refine lv_bipush (v := 7) hx hb dX12_readBoth_6 (by decide) ?_
      refine mx_i (As := [.int 7]) (rest := []) (n := 1) (d := 1) ⟨hx, hb, hml, hown, hts⟩ (c_X12_takes0 l E D G h0 hG0 7 ff cd TT p1 b1 (by first | decide | omega)) wd_1587 wd_1589 wp_66 wd_13 wd_1590 (by decide +kernel) ⟨by rw [hR]; show 1 + 1 ≤ 31 + 3 * k; omega, by rw [hR]; show 8 + (3 + 11) + 40 * (1) ≤ 40 * (31 + 3 * k); omega⟩ hI hN hK hS hG0 (⟨hkf, hT, hz0, by omega, ⟨a718, hf719, hq720, hA721⟩, ⟨a722, hf723, hq724, hA725⟩, ⟨w726, hg727, by omega⟩, ⟨w728, hg729, by omega⟩, hg730⟩) rfl hl.1 rfl (Nat.le_of_ble_eq_true rfl) dX12_readBoth_8 ⟨Nat.zero_le _, Nat.zero_le _⟩ (fun r734 H locs hI hp hS => ?_)
      rcases hp with ⟨rfl, hp⟩ | ⟨rfl, hp⟩
      · skip
        try simp only [rg, not_and, Int.not_le] at hp
        have hp735 := hp
        obtain ⟨hb736, hc737, k738, hE⟩ := hp735
        have hp735 : True := trivial
        rw [show (7 : Int32).toInt = 7 from by decide] at hc737
        obtain ⟨hkf, hT, hz0, k752, ⟨a739, hf740, hq741, hA742⟩, ⟨a743, hf744, hq745, hA746⟩, ⟨w747, hg748, k753⟩, ⟨w749, hg750, k754⟩, hg751⟩ := hE
        try rw [show (7 : Int32).toInt = 7 from by decide] at hp735
        refine lv_if_eq (tgt := 22) hx hb dX12_readBoth_11 (by decide) (fun c => absurd c (by decide)) (fun _ => ?_)
        refine lv_aload_n hx hb dX12_readBoth_14 rfl (lv_at hl 0 rfl) ?_
        refine lv_iload_n hx hb dX12_readBoth_15 rfl (lv_at hl 1 rfl) ?_
        refine mx_v (As := [.int x1]) (rest := []) (n := 1) (d := (30 + 3 * k)) ⟨hx, hb, hml, hown, hts⟩ (hpl h0 hG0 x1 ff cd TT (p1 + 1) b1 dd (by first | decide | omega) (by omega) (by omega)) wd_1627 wd_1629 wp_76 wd_13 wd_1630 (by decide +kernel) ⟨by rw [hR]; show (30 + 3 * k) + 1 ≤ 31 + 3 * k; omega, by rw [hR]; show 8 + (4 + 11) + 40 * ((30 + 3 * k)) ≤ 40 * (31 + 3 * k); omega⟩ hI hN hK hS hG0 (⟨hkf, hT, hz0, by omega, ⟨a739, hf740, hq741, hA742⟩, ⟨a743, hf744, hq745, hA746⟩, ⟨w747, hg748, by omega⟩, ⟨w749, hg750, by omega⟩, hg751⟩) rfl hl.1 rfl (Nat.le_of_ble_eq_true rfl) dX12_readBoth_16 ⟨Nat.zero_le _, Nat.zero_le _⟩ (fun H locs hI hp hS => ?_)
        obtain ⟨pn756, bn757, hE, k759, hi758⟩ := hp
        obtain ⟨hkf, hT, hz0, k773, ⟨a760, hf761, hq762, hA763⟩, ⟨a764, hf765, hq766, hA767⟩, ⟨w768, hg769, k774⟩, ⟨w770, hg771, k775⟩, hg772⟩ := hE
        have hInv2 : bn757.toInt = -1 → bb.toInt = -1 ∧ ∀ r, Gr (rC cd TT) 9 dd pn756 r → Gr (rC cd TT) 4 dd pp r := fun h => ⟨(hInv hb736).1, r9_m (hInv hb736).2 (by omega) (hi758 h).2⟩
        refine lv_goto (tgt := 5) hx hb dX12_readBoth_19 (by decide) ?_
        exact ih_5 _ (by omega) H locs ls  pn756 bn757 rfl (lv_sub hl [0, 1] rfl) ⟨by omega, by omega⟩ (by omega) (hInv2) (⟨hkf, hT, hz0, by omega, ⟨a760, hf761, hq762, hA763⟩, ⟨a764, hf765, hq766, hA767⟩, ⟨w768, hg769, by omega⟩, ⟨w770, hg771, by omega⟩, hg772⟩) hI hS
      · skip
        try simp only [rg, not_and, Int.not_le] at hp
        have hp776 := hp
        obtain ⟨hc777, hE⟩ := hp776
        have hp776 : True := trivial
        rw [show (7 : Int32).toInt = 7 from by decide] at hc777
        obtain ⟨hkf, hT, hz0, k791, ⟨a778, hf779, hq780, hA781⟩, ⟨a782, hf783, hq784, hA785⟩, ⟨w786, hg787, k792⟩, ⟨w788, hg789, k793⟩, hg790⟩ := hE
        try rw [show (7 : Int32).toInt = 7 from by decide] at hp776
        refine lv_if_eq (tgt := 22) hx hb dX12_readBoth_11 (by decide) (fun _ => ?_) (fun c => absurd c (by decide))
        have hpost : ∃ (p2 : Nat) (b2 : Int32), RD E D G h0 ff cd TT p2 b2 H ∧ pp ≤ p2 ∧ (b2.toInt = -1 → bb.toInt = -1 ∧ Gr (rC cd TT) 4 dd pp p2) := ⟨p1, b1, ⟨hkf, hT, hz0, by omega, ⟨a778, hf779, hq780, hA781⟩, ⟨a782, hf783, hq784, hA785⟩, ⟨w786, hg787, by omega⟩, ⟨w788, hg789, by omega⟩, hg790⟩, by omega, fun h => ⟨(hInv h).1, r9_x (hInv h).2 (by omega)⟩⟩
        rw [hQ]
        exact W.vret hx hb hr (fun t ht hW => ⟨⟨(), rfl, trivial, ⟨by rw [ht]; exact hI, hN.warm hW, va_K.moved hW.alike hK⟩, by first | (rw [ht]; exact hpost) | exact hpost⟩, hS.F ht⟩) hS.2.2 dX12_readBoth_22
  refine lv_aload_n hx hb dX12_readBoth_0 rfl (lv_at hl 0 rfl) ?_
  refine lv_iload_n hx hb dX12_readBoth_1 rfl (lv_at hl 1 rfl) ?_
  refine mx_v (As := [.int x1]) (rest := []) (n := 1) (d := (30 + 3 * k)) ⟨hx, hb, hml, hown, hts⟩ (hpl h0 hG0 x1 ff cd TT pp bb dd (by first | decide | omega) (by omega) (by omega)) wd_1627 wd_1629 wp_76 wd_13 wd_1630 (by decide +kernel) ⟨by rw [hR]; show (30 + 3 * k) + 1 ≤ 31 + 3 * k; omega, by rw [hR]; show 8 + (4 + 11) + 40 * ((30 + 3 * k)) ≤ 40 * (31 + 3 * k); omega⟩ hI hN hK hS hG0 (⟨hkf, hT, hz0, by omega, ⟨a1, hf2, hq3, hA4⟩, ⟨a5, hf6, hq7, hA8⟩, ⟨w9, hg10, by omega⟩, ⟨w11, hg12, by omega⟩, hg13⟩) rfl hl.1 rfl (Nat.le_of_ble_eq_true rfl) dX12_readBoth_2 ⟨Nat.zero_le _, Nat.zero_le _⟩ (fun H locs hI hp hS => ?_)
  obtain ⟨pn795, bn796, hE, k798, hi797⟩ := hp
  obtain ⟨hkf, hT, hz0, k812, ⟨a799, hf800, hq801, hA802⟩, ⟨a803, hf804, hq805, hA806⟩, ⟨w807, hg808, k813⟩, ⟨w809, hg810, k814⟩, hg811⟩ := hE
  have hInv0 : bn796.toInt = -1 → bb.toInt = -1 ∧ ∀ r, Gr (rC cd TT) 9 dd pn795 r → Gr (rC cd TT) 4 dd pp r := fun h => ⟨(hi797 h).1, r9_i (hi797 h).2⟩
  exact J_5 _ H locs ls  pn795 bn796 rfl (lv_sub hl [0, 1] rfl) ⟨by omega, by omega⟩ (by omega) (hInv0) (⟨hkf, hT, hz0, by omega, ⟨a799, hf800, hq801, hA802⟩, ⟨a803, hf804, hq805, hA806⟩, ⟨w807, hg808, by omega⟩, ⟨w809, hg810, by omega⟩, hg811⟩) hI hS
theorem dX12_readTest_0 : decode cX12_readTest 0 = .ok (.aload_n 0, 1) := by decide +kernel
theorem dX12_readTest_1 : decode cX12_readTest 1 = .ok (.iload_n 1, 1) := by decide +kernel
theorem dX12_readTest_2 : decode cX12_readTest 2 = .ok (.invokevirtual 188, 3) := by decide +kernel
theorem dX12_readTest_5 : decode cX12_readTest 5 = .ok (.aload_n 0, 1) := by decide +kernel
theorem dX12_readTest_6 : decode cX12_readTest 6 = .ok (.bipush 6, 2) := by decide +kernel
theorem dX12_readTest_8 : decode cX12_readTest 8 = .ok (.invokevirtual 169, 3) := by decide +kernel
theorem dX12_readTest_11 : decode cX12_readTest 11 = .ok (.ifCond .eq 11, 3) := by decide +kernel
theorem dX12_readTest_14 : decode cX12_readTest 14 = .ok (.aload_n 0, 1) := by decide +kernel
theorem dX12_readTest_15 : decode cX12_readTest 15 = .ok (.iload_n 1, 1) := by decide +kernel
theorem dX12_readTest_16 : decode cX12_readTest 16 = .ok (.invokevirtual 188, 3) := by decide +kernel
theorem dX12_readTest_19 : decode cX12_readTest 19 = .ok (.goto (-14), 3) := by decide +kernel
theorem dX12_readTest_22 : decode cX12_readTest 22 = .ok (.return_, 1) := by decide +kernel
set_option maxHeartbeats 4000000 in
set_option maxRecDepth 100000 in
theorem c_X12_readTest (l : Launch) (E : Nat → Nat) (D : va_G) (G : th_G) (k : Nat) (h0 : Nat) (hG0 : G h0 = some (10, 0)) (x1 : Int32) (ff cd : Nat → Int32) (TT pp : Nat) (bb : Int32) (dd : Nat) (hdd : x1.toInt = (dd : Int)) (hd8 : dd ≤ 8) (hk : 8 ≤ dd + k) (hpl : ∀ (h0 : Nat) (hG0 : G h0 = some (10, 0)) (x1 : Int32) (ff cd : Nat → Int32) (TT pp : Nat) (bb : Int32) (dd : Nat) (hdd : x1.toInt = (dd : Int)) (hd8 : dd ≤ 8) (hk : 8 ≤ dd + k), Met l yX12_readPlain (tb (.code yX12_readPlain cX12_readPlain 4 none)) (rm (30 + 3 * k)) (va_Pc [.ref h0, .int x1] (PX E D G (fun H => RD E D G h0 ff cd TT pp bb H))) (QXv E D G (fun H => ∃ (p2 : Nat) (b2 : Int32), RD E D G h0 ff cd TT p2 b2 H ∧ pp ≤ p2 ∧ (b2.toInt = -1 → bb.toInt = -1 ∧ Gr (rC cd TT) 3 dd pp p2))) 0 0 (th_A G)) : Met l yX12_readTest (tb (.code yX12_readTest cX12_readTest 2 none)) (rm (32 + 3 * k)) (va_Pc [.ref h0, .int x1] (PX E D G (fun H => RD E D G h0 ff cd TT pp bb H))) (QXv E D G (fun H => ∃ (p2 : Nat) (b2 : Int32), RD E D G h0 ff cd TT p2 b2 H ∧ pp ≤ p2 ∧ (b2.toInt = -1 → bb.toInt = -1 ∧ Gr (rC cd TT) 5 dd pp p2))) 0 0 (th_A G) := by
  refine Met.ofW (cc := cX12_readTest) (maxL := 2) (ret := none) (by decide) rfl ?_
  intro p e s m args below meth c s₁ B hml hv
  obtain ⟨hav, ⟨hI, hN, hK⟩, hX⟩ := hv
  have hx := B.exec
  have hb := B.bytes
  have hr := B.returns
  have hts := atoms_spec (ws := tb (.code yX12_readTest cX12_readTest 2 none)) B.pre
  have hown : s.vm.findClass RX12 = some m.cls := findClass_of_methodNamed B.named
  have hlocks := B.notSynchronized
  have hS : va_S (th_A G) s.heap s.heap [] := va_S.rf
  have hl := lv_entry ([.ref h0, .int x1]) (n := 2) (Nat.le_of_ble_eq_true rfl)
  rw [show entryFrame m args 2 = entryFrame m ([.ref h0, .int x1] : List Value).toArray 2 from by rw [hav], lg_entry_eq]
  generalize (lg_sl ([.ref h0, .int x1]) ++ List.replicate (2 - (lg_sl ([.ref h0, .int x1])).length) Slot.unset).toArray = ls at hl ⊢
  have hl : lv_has ls 2 [(0, .ref h0), (1, .int x1)] := hl
  generalize hR : (headSpec (tb (.code yX12_readTest cX12_readTest 2 none)) (rm (32 + 3 * k))).room = R
  have hR := hR.symm
  generalize hQ : MQ below (QXv E D G (fun H => ∃ (p2 : Nat) (b2 : Int32), RD E D G h0 ff cd TT p2 b2 H ∧ pp ≤ p2 ∧ (b2.toInt = -1 → bb.toInt = -1 ∧ Gr (rC cd TT) 5 dd pp p2))) args s 0 0 (th_A G) = QF
  have hQ := hQ.symm
  obtain ⟨hkf, hT, hz0, k14, ⟨a1, hf2, hq3, hA4⟩, ⟨a5, hf6, hq7, hA8⟩, ⟨w9, hg10, k15⟩, ⟨w11, hg12, k16⟩, hg13⟩ := hX
  have J_5 : ∀ (nn : Nat) (H : Heap) (locs : List Loc) (ls : Array Slot)  (p1 : Nat) (b1 : Int32), (Int.toNat (((TT : Nat) : Int) - ((p1 : Nat) : Int)) = nn) → lv_has ls 2 [(0, .ref h0), (1, .int x1)] → ((0 : Int) ≤ x1.toInt ∧ x1.toInt ≤ 8) → (pp ≤ p1) → (b1.toInt = -1 → bb.toInt = -1 ∧ ∀ r, Gr (rC cd TT) 10 dd p1 r → Gr (rC cd TT) 5 dd pp r) → (RD E D G h0 ff cd TT p1 b1 H) → th_I (okM E) D G [] H → va_S (th_A G) s.heap H locs → W p l e R s m args below meth c H locs 0 0 QF (F0 m 5 ls []) := by
    intro nn
    induction nn using Nat.strongRecOn with
    | ind nn ih_5 =>
      intro H locs ls  p1 b1 hm hl k717 hle1 hInv hE hI hS
      obtain ⟨hkf, hT, hz0, k731, ⟨a718, hf719, hq720, hA721⟩, ⟨a722, hf723, hq724, hA725⟩, ⟨w726, hg727, k732⟩, ⟨w728, hg729, k733⟩, hg730⟩ := hE
      refine lv_aload_n hx hb dX12_readTest_5 rfl (lv_at hl 0 rfl) ?_
      refine lv_bipush (v := 6) hx hb dX12_readTest_6 (by decide) ?_
      refine mx_i (As := [.int 6]) (rest := []) (n := 1) (d := 1) ⟨hx, hb, hml, hown, hts⟩ (c_X12_takes0 l E D G h0 hG0 6 ff cd TT p1 b1 (by first | decide | omega)) wd_1587 wd_1589 wp_66 wd_13 wd_1590 (by decide +kernel) ⟨by rw [hR]; show 1 + 1 ≤ 32 + 3 * k; omega, by rw [hR]; show 8 + (3 + 11) + 40 * (1) ≤ 40 * (32 + 3 * k); omega⟩ hI hN hK hS hG0 (⟨hkf, hT, hz0, by omega, ⟨a718, hf719, hq720, hA721⟩, ⟨a722, hf723, hq724, hA725⟩, ⟨w726, hg727, by omega⟩, ⟨w728, hg729, by omega⟩, hg730⟩) rfl hl.1 rfl (Nat.le_of_ble_eq_true rfl) dX12_readTest_8 ⟨Nat.zero_le _, Nat.zero_le _⟩ (fun r734 H locs hI hp hS => ?_)
      rcases hp with ⟨rfl, hp⟩ | ⟨rfl, hp⟩
      · skip
        try simp only [rg, not_and, Int.not_le] at hp
        have hp735 := hp
        obtain ⟨hb736, hc737, k738, hE⟩ := hp735
        have hp735 : True := trivial
        rw [show (6 : Int32).toInt = 6 from by decide] at hc737
        obtain ⟨hkf, hT, hz0, k752, ⟨a739, hf740, hq741, hA742⟩, ⟨a743, hf744, hq745, hA746⟩, ⟨w747, hg748, k753⟩, ⟨w749, hg750, k754⟩, hg751⟩ := hE
        try rw [show (6 : Int32).toInt = 6 from by decide] at hp735
        refine lv_if_eq (tgt := 22) hx hb dX12_readTest_11 (by decide) (fun c => absurd c (by decide)) (fun _ => ?_)
        refine lv_aload_n hx hb dX12_readTest_14 rfl (lv_at hl 0 rfl) ?_
        refine lv_iload_n hx hb dX12_readTest_15 rfl (lv_at hl 1 rfl) ?_
        refine mx_v (As := [.int x1]) (rest := []) (n := 1) (d := (31 + 3 * k)) ⟨hx, hb, hml, hown, hts⟩ (c_X12_readBoth l E D G k h0 hG0 x1 ff cd TT (p1 + 1) b1 dd (by first | decide | omega) (by omega) (by omega) hpl) wd_1623 wd_1625 wp_75 wd_13 wd_1626 (by decide +kernel) ⟨by rw [hR]; show (31 + 3 * k) + 1 ≤ 32 + 3 * k; omega, by rw [hR]; show 8 + (2 + 11) + 40 * ((31 + 3 * k)) ≤ 40 * (32 + 3 * k); omega⟩ hI hN hK hS hG0 (⟨hkf, hT, hz0, by omega, ⟨a739, hf740, hq741, hA742⟩, ⟨a743, hf744, hq745, hA746⟩, ⟨w747, hg748, by omega⟩, ⟨w749, hg750, by omega⟩, hg751⟩) rfl hl.1 rfl (Nat.le_of_ble_eq_true rfl) dX12_readTest_16 ⟨Nat.zero_le _, Nat.zero_le _⟩ (fun H locs hI hp hS => ?_)
        obtain ⟨pn756, bn757, hE, k759, hi758⟩ := hp
        obtain ⟨hkf, hT, hz0, k773, ⟨a760, hf761, hq762, hA763⟩, ⟨a764, hf765, hq766, hA767⟩, ⟨w768, hg769, k774⟩, ⟨w770, hg771, k775⟩, hg772⟩ := hE
        have hInv2 : bn757.toInt = -1 → bb.toInt = -1 ∧ ∀ r, Gr (rC cd TT) 10 dd pn756 r → Gr (rC cd TT) 5 dd pp r := fun h => ⟨(hInv hb736).1, r10_m (hInv hb736).2 (by omega) (hi758 h).2⟩
        refine lv_goto (tgt := 5) hx hb dX12_readTest_19 (by decide) ?_
        exact ih_5 _ (by omega) H locs ls  pn756 bn757 rfl (lv_sub hl [0, 1] rfl) ⟨by omega, by omega⟩ (by omega) (hInv2) (⟨hkf, hT, hz0, by omega, ⟨a760, hf761, hq762, hA763⟩, ⟨a764, hf765, hq766, hA767⟩, ⟨w768, hg769, by omega⟩, ⟨w770, hg771, by omega⟩, hg772⟩) hI hS
      · skip
        try simp only [rg, not_and, Int.not_le] at hp
        have hp776 := hp
        obtain ⟨hc777, hE⟩ := hp776
        have hp776 : True := trivial
        rw [show (6 : Int32).toInt = 6 from by decide] at hc777
        obtain ⟨hkf, hT, hz0, k791, ⟨a778, hf779, hq780, hA781⟩, ⟨a782, hf783, hq784, hA785⟩, ⟨w786, hg787, k792⟩, ⟨w788, hg789, k793⟩, hg790⟩ := hE
        try rw [show (6 : Int32).toInt = 6 from by decide] at hp776
        refine lv_if_eq (tgt := 22) hx hb dX12_readTest_11 (by decide) (fun _ => ?_) (fun c => absurd c (by decide))
        have hpost : ∃ (p2 : Nat) (b2 : Int32), RD E D G h0 ff cd TT p2 b2 H ∧ pp ≤ p2 ∧ (b2.toInt = -1 → bb.toInt = -1 ∧ Gr (rC cd TT) 5 dd pp p2) := ⟨p1, b1, ⟨hkf, hT, hz0, by omega, ⟨a778, hf779, hq780, hA781⟩, ⟨a782, hf783, hq784, hA785⟩, ⟨w786, hg787, by omega⟩, ⟨w788, hg789, by omega⟩, hg790⟩, by omega, fun h => ⟨(hInv h).1, r10_x (hInv h).2 (by omega)⟩⟩
        rw [hQ]
        exact W.vret hx hb hr (fun t ht hW => ⟨⟨(), rfl, trivial, ⟨by rw [ht]; exact hI, hN.warm hW, va_K.moved hW.alike hK⟩, by first | (rw [ht]; exact hpost) | exact hpost⟩, hS.F ht⟩) hS.2.2 dX12_readTest_22
  refine lv_aload_n hx hb dX12_readTest_0 rfl (lv_at hl 0 rfl) ?_
  refine lv_iload_n hx hb dX12_readTest_1 rfl (lv_at hl 1 rfl) ?_
  refine mx_v (As := [.int x1]) (rest := []) (n := 1) (d := (31 + 3 * k)) ⟨hx, hb, hml, hown, hts⟩ (c_X12_readBoth l E D G k h0 hG0 x1 ff cd TT pp bb dd (by first | decide | omega) (by omega) (by omega) hpl) wd_1623 wd_1625 wp_75 wd_13 wd_1626 (by decide +kernel) ⟨by rw [hR]; show (31 + 3 * k) + 1 ≤ 32 + 3 * k; omega, by rw [hR]; show 8 + (2 + 11) + 40 * ((31 + 3 * k)) ≤ 40 * (32 + 3 * k); omega⟩ hI hN hK hS hG0 (⟨hkf, hT, hz0, by omega, ⟨a1, hf2, hq3, hA4⟩, ⟨a5, hf6, hq7, hA8⟩, ⟨w9, hg10, by omega⟩, ⟨w11, hg12, by omega⟩, hg13⟩) rfl hl.1 rfl (Nat.le_of_ble_eq_true rfl) dX12_readTest_2 ⟨Nat.zero_le _, Nat.zero_le _⟩ (fun H locs hI hp hS => ?_)
  obtain ⟨pn795, bn796, hE, k798, hi797⟩ := hp
  obtain ⟨hkf, hT, hz0, k812, ⟨a799, hf800, hq801, hA802⟩, ⟨a803, hf804, hq805, hA806⟩, ⟨w807, hg808, k813⟩, ⟨w809, hg810, k814⟩, hg811⟩ := hE
  have hInv0 : bn796.toInt = -1 → bb.toInt = -1 ∧ ∀ r, Gr (rC cd TT) 10 dd pn795 r → Gr (rC cd TT) 5 dd pp r := fun h => ⟨(hi797 h).1, r10_i (hi797 h).2⟩
  exact J_5 _ H locs ls  pn795 bn796 rfl (lv_sub hl [0, 1] rfl) ⟨by omega, by omega⟩ (by omega) (hInv0) (⟨hkf, hT, hz0, by omega, ⟨a799, hf800, hq801, hA802⟩, ⟨a803, hf804, hq805, hA806⟩, ⟨w807, hg808, by omega⟩, ⟨w809, hg810, by omega⟩, hg811⟩) hI hS
theorem dX12_readPlain_0 : decode cX12_readPlain 0 = .ok (.iconst 1, 1) := by decide +kernel
theorem dX12_readPlain_1 : decode cX12_readPlain 1 = .ok (.istore_n 2, 1) := by decide +kernel
theorem dX12_readPlain_2 : decode cX12_readPlain 2 = .ok (.iload_n 2, 1) := by decide +kernel
theorem dX12_readPlain_3 : decode cX12_readPlain 3 = .ok (.ifCond .eq 13, 3) := by decide +kernel
theorem dX12_readPlain_6 : decode cX12_readPlain 6 = .ok (.aload_n 0, 1) := by decide +kernel
theorem dX12_readPlain_7 : decode cX12_readPlain 7 = .ok (.bipush 8, 2) := by decide +kernel
theorem dX12_readPlain_9 : decode cX12_readPlain 9 = .ok (.invokevirtual 169, 3) := by decide +kernel
theorem dX12_readPlain_12 : decode cX12_readPlain 12 = .ok (.istore_n 2, 1) := by decide +kernel
theorem dX12_readPlain_13 : decode cX12_readPlain 13 = .ok (.goto (-11), 3) := by decide +kernel
theorem dX12_readPlain_16 : decode cX12_readPlain 16 = .ok (.aload_n 0, 1) := by decide +kernel
theorem dX12_readPlain_17 : decode cX12_readPlain 17 = .ok (.invokevirtual 162, 3) := by decide +kernel
theorem dX12_readPlain_20 : decode cX12_readPlain 20 = .ok (.ifCond .ne 4, 3) := by decide +kernel
theorem dX12_readPlain_23 : decode cX12_readPlain 23 = .ok (.return_, 1) := by decide +kernel
theorem dX12_readPlain_24 : decode cX12_readPlain 24 = .ok (.aload_n 0, 1) := by decide +kernel
theorem dX12_readPlain_25 : decode cX12_readPlain 25 = .ok (.getfield 43, 3) := by decide +kernel
theorem dX12_readPlain_28 : decode cX12_readPlain 28 = .ok (.aload_n 0, 1) := by decide +kernel
theorem dX12_readPlain_29 : decode cX12_readPlain 29 = .ok (.getfield 166, 3) := by decide +kernel
theorem dX12_readPlain_32 : decode cX12_readPlain 32 = .ok (.iaload, 1) := by decide +kernel
theorem dX12_readPlain_33 : decode cX12_readPlain 33 = .ok (.istore_n 3, 1) := by decide +kernel
theorem dX12_readPlain_34 : decode cX12_readPlain 34 = .ok (.iload_n 3, 1) := by decide +kernel
theorem dX12_readPlain_35 : decode cX12_readPlain 35 = .ok (.bipush 40, 2) := by decide +kernel
theorem dX12_readPlain_37 : decode cX12_readPlain 37 = .ok (.invokestatic 194, 3) := by decide +kernel
theorem dX12_readPlain_40 : decode cX12_readPlain 40 = .ok (.if_icmp .ne 50, 3) := by decide +kernel
theorem dX12_readPlain_43 : decode cX12_readPlain 43 = .ok (.iload_n 1, 1) := by decide +kernel
theorem dX12_readPlain_44 : decode cX12_readPlain 44 = .ok (.bipush 8, 2) := by decide +kernel
theorem dX12_readPlain_46 : decode cX12_readPlain 46 = .ok (.if_icmp .ne 7, 3) := by decide +kernel
theorem dX12_readPlain_49 : decode cX12_readPlain 49 = .ok (.aload_n 0, 1) := by decide +kernel
theorem dX12_readPlain_50 : decode cX12_readPlain 50 = .ok (.invokevirtual 172, 3) := by decide +kernel
theorem dX12_readPlain_53 : decode cX12_readPlain 53 = .ok (.aload_n 0, 1) := by decide +kernel
theorem dX12_readPlain_54 : decode cX12_readPlain 54 = .ok (.invokevirtual 162, 3) := by decide +kernel
theorem dX12_readPlain_57 : decode cX12_readPlain 57 = .ok (.ifCond .ne 4, 3) := by decide +kernel
theorem dX12_readPlain_60 : decode cX12_readPlain 60 = .ok (.return_, 1) := by decide +kernel
theorem dX12_readPlain_61 : decode cX12_readPlain 61 = .ok (.aload_n 0, 1) := by decide +kernel
theorem dX12_readPlain_62 : decode cX12_readPlain 62 = .ok (.dup, 1) := by decide +kernel
theorem dX12_readPlain_63 : decode cX12_readPlain 63 = .ok (.getfield 166, 3) := by decide +kernel
theorem dX12_readPlain_66 : decode cX12_readPlain 66 = .ok (.iconst 1, 1) := by decide +kernel
theorem dX12_readPlain_67 : decode cX12_readPlain 67 = .ok (.iadd, 1) := by decide +kernel
theorem dX12_readPlain_68 : decode cX12_readPlain 68 = .ok (.putfield 166, 3) := by decide +kernel
theorem dX12_readPlain_71 : decode cX12_readPlain 71 = .ok (.aload_n 0, 1) := by decide +kernel
theorem dX12_readPlain_72 : decode cX12_readPlain 72 = .ok (.iload_n 1, 1) := by decide +kernel
theorem dX12_readPlain_73 : decode cX12_readPlain 73 = .ok (.iconst 1, 1) := by decide +kernel
theorem dX12_readPlain_74 : decode cX12_readPlain 74 = .ok (.iadd, 1) := by decide +kernel
theorem dX12_readPlain_75 : decode cX12_readPlain 75 = .ok (.invokevirtual 185, 3) := by decide +kernel
theorem dX12_readPlain_78 : decode cX12_readPlain 78 = .ok (.aload_n 0, 1) := by decide +kernel
theorem dX12_readPlain_79 : decode cX12_readPlain 79 = .ok (.bipush 41, 2) := by decide +kernel
theorem dX12_readPlain_81 : decode cX12_readPlain 81 = .ok (.invokestatic 194, 3) := by decide +kernel
theorem dX12_readPlain_84 : decode cX12_readPlain 84 = .ok (.invokevirtual 182, 3) := by decide +kernel
theorem dX12_readPlain_87 : decode cX12_readPlain 87 = .ok (.goto 46, 3) := by decide +kernel
theorem dX12_readPlain_90 : decode cX12_readPlain 90 = .ok (.aload_n 0, 1) := by decide +kernel
theorem dX12_readPlain_91 : decode cX12_readPlain 91 = .ok (.iload_n 1, 1) := by decide +kernel
theorem dX12_readPlain_92 : decode cX12_readPlain 92 = .ok (.invokevirtual 178, 3) := by decide +kernel
theorem dX12_readPlain_95 : decode cX12_readPlain 95 = .ok (.aload_n 0, 1) := by decide +kernel
theorem dX12_readPlain_96 : decode cX12_readPlain 96 = .ok (.bipush 60, 2) := by decide +kernel
theorem dX12_readPlain_98 : decode cX12_readPlain 98 = .ok (.invokestatic 194, 3) := by decide +kernel
theorem dX12_readPlain_101 : decode cX12_readPlain 101 = .ok (.invokevirtual 169, 3) := by decide +kernel
theorem dX12_readPlain_104 : decode cX12_readPlain 104 = .ok (.ifCond .ne 24, 3) := by decide +kernel
theorem dX12_readPlain_107 : decode cX12_readPlain 107 = .ok (.aload_n 0, 1) := by decide +kernel
theorem dX12_readPlain_108 : decode cX12_readPlain 108 = .ok (.bipush 62, 2) := by decide +kernel
theorem dX12_readPlain_110 : decode cX12_readPlain 110 = .ok (.invokestatic 194, 3) := by decide +kernel
theorem dX12_readPlain_113 : decode cX12_readPlain 113 = .ok (.invokevirtual 169, 3) := by decide +kernel
theorem dX12_readPlain_116 : decode cX12_readPlain 116 = .ok (.ifCond .ne 12, 3) := by decide +kernel
theorem dX12_readPlain_119 : decode cX12_readPlain 119 = .ok (.aload_n 0, 1) := by decide +kernel
theorem dX12_readPlain_120 : decode cX12_readPlain 120 = .ok (.bipush 61, 2) := by decide +kernel
theorem dX12_readPlain_122 : decode cX12_readPlain 122 = .ok (.invokestatic 194, 3) := by decide +kernel
theorem dX12_readPlain_125 : decode cX12_readPlain 125 = .ok (.invokevirtual 182, 3) := by decide +kernel
theorem dX12_readPlain_128 : decode cX12_readPlain 128 = .ok (.aload_n 0, 1) := by decide +kernel
theorem dX12_readPlain_129 : decode cX12_readPlain 129 = .ok (.iload_n 1, 1) := by decide +kernel
theorem dX12_readPlain_130 : decode cX12_readPlain 130 = .ok (.invokevirtual 178, 3) := by decide +kernel
theorem dX12_readPlain_133 : decode cX12_readPlain 133 = .ok (.return_, 1) := by decide +kernel
set_option maxHeartbeats 4000000 in
set_option maxRecDepth 100000 in
theorem c_X12_readPlain (l : Launch) (E : Nat → Nat) (D : va_G) (G : th_G) (k : Nat) : ∀ (h0 : Nat) (hG0 : G h0 = some (10, 0)) (x1 : Int32) (ff cd : Nat → Int32) (TT pp : Nat) (bb : Int32) (dd : Nat) (hdd : x1.toInt = (dd : Int)) (hd8 : dd ≤ 8) (hk : 8 ≤ dd + k), Met l yX12_readPlain (tb (.code yX12_readPlain cX12_readPlain 4 none)) (rm (30 + 3 * k)) (va_Pc [.ref h0, .int x1] (PX E D G (fun H => RD E D G h0 ff cd TT pp bb H))) (QXv E D G (fun H => ∃ (p2 : Nat) (b2 : Int32), RD E D G h0 ff cd TT p2 b2 H ∧ pp ≤ p2 ∧ (b2.toInt = -1 → bb.toInt = -1 ∧ Gr (rC cd TT) 3 dd pp p2))) 0 0 (th_A G) := by
  induction k using Nat.strongRecOn with
  | ind k ih =>
  intro h0 hG0 x1 ff cd TT pp bb dd hdd hd8 hk
  refine Met.ofW (cc := cX12_readPlain) (maxL := 4) (ret := none) (by decide) rfl ?_
  intro p e s m args below meth c s₁ B hml hv
  obtain ⟨hav, ⟨hI, hN, hK⟩, hX⟩ := hv
  have hx := B.exec
  have hb := B.bytes
  have hr := B.returns
  have hts := atoms_spec (ws := tb (.code yX12_readPlain cX12_readPlain 4 none)) B.pre
  have hown : s.vm.findClass RX12 = some m.cls := findClass_of_methodNamed B.named
  have hlocks := B.notSynchronized
  have hS : va_S (th_A G) s.heap s.heap [] := va_S.rf
  have hl := lv_entry ([.ref h0, .int x1]) (n := 4) (Nat.le_of_ble_eq_true rfl)
  rw [show entryFrame m args 4 = entryFrame m ([.ref h0, .int x1] : List Value).toArray 4 from by rw [hav], lg_entry_eq]
  generalize (lg_sl ([.ref h0, .int x1]) ++ List.replicate (4 - (lg_sl ([.ref h0, .int x1])).length) Slot.unset).toArray = ls at hl ⊢
  have hl : lv_has ls 4 [(0, .ref h0), (1, .int x1)] := hl
  generalize hR : (headSpec (tb (.code yX12_readPlain cX12_readPlain 4 none)) (rm (30 + 3 * k))).room = R
  have hR := hR.symm
  generalize hQ : MQ below (QXv E D G (fun H => ∃ (p2 : Nat) (b2 : Int32), RD E D G h0 ff cd TT p2 b2 H ∧ pp ≤ p2 ∧ (b2.toInt = -1 → bb.toInt = -1 ∧ Gr (rC cd TT) 3 dd pp p2))) args s 0 0 (th_A G) = QF
  have hQ := hQ.symm
  obtain ⟨hkf, hT, hz0, k14, ⟨a1, hf2, hq3, hA4⟩, ⟨a5, hf6, hq7, hA8⟩, ⟨w9, hg10, k15⟩, ⟨w11, hg12, k16⟩, hg13⟩ := hX
  have hInv0 : bb.toInt = -1 → bb.toInt = -1 ∧ ∀ r, Gr (rC cd TT) 3 dd pp r → Gr (rC cd TT) 3 dd pp r := fun h => ⟨h, fun r hr => hr⟩
  have J_2 : ∀ (nn : Nat) (H : Heap) (locs : List Loc) (ls : Array Slot) (v2837 : Int32) (p1 : Nat) (b1 : Int32), (Int.toNat (2 * (((TT : Nat) : Int) - ((p1 : Nat) : Int)) + v2837.toInt) = nn) → lv_has ls 4 [(2, .int v2837), (0, .ref h0), (1, .int x1)] → ((0 : Int) ≤ v2837.toInt ∧ v2837.toInt ≤ 1) → ((0 : Int) ≤ x1.toInt ∧ x1.toInt ≤ 8) → (pp ≤ p1) → (v2837.toInt = 1 ∨ b1.toInt ≠ -1 ∨ rC cd TT p1 ≠ 8) → (b1.toInt = -1 → bb.toInt = -1 ∧ ∀ r, Gr (rC cd TT) 3 dd p1 r → Gr (rC cd TT) 3 dd pp r) → (RD E D G h0 ff cd TT p1 b1 H) → th_I (okM E) D G [] H → va_S (th_A G) s.heap H locs → W p l e R s m args below meth c H locs 0 0 QF (F0 m 2 ls []) := by
    intro nn
    induction nn using Nat.strongRecOn with
    | ind nn ih_2 =>
      intro H locs ls v2837 p1 b1 hm hl k2838 k2839 hle1 hno hInv hE hI hS
      obtain ⟨hkf, hT, hz0, k2853, ⟨a2840, hf2841, hq2842, hA2843⟩, ⟨a2844, hf2845, hq2846, hA2847⟩, ⟨w2848, hg2849, k2854⟩, ⟨w2850, hg2851, k2855⟩, hg2852⟩ := hE
      refine lv_iload_n hx hb dX12_readPlain_2 rfl (lv_at hl 0 rfl) ?_
      refine lv_if_eq (tgt := 16) hx hb dX12_readPlain_3 (by decide) (fun c2856 => ?_) (fun c2856 => ?_)
      · skip
        have k2857 := iv_eq (X := v2837.toInt) (Y := (0)) rfl (by decide) c2856
        refine lv_aload_n hx hb dX12_readPlain_16 rfl (lv_at hl 1 rfl) ?_
        refine mr_i (As := []) (rest := []) (n := 0) (d := 0) ⟨hx, hb, hml, hown, hts⟩ (c_X12_fine l E D G H h0 hG0  ff cd TT p1 b1 ⟨hkf, hT, hz0, by omega, ⟨a2840, hf2841, hq2842, hA2843⟩, ⟨a2844, hf2845, hq2846, hA2847⟩, ⟨w2848, hg2849, by omega⟩, ⟨w2850, hg2851, by omega⟩, hg2852⟩) wd_1591 wd_1593 wp_67 wd_13 wd_1594 (by decide +kernel) ⟨by rw [hR]; show 0 + 1 ≤ 30 + 3 * k; omega, by rw [hR]; show 8 + (1 + 11) + 40 * (0) ≤ 40 * (30 + 3 * k); omega⟩ hI hN hK hS hG0 rfl hl.1 rfl (Nat.le_of_ble_eq_true rfl) dX12_readPlain_17 ⟨Nat.zero_le _, Nat.zero_le _⟩ (fun r2858 locs hp hS => ?_)
        rcases hp with ⟨rfl, hp⟩ | ⟨rfl, hp⟩
        · skip
          try simp only [rg, not_and, Int.not_le] at hp
          have hp2859 := hp
          refine lv_if_ne (tgt := 24) hx hb dX12_readPlain_20 (by decide) (fun _ => ?_) (fun c => absurd c (by decide))
          refine lv_aload_n hx hb dX12_readPlain_24 rfl (lv_at hl 1 rfl) ?_
          refine gmA hx hb hts inT12 hown hK hI List.not_mem_nil hG0 12 (by decide) (hts _ (tb_c wd_1245)) rfl rfl dX12_readPlain_25 (fun a2860 hq2861 hf2862 => ?_)
          obtain rfl := fr.uniq (by decide) hf2845 hf2862
          refine lv_aload_n hx hb dX12_readPlain_28 rfl (lv_at hl 1 rfl) ?_
          refine gmI hx hb hts inT12 hown hK hI List.not_mem_nil hG0 16 (by decide) (hts _ (tb_c wd_1249)) rfl rfl dX12_readPlain_29 (fun w2863 hg2864 k2865 k2866 => ?_)
          obtain rfl := gf.uniq (by decide) hg2851 hg2864
          refine th_iald hx hb hK hA2847 0 rfl (iv_in (X := w2850.toInt) rfl (by omega) (by omega)) dX12_readPlain_32 (fun v2867 e2868 => ?_)
          have hrc := rC_rd (TT := TT) e2868 (j := p1) (by omega) (by omega) hz0
          refine lv_istore_n (lv' := [(3, .int v2867), (2, .int v2837), (0, .ref h0), (1, .int x1)]) hx hb dX12_readPlain_33 rfl hl (by decide) rfl (fun ls hl => ?_)
          refine lv_iload_n hx hb dX12_readPlain_34 rfl (lv_at hl 0 rfl) ?_
          refine lv_bipush (v := 40) hx hb dX12_readPlain_35 (by decide) ?_
          refine th_cSs (As := [.int 40]) (rest := [.int v2867]) (n := 1) (d := 0) ⟨hx, hb, hml, hown, hts⟩ (c_X12_sign l H 40) wd_1495 wd_1496 wd_13 wd_1497 (by decide +kernel) ⟨by rw [hR]; show 0 + 1 ≤ 30 + 3 * k; omega, by rw [hR]; show 8 + (1 + 11) + 40 * (0) ≤ 40 * (30 + 3 * k); omega⟩ hN hS rfl hl.1 rfl (Nat.le_of_ble_eq_true rfl) dX12_readPlain_37 ⟨Nat.zero_le _, Nat.zero_le _⟩ (fun r2869 locs hp hS => ?_)
          obtain rfl : r2869 = 140 := hp.trans (by decide)
          have k2870 := iv_lo v2867
          have k2871 := iv_hi v2867
          refine lv_icmp_ne (tgt := 90) hx hb dX12_readPlain_40 (by decide) (fun c2872 => ?_) (fun c2872 => ?_)
          · skip
            have k2873 := iv_ne (X := v2867.toInt) (Y := (140)) rfl (by decide) c2872
            refine lv_aload_n hx hb dX12_readPlain_90 rfl (lv_at hl 2 rfl) ?_
            refine lv_iload_n hx hb dX12_readPlain_91 rfl (lv_at hl 3 rfl) ?_
            refine mx_v (As := [.int x1]) (rest := []) (n := 1) (d := 29) ⟨hx, hb, hml, hown, hts⟩ (c_X12_readSum l E D G 8 h0 hG0 x1 ff cd TT p1 b1 dd (by first | decide | omega) (by omega) (by omega) (c_X12_readPart l E D G 8)) wd_1595 wd_1597 wp_68 wd_13 wd_1598 (by decide +kernel) ⟨by rw [hR]; show 29 + 1 ≤ 30 + 3 * k; omega, by rw [hR]; show 8 + (2 + 11) + 40 * (29) ≤ 40 * (30 + 3 * k); omega⟩ hI hN hK hS hG0 (⟨hkf, hT, hz0, by omega, ⟨a2840, hf2841, hq2842, hA2843⟩, ⟨a2844, hf2845, hq2846, hA2847⟩, ⟨w2848, hg2849, by omega⟩, ⟨w2850, hg2851, by omega⟩, hg2852⟩) rfl hl.1 rfl (Nat.le_of_ble_eq_true rfl) dX12_readPlain_92 ⟨Nat.zero_le _, Nat.zero_le _⟩ (fun H locs hI hp hS => ?_)
            obtain ⟨pn2875, bn2876, hE, k2878, hi2877⟩ := hp
            obtain ⟨hkf, hT, hz0, k2892, ⟨a2879, hf2880, hq2881, hA2882⟩, ⟨a2883, hf2884, hq2885, hA2886⟩, ⟨w2887, hg2888, k2893⟩, ⟨w2889, hg2890, k2894⟩, hg2891⟩ := hE
            refine lv_aload_n hx hb dX12_readPlain_95 rfl (lv_at hl 2 rfl) ?_
            refine lv_bipush (v := 60) hx hb dX12_readPlain_96 (by decide) ?_
            refine th_cSs (As := [.int 60]) (rest := [.ref h0]) (n := 1) (d := 0) ⟨hx, hb, hml, hown, hts⟩ (c_X12_sign l H 60) wd_1495 wd_1496 wd_13 wd_1497 (by decide +kernel) ⟨by rw [hR]; show 0 + 1 ≤ 30 + 3 * k; omega, by rw [hR]; show 8 + (1 + 11) + 40 * (0) ≤ 40 * (30 + 3 * k); omega⟩ hN hS rfl hl.1 rfl (Nat.le_of_ble_eq_true rfl) dX12_readPlain_98 ⟨Nat.zero_le _, Nat.zero_le _⟩ (fun r2895 locs hp hS => ?_)
            obtain rfl : r2895 = 160 := hp.trans (by decide)
            refine mx_i (As := [.int 160]) (rest := []) (n := 1) (d := 1) ⟨hx, hb, hml, hown, hts⟩ (c_X12_takes0 l E D G h0 hG0 160 ff cd TT pn2875 bn2876 (by first | decide | omega)) wd_1587 wd_1589 wp_66 wd_13 wd_1590 (by decide +kernel) ⟨by rw [hR]; show 1 + 1 ≤ 30 + 3 * k; omega, by rw [hR]; show 8 + (3 + 11) + 40 * (1) ≤ 40 * (30 + 3 * k); omega⟩ hI hN hK hS hG0 (⟨hkf, hT, hz0, by omega, ⟨a2879, hf2880, hq2881, hA2882⟩, ⟨a2883, hf2884, hq2885, hA2886⟩, ⟨w2887, hg2888, by omega⟩, ⟨w2889, hg2890, by omega⟩, hg2891⟩) rfl hl.1 rfl (Nat.le_of_ble_eq_true rfl) dX12_readPlain_101 ⟨Nat.zero_le _, Nat.zero_le _⟩ (fun r2896 H locs hI hp hS => ?_)
            rcases hp with ⟨rfl, hp⟩ | ⟨rfl, hp⟩
            · skip
              try simp only [rg, not_and, Int.not_le] at hp
              have hp2897 := hp
              obtain ⟨hb2898, hc2899, k2900, hE⟩ := hp2897
              have hp2897 : True := trivial
              rw [show (160 : Int32).toInt = 160 from by decide] at hc2899
              obtain ⟨hkf, hT, hz0, k2914, ⟨a2901, hf2902, hq2903, hA2904⟩, ⟨a2905, hf2906, hq2907, hA2908⟩, ⟨w2909, hg2910, k2915⟩, ⟨w2911, hg2912, k2916⟩, hg2913⟩ := hE
              try rw [show (160 : Int32).toInt = 160 from by decide] at hp2897
              refine lv_if_ne (tgt := 128) hx hb dX12_readPlain_104 (by decide) (fun _ => ?_) (fun c => absurd c (by decide))
              refine lv_aload_n hx hb dX12_readPlain_128 rfl (lv_at hl 2 rfl) ?_
              refine lv_iload_n hx hb dX12_readPlain_129 rfl (lv_at hl 3 rfl) ?_
              refine mx_v (As := [.int x1]) (rest := []) (n := 1) (d := 29) ⟨hx, hb, hml, hown, hts⟩ (c_X12_readSum l E D G 8 h0 hG0 x1 ff cd TT (pn2875 + 1) bn2876 dd (by first | decide | omega) (by omega) (by omega) (c_X12_readPart l E D G 8)) wd_1595 wd_1597 wp_68 wd_13 wd_1598 (by decide +kernel) ⟨by rw [hR]; show 29 + 1 ≤ 30 + 3 * k; omega, by rw [hR]; show 8 + (2 + 11) + 40 * (29) ≤ 40 * (30 + 3 * k); omega⟩ hI hN hK hS hG0 (⟨hkf, hT, hz0, by omega, ⟨a2901, hf2902, hq2903, hA2904⟩, ⟨a2905, hf2906, hq2907, hA2908⟩, ⟨w2909, hg2910, by omega⟩, ⟨w2911, hg2912, by omega⟩, hg2913⟩) rfl hl.1 rfl (Nat.le_of_ble_eq_true rfl) dX12_readPlain_130 ⟨Nat.zero_le _, Nat.zero_le _⟩ (fun H locs hI hp hS => ?_)
              obtain ⟨pn2918, bn2919, hE, k2921, hi2920⟩ := hp
              obtain ⟨hkf, hT, hz0, k2935, ⟨a2922, hf2923, hq2924, hA2925⟩, ⟨a2926, hf2927, hq2928, hA2929⟩, ⟨w2930, hg2931, k2936⟩, ⟨w2932, hg2933, k2937⟩, hg2934⟩ := hE
              have hpost : ∃ (p2 : Nat) (b2 : Int32), RD E D G h0 ff cd TT p2 b2 H ∧ pp ≤ p2 ∧ (b2.toInt = -1 → bb.toInt = -1 ∧ Gr (rC cd TT) 3 dd pp p2) := ⟨pn2918, bn2919, ⟨hkf, hT, hz0, by omega, ⟨a2922, hf2923, hq2924, hA2925⟩, ⟨a2926, hf2927, hq2928, hA2929⟩, ⟨w2930, hg2931, by omega⟩, ⟨w2932, hg2933, by omega⟩, hg2934⟩, by omega, fun h => ⟨(hInv (by omega)).1, r3_x (hInv (by omega)).2 (by omega) (by omega) (hi2877 hb2898).2 (by omega) (hi2920 h).2⟩⟩
              rw [hQ]
              exact W.vret hx hb hr (fun t ht hW => ⟨⟨(), rfl, trivial, ⟨by rw [ht]; exact hI, hN.warm hW, va_K.moved hW.alike hK⟩, by first | (rw [ht]; exact hpost) | exact hpost⟩, hS.F ht⟩) hS.2.2 dX12_readPlain_133
            · skip
              try simp only [rg, not_and, Int.not_le] at hp
              have hp2938 := hp
              obtain ⟨hc2939, hE⟩ := hp2938
              have hp2938 : True := trivial
              rw [show (160 : Int32).toInt = 160 from by decide] at hc2939
              obtain ⟨hkf, hT, hz0, k2953, ⟨a2940, hf2941, hq2942, hA2943⟩, ⟨a2944, hf2945, hq2946, hA2947⟩, ⟨w2948, hg2949, k2954⟩, ⟨w2950, hg2951, k2955⟩, hg2952⟩ := hE
              try rw [show (160 : Int32).toInt = 160 from by decide] at hp2938
              refine lv_if_ne (tgt := 128) hx hb dX12_readPlain_104 (by decide) (fun c => absurd c (by decide)) (fun _ => ?_)
              refine lv_aload_n hx hb dX12_readPlain_107 rfl (lv_at hl 2 rfl) ?_
              refine lv_bipush (v := 62) hx hb dX12_readPlain_108 (by decide) ?_
              refine th_cSs (As := [.int 62]) (rest := [.ref h0]) (n := 1) (d := 0) ⟨hx, hb, hml, hown, hts⟩ (c_X12_sign l H 62) wd_1495 wd_1496 wd_13 wd_1497 (by decide +kernel) ⟨by rw [hR]; show 0 + 1 ≤ 30 + 3 * k; omega, by rw [hR]; show 8 + (1 + 11) + 40 * (0) ≤ 40 * (30 + 3 * k); omega⟩ hN hS rfl hl.1 rfl (Nat.le_of_ble_eq_true rfl) dX12_readPlain_110 ⟨Nat.zero_le _, Nat.zero_le _⟩ (fun r2956 locs hp hS => ?_)
              obtain rfl : r2956 = 162 := hp.trans (by decide)
              refine mx_i (As := [.int 162]) (rest := []) (n := 1) (d := 1) ⟨hx, hb, hml, hown, hts⟩ (c_X12_takes0 l E D G h0 hG0 162 ff cd TT pn2875 bn2876 (by first | decide | omega)) wd_1587 wd_1589 wp_66 wd_13 wd_1590 (by decide +kernel) ⟨by rw [hR]; show 1 + 1 ≤ 30 + 3 * k; omega, by rw [hR]; show 8 + (3 + 11) + 40 * (1) ≤ 40 * (30 + 3 * k); omega⟩ hI hN hK hS hG0 (⟨hkf, hT, hz0, by omega, ⟨a2940, hf2941, hq2942, hA2943⟩, ⟨a2944, hf2945, hq2946, hA2947⟩, ⟨w2948, hg2949, by omega⟩, ⟨w2950, hg2951, by omega⟩, hg2952⟩) rfl hl.1 rfl (Nat.le_of_ble_eq_true rfl) dX12_readPlain_113 ⟨Nat.zero_le _, Nat.zero_le _⟩ (fun r2957 H locs hI hp hS => ?_)
              rcases hp with ⟨rfl, hp⟩ | ⟨rfl, hp⟩
              · skip
                try simp only [rg, not_and, Int.not_le] at hp
                have hp2958 := hp
                obtain ⟨hb2959, hc2960, k2961, hE⟩ := hp2958
                have hp2958 : True := trivial
                rw [show (162 : Int32).toInt = 162 from by decide] at hc2960
                obtain ⟨hkf, hT, hz0, k2975, ⟨a2962, hf2963, hq2964, hA2965⟩, ⟨a2966, hf2967, hq2968, hA2969⟩, ⟨w2970, hg2971, k2976⟩, ⟨w2972, hg2973, k2977⟩, hg2974⟩ := hE
                try rw [show (162 : Int32).toInt = 162 from by decide] at hp2958
                refine lv_if_ne (tgt := 128) hx hb dX12_readPlain_116 (by decide) (fun _ => ?_) (fun c => absurd c (by decide))
                refine lv_aload_n hx hb dX12_readPlain_128 rfl (lv_at hl 2 rfl) ?_
                refine lv_iload_n hx hb dX12_readPlain_129 rfl (lv_at hl 3 rfl) ?_
                refine mx_v (As := [.int x1]) (rest := []) (n := 1) (d := 29) ⟨hx, hb, hml, hown, hts⟩ (c_X12_readSum l E D G 8 h0 hG0 x1 ff cd TT (pn2875 + 1) bn2876 dd (by first | decide | omega) (by omega) (by omega) (c_X12_readPart l E D G 8)) wd_1595 wd_1597 wp_68 wd_13 wd_1598 (by decide +kernel) ⟨by rw [hR]; show 29 + 1 ≤ 30 + 3 * k; omega, by rw [hR]; show 8 + (2 + 11) + 40 * (29) ≤ 40 * (30 + 3 * k); omega⟩ hI hN hK hS hG0 (⟨hkf, hT, hz0, by omega, ⟨a2962, hf2963, hq2964, hA2965⟩, ⟨a2966, hf2967, hq2968, hA2969⟩, ⟨w2970, hg2971, by omega⟩, ⟨w2972, hg2973, by omega⟩, hg2974⟩) rfl hl.1 rfl (Nat.le_of_ble_eq_true rfl) dX12_readPlain_130 ⟨Nat.zero_le _, Nat.zero_le _⟩ (fun H locs hI hp hS => ?_)
                obtain ⟨pn2979, bn2980, hE, k2982, hi2981⟩ := hp
                obtain ⟨hkf, hT, hz0, k2996, ⟨a2983, hf2984, hq2985, hA2986⟩, ⟨a2987, hf2988, hq2989, hA2990⟩, ⟨w2991, hg2992, k2997⟩, ⟨w2993, hg2994, k2998⟩, hg2995⟩ := hE
                have hpost : ∃ (p2 : Nat) (b2 : Int32), RD E D G h0 ff cd TT p2 b2 H ∧ pp ≤ p2 ∧ (b2.toInt = -1 → bb.toInt = -1 ∧ Gr (rC cd TT) 3 dd pp p2) := ⟨pn2979, bn2980, ⟨hkf, hT, hz0, by omega, ⟨a2983, hf2984, hq2985, hA2986⟩, ⟨a2987, hf2988, hq2989, hA2990⟩, ⟨w2991, hg2992, by omega⟩, ⟨w2993, hg2994, by omega⟩, hg2995⟩, by omega, fun h => ⟨(hInv (by omega)).1, r3_x (hInv (by omega)).2 (by omega) (by omega) (hi2877 hb2959).2 (by omega) (hi2981 h).2⟩⟩
                rw [hQ]
                exact W.vret hx hb hr (fun t ht hW => ⟨⟨(), rfl, trivial, ⟨by rw [ht]; exact hI, hN.warm hW, va_K.moved hW.alike hK⟩, by first | (rw [ht]; exact hpost) | exact hpost⟩, hS.F ht⟩) hS.2.2 dX12_readPlain_133
              · skip
                try simp only [rg, not_and, Int.not_le] at hp
                have hp2999 := hp
                obtain ⟨hc3000, hE⟩ := hp2999
                have hp2999 : True := trivial
                rw [show (162 : Int32).toInt = 162 from by decide] at hc3000
                obtain ⟨hkf, hT, hz0, k3014, ⟨a3001, hf3002, hq3003, hA3004⟩, ⟨a3005, hf3006, hq3007, hA3008⟩, ⟨w3009, hg3010, k3015⟩, ⟨w3011, hg3012, k3016⟩, hg3013⟩ := hE
                try rw [show (162 : Int32).toInt = 162 from by decide] at hp2999
                refine lv_if_ne (tgt := 128) hx hb dX12_readPlain_116 (by decide) (fun c => absurd c (by decide)) (fun _ => ?_)
                refine lv_aload_n hx hb dX12_readPlain_119 rfl (lv_at hl 2 rfl) ?_
                refine lv_bipush (v := 61) hx hb dX12_readPlain_120 (by decide) ?_
                refine th_cSs (As := [.int 61]) (rest := [.ref h0]) (n := 1) (d := 0) ⟨hx, hb, hml, hown, hts⟩ (c_X12_sign l H 61) wd_1495 wd_1496 wd_13 wd_1497 (by decide +kernel) ⟨by rw [hR]; show 0 + 1 ≤ 30 + 3 * k; omega, by rw [hR]; show 8 + (1 + 11) + 40 * (0) ≤ 40 * (30 + 3 * k); omega⟩ hN hS rfl hl.1 rfl (Nat.le_of_ble_eq_true rfl) dX12_readPlain_122 ⟨Nat.zero_le _, Nat.zero_le _⟩ (fun r3017 locs hp hS => ?_)
                obtain rfl : r3017 = 161 := hp.trans (by decide)
                refine mx_v (As := [.int 161]) (rest := []) (n := 1) (d := 2) ⟨hx, hb, hml, hown, hts⟩ (c_X12_must l E D G h0 hG0 161 ff cd TT pn2875 bn2876 (by first | decide | omega)) wd_1611 wd_1613 wp_72 wd_13 wd_1614 (by decide +kernel) ⟨by rw [hR]; show 2 + 1 ≤ 30 + 3 * k; omega, by rw [hR]; show 8 + (2 + 11) + 40 * (2) ≤ 40 * (30 + 3 * k); omega⟩ hI hN hK hS hG0 (⟨hkf, hT, hz0, by omega, ⟨a3001, hf3002, hq3003, hA3004⟩, ⟨a3005, hf3006, hq3007, hA3008⟩, ⟨w3009, hg3010, by omega⟩, ⟨w3011, hg3012, by omega⟩, hg3013⟩) rfl hl.1 rfl (Nat.le_of_ble_eq_true rfl) dX12_readPlain_125 ⟨Nat.zero_le _, Nat.zero_le _⟩ (fun H locs hI hp hS => ?_)
                obtain ⟨pn3019, bn3020, hE, k3022, hi3021⟩ := hp
                obtain ⟨hkf, hT, hz0, k3036, ⟨a3023, hf3024, hq3025, hA3026⟩, ⟨a3027, hf3028, hq3029, hA3030⟩, ⟨w3031, hg3032, k3037⟩, ⟨w3033, hg3034, k3038⟩, hg3035⟩ := hE
                rw [show (161 : Int32).toInt = 161 from by decide] at hi3021
                refine lv_aload_n hx hb dX12_readPlain_128 rfl (lv_at hl 2 rfl) ?_
                refine lv_iload_n hx hb dX12_readPlain_129 rfl (lv_at hl 3 rfl) ?_
                refine mx_v (As := [.int x1]) (rest := []) (n := 1) (d := 29) ⟨hx, hb, hml, hown, hts⟩ (c_X12_readSum l E D G 8 h0 hG0 x1 ff cd TT pn3019 bn3020 dd (by first | decide | omega) (by omega) (by omega) (c_X12_readPart l E D G 8)) wd_1595 wd_1597 wp_68 wd_13 wd_1598 (by decide +kernel) ⟨by rw [hR]; show 29 + 1 ≤ 30 + 3 * k; omega, by rw [hR]; show 8 + (2 + 11) + 40 * (29) ≤ 40 * (30 + 3 * k); omega⟩ hI hN hK hS hG0 (⟨hkf, hT, hz0, by omega, ⟨a3023, hf3024, hq3025, hA3026⟩, ⟨a3027, hf3028, hq3029, hA3030⟩, ⟨w3031, hg3032, by omega⟩, ⟨w3033, hg3034, by omega⟩, hg3035⟩) rfl hl.1 rfl (Nat.le_of_ble_eq_true rfl) dX12_readPlain_130 ⟨Nat.zero_le _, Nat.zero_le _⟩ (fun H locs hI hp hS => ?_)
                obtain ⟨pn3040, bn3041, hE, k3043, hi3042⟩ := hp
                obtain ⟨hkf, hT, hz0, k3057, ⟨a3044, hf3045, hq3046, hA3047⟩, ⟨a3048, hf3049, hq3050, hA3051⟩, ⟨w3052, hg3053, k3058⟩, ⟨w3054, hg3055, k3059⟩, hg3056⟩ := hE
                have hpost : ∃ (p2 : Nat) (b2 : Int32), RD E D G h0 ff cd TT p2 b2 H ∧ pp ≤ p2 ∧ (b2.toInt = -1 → bb.toInt = -1 ∧ Gr (rC cd TT) 3 dd pp p2) := by
                    refine ⟨pn3040, bn3041, ⟨hkf, hT, hz0, by omega, ⟨a3044, hf3045, hq3046, hA3047⟩, ⟨a3048, hf3049, hq3050, hA3051⟩, ⟨w3052, hg3053, by omega⟩, ⟨w3054, hg3055, by omega⟩, hg3056⟩, by omega, ?_⟩
                    intro h
                    obtain ⟨hz1, hz2⟩ := hi3042 h
                    obtain ⟨hm1, hm2, hm3⟩ := hi3021 hz1
                    obtain ⟨ha1, ha2⟩ := hi2877 hm1
                    rw [hm3] at hz2
                    exact ⟨(hInv ha1).1, r3_x (hInv ha1).2 (by omega) (by omega) ha2 (by omega) hz2⟩
                rw [hQ]
                exact W.vret hx hb hr (fun t ht hW => ⟨⟨(), rfl, trivial, ⟨by rw [ht]; exact hI, hN.warm hW, va_K.moved hW.alike hK⟩, by first | (rw [ht]; exact hpost) | exact hpost⟩, hS.F ht⟩) hS.2.2 dX12_readPlain_133
          · skip
            have k3060 := iv_eq (X := v2867.toInt) (Y := (140)) rfl (by decide) c2872
            refine lv_iload_n hx hb dX12_readPlain_43 rfl (lv_at hl 3 rfl) ?_
            refine lv_bipush (v := 8) hx hb dX12_readPlain_44 (by decide) ?_
            refine lv_icmp_ne (tgt := 53) hx hb dX12_readPlain_46 (by decide) (fun c3061 => ?_) (fun c3061 => ?_)
            · skip
              have k3062 := iv_ne (X := x1.toInt) (Y := (8)) rfl (by decide) c3061
              refine lv_aload_n hx hb dX12_readPlain_53 rfl (lv_at hl 2 rfl) ?_
              refine mr_i (As := []) (rest := []) (n := 0) (d := 0) ⟨hx, hb, hml, hown, hts⟩ (c_X12_fine l E D G H h0 hG0  ff cd TT p1 b1 ⟨hkf, hT, hz0, by omega, ⟨a2840, hf2841, hq2842, hA2843⟩, ⟨a2844, hf2845, hq2846, hA2847⟩, ⟨w2848, hg2849, by omega⟩, ⟨w2850, hg2851, by omega⟩, hg2852⟩) wd_1591 wd_1593 wp_67 wd_13 wd_1594 (by decide +kernel) ⟨by rw [hR]; show 0 + 1 ≤ 30 + 3 * k; omega, by rw [hR]; show 8 + (1 + 11) + 40 * (0) ≤ 40 * (30 + 3 * k); omega⟩ hI hN hK hS hG0 rfl hl.1 rfl (Nat.le_of_ble_eq_true rfl) dX12_readPlain_54 ⟨Nat.zero_le _, Nat.zero_le _⟩ (fun r3063 locs hp hS => ?_)
              rcases hp with ⟨rfl, hp⟩ | ⟨rfl, hp⟩
              · skip
                try simp only [rg, not_and, Int.not_le] at hp
                have hp3064 := hp
                refine lv_if_ne (tgt := 61) hx hb dX12_readPlain_57 (by decide) (fun _ => ?_) (fun c => absurd c (by decide))
                have hlt9 : p1 < TT := rC_lt (cd := cd) (by omega)
                refine lv_aload_n hx hb dX12_readPlain_61 rfl (lv_at hl 2 rfl) ?_
                refine lv_dup hx hb dX12_readPlain_62 rfl ?_
                refine gmI hx hb hts inT12 hown hK hI List.not_mem_nil hG0 16 (by decide) (hts _ (tb_c wd_1249)) rfl rfl dX12_readPlain_63 (fun w3065 hg3066 k3067 k3068 => ?_)
                obtain rfl := gf.uniq (by decide) hg2851 hg3066
                refine lv_iconst (v := 1) hx hb dX12_readPlain_66 (by decide) ?_
                refine lv_iadd hx hb dX12_readPlain_67 ?_
                refine lv_topi (fun v3069 e3070 => ?_)
                have tv3069 : v3069.toInt = w2850.toInt + (1) := iv_add rfl (by decide) e3070 (by omega) (by omega)
                refine pmI (ty := .int) hx hb hts inT12 hown hK hI List.not_mem_nil hG0 hS ⟨_, hG0⟩ 16 (by decide) (hts _ (tb_c wd_1249)) rfl rfl (by decide +kernel) rfl rfl rfl (by omega) (by omega) dX12_readPlain_68 (fun H locs hI hgP hS => ?_)
                have hg2849 := hgP.2.2.1 15 _ (by decide) (by decide) hg2849
                have hg2852 := hgP.2.2.1 18 _ (by decide) (by decide) hg2852
                have hg3071 := hgP.2.1
                have hf2841 := hgP.2.2.2 3 _ (by decide) (by decide) hf2841
                have hf2845 := hgP.2.2.2 12 _ (by decide) (by decide) hf2845
                have hA2843 := va_at.kept hA2843 (hgP.1 _ (m_ne hq2842 hG0 (by first | decide | (dsimp only; decide))))
                have hA2847 := va_at.kept hA2847 (hgP.1 _ (m_ne hq2846 hG0 (by first | decide | (dsimp only; decide))))
                refine lv_aload_n hx hb dX12_readPlain_71 rfl (lv_at hl 2 rfl) ?_
                refine lv_iload_n hx hb dX12_readPlain_72 rfl (lv_at hl 3 rfl) ?_
                refine lv_iconst (v := 1) hx hb dX12_readPlain_73 (by decide) ?_
                refine lv_iadd hx hb dX12_readPlain_74 ?_
                refine lv_topi (fun v3072 e3073 => ?_)
                have tv3072 : v3072.toInt = x1.toInt + (1) := iv_add rfl (by decide) e3073 (by omega) (by omega)
                refine mx_v (As := [.int v3072]) (rest := []) (n := 1) (d := (32 + 3 * (k - 1))) ⟨hx, hb, hml, hown, hts⟩ (c_X12_readTest l E D G (k - 1) h0 hG0 v3072 ff cd TT (p1 + 1) b1 (dd + 1) (by first | decide | omega) (by omega) (by omega) (ih (k - 1) (by omega))) wd_1619 wd_1621 wp_74 wd_13 wd_1622 (by decide +kernel) ⟨by rw [hR]; show (32 + 3 * (k - 1)) + 1 ≤ 30 + 3 * k; omega, by rw [hR]; show 8 + (2 + 11) + 40 * ((32 + 3 * (k - 1))) ≤ 40 * (30 + 3 * k); omega⟩ hI hN hK hS hG0 (⟨hkf, hT, hz0, by omega, ⟨a2840, hf2841, hq2842, hA2843⟩, ⟨a2844, hf2845, hq2846, hA2847⟩, ⟨w2848, hg2849, by omega⟩, ⟨v3069, hg3071, by omega⟩, hg2852⟩) rfl hl.1 rfl (Nat.le_of_ble_eq_true rfl) dX12_readPlain_75 ⟨Nat.zero_le _, Nat.zero_le _⟩ (fun H locs hI hp hS => ?_)
                obtain ⟨pn3075, bn3076, hE, k3078, hi3077⟩ := hp
                obtain ⟨hkf, hT, hz0, k3092, ⟨a3079, hf3080, hq3081, hA3082⟩, ⟨a3083, hf3084, hq3085, hA3086⟩, ⟨w3087, hg3088, k3093⟩, ⟨w3089, hg3090, k3094⟩, hg3091⟩ := hE
                refine lv_aload_n hx hb dX12_readPlain_78 rfl (lv_at hl 2 rfl) ?_
                refine lv_bipush (v := 41) hx hb dX12_readPlain_79 (by decide) ?_
                refine th_cSs (As := [.int 41]) (rest := [.ref h0]) (n := 1) (d := 0) ⟨hx, hb, hml, hown, hts⟩ (c_X12_sign l H 41) wd_1495 wd_1496 wd_13 wd_1497 (by decide +kernel) ⟨by rw [hR]; show 0 + 1 ≤ 30 + 3 * k; omega, by rw [hR]; show 8 + (1 + 11) + 40 * (0) ≤ 40 * (30 + 3 * k); omega⟩ hN hS rfl hl.1 rfl (Nat.le_of_ble_eq_true rfl) dX12_readPlain_81 ⟨Nat.zero_le _, Nat.zero_le _⟩ (fun r3095 locs hp hS => ?_)
                obtain rfl : r3095 = 141 := hp.trans (by decide)
                refine mx_v (As := [.int 141]) (rest := []) (n := 1) (d := 2) ⟨hx, hb, hml, hown, hts⟩ (c_X12_must l E D G h0 hG0 141 ff cd TT pn3075 bn3076 (by first | decide | omega)) wd_1611 wd_1613 wp_72 wd_13 wd_1614 (by decide +kernel) ⟨by rw [hR]; show 2 + 1 ≤ 30 + 3 * k; omega, by rw [hR]; show 8 + (2 + 11) + 40 * (2) ≤ 40 * (30 + 3 * k); omega⟩ hI hN hK hS hG0 (⟨hkf, hT, hz0, by omega, ⟨a3079, hf3080, hq3081, hA3082⟩, ⟨a3083, hf3084, hq3085, hA3086⟩, ⟨w3087, hg3088, by omega⟩, ⟨w3089, hg3090, by omega⟩, hg3091⟩) rfl hl.1 rfl (Nat.le_of_ble_eq_true rfl) dX12_readPlain_84 ⟨Nat.zero_le _, Nat.zero_le _⟩ (fun H locs hI hp hS => ?_)
                obtain ⟨pn3097, bn3098, hE, k3100, hi3099⟩ := hp
                obtain ⟨hkf, hT, hz0, k3114, ⟨a3101, hf3102, hq3103, hA3104⟩, ⟨a3105, hf3106, hq3107, hA3108⟩, ⟨w3109, hg3110, k3115⟩, ⟨w3111, hg3112, k3116⟩, hg3113⟩ := hE
                rw [show (141 : Int32).toInt = 141 from by decide] at hi3099
                refine lv_goto (tgt := 133) hx hb dX12_readPlain_87 (by decide) ?_
                have hpost : ∃ (p2 : Nat) (b2 : Int32), RD E D G h0 ff cd TT p2 b2 H ∧ pp ≤ p2 ∧ (b2.toInt = -1 → bb.toInt = -1 ∧ Gr (rC cd TT) 3 dd pp p2) := ⟨pn3097, bn3098, ⟨hkf, hT, hz0, by omega, ⟨a3101, hf3102, hq3103, hA3104⟩, ⟨a3105, hf3106, hq3107, hA3108⟩, ⟨w3109, hg3110, by omega⟩, ⟨w3111, hg3112, by omega⟩, hg3113⟩, by omega, fun h => ⟨(hInv (by omega)).1, r3_br (hInv (by omega)).2 (by omega) (by omega) (hi3077 (hi3099 h).1).2 (hi3099 h).2.1 (hi3099 h).2.2⟩⟩
                rw [hQ]
                exact W.vret hx hb hr (fun t ht hW => ⟨⟨(), rfl, trivial, ⟨by rw [ht]; exact hI, hN.warm hW, va_K.moved hW.alike hK⟩, by first | (rw [ht]; exact hpost) | exact hpost⟩, hS.F ht⟩) hS.2.2 dX12_readPlain_133
              · skip
                try simp only [rg, not_and, Int.not_le] at hp
                have hp3117 := hp
                refine lv_if_ne (tgt := 61) hx hb dX12_readPlain_57 (by decide) (fun c => absurd c (by decide)) (fun _ => ?_)
                have hpost : ∃ (p2 : Nat) (b2 : Int32), RD E D G h0 ff cd TT p2 b2 H ∧ pp ≤ p2 ∧ (b2.toInt = -1 → bb.toInt = -1 ∧ Gr (rC cd TT) 3 dd pp p2) := ⟨p1, b1, ⟨hkf, hT, hz0, by omega, ⟨a2840, hf2841, hq2842, hA2843⟩, ⟨a2844, hf2845, hq2846, hA2847⟩, ⟨w2848, hg2849, by omega⟩, ⟨w2850, hg2851, by omega⟩, hg2852⟩, by omega, fun h => absurd h (by omega)⟩
                rw [hQ]
                exact W.vret hx hb hr (fun t ht hW => ⟨⟨(), rfl, trivial, ⟨by rw [ht]; exact hI, hN.warm hW, va_K.moved hW.alike hK⟩, by first | (rw [ht]; exact hpost) | exact hpost⟩, hS.F ht⟩) hS.2.2 dX12_readPlain_60
            · skip
              have k3118 := iv_eq (X := x1.toInt) (Y := (8)) rfl (by decide) c3061
              refine lv_aload_n hx hb dX12_readPlain_49 rfl (lv_at hl 2 rfl) ?_
              refine mx_v (As := []) (rest := []) (n := 0) (d := 1) ⟨hx, hb, hml, hown, hts⟩ (c_X12_faults l E D G h0 hG0  ff cd TT p1 b1) wd_1607 wd_1609 wp_71 wd_13 wd_1610 (by decide +kernel) ⟨by rw [hR]; show 1 + 1 ≤ 30 + 3 * k; omega, by rw [hR]; show 8 + (1 + 11) + 40 * (1) ≤ 40 * (30 + 3 * k); omega⟩ hI hN hK hS hG0 (⟨hkf, hT, hz0, by omega, ⟨a2840, hf2841, hq2842, hA2843⟩, ⟨a2844, hf2845, hq2846, hA2847⟩, ⟨w2848, hg2849, by omega⟩, ⟨w2850, hg2851, by omega⟩, hg2852⟩) rfl hl.1 rfl (Nat.le_of_ble_eq_true rfl) dX12_readPlain_50 ⟨Nat.zero_le _, Nat.zero_le _⟩ (fun H locs hI hp hS => ?_)
              obtain ⟨bn3120, hb3121, hE⟩ := hp
              obtain ⟨hkf, hT, hz0, k3135, ⟨a3122, hf3123, hq3124, hA3125⟩, ⟨a3126, hf3127, hq3128, hA3129⟩, ⟨w3130, hg3131, k3136⟩, ⟨w3132, hg3133, k3137⟩, hg3134⟩ := hE
              refine lv_aload_n hx hb dX12_readPlain_53 rfl (lv_at hl 2 rfl) ?_
              refine mr_i (As := []) (rest := []) (n := 0) (d := 0) ⟨hx, hb, hml, hown, hts⟩ (c_X12_fine l E D G H h0 hG0  ff cd TT p1 bn3120 ⟨hkf, hT, hz0, by omega, ⟨a3122, hf3123, hq3124, hA3125⟩, ⟨a3126, hf3127, hq3128, hA3129⟩, ⟨w3130, hg3131, by omega⟩, ⟨w3132, hg3133, by omega⟩, hg3134⟩) wd_1591 wd_1593 wp_67 wd_13 wd_1594 (by decide +kernel) ⟨by rw [hR]; show 0 + 1 ≤ 30 + 3 * k; omega, by rw [hR]; show 8 + (1 + 11) + 40 * (0) ≤ 40 * (30 + 3 * k); omega⟩ hI hN hK hS hG0 rfl hl.1 rfl (Nat.le_of_ble_eq_true rfl) dX12_readPlain_54 ⟨Nat.zero_le _, Nat.zero_le _⟩ (fun r3138 locs hp hS => ?_)
              rcases hp with ⟨rfl, hp⟩ | ⟨rfl, hp⟩
              · skip
                try simp only [rg, not_and, Int.not_le] at hp
                have hp3139 := hp
                refine lv_if_ne (tgt := 61) hx hb dX12_readPlain_57 (by decide) (fun _ => ?_) (fun c => absurd c (by decide))
                have hlt9 : p1 < TT := rC_lt (cd := cd) (by omega)
                refine lv_aload_n hx hb dX12_readPlain_61 rfl (lv_at hl 2 rfl) ?_
                refine lv_dup hx hb dX12_readPlain_62 rfl ?_
                refine gmI hx hb hts inT12 hown hK hI List.not_mem_nil hG0 16 (by decide) (hts _ (tb_c wd_1249)) rfl rfl dX12_readPlain_63 (fun w3140 hg3141 k3142 k3143 => ?_)
                obtain rfl := gf.uniq (by decide) hg3133 hg3141
                refine lv_iconst (v := 1) hx hb dX12_readPlain_66 (by decide) ?_
                refine lv_iadd hx hb dX12_readPlain_67 ?_
                refine lv_topi (fun v3144 e3145 => ?_)
                have tv3144 : v3144.toInt = w3132.toInt + (1) := iv_add rfl (by decide) e3145 (by omega) (by omega)
                refine pmI (ty := .int) hx hb hts inT12 hown hK hI List.not_mem_nil hG0 hS ⟨_, hG0⟩ 16 (by decide) (hts _ (tb_c wd_1249)) rfl rfl (by decide +kernel) rfl rfl rfl (by omega) (by omega) dX12_readPlain_68 (fun H locs hI hgP hS => ?_)
                have hg3131 := hgP.2.2.1 15 _ (by decide) (by decide) hg3131
                have hg3134 := hgP.2.2.1 18 _ (by decide) (by decide) hg3134
                have hg3146 := hgP.2.1
                have hf3123 := hgP.2.2.2 3 _ (by decide) (by decide) hf3123
                have hf3127 := hgP.2.2.2 12 _ (by decide) (by decide) hf3127
                have hA3125 := va_at.kept hA3125 (hgP.1 _ (m_ne hq3124 hG0 (by first | decide | (dsimp only; decide))))
                have hA3129 := va_at.kept hA3129 (hgP.1 _ (m_ne hq3128 hG0 (by first | decide | (dsimp only; decide))))
                refine lv_aload_n hx hb dX12_readPlain_71 rfl (lv_at hl 2 rfl) ?_
                refine lv_iload_n hx hb dX12_readPlain_72 rfl (lv_at hl 3 rfl) ?_
                refine lv_iconst (v := 1) hx hb dX12_readPlain_73 (by decide) ?_
                refine lv_iadd hx hb dX12_readPlain_74 ?_
                refine lv_topi (fun v3147 e3148 => ?_)
                have tv3147 : v3147.toInt = x1.toInt + (1) := iv_add rfl (by decide) e3148 (by omega) (by omega)
                refine mx_v (As := [.int v3147]) (rest := []) (n := 1) (d := (32 + 3 * (k - 1))) ⟨hx, hb, hml, hown, hts⟩ (c_X12_readTest l E D G (k - 1) h0 hG0 v3147 ff cd TT (p1 + 1) bn3120 (dd + 1) (by first | decide | omega) (by omega) (by omega) (ih (k - 1) (by omega))) wd_1619 wd_1621 wp_74 wd_13 wd_1622 (by decide +kernel) ⟨by rw [hR]; show (32 + 3 * (k - 1)) + 1 ≤ 30 + 3 * k; omega, by rw [hR]; show 8 + (2 + 11) + 40 * ((32 + 3 * (k - 1))) ≤ 40 * (30 + 3 * k); omega⟩ hI hN hK hS hG0 (⟨hkf, hT, hz0, by omega, ⟨a3122, hf3123, hq3124, hA3125⟩, ⟨a3126, hf3127, hq3128, hA3129⟩, ⟨w3130, hg3131, by omega⟩, ⟨v3144, hg3146, by omega⟩, hg3134⟩) rfl hl.1 rfl (Nat.le_of_ble_eq_true rfl) dX12_readPlain_75 ⟨Nat.zero_le _, Nat.zero_le _⟩ (fun H locs hI hp hS => ?_)
                obtain ⟨pn3150, bn3151, hE, k3153, hi3152⟩ := hp
                obtain ⟨hkf, hT, hz0, k3167, ⟨a3154, hf3155, hq3156, hA3157⟩, ⟨a3158, hf3159, hq3160, hA3161⟩, ⟨w3162, hg3163, k3168⟩, ⟨w3164, hg3165, k3169⟩, hg3166⟩ := hE
                refine lv_aload_n hx hb dX12_readPlain_78 rfl (lv_at hl 2 rfl) ?_
                refine lv_bipush (v := 41) hx hb dX12_readPlain_79 (by decide) ?_
                refine th_cSs (As := [.int 41]) (rest := [.ref h0]) (n := 1) (d := 0) ⟨hx, hb, hml, hown, hts⟩ (c_X12_sign l H 41) wd_1495 wd_1496 wd_13 wd_1497 (by decide +kernel) ⟨by rw [hR]; show 0 + 1 ≤ 30 + 3 * k; omega, by rw [hR]; show 8 + (1 + 11) + 40 * (0) ≤ 40 * (30 + 3 * k); omega⟩ hN hS rfl hl.1 rfl (Nat.le_of_ble_eq_true rfl) dX12_readPlain_81 ⟨Nat.zero_le _, Nat.zero_le _⟩ (fun r3170 locs hp hS => ?_)
                obtain rfl : r3170 = 141 := hp.trans (by decide)
                refine mx_v (As := [.int 141]) (rest := []) (n := 1) (d := 2) ⟨hx, hb, hml, hown, hts⟩ (c_X12_must l E D G h0 hG0 141 ff cd TT pn3150 bn3151 (by first | decide | omega)) wd_1611 wd_1613 wp_72 wd_13 wd_1614 (by decide +kernel) ⟨by rw [hR]; show 2 + 1 ≤ 30 + 3 * k; omega, by rw [hR]; show 8 + (2 + 11) + 40 * (2) ≤ 40 * (30 + 3 * k); omega⟩ hI hN hK hS hG0 (⟨hkf, hT, hz0, by omega, ⟨a3154, hf3155, hq3156, hA3157⟩, ⟨a3158, hf3159, hq3160, hA3161⟩, ⟨w3162, hg3163, by omega⟩, ⟨w3164, hg3165, by omega⟩, hg3166⟩) rfl hl.1 rfl (Nat.le_of_ble_eq_true rfl) dX12_readPlain_84 ⟨Nat.zero_le _, Nat.zero_le _⟩ (fun H locs hI hp hS => ?_)
                obtain ⟨pn3172, bn3173, hE, k3175, hi3174⟩ := hp
                obtain ⟨hkf, hT, hz0, k3189, ⟨a3176, hf3177, hq3178, hA3179⟩, ⟨a3180, hf3181, hq3182, hA3183⟩, ⟨w3184, hg3185, k3190⟩, ⟨w3186, hg3187, k3191⟩, hg3188⟩ := hE
                rw [show (141 : Int32).toInt = 141 from by decide] at hi3174
                refine lv_goto (tgt := 133) hx hb dX12_readPlain_87 (by decide) ?_
                have hpost : ∃ (p2 : Nat) (b2 : Int32), RD E D G h0 ff cd TT p2 b2 H ∧ pp ≤ p2 ∧ (b2.toInt = -1 → bb.toInt = -1 ∧ Gr (rC cd TT) 3 dd pp p2) := ⟨pn3172, bn3173, ⟨hkf, hT, hz0, by omega, ⟨a3176, hf3177, hq3178, hA3179⟩, ⟨a3180, hf3181, hq3182, hA3183⟩, ⟨w3184, hg3185, by omega⟩, ⟨w3186, hg3187, by omega⟩, hg3188⟩, by omega, fun h => ⟨(hInv (by omega)).1, r3_br (hInv (by omega)).2 (by omega) (by omega) (hi3152 (hi3174 h).1).2 (hi3174 h).2.1 (hi3174 h).2.2⟩⟩
                rw [hQ]
                exact W.vret hx hb hr (fun t ht hW => ⟨⟨(), rfl, trivial, ⟨by rw [ht]; exact hI, hN.warm hW, va_K.moved hW.alike hK⟩, by first | (rw [ht]; exact hpost) | exact hpost⟩, hS.F ht⟩) hS.2.2 dX12_readPlain_133
              · skip
                try simp only [rg, not_and, Int.not_le] at hp
                have hp3192 := hp
                refine lv_if_ne (tgt := 61) hx hb dX12_readPlain_57 (by decide) (fun c => absurd c (by decide)) (fun _ => ?_)
                have hpost : ∃ (p2 : Nat) (b2 : Int32), RD E D G h0 ff cd TT p2 b2 H ∧ pp ≤ p2 ∧ (b2.toInt = -1 → bb.toInt = -1 ∧ Gr (rC cd TT) 3 dd pp p2) := ⟨p1, bn3120, ⟨hkf, hT, hz0, by omega, ⟨a3122, hf3123, hq3124, hA3125⟩, ⟨a3126, hf3127, hq3128, hA3129⟩, ⟨w3130, hg3131, by omega⟩, ⟨w3132, hg3133, by omega⟩, hg3134⟩, by omega, fun h => absurd h (by omega)⟩
                rw [hQ]
                exact W.vret hx hb hr (fun t ht hW => ⟨⟨(), rfl, trivial, ⟨by rw [ht]; exact hI, hN.warm hW, va_K.moved hW.alike hK⟩, by first | (rw [ht]; exact hpost) | exact hpost⟩, hS.F ht⟩) hS.2.2 dX12_readPlain_60
        · skip
          try simp only [rg, not_and, Int.not_le] at hp
          have hp3193 := hp
          refine lv_if_ne (tgt := 24) hx hb dX12_readPlain_20 (by decide) (fun c => absurd c (by decide)) (fun _ => ?_)
          have hpost : ∃ (p2 : Nat) (b2 : Int32), RD E D G h0 ff cd TT p2 b2 H ∧ pp ≤ p2 ∧ (b2.toInt = -1 → bb.toInt = -1 ∧ Gr (rC cd TT) 3 dd pp p2) := ⟨p1, b1, ⟨hkf, hT, hz0, by omega, ⟨a2840, hf2841, hq2842, hA2843⟩, ⟨a2844, hf2845, hq2846, hA2847⟩, ⟨w2848, hg2849, by omega⟩, ⟨w2850, hg2851, by omega⟩, hg2852⟩, by omega, fun h => absurd h (by omega)⟩
          rw [hQ]
          exact W.vret hx hb hr (fun t ht hW => ⟨⟨(), rfl, trivial, ⟨by rw [ht]; exact hI, hN.warm hW, va_K.moved hW.alike hK⟩, by first | (rw [ht]; exact hpost) | exact hpost⟩, hS.F ht⟩) hS.2.2 dX12_readPlain_23
      · skip
        have k3194 := iv_ne (X := v2837.toInt) (Y := (0)) rfl (by decide) c2856
        refine lv_aload_n hx hb dX12_readPlain_6 rfl (lv_at hl 1 rfl) ?_
        refine lv_bipush (v := 8) hx hb dX12_readPlain_7 (by decide) ?_
        refine mx_i (As := [.int 8]) (rest := []) (n := 1) (d := 1) ⟨hx, hb, hml, hown, hts⟩ (c_X12_takes0 l E D G h0 hG0 8 ff cd TT p1 b1 (by first | decide | omega)) wd_1587 wd_1589 wp_66 wd_13 wd_1590 (by decide +kernel) ⟨by rw [hR]; show 1 + 1 ≤ 30 + 3 * k; omega, by rw [hR]; show 8 + (3 + 11) + 40 * (1) ≤ 40 * (30 + 3 * k); omega⟩ hI hN hK hS hG0 (⟨hkf, hT, hz0, by omega, ⟨a2840, hf2841, hq2842, hA2843⟩, ⟨a2844, hf2845, hq2846, hA2847⟩, ⟨w2848, hg2849, by omega⟩, ⟨w2850, hg2851, by omega⟩, hg2852⟩) rfl hl.1 rfl (Nat.le_of_ble_eq_true rfl) dX12_readPlain_9 ⟨Nat.zero_le _, Nat.zero_le _⟩ (fun r3195 H locs hI hp hS => ?_)
        rcases hp with ⟨rfl, hp⟩ | ⟨rfl, hp⟩
        · skip
          try simp only [rg, not_and, Int.not_le] at hp
          have hp3196 := hp
          obtain ⟨hb3197, hc3198, k3199, hE⟩ := hp3196
          have hp3196 : True := trivial
          rw [show (8 : Int32).toInt = 8 from by decide] at hc3198
          obtain ⟨hkf, hT, hz0, k3213, ⟨a3200, hf3201, hq3202, hA3203⟩, ⟨a3204, hf3205, hq3206, hA3207⟩, ⟨w3208, hg3209, k3214⟩, ⟨w3210, hg3211, k3215⟩, hg3212⟩ := hE
          have hInv2 : b1.toInt = -1 → bb.toInt = -1 ∧ ∀ r, Gr (rC cd TT) 3 dd (p1 + 1) r → Gr (rC cd TT) 3 dd pp r := fun h => ⟨(hInv h).1, r3_m (hInv h).2 hc3198⟩
          try rw [show (8 : Int32).toInt = 8 from by decide] at hp3196
          refine lv_istore_n (lv' := [(2, .int 1), (0, .ref h0), (1, .int x1)]) hx hb dX12_readPlain_12 rfl hl (by decide) rfl (fun ls hl => ?_)
          refine lv_goto (tgt := 2) hx hb dX12_readPlain_13 (by decide) ?_
          have zl : (1 : Int32).toInt = 1 := by decide
          exact ih_2 _ (by omega) H locs ls 1 (p1 + 1) b1 rfl (lv_sub hl [0, 1, 2] rfl) ⟨by decide, by decide⟩ ⟨by omega, by omega⟩ (by omega) (by first | omega | exact Or.inl (by decide)) (hInv2) (⟨hkf, hT, hz0, by omega, ⟨a3200, hf3201, hq3202, hA3203⟩, ⟨a3204, hf3205, hq3206, hA3207⟩, ⟨w3208, hg3209, by omega⟩, ⟨w3210, hg3211, by omega⟩, hg3212⟩) hI hS
        · skip
          try simp only [rg, not_and, Int.not_le] at hp
          have hp3216 := hp
          obtain ⟨hc3217, hE⟩ := hp3216
          have hp3216 : True := trivial
          rw [show (8 : Int32).toInt = 8 from by decide] at hc3217
          obtain ⟨hkf, hT, hz0, k3231, ⟨a3218, hf3219, hq3220, hA3221⟩, ⟨a3222, hf3223, hq3224, hA3225⟩, ⟨w3226, hg3227, k3232⟩, ⟨w3228, hg3229, k3233⟩, hg3230⟩ := hE
          try rw [show (8 : Int32).toInt = 8 from by decide] at hp3216
          refine lv_istore_n (lv' := [(2, .int 0), (0, .ref h0), (1, .int x1)]) hx hb dX12_readPlain_12 rfl hl (by decide) rfl (fun ls hl => ?_)
          refine lv_goto (tgt := 2) hx hb dX12_readPlain_13 (by decide) ?_
          have zl : (0 : Int32).toInt = 0 := by decide
          exact ih_2 _ (by omega) H locs ls 0 p1 b1 rfl (lv_sub hl [0, 1, 2] rfl) ⟨by decide, by decide⟩ ⟨by omega, by omega⟩ (by omega) (by first | omega | exact Or.inl (by decide)) (hInv) (⟨hkf, hT, hz0, by omega, ⟨a3218, hf3219, hq3220, hA3221⟩, ⟨a3222, hf3223, hq3224, hA3225⟩, ⟨w3226, hg3227, by omega⟩, ⟨w3228, hg3229, by omega⟩, hg3230⟩) hI hS
  refine lv_iconst (v := 1) hx hb dX12_readPlain_0 (by decide) ?_
  refine lv_istore_n (lv' := [(2, .int 1), (0, .ref h0), (1, .int x1)]) hx hb dX12_readPlain_1 rfl hl (by decide) rfl (fun ls hl => ?_)
  have zl : (1 : Int32).toInt = 1 := by decide
  exact J_2 _ s.heap [] ls 1 pp bb rfl (lv_sub hl [0, 1, 2] rfl) ⟨by decide, by decide⟩ ⟨by omega, by omega⟩ (by omega) (by first | omega | exact Or.inl (by decide)) (hInv0) (⟨hkf, hT, hz0, by omega, ⟨a1, hf2, hq3, hA4⟩, ⟨a5, hf6, hq7, hA8⟩, ⟨w9, hg10, by omega⟩, ⟨w11, hg12, by omega⟩, hg13⟩) hI hS
theorem dX12_readClause_0 : decode cX12_readClause 0 = .ok (.aload_n 0, 1) := by decide +kernel
theorem dX12_readClause_1 : decode cX12_readClause 1 = .ok (.iconst 1, 1) := by decide +kernel
theorem dX12_readClause_2 : decode cX12_readClause 2 = .ok (.invokevirtual 169, 3) := by decide +kernel
theorem dX12_readClause_5 : decode cX12_readClause 5 = .ok (.ifCond .ne 19, 3) := by decide +kernel
theorem dX12_readClause_8 : decode cX12_readClause 8 = .ok (.aload_n 0, 1) := by decide +kernel
theorem dX12_readClause_9 : decode cX12_readClause 9 = .ok (.iconst 2, 1) := by decide +kernel
theorem dX12_readClause_10 : decode cX12_readClause 10 = .ok (.invokevirtual 169, 3) := by decide +kernel
theorem dX12_readClause_13 : decode cX12_readClause 13 = .ok (.ifCond .ne 11, 3) := by decide +kernel
theorem dX12_readClause_16 : decode cX12_readClause 16 = .ok (.aload_n 0, 1) := by decide +kernel
theorem dX12_readClause_17 : decode cX12_readClause 17 = .ok (.iconst 3, 1) := by decide +kernel
theorem dX12_readClause_18 : decode cX12_readClause 18 = .ok (.invokevirtual 169, 3) := by decide +kernel
theorem dX12_readClause_21 : decode cX12_readClause 21 = .ok (.ifCond .eq 11, 3) := by decide +kernel
theorem dX12_readClause_24 : decode cX12_readClause 24 = .ok (.aload_n 0, 1) := by decide +kernel
theorem dX12_readClause_25 : decode cX12_readClause 25 = .ok (.iconst 0, 1) := by decide +kernel
theorem dX12_readClause_26 : decode cX12_readClause 26 = .ok (.invokevirtual 178, 3) := by decide +kernel
theorem dX12_readClause_29 : decode cX12_readClause 29 = .ok (.goto 8, 3) := by decide +kernel
theorem dX12_readClause_32 : decode cX12_readClause 32 = .ok (.aload_n 0, 1) := by decide +kernel
theorem dX12_readClause_33 : decode cX12_readClause 33 = .ok (.iconst 4, 1) := by decide +kernel
theorem dX12_readClause_34 : decode cX12_readClause 34 = .ok (.invokevirtual 182, 3) := by decide +kernel
theorem dX12_readClause_37 : decode cX12_readClause 37 = .ok (.aload_n 0, 1) := by decide +kernel
theorem dX12_readClause_38 : decode cX12_readClause 38 = .ok (.iconst 5, 1) := by decide +kernel
theorem dX12_readClause_39 : decode cX12_readClause 39 = .ok (.invokevirtual 169, 3) := by decide +kernel
theorem dX12_readClause_42 : decode cX12_readClause 42 = .ok (.ifCond .eq 8, 3) := by decide +kernel
theorem dX12_readClause_45 : decode cX12_readClause 45 = .ok (.aload_n 0, 1) := by decide +kernel
theorem dX12_readClause_46 : decode cX12_readClause 46 = .ok (.iconst 0, 1) := by decide +kernel
theorem dX12_readClause_47 : decode cX12_readClause 47 = .ok (.invokevirtual 185, 3) := by decide +kernel
theorem dX12_readClause_50 : decode cX12_readClause 50 = .ok (.return_, 1) := by decide +kernel
set_option maxHeartbeats 4000000 in
set_option maxRecDepth 100000 in
theorem c_X12_readClause (l : Launch) (E : Nat → Nat) (D : va_G) (G : th_G) (h0 : Nat) (hG0 : G h0 = some (10, 0)) (ff cd : Nat → Int32) (TT pp : Nat) (bb : Int32) : Met l yX12_readClause (tb (.code yX12_readClause cX12_readClause 1 none)) (rm 57) (va_Pc [.ref h0] (PX E D G (fun H => RD E D G h0 ff cd TT pp bb H))) (QXv E D G (fun H => ∃ (p2 : Nat) (b2 : Int32), RD E D G h0 ff cd TT p2 b2 H ∧ pp ≤ p2 ∧ (b2.toInt = -1 → bb.toInt = -1 ∧ g_cl (rC cd TT) pp p2))) 0 0 (th_A G) := by
  refine Met.ofW (cc := cX12_readClause) (maxL := 1) (ret := none) (by decide) rfl ?_
  intro p e s m args below meth c s₁ B hml hv
  obtain ⟨hav, ⟨hI, hN, hK⟩, hX⟩ := hv
  have hx := B.exec
  have hb := B.bytes
  have hr := B.returns
  have hts := atoms_spec (ws := tb (.code yX12_readClause cX12_readClause 1 none)) B.pre
  have hown : s.vm.findClass RX12 = some m.cls := findClass_of_methodNamed B.named
  have hlocks := B.notSynchronized
  have hS : va_S (th_A G) s.heap s.heap [] := va_S.rf
  have hl := lv_entry ([.ref h0]) (n := 1) (Nat.le_of_ble_eq_true rfl)
  rw [show entryFrame m args 1 = entryFrame m ([.ref h0] : List Value).toArray 1 from by rw [hav], lg_entry_eq]
  generalize (lg_sl ([.ref h0]) ++ List.replicate (1 - (lg_sl ([.ref h0])).length) Slot.unset).toArray = ls at hl ⊢
  have hl : lv_has ls 1 [(0, .ref h0)] := hl
  generalize hR : (headSpec (tb (.code yX12_readClause cX12_readClause 1 none)) (rm 57)).room = R
  have hR := hR.symm
  generalize hQ : MQ below (QXv E D G (fun H => ∃ (p2 : Nat) (b2 : Int32), RD E D G h0 ff cd TT p2 b2 H ∧ pp ≤ p2 ∧ (b2.toInt = -1 → bb.toInt = -1 ∧ g_cl (rC cd TT) pp p2))) args s 0 0 (th_A G) = QF
  have hQ := hQ.symm
  obtain ⟨hkf, hT, hz0, k14, ⟨a1, hf2, hq3, hA4⟩, ⟨a5, hf6, hq7, hA8⟩, ⟨w9, hg10, k15⟩, ⟨w11, hg12, k16⟩, hg13⟩ := hX
  refine lv_aload_n hx hb dX12_readClause_0 rfl (lv_at hl 0 rfl) ?_
  refine lv_iconst (v := 1) hx hb dX12_readClause_1 (by decide) ?_
  refine mx_i (As := [.int 1]) (rest := []) (n := 1) (d := 1) ⟨hx, hb, hml, hown, hts⟩ (c_X12_takes0 l E D G h0 hG0 1 ff cd TT pp bb (by first | decide | omega)) wd_1587 wd_1589 wp_66 wd_13 wd_1590 (by decide +kernel) ⟨by rw [hR]; exact Nat.le_of_ble_eq_true rfl, by rw [hR]; exact Nat.le_of_ble_eq_true rfl⟩ hI hN hK hS hG0 (⟨hkf, hT, hz0, by omega, ⟨a1, hf2, hq3, hA4⟩, ⟨a5, hf6, hq7, hA8⟩, ⟨w9, hg10, by omega⟩, ⟨w11, hg12, by omega⟩, hg13⟩) rfl hl.1 rfl (Nat.le_of_ble_eq_true rfl) dX12_readClause_2 ⟨Nat.zero_le _, Nat.zero_le _⟩ (fun r17 H locs hI hp hS => ?_)
  rcases hp with ⟨rfl, hp⟩ | ⟨rfl, hp⟩
  · skip
    try simp only [rg, not_and, Int.not_le] at hp
    have hp18 := hp
    obtain ⟨hb19, hc20, k21, hE⟩ := hp18
    have hp18 : True := trivial
    rw [show (1 : Int32).toInt = 1 from by decide] at hc20
    obtain ⟨hkf, hT, hz0, k35, ⟨a22, hf23, hq24, hA25⟩, ⟨a26, hf27, hq28, hA29⟩, ⟨w30, hg31, k36⟩, ⟨w32, hg33, k37⟩, hg34⟩ := hE
    try rw [show (1 : Int32).toInt = 1 from by decide] at hp18
    refine lv_if_ne (tgt := 24) hx hb dX12_readClause_5 (by decide) (fun _ => ?_) (fun c => absurd c (by decide))
    refine lv_aload_n hx hb dX12_readClause_24 rfl (lv_at hl 0 rfl) ?_
    refine lv_iconst (v := 0) hx hb dX12_readClause_25 (by decide) ?_
    refine mx_v (As := [.int 0]) (rest := []) (n := 1) (d := 29) ⟨hx, hb, hml, hown, hts⟩ (c_X12_readSum l E D G 8 h0 hG0 0 ff cd TT (pp + 1) bb 0 (by first | decide | omega) (by omega) (by omega) (c_X12_readPart l E D G 8)) wd_1595 wd_1597 wp_68 wd_13 wd_1598 (by decide +kernel) ⟨by rw [hR]; exact Nat.le_of_ble_eq_true rfl, by rw [hR]; exact Nat.le_of_ble_eq_true rfl⟩ hI hN hK hS hG0 (⟨hkf, hT, hz0, by omega, ⟨a22, hf23, hq24, hA25⟩, ⟨a26, hf27, hq28, hA29⟩, ⟨w30, hg31, by omega⟩, ⟨w32, hg33, by omega⟩, hg34⟩) rfl hl.1 rfl (Nat.le_of_ble_eq_true rfl) dX12_readClause_26 ⟨Nat.zero_le _, Nat.zero_le _⟩ (fun H locs hI hp hS => ?_)
    obtain ⟨pn39, bn40, hE, k42, hi41⟩ := hp
    obtain ⟨hkf, hT, hz0, k56, ⟨a43, hf44, hq45, hA46⟩, ⟨a47, hf48, hq49, hA50⟩, ⟨w51, hg52, k57⟩, ⟨w53, hg54, k58⟩, hg55⟩ := hE
    refine lv_goto (tgt := 37) hx hb dX12_readClause_29 (by decide) ?_
    refine lv_aload_n hx hb dX12_readClause_37 rfl (lv_at hl 0 rfl) ?_
    refine lv_iconst (v := 5) hx hb dX12_readClause_38 (by decide) ?_
    refine mx_i (As := [.int 5]) (rest := []) (n := 1) (d := 1) ⟨hx, hb, hml, hown, hts⟩ (c_X12_takes0 l E D G h0 hG0 5 ff cd TT pn39 bn40 (by first | decide | omega)) wd_1587 wd_1589 wp_66 wd_13 wd_1590 (by decide +kernel) ⟨by rw [hR]; exact Nat.le_of_ble_eq_true rfl, by rw [hR]; exact Nat.le_of_ble_eq_true rfl⟩ hI hN hK hS hG0 (⟨hkf, hT, hz0, by omega, ⟨a43, hf44, hq45, hA46⟩, ⟨a47, hf48, hq49, hA50⟩, ⟨w51, hg52, by omega⟩, ⟨w53, hg54, by omega⟩, hg55⟩) rfl hl.1 rfl (Nat.le_of_ble_eq_true rfl) dX12_readClause_39 ⟨Nat.zero_le _, Nat.zero_le _⟩ (fun r59 H locs hI hp hS => ?_)
    rcases hp with ⟨rfl, hp⟩ | ⟨rfl, hp⟩
    · skip
      try simp only [rg, not_and, Int.not_le] at hp
      have hp60 := hp
      obtain ⟨hb61, hc62, k63, hE⟩ := hp60
      have hp60 : True := trivial
      rw [show (5 : Int32).toInt = 5 from by decide] at hc62
      obtain ⟨hkf, hT, hz0, k77, ⟨a64, hf65, hq66, hA67⟩, ⟨a68, hf69, hq70, hA71⟩, ⟨w72, hg73, k78⟩, ⟨w74, hg75, k79⟩, hg76⟩ := hE
      try rw [show (5 : Int32).toInt = 5 from by decide] at hp60
      refine lv_if_eq (tgt := 50) hx hb dX12_readClause_42 (by decide) (fun c => absurd c (by decide)) (fun _ => ?_)
      refine lv_aload_n hx hb dX12_readClause_45 rfl (lv_at hl 0 rfl) ?_
      refine lv_iconst (v := 0) hx hb dX12_readClause_46 (by decide) ?_
      refine mx_v (As := [.int 0]) (rest := []) (n := 1) (d := 56) ⟨hx, hb, hml, hown, hts⟩ (c_X12_readTest l E D G 8 h0 hG0 0 ff cd TT (pn39 + 1) bn40 0 (by first | decide | omega) (by omega) (by omega) (c_X12_readPlain l E D G 8)) wd_1619 wd_1621 wp_74 wd_13 wd_1622 (by decide +kernel) ⟨by rw [hR]; exact Nat.le_of_ble_eq_true rfl, by rw [hR]; exact Nat.le_of_ble_eq_true rfl⟩ hI hN hK hS hG0 (⟨hkf, hT, hz0, by omega, ⟨a64, hf65, hq66, hA67⟩, ⟨a68, hf69, hq70, hA71⟩, ⟨w72, hg73, by omega⟩, ⟨w74, hg75, by omega⟩, hg76⟩) rfl hl.1 rfl (Nat.le_of_ble_eq_true rfl) dX12_readClause_47 ⟨Nat.zero_le _, Nat.zero_le _⟩ (fun H locs hI hp hS => ?_)
      obtain ⟨pn81, bn82, hE, k84, hi83⟩ := hp
      obtain ⟨hkf, hT, hz0, k98, ⟨a85, hf86, hq87, hA88⟩, ⟨a89, hf90, hq91, hA92⟩, ⟨w93, hg94, k99⟩, ⟨w95, hg96, k100⟩, hg97⟩ := hE
      have hpost : ∃ (p2 : Nat) (b2 : Int32), RD E D G h0 ff cd TT p2 b2 H ∧ pp ≤ p2 ∧ (b2.toInt = -1 → bb.toInt = -1 ∧ g_cl (rC cd TT) pp p2) := by
          refine ⟨pn81, bn82, ⟨hkf, hT, hz0, by omega, ⟨a85, hf86, hq87, hA88⟩, ⟨a89, hf90, hq91, hA92⟩, ⟨w93, hg94, by omega⟩, ⟨w95, hg96, by omega⟩, hg97⟩, by omega, ?_⟩
          intro h
          obtain ⟨hz1, hz2⟩ := hi83 h
          obtain ⟨ha1, ha2⟩ := hi41 hb61
          exact ⟨ha1, cl_1 (by omega) ha2 (Or.inr ⟨hc62, hz2⟩)⟩
      rw [hQ]
      exact W.vret hx hb hr (fun t ht hW => ⟨⟨(), rfl, trivial, ⟨by rw [ht]; exact hI, hN.warm hW, va_K.moved hW.alike hK⟩, by first | (rw [ht]; exact hpost) | exact hpost⟩, hS.F ht⟩) hS.2.2 dX12_readClause_50
    · skip
      try simp only [rg, not_and, Int.not_le] at hp
      have hp101 := hp
      obtain ⟨hc102, hE⟩ := hp101
      have hp101 : True := trivial
      rw [show (5 : Int32).toInt = 5 from by decide] at hc102
      obtain ⟨hkf, hT, hz0, k116, ⟨a103, hf104, hq105, hA106⟩, ⟨a107, hf108, hq109, hA110⟩, ⟨w111, hg112, k117⟩, ⟨w113, hg114, k118⟩, hg115⟩ := hE
      try rw [show (5 : Int32).toInt = 5 from by decide] at hp101
      refine lv_if_eq (tgt := 50) hx hb dX12_readClause_42 (by decide) (fun _ => ?_) (fun c => absurd c (by decide))
      have hpost : ∃ (p2 : Nat) (b2 : Int32), RD E D G h0 ff cd TT p2 b2 H ∧ pp ≤ p2 ∧ (b2.toInt = -1 → bb.toInt = -1 ∧ g_cl (rC cd TT) pp p2) := by
          refine ⟨pn39, bn40, ⟨hkf, hT, hz0, by omega, ⟨a103, hf104, hq105, hA106⟩, ⟨a107, hf108, hq109, hA110⟩, ⟨w111, hg112, by omega⟩, ⟨w113, hg114, by omega⟩, hg115⟩, by omega, ?_⟩
          intro h
          obtain ⟨ha1, ha2⟩ := hi41 h
          exact ⟨ha1, cl_1 (by omega) ha2 (Or.inl ⟨by omega, rfl⟩)⟩
      rw [hQ]
      exact W.vret hx hb hr (fun t ht hW => ⟨⟨(), rfl, trivial, ⟨by rw [ht]; exact hI, hN.warm hW, va_K.moved hW.alike hK⟩, by first | (rw [ht]; exact hpost) | exact hpost⟩, hS.F ht⟩) hS.2.2 dX12_readClause_50
  · skip
    try simp only [rg, not_and, Int.not_le] at hp
    have hp119 := hp
    obtain ⟨hc120, hE⟩ := hp119
    have hp119 : True := trivial
    rw [show (1 : Int32).toInt = 1 from by decide] at hc120
    obtain ⟨hkf, hT, hz0, k134, ⟨a121, hf122, hq123, hA124⟩, ⟨a125, hf126, hq127, hA128⟩, ⟨w129, hg130, k135⟩, ⟨w131, hg132, k136⟩, hg133⟩ := hE
    try rw [show (1 : Int32).toInt = 1 from by decide] at hp119
    refine lv_if_ne (tgt := 24) hx hb dX12_readClause_5 (by decide) (fun c => absurd c (by decide)) (fun _ => ?_)
    refine lv_aload_n hx hb dX12_readClause_8 rfl (lv_at hl 0 rfl) ?_
    refine lv_iconst (v := 2) hx hb dX12_readClause_9 (by decide) ?_
    refine mx_i (As := [.int 2]) (rest := []) (n := 1) (d := 1) ⟨hx, hb, hml, hown, hts⟩ (c_X12_takes0 l E D G h0 hG0 2 ff cd TT pp bb (by first | decide | omega)) wd_1587 wd_1589 wp_66 wd_13 wd_1590 (by decide +kernel) ⟨by rw [hR]; exact Nat.le_of_ble_eq_true rfl, by rw [hR]; exact Nat.le_of_ble_eq_true rfl⟩ hI hN hK hS hG0 (⟨hkf, hT, hz0, by omega, ⟨a121, hf122, hq123, hA124⟩, ⟨a125, hf126, hq127, hA128⟩, ⟨w129, hg130, by omega⟩, ⟨w131, hg132, by omega⟩, hg133⟩) rfl hl.1 rfl (Nat.le_of_ble_eq_true rfl) dX12_readClause_10 ⟨Nat.zero_le _, Nat.zero_le _⟩ (fun r137 H locs hI hp hS => ?_)
    rcases hp with ⟨rfl, hp⟩ | ⟨rfl, hp⟩
    · skip
      try simp only [rg, not_and, Int.not_le] at hp
      have hp138 := hp
      obtain ⟨hb139, hc140, k141, hE⟩ := hp138
      have hp138 : True := trivial
      rw [show (2 : Int32).toInt = 2 from by decide] at hc140
      obtain ⟨hkf, hT, hz0, k155, ⟨a142, hf143, hq144, hA145⟩, ⟨a146, hf147, hq148, hA149⟩, ⟨w150, hg151, k156⟩, ⟨w152, hg153, k157⟩, hg154⟩ := hE
      try rw [show (2 : Int32).toInt = 2 from by decide] at hp138
      refine lv_if_ne (tgt := 24) hx hb dX12_readClause_13 (by decide) (fun _ => ?_) (fun c => absurd c (by decide))
      refine lv_aload_n hx hb dX12_readClause_24 rfl (lv_at hl 0 rfl) ?_
      refine lv_iconst (v := 0) hx hb dX12_readClause_25 (by decide) ?_
      refine mx_v (As := [.int 0]) (rest := []) (n := 1) (d := 29) ⟨hx, hb, hml, hown, hts⟩ (c_X12_readSum l E D G 8 h0 hG0 0 ff cd TT (pp + 1) bb 0 (by first | decide | omega) (by omega) (by omega) (c_X12_readPart l E D G 8)) wd_1595 wd_1597 wp_68 wd_13 wd_1598 (by decide +kernel) ⟨by rw [hR]; exact Nat.le_of_ble_eq_true rfl, by rw [hR]; exact Nat.le_of_ble_eq_true rfl⟩ hI hN hK hS hG0 (⟨hkf, hT, hz0, by omega, ⟨a142, hf143, hq144, hA145⟩, ⟨a146, hf147, hq148, hA149⟩, ⟨w150, hg151, by omega⟩, ⟨w152, hg153, by omega⟩, hg154⟩) rfl hl.1 rfl (Nat.le_of_ble_eq_true rfl) dX12_readClause_26 ⟨Nat.zero_le _, Nat.zero_le _⟩ (fun H locs hI hp hS => ?_)
      obtain ⟨pn159, bn160, hE, k162, hi161⟩ := hp
      obtain ⟨hkf, hT, hz0, k176, ⟨a163, hf164, hq165, hA166⟩, ⟨a167, hf168, hq169, hA170⟩, ⟨w171, hg172, k177⟩, ⟨w173, hg174, k178⟩, hg175⟩ := hE
      refine lv_goto (tgt := 37) hx hb dX12_readClause_29 (by decide) ?_
      refine lv_aload_n hx hb dX12_readClause_37 rfl (lv_at hl 0 rfl) ?_
      refine lv_iconst (v := 5) hx hb dX12_readClause_38 (by decide) ?_
      refine mx_i (As := [.int 5]) (rest := []) (n := 1) (d := 1) ⟨hx, hb, hml, hown, hts⟩ (c_X12_takes0 l E D G h0 hG0 5 ff cd TT pn159 bn160 (by first | decide | omega)) wd_1587 wd_1589 wp_66 wd_13 wd_1590 (by decide +kernel) ⟨by rw [hR]; exact Nat.le_of_ble_eq_true rfl, by rw [hR]; exact Nat.le_of_ble_eq_true rfl⟩ hI hN hK hS hG0 (⟨hkf, hT, hz0, by omega, ⟨a163, hf164, hq165, hA166⟩, ⟨a167, hf168, hq169, hA170⟩, ⟨w171, hg172, by omega⟩, ⟨w173, hg174, by omega⟩, hg175⟩) rfl hl.1 rfl (Nat.le_of_ble_eq_true rfl) dX12_readClause_39 ⟨Nat.zero_le _, Nat.zero_le _⟩ (fun r179 H locs hI hp hS => ?_)
      rcases hp with ⟨rfl, hp⟩ | ⟨rfl, hp⟩
      · skip
        try simp only [rg, not_and, Int.not_le] at hp
        have hp180 := hp
        obtain ⟨hb181, hc182, k183, hE⟩ := hp180
        have hp180 : True := trivial
        rw [show (5 : Int32).toInt = 5 from by decide] at hc182
        obtain ⟨hkf, hT, hz0, k197, ⟨a184, hf185, hq186, hA187⟩, ⟨a188, hf189, hq190, hA191⟩, ⟨w192, hg193, k198⟩, ⟨w194, hg195, k199⟩, hg196⟩ := hE
        try rw [show (5 : Int32).toInt = 5 from by decide] at hp180
        refine lv_if_eq (tgt := 50) hx hb dX12_readClause_42 (by decide) (fun c => absurd c (by decide)) (fun _ => ?_)
        refine lv_aload_n hx hb dX12_readClause_45 rfl (lv_at hl 0 rfl) ?_
        refine lv_iconst (v := 0) hx hb dX12_readClause_46 (by decide) ?_
        refine mx_v (As := [.int 0]) (rest := []) (n := 1) (d := 56) ⟨hx, hb, hml, hown, hts⟩ (c_X12_readTest l E D G 8 h0 hG0 0 ff cd TT (pn159 + 1) bn160 0 (by first | decide | omega) (by omega) (by omega) (c_X12_readPlain l E D G 8)) wd_1619 wd_1621 wp_74 wd_13 wd_1622 (by decide +kernel) ⟨by rw [hR]; exact Nat.le_of_ble_eq_true rfl, by rw [hR]; exact Nat.le_of_ble_eq_true rfl⟩ hI hN hK hS hG0 (⟨hkf, hT, hz0, by omega, ⟨a184, hf185, hq186, hA187⟩, ⟨a188, hf189, hq190, hA191⟩, ⟨w192, hg193, by omega⟩, ⟨w194, hg195, by omega⟩, hg196⟩) rfl hl.1 rfl (Nat.le_of_ble_eq_true rfl) dX12_readClause_47 ⟨Nat.zero_le _, Nat.zero_le _⟩ (fun H locs hI hp hS => ?_)
        obtain ⟨pn201, bn202, hE, k204, hi203⟩ := hp
        obtain ⟨hkf, hT, hz0, k218, ⟨a205, hf206, hq207, hA208⟩, ⟨a209, hf210, hq211, hA212⟩, ⟨w213, hg214, k219⟩, ⟨w215, hg216, k220⟩, hg217⟩ := hE
        have hpost : ∃ (p2 : Nat) (b2 : Int32), RD E D G h0 ff cd TT p2 b2 H ∧ pp ≤ p2 ∧ (b2.toInt = -1 → bb.toInt = -1 ∧ g_cl (rC cd TT) pp p2) := by
            refine ⟨pn201, bn202, ⟨hkf, hT, hz0, by omega, ⟨a205, hf206, hq207, hA208⟩, ⟨a209, hf210, hq211, hA212⟩, ⟨w213, hg214, by omega⟩, ⟨w215, hg216, by omega⟩, hg217⟩, by omega, ?_⟩
            intro h
            obtain ⟨hz1, hz2⟩ := hi203 h
            obtain ⟨ha1, ha2⟩ := hi161 hb181
            exact ⟨ha1, cl_1 (by omega) ha2 (Or.inr ⟨hc182, hz2⟩)⟩
        rw [hQ]
        exact W.vret hx hb hr (fun t ht hW => ⟨⟨(), rfl, trivial, ⟨by rw [ht]; exact hI, hN.warm hW, va_K.moved hW.alike hK⟩, by first | (rw [ht]; exact hpost) | exact hpost⟩, hS.F ht⟩) hS.2.2 dX12_readClause_50
      · skip
        try simp only [rg, not_and, Int.not_le] at hp
        have hp221 := hp
        obtain ⟨hc222, hE⟩ := hp221
        have hp221 : True := trivial
        rw [show (5 : Int32).toInt = 5 from by decide] at hc222
        obtain ⟨hkf, hT, hz0, k236, ⟨a223, hf224, hq225, hA226⟩, ⟨a227, hf228, hq229, hA230⟩, ⟨w231, hg232, k237⟩, ⟨w233, hg234, k238⟩, hg235⟩ := hE
        try rw [show (5 : Int32).toInt = 5 from by decide] at hp221
        refine lv_if_eq (tgt := 50) hx hb dX12_readClause_42 (by decide) (fun _ => ?_) (fun c => absurd c (by decide))
        have hpost : ∃ (p2 : Nat) (b2 : Int32), RD E D G h0 ff cd TT p2 b2 H ∧ pp ≤ p2 ∧ (b2.toInt = -1 → bb.toInt = -1 ∧ g_cl (rC cd TT) pp p2) := by
            refine ⟨pn159, bn160, ⟨hkf, hT, hz0, by omega, ⟨a223, hf224, hq225, hA226⟩, ⟨a227, hf228, hq229, hA230⟩, ⟨w231, hg232, by omega⟩, ⟨w233, hg234, by omega⟩, hg235⟩, by omega, ?_⟩
            intro h
            obtain ⟨ha1, ha2⟩ := hi161 h
            exact ⟨ha1, cl_1 (by omega) ha2 (Or.inl ⟨by omega, rfl⟩)⟩
        rw [hQ]
        exact W.vret hx hb hr (fun t ht hW => ⟨⟨(), rfl, trivial, ⟨by rw [ht]; exact hI, hN.warm hW, va_K.moved hW.alike hK⟩, by first | (rw [ht]; exact hpost) | exact hpost⟩, hS.F ht⟩) hS.2.2 dX12_readClause_50
    · skip
      try simp only [rg, not_and, Int.not_le] at hp
      have hp239 := hp
      obtain ⟨hc240, hE⟩ := hp239
      have hp239 : True := trivial
      rw [show (2 : Int32).toInt = 2 from by decide] at hc240
      obtain ⟨hkf, hT, hz0, k254, ⟨a241, hf242, hq243, hA244⟩, ⟨a245, hf246, hq247, hA248⟩, ⟨w249, hg250, k255⟩, ⟨w251, hg252, k256⟩, hg253⟩ := hE
      try rw [show (2 : Int32).toInt = 2 from by decide] at hp239
      refine lv_if_ne (tgt := 24) hx hb dX12_readClause_13 (by decide) (fun c => absurd c (by decide)) (fun _ => ?_)
      refine lv_aload_n hx hb dX12_readClause_16 rfl (lv_at hl 0 rfl) ?_
      refine lv_iconst (v := 3) hx hb dX12_readClause_17 (by decide) ?_
      refine mx_i (As := [.int 3]) (rest := []) (n := 1) (d := 1) ⟨hx, hb, hml, hown, hts⟩ (c_X12_takes0 l E D G h0 hG0 3 ff cd TT pp bb (by first | decide | omega)) wd_1587 wd_1589 wp_66 wd_13 wd_1590 (by decide +kernel) ⟨by rw [hR]; exact Nat.le_of_ble_eq_true rfl, by rw [hR]; exact Nat.le_of_ble_eq_true rfl⟩ hI hN hK hS hG0 (⟨hkf, hT, hz0, by omega, ⟨a241, hf242, hq243, hA244⟩, ⟨a245, hf246, hq247, hA248⟩, ⟨w249, hg250, by omega⟩, ⟨w251, hg252, by omega⟩, hg253⟩) rfl hl.1 rfl (Nat.le_of_ble_eq_true rfl) dX12_readClause_18 ⟨Nat.zero_le _, Nat.zero_le _⟩ (fun r257 H locs hI hp hS => ?_)
      rcases hp with ⟨rfl, hp⟩ | ⟨rfl, hp⟩
      · skip
        try simp only [rg, not_and, Int.not_le] at hp
        have hp258 := hp
        obtain ⟨hb259, hc260, k261, hE⟩ := hp258
        have hp258 : True := trivial
        rw [show (3 : Int32).toInt = 3 from by decide] at hc260
        obtain ⟨hkf, hT, hz0, k275, ⟨a262, hf263, hq264, hA265⟩, ⟨a266, hf267, hq268, hA269⟩, ⟨w270, hg271, k276⟩, ⟨w272, hg273, k277⟩, hg274⟩ := hE
        try rw [show (3 : Int32).toInt = 3 from by decide] at hp258
        refine lv_if_eq (tgt := 32) hx hb dX12_readClause_21 (by decide) (fun c => absurd c (by decide)) (fun _ => ?_)
        refine lv_aload_n hx hb dX12_readClause_24 rfl (lv_at hl 0 rfl) ?_
        refine lv_iconst (v := 0) hx hb dX12_readClause_25 (by decide) ?_
        refine mx_v (As := [.int 0]) (rest := []) (n := 1) (d := 29) ⟨hx, hb, hml, hown, hts⟩ (c_X12_readSum l E D G 8 h0 hG0 0 ff cd TT (pp + 1) bb 0 (by first | decide | omega) (by omega) (by omega) (c_X12_readPart l E D G 8)) wd_1595 wd_1597 wp_68 wd_13 wd_1598 (by decide +kernel) ⟨by rw [hR]; exact Nat.le_of_ble_eq_true rfl, by rw [hR]; exact Nat.le_of_ble_eq_true rfl⟩ hI hN hK hS hG0 (⟨hkf, hT, hz0, by omega, ⟨a262, hf263, hq264, hA265⟩, ⟨a266, hf267, hq268, hA269⟩, ⟨w270, hg271, by omega⟩, ⟨w272, hg273, by omega⟩, hg274⟩) rfl hl.1 rfl (Nat.le_of_ble_eq_true rfl) dX12_readClause_26 ⟨Nat.zero_le _, Nat.zero_le _⟩ (fun H locs hI hp hS => ?_)
        obtain ⟨pn279, bn280, hE, k282, hi281⟩ := hp
        obtain ⟨hkf, hT, hz0, k296, ⟨a283, hf284, hq285, hA286⟩, ⟨a287, hf288, hq289, hA290⟩, ⟨w291, hg292, k297⟩, ⟨w293, hg294, k298⟩, hg295⟩ := hE
        refine lv_goto (tgt := 37) hx hb dX12_readClause_29 (by decide) ?_
        refine lv_aload_n hx hb dX12_readClause_37 rfl (lv_at hl 0 rfl) ?_
        refine lv_iconst (v := 5) hx hb dX12_readClause_38 (by decide) ?_
        refine mx_i (As := [.int 5]) (rest := []) (n := 1) (d := 1) ⟨hx, hb, hml, hown, hts⟩ (c_X12_takes0 l E D G h0 hG0 5 ff cd TT pn279 bn280 (by first | decide | omega)) wd_1587 wd_1589 wp_66 wd_13 wd_1590 (by decide +kernel) ⟨by rw [hR]; exact Nat.le_of_ble_eq_true rfl, by rw [hR]; exact Nat.le_of_ble_eq_true rfl⟩ hI hN hK hS hG0 (⟨hkf, hT, hz0, by omega, ⟨a283, hf284, hq285, hA286⟩, ⟨a287, hf288, hq289, hA290⟩, ⟨w291, hg292, by omega⟩, ⟨w293, hg294, by omega⟩, hg295⟩) rfl hl.1 rfl (Nat.le_of_ble_eq_true rfl) dX12_readClause_39 ⟨Nat.zero_le _, Nat.zero_le _⟩ (fun r299 H locs hI hp hS => ?_)
        rcases hp with ⟨rfl, hp⟩ | ⟨rfl, hp⟩
        · skip
          try simp only [rg, not_and, Int.not_le] at hp
          have hp300 := hp
          obtain ⟨hb301, hc302, k303, hE⟩ := hp300
          have hp300 : True := trivial
          rw [show (5 : Int32).toInt = 5 from by decide] at hc302
          obtain ⟨hkf, hT, hz0, k317, ⟨a304, hf305, hq306, hA307⟩, ⟨a308, hf309, hq310, hA311⟩, ⟨w312, hg313, k318⟩, ⟨w314, hg315, k319⟩, hg316⟩ := hE
          try rw [show (5 : Int32).toInt = 5 from by decide] at hp300
          refine lv_if_eq (tgt := 50) hx hb dX12_readClause_42 (by decide) (fun c => absurd c (by decide)) (fun _ => ?_)
          refine lv_aload_n hx hb dX12_readClause_45 rfl (lv_at hl 0 rfl) ?_
          refine lv_iconst (v := 0) hx hb dX12_readClause_46 (by decide) ?_
          refine mx_v (As := [.int 0]) (rest := []) (n := 1) (d := 56) ⟨hx, hb, hml, hown, hts⟩ (c_X12_readTest l E D G 8 h0 hG0 0 ff cd TT (pn279 + 1) bn280 0 (by first | decide | omega) (by omega) (by omega) (c_X12_readPlain l E D G 8)) wd_1619 wd_1621 wp_74 wd_13 wd_1622 (by decide +kernel) ⟨by rw [hR]; exact Nat.le_of_ble_eq_true rfl, by rw [hR]; exact Nat.le_of_ble_eq_true rfl⟩ hI hN hK hS hG0 (⟨hkf, hT, hz0, by omega, ⟨a304, hf305, hq306, hA307⟩, ⟨a308, hf309, hq310, hA311⟩, ⟨w312, hg313, by omega⟩, ⟨w314, hg315, by omega⟩, hg316⟩) rfl hl.1 rfl (Nat.le_of_ble_eq_true rfl) dX12_readClause_47 ⟨Nat.zero_le _, Nat.zero_le _⟩ (fun H locs hI hp hS => ?_)
          obtain ⟨pn321, bn322, hE, k324, hi323⟩ := hp
          obtain ⟨hkf, hT, hz0, k338, ⟨a325, hf326, hq327, hA328⟩, ⟨a329, hf330, hq331, hA332⟩, ⟨w333, hg334, k339⟩, ⟨w335, hg336, k340⟩, hg337⟩ := hE
          have hpost : ∃ (p2 : Nat) (b2 : Int32), RD E D G h0 ff cd TT p2 b2 H ∧ pp ≤ p2 ∧ (b2.toInt = -1 → bb.toInt = -1 ∧ g_cl (rC cd TT) pp p2) := by
              refine ⟨pn321, bn322, ⟨hkf, hT, hz0, by omega, ⟨a325, hf326, hq327, hA328⟩, ⟨a329, hf330, hq331, hA332⟩, ⟨w333, hg334, by omega⟩, ⟨w335, hg336, by omega⟩, hg337⟩, by omega, ?_⟩
              intro h
              obtain ⟨hz1, hz2⟩ := hi323 h
              obtain ⟨ha1, ha2⟩ := hi281 hb301
              exact ⟨ha1, cl_1 (by omega) ha2 (Or.inr ⟨hc302, hz2⟩)⟩
          rw [hQ]
          exact W.vret hx hb hr (fun t ht hW => ⟨⟨(), rfl, trivial, ⟨by rw [ht]; exact hI, hN.warm hW, va_K.moved hW.alike hK⟩, by first | (rw [ht]; exact hpost) | exact hpost⟩, hS.F ht⟩) hS.2.2 dX12_readClause_50
        · skip
          try simp only [rg, not_and, Int.not_le] at hp
          have hp341 := hp
          obtain ⟨hc342, hE⟩ := hp341
          have hp341 : True := trivial
          rw [show (5 : Int32).toInt = 5 from by decide] at hc342
          obtain ⟨hkf, hT, hz0, k356, ⟨a343, hf344, hq345, hA346⟩, ⟨a347, hf348, hq349, hA350⟩, ⟨w351, hg352, k357⟩, ⟨w353, hg354, k358⟩, hg355⟩ := hE
          try rw [show (5 : Int32).toInt = 5 from by decide] at hp341
          refine lv_if_eq (tgt := 50) hx hb dX12_readClause_42 (by decide) (fun _ => ?_) (fun c => absurd c (by decide))
          have hpost : ∃ (p2 : Nat) (b2 : Int32), RD E D G h0 ff cd TT p2 b2 H ∧ pp ≤ p2 ∧ (b2.toInt = -1 → bb.toInt = -1 ∧ g_cl (rC cd TT) pp p2) := by
              refine ⟨pn279, bn280, ⟨hkf, hT, hz0, by omega, ⟨a343, hf344, hq345, hA346⟩, ⟨a347, hf348, hq349, hA350⟩, ⟨w351, hg352, by omega⟩, ⟨w353, hg354, by omega⟩, hg355⟩, by omega, ?_⟩
              intro h
              obtain ⟨ha1, ha2⟩ := hi281 h
              exact ⟨ha1, cl_1 (by omega) ha2 (Or.inl ⟨by omega, rfl⟩)⟩
          rw [hQ]
          exact W.vret hx hb hr (fun t ht hW => ⟨⟨(), rfl, trivial, ⟨by rw [ht]; exact hI, hN.warm hW, va_K.moved hW.alike hK⟩, by first | (rw [ht]; exact hpost) | exact hpost⟩, hS.F ht⟩) hS.2.2 dX12_readClause_50
      · skip
        try simp only [rg, not_and, Int.not_le] at hp
        have hp359 := hp
        obtain ⟨hc360, hE⟩ := hp359
        have hp359 : True := trivial
        rw [show (3 : Int32).toInt = 3 from by decide] at hc360
        obtain ⟨hkf, hT, hz0, k374, ⟨a361, hf362, hq363, hA364⟩, ⟨a365, hf366, hq367, hA368⟩, ⟨w369, hg370, k375⟩, ⟨w371, hg372, k376⟩, hg373⟩ := hE
        try rw [show (3 : Int32).toInt = 3 from by decide] at hp359
        refine lv_if_eq (tgt := 32) hx hb dX12_readClause_21 (by decide) (fun _ => ?_) (fun c => absurd c (by decide))
        refine lv_aload_n hx hb dX12_readClause_32 rfl (lv_at hl 0 rfl) ?_
        refine lv_iconst (v := 4) hx hb dX12_readClause_33 (by decide) ?_
        refine mx_v (As := [.int 4]) (rest := []) (n := 1) (d := 2) ⟨hx, hb, hml, hown, hts⟩ (c_X12_must l E D G h0 hG0 4 ff cd TT pp bb (by first | decide | omega)) wd_1611 wd_1613 wp_72 wd_13 wd_1614 (by decide +kernel) ⟨by rw [hR]; exact Nat.le_of_ble_eq_true rfl, by rw [hR]; exact Nat.le_of_ble_eq_true rfl⟩ hI hN hK hS hG0 (⟨hkf, hT, hz0, by omega, ⟨a361, hf362, hq363, hA364⟩, ⟨a365, hf366, hq367, hA368⟩, ⟨w369, hg370, by omega⟩, ⟨w371, hg372, by omega⟩, hg373⟩) rfl hl.1 rfl (Nat.le_of_ble_eq_true rfl) dX12_readClause_34 ⟨Nat.zero_le _, Nat.zero_le _⟩ (fun H locs hI hp hS => ?_)
        obtain ⟨pn378, bn379, hE, k381, hi380⟩ := hp
        obtain ⟨hkf, hT, hz0, k395, ⟨a382, hf383, hq384, hA385⟩, ⟨a386, hf387, hq388, hA389⟩, ⟨w390, hg391, k396⟩, ⟨w392, hg393, k397⟩, hg394⟩ := hE
        rw [show (4 : Int32).toInt = 4 from by decide] at hi380
        refine lv_aload_n hx hb dX12_readClause_37 rfl (lv_at hl 0 rfl) ?_
        refine lv_iconst (v := 5) hx hb dX12_readClause_38 (by decide) ?_
        refine mx_i (As := [.int 5]) (rest := []) (n := 1) (d := 1) ⟨hx, hb, hml, hown, hts⟩ (c_X12_takes0 l E D G h0 hG0 5 ff cd TT pn378 bn379 (by first | decide | omega)) wd_1587 wd_1589 wp_66 wd_13 wd_1590 (by decide +kernel) ⟨by rw [hR]; exact Nat.le_of_ble_eq_true rfl, by rw [hR]; exact Nat.le_of_ble_eq_true rfl⟩ hI hN hK hS hG0 (⟨hkf, hT, hz0, by omega, ⟨a382, hf383, hq384, hA385⟩, ⟨a386, hf387, hq388, hA389⟩, ⟨w390, hg391, by omega⟩, ⟨w392, hg393, by omega⟩, hg394⟩) rfl hl.1 rfl (Nat.le_of_ble_eq_true rfl) dX12_readClause_39 ⟨Nat.zero_le _, Nat.zero_le _⟩ (fun r398 H locs hI hp hS => ?_)
        rcases hp with ⟨rfl, hp⟩ | ⟨rfl, hp⟩
        · skip
          try simp only [rg, not_and, Int.not_le] at hp
          have hp399 := hp
          obtain ⟨hb400, hc401, k402, hE⟩ := hp399
          have hp399 : True := trivial
          rw [show (5 : Int32).toInt = 5 from by decide] at hc401
          obtain ⟨hkf, hT, hz0, k416, ⟨a403, hf404, hq405, hA406⟩, ⟨a407, hf408, hq409, hA410⟩, ⟨w411, hg412, k417⟩, ⟨w413, hg414, k418⟩, hg415⟩ := hE
          try rw [show (5 : Int32).toInt = 5 from by decide] at hp399
          refine lv_if_eq (tgt := 50) hx hb dX12_readClause_42 (by decide) (fun c => absurd c (by decide)) (fun _ => ?_)
          refine lv_aload_n hx hb dX12_readClause_45 rfl (lv_at hl 0 rfl) ?_
          refine lv_iconst (v := 0) hx hb dX12_readClause_46 (by decide) ?_
          refine mx_v (As := [.int 0]) (rest := []) (n := 1) (d := 56) ⟨hx, hb, hml, hown, hts⟩ (c_X12_readTest l E D G 8 h0 hG0 0 ff cd TT (pn378 + 1) bn379 0 (by first | decide | omega) (by omega) (by omega) (c_X12_readPlain l E D G 8)) wd_1619 wd_1621 wp_74 wd_13 wd_1622 (by decide +kernel) ⟨by rw [hR]; exact Nat.le_of_ble_eq_true rfl, by rw [hR]; exact Nat.le_of_ble_eq_true rfl⟩ hI hN hK hS hG0 (⟨hkf, hT, hz0, by omega, ⟨a403, hf404, hq405, hA406⟩, ⟨a407, hf408, hq409, hA410⟩, ⟨w411, hg412, by omega⟩, ⟨w413, hg414, by omega⟩, hg415⟩) rfl hl.1 rfl (Nat.le_of_ble_eq_true rfl) dX12_readClause_47 ⟨Nat.zero_le _, Nat.zero_le _⟩ (fun H locs hI hp hS => ?_)
          obtain ⟨pn420, bn421, hE, k423, hi422⟩ := hp
          obtain ⟨hkf, hT, hz0, k437, ⟨a424, hf425, hq426, hA427⟩, ⟨a428, hf429, hq430, hA431⟩, ⟨w432, hg433, k438⟩, ⟨w434, hg435, k439⟩, hg436⟩ := hE
          have hpost : ∃ (p2 : Nat) (b2 : Int32), RD E D G h0 ff cd TT p2 b2 H ∧ pp ≤ p2 ∧ (b2.toInt = -1 → bb.toInt = -1 ∧ g_cl (rC cd TT) pp p2) := by
              refine ⟨pn420, bn421, ⟨hkf, hT, hz0, by omega, ⟨a424, hf425, hq426, hA427⟩, ⟨a428, hf429, hq430, hA431⟩, ⟨w432, hg433, by omega⟩, ⟨w434, hg435, by omega⟩, hg436⟩, by omega, ?_⟩
              intro h
              obtain ⟨hz1, hz2⟩ := hi422 h
              obtain ⟨ha1, ha2, ha3⟩ := hi380 hb400
              exact ⟨ha1, cl_2 ha2 ha3 (Or.inr ⟨hc401, hz2⟩)⟩
          rw [hQ]
          exact W.vret hx hb hr (fun t ht hW => ⟨⟨(), rfl, trivial, ⟨by rw [ht]; exact hI, hN.warm hW, va_K.moved hW.alike hK⟩, by first | (rw [ht]; exact hpost) | exact hpost⟩, hS.F ht⟩) hS.2.2 dX12_readClause_50
        · skip
          try simp only [rg, not_and, Int.not_le] at hp
          have hp440 := hp
          obtain ⟨hc441, hE⟩ := hp440
          have hp440 : True := trivial
          rw [show (5 : Int32).toInt = 5 from by decide] at hc441
          obtain ⟨hkf, hT, hz0, k455, ⟨a442, hf443, hq444, hA445⟩, ⟨a446, hf447, hq448, hA449⟩, ⟨w450, hg451, k456⟩, ⟨w452, hg453, k457⟩, hg454⟩ := hE
          try rw [show (5 : Int32).toInt = 5 from by decide] at hp440
          refine lv_if_eq (tgt := 50) hx hb dX12_readClause_42 (by decide) (fun _ => ?_) (fun c => absurd c (by decide))
          have hpost : ∃ (p2 : Nat) (b2 : Int32), RD E D G h0 ff cd TT p2 b2 H ∧ pp ≤ p2 ∧ (b2.toInt = -1 → bb.toInt = -1 ∧ g_cl (rC cd TT) pp p2) := by
              refine ⟨pn378, bn379, ⟨hkf, hT, hz0, by omega, ⟨a442, hf443, hq444, hA445⟩, ⟨a446, hf447, hq448, hA449⟩, ⟨w450, hg451, by omega⟩, ⟨w452, hg453, by omega⟩, hg454⟩, by omega, ?_⟩
              intro h
              obtain ⟨ha1, ha2, ha3⟩ := hi380 h
              exact ⟨ha1, cl_2 ha2 ha3 (Or.inl ⟨by omega, rfl⟩)⟩
          rw [hQ]
          exact W.vret hx hb hr (fun t ht hW => ⟨⟨(), rfl, trivial, ⟨by rw [ht]; exact hI, hN.warm hW, va_K.moved hW.alike hK⟩, by first | (rw [ht]; exact hpost) | exact hpost⟩, hS.F ht⟩) hS.2.2 dX12_readClause_50
theorem dX12_wordOf_0 : decode cX12_wordOf 0 = .ok (.iconst 1, 1) := by decide +kernel
theorem dX12_wordOf_1 : decode cX12_wordOf 1 = .ok (.istore_n 3, 1) := by decide +kernel
theorem dX12_wordOf_2 : decode cX12_wordOf 2 = .ok (.iconst 0, 1) := by decide +kernel
theorem dX12_wordOf_3 : decode cX12_wordOf 3 = .ok (.istore 4, 2) := by decide +kernel
theorem dX12_wordOf_5 : decode cX12_wordOf 5 = .ok (.iload 4, 2) := by decide +kernel
theorem dX12_wordOf_7 : decode cX12_wordOf 7 = .ok (.aload_n 0, 1) := by decide +kernel
theorem dX12_wordOf_8 : decode cX12_wordOf 8 = .ok (.getfield 30, 3) := by decide +kernel
theorem dX12_wordOf_11 : decode cX12_wordOf 11 = .ok (.arraylength, 1) := by decide +kernel
theorem dX12_wordOf_12 : decode cX12_wordOf 12 = .ok (.if_icmp .ge 114, 3) := by decide +kernel
theorem dX12_wordOf_15 : decode cX12_wordOf 15 = .ok (.iconst 0, 1) := by decide +kernel
theorem dX12_wordOf_16 : decode cX12_wordOf 16 = .ok (.istore 5, 2) := by decide +kernel
theorem dX12_wordOf_18 : decode cX12_wordOf 18 = .ok (.aload_n 0, 1) := by decide +kernel
theorem dX12_wordOf_19 : decode cX12_wordOf 19 = .ok (.getfield 30, 3) := by decide +kernel
theorem dX12_wordOf_22 : decode cX12_wordOf 22 = .ok (.iload 4, 2) := by decide +kernel
theorem dX12_wordOf_24 : decode cX12_wordOf 24 = .ok (.iload 5, 2) := by decide +kernel
theorem dX12_wordOf_26 : decode cX12_wordOf 26 = .ok (.iadd, 1) := by decide +kernel
theorem dX12_wordOf_27 : decode cX12_wordOf 27 = .ok (.baload, 1) := by decide +kernel
theorem dX12_wordOf_28 : decode cX12_wordOf 28 = .ok (.bipush 32, 2) := by decide +kernel
theorem dX12_wordOf_30 : decode cX12_wordOf 30 = .ok (.if_icmp .eq 9, 3) := by decide +kernel
theorem dX12_wordOf_33 : decode cX12_wordOf 33 = .ok (.iinc 5 1, 3) := by decide +kernel
theorem dX12_wordOf_36 : decode cX12_wordOf 36 = .ok (.goto (-18), 3) := by decide +kernel
theorem dX12_wordOf_39 : decode cX12_wordOf 39 = .ok (.iload 5, 2) := by decide +kernel
theorem dX12_wordOf_41 : decode cX12_wordOf 41 = .ok (.iload_n 2, 1) := by decide +kernel
theorem dX12_wordOf_42 : decode cX12_wordOf 42 = .ok (.iload_n 1, 1) := by decide +kernel
theorem dX12_wordOf_43 : decode cX12_wordOf 43 = .ok (.isub, 1) := by decide +kernel
theorem dX12_wordOf_44 : decode cX12_wordOf 44 = .ok (.if_icmp .ne 7, 3) := by decide +kernel
theorem dX12_wordOf_47 : decode cX12_wordOf 47 = .ok (.iconst 1, 1) := by decide +kernel
theorem dX12_wordOf_48 : decode cX12_wordOf 48 = .ok (.goto 4, 3) := by decide +kernel
theorem dX12_wordOf_51 : decode cX12_wordOf 51 = .ok (.iconst 0, 1) := by decide +kernel
theorem dX12_wordOf_52 : decode cX12_wordOf 52 = .ok (.istore 6, 2) := by decide +kernel
theorem dX12_wordOf_54 : decode cX12_wordOf 54 = .ok (.iconst 0, 1) := by decide +kernel
theorem dX12_wordOf_55 : decode cX12_wordOf 55 = .ok (.istore 7, 2) := by decide +kernel
theorem dX12_wordOf_57 : decode cX12_wordOf 57 = .ok (.iload 7, 2) := by decide +kernel
theorem dX12_wordOf_59 : decode cX12_wordOf 59 = .ok (.iload 5, 2) := by decide +kernel
theorem dX12_wordOf_61 : decode cX12_wordOf 61 = .ok (.if_icmp .ge 43, 3) := by decide +kernel
theorem dX12_wordOf_64 : decode cX12_wordOf 64 = .ok (.iload 6, 2) := by decide +kernel
theorem dX12_wordOf_66 : decode cX12_wordOf 66 = .ok (.ifCond .eq 38, 3) := by decide +kernel
theorem dX12_wordOf_69 : decode cX12_wordOf 69 = .ok (.aload_n 0, 1) := by decide +kernel
theorem dX12_wordOf_70 : decode cX12_wordOf 70 = .ok (.getfield 30, 3) := by decide +kernel
theorem dX12_wordOf_73 : decode cX12_wordOf 73 = .ok (.iload 4, 2) := by decide +kernel
theorem dX12_wordOf_75 : decode cX12_wordOf 75 = .ok (.iload 7, 2) := by decide +kernel
theorem dX12_wordOf_77 : decode cX12_wordOf 77 = .ok (.iadd, 1) := by decide +kernel
theorem dX12_wordOf_78 : decode cX12_wordOf 78 = .ok (.baload, 1) := by decide +kernel
theorem dX12_wordOf_79 : decode cX12_wordOf 79 = .ok (.aload_n 0, 1) := by decide +kernel
theorem dX12_wordOf_80 : decode cX12_wordOf 80 = .ok (.getfield 34, 3) := by decide +kernel
theorem dX12_wordOf_83 : decode cX12_wordOf 83 = .ok (.iload_n 1, 1) := by decide +kernel
theorem dX12_wordOf_84 : decode cX12_wordOf 84 = .ok (.iload 7, 2) := by decide +kernel
theorem dX12_wordOf_86 : decode cX12_wordOf 86 = .ok (.iadd, 1) := by decide +kernel
theorem dX12_wordOf_87 : decode cX12_wordOf 87 = .ok (.baload, 1) := by decide +kernel
theorem dX12_wordOf_88 : decode cX12_wordOf 88 = .ok (.if_icmp .ne 7, 3) := by decide +kernel
theorem dX12_wordOf_91 : decode cX12_wordOf 91 = .ok (.iconst 1, 1) := by decide +kernel
theorem dX12_wordOf_92 : decode cX12_wordOf 92 = .ok (.goto 4, 3) := by decide +kernel
theorem dX12_wordOf_95 : decode cX12_wordOf 95 = .ok (.iconst 0, 1) := by decide +kernel
theorem dX12_wordOf_96 : decode cX12_wordOf 96 = .ok (.istore 6, 2) := by decide +kernel
theorem dX12_wordOf_98 : decode cX12_wordOf 98 = .ok (.iinc 7 1, 3) := by decide +kernel
theorem dX12_wordOf_101 : decode cX12_wordOf 101 = .ok (.goto (-44), 3) := by decide +kernel
theorem dX12_wordOf_104 : decode cX12_wordOf 104 = .ok (.iload 6, 2) := by decide +kernel
theorem dX12_wordOf_106 : decode cX12_wordOf 106 = .ok (.ifCond .eq 5, 3) := by decide +kernel
theorem dX12_wordOf_109 : decode cX12_wordOf 109 = .ok (.iload_n 3, 1) := by decide +kernel
theorem dX12_wordOf_110 : decode cX12_wordOf 110 = .ok (.ireturn, 1) := by decide +kernel
theorem dX12_wordOf_111 : decode cX12_wordOf 111 = .ok (.iload 4, 2) := by decide +kernel
theorem dX12_wordOf_113 : decode cX12_wordOf 113 = .ok (.iload 5, 2) := by decide +kernel
theorem dX12_wordOf_115 : decode cX12_wordOf 115 = .ok (.iconst 1, 1) := by decide +kernel
theorem dX12_wordOf_116 : decode cX12_wordOf 116 = .ok (.iadd, 1) := by decide +kernel
theorem dX12_wordOf_117 : decode cX12_wordOf 117 = .ok (.iadd, 1) := by decide +kernel
theorem dX12_wordOf_118 : decode cX12_wordOf 118 = .ok (.istore 4, 2) := by decide +kernel
theorem dX12_wordOf_120 : decode cX12_wordOf 120 = .ok (.iinc 3 1, 3) := by decide +kernel
theorem dX12_wordOf_123 : decode cX12_wordOf 123 = .ok (.goto (-118), 3) := by decide +kernel
theorem dX12_wordOf_126 : decode cX12_wordOf 126 = .ok (.iconst 0, 1) := by decide +kernel
theorem dX12_wordOf_127 : decode cX12_wordOf 127 = .ok (.ireturn, 1) := by decide +kernel
set_option maxHeartbeats 4000000 in
set_option maxRecDepth 100000 in
theorem c_X12_wordOf (l : Launch) (E : Nat → Nat) (D : va_G) (G : th_G) (H0 : Heap) (h0 : Nat) (hG0 : G h0 = some (10, 0)) (x1 : Int32) (x2 : Int32) (hx1 : (0 : Int) ≤ x1.toInt ∧ x1.toInt ≤ 400) (hx2 : (0 : Int) ≤ x2.toInt ∧ x2.toInt ≤ 400) : Met l yX12_wordOf (tb (.code yX12_wordOf cX12_wordOf 8 (some .int))) (rm 0) (va_Pc [.ref h0, .int x1, .int x2] (PR E D G H0)) (QS H0 (fun r => True)) 0 0 (fun _ => False) := by
  refine Met.ofW (cc := cX12_wordOf) (maxL := 8) (ret := (some .int)) (by decide) rfl ?_
  intro p e s m args below meth c s₁ B hml hv
  obtain ⟨hav, rfl, hI, hN, hK⟩ := hv
  have hx := B.exec
  have hb := B.bytes
  have hr := B.returns
  have hts := atoms_spec (ws := tb (.code yX12_wordOf cX12_wordOf 8 (some .int))) B.pre
  have hown : s.vm.findClass RX12 = some m.cls := findClass_of_methodNamed B.named
  have hlocks := B.notSynchronized
  have hS : va_S (fun _ => False) s.heap s.heap [] := va_S.rf
  have hl := lv_entry ([.ref h0, .int x1, .int x2]) (n := 8) (Nat.le_of_ble_eq_true rfl)
  rw [show entryFrame m args 8 = entryFrame m ([.ref h0, .int x1, .int x2] : List Value).toArray 8 from by rw [hav], lg_entry_eq]
  generalize (lg_sl ([.ref h0, .int x1, .int x2]) ++ List.replicate (8 - (lg_sl ([.ref h0, .int x1, .int x2])).length) Slot.unset).toArray = ls at hl ⊢
  have hl : lv_has ls 8 [(0, .ref h0), (1, .int x1), (2, .int x2)] := hl
  generalize hR : (headSpec (tb (.code yX12_wordOf cX12_wordOf 8 (some .int))) (rm 0)).room = R
  have hR := hR.symm
  generalize hQ : MQ below (QS s.heap (fun r => True)) args s 0 0 (fun _ => False) = QF
  have hQ := hQ.symm
  obtain ⟨q_7, hq_7, hf_7⟩ := fr_of hI hG0 7 (by decide) (kd := (7, 89)) rfl
  obtain ⟨F_7, hA_7, hP_7⟩ := om_7 hI hq_7 List.not_mem_nil
  obtain ⟨q_8, hq_8, hf_8⟩ := fr_of hI hG0 8 (by decide) (kd := (4, 400)) rfl
  obtain ⟨F_8, hA_8⟩ := om_4 hI hq_8 List.not_mem_nil
  have J_5 : ∀ (nn : Nat) (locs : List Loc) (ls : Array Slot) (v7123 : Int32) (v7124 : Int32) , (Int.toNat (89 - v7123.toInt) = nn) → lv_has ls 8 [(4, .int v7123), (3, .int v7124), (0, .ref h0), (1, .int x1), (2, .int x2)] → ((0 : Int) ≤ v7123.toInt ∧ v7123.toInt ≤ 89) → ((0 : Int) ≤ x1.toInt ∧ x1.toInt ≤ 400) → ((0 : Int) ≤ x2.toInt ∧ x2.toInt ≤ 400) → va_S (fun _ => False) s.heap s.heap locs → W p l e R s m args below meth c s.heap locs 0 0 QF (F0 m 5 ls []) := by
    intro nn
    induction nn using Nat.strongRecOn with
    | ind nn ih_5 =>
      intro locs ls v7123 v7124  hm hl k7125 k7126 k7127 hS
      have J_57 : ∀ (nn : Nat) (locs : List Loc) (ls : Array Slot) (v7128 : Int32) (v7129 : Int32) (v7130 : Int32) , (Int.toNat (v7130.toInt - v7128.toInt) = nn) → lv_has ls 8 [(7, .int v7128), (6, .int v7129), (5, .int v7130), (4, .int v7123), (3, .int v7124), (0, .ref h0), (1, .int x1), (2, .int x2)] → ((0 : Int) ≤ v7128.toInt ∧ v7128.toInt ≤ 88) → ((0 : Int) ≤ v7129.toInt ∧ v7129.toInt ≤ 1) → ((0 : Int) ≤ v7130.toInt ∧ v7130.toInt ≤ 88) → ((0 : Int) ≤ v7123.toInt ∧ v7123.toInt ≤ 88) → (v7123.toInt + v7130.toInt ≤ 88) → (v7129.toInt = 0 ∨ v7130.toInt = x2.toInt - x1.toInt) → (v7128.toInt ≤ v7130.toInt) → va_S (fun _ => False) s.heap s.heap locs → W p l e R s m args below meth c s.heap locs 0 0 QF (F0 m 57 ls []) := by
        intro nn
        induction nn using Nat.strongRecOn with
        | ind nn ih_57 =>
          intro locs ls v7128 v7129 v7130  hm hl k7133 k7134 k7135 k7136 k7137 k7138 k7139 hS
          refine lv_iload hx hb dX12_wordOf_57 (lv_at hl 0 rfl) ?_
          refine lv_iload hx hb dX12_wordOf_59 (lv_at hl 2 rfl) ?_
          refine lv_icmp_ge (tgt := 104) hx hb dX12_wordOf_61 (by decide) (fun c7140 => ?_) (fun c7140 => ?_)
          · skip
            have k7141 := iv_le (X := v7130.toInt) (Y := v7128.toInt) rfl rfl c7140
            refine lv_iload hx hb dX12_wordOf_104 (lv_at hl 1 rfl) ?_
            refine lv_if_eq (tgt := 111) hx hb dX12_wordOf_106 (by decide) (fun c7142 => ?_) (fun c7142 => ?_)
            · skip
              have k7143 := iv_eq (X := v7129.toInt) (Y := (0)) rfl (by decide) c7142
              refine lv_iload hx hb dX12_wordOf_111 (lv_at hl 3 rfl) ?_
              refine lv_iload hx hb dX12_wordOf_113 (lv_at hl 2 rfl) ?_
              refine lv_iconst (v := 1) hx hb dX12_wordOf_115 (by decide) ?_
              refine lv_iadd hx hb dX12_wordOf_116 ?_
              refine lv_topi (fun v7144 e7145 => ?_)
              have tv7144 : v7144.toInt = v7130.toInt + (1) := iv_add rfl (by decide) e7145 (by omega) (by omega)
              refine lv_iadd hx hb dX12_wordOf_117 ?_
              refine lv_topi (fun v7146 e7147 => ?_)
              have tv7146 : v7146.toInt = v7123.toInt + v7144.toInt := iv_add rfl rfl e7147 (by omega) (by omega)
              refine lv_istore (lv' := [(4, .int v7146), (7, .int v7128), (6, .int v7129), (5, .int v7130), (3, .int v7124), (0, .ref h0), (1, .int x1), (2, .int x2)]) hx hb dX12_wordOf_118 hl (by decide) rfl (fun ls hl => ?_)
              obtain ⟨v7148, e7149⟩ : ∃ y : Int32, y = v7124 + (1) := ⟨_, rfl⟩
              have k7150 := iv_lo v7124
              have k7151 := iv_hi v7124
              refine lv_iinc (v := v7148) (lv' := [(3, .int v7148), (4, .int v7146), (7, .int v7128), (6, .int v7129), (5, .int v7130), (0, .ref h0), (1, .int x1), (2, .int x2)]) hx hb dX12_wordOf_120 hl (k := 4) rfl (by rw [e7149]; rfl) (by decide) rfl (fun ls hl => ?_)
              refine lv_goto (tgt := 5) hx hb dX12_wordOf_123 (by decide) ?_
              exact ih_5 _ (by omega) locs ls v7146 v7148  rfl (lv_sub hl [1, 0, 5, 6, 7] rfl) ⟨by omega, by omega⟩ ⟨by omega, by omega⟩ ⟨by omega, by omega⟩ hS
            · skip
              have k7152 := iv_ne (X := v7129.toInt) (Y := (0)) rfl (by decide) c7142
              refine lv_iload_n hx hb dX12_wordOf_109 rfl (lv_at hl 4 rfl) ?_
              have hpost : True := trivial
              rw [hQ]
              exact W.iret (v := v7124) hx hb hr (fun t ht hW => ⟨⟨v7124, (), rfl, hpost, ht⟩, hS.F ht⟩) hS.2.2 dX12_wordOf_110
          · skip
            have k7153 := iv_nle (X := v7130.toInt) (Y := v7128.toInt) rfl rfl c7140
            refine lv_iload hx hb dX12_wordOf_64 (lv_at hl 1 rfl) ?_
            refine lv_if_eq (tgt := 104) hx hb dX12_wordOf_66 (by decide) (fun c7154 => ?_) (fun c7154 => ?_)
            · skip
              have k7155 := iv_eq (X := v7129.toInt) (Y := (0)) rfl (by decide) c7154
              refine lv_iload hx hb dX12_wordOf_104 (lv_at hl 1 rfl) ?_
              refine lv_if_eq (tgt := 111) hx hb dX12_wordOf_106 (by decide) (fun c7156 => ?_) (fun c7156 => ?_)
              · skip
                have k7157 := iv_eq (X := v7129.toInt) (Y := (0)) rfl (by decide) c7156
                refine lv_iload hx hb dX12_wordOf_111 (lv_at hl 3 rfl) ?_
                refine lv_iload hx hb dX12_wordOf_113 (lv_at hl 2 rfl) ?_
                refine lv_iconst (v := 1) hx hb dX12_wordOf_115 (by decide) ?_
                refine lv_iadd hx hb dX12_wordOf_116 ?_
                refine lv_topi (fun v7158 e7159 => ?_)
                have tv7158 : v7158.toInt = v7130.toInt + (1) := iv_add rfl (by decide) e7159 (by omega) (by omega)
                refine lv_iadd hx hb dX12_wordOf_117 ?_
                refine lv_topi (fun v7160 e7161 => ?_)
                have tv7160 : v7160.toInt = v7123.toInt + v7158.toInt := iv_add rfl rfl e7161 (by omega) (by omega)
                refine lv_istore (lv' := [(4, .int v7160), (7, .int v7128), (6, .int v7129), (5, .int v7130), (3, .int v7124), (0, .ref h0), (1, .int x1), (2, .int x2)]) hx hb dX12_wordOf_118 hl (by decide) rfl (fun ls hl => ?_)
                obtain ⟨v7162, e7163⟩ : ∃ y : Int32, y = v7124 + (1) := ⟨_, rfl⟩
                have k7164 := iv_lo v7124
                have k7165 := iv_hi v7124
                refine lv_iinc (v := v7162) (lv' := [(3, .int v7162), (4, .int v7160), (7, .int v7128), (6, .int v7129), (5, .int v7130), (0, .ref h0), (1, .int x1), (2, .int x2)]) hx hb dX12_wordOf_120 hl (k := 4) rfl (by rw [e7163]; rfl) (by decide) rfl (fun ls hl => ?_)
                refine lv_goto (tgt := 5) hx hb dX12_wordOf_123 (by decide) ?_
                exact ih_5 _ (by omega) locs ls v7160 v7162  rfl (lv_sub hl [1, 0, 5, 6, 7] rfl) ⟨by omega, by omega⟩ ⟨by omega, by omega⟩ ⟨by omega, by omega⟩ hS
              · skip
                have k7166 := iv_ne (X := v7129.toInt) (Y := (0)) rfl (by decide) c7156
                exfalso; omega
            · skip
              have k7167 := iv_ne (X := v7129.toInt) (Y := (0)) rfl (by decide) c7154
              refine lv_aload_n hx hb dX12_wordOf_69 rfl (lv_at hl 5 rfl) ?_
              refine gmA hx hb hts inT12 hown hK hI List.not_mem_nil hG0 7 (by decide) (hts _ (tb_c wd_1240)) rfl rfl dX12_wordOf_70 (fun a7168 hq7169 hf7170 => ?_)
              obtain rfl := fr.uniq (by decide) hf_7 hf7170
              refine lv_iload hx hb dX12_wordOf_73 (lv_at hl 3 rfl) ?_
              refine lv_iload hx hb dX12_wordOf_75 (lv_at hl 0 rfl) ?_
              refine lv_iadd hx hb dX12_wordOf_77 ?_
              refine lv_topi (fun v7171 e7172 => ?_)
              have tv7171 : v7171.toInt = v7123.toInt + v7128.toInt := iv_add rfl rfl e7172 (by omega) (by omega)
              refine va_bald hx hb hK (th_one hA_7) 0 3 rfl rfl (iv_in (X := v7171.toInt) rfl (by omega) (by omega)) dX12_wordOf_78 ?_
              refine lv_topi (fun v7173 e7174 => ?_)
              have k7175 := wd_get hP_7 e7174 (X := v7171.toInt) rfl (by omega)
              refine lv_aload_n hx hb dX12_wordOf_79 rfl (lv_at hl 5 rfl) ?_
              refine gmA hx hb hts inT12 hown hK hI List.not_mem_nil hG0 8 (by decide) (hts _ (tb_c wd_1241)) rfl rfl dX12_wordOf_80 (fun a7176 hq7177 hf7178 => ?_)
              obtain rfl := fr.uniq (by decide) hf_8 hf7178
              refine lv_iload_n hx hb dX12_wordOf_83 rfl (lv_at hl 6 rfl) ?_
              refine lv_iload hx hb dX12_wordOf_84 (lv_at hl 0 rfl) ?_
              refine lv_iadd hx hb dX12_wordOf_86 ?_
              refine lv_topi (fun v7179 e7180 => ?_)
              have tv7179 : v7179.toInt = x1.toInt + v7128.toInt := iv_add rfl rfl e7180 (by omega) (by omega)
              refine va_bald hx hb hK (th_one hA_8) 0 3 rfl rfl (iv_in (X := v7179.toInt) rfl (by omega) (by omega)) dX12_wordOf_87 ?_
              refine lv_topi (fun v7181 e7182 => ?_)
              have k7183 := iv_lo v7173
              have k7184 := iv_hi v7173
              have k7185 := iv_lo v7181
              have k7186 := iv_hi v7181
              refine lv_icmp_ne (tgt := 95) hx hb dX12_wordOf_88 (by decide) (fun c7187 => ?_) (fun c7187 => ?_)
              · skip
                have k7188 := iv_ne (X := v7173.toInt) (Y := v7181.toInt) rfl rfl c7187
                refine lv_iconst (v := 0) hx hb dX12_wordOf_95 (by decide) ?_
                refine lv_istore (lv' := [(6, .int 0), (7, .int v7128), (5, .int v7130), (4, .int v7123), (3, .int v7124), (0, .ref h0), (1, .int x1), (2, .int x2)]) hx hb dX12_wordOf_96 hl (by decide) rfl (fun ls hl => ?_)
                obtain ⟨v7189, e7190⟩ : ∃ y : Int32, y = v7128 + (1) := ⟨_, rfl⟩
                have tv7189 : v7189.toInt = v7128.toInt + (1) := iv_add rfl (by decide) e7190 (by omega) (by omega)
                refine lv_iinc (v := v7189) (lv' := [(7, .int v7189), (6, .int 0), (5, .int v7130), (4, .int v7123), (3, .int v7124), (0, .ref h0), (1, .int x1), (2, .int x2)]) hx hb dX12_wordOf_98 hl (k := 1) rfl (by rw [e7190]; rfl) (by decide) rfl (fun ls hl => ?_)
                refine lv_goto (tgt := 57) hx hb dX12_wordOf_101 (by decide) ?_
                exact ih_57 _ (by omega) locs ls v7189 0 v7130  rfl (lv_sub hl [0, 1, 2, 3, 4, 5, 6, 7] rfl) ⟨by omega, by omega⟩ ⟨by decide, by decide⟩ ⟨by omega, by omega⟩ ⟨by omega, by omega⟩ (by first | omega | (simp; omega)) (by first | omega | exact Or.inl (by decide)) (by first | omega | (rw [show (0 : Int32).toInt = 0 from by decide]; omega)) hS
              · skip
                have k7191 := iv_eq (X := v7173.toInt) (Y := v7181.toInt) rfl rfl c7187
                refine lv_iconst (v := 1) hx hb dX12_wordOf_91 (by decide) ?_
                refine lv_goto (tgt := 96) hx hb dX12_wordOf_92 (by decide) ?_
                refine lv_istore (lv' := [(6, .int 1), (7, .int v7128), (5, .int v7130), (4, .int v7123), (3, .int v7124), (0, .ref h0), (1, .int x1), (2, .int x2)]) hx hb dX12_wordOf_96 hl (by decide) rfl (fun ls hl => ?_)
                obtain ⟨v7192, e7193⟩ : ∃ y : Int32, y = v7128 + (1) := ⟨_, rfl⟩
                have tv7192 : v7192.toInt = v7128.toInt + (1) := iv_add rfl (by decide) e7193 (by omega) (by omega)
                refine lv_iinc (v := v7192) (lv' := [(7, .int v7192), (6, .int 1), (5, .int v7130), (4, .int v7123), (3, .int v7124), (0, .ref h0), (1, .int x1), (2, .int x2)]) hx hb dX12_wordOf_98 hl (k := 1) rfl (by rw [e7193]; rfl) (by decide) rfl (fun ls hl => ?_)
                refine lv_goto (tgt := 57) hx hb dX12_wordOf_101 (by decide) ?_
                exact ih_57 _ (by omega) locs ls v7192 1 v7130  rfl (lv_sub hl [0, 1, 2, 3, 4, 5, 6, 7] rfl) ⟨by omega, by omega⟩ ⟨by decide, by decide⟩ ⟨by omega, by omega⟩ ⟨by omega, by omega⟩ (by first | omega | (simp; omega)) (by first | omega | exact Or.inl (by decide)) (by first | omega | (rw [show (0 : Int32).toInt = 0 from by decide]; omega)) hS
      have J_18 : ∀ (nn : Nat) (locs : List Loc) (ls : Array Slot) (v7194 : Int32) , (Int.toNat (88 - v7194.toInt) = nn) → lv_has ls 8 [(5, .int v7194), (4, .int v7123), (3, .int v7124), (0, .ref h0), (1, .int x1), (2, .int x2)] → ((0 : Int) ≤ v7194.toInt ∧ v7194.toInt ≤ 88) → ((0 : Int) ≤ v7123.toInt ∧ v7123.toInt ≤ 88) → (v7123.toInt + v7194.toInt ≤ 88) → va_S (fun _ => False) s.heap s.heap locs → W p l e R s m args below meth c s.heap locs 0 0 QF (F0 m 18 ls []) := by
        intro nn
        induction nn using Nat.strongRecOn with
        | ind nn ih_18 =>
          intro locs ls v7194  hm hl k7197 k7198 k7199 hS
          refine lv_aload_n hx hb dX12_wordOf_18 rfl (lv_at hl 3 rfl) ?_
          refine gmA hx hb hts inT12 hown hK hI List.not_mem_nil hG0 7 (by decide) (hts _ (tb_c wd_1240)) rfl rfl dX12_wordOf_19 (fun a7200 hq7201 hf7202 => ?_)
          obtain rfl := fr.uniq (by decide) hf_7 hf7202
          refine lv_iload hx hb dX12_wordOf_22 (lv_at hl 1 rfl) ?_
          refine lv_iload hx hb dX12_wordOf_24 (lv_at hl 0 rfl) ?_
          refine lv_iadd hx hb dX12_wordOf_26 ?_
          refine lv_topi (fun v7203 e7204 => ?_)
          have tv7203 : v7203.toInt = v7123.toInt + v7194.toInt := iv_add rfl rfl e7204 (by omega) (by omega)
          refine va_bald hx hb hK (th_one hA_7) 0 3 rfl rfl (iv_in (X := v7203.toInt) rfl (by omega) (by omega)) dX12_wordOf_27 ?_
          refine lv_topi (fun v7205 e7206 => ?_)
          have k7207 := wd_get hP_7 e7206 (X := v7203.toInt) rfl (by omega)
          refine lv_bipush (v := 32) hx hb dX12_wordOf_28 (by decide) ?_
          have k7208 := iv_lo v7205
          have k7209 := iv_hi v7205
          refine lv_icmp_eq (tgt := 39) hx hb dX12_wordOf_30 (by decide) (fun c7210 => ?_) (fun c7210 => ?_)
          · skip
            have k7211 := iv_eq (X := v7205.toInt) (Y := (32)) rfl (by decide) c7210
            refine lv_iload hx hb dX12_wordOf_39 (lv_at hl 0 rfl) ?_
            refine lv_iload_n hx hb dX12_wordOf_41 rfl (lv_at hl 5 rfl) ?_
            refine lv_iload_n hx hb dX12_wordOf_42 rfl (lv_at hl 4 rfl) ?_
            refine lv_isub hx hb dX12_wordOf_43 ?_
            refine lv_topi (fun v7212 e7213 => ?_)
            have tv7212 : v7212.toInt = x2.toInt - x1.toInt := iv_sub rfl rfl e7213 (by omega) (by omega)
            refine lv_icmp_ne (tgt := 51) hx hb dX12_wordOf_44 (by decide) (fun c7214 => ?_) (fun c7214 => ?_)
            · skip
              have k7215 := iv_ne (X := v7194.toInt) (Y := v7212.toInt) rfl rfl c7214
              refine lv_iconst (v := 0) hx hb dX12_wordOf_51 (by decide) ?_
              refine lv_istore (lv' := [(6, .int 0), (5, .int v7194), (4, .int v7123), (3, .int v7124), (0, .ref h0), (1, .int x1), (2, .int x2)]) hx hb dX12_wordOf_52 hl (by decide) rfl (fun ls hl => ?_)
              refine lv_iconst (v := 0) hx hb dX12_wordOf_54 (by decide) ?_
              refine lv_istore (lv' := [(7, .int 0), (6, .int 0), (5, .int v7194), (4, .int v7123), (3, .int v7124), (0, .ref h0), (1, .int x1), (2, .int x2)]) hx hb dX12_wordOf_55 hl (by decide) rfl (fun ls hl => ?_)
              have zl : (0 : Int32).toInt = 0 := by decide
              exact J_57 _ locs ls 0 0 v7194  rfl (lv_sub hl [0, 1, 2, 3, 4, 5, 6, 7] rfl) ⟨by decide, by decide⟩ ⟨by decide, by decide⟩ ⟨by omega, by omega⟩ ⟨by omega, by omega⟩ (by first | omega | (simp; omega)) (by first | omega | exact Or.inl (by decide)) (by first | omega | (rw [show (0 : Int32).toInt = 0 from by decide]; omega)) hS
            · skip
              have k7216 := iv_eq (X := v7194.toInt) (Y := v7212.toInt) rfl rfl c7214
              refine lv_iconst (v := 1) hx hb dX12_wordOf_47 (by decide) ?_
              refine lv_goto (tgt := 52) hx hb dX12_wordOf_48 (by decide) ?_
              refine lv_istore (lv' := [(6, .int 1), (5, .int v7194), (4, .int v7123), (3, .int v7124), (0, .ref h0), (1, .int x1), (2, .int x2)]) hx hb dX12_wordOf_52 hl (by decide) rfl (fun ls hl => ?_)
              refine lv_iconst (v := 0) hx hb dX12_wordOf_54 (by decide) ?_
              refine lv_istore (lv' := [(7, .int 0), (6, .int 1), (5, .int v7194), (4, .int v7123), (3, .int v7124), (0, .ref h0), (1, .int x1), (2, .int x2)]) hx hb dX12_wordOf_55 hl (by decide) rfl (fun ls hl => ?_)
              have zl : (0 : Int32).toInt = 0 := by decide
              exact J_57 _ locs ls 0 1 v7194  rfl (lv_sub hl [0, 1, 2, 3, 4, 5, 6, 7] rfl) ⟨by decide, by decide⟩ ⟨by decide, by decide⟩ ⟨by omega, by omega⟩ ⟨by omega, by omega⟩ (by first | omega | (simp; omega)) (by first | omega | exact Or.inl (by decide)) (by first | omega | (rw [show (0 : Int32).toInt = 0 from by decide]; omega)) hS
          · skip
            have k7217 := iv_ne (X := v7205.toInt) (Y := (32)) rfl (by decide) c7210
            obtain ⟨v7218, e7219⟩ : ∃ y : Int32, y = v7194 + (1) := ⟨_, rfl⟩
            have tv7218 : v7218.toInt = v7194.toInt + (1) := iv_add rfl (by decide) e7219 (by omega) (by omega)
            refine lv_iinc (v := v7218) (lv' := [(5, .int v7218), (4, .int v7123), (3, .int v7124), (0, .ref h0), (1, .int x1), (2, .int x2)]) hx hb dX12_wordOf_33 hl (k := 0) rfl (by rw [e7219]; rfl) (by decide) rfl (fun ls hl => ?_)
            refine lv_goto (tgt := 18) hx hb dX12_wordOf_36 (by decide) ?_
            exact ih_18 _ (by omega) locs ls v7218  rfl (lv_sub hl [0, 1, 2, 3, 4, 5] rfl) ⟨by omega, by omega⟩ ⟨by omega, by omega⟩ (by first | omega | (rw [show (0 : Int32).toInt = 0 from by decide]; omega)) hS
      refine lv_iload hx hb dX12_wordOf_5 (lv_at hl 0 rfl) ?_
      refine lv_aload_n hx hb dX12_wordOf_7 rfl (lv_at hl 2 rfl) ?_
      refine gmA hx hb hts inT12 hown hK hI List.not_mem_nil hG0 7 (by decide) (hts _ (tb_c wd_1240)) rfl rfl dX12_wordOf_8 (fun a7220 hq7221 hf7222 => ?_)
      obtain rfl := fr.uniq (by decide) hf_7 hf7222
      refine va_alen hx hb hK (th_one hA_7) 0 3 rfl (v := 89) rfl (show Int32.ofNat 89 = (89 : Int32) from by decide) dX12_wordOf_11 ?_
      refine lv_icmp_ge (tgt := 126) hx hb dX12_wordOf_12 (by decide) (fun c7223 => ?_) (fun c7223 => ?_)
      · skip
        have k7224 := iv_le (X := (89)) (Y := v7123.toInt) (by decide) rfl c7223
        refine lv_iconst (v := 0) hx hb dX12_wordOf_126 (by decide) ?_
        have hpost : True := trivial
        rw [hQ]
        exact W.iret (v := 0) hx hb hr (fun t ht hW => ⟨⟨0, (), rfl, hpost, ht⟩, hS.F ht⟩) hS.2.2 dX12_wordOf_127
      · skip
        have k7225 := iv_nle (X := (89)) (Y := v7123.toInt) (by decide) rfl c7223
        refine lv_iconst (v := 0) hx hb dX12_wordOf_15 (by decide) ?_
        refine lv_istore (lv' := [(5, .int 0), (4, .int v7123), (3, .int v7124), (0, .ref h0), (1, .int x1), (2, .int x2)]) hx hb dX12_wordOf_16 hl (by decide) rfl (fun ls hl => ?_)
        have zl : (0 : Int32).toInt = 0 := by decide
        exact J_18 _ locs ls 0  rfl (lv_sub hl [0, 1, 2, 3, 4, 5] rfl) ⟨by decide, by decide⟩ ⟨by omega, by omega⟩ (by first | omega | (rw [show (0 : Int32).toInt = 0 from by decide]; omega)) hS
  refine lv_iconst (v := 1) hx hb dX12_wordOf_0 (by decide) ?_
  refine lv_istore_n (lv' := [(3, .int 1), (0, .ref h0), (1, .int x1), (2, .int x2)]) hx hb dX12_wordOf_1 rfl hl (by decide) rfl (fun ls hl => ?_)
  refine lv_iconst (v := 0) hx hb dX12_wordOf_2 (by decide) ?_
  refine lv_istore (lv' := [(4, .int 0), (3, .int 1), (0, .ref h0), (1, .int x1), (2, .int x2)]) hx hb dX12_wordOf_3 hl (by decide) rfl (fun ls hl => ?_)
  have zl : (0 : Int32).toInt = 0 := by decide
  exact J_5 _ [] ls 0 1  rfl (lv_sub hl [0, 1, 2, 3, 4] rfl) ⟨by decide, by decide⟩ ⟨by omega, by omega⟩ ⟨by omega, by omega⟩ hS
theorem dX12_splits_0 : decode cX12_splits 0 = .ok (.aload_n 0, 1) := by decide +kernel
theorem dX12_splits_1 : decode cX12_splits 1 = .ok (.iconst 0, 1) := by decide +kernel
theorem dX12_splits_2 : decode cX12_splits 2 = .ok (.putfield 145, 3) := by decide +kernel
theorem dX12_splits_5 : decode cX12_splits 5 = .ok (.iconst 0, 1) := by decide +kernel
theorem dX12_splits_6 : decode cX12_splits 6 = .ok (.istore_n 2, 1) := by decide +kernel
theorem dX12_splits_7 : decode cX12_splits 7 = .ok (.iload_n 2, 1) := by decide +kernel
theorem dX12_splits_8 : decode cX12_splits 8 = .ok (.iload_n 1, 1) := by decide +kernel
theorem dX12_splits_9 : decode cX12_splits 9 = .ok (.if_icmp .ge 254, 3) := by decide +kernel
theorem dX12_splits_12 : decode cX12_splits 12 = .ok (.aload_n 0, 1) := by decide +kernel
theorem dX12_splits_13 : decode cX12_splits 13 = .ok (.getfield 34, 3) := by decide +kernel
theorem dX12_splits_16 : decode cX12_splits 16 = .ok (.iload_n 2, 1) := by decide +kernel
theorem dX12_splits_17 : decode cX12_splits 17 = .ok (.baload, 1) := by decide +kernel
theorem dX12_splits_18 : decode cX12_splits 18 = .ok (.istore_n 3, 1) := by decide +kernel
theorem dX12_splits_19 : decode cX12_splits 19 = .ok (.iload_n 3, 1) := by decide +kernel
theorem dX12_splits_20 : decode cX12_splits 20 = .ok (.bipush 32, 2) := by decide +kernel
theorem dX12_splits_22 : decode cX12_splits 22 = .ok (.if_icmp .ne 9, 3) := by decide +kernel
theorem dX12_splits_25 : decode cX12_splits 25 = .ok (.iinc 2 1, 3) := by decide +kernel
theorem dX12_splits_28 : decode cX12_splits 28 = .ok (.goto (-21), 3) := by decide +kernel
theorem dX12_splits_31 : decode cX12_splits 31 = .ok (.iload_n 2, 1) := by decide +kernel
theorem dX12_splits_32 : decode cX12_splits 32 = .ok (.iconst 1, 1) := by decide +kernel
theorem dX12_splits_33 : decode cX12_splits 33 = .ok (.iadd, 1) := by decide +kernel
theorem dX12_splits_34 : decode cX12_splits 34 = .ok (.istore 4, 2) := by decide +kernel
theorem dX12_splits_36 : decode cX12_splits 36 = .ok (.iload_n 3, 1) := by decide +kernel
theorem dX12_splits_37 : decode cX12_splits 37 = .ok (.invokestatic 148, 3) := by decide +kernel
theorem dX12_splits_40 : decode cX12_splits 40 = .ok (.ifCond .eq 28, 3) := by decide +kernel
theorem dX12_splits_43 : decode cX12_splits 43 = .ok (.iload 4, 2) := by decide +kernel
theorem dX12_splits_45 : decode cX12_splits 45 = .ok (.iload_n 1, 1) := by decide +kernel
theorem dX12_splits_46 : decode cX12_splits 46 = .ok (.if_icmp .ge 22, 3) := by decide +kernel
theorem dX12_splits_49 : decode cX12_splits 49 = .ok (.aload_n 0, 1) := by decide +kernel
theorem dX12_splits_50 : decode cX12_splits 50 = .ok (.getfield 34, 3) := by decide +kernel
theorem dX12_splits_53 : decode cX12_splits 53 = .ok (.iload 4, 2) := by decide +kernel
theorem dX12_splits_55 : decode cX12_splits 55 = .ok (.baload, 1) := by decide +kernel
theorem dX12_splits_56 : decode cX12_splits 56 = .ok (.invokestatic 148, 3) := by decide +kernel
theorem dX12_splits_59 : decode cX12_splits 59 = .ok (.ifCond .eq 9, 3) := by decide +kernel
theorem dX12_splits_62 : decode cX12_splits 62 = .ok (.iinc 4 1, 3) := by decide +kernel
theorem dX12_splits_65 : decode cX12_splits 65 = .ok (.goto (-22), 3) := by decide +kernel
theorem dX12_splits_68 : decode cX12_splits 68 = .ok (.iload_n 3, 1) := by decide +kernel
theorem dX12_splits_69 : decode cX12_splits 69 = .ok (.invokestatic 151, 3) := by decide +kernel
theorem dX12_splits_72 : decode cX12_splits 72 = .ok (.ifCond .eq 28, 3) := by decide +kernel
theorem dX12_splits_75 : decode cX12_splits 75 = .ok (.iload 4, 2) := by decide +kernel
theorem dX12_splits_77 : decode cX12_splits 77 = .ok (.iload_n 1, 1) := by decide +kernel
theorem dX12_splits_78 : decode cX12_splits 78 = .ok (.if_icmp .ge 22, 3) := by decide +kernel
theorem dX12_splits_81 : decode cX12_splits 81 = .ok (.aload_n 0, 1) := by decide +kernel
theorem dX12_splits_82 : decode cX12_splits 82 = .ok (.getfield 34, 3) := by decide +kernel
theorem dX12_splits_85 : decode cX12_splits 85 = .ok (.iload 4, 2) := by decide +kernel
theorem dX12_splits_87 : decode cX12_splits 87 = .ok (.baload, 1) := by decide +kernel
theorem dX12_splits_88 : decode cX12_splits 88 = .ok (.invokestatic 151, 3) := by decide +kernel
theorem dX12_splits_91 : decode cX12_splits 91 = .ok (.ifCond .eq 9, 3) := by decide +kernel
theorem dX12_splits_94 : decode cX12_splits 94 = .ok (.iinc 4 1, 3) := by decide +kernel
theorem dX12_splits_97 : decode cX12_splits 97 = .ok (.goto (-22), 3) := by decide +kernel
theorem dX12_splits_100 : decode cX12_splits 100 = .ok (.aload_n 0, 1) := by decide +kernel
theorem dX12_splits_101 : decode cX12_splits 101 = .ok (.getfield 49, 3) := by decide +kernel
theorem dX12_splits_104 : decode cX12_splits 104 = .ok (.aload_n 0, 1) := by decide +kernel
theorem dX12_splits_105 : decode cX12_splits 105 = .ok (.getfield 145, 3) := by decide +kernel
theorem dX12_splits_108 : decode cX12_splits 108 = .ok (.iload_n 2, 1) := by decide +kernel
theorem dX12_splits_109 : decode cX12_splits 109 = .ok (.iastore, 1) := by decide +kernel
theorem dX12_splits_110 : decode cX12_splits 110 = .ok (.aload_n 0, 1) := by decide +kernel
theorem dX12_splits_111 : decode cX12_splits 111 = .ok (.getfield 46, 3) := by decide +kernel
theorem dX12_splits_114 : decode cX12_splits 114 = .ok (.aload_n 0, 1) := by decide +kernel
theorem dX12_splits_115 : decode cX12_splits 115 = .ok (.getfield 145, 3) := by decide +kernel
theorem dX12_splits_118 : decode cX12_splits 118 = .ok (.iconst 0, 1) := by decide +kernel
theorem dX12_splits_119 : decode cX12_splits 119 = .ok (.iastore, 1) := by decide +kernel
theorem dX12_splits_120 : decode cX12_splits 120 = .ok (.aload_n 0, 1) := by decide +kernel
theorem dX12_splits_121 : decode cX12_splits 121 = .ok (.getfield 43, 3) := by decide +kernel
theorem dX12_splits_124 : decode cX12_splits 124 = .ok (.aload_n 0, 1) := by decide +kernel
theorem dX12_splits_125 : decode cX12_splits 125 = .ok (.getfield 145, 3) := by decide +kernel
theorem dX12_splits_128 : decode cX12_splits 128 = .ok (.iload_n 3, 1) := by decide +kernel
theorem dX12_splits_129 : decode cX12_splits 129 = .ok (.invokestatic 148, 3) := by decide +kernel
theorem dX12_splits_132 : decode cX12_splits 132 = .ok (.ifCond .eq 13, 3) := by decide +kernel
theorem dX12_splits_135 : decode cX12_splits 135 = .ok (.aload_n 0, 1) := by decide +kernel
theorem dX12_splits_136 : decode cX12_splits 136 = .ok (.iload_n 2, 1) := by decide +kernel
theorem dX12_splits_137 : decode cX12_splits 137 = .ok (.iload 4, 2) := by decide +kernel
theorem dX12_splits_139 : decode cX12_splits 139 = .ok (.invokevirtual 154, 3) := by decide +kernel
theorem dX12_splits_142 : decode cX12_splits 142 = .ok (.goto 23, 3) := by decide +kernel
theorem dX12_splits_145 : decode cX12_splits 145 = .ok (.iload_n 3, 1) := by decide +kernel
theorem dX12_splits_146 : decode cX12_splits 146 = .ok (.invokestatic 151, 3) := by decide +kernel
theorem dX12_splits_149 : decode cX12_splits 149 = .ok (.ifCond .eq 8, 3) := by decide +kernel
theorem dX12_splits_152 : decode cX12_splits 152 = .ok (.bipush 50, 2) := by decide +kernel
theorem dX12_splits_154 : decode cX12_splits 154 = .ok (.goto 11, 3) := by decide +kernel
theorem dX12_splits_157 : decode cX12_splits 157 = .ok (.bipush 100, 2) := by decide +kernel
theorem dX12_splits_159 : decode cX12_splits 159 = .ok (.iload_n 3, 1) := by decide +kernel
theorem dX12_splits_160 : decode cX12_splits 160 = .ok (.sipush 255, 3) := by decide +kernel
theorem dX12_splits_163 : decode cX12_splits 163 = .ok (.iand, 1) := by decide +kernel
theorem dX12_splits_164 : decode cX12_splits 164 = .ok (.iadd, 1) := by decide +kernel
theorem dX12_splits_165 : decode cX12_splits 165 = .ok (.iastore, 1) := by decide +kernel
theorem dX12_splits_166 : decode cX12_splits 166 = .ok (.iload_n 2, 1) := by decide +kernel
theorem dX12_splits_167 : decode cX12_splits 167 = .ok (.istore 5, 2) := by decide +kernel
theorem dX12_splits_169 : decode cX12_splits 169 = .ok (.iload 5, 2) := by decide +kernel
theorem dX12_splits_171 : decode cX12_splits 171 = .ok (.iload 4, 2) := by decide +kernel
theorem dX12_splits_173 : decode cX12_splits 173 = .ok (.if_icmp .ge 74, 3) := by decide +kernel
theorem dX12_splits_176 : decode cX12_splits 176 = .ok (.iload_n 3, 1) := by decide +kernel
theorem dX12_splits_177 : decode cX12_splits 177 = .ok (.invokestatic 151, 3) := by decide +kernel
theorem dX12_splits_180 : decode cX12_splits 180 = .ok (.ifCond .eq 67, 3) := by decide +kernel
theorem dX12_splits_183 : decode cX12_splits 183 = .ok (.aload_n 0, 1) := by decide +kernel
theorem dX12_splits_184 : decode cX12_splits 184 = .ok (.getfield 46, 3) := by decide +kernel
theorem dX12_splits_187 : decode cX12_splits 187 = .ok (.aload_n 0, 1) := by decide +kernel
theorem dX12_splits_188 : decode cX12_splits 188 = .ok (.getfield 145, 3) := by decide +kernel
theorem dX12_splits_191 : decode cX12_splits 191 = .ok (.aload_n 0, 1) := by decide +kernel
theorem dX12_splits_192 : decode cX12_splits 192 = .ok (.getfield 46, 3) := by decide +kernel
theorem dX12_splits_195 : decode cX12_splits 195 = .ok (.aload_n 0, 1) := by decide +kernel
theorem dX12_splits_196 : decode cX12_splits 196 = .ok (.getfield 145, 3) := by decide +kernel
theorem dX12_splits_199 : decode cX12_splits 199 = .ok (.iaload, 1) := by decide +kernel
theorem dX12_splits_200 : decode cX12_splits 200 = .ok (.ldc 158, 2) := by decide +kernel
theorem dX12_splits_202 : decode cX12_splits 202 = .ok (.if_icmp .le 15, 3) := by decide +kernel
theorem dX12_splits_205 : decode cX12_splits 205 = .ok (.aload_n 0, 1) := by decide +kernel
theorem dX12_splits_206 : decode cX12_splits 206 = .ok (.getfield 46, 3) := by decide +kernel
theorem dX12_splits_209 : decode cX12_splits 209 = .ok (.aload_n 0, 1) := by decide +kernel
theorem dX12_splits_210 : decode cX12_splits 210 = .ok (.getfield 145, 3) := by decide +kernel
theorem dX12_splits_213 : decode cX12_splits 213 = .ok (.iaload, 1) := by decide +kernel
theorem dX12_splits_214 : decode cX12_splits 214 = .ok (.goto 26, 3) := by decide +kernel
theorem dX12_splits_217 : decode cX12_splits 217 = .ok (.bipush 10, 2) := by decide +kernel
theorem dX12_splits_219 : decode cX12_splits 219 = .ok (.aload_n 0, 1) := by decide +kernel
theorem dX12_splits_220 : decode cX12_splits 220 = .ok (.getfield 46, 3) := by decide +kernel
theorem dX12_splits_223 : decode cX12_splits 223 = .ok (.aload_n 0, 1) := by decide +kernel
theorem dX12_splits_224 : decode cX12_splits 224 = .ok (.getfield 145, 3) := by decide +kernel
theorem dX12_splits_227 : decode cX12_splits 227 = .ok (.iaload, 1) := by decide +kernel
theorem dX12_splits_228 : decode cX12_splits 228 = .ok (.imul, 1) := by decide +kernel
theorem dX12_splits_229 : decode cX12_splits 229 = .ok (.aload_n 0, 1) := by decide +kernel
theorem dX12_splits_230 : decode cX12_splits 230 = .ok (.getfield 34, 3) := by decide +kernel
theorem dX12_splits_233 : decode cX12_splits 233 = .ok (.iload 5, 2) := by decide +kernel
theorem dX12_splits_235 : decode cX12_splits 235 = .ok (.baload, 1) := by decide +kernel
theorem dX12_splits_236 : decode cX12_splits 236 = .ok (.iadd, 1) := by decide +kernel
theorem dX12_splits_237 : decode cX12_splits 237 = .ok (.bipush 48, 2) := by decide +kernel
theorem dX12_splits_239 : decode cX12_splits 239 = .ok (.isub, 1) := by decide +kernel
theorem dX12_splits_240 : decode cX12_splits 240 = .ok (.iastore, 1) := by decide +kernel
theorem dX12_splits_241 : decode cX12_splits 241 = .ok (.iinc 5 1, 3) := by decide +kernel
theorem dX12_splits_244 : decode cX12_splits 244 = .ok (.goto (-75), 3) := by decide +kernel
theorem dX12_splits_247 : decode cX12_splits 247 = .ok (.aload_n 0, 1) := by decide +kernel
theorem dX12_splits_248 : decode cX12_splits 248 = .ok (.dup, 1) := by decide +kernel
theorem dX12_splits_249 : decode cX12_splits 249 = .ok (.getfield 145, 3) := by decide +kernel
theorem dX12_splits_252 : decode cX12_splits 252 = .ok (.iconst 1, 1) := by decide +kernel
theorem dX12_splits_253 : decode cX12_splits 253 = .ok (.iadd, 1) := by decide +kernel
theorem dX12_splits_254 : decode cX12_splits 254 = .ok (.putfield 145, 3) := by decide +kernel
theorem dX12_splits_257 : decode cX12_splits 257 = .ok (.iload 4, 2) := by decide +kernel
theorem dX12_splits_259 : decode cX12_splits 259 = .ok (.istore_n 2, 1) := by decide +kernel
theorem dX12_splits_260 : decode cX12_splits 260 = .ok (.goto (-253), 3) := by decide +kernel
theorem dX12_splits_263 : decode cX12_splits 263 = .ok (.aload_n 0, 1) := by decide +kernel
theorem dX12_splits_264 : decode cX12_splits 264 = .ok (.getfield 49, 3) := by decide +kernel
theorem dX12_splits_267 : decode cX12_splits 267 = .ok (.aload_n 0, 1) := by decide +kernel
theorem dX12_splits_268 : decode cX12_splits 268 = .ok (.getfield 145, 3) := by decide +kernel
theorem dX12_splits_271 : decode cX12_splits 271 = .ok (.iload_n 1, 1) := by decide +kernel
theorem dX12_splits_272 : decode cX12_splits 272 = .ok (.iastore, 1) := by decide +kernel
theorem dX12_splits_273 : decode cX12_splits 273 = .ok (.aload_n 0, 1) := by decide +kernel
theorem dX12_splits_274 : decode cX12_splits 274 = .ok (.getfield 43, 3) := by decide +kernel
theorem dX12_splits_277 : decode cX12_splits 277 = .ok (.aload_n 0, 1) := by decide +kernel
theorem dX12_splits_278 : decode cX12_splits 278 = .ok (.getfield 145, 3) := by decide +kernel
theorem dX12_splits_281 : decode cX12_splits 281 = .ok (.iconst 0, 1) := by decide +kernel
theorem dX12_splits_282 : decode cX12_splits 282 = .ok (.iastore, 1) := by decide +kernel
theorem dX12_splits_283 : decode cX12_splits 283 = .ok (.aload_n 0, 1) := by decide +kernel
theorem dX12_splits_284 : decode cX12_splits 284 = .ok (.getfield 46, 3) := by decide +kernel
theorem dX12_splits_287 : decode cX12_splits 287 = .ok (.aload_n 0, 1) := by decide +kernel
theorem dX12_splits_288 : decode cX12_splits 288 = .ok (.getfield 145, 3) := by decide +kernel
theorem dX12_splits_291 : decode cX12_splits 291 = .ok (.iconst 0, 1) := by decide +kernel
theorem dX12_splits_292 : decode cX12_splits 292 = .ok (.iastore, 1) := by decide +kernel
theorem dX12_splits_293 : decode cX12_splits 293 = .ok (.return_, 1) := by decide +kernel
set_option maxHeartbeats 4000000 in
set_option maxRecDepth 100000 in
theorem c_X12_splits (l : Launch) (E : Nat → Nat) (D : va_G) (G : th_G) (h0 : Nat) (hG0 : G h0 = some (10, 0)) (x1 : Int32) (hx1 : (0 : Int) ≤ x1.toInt ∧ x1.toInt ≤ 400) (ff : Nat → Int32) (hkf : kOk (E 10) ff) : Met l yX12_splits (tb (.code yX12_splits cX12_splits 6 none)) (rm 2) (va_Pc [.ref h0, .int x1] (PX E D G (fun H => ga E D G h0 3 (1, 5123) ff H))) (QXv E D G (fun H => ∃ (z : Int32) (cd : Nat → Int32), gf D h0 15 z H ∧ 0 ≤ z.toInt ∧ z.toInt ≤ 400 ∧ ga E D G h0 3 (1, 5123) ff H ∧ ga E D G h0 12 (8, 401) cd H ∧ (cd z.toNatClampNeg).toInt = 0)) 0 0 (th_A G) := by
  refine Met.ofW (cc := cX12_splits) (maxL := 6) (ret := none) (by decide) rfl ?_
  intro p e s m args below meth c s₁ B hml hv
  obtain ⟨hav, ⟨hI, hN, hK⟩, hX⟩ := hv
  have hx := B.exec
  have hb := B.bytes
  have hr := B.returns
  have hts := atoms_spec (ws := tb (.code yX12_splits cX12_splits 6 none)) B.pre
  have hown : s.vm.findClass RX12 = some m.cls := findClass_of_methodNamed B.named
  have hlocks := B.notSynchronized
  have hS : va_S (th_A G) s.heap s.heap [] := va_S.rf
  have hl := lv_entry ([.ref h0, .int x1]) (n := 6) (Nat.le_of_ble_eq_true rfl)
  rw [show entryFrame m args 6 = entryFrame m ([.ref h0, .int x1] : List Value).toArray 6 from by rw [hav], lg_entry_eq]
  generalize (lg_sl ([.ref h0, .int x1]) ++ List.replicate (6 - (lg_sl ([.ref h0, .int x1])).length) Slot.unset).toArray = ls at hl ⊢
  have hl : lv_has ls 6 [(0, .ref h0), (1, .int x1)] := hl
  generalize hR : (headSpec (tb (.code yX12_splits cX12_splits 6 none)) (rm 2)).room = R
  have hR := hR.symm
  generalize hQ : MQ below (QXv E D G (fun H => ∃ (z : Int32) (cd : Nat → Int32), gf D h0 15 z H ∧ 0 ≤ z.toInt ∧ z.toInt ≤ 400 ∧ ga E D G h0 3 (1, 5123) ff H ∧ ga E D G h0 12 (8, 401) cd H ∧ (cd z.toNatClampNeg).toInt = 0)) args s 0 0 (th_A G) = QF
  have hQ := hQ.symm
  obtain ⟨q_3, hf_3, hq_3, hA_3⟩ := hX
  have J_7 : ∀ (nn : Nat) (H : Heap) (locs : List Loc) (ls : Array Slot) (v3395 : Int32) (v3396 : Int32) , (Int.toNat (x1.toInt - v3395.toInt) = nn) → lv_has ls 6 [(2, .int v3395), (0, .ref h0), (1, .int x1)] → ((0 : Int) ≤ v3395.toInt ∧ v3395.toInt ≤ 400) → ((0 : Int) ≤ x1.toInt ∧ x1.toInt ≤ 400) → ((0 : Int) ≤ v3396.toInt ∧ v3396.toInt ≤ 400) → (v3396.toInt ≤ v3395.toInt) → (v3395.toInt ≤ x1.toInt) → gf D h0 15 v3396 H → ga E D G h0 3 (1, 5123) ff H → th_I (okM E) D G [] H → va_S (th_A G) s.heap H locs → W p l e R s m args below meth c H locs 0 0 QF (F0 m 7 ls []) := by
    intro nn
    induction nn using Nat.strongRecOn with
    | ind nn ih_7 =>
      intro H locs ls v3395 v3396  hm hl k3397 k3398 k3399 k3400 k3401 hg3402 hga_3 hI hS
      obtain ⟨a3403, hf3404, hq3405, hA3406⟩ := hga_3
      have J_247 : ∀ (H : Heap) (locs : List Loc) (ls : Array Slot) (v3407 : Int32) (v3408 : Int32) (v3409 : Int32) (v3411 : Int32) , lv_has ls 6 [(5, .int v3407), (4, .int v3408), (3, .int v3409), (2, .int v3395), (0, .ref h0), (1, .int x1)] → ((0 : Int) ≤ v3407.toInt ∧ v3407.toInt ≤ 400) → ((0 : Int) ≤ v3408.toInt ∧ v3408.toInt ≤ 400) → ((1 : Int) ≤ x1.toInt ∧ x1.toInt ≤ 400) → ((0 : Int) ≤ v3411.toInt ∧ v3411.toInt ≤ 400) → (v3411.toInt ≤ v3395.toInt) → (v3395.toInt < v3408.toInt) → (v3408.toInt ≤ x1.toInt) → gf D h0 15 v3411 H → ga E D G h0 3 (1, 5123) ff H → th_I (okM E) D G [] H → va_S (th_A G) s.heap H locs → W p l e R s m args below meth c H locs 0 0 QF (F0 m 247 ls []) := by
        intro H locs ls v3407 v3408 v3409 v3411  hl k3412 k3413 k3414 k3415 k3416 k3417 k3418 hg3419 hga_3 hI hS
        obtain ⟨a3420, hf3421, hq3422, hA3423⟩ := hga_3
        refine lv_aload_n hx hb dX12_splits_247 rfl (lv_at hl 4 rfl) ?_
        refine lv_dup hx hb dX12_splits_248 rfl ?_
        refine gmI hx hb hts inT12 hown hK hI List.not_mem_nil hG0 15 (by decide) (hts _ (tb_c wd_1248)) rfl rfl dX12_splits_249 (fun w3424 hg3425 k3426 k3427 => ?_)
        obtain rfl := gf.uniq (by decide) hg3419 hg3425
        refine lv_iconst (v := 1) hx hb dX12_splits_252 (by decide) ?_
        refine lv_iadd hx hb dX12_splits_253 ?_
        refine lv_topi (fun v3428 e3429 => ?_)
        have tv3428 : v3428.toInt = v3411.toInt + (1) := iv_add rfl (by decide) e3429 (by omega) (by omega)
        refine pmI (ty := .int) hx hb hts inT12 hown hK hI List.not_mem_nil hG0 hS ⟨_, hG0⟩ 15 (by decide) (hts _ (tb_c wd_1248)) rfl rfl (by decide +kernel) rfl rfl rfl (by omega) (by omega) dX12_splits_254 (fun H locs hI hgP hS => ?_)
        have hg3430 := hgP.2.1
        have hf3421 := hgP.2.2.2 3 _ (by decide) (by decide) hf3421
        have hA3423 := va_at.kept hA3423 (hgP.1 _ (m_ne hq3422 hG0 (by first | decide | (dsimp only; decide))))
        refine lv_iload hx hb dX12_splits_257 (lv_at hl 1 rfl) ?_
        refine lv_istore_n (lv' := [(2, .int v3408), (5, .int v3407), (4, .int v3408), (3, .int v3409), (0, .ref h0), (1, .int x1)]) hx hb dX12_splits_259 rfl hl (by decide) rfl (fun ls hl => ?_)
        refine lv_goto (tgt := 7) hx hb dX12_splits_260 (by decide) ?_
        exact ih_7 _ (by omega) H locs ls v3408 v3428  rfl (lv_sub hl [0, 4, 5] rfl) ⟨by omega, by omega⟩ ⟨by omega, by omega⟩ ⟨by omega, by omega⟩ (by first | omega | (rw [show (0 : Int32).toInt = 0 from by decide]; omega)) (by first | omega | (rw [show (0 : Int32).toInt = 0 from by decide]; omega)) hg3430 ⟨a3420, hf3421, hq3422, hA3423⟩ hI hS
      have J_169 : ∀ (nn : Nat) (H : Heap) (locs : List Loc) (ls : Array Slot) (v3431 : Int32) (v3432 : Int32) (v3433 : Int32) (v3435 : Int32) , (Int.toNat (v3432.toInt - v3431.toInt) = nn) → lv_has ls 6 [(5, .int v3431), (4, .int v3432), (3, .int v3433), (2, .int v3395), (0, .ref h0), (1, .int x1)] → ((0 : Int) ≤ v3431.toInt ∧ v3431.toInt ≤ 400) → ((0 : Int) ≤ v3432.toInt ∧ v3432.toInt ≤ 400) → ((1 : Int) ≤ x1.toInt ∧ x1.toInt ≤ 400) → ((0 : Int) ≤ v3435.toInt ∧ v3435.toInt ≤ 400) → (v3435.toInt ≤ v3395.toInt) → (v3395.toInt < v3432.toInt) → (v3432.toInt ≤ x1.toInt) → (v3395.toInt ≤ v3431.toInt) → gf D h0 15 v3435 H → ga E D G h0 3 (1, 5123) ff H → th_I (okM E) D G [] H → va_S (th_A G) s.heap H locs → W p l e R s m args below meth c H locs 0 0 QF (F0 m 169 ls []) := by
        intro nn
        induction nn using Nat.strongRecOn with
        | ind nn ih_169 =>
          intro H locs ls v3431 v3432 v3433 v3435  hm hl k3436 k3437 k3438 k3439 k3440 k3441 k3442 k3443 hg3444 hga_3 hI hS
          obtain ⟨a3445, hf3446, hq3447, hA3448⟩ := hga_3
          have J_240 : ∀ (H : Heap) (locs : List Loc) (ls : Array Slot) (v3453 : Int32) (v3454 : Int32) (v3455 : Int32) (a3456 : Nat) , lv_has ls 6 [(5, .int v3431), (4, .int v3432), (3, .int v3433), (2, .int v3395), (0, .ref h0), (1, .int x1)] → ((48 : Int) ≤ v3433.toInt ∧ v3433.toInt ≤ 57) → ((0 : Int) ≤ v3453.toInt ∧ v3453.toInt ≤ 400) → ((0 : Int) ≤ v3455.toInt ∧ v3455.toInt ≤ 400) → G a3456 = some (0, 401) → (v3453.toInt ≤ v3395.toInt) → (v3395.toInt < v3432.toInt) → (v3432.toInt ≤ x1.toInt) → (v3395.toInt ≤ v3431.toInt) → (v3431.toInt < v3432.toInt) → gf D h0 15 v3453 H → ga E D G h0 3 (1, 5123) ff H → th_I (okM E) D G [] H → va_S (th_A G) s.heap H locs → W p l e R s m args below meth c H locs 0 0 QF (F0 m 240 ls [.int v3454, .int v3455, .ref a3456]) := by
            intro H locs ls v3453 v3454 v3455 a3456  hl k3457 k3458 k3459 ha3456 k3460 k3461 k3462 k3463 k3464 hg3465 hga_3 hI hS
            obtain ⟨a3466, hf3467, hq3468, hA3469⟩ := hga_3
            obtain ⟨F3470, hA3471⟩ := om_0 hI ha3456 List.not_mem_nil
            refine th_iast hx hb hK hA3471 0 rfl hS ⟨_, ha3456⟩ (iv_in (X := v3455.toInt) rfl (by omega) (by omega)) dX12_splits_240 (fun H locs hA3472 oq hS => ?_)
            have hI := th_I.put hI ha3456 hA3472 ok_m0 oq
            have hg3465 := gf.arr hG0 ha3456 (by decide) oq hg3465
            have hf3467 := fr.arr hG0 ha3456 (by decide) oq hf3467
            have hA3469 := va_at.kept hA3469 (oq _ (m_ne hq3468 ha3456 (by first | decide | (dsimp only; decide))))
            obtain ⟨v3473, e3474⟩ : ∃ y : Int32, y = v3431 + (1) := ⟨_, rfl⟩
            have tv3473 : v3473.toInt = v3431.toInt + (1) := iv_add rfl (by decide) e3474 (by omega) (by omega)
            refine lv_iinc (v := v3473) (lv' := [(5, .int v3473), (4, .int v3432), (3, .int v3433), (2, .int v3395), (0, .ref h0), (1, .int x1)]) hx hb dX12_splits_241 hl (k := 0) rfl (by rw [e3474]; rfl) (by decide) rfl (fun ls hl => ?_)
            refine lv_goto (tgt := 169) hx hb dX12_splits_244 (by decide) ?_
            exact ih_169 _ (by omega) H locs ls v3473 v3432 v3433 v3453  rfl (lv_sub hl [0, 1, 2, 3, 4, 5] rfl) ⟨by omega, by omega⟩ ⟨by omega, by omega⟩ ⟨by omega, by omega⟩ ⟨by omega, by omega⟩ (by first | omega | (rw [show (0 : Int32).toInt = 0 from by decide]; omega)) (by first | omega | (rw [show (0 : Int32).toInt = 0 from by decide]; omega)) (by first | omega | (rw [show (0 : Int32).toInt = 0 from by decide]; omega)) (by first | omega | (rw [show (0 : Int32).toInt = 0 from by decide]; omega)) hg3465 ⟨a3466, hf3467, hq3468, hA3469⟩ hI hS
          refine lv_iload hx hb dX12_splits_169 (lv_at hl 0 rfl) ?_
          refine lv_iload hx hb dX12_splits_171 (lv_at hl 1 rfl) ?_
          refine lv_icmp_ge (tgt := 247) hx hb dX12_splits_173 (by decide) (fun c3475 => ?_) (fun c3475 => ?_)
          · skip
            have k3476 := iv_le (X := v3432.toInt) (Y := v3431.toInt) rfl rfl c3475
            exact J_247 H locs ls v3431 v3432 v3433 v3435  (lv_sub hl [0, 1, 2, 3, 4, 5] rfl) ⟨by omega, by omega⟩ ⟨by omega, by omega⟩ ⟨by omega, by omega⟩ ⟨by omega, by omega⟩ (by first | omega | (rw [show (0 : Int32).toInt = 0 from by decide]; omega)) (by first | omega | (rw [show (0 : Int32).toInt = 0 from by decide]; omega)) (by first | omega | (rw [show (0 : Int32).toInt = 0 from by decide]; omega)) hg3444 ⟨a3445, hf3446, hq3447, hA3448⟩ hI hS
          · skip
            have k3477 := iv_nle (X := v3432.toInt) (Y := v3431.toInt) rfl rfl c3475
            refine lv_iload_n hx hb dX12_splits_176 rfl (lv_at hl 2 rfl) ?_
            refine th_cSs (As := [.int v3433]) (rest := []) (n := 1) (d := 1) ⟨hx, hb, hml, hown, hts⟩ (c_X12_isDigit l H v3433) wd_1575 wd_1576 wd_13 wd_1577 (by decide +kernel) ⟨by rw [hR]; exact Nat.le_of_ble_eq_true rfl, by rw [hR]; exact Nat.le_of_ble_eq_true rfl⟩ hN hS rfl hl.1 rfl (Nat.le_of_ble_eq_true rfl) dX12_splits_177 ⟨Nat.zero_le _, Nat.zero_le _⟩ (fun r3478 locs hp hS => ?_)
            rcases hp with ⟨rfl, hp⟩ | ⟨rfl, hp⟩
            · skip
              try simp only [rg, not_and, Int.not_le] at hp
              have hp3479 := hp
              refine lv_if_eq (tgt := 247) hx hb dX12_splits_180 (by decide) (fun c => absurd c (by decide)) (fun _ => ?_)
              refine lv_aload_n hx hb dX12_splits_183 rfl (lv_at hl 4 rfl) ?_
              refine gmA hx hb hts inT12 hown hK hI List.not_mem_nil hG0 13 (by decide) (hts _ (tb_c wd_1246)) rfl rfl dX12_splits_184 (fun a3480 hq3481 hf3482 => ?_)
              refine lv_aload_n hx hb dX12_splits_187 rfl (lv_at hl 4 rfl) ?_
              refine gmI hx hb hts inT12 hown hK hI List.not_mem_nil hG0 15 (by decide) (hts _ (tb_c wd_1248)) rfl rfl dX12_splits_188 (fun w3483 hg3484 k3485 k3486 => ?_)
              obtain rfl := gf.uniq (by decide) hg3444 hg3484
              refine lv_aload_n hx hb dX12_splits_191 rfl (lv_at hl 4 rfl) ?_
              refine gmA hx hb hts inT12 hown hK hI List.not_mem_nil hG0 13 (by decide) (hts _ (tb_c wd_1246)) rfl rfl dX12_splits_192 (fun a3487 hq3488 hf3489 => ?_)
              obtain rfl := fr.uniq (by decide) hf3482 hf3489
              refine lv_aload_n hx hb dX12_splits_195 rfl (lv_at hl 4 rfl) ?_
              refine gmI hx hb hts inT12 hown hK hI List.not_mem_nil hG0 15 (by decide) (hts _ (tb_c wd_1248)) rfl rfl dX12_splits_196 (fun w3490 hg3491 k3492 k3493 => ?_)
              obtain rfl := gf.uniq (by decide) hg3444 hg3491
              obtain ⟨F3494, hA3495⟩ := om_0 hI hq3481 List.not_mem_nil
              refine th_iald hx hb hK hA3495 0 rfl (iv_in (X := v3435.toInt) rfl (by omega) (by omega)) dX12_splits_199 (fun v3496 e3497 => ?_)
              refine lv_ldc hx hb hown (hts _ (tb_c wd_1582)) dX12_splits_200 ?_
              have k3498 := iv_lo v3496
              have k3499 := iv_hi v3496
              refine lv_icmp_le (tgt := 217) hx hb dX12_splits_202 (by decide) (fun c3500 => ?_) (fun c3500 => ?_)
              · skip
                have k3501 := iv_le (X := v3496.toInt) (Y := (1000000)) rfl (by decide) c3500
                refine lv_bipush (v := 10) hx hb dX12_splits_217 (by decide) ?_
                refine lv_aload_n hx hb dX12_splits_219 rfl (lv_at hl 4 rfl) ?_
                refine gmA hx hb hts inT12 hown hK hI List.not_mem_nil hG0 13 (by decide) (hts _ (tb_c wd_1246)) rfl rfl dX12_splits_220 (fun a3502 hq3503 hf3504 => ?_)
                obtain rfl := fr.uniq (by decide) hf3482 hf3504
                refine lv_aload_n hx hb dX12_splits_223 rfl (lv_at hl 4 rfl) ?_
                refine gmI hx hb hts inT12 hown hK hI List.not_mem_nil hG0 15 (by decide) (hts _ (tb_c wd_1248)) rfl rfl dX12_splits_224 (fun w3505 hg3506 k3507 k3508 => ?_)
                obtain rfl := gf.uniq (by decide) hg3444 hg3506
                refine th_iald hx hb hK hA3495 0 rfl (iv_in (X := v3435.toInt) rfl (by omega) (by omega)) dX12_splits_227 (fun v3509 e3510 => ?_)
                obtain rfl := (rd_same (i := v3435) (j := v3435) e3497 e3510 (X := v3435.toInt) (Y := v3435.toInt) rfl rfl (by omega)).symm
                refine lv_imul hx hb dX12_splits_228 ?_
                refine lv_topi (fun v3511 e3512 => ?_)
                try have tv3511 : v3511.toInt = (10) * v3496.toInt := iv_mul (by decide) rfl e3512 (by omega) (by omega)
                refine lv_aload_n hx hb dX12_splits_229 rfl (lv_at hl 4 rfl) ?_
                refine gmA hx hb hts inT12 hown hK hI List.not_mem_nil hG0 8 (by decide) (hts _ (tb_c wd_1241)) rfl rfl dX12_splits_230 (fun a3513 hq3514 hf3515 => ?_)
                refine lv_iload hx hb dX12_splits_233 (lv_at hl 0 rfl) ?_
                obtain ⟨F3516, hA3517⟩ := om_4 hI hq3514 List.not_mem_nil
                refine va_bald hx hb hK (th_one hA3517) 0 3 rfl rfl (iv_in (X := v3431.toInt) rfl (by omega) (by omega)) dX12_splits_235 ?_
                refine lv_topi (fun v3518 e3519 => ?_)
                refine lv_iadd hx hb dX12_splits_236 ?_
                refine lv_topi (fun v3520 e3521 => ?_)
                try have tv3520 : v3520.toInt = v3511.toInt + v3518.toInt := iv_add rfl rfl e3521 (by omega) (by omega)
                refine lv_bipush (v := 48) hx hb dX12_splits_237 (by decide) ?_
                refine lv_isub hx hb dX12_splits_239 ?_
                refine lv_topi (fun v3522 e3523 => ?_)
                try have tv3522 : v3522.toInt = v3520.toInt - (48) := iv_sub rfl (by decide) e3523 (by omega) (by omega)
                exact J_240 H locs ls v3435 v3522 v3435 a3480  (lv_sub hl [0, 1, 2, 3, 4, 5] rfl) ⟨by omega, by omega⟩ ⟨by omega, by omega⟩ ⟨by omega, by omega⟩ hq3481 (by first | omega | (rw [show (0 : Int32).toInt = 0 from by decide]; omega)) (by first | omega | (rw [show (0 : Int32).toInt = 0 from by decide]; omega)) (by first | omega | (rw [show (0 : Int32).toInt = 0 from by decide]; omega)) (by first | omega | (rw [show (0 : Int32).toInt = 0 from by decide]; omega)) (by first | omega | (rw [show (0 : Int32).toInt = 0 from by decide]; omega)) hg3444 ⟨a3445, hf3446, hq3447, hA3448⟩ hI hS
              · skip
                have k3524 := iv_nle (X := v3496.toInt) (Y := (1000000)) rfl (by decide) c3500
                refine lv_aload_n hx hb dX12_splits_205 rfl (lv_at hl 4 rfl) ?_
                refine gmA hx hb hts inT12 hown hK hI List.not_mem_nil hG0 13 (by decide) (hts _ (tb_c wd_1246)) rfl rfl dX12_splits_206 (fun a3525 hq3526 hf3527 => ?_)
                obtain rfl := fr.uniq (by decide) hf3482 hf3527
                refine lv_aload_n hx hb dX12_splits_209 rfl (lv_at hl 4 rfl) ?_
                refine gmI hx hb hts inT12 hown hK hI List.not_mem_nil hG0 15 (by decide) (hts _ (tb_c wd_1248)) rfl rfl dX12_splits_210 (fun w3528 hg3529 k3530 k3531 => ?_)
                obtain rfl := gf.uniq (by decide) hg3444 hg3529
                refine th_iald hx hb hK hA3495 0 rfl (iv_in (X := v3435.toInt) rfl (by omega) (by omega)) dX12_splits_213 (fun v3532 e3533 => ?_)
                obtain rfl := (rd_same (i := v3435) (j := v3435) e3497 e3533 (X := v3435.toInt) (Y := v3435.toInt) rfl rfl (by omega)).symm
                refine lv_goto (tgt := 240) hx hb dX12_splits_214 (by decide) ?_
                exact J_240 H locs ls v3435 v3496 v3435 a3480  (lv_sub hl [0, 1, 2, 3, 4, 5] rfl) ⟨by omega, by omega⟩ ⟨by omega, by omega⟩ ⟨by omega, by omega⟩ hq3481 (by first | omega | (rw [show (0 : Int32).toInt = 0 from by decide]; omega)) (by first | omega | (rw [show (0 : Int32).toInt = 0 from by decide]; omega)) (by first | omega | (rw [show (0 : Int32).toInt = 0 from by decide]; omega)) (by first | omega | (rw [show (0 : Int32).toInt = 0 from by decide]; omega)) (by first | omega | (rw [show (0 : Int32).toInt = 0 from by decide]; omega)) hg3444 ⟨a3445, hf3446, hq3447, hA3448⟩ hI hS
            · skip
              try simp only [rg, not_and, Int.not_le] at hp
              have hp3534 := hp
              refine lv_if_eq (tgt := 247) hx hb dX12_splits_180 (by decide) (fun _ => ?_) (fun c => absurd c (by decide))
              exact J_247 H locs ls v3431 v3432 v3433 v3435  (lv_sub hl [0, 1, 2, 3, 4, 5] rfl) ⟨by omega, by omega⟩ ⟨by omega, by omega⟩ ⟨by omega, by omega⟩ ⟨by omega, by omega⟩ (by first | omega | (rw [show (0 : Int32).toInt = 0 from by decide]; omega)) (by first | omega | (rw [show (0 : Int32).toInt = 0 from by decide]; omega)) (by first | omega | (rw [show (0 : Int32).toInt = 0 from by decide]; omega)) hg3444 ⟨a3445, hf3446, hq3447, hA3448⟩ hI hS
      have J_165 : ∀ (H : Heap) (locs : List Loc) (ls : Array Slot) (v3535 : Int32) (v3536 : Int32) (v3538 : Int32) (v3539 : Int32) (v3540 : Int32) (a3541 : Nat) , lv_has ls 6 [(4, .int v3535), (3, .int v3536), (2, .int v3395), (0, .ref h0), (1, .int x1)] → ((0 : Int) ≤ v3535.toInt ∧ v3535.toInt ≤ 400) → ((1 : Int) ≤ x1.toInt ∧ x1.toInt ≤ 400) → ((0 : Int) ≤ v3538.toInt ∧ v3538.toInt ≤ 400) → ((0 : Int) ≤ v3540.toInt ∧ v3540.toInt ≤ 400) → G a3541 = some (8, 401) → (v3538.toInt ≤ v3395.toInt) → (v3395.toInt < v3535.toInt) → (v3535.toInt ≤ x1.toInt) → gf D h0 15 v3538 H → ga E D G h0 3 (1, 5123) ff H → th_I (okM E) D G [] H → va_S (th_A G) s.heap H locs → W p l e R s m args below meth c H locs 0 0 QF (F0 m 165 ls [.int v3539, .int v3540, .ref a3541]) := by
        intro H locs ls v3535 v3536 v3538 v3539 v3540 a3541  hl k3542 k3543 k3544 k3545 ha3541 k3546 k3547 k3548 hg3549 hga_3 hI hS
        obtain ⟨a3550, hf3551, hq3552, hA3553⟩ := hga_3
        obtain ⟨F3554, hA3555⟩ := om_8 hI ha3541 List.not_mem_nil
        refine th_iast hx hb hK hA3555 0 rfl hS ⟨_, ha3541⟩ (iv_in (X := v3540.toInt) rfl (by omega) (by omega)) dX12_splits_165 (fun H locs hA3556 oq hS => ?_)
        have hI := th_I.put hI ha3541 hA3556 ok_m8 oq
        have hg3549 := gf.arr hG0 ha3541 (by decide) oq hg3549
        have hf3551 := fr.arr hG0 ha3541 (by decide) oq hf3551
        have hA3553 := va_at.kept hA3553 (oq _ (m_ne hq3552 ha3541 (by first | decide | (dsimp only; decide))))
        refine lv_iload_n hx hb dX12_splits_166 rfl (lv_at hl 2 rfl) ?_
        refine lv_istore (lv' := [(5, .int v3395), (4, .int v3535), (3, .int v3536), (2, .int v3395), (0, .ref h0), (1, .int x1)]) hx hb dX12_splits_167 hl (by decide) rfl (fun ls hl => ?_)
        exact J_169 _ H locs ls v3395 v3535 v3536 v3538  rfl (lv_sub hl [0, 1, 2, 3, 4, 5] rfl) ⟨by omega, by omega⟩ ⟨by omega, by omega⟩ ⟨by omega, by omega⟩ ⟨by omega, by omega⟩ (by first | omega | (rw [show (0 : Int32).toInt = 0 from by decide]; omega)) (by first | omega | (rw [show (0 : Int32).toInt = 0 from by decide]; omega)) (by first | omega | (rw [show (0 : Int32).toInt = 0 from by decide]; omega)) (by first | omega | (rw [show (0 : Int32).toInt = 0 from by decide]; omega)) hg3549 ⟨a3550, hf3551, hq3552, hA3553⟩ hI hS
      have J_100 : ∀ (H : Heap) (locs : List Loc) (ls : Array Slot) (v3557 : Int32) (v3558 : Int32) (v3560 : Int32) , lv_has ls 6 [(4, .int v3557), (3, .int v3558), (2, .int v3395), (0, .ref h0), (1, .int x1)] → ((0 : Int) ≤ v3557.toInt ∧ v3557.toInt ≤ 400) → ((1 : Int) ≤ x1.toInt ∧ x1.toInt ≤ 400) → ((0 : Int) ≤ v3560.toInt ∧ v3560.toInt ≤ 400) → (v3560.toInt ≤ v3395.toInt) → (v3395.toInt < v3557.toInt) → (v3557.toInt ≤ x1.toInt) → gf D h0 15 v3560 H → ga E D G h0 3 (1, 5123) ff H → th_I (okM E) D G [] H → va_S (th_A G) s.heap H locs → W p l e R s m args below meth c H locs 0 0 QF (F0 m 100 ls []) := by
        intro H locs ls v3557 v3558 v3560  hl k3561 k3562 k3563 k3564 k3565 k3566 hg3567 hga_3 hI hS
        obtain ⟨a3568, hf3569, hq3570, hA3571⟩ := hga_3
        refine lv_aload_n hx hb dX12_splits_100 rfl (lv_at hl 3 rfl) ?_
        refine gmA hx hb hts inT12 hown hK hI List.not_mem_nil hG0 14 (by decide) (hts _ (tb_c wd_1247)) rfl rfl dX12_splits_101 (fun a3572 hq3573 hf3574 => ?_)
        refine lv_aload_n hx hb dX12_splits_104 rfl (lv_at hl 3 rfl) ?_
        refine gmI hx hb hts inT12 hown hK hI List.not_mem_nil hG0 15 (by decide) (hts _ (tb_c wd_1248)) rfl rfl dX12_splits_105 (fun w3575 hg3576 k3577 k3578 => ?_)
        obtain rfl := gf.uniq (by decide) hg3567 hg3576
        refine lv_iload_n hx hb dX12_splits_108 rfl (lv_at hl 2 rfl) ?_
        obtain ⟨F3579, hA3580, hP3581⟩ := om_6 hI hq3573 List.not_mem_nil
        refine th_iast hx hb hK hA3580 0 rfl hS ⟨_, hq3573⟩ (iv_in (X := v3560.toInt) rfl (by omega) (by omega)) dX12_splits_109 (fun H locs hA3582 oq hS => ?_)
        have hP3583 := rgs_set (k := v3560.toNatClampNeg) (v := v3395) hP3581 (by omega) (by omega)
        have hI := th_I.put hI hq3573 hA3582 (ok_m6 hP3583) oq
        have hg3567 := gf.arr hG0 hq3573 (by decide) oq hg3567
        have hf3569 := fr.arr hG0 hq3573 (by decide) oq hf3569
        have hf3574 := fr.arr hG0 hq3573 (by decide) oq hf3574
        have hA3571 := va_at.kept hA3571 (oq _ (m_ne hq3570 hq3573 (by first | decide | (dsimp only; decide))))
        have e3584 : v3395 = (upd F3579 (v3560 : Int32).toNatClampNeg v3395) (v3560 : Int32).toNatClampNeg := rd_us
        refine lv_aload_n hx hb dX12_splits_110 rfl (lv_at hl 3 rfl) ?_
        refine gmA hx hb hts inT12 hown hK hI List.not_mem_nil hG0 13 (by decide) (hts _ (tb_c wd_1246)) rfl rfl dX12_splits_111 (fun a3585 hq3586 hf3587 => ?_)
        refine lv_aload_n hx hb dX12_splits_114 rfl (lv_at hl 3 rfl) ?_
        refine gmI hx hb hts inT12 hown hK hI List.not_mem_nil hG0 15 (by decide) (hts _ (tb_c wd_1248)) rfl rfl dX12_splits_115 (fun w3588 hg3589 k3590 k3591 => ?_)
        obtain rfl := gf.uniq (by decide) hg3567 hg3589
        refine lv_iconst (v := 0) hx hb dX12_splits_118 (by decide) ?_
        obtain ⟨F3592, hA3593⟩ := om_0 hI hq3586 List.not_mem_nil
        refine th_iast hx hb hK hA3593 0 rfl hS ⟨_, hq3586⟩ (iv_in (X := v3560.toInt) rfl (by omega) (by omega)) dX12_splits_119 (fun H locs hA3594 oq hS => ?_)
        have hI := th_I.put hI hq3586 hA3594 ok_m0 oq
        have hg3567 := gf.arr hG0 hq3586 (by decide) oq hg3567
        have hf3569 := fr.arr hG0 hq3586 (by decide) oq hf3569
        have hf3574 := fr.arr hG0 hq3586 (by decide) oq hf3574
        have hf3587 := fr.arr hG0 hq3586 (by decide) oq hf3587
        have hA3571 := va_at.kept hA3571 (oq _ (m_ne hq3570 hq3586 (by first | decide | (dsimp only; decide))))
        have hA3582 := va_at.kept hA3582 (oq _ (m_ne hq3573 hq3586 (by first | decide | (dsimp only; decide))))
        have e3595 : 0 = (upd F3592 (v3560 : Int32).toNatClampNeg 0) (v3560 : Int32).toNatClampNeg := rd_us
        refine lv_aload_n hx hb dX12_splits_120 rfl (lv_at hl 3 rfl) ?_
        refine gmA hx hb hts inT12 hown hK hI List.not_mem_nil hG0 12 (by decide) (hts _ (tb_c wd_1245)) rfl rfl dX12_splits_121 (fun a3596 hq3597 hf3598 => ?_)
        refine lv_aload_n hx hb dX12_splits_124 rfl (lv_at hl 3 rfl) ?_
        refine gmI hx hb hts inT12 hown hK hI List.not_mem_nil hG0 15 (by decide) (hts _ (tb_c wd_1248)) rfl rfl dX12_splits_125 (fun w3599 hg3600 k3601 k3602 => ?_)
        obtain rfl := gf.uniq (by decide) hg3567 hg3600
        refine lv_iload_n hx hb dX12_splits_128 rfl (lv_at hl 1 rfl) ?_
        refine th_cSs (As := [.int v3558]) (rest := [.int v3560, .ref a3596]) (n := 1) (d := 1) ⟨hx, hb, hml, hown, hts⟩ (c_X12_isSmall l H v3558) wd_1572 wd_1573 wd_13 wd_1574 (by decide +kernel) ⟨by rw [hR]; exact Nat.le_of_ble_eq_true rfl, by rw [hR]; exact Nat.le_of_ble_eq_true rfl⟩ hN hS rfl hl.1 rfl (Nat.le_of_ble_eq_true rfl) dX12_splits_129 ⟨Nat.zero_le _, Nat.zero_le _⟩ (fun r3603 locs hp hS => ?_)
        rcases hp with ⟨rfl, hp⟩ | ⟨rfl, hp⟩
        · skip
          try simp only [rg, not_and, Int.not_le] at hp
          have hp3604 := hp
          refine lv_if_eq (tgt := 145) hx hb dX12_splits_132 (by decide) (fun c => absurd c (by decide)) (fun _ => ?_)
          refine lv_aload_n hx hb dX12_splits_135 rfl (lv_at hl 3 rfl) ?_
          refine lv_iload_n hx hb dX12_splits_136 rfl (lv_at hl 2 rfl) ?_
          refine lv_iload hx hb dX12_splits_137 (lv_at hl 0 rfl) ?_
          refine mr_i (As := [.int v3395, .int v3557]) (rest := [.int v3560, .ref a3596]) (n := 2) (d := 0) ⟨hx, hb, hml, hown, hts⟩ (c_X12_wordOf l E D G H h0 hG0 v3395 v3557 ⟨by omega, by omega⟩ ⟨by omega, by omega⟩) wd_1578 wd_1580 wp_64 wd_13 wd_1581 (by decide +kernel) ⟨by rw [hR]; exact Nat.le_of_ble_eq_true rfl, by rw [hR]; exact Nat.le_of_ble_eq_true rfl⟩ hI hN hK hS hG0 rfl hl.1 rfl (Nat.le_of_ble_eq_true rfl) dX12_splits_139 ⟨Nat.zero_le _, Nat.zero_le _⟩ (fun r3605 locs hp hS => ?_)
          refine lv_goto (tgt := 165) hx hb dX12_splits_142 (by decide) ?_
          exact J_165 H locs ls v3557 v3558 v3560 r3605 v3560 a3596  (lv_sub hl [0, 1, 2, 3, 4] rfl) ⟨by omega, by omega⟩ ⟨by omega, by omega⟩ ⟨by omega, by omega⟩ ⟨by omega, by omega⟩ hq3597 (by first | omega | (rw [show (0 : Int32).toInt = 0 from by decide]; omega)) (by first | omega | (rw [show (0 : Int32).toInt = 0 from by decide]; omega)) (by first | omega | (rw [show (0 : Int32).toInt = 0 from by decide]; omega)) hg3567 ⟨a3568, hf3569, hq3570, hA3571⟩ hI hS
        · skip
          try simp only [rg, not_and, Int.not_le] at hp
          have hp3606 := hp
          refine lv_if_eq (tgt := 145) hx hb dX12_splits_132 (by decide) (fun _ => ?_) (fun c => absurd c (by decide))
          refine lv_iload_n hx hb dX12_splits_145 rfl (lv_at hl 1 rfl) ?_
          refine th_cSs (As := [.int v3558]) (rest := [.int v3560, .ref a3596]) (n := 1) (d := 1) ⟨hx, hb, hml, hown, hts⟩ (c_X12_isDigit l H v3558) wd_1575 wd_1576 wd_13 wd_1577 (by decide +kernel) ⟨by rw [hR]; exact Nat.le_of_ble_eq_true rfl, by rw [hR]; exact Nat.le_of_ble_eq_true rfl⟩ hN hS rfl hl.1 rfl (Nat.le_of_ble_eq_true rfl) dX12_splits_146 ⟨Nat.zero_le _, Nat.zero_le _⟩ (fun r3607 locs hp hS => ?_)
          rcases hp with ⟨rfl, hp⟩ | ⟨rfl, hp⟩
          · skip
            try simp only [rg, not_and, Int.not_le] at hp
            have hp3608 := hp
            refine lv_if_eq (tgt := 157) hx hb dX12_splits_149 (by decide) (fun c => absurd c (by decide)) (fun _ => ?_)
            refine lv_bipush (v := 50) hx hb dX12_splits_152 (by decide) ?_
            refine lv_goto (tgt := 165) hx hb dX12_splits_154 (by decide) ?_
            exact J_165 H locs ls v3557 v3558 v3560 50 v3560 a3596  (lv_sub hl [0, 1, 2, 3, 4] rfl) ⟨by omega, by omega⟩ ⟨by omega, by omega⟩ ⟨by omega, by omega⟩ ⟨by omega, by omega⟩ hq3597 (by first | omega | (rw [show (0 : Int32).toInt = 0 from by decide]; omega)) (by first | omega | (rw [show (0 : Int32).toInt = 0 from by decide]; omega)) (by first | omega | (rw [show (0 : Int32).toInt = 0 from by decide]; omega)) hg3567 ⟨a3568, hf3569, hq3570, hA3571⟩ hI hS
          · skip
            try simp only [rg, not_and, Int.not_le] at hp
            have hp3609 := hp
            refine lv_if_eq (tgt := 157) hx hb dX12_splits_149 (by decide) (fun _ => ?_) (fun c => absurd c (by decide))
            refine lv_bipush (v := 100) hx hb dX12_splits_157 (by decide) ?_
            refine lv_iload_n hx hb dX12_splits_159 rfl (lv_at hl 1 rfl) ?_
            refine lv_sipush (v := 255) hx hb dX12_splits_160 (by decide) ?_
            refine lv_iand hx hb dX12_splits_163 ?_
            refine lv_topi (fun v3610 e3611 => ?_)
            have tv3610 := iv_andr (m := 255) (M := 255) e3611 (by decide) (by decide)
            refine lv_iadd hx hb dX12_splits_164 ?_
            refine lv_topi (fun v3612 e3613 => ?_)
            have tv3612 : v3612.toInt = (100) + v3610.toInt := iv_add (by decide) rfl e3613 (by omega) (by omega)
            exact J_165 H locs ls v3557 v3558 v3560 v3612 v3560 a3596  (lv_sub hl [0, 1, 2, 3, 4] rfl) ⟨by omega, by omega⟩ ⟨by omega, by omega⟩ ⟨by omega, by omega⟩ ⟨by omega, by omega⟩ hq3597 (by first | omega | (rw [show (0 : Int32).toInt = 0 from by decide]; omega)) (by first | omega | (rw [show (0 : Int32).toInt = 0 from by decide]; omega)) (by first | omega | (rw [show (0 : Int32).toInt = 0 from by decide]; omega)) hg3567 ⟨a3568, hf3569, hq3570, hA3571⟩ hI hS
      have J_75 : ∀ (nn : Nat) (H : Heap) (locs : List Loc) (ls : Array Slot) (v3614 : Int32) (v3615 : Int32) (v3617 : Int32) , (Int.toNat (x1.toInt - v3614.toInt) = nn) → lv_has ls 6 [(4, .int v3614), (3, .int v3615), (2, .int v3395), (0, .ref h0), (1, .int x1)] → ((0 : Int) ≤ v3614.toInt ∧ v3614.toInt ≤ 400) → ((48 : Int) ≤ v3615.toInt ∧ v3615.toInt ≤ 57) → ((1 : Int) ≤ x1.toInt ∧ x1.toInt ≤ 400) → ((0 : Int) ≤ v3617.toInt ∧ v3617.toInt ≤ 400) → (v3617.toInt ≤ v3395.toInt) → (v3395.toInt < v3614.toInt) → (v3614.toInt ≤ x1.toInt) → gf D h0 15 v3617 H → ga E D G h0 3 (1, 5123) ff H → th_I (okM E) D G [] H → va_S (th_A G) s.heap H locs → W p l e R s m args below meth c H locs 0 0 QF (F0 m 75 ls []) := by
        intro nn
        induction nn using Nat.strongRecOn with
        | ind nn ih_75 =>
          intro H locs ls v3614 v3615 v3617  hm hl k3618 k3619 k3620 k3621 k3622 k3623 k3624 hg3625 hga_3 hI hS
          obtain ⟨a3626, hf3627, hq3628, hA3629⟩ := hga_3
          refine lv_iload hx hb dX12_splits_75 (lv_at hl 0 rfl) ?_
          refine lv_iload_n hx hb dX12_splits_77 rfl (lv_at hl 4 rfl) ?_
          refine lv_icmp_ge (tgt := 100) hx hb dX12_splits_78 (by decide) (fun c3630 => ?_) (fun c3630 => ?_)
          · skip
            have k3631 := iv_le (X := x1.toInt) (Y := v3614.toInt) rfl rfl c3630
            exact J_100 H locs ls v3614 v3615 v3617  (lv_sub hl [0, 1, 2, 3, 4] rfl) ⟨by omega, by omega⟩ ⟨by omega, by omega⟩ ⟨by omega, by omega⟩ (by first | omega | (rw [show (0 : Int32).toInt = 0 from by decide]; omega)) (by first | omega | (rw [show (0 : Int32).toInt = 0 from by decide]; omega)) (by first | omega | (rw [show (0 : Int32).toInt = 0 from by decide]; omega)) hg3625 ⟨a3626, hf3627, hq3628, hA3629⟩ hI hS
          · skip
            have k3632 := iv_nle (X := x1.toInt) (Y := v3614.toInt) rfl rfl c3630
            refine lv_aload_n hx hb dX12_splits_81 rfl (lv_at hl 3 rfl) ?_
            refine gmA hx hb hts inT12 hown hK hI List.not_mem_nil hG0 8 (by decide) (hts _ (tb_c wd_1241)) rfl rfl dX12_splits_82 (fun a3633 hq3634 hf3635 => ?_)
            refine lv_iload hx hb dX12_splits_85 (lv_at hl 0 rfl) ?_
            obtain ⟨F3636, hA3637⟩ := om_4 hI hq3634 List.not_mem_nil
            refine va_bald hx hb hK (th_one hA3637) 0 3 rfl rfl (iv_in (X := v3614.toInt) rfl (by omega) (by omega)) dX12_splits_87 ?_
            refine lv_topi (fun v3638 e3639 => ?_)
            refine th_cSs (As := [.int v3638]) (rest := []) (n := 1) (d := 1) ⟨hx, hb, hml, hown, hts⟩ (c_X12_isDigit l H v3638) wd_1575 wd_1576 wd_13 wd_1577 (by decide +kernel) ⟨by rw [hR]; exact Nat.le_of_ble_eq_true rfl, by rw [hR]; exact Nat.le_of_ble_eq_true rfl⟩ hN hS rfl hl.1 rfl (Nat.le_of_ble_eq_true rfl) dX12_splits_88 ⟨Nat.zero_le _, Nat.zero_le _⟩ (fun r3640 locs hp hS => ?_)
            rcases hp with ⟨rfl, hp⟩ | ⟨rfl, hp⟩
            · skip
              try simp only [rg, not_and, Int.not_le] at hp
              have hp3641 := hp
              refine lv_if_eq (tgt := 100) hx hb dX12_splits_91 (by decide) (fun c => absurd c (by decide)) (fun _ => ?_)
              obtain ⟨v3642, e3643⟩ : ∃ y : Int32, y = v3614 + (1) := ⟨_, rfl⟩
              have tv3642 : v3642.toInt = v3614.toInt + (1) := iv_add rfl (by decide) e3643 (by omega) (by omega)
              refine lv_iinc (v := v3642) (lv' := [(4, .int v3642), (3, .int v3615), (2, .int v3395), (0, .ref h0), (1, .int x1)]) hx hb dX12_splits_94 hl (k := 0) rfl (by rw [e3643]; rfl) (by decide) rfl (fun ls hl => ?_)
              refine lv_goto (tgt := 75) hx hb dX12_splits_97 (by decide) ?_
              exact ih_75 _ (by omega) H locs ls v3642 v3615 v3617  rfl (lv_sub hl [0, 1, 2, 3, 4] rfl) ⟨by omega, by omega⟩ ⟨by omega, by omega⟩ ⟨by omega, by omega⟩ ⟨by omega, by omega⟩ (by first | omega | (rw [show (0 : Int32).toInt = 0 from by decide]; omega)) (by first | omega | (rw [show (0 : Int32).toInt = 0 from by decide]; omega)) (by first | omega | (rw [show (0 : Int32).toInt = 0 from by decide]; omega)) hg3625 ⟨a3626, hf3627, hq3628, hA3629⟩ hI hS
            · skip
              try simp only [rg, not_and, Int.not_le] at hp
              have hp3644 := hp
              refine lv_if_eq (tgt := 100) hx hb dX12_splits_91 (by decide) (fun _ => ?_) (fun c => absurd c (by decide))
              exact J_100 H locs ls v3614 v3615 v3617  (lv_sub hl [0, 1, 2, 3, 4] rfl) ⟨by omega, by omega⟩ ⟨by omega, by omega⟩ ⟨by omega, by omega⟩ (by first | omega | (rw [show (0 : Int32).toInt = 0 from by decide]; omega)) (by first | omega | (rw [show (0 : Int32).toInt = 0 from by decide]; omega)) (by first | omega | (rw [show (0 : Int32).toInt = 0 from by decide]; omega)) hg3625 ⟨a3626, hf3627, hq3628, hA3629⟩ hI hS
      have J_68 : ∀ (H : Heap) (locs : List Loc) (ls : Array Slot) (v3645 : Int32) (v3646 : Int32) (v3648 : Int32) , lv_has ls 6 [(4, .int v3645), (3, .int v3646), (2, .int v3395), (0, .ref h0), (1, .int x1)] → ((0 : Int) ≤ v3645.toInt ∧ v3645.toInt ≤ 400) → ((1 : Int) ≤ x1.toInt ∧ x1.toInt ≤ 400) → ((0 : Int) ≤ v3648.toInt ∧ v3648.toInt ≤ 400) → (v3648.toInt ≤ v3395.toInt) → (v3395.toInt < v3645.toInt) → (v3645.toInt ≤ x1.toInt) → gf D h0 15 v3648 H → ga E D G h0 3 (1, 5123) ff H → th_I (okM E) D G [] H → va_S (th_A G) s.heap H locs → W p l e R s m args below meth c H locs 0 0 QF (F0 m 68 ls []) := by
        intro H locs ls v3645 v3646 v3648  hl k3649 k3650 k3651 k3652 k3653 k3654 hg3655 hga_3 hI hS
        obtain ⟨a3656, hf3657, hq3658, hA3659⟩ := hga_3
        refine lv_iload_n hx hb dX12_splits_68 rfl (lv_at hl 1 rfl) ?_
        refine th_cSs (As := [.int v3646]) (rest := []) (n := 1) (d := 1) ⟨hx, hb, hml, hown, hts⟩ (c_X12_isDigit l H v3646) wd_1575 wd_1576 wd_13 wd_1577 (by decide +kernel) ⟨by rw [hR]; exact Nat.le_of_ble_eq_true rfl, by rw [hR]; exact Nat.le_of_ble_eq_true rfl⟩ hN hS rfl hl.1 rfl (Nat.le_of_ble_eq_true rfl) dX12_splits_69 ⟨Nat.zero_le _, Nat.zero_le _⟩ (fun r3660 locs hp hS => ?_)
        rcases hp with ⟨rfl, hp⟩ | ⟨rfl, hp⟩
        · skip
          try simp only [rg, not_and, Int.not_le] at hp
          have hp3661 := hp
          refine lv_if_eq (tgt := 100) hx hb dX12_splits_72 (by decide) (fun c => absurd c (by decide)) (fun _ => ?_)
          exact J_75 _ H locs ls v3645 v3646 v3648  rfl (lv_sub hl [0, 1, 2, 3, 4] rfl) ⟨by omega, by omega⟩ ⟨by omega, by omega⟩ ⟨by omega, by omega⟩ ⟨by omega, by omega⟩ (by first | omega | (rw [show (0 : Int32).toInt = 0 from by decide]; omega)) (by first | omega | (rw [show (0 : Int32).toInt = 0 from by decide]; omega)) (by first | omega | (rw [show (0 : Int32).toInt = 0 from by decide]; omega)) hg3655 ⟨a3656, hf3657, hq3658, hA3659⟩ hI hS
        · skip
          try simp only [rg, not_and, Int.not_le] at hp
          have hp3662 := hp
          refine lv_if_eq (tgt := 100) hx hb dX12_splits_72 (by decide) (fun _ => ?_) (fun c => absurd c (by decide))
          exact J_100 H locs ls v3645 v3646 v3648  (lv_sub hl [0, 1, 2, 3, 4] rfl) ⟨by omega, by omega⟩ ⟨by omega, by omega⟩ ⟨by omega, by omega⟩ (by first | omega | (rw [show (0 : Int32).toInt = 0 from by decide]; omega)) (by first | omega | (rw [show (0 : Int32).toInt = 0 from by decide]; omega)) (by first | omega | (rw [show (0 : Int32).toInt = 0 from by decide]; omega)) hg3655 ⟨a3656, hf3657, hq3658, hA3659⟩ hI hS
      have J_43 : ∀ (nn : Nat) (H : Heap) (locs : List Loc) (ls : Array Slot) (v3663 : Int32) (v3664 : Int32) (v3666 : Int32) , (Int.toNat (x1.toInt - v3663.toInt) = nn) → lv_has ls 6 [(4, .int v3663), (3, .int v3664), (2, .int v3395), (0, .ref h0), (1, .int x1)] → ((0 : Int) ≤ v3663.toInt ∧ v3663.toInt ≤ 400) → ((97 : Int) ≤ v3664.toInt ∧ v3664.toInt ≤ 122) → ((1 : Int) ≤ x1.toInt ∧ x1.toInt ≤ 400) → ((0 : Int) ≤ v3666.toInt ∧ v3666.toInt ≤ 400) → (v3666.toInt ≤ v3395.toInt) → (v3395.toInt < v3663.toInt) → (v3663.toInt ≤ x1.toInt) → gf D h0 15 v3666 H → ga E D G h0 3 (1, 5123) ff H → th_I (okM E) D G [] H → va_S (th_A G) s.heap H locs → W p l e R s m args below meth c H locs 0 0 QF (F0 m 43 ls []) := by
        intro nn
        induction nn using Nat.strongRecOn with
        | ind nn ih_43 =>
          intro H locs ls v3663 v3664 v3666  hm hl k3667 k3668 k3669 k3670 k3671 k3672 k3673 hg3674 hga_3 hI hS
          obtain ⟨a3675, hf3676, hq3677, hA3678⟩ := hga_3
          refine lv_iload hx hb dX12_splits_43 (lv_at hl 0 rfl) ?_
          refine lv_iload_n hx hb dX12_splits_45 rfl (lv_at hl 4 rfl) ?_
          refine lv_icmp_ge (tgt := 68) hx hb dX12_splits_46 (by decide) (fun c3679 => ?_) (fun c3679 => ?_)
          · skip
            have k3680 := iv_le (X := x1.toInt) (Y := v3663.toInt) rfl rfl c3679
            exact J_68 H locs ls v3663 v3664 v3666  (lv_sub hl [0, 1, 2, 3, 4] rfl) ⟨by omega, by omega⟩ ⟨by omega, by omega⟩ ⟨by omega, by omega⟩ (by first | omega | (rw [show (0 : Int32).toInt = 0 from by decide]; omega)) (by first | omega | (rw [show (0 : Int32).toInt = 0 from by decide]; omega)) (by first | omega | (rw [show (0 : Int32).toInt = 0 from by decide]; omega)) hg3674 ⟨a3675, hf3676, hq3677, hA3678⟩ hI hS
          · skip
            have k3681 := iv_nle (X := x1.toInt) (Y := v3663.toInt) rfl rfl c3679
            refine lv_aload_n hx hb dX12_splits_49 rfl (lv_at hl 3 rfl) ?_
            refine gmA hx hb hts inT12 hown hK hI List.not_mem_nil hG0 8 (by decide) (hts _ (tb_c wd_1241)) rfl rfl dX12_splits_50 (fun a3682 hq3683 hf3684 => ?_)
            refine lv_iload hx hb dX12_splits_53 (lv_at hl 0 rfl) ?_
            obtain ⟨F3685, hA3686⟩ := om_4 hI hq3683 List.not_mem_nil
            refine va_bald hx hb hK (th_one hA3686) 0 3 rfl rfl (iv_in (X := v3663.toInt) rfl (by omega) (by omega)) dX12_splits_55 ?_
            refine lv_topi (fun v3687 e3688 => ?_)
            refine th_cSs (As := [.int v3687]) (rest := []) (n := 1) (d := 1) ⟨hx, hb, hml, hown, hts⟩ (c_X12_isSmall l H v3687) wd_1572 wd_1573 wd_13 wd_1574 (by decide +kernel) ⟨by rw [hR]; exact Nat.le_of_ble_eq_true rfl, by rw [hR]; exact Nat.le_of_ble_eq_true rfl⟩ hN hS rfl hl.1 rfl (Nat.le_of_ble_eq_true rfl) dX12_splits_56 ⟨Nat.zero_le _, Nat.zero_le _⟩ (fun r3689 locs hp hS => ?_)
            rcases hp with ⟨rfl, hp⟩ | ⟨rfl, hp⟩
            · skip
              try simp only [rg, not_and, Int.not_le] at hp
              have hp3690 := hp
              refine lv_if_eq (tgt := 68) hx hb dX12_splits_59 (by decide) (fun c => absurd c (by decide)) (fun _ => ?_)
              obtain ⟨v3691, e3692⟩ : ∃ y : Int32, y = v3663 + (1) := ⟨_, rfl⟩
              have tv3691 : v3691.toInt = v3663.toInt + (1) := iv_add rfl (by decide) e3692 (by omega) (by omega)
              refine lv_iinc (v := v3691) (lv' := [(4, .int v3691), (3, .int v3664), (2, .int v3395), (0, .ref h0), (1, .int x1)]) hx hb dX12_splits_62 hl (k := 0) rfl (by rw [e3692]; rfl) (by decide) rfl (fun ls hl => ?_)
              refine lv_goto (tgt := 43) hx hb dX12_splits_65 (by decide) ?_
              exact ih_43 _ (by omega) H locs ls v3691 v3664 v3666  rfl (lv_sub hl [0, 1, 2, 3, 4] rfl) ⟨by omega, by omega⟩ ⟨by omega, by omega⟩ ⟨by omega, by omega⟩ ⟨by omega, by omega⟩ (by first | omega | (rw [show (0 : Int32).toInt = 0 from by decide]; omega)) (by first | omega | (rw [show (0 : Int32).toInt = 0 from by decide]; omega)) (by first | omega | (rw [show (0 : Int32).toInt = 0 from by decide]; omega)) hg3674 ⟨a3675, hf3676, hq3677, hA3678⟩ hI hS
            · skip
              try simp only [rg, not_and, Int.not_le] at hp
              have hp3693 := hp
              refine lv_if_eq (tgt := 68) hx hb dX12_splits_59 (by decide) (fun _ => ?_) (fun c => absurd c (by decide))
              exact J_68 H locs ls v3663 v3664 v3666  (lv_sub hl [0, 1, 2, 3, 4] rfl) ⟨by omega, by omega⟩ ⟨by omega, by omega⟩ ⟨by omega, by omega⟩ (by first | omega | (rw [show (0 : Int32).toInt = 0 from by decide]; omega)) (by first | omega | (rw [show (0 : Int32).toInt = 0 from by decide]; omega)) (by first | omega | (rw [show (0 : Int32).toInt = 0 from by decide]; omega)) hg3674 ⟨a3675, hf3676, hq3677, hA3678⟩ hI hS
      refine lv_iload_n hx hb dX12_splits_7 rfl (lv_at hl 0 rfl) ?_
      refine lv_iload_n hx hb dX12_splits_8 rfl (lv_at hl 2 rfl) ?_
      refine lv_icmp_ge (tgt := 263) hx hb dX12_splits_9 (by decide) (fun c3694 => ?_) (fun c3694 => ?_)
      · skip
        have k3695 := iv_le (X := x1.toInt) (Y := v3395.toInt) rfl rfl c3694
        refine lv_aload_n hx hb dX12_splits_263 rfl (lv_at hl 1 rfl) ?_
        refine gmA hx hb hts inT12 hown hK hI List.not_mem_nil hG0 14 (by decide) (hts _ (tb_c wd_1247)) rfl rfl dX12_splits_264 (fun a3696 hq3697 hf3698 => ?_)
        refine lv_aload_n hx hb dX12_splits_267 rfl (lv_at hl 1 rfl) ?_
        refine gmI hx hb hts inT12 hown hK hI List.not_mem_nil hG0 15 (by decide) (hts _ (tb_c wd_1248)) rfl rfl dX12_splits_268 (fun w3699 hg3700 k3701 k3702 => ?_)
        obtain rfl := gf.uniq (by decide) hg3402 hg3700
        refine lv_iload_n hx hb dX12_splits_271 rfl (lv_at hl 2 rfl) ?_
        obtain ⟨F3703, hA3704, hP3705⟩ := om_6 hI hq3697 List.not_mem_nil
        refine th_iast hx hb hK hA3704 0 rfl hS ⟨_, hq3697⟩ (iv_in (X := v3396.toInt) rfl (by omega) (by omega)) dX12_splits_272 (fun H locs hA3706 oq hS => ?_)
        have hP3707 := rgs_set (k := v3396.toNatClampNeg) (v := x1) hP3705 (by omega) (by omega)
        have hI := th_I.put hI hq3697 hA3706 (ok_m6 hP3707) oq
        have hg3402 := gf.arr hG0 hq3697 (by decide) oq hg3402
        have hf3404 := fr.arr hG0 hq3697 (by decide) oq hf3404
        have hf3698 := fr.arr hG0 hq3697 (by decide) oq hf3698
        have hA3406 := va_at.kept hA3406 (oq _ (m_ne hq3405 hq3697 (by first | decide | (dsimp only; decide))))
        have e3708 : x1 = (upd F3703 (v3396 : Int32).toNatClampNeg x1) (v3396 : Int32).toNatClampNeg := rd_us
        refine lv_aload_n hx hb dX12_splits_273 rfl (lv_at hl 1 rfl) ?_
        refine gmA hx hb hts inT12 hown hK hI List.not_mem_nil hG0 12 (by decide) (hts _ (tb_c wd_1245)) rfl rfl dX12_splits_274 (fun a3709 hq3710 hf3711 => ?_)
        refine lv_aload_n hx hb dX12_splits_277 rfl (lv_at hl 1 rfl) ?_
        refine gmI hx hb hts inT12 hown hK hI List.not_mem_nil hG0 15 (by decide) (hts _ (tb_c wd_1248)) rfl rfl dX12_splits_278 (fun w3712 hg3713 k3714 k3715 => ?_)
        obtain rfl := gf.uniq (by decide) hg3402 hg3713
        refine lv_iconst (v := 0) hx hb dX12_splits_281 (by decide) ?_
        obtain ⟨F3716, hA3717⟩ := om_8 hI hq3710 List.not_mem_nil
        refine th_iast hx hb hK hA3717 0 rfl hS ⟨_, hq3710⟩ (iv_in (X := v3396.toInt) rfl (by omega) (by omega)) dX12_splits_282 (fun H locs hA3718 oq hS => ?_)
        have hI := th_I.put hI hq3710 hA3718 ok_m8 oq
        have hg3402 := gf.arr hG0 hq3710 (by decide) oq hg3402
        have hf3404 := fr.arr hG0 hq3710 (by decide) oq hf3404
        have hf3698 := fr.arr hG0 hq3710 (by decide) oq hf3698
        have hf3711 := fr.arr hG0 hq3710 (by decide) oq hf3711
        have hA3406 := va_at.kept hA3406 (oq _ (m_ne hq3405 hq3710 (by first | decide | (dsimp only; decide))))
        have hA3706 := va_at.kept hA3706 (oq _ (m_ne hq3697 hq3710 (by first | decide | (dsimp only; decide))))
        have e3719 : 0 = (upd F3716 (v3396 : Int32).toNatClampNeg 0) (v3396 : Int32).toNatClampNeg := rd_us
        refine lv_aload_n hx hb dX12_splits_283 rfl (lv_at hl 1 rfl) ?_
        refine gmA hx hb hts inT12 hown hK hI List.not_mem_nil hG0 13 (by decide) (hts _ (tb_c wd_1246)) rfl rfl dX12_splits_284 (fun a3720 hq3721 hf3722 => ?_)
        refine lv_aload_n hx hb dX12_splits_287 rfl (lv_at hl 1 rfl) ?_
        refine gmI hx hb hts inT12 hown hK hI List.not_mem_nil hG0 15 (by decide) (hts _ (tb_c wd_1248)) rfl rfl dX12_splits_288 (fun w3723 hg3724 k3725 k3726 => ?_)
        obtain rfl := gf.uniq (by decide) hg3402 hg3724
        refine lv_iconst (v := 0) hx hb dX12_splits_291 (by decide) ?_
        obtain ⟨F3727, hA3728⟩ := om_0 hI hq3721 List.not_mem_nil
        refine th_iast hx hb hK hA3728 0 rfl hS ⟨_, hq3721⟩ (iv_in (X := v3396.toInt) rfl (by omega) (by omega)) dX12_splits_292 (fun H locs hA3729 oq hS => ?_)
        have hI := th_I.put hI hq3721 hA3729 ok_m0 oq
        have hg3402 := gf.arr hG0 hq3721 (by decide) oq hg3402
        have hf3404 := fr.arr hG0 hq3721 (by decide) oq hf3404
        have hf3698 := fr.arr hG0 hq3721 (by decide) oq hf3698
        have hf3711 := fr.arr hG0 hq3721 (by decide) oq hf3711
        have hf3722 := fr.arr hG0 hq3721 (by decide) oq hf3722
        have hA3406 := va_at.kept hA3406 (oq _ (m_ne hq3405 hq3721 (by first | decide | (dsimp only; decide))))
        have hA3706 := va_at.kept hA3706 (oq _ (m_ne hq3697 hq3721 (by first | decide | (dsimp only; decide))))
        have hA3718 := va_at.kept hA3718 (oq _ (m_ne hq3710 hq3721 (by first | decide | (dsimp only; decide))))
        have e3730 : 0 = (upd F3727 (v3396 : Int32).toNatClampNeg 0) (v3396 : Int32).toNatClampNeg := rd_us
        have hpost : ∃ (z : Int32) (cd : Nat → Int32), gf D h0 15 z H ∧ 0 ≤ z.toInt ∧ z.toInt ≤ 400 ∧ ga E D G h0 3 (1, 5123) ff H ∧ ga E D G h0 12 (8, 401) cd H ∧ (cd z.toNatClampNeg).toInt = 0 := ⟨v3396, (upd F3716 (v3396 : Int32).toNatClampNeg 0), hg3402, by omega, by omega, ⟨a3403, hf3404, hq3405, hA3406⟩, ⟨a3709, hf3711, hq3710, hA3718⟩, by rw [← e3719]; decide⟩
        rw [hQ]
        exact W.vret hx hb hr (fun t ht hW => ⟨⟨(), rfl, trivial, ⟨by rw [ht]; exact hI, hN.warm hW, va_K.moved hW.alike hK⟩, by first | (rw [ht]; exact hpost) | exact hpost⟩, hS.F ht⟩) hS.2.2 dX12_splits_293
      · skip
        have k3731 := iv_nle (X := x1.toInt) (Y := v3395.toInt) rfl rfl c3694
        refine lv_aload_n hx hb dX12_splits_12 rfl (lv_at hl 1 rfl) ?_
        refine gmA hx hb hts inT12 hown hK hI List.not_mem_nil hG0 8 (by decide) (hts _ (tb_c wd_1241)) rfl rfl dX12_splits_13 (fun a3732 hq3733 hf3734 => ?_)
        refine lv_iload_n hx hb dX12_splits_16 rfl (lv_at hl 0 rfl) ?_
        obtain ⟨F3735, hA3736⟩ := om_4 hI hq3733 List.not_mem_nil
        refine va_bald hx hb hK (th_one hA3736) 0 3 rfl rfl (iv_in (X := v3395.toInt) rfl (by omega) (by omega)) dX12_splits_17 ?_
        refine lv_topi (fun v3737 e3738 => ?_)
        refine lv_istore_n (lv' := [(3, .int v3737), (2, .int v3395), (0, .ref h0), (1, .int x1)]) hx hb dX12_splits_18 rfl hl (by decide) rfl (fun ls hl => ?_)
        refine lv_iload_n hx hb dX12_splits_19 rfl (lv_at hl 0 rfl) ?_
        refine lv_bipush (v := 32) hx hb dX12_splits_20 (by decide) ?_
        have k3739 := iv_lo v3737
        have k3740 := iv_hi v3737
        refine lv_icmp_ne (tgt := 31) hx hb dX12_splits_22 (by decide) (fun c3741 => ?_) (fun c3741 => ?_)
        · skip
          have k3742 := iv_ne (X := v3737.toInt) (Y := (32)) rfl (by decide) c3741
          refine lv_iload_n hx hb dX12_splits_31 rfl (lv_at hl 1 rfl) ?_
          refine lv_iconst (v := 1) hx hb dX12_splits_32 (by decide) ?_
          refine lv_iadd hx hb dX12_splits_33 ?_
          refine lv_topi (fun v3743 e3744 => ?_)
          have tv3743 : v3743.toInt = v3395.toInt + (1) := iv_add rfl (by decide) e3744 (by omega) (by omega)
          refine lv_istore (lv' := [(4, .int v3743), (3, .int v3737), (2, .int v3395), (0, .ref h0), (1, .int x1)]) hx hb dX12_splits_34 hl (by decide) rfl (fun ls hl => ?_)
          refine lv_iload_n hx hb dX12_splits_36 rfl (lv_at hl 1 rfl) ?_
          refine th_cSs (As := [.int v3737]) (rest := []) (n := 1) (d := 1) ⟨hx, hb, hml, hown, hts⟩ (c_X12_isSmall l H v3737) wd_1572 wd_1573 wd_13 wd_1574 (by decide +kernel) ⟨by rw [hR]; exact Nat.le_of_ble_eq_true rfl, by rw [hR]; exact Nat.le_of_ble_eq_true rfl⟩ hN hS rfl hl.1 rfl (Nat.le_of_ble_eq_true rfl) dX12_splits_37 ⟨Nat.zero_le _, Nat.zero_le _⟩ (fun r3745 locs hp hS => ?_)
          rcases hp with ⟨rfl, hp⟩ | ⟨rfl, hp⟩
          · skip
            try simp only [rg, not_and, Int.not_le] at hp
            have hp3746 := hp
            refine lv_if_eq (tgt := 68) hx hb dX12_splits_40 (by decide) (fun c => absurd c (by decide)) (fun _ => ?_)
            exact J_43 _ H locs ls v3743 v3737 v3396  rfl (lv_sub hl [0, 1, 2, 3, 4] rfl) ⟨by omega, by omega⟩ ⟨by omega, by omega⟩ ⟨by omega, by omega⟩ ⟨by omega, by omega⟩ (by first | omega | (rw [show (0 : Int32).toInt = 0 from by decide]; omega)) (by first | omega | (rw [show (0 : Int32).toInt = 0 from by decide]; omega)) (by first | omega | (rw [show (0 : Int32).toInt = 0 from by decide]; omega)) hg3402 ⟨a3403, hf3404, hq3405, hA3406⟩ hI hS
          · skip
            try simp only [rg, not_and, Int.not_le] at hp
            have hp3747 := hp
            refine lv_if_eq (tgt := 68) hx hb dX12_splits_40 (by decide) (fun _ => ?_) (fun c => absurd c (by decide))
            exact J_68 H locs ls v3743 v3737 v3396  (lv_sub hl [0, 1, 2, 3, 4] rfl) ⟨by omega, by omega⟩ ⟨by omega, by omega⟩ ⟨by omega, by omega⟩ (by first | omega | (rw [show (0 : Int32).toInt = 0 from by decide]; omega)) (by first | omega | (rw [show (0 : Int32).toInt = 0 from by decide]; omega)) (by first | omega | (rw [show (0 : Int32).toInt = 0 from by decide]; omega)) hg3402 ⟨a3403, hf3404, hq3405, hA3406⟩ hI hS
        · skip
          have k3748 := iv_eq (X := v3737.toInt) (Y := (32)) rfl (by decide) c3741
          obtain ⟨v3749, e3750⟩ : ∃ y : Int32, y = v3395 + (1) := ⟨_, rfl⟩
          have tv3749 : v3749.toInt = v3395.toInt + (1) := iv_add rfl (by decide) e3750 (by omega) (by omega)
          refine lv_iinc (v := v3749) (lv' := [(2, .int v3749), (3, .int v3737), (0, .ref h0), (1, .int x1)]) hx hb dX12_splits_25 hl (k := 1) rfl (by rw [e3750]; rfl) (by decide) rfl (fun ls hl => ?_)
          refine lv_goto (tgt := 7) hx hb dX12_splits_28 (by decide) ?_
          exact ih_7 _ (by omega) H locs ls v3749 v3396  rfl (lv_sub hl [0, 2, 3] rfl) ⟨by omega, by omega⟩ ⟨by omega, by omega⟩ ⟨by omega, by omega⟩ (by first | omega | (rw [show (0 : Int32).toInt = 0 from by decide]; omega)) (by first | omega | (rw [show (0 : Int32).toInt = 0 from by decide]; omega)) hg3402 ⟨a3403, hf3404, hq3405, hA3406⟩ hI hS
  refine lv_aload_n hx hb dX12_splits_0 rfl (lv_at hl 0 rfl) ?_
  refine lv_iconst (v := 0) hx hb dX12_splits_1 (by decide) ?_
  refine pmI (ty := .int) hx hb hts inT12 hown hK hI List.not_mem_nil hG0 hS ⟨_, hG0⟩ 15 (by decide) (hts _ (tb_c wd_1248)) rfl rfl (by decide +kernel) rfl rfl rfl (by decide) (by decide) dX12_splits_2 (fun H locs hI hgP hS => ?_)
  have hg3751 := hgP.2.1
  have hf_3 := hgP.2.2.2 3 _ (by decide) (by decide) hf_3
  have hA_3 := va_at.kept hA_3 (hgP.1 _ (m_ne hq_3 hG0 (by first | decide | (dsimp only; decide))))
  refine lv_iconst (v := 0) hx hb dX12_splits_5 (by decide) ?_
  refine lv_istore_n (lv' := [(2, .int 0), (0, .ref h0), (1, .int x1)]) hx hb dX12_splits_6 rfl hl (by decide) rfl (fun ls hl => ?_)
  have zl : (0 : Int32).toInt = 0 := by decide
  exact J_7 _ H locs ls 0 0  rfl (lv_sub hl [0, 1, 2] rfl) ⟨by decide, by decide⟩ ⟨by omega, by omega⟩ ⟨by decide, by decide⟩ (by first | omega | (rw [show (0 : Int32).toInt = 0 from by decide]; omega)) (by first | omega | (rw [show (0 : Int32).toInt = 0 from by decide]; omega)) hg3751 ⟨q_3, hf_3, hq_3, hA_3⟩ hI hS
