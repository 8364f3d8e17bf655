theorem wp_79 : Cond.selects RX12 yX12_putIn yX12_putIn ∈ TB := tv 79 (by decide +kernel) (by decide +kernel)
theorem wp_80 : Cond.selects RX12 yX12_sailsTo yX12_sailsTo ∈ TB := tv 80 (by decide +kernel) (by decide +kernel)
theorem wp_82 : Cond.selects RX12 yX12_dyeOf yX12_dyeOf ∈ TB := tv 82 (by decide +kernel) (by decide +kernel)
theorem wp_83 : Cond.selects RX12 yX12_findsThrow yX12_findsThrow ∈ TB := tv 83 (by decide +kernel) (by decide +kernel)
theorem wp_84 : Cond.selects RX12 yX12_thereAt yX12_thereAt ∈ TB := tv 84 (by decide +kernel) (by decide +kernel)
theorem wp_85 : Cond.selects RX12 yX12_goAll yX12_goAll ∈ TB := tv 85 (by decide +kernel) (by decide +kernel)
theorem wd_1263 : (Cond.fieldLink RX12 (332 : Nat) "NineRiverModel" "thrownCost" "I") ∈ TB := tw 1263 (by decide +kernel) (by decide +kernel)
theorem wd_1264 : (Cond.fieldLink RX12 (325 : Nat) "NineRiverModel" "thrownCell" "I") ∈ TB := tw 1264 (by decide +kernel) (by decide +kernel)
theorem wd_1265 : (Cond.fieldLink RX12 (338 : Nat) "NineRiverModel" "thrownHour" "I") ∈ TB := tw 1265 (by decide +kernel) (by decide +kernel)
theorem wd_1266 : (Cond.fieldLink RX12 (335 : Nat) "NineRiverModel" "thrownThere" "I") ∈ TB := tw 1266 (by decide +kernel) (by decide +kernel)
theorem wd_1542 : (Cond.methodLink RX12 (141 : Nat) yX12_isPour) ∈ TB := tw 1542 (by decide +kernel) (by decide +kernel)
theorem wd_1543 : (Jvm.Cond.static yX12_isPour) ∈ TB := tw 1543 (by decide +kernel) (by decide +kernel)
theorem wd_1544 : (Cond.code yX12_isPour cX12_isPour 4 (Option.some Jvm.ClassFile.FieldType.boolean)) ∈ TB := tw 1544 (by decide +kernel) (by decide +kernel)
theorem wd_1689 : (Cond.methodLink RX12 (316 : Nat) yX12_putIn) ∈ TB := tw 1689 (by decide +kernel) (by decide +kernel)
theorem wd_1691 : (Jvm.Cond.instanceMethod yX12_putIn) ∈ TB := tw 1691 (by decide +kernel) (by decide +kernel)
theorem wd_1692 : (Cond.code yX12_putIn cX12_putIn 2 (Option.some Jvm.ClassFile.FieldType.int)) ∈ TB := tw 1692 (by decide +kernel) (by decide +kernel)
theorem wd_1693 : (Cond.methodLink RX12 (319 : Nat) yX12_sailsTo) ∈ TB := tw 1693 (by decide +kernel) (by decide +kernel)
theorem wd_1695 : (Jvm.Cond.instanceMethod yX12_sailsTo) ∈ TB := tw 1695 (by decide +kernel) (by decide +kernel)
theorem wd_1696 : (Cond.code yX12_sailsTo cX12_sailsTo 7 (Option.some Jvm.ClassFile.FieldType.int)) ∈ TB := tw 1696 (by decide +kernel) (by decide +kernel)
theorem wd_1717 : (Cond.methodLink RX12 (322 : Nat) yX12_dyeOf) ∈ TB := tw 1717 (by decide +kernel) (by decide +kernel)
theorem wd_1719 : (Jvm.Cond.instanceMethod yX12_dyeOf) ∈ TB := tw 1719 (by decide +kernel) (by decide +kernel)
theorem wd_1720 : (Cond.code yX12_dyeOf cX12_dyeOf 7 (Option.some Jvm.ClassFile.FieldType.int)) ∈ TB := tw 1720 (by decide +kernel) (by decide +kernel)
theorem wd_1733 : (Cond.methodLink RX12 (341 : Nat) yX12_findsThrow) ∈ TB := tw 1733 (by decide +kernel) (by decide +kernel)
theorem wd_1735 : (Jvm.Cond.instanceMethod yX12_findsThrow) ∈ TB := tw 1735 (by decide +kernel) (by decide +kernel)
theorem wd_1736 : (Cond.code yX12_findsThrow cX12_findsThrow 9 (Option.none : Option Jvm.ClassFile.FieldType)) ∈ TB := tw 1736 (by decide +kernel) (by decide +kernel)
theorem wd_1737 : (Cond.methodLink RX12 (328 : Nat) yX12_thereAt) ∈ TB := tw 1737 (by decide +kernel) (by decide +kernel)
theorem wd_1739 : (Jvm.Cond.instanceMethod yX12_thereAt) ∈ TB := tw 1739 (by decide +kernel) (by decide +kernel)
theorem wd_1740 : (Cond.code yX12_thereAt cX12_thereAt 8 (Option.some Jvm.ClassFile.FieldType.int)) ∈ TB := tw 1740 (by decide +kernel) (by decide +kernel)
theorem wd_1749 : (Cond.methodLink RX12 (345 : Nat) yX12_goAll) ∈ TB := tw 1749 (by decide +kernel) (by decide +kernel)
theorem wd_1751 : (Jvm.Cond.instanceMethod yX12_goAll) ∈ TB := tw 1751 (by decide +kernel) (by decide +kernel)
theorem wd_1752 : (Cond.code yX12_goAll cX12_goAll 3 (Option.some Jvm.ClassFile.FieldType.int)) ∈ TB := tw 1752 (by decide +kernel) (by decide +kernel)
theorem dX12_sails_0g : (decode cX12_sails 0 = .ok (.aload_n 0, 1)) ∧ (decode cX12_sails 1 = .ok (.iload_n 1, 1)) ∧ (decode cX12_sails 2 = .ok (.invokevirtual 307, 3)) ∧ (decode cX12_sails 5 = .ok (.ifCond .eq 26, 3)) ∧ (decode cX12_sails 8 = .ok (.iload_n 2, 1)) ∧ (decode cX12_sails 9 = .ok (.aload_n 0, 1)) ∧ (decode cX12_sails 10 = .ok (.iload_n 1, 1)) ∧ (decode cX12_sails 11 = .ok (.invokevirtual 316, 3)) ∧ (decode cX12_sails 14 = .ok (.bipush 96, 2)) ∧ (decode cX12_sails 16 = .ok (.invokestatic 103, 3)) := by decide +kernel
theorem dX12_sails_0 : decode cX12_sails 0 = .ok (.aload_n 0, 1) := dX12_sails_0g.1
theorem dX12_sails_1 : decode cX12_sails 1 = .ok (.iload_n 1, 1) := dX12_sails_0g.2.1
theorem dX12_sails_2 : decode cX12_sails 2 = .ok (.invokevirtual 307, 3) := dX12_sails_0g.2.2.1
theorem dX12_sails_5 : decode cX12_sails 5 = .ok (.ifCond .eq 26, 3) := dX12_sails_0g.2.2.2.1
theorem dX12_sails_8 : decode cX12_sails 8 = .ok (.iload_n 2, 1) := dX12_sails_0g.2.2.2.2.1
theorem dX12_sails_9 : decode cX12_sails 9 = .ok (.aload_n 0, 1) := dX12_sails_0g.2.2.2.2.2.1
theorem dX12_sails_10 : decode cX12_sails 10 = .ok (.iload_n 1, 1) := dX12_sails_0g.2.2.2.2.2.2.1
theorem dX12_sails_11 : decode cX12_sails 11 = .ok (.invokevirtual 316, 3) := dX12_sails_0g.2.2.2.2.2.2.2.1
theorem dX12_sails_14 : decode cX12_sails 14 = .ok (.bipush 96, 2) := dX12_sails_0g.2.2.2.2.2.2.2.2.1
theorem dX12_sails_16 : decode cX12_sails 16 = .ok (.invokestatic 103, 3) := dX12_sails_0g.2.2.2.2.2.2.2.2.2
theorem dX12_sails_19g : (decode cX12_sails 19 = .ok (.ifCond .eq 12, 3)) ∧ (decode cX12_sails 22 = .ok (.iload_n 3, 1)) ∧ (decode cX12_sails 23 = .ok (.iconst 0, 1)) ∧ (decode cX12_sails 24 = .ok (.iconst 1, 1)) ∧ (decode cX12_sails 25 = .ok (.invokestatic 103, 3)) ∧ (decode cX12_sails 28 = .ok (.ifCond .ne 5, 3)) ∧ (decode cX12_sails 31 = .ok (.iconst (-1), 1)) ∧ (decode cX12_sails 32 = .ok (.ireturn, 1)) ∧ (decode cX12_sails 33 = .ok (.aload_n 0, 1)) ∧ (decode cX12_sails 34 = .ok (.invokevirtual 138, 3)) := by decide +kernel
theorem dX12_sails_19 : decode cX12_sails 19 = .ok (.ifCond .eq 12, 3) := dX12_sails_19g.1
theorem dX12_sails_22 : decode cX12_sails 22 = .ok (.iload_n 3, 1) := dX12_sails_19g.2.1
theorem dX12_sails_23 : decode cX12_sails 23 = .ok (.iconst 0, 1) := dX12_sails_19g.2.2.1
theorem dX12_sails_24 : decode cX12_sails 24 = .ok (.iconst 1, 1) := dX12_sails_19g.2.2.2.1
theorem dX12_sails_25 : decode cX12_sails 25 = .ok (.invokestatic 103, 3) := dX12_sails_19g.2.2.2.2.1
theorem dX12_sails_28 : decode cX12_sails 28 = .ok (.ifCond .ne 5, 3) := dX12_sails_19g.2.2.2.2.2.1
theorem dX12_sails_31 : decode cX12_sails 31 = .ok (.iconst (-1), 1) := dX12_sails_19g.2.2.2.2.2.2.1
theorem dX12_sails_32 : decode cX12_sails 32 = .ok (.ireturn, 1) := dX12_sails_19g.2.2.2.2.2.2.2.1
theorem dX12_sails_33 : decode cX12_sails 33 = .ok (.aload_n 0, 1) := dX12_sails_19g.2.2.2.2.2.2.2.2.1
theorem dX12_sails_34 : decode cX12_sails 34 = .ok (.invokevirtual 138, 3) := dX12_sails_19g.2.2.2.2.2.2.2.2.2
theorem dX12_sails_37g : (decode cX12_sails 37 = .ok (.aload_n 0, 1)) ∧ (decode cX12_sails 38 = .ok (.iload_n 1, 1)) ∧ (decode cX12_sails 39 = .ok (.iload_n 2, 1)) ∧ (decode cX12_sails 40 = .ok (.invokevirtual 319, 3)) ∧ (decode cX12_sails 43 = .ok (.istore 4, 2)) ∧ (decode cX12_sails 45 = .ok (.iload_n 3, 1)) ∧ (decode cX12_sails 46 = .ok (.ifCond .ne 8, 3)) ∧ (decode cX12_sails 49 = .ok (.iload 4, 2)) ∧ (decode cX12_sails 51 = .ok (.goto 7, 3)) ∧ (decode cX12_sails 54 = .ok (.aload_n 0, 1)) := by decide +kernel
theorem dX12_sails_37 : decode cX12_sails 37 = .ok (.aload_n 0, 1) := dX12_sails_37g.1
theorem dX12_sails_38 : decode cX12_sails 38 = .ok (.iload_n 1, 1) := dX12_sails_37g.2.1
theorem dX12_sails_39 : decode cX12_sails 39 = .ok (.iload_n 2, 1) := dX12_sails_37g.2.2.1
theorem dX12_sails_40 : decode cX12_sails 40 = .ok (.invokevirtual 319, 3) := dX12_sails_37g.2.2.2.1
theorem dX12_sails_43 : decode cX12_sails 43 = .ok (.istore 4, 2) := dX12_sails_37g.2.2.2.2.1
theorem dX12_sails_45 : decode cX12_sails 45 = .ok (.iload_n 3, 1) := dX12_sails_37g.2.2.2.2.2.1
theorem dX12_sails_46 : decode cX12_sails 46 = .ok (.ifCond .ne 8, 3) := dX12_sails_37g.2.2.2.2.2.2.1
theorem dX12_sails_49 : decode cX12_sails 49 = .ok (.iload 4, 2) := dX12_sails_37g.2.2.2.2.2.2.2.1
theorem dX12_sails_51 : decode cX12_sails 51 = .ok (.goto 7, 3) := dX12_sails_37g.2.2.2.2.2.2.2.2.1
theorem dX12_sails_54 : decode cX12_sails 54 = .ok (.aload_n 0, 1) := dX12_sails_37g.2.2.2.2.2.2.2.2.2
theorem dX12_sails_55g : (decode cX12_sails 55 = .ok (.getfield 310, 3)) ∧ (decode cX12_sails 58 = .ok (.ireturn, 1)) := by decide +kernel
theorem dX12_sails_55 : decode cX12_sails 55 = .ok (.getfield 310, 3) := dX12_sails_55g.1
theorem dX12_sails_58 : decode cX12_sails 58 = .ok (.ireturn, 1) := dX12_sails_55g.2
set_option maxHeartbeats 4000000 in
set_option maxRecDepth 100000 in
theorem c_X12_sails (l : Launch) (E : Nat → Nat) (D : va_G) (G : th_G) (h0 : Nat) (hG0 : G h0 = some (10, 0)) (x1 : Int32) (x2 : Int32) (x3 : Int32) : Met l yX12_sails (tb (.code yX12_sails cX12_sails 5 (some .int))) (rm 69) (va_Pc [.ref h0, .int x1, .int x2, .int x3] (PX E D G (fun H => True))) (QXi E D G (fun r H => True)) 0 0 (th_A G) := by
  refine Met.ofW (cc := cX12_sails) (maxL := 5) (ret := (some .int)) (by decide) rfl ?_
  intro p e s m args below meth c s₁ B hml hv
  obtain ⟨hav, ⟨hI, hN, hK⟩, hX⟩ := hv
  have hx := B.exec
  have hb := B.bytes
  have hr := B.returns
  have hts := atoms_spec (ws := tb (.code yX12_sails cX12_sails 5 (some .int))) B.pre
  have hown : s.vm.findClass RX12 = some m.cls := findClass_of_methodNamed B.named
  have hlocks := B.notSynchronized
  have hS : va_S (th_A G) s.heap s.heap [] := va_S.rf
  have hl := lv_entry ([.ref h0, .int x1, .int x2, .int x3]) (n := 5) (Nat.le_of_ble_eq_true rfl)
  rw [show entryFrame m args 5 = entryFrame m ([.ref h0, .int x1, .int x2, .int x3] : List Value).toArray 5 from by rw [hav], lg_entry_eq]
  generalize (lg_sl ([.ref h0, .int x1, .int x2, .int x3]) ++ List.replicate (5 - (lg_sl ([.ref h0, .int x1, .int x2, .int x3])).length) Slot.unset).toArray = ls at hl ⊢
  have hl : lv_has ls 5 [(0, .ref h0), (1, .int x1), (2, .int x2), (3, .int x3)] := hl
  generalize hR : (headSpec (tb (.code yX12_sails cX12_sails 5 (some .int))) (rm 69)).room = R
  have hR := hR.symm
  generalize hQ : MQ below (QXi E D G (fun r H => True)) args s 0 0 (th_A G) = QF
  have hQ := hQ.symm
  have J_31 : ∀ (H : Heap) (locs : List Loc) (ls : Array Slot)  , lv_has ls 5 [(0, .ref h0), (1, .int x1), (2, .int x2), (3, .int x3)] → th_I (okM E) D G [] H → va_S (th_A G) s.heap H locs → W p l e R s m args below meth c H locs 0 0 QF (F0 m 31 ls []) := by
    intro H locs ls   hl  hI hS
    refine lv_iconst (v := (-1)) hx hb dX12_sails_31 (by decide) ?_
    have hpost : True := trivial
    rw [hQ]
    exact W.iret (v := (-1)) hx hb hr (fun t ht hW => ⟨⟨(-1), (-1), rfl, rfl, ⟨by rw [ht]; exact hI, hN.warm hW, va_K.moved hW.alike hK⟩, by first | (rw [ht]; exact hpost) | exact hpost⟩, hS.F ht⟩) hS.2.2 dX12_sails_32
  refine lv_aload_n hx hb dX12_sails_0 rfl (lv_at hl 0 rfl) ?_
  refine lv_iload_n hx hb dX12_sails_1 rfl (lv_at hl 1 rfl) ?_
  refine mr_i (As := [.int x1]) (rest := []) (n := 1) (d := 1) ⟨hx, hb, hml, hown, hts⟩ (c_X12_isBoat l E D G s.heap h0 hG0 x1) wd_1681 wd_1683 wp_78 wd_13 wd_1684 (by decide +kernel) ⟨by rw [hR]; exact Nat.le_of_ble_eq_true rfl, by rw [hR]; exact Nat.le_of_ble_eq_true rfl⟩ hI hN hK hS hG0 rfl hl.1 rfl (Nat.le_of_ble_eq_true rfl) dX12_sails_2 ⟨Nat.zero_le _, Nat.zero_le _⟩ (fun r169 locs hp hS => ?_)
  rcases hp with ⟨rfl, hp⟩ | ⟨rfl, hp⟩
  · skip
    try simp only [rg, not_and, Int.not_le] at hp
    have hp170 := hp
    refine lv_if_eq (tgt := 31) hx hb dX12_sails_5 (by decide) (fun c => absurd c (by decide)) (fun _ => ?_)
    refine lv_iload_n hx hb dX12_sails_8 rfl (lv_at hl 2 rfl) ?_
    refine lv_aload_n hx hb dX12_sails_9 rfl (lv_at hl 0 rfl) ?_
    refine lv_iload_n hx hb dX12_sails_10 rfl (lv_at hl 1 rfl) ?_
    refine mr_i (As := [.int x1]) (rest := [.int x2]) (n := 1) (d := 0) ⟨hx, hb, hml, hown, hts⟩ (c_X12_putIn l E D G s.heap h0 hG0 x1 ⟨by omega, by omega⟩) wd_1689 wd_1691 wp_79 wd_13 wd_1692 (by decide +kernel) ⟨by rw [hR]; exact Nat.le_of_ble_eq_true rfl, by rw [hR]; exact Nat.le_of_ble_eq_true rfl⟩ hI hN hK hS hG0 rfl hl.1 rfl (Nat.le_of_ble_eq_true rfl) dX12_sails_11 ⟨Nat.zero_le _, Nat.zero_le _⟩ (fun r171 locs hp hS => ?_)
    have hp172 := hp
    refine lv_bipush (v := 96) hx hb dX12_sails_14 (by decide) ?_
    refine th_cSs (As := [.int x2, .int r171, .int 96]) (rest := []) (n := 3) (d := 0) ⟨hx, hb, hml, hown, hts⟩ (c_X12_lies l s.heap x2 r171 96) wd_1395 wd_1396 wd_13 wd_1397 (by decide +kernel) ⟨by rw [hR]; exact Nat.le_of_ble_eq_true rfl, by rw [hR]; exact Nat.le_of_ble_eq_true rfl⟩ hN hS rfl hl.1 rfl (Nat.le_of_ble_eq_true rfl) dX12_sails_16 ⟨Nat.zero_le _, Nat.zero_le _⟩ (fun r173 locs hp hS => ?_)
    rcases hp with ⟨rfl, hp⟩ | ⟨rfl, hp⟩
    · skip
      try simp only [rg, not_and, Int.not_le] at hp
      have hp174 := hp
      try rw [show (96 : Int32).toInt = 96 from by decide] at hp174
      refine lv_if_eq (tgt := 31) hx hb dX12_sails_19 (by decide) (fun c => absurd c (by decide)) (fun _ => ?_)
      refine lv_iload_n hx hb dX12_sails_22 rfl (lv_at hl 3 rfl) ?_
      refine lv_iconst (v := 0) hx hb dX12_sails_23 (by decide) ?_
      refine lv_iconst (v := 1) hx hb dX12_sails_24 (by decide) ?_
      refine th_cSs (As := [.int x3, .int 0, .int 1]) (rest := []) (n := 3) (d := 0) ⟨hx, hb, hml, hown, hts⟩ (c_X12_lies l s.heap x3 0 1) wd_1395 wd_1396 wd_13 wd_1397 (by decide +kernel) ⟨by rw [hR]; exact Nat.le_of_ble_eq_true rfl, by rw [hR]; exact Nat.le_of_ble_eq_true rfl⟩ hN hS rfl hl.1 rfl (Nat.le_of_ble_eq_true rfl) dX12_sails_25 ⟨Nat.zero_le _, Nat.zero_le _⟩ (fun r175 locs hp hS => ?_)
      rcases hp with ⟨rfl, hp⟩ | ⟨rfl, hp⟩
      · skip
        try simp only [rg, not_and, Int.not_le] at hp
        have hp176 := hp
        try rw [show (0 : Int32).toInt = 0 from by decide] at hp176
        try rw [show (1 : Int32).toInt = 1 from by decide] at hp176
        refine lv_if_ne (tgt := 33) hx hb dX12_sails_28 (by decide) (fun _ => ?_) (fun c => absurd c (by decide))
        refine lv_aload_n hx hb dX12_sails_33 rfl (lv_at hl 0 rfl) ?_
        refine mx_v (As := []) (rest := []) (n := 0) (d := 68) ⟨hx, hb, hml, hown, hts⟩ (c_X12_looks l E D G h0 hG0 ) wd_1455 wd_1457 wp_43 wd_13 wd_1458 (by decide +kernel) ⟨by rw [hR]; exact Nat.le_of_ble_eq_true rfl, by rw [hR]; exact Nat.le_of_ble_eq_true rfl⟩ hI hN hK hS hG0 (trivial) rfl hl.1 rfl (Nat.le_of_ble_eq_true rfl) dX12_sails_34 ⟨Nat.zero_le _, Nat.zero_le _⟩ (fun H locs hI hp hS => ?_)
        refine lv_aload_n hx hb dX12_sails_37 rfl (lv_at hl 0 rfl) ?_
        refine lv_iload_n hx hb dX12_sails_38 rfl (lv_at hl 1 rfl) ?_
        refine lv_iload_n hx hb dX12_sails_39 rfl (lv_at hl 2 rfl) ?_
        refine mx_i (As := [.int x1, .int x2]) (rest := []) (n := 2) (d := 2) ⟨hx, hb, hml, hown, hts⟩ (c_X12_sailsTo l E D G h0 hG0 x1 x2 ⟨by omega, by omega⟩ (by omega)) wd_1693 wd_1695 wp_80 wd_13 wd_1696 (by decide +kernel) ⟨by rw [hR]; exact Nat.le_of_ble_eq_true rfl, by rw [hR]; exact Nat.le_of_ble_eq_true rfl⟩ hI hN hK hS hG0 (trivial) rfl hl.1 rfl (Nat.le_of_ble_eq_true rfl) dX12_sails_40 ⟨Nat.zero_le _, Nat.zero_le _⟩ (fun r178 H locs hI hp hS => ?_)
        have hp179 := hp
        refine lv_istore (lv' := [(4, .int r178), (0, .ref h0), (1, .int x1), (2, .int x2), (3, .int x3)]) hx hb dX12_sails_43 hl (by decide) rfl (fun ls hl => ?_)
        refine lv_iload_n hx hb dX12_sails_45 rfl (lv_at hl 4 rfl) ?_
        refine lv_if_ne (tgt := 54) hx hb dX12_sails_46 (by decide) (fun c180 => ?_) (fun c180 => ?_)
        · skip
          have k181 := iv_ne (X := x3.toInt) (Y := (0)) rfl (by decide) c180
          refine lv_aload_n hx hb dX12_sails_54 rfl (lv_at hl 1 rfl) ?_
          refine gmI hx hb hts inT12 hown hK hI List.not_mem_nil hG0 29 (by decide) (hts _ (tb_c wd_1262)) rfl rfl dX12_sails_55 (fun w182 hg183 k184 k185 => ?_)
          have hpost : True := trivial
          rw [hQ]
          exact W.iret (v := w182) hx hb hr (fun t ht hW => ⟨⟨w182, w182, rfl, rfl, ⟨by rw [ht]; exact hI, hN.warm hW, va_K.moved hW.alike hK⟩, by first | (rw [ht]; exact hpost) | exact hpost⟩, hS.F ht⟩) hS.2.2 dX12_sails_58
        · skip
          have k186 := iv_eq (X := x3.toInt) (Y := (0)) rfl (by decide) c180
          refine lv_iload hx hb dX12_sails_49 (lv_at hl 0 rfl) ?_
          refine lv_goto (tgt := 58) hx hb dX12_sails_51 (by decide) ?_
          have hpost : True := trivial
          rw [hQ]
          exact W.iret (v := r178) hx hb hr (fun t ht hW => ⟨⟨r178, r178, rfl, rfl, ⟨by rw [ht]; exact hI, hN.warm hW, va_K.moved hW.alike hK⟩, by first | (rw [ht]; exact hpost) | exact hpost⟩, hS.F ht⟩) hS.2.2 dX12_sails_58
      · skip
        try simp only [rg, not_and, Int.not_le] at hp
        have hp187 := hp
        try rw [show (0 : Int32).toInt = 0 from by decide] at hp187
        try rw [show (1 : Int32).toInt = 1 from by decide] at hp187
        refine lv_if_ne (tgt := 33) hx hb dX12_sails_28 (by decide) (fun c => absurd c (by decide)) (fun _ => ?_)
        exact J_31 s.heap locs ls   (lv_sub hl [0, 1, 2, 3] rfl)  hI hS
    · skip
      try simp only [rg, not_and, Int.not_le] at hp
      have hp188 := hp
      try rw [show (96 : Int32).toInt = 96 from by decide] at hp188
      refine lv_if_eq (tgt := 31) hx hb dX12_sails_19 (by decide) (fun _ => ?_) (fun c => absurd c (by decide))
      exact J_31 s.heap locs ls   (lv_sub hl [0, 1, 2, 3] rfl)  hI hS
  · skip
    try simp only [rg, not_and, Int.not_le] at hp
    have hp189 := hp
    refine lv_if_eq (tgt := 31) hx hb dX12_sails_5 (by decide) (fun _ => ?_) (fun c => absurd c (by decide))
    exact J_31 s.heap locs ls   (lv_sub hl [0, 1, 2, 3] rfl)  hI hS
theorem dX12_meet_0g : (decode cX12_meet 0 = .ok (.aload_n 0, 1)) ∧ (decode cX12_meet 1 = .ok (.iload_n 1, 1)) ∧ (decode cX12_meet 2 = .ok (.invokevirtual 307, 3)) ∧ (decode cX12_meet 5 = .ok (.ifCond .eq 25, 3)) ∧ (decode cX12_meet 8 = .ok (.aload_n 0, 1)) ∧ (decode cX12_meet 9 = .ok (.iload_n 2, 1)) ∧ (decode cX12_meet 10 = .ok (.invokevirtual 307, 3)) ∧ (decode cX12_meet 13 = .ok (.ifCond .eq 17, 3)) ∧ (decode cX12_meet 16 = .ok (.iload_n 1, 1)) ∧ (decode cX12_meet 17 = .ok (.iload_n 2, 1)) := by decide +kernel
theorem dX12_meet_0 : decode cX12_meet 0 = .ok (.aload_n 0, 1) := dX12_meet_0g.1
theorem dX12_meet_1 : decode cX12_meet 1 = .ok (.iload_n 1, 1) := dX12_meet_0g.2.1
theorem dX12_meet_2 : decode cX12_meet 2 = .ok (.invokevirtual 307, 3) := dX12_meet_0g.2.2.1
theorem dX12_meet_5 : decode cX12_meet 5 = .ok (.ifCond .eq 25, 3) := dX12_meet_0g.2.2.2.1
theorem dX12_meet_8 : decode cX12_meet 8 = .ok (.aload_n 0, 1) := dX12_meet_0g.2.2.2.2.1
theorem dX12_meet_9 : decode cX12_meet 9 = .ok (.iload_n 2, 1) := dX12_meet_0g.2.2.2.2.2.1
theorem dX12_meet_10 : decode cX12_meet 10 = .ok (.invokevirtual 307, 3) := dX12_meet_0g.2.2.2.2.2.2.1
theorem dX12_meet_13 : decode cX12_meet 13 = .ok (.ifCond .eq 17, 3) := dX12_meet_0g.2.2.2.2.2.2.2.1
theorem dX12_meet_16 : decode cX12_meet 16 = .ok (.iload_n 1, 1) := dX12_meet_0g.2.2.2.2.2.2.2.2.1
theorem dX12_meet_17 : decode cX12_meet 17 = .ok (.iload_n 2, 1) := dX12_meet_0g.2.2.2.2.2.2.2.2.2
theorem dX12_meet_18g : (decode cX12_meet 18 = .ok (.if_icmp .eq 12, 3)) ∧ (decode cX12_meet 21 = .ok (.iload_n 3, 1)) ∧ (decode cX12_meet 22 = .ok (.iconst 0, 1)) ∧ (decode cX12_meet 23 = .ok (.iconst 1, 1)) ∧ (decode cX12_meet 24 = .ok (.invokestatic 103, 3)) ∧ (decode cX12_meet 27 = .ok (.ifCond .ne 5, 3)) ∧ (decode cX12_meet 30 = .ok (.iconst (-1), 1)) ∧ (decode cX12_meet 31 = .ok (.ireturn, 1)) ∧ (decode cX12_meet 32 = .ok (.aload_n 0, 1)) ∧ (decode cX12_meet 33 = .ok (.invokevirtual 138, 3)) := by decide +kernel
theorem dX12_meet_18 : decode cX12_meet 18 = .ok (.if_icmp .eq 12, 3) := dX12_meet_18g.1
theorem dX12_meet_21 : decode cX12_meet 21 = .ok (.iload_n 3, 1) := dX12_meet_18g.2.1
theorem dX12_meet_22 : decode cX12_meet 22 = .ok (.iconst 0, 1) := dX12_meet_18g.2.2.1
theorem dX12_meet_23 : decode cX12_meet 23 = .ok (.iconst 1, 1) := dX12_meet_18g.2.2.2.1
theorem dX12_meet_24 : decode cX12_meet 24 = .ok (.invokestatic 103, 3) := dX12_meet_18g.2.2.2.2.1
theorem dX12_meet_27 : decode cX12_meet 27 = .ok (.ifCond .ne 5, 3) := dX12_meet_18g.2.2.2.2.2.1
theorem dX12_meet_30 : decode cX12_meet 30 = .ok (.iconst (-1), 1) := dX12_meet_18g.2.2.2.2.2.2.1
theorem dX12_meet_31 : decode cX12_meet 31 = .ok (.ireturn, 1) := dX12_meet_18g.2.2.2.2.2.2.2.1
theorem dX12_meet_32 : decode cX12_meet 32 = .ok (.aload_n 0, 1) := dX12_meet_18g.2.2.2.2.2.2.2.2.1
theorem dX12_meet_33 : decode cX12_meet 33 = .ok (.invokevirtual 138, 3) := dX12_meet_18g.2.2.2.2.2.2.2.2.2
theorem dX12_meet_36g : (decode cX12_meet 36 = .ok (.aload_n 0, 1)) ∧ (decode cX12_meet 37 = .ok (.iload_n 1, 1)) ∧ (decode cX12_meet 38 = .ok (.invokevirtual 316, 3)) ∧ (decode cX12_meet 41 = .ok (.aload_n 0, 1)) ∧ (decode cX12_meet 42 = .ok (.iload_n 2, 1)) ∧ (decode cX12_meet 43 = .ok (.invokevirtual 316, 3)) ∧ (decode cX12_meet 46 = .ok (.if_icmp .le 11, 3)) ∧ (decode cX12_meet 49 = .ok (.aload_n 0, 1)) ∧ (decode cX12_meet 50 = .ok (.iload_n 1, 1)) ∧ (decode cX12_meet 51 = .ok (.invokevirtual 316, 3)) := by decide +kernel
theorem dX12_meet_36 : decode cX12_meet 36 = .ok (.aload_n 0, 1) := dX12_meet_36g.1
theorem dX12_meet_37 : decode cX12_meet 37 = .ok (.iload_n 1, 1) := dX12_meet_36g.2.1
theorem dX12_meet_38 : decode cX12_meet 38 = .ok (.invokevirtual 316, 3) := dX12_meet_36g.2.2.1
theorem dX12_meet_41 : decode cX12_meet 41 = .ok (.aload_n 0, 1) := dX12_meet_36g.2.2.2.1
theorem dX12_meet_42 : decode cX12_meet 42 = .ok (.iload_n 2, 1) := dX12_meet_36g.2.2.2.2.1
theorem dX12_meet_43 : decode cX12_meet 43 = .ok (.invokevirtual 316, 3) := dX12_meet_36g.2.2.2.2.2.1
theorem dX12_meet_46 : decode cX12_meet 46 = .ok (.if_icmp .le 11, 3) := dX12_meet_36g.2.2.2.2.2.2.1
theorem dX12_meet_49 : decode cX12_meet 49 = .ok (.aload_n 0, 1) := dX12_meet_36g.2.2.2.2.2.2.2.1
theorem dX12_meet_50 : decode cX12_meet 50 = .ok (.iload_n 1, 1) := dX12_meet_36g.2.2.2.2.2.2.2.2.1
theorem dX12_meet_51 : decode cX12_meet 51 = .ok (.invokevirtual 316, 3) := dX12_meet_36g.2.2.2.2.2.2.2.2.2
theorem dX12_meet_54g : (decode cX12_meet 54 = .ok (.goto 8, 3)) ∧ (decode cX12_meet 57 = .ok (.aload_n 0, 1)) ∧ (decode cX12_meet 58 = .ok (.iload_n 2, 1)) ∧ (decode cX12_meet 59 = .ok (.invokevirtual 316, 3)) ∧ (decode cX12_meet 62 = .ok (.istore 4, 2)) ∧ (decode cX12_meet 64 = .ok (.iload 4, 2)) ∧ (decode cX12_meet 66 = .ok (.bipush 96, 2)) ∧ (decode cX12_meet 68 = .ok (.if_icmp .gt 49, 3)) ∧ (decode cX12_meet 71 = .ok (.aload_n 0, 1)) ∧ (decode cX12_meet 72 = .ok (.iload_n 1, 1)) := by decide +kernel
theorem dX12_meet_54 : decode cX12_meet 54 = .ok (.goto 8, 3) := dX12_meet_54g.1
theorem dX12_meet_57 : decode cX12_meet 57 = .ok (.aload_n 0, 1) := dX12_meet_54g.2.1
theorem dX12_meet_58 : decode cX12_meet 58 = .ok (.iload_n 2, 1) := dX12_meet_54g.2.2.1
theorem dX12_meet_59 : decode cX12_meet 59 = .ok (.invokevirtual 316, 3) := dX12_meet_54g.2.2.2.1
theorem dX12_meet_62 : decode cX12_meet 62 = .ok (.istore 4, 2) := dX12_meet_54g.2.2.2.2.1
theorem dX12_meet_64 : decode cX12_meet 64 = .ok (.iload 4, 2) := dX12_meet_54g.2.2.2.2.2.1
theorem dX12_meet_66 : decode cX12_meet 66 = .ok (.bipush 96, 2) := dX12_meet_54g.2.2.2.2.2.2.1
theorem dX12_meet_68 : decode cX12_meet 68 = .ok (.if_icmp .gt 49, 3) := dX12_meet_54g.2.2.2.2.2.2.2.1
theorem dX12_meet_71 : decode cX12_meet 71 = .ok (.aload_n 0, 1) := dX12_meet_54g.2.2.2.2.2.2.2.2.1
theorem dX12_meet_72 : decode cX12_meet 72 = .ok (.iload_n 1, 1) := dX12_meet_54g.2.2.2.2.2.2.2.2.2
theorem dX12_meet_73g : (decode cX12_meet 73 = .ok (.iload 4, 2)) ∧ (decode cX12_meet 75 = .ok (.invokevirtual 319, 3)) ∧ (decode cX12_meet 78 = .ok (.istore 5, 2)) ∧ (decode cX12_meet 80 = .ok (.iload 5, 2)) ∧ (decode cX12_meet 82 = .ok (.bipush 24, 2)) ∧ (decode cX12_meet 84 = .ok (.if_icmp .eq 27, 3)) ∧ (decode cX12_meet 87 = .ok (.aload_n 0, 1)) ∧ (decode cX12_meet 88 = .ok (.iload_n 2, 1)) ∧ (decode cX12_meet 89 = .ok (.iload 4, 2)) ∧ (decode cX12_meet 91 = .ok (.invokevirtual 319, 3)) := by decide +kernel
theorem dX12_meet_73 : decode cX12_meet 73 = .ok (.iload 4, 2) := dX12_meet_73g.1
theorem dX12_meet_75 : decode cX12_meet 75 = .ok (.invokevirtual 319, 3) := dX12_meet_73g.2.1
theorem dX12_meet_78 : decode cX12_meet 78 = .ok (.istore 5, 2) := dX12_meet_73g.2.2.1
theorem dX12_meet_80 : decode cX12_meet 80 = .ok (.iload 5, 2) := dX12_meet_73g.2.2.2.1
theorem dX12_meet_82 : decode cX12_meet 82 = .ok (.bipush 24, 2) := dX12_meet_73g.2.2.2.2.1
theorem dX12_meet_84 : decode cX12_meet 84 = .ok (.if_icmp .eq 27, 3) := dX12_meet_73g.2.2.2.2.2.1
theorem dX12_meet_87 : decode cX12_meet 87 = .ok (.aload_n 0, 1) := dX12_meet_73g.2.2.2.2.2.2.1
theorem dX12_meet_88 : decode cX12_meet 88 = .ok (.iload_n 2, 1) := dX12_meet_73g.2.2.2.2.2.2.2.1
theorem dX12_meet_89 : decode cX12_meet 89 = .ok (.iload 4, 2) := dX12_meet_73g.2.2.2.2.2.2.2.2.1
theorem dX12_meet_91 : decode cX12_meet 91 = .ok (.invokevirtual 319, 3) := dX12_meet_73g.2.2.2.2.2.2.2.2.2
theorem dX12_meet_94g : (decode cX12_meet 94 = .ok (.iload 5, 2)) ∧ (decode cX12_meet 96 = .ok (.if_icmp .ne 15, 3)) ∧ (decode cX12_meet 99 = .ok (.iload_n 3, 1)) ∧ (decode cX12_meet 100 = .ok (.ifCond .ne 8, 3)) ∧ (decode cX12_meet 103 = .ok (.iload 4, 2)) ∧ (decode cX12_meet 105 = .ok (.goto 5, 3)) ∧ (decode cX12_meet 108 = .ok (.iload 5, 2)) ∧ (decode cX12_meet 110 = .ok (.ireturn, 1)) ∧ (decode cX12_meet 111 = .ok (.iinc 4 1, 3)) ∧ (decode cX12_meet 114 = .ok (.goto (-50), 3)) := by decide +kernel
theorem dX12_meet_94 : decode cX12_meet 94 = .ok (.iload 5, 2) := dX12_meet_94g.1
theorem dX12_meet_96 : decode cX12_meet 96 = .ok (.if_icmp .ne 15, 3) := dX12_meet_94g.2.1
theorem dX12_meet_99 : decode cX12_meet 99 = .ok (.iload_n 3, 1) := dX12_meet_94g.2.2.1
theorem dX12_meet_100 : decode cX12_meet 100 = .ok (.ifCond .ne 8, 3) := dX12_meet_94g.2.2.2.1
theorem dX12_meet_103 : decode cX12_meet 103 = .ok (.iload 4, 2) := dX12_meet_94g.2.2.2.2.1
theorem dX12_meet_105 : decode cX12_meet 105 = .ok (.goto 5, 3) := dX12_meet_94g.2.2.2.2.2.1
theorem dX12_meet_108 : decode cX12_meet 108 = .ok (.iload 5, 2) := dX12_meet_94g.2.2.2.2.2.2.1
theorem dX12_meet_110 : decode cX12_meet 110 = .ok (.ireturn, 1) := dX12_meet_94g.2.2.2.2.2.2.2.1
theorem dX12_meet_111 : decode cX12_meet 111 = .ok (.iinc 4 1, 3) := dX12_meet_94g.2.2.2.2.2.2.2.2.1
theorem dX12_meet_114 : decode cX12_meet 114 = .ok (.goto (-50), 3) := dX12_meet_94g.2.2.2.2.2.2.2.2.2
theorem dX12_meet_117g : (decode cX12_meet 117 = .ok (.iconst (-1), 1)) ∧ (decode cX12_meet 118 = .ok (.ireturn, 1)) := by decide +kernel
theorem dX12_meet_117 : decode cX12_meet 117 = .ok (.iconst (-1), 1) := dX12_meet_117g.1
theorem dX12_meet_118 : decode cX12_meet 118 = .ok (.ireturn, 1) := dX12_meet_117g.2
set_option maxHeartbeats 4000000 in
set_option maxRecDepth 100000 in
theorem c_X12_meet (l : Launch) (E : Nat → Nat) (D : va_G) (G : th_G) (h0 : Nat) (hG0 : G h0 = some (10, 0)) (x1 : Int32) (x2 : Int32) (x3 : Int32) : Met l yX12_meet (tb (.code yX12_meet cX12_meet 6 (some .int))) (rm 69) (va_Pc [.ref h0, .int x1, .int x2, .int x3] (PX E D G (fun H => True))) (QXi E D G (fun r H => True)) 0 0 (th_A G) := by
  refine Met.ofW (cc := cX12_meet) (maxL := 6) (ret := (some .int)) (by decide) rfl ?_
  intro p e s m args below meth c s₁ B hml hv
  obtain ⟨hav, ⟨hI, hN, hK⟩, hX⟩ := hv
  have hx := B.exec
  have hb := B.bytes
  have hr := B.returns
  have hts := atoms_spec (ws := tb (.code yX12_meet cX12_meet 6 (some .int))) B.pre
  have hown : s.vm.findClass RX12 = some m.cls := findClass_of_methodNamed B.named
  have hlocks := B.notSynchronized
  have hS : va_S (th_A G) s.heap s.heap [] := va_S.rf
  have hl := lv_entry ([.ref h0, .int x1, .int x2, .int x3]) (n := 6) (Nat.le_of_ble_eq_true rfl)
  rw [show entryFrame m args 6 = entryFrame m ([.ref h0, .int x1, .int x2, .int x3] : List Value).toArray 6 from by rw [hav], lg_entry_eq]
  generalize (lg_sl ([.ref h0, .int x1, .int x2, .int x3]) ++ List.replicate (6 - (lg_sl ([.ref h0, .int x1, .int x2, .int x3])).length) Slot.unset).toArray = ls at hl ⊢
  have hl : lv_has ls 6 [(0, .ref h0), (1, .int x1), (2, .int x2), (3, .int x3)] := hl
  generalize hR : (headSpec (tb (.code yX12_meet cX12_meet 6 (some .int))) (rm 69)).room = R
  have hR := hR.symm
  generalize hQ : MQ below (QXi E D G (fun r H => True)) args s 0 0 (th_A G) = QF
  have hQ := hQ.symm
  have J_64 : ∀ (nn : Nat) (H : Heap) (locs : List Loc) (ls : Array Slot) (v464 : Int32) , (Int.toNat (97 - v464.toInt) = nn) → lv_has ls 6 [(4, .int v464), (0, .ref h0), (1, .int x1), (2, .int x2), (3, .int x3)] → ((0 : Int) ≤ v464.toInt ∧ v464.toInt ≤ 97) → ((0 : Int) ≤ x1.toInt ∧ x1.toInt ≤ 5) → ((0 : Int) ≤ x2.toInt ∧ x2.toInt ≤ 5) → ((0 : Int) ≤ x3.toInt ∧ x3.toInt ≤ 1) → th_I (okM E) D G [] H → va_S (th_A G) s.heap H locs → W p l e R s m args below meth c H locs 0 0 QF (F0 m 64 ls []) := by
    intro nn
    induction nn using Nat.strongRecOn with
    | ind nn ih_64 =>
      intro H locs ls v464  hm hl k465 k466 k467 k468 hI hS
      refine lv_iload hx hb dX12_meet_64 (lv_at hl 0 rfl) ?_
      refine lv_bipush (v := 96) hx hb dX12_meet_66 (by decide) ?_
      refine lv_icmp_gt (tgt := 117) hx hb dX12_meet_68 (by decide) (fun c469 => ?_) (fun c469 => ?_)
      · skip
        have k470 := iv_lt (X := (96)) (Y := v464.toInt) (by decide) rfl c469
        refine lv_iconst (v := (-1)) hx hb dX12_meet_117 (by decide) ?_
        have hpost : True := trivial
        rw [hQ]
        exact W.iret (v := (-1)) hx hb hr (fun t ht hW => ⟨⟨(-1), (-1), rfl, rfl, ⟨by rw [ht]; exact hI, hN.warm hW, va_K.moved hW.alike hK⟩, by first | (rw [ht]; exact hpost) | exact hpost⟩, hS.F ht⟩) hS.2.2 dX12_meet_118
      · skip
        have k471 := iv_nlt (X := (96)) (Y := v464.toInt) (by decide) rfl c469
        refine lv_aload_n hx hb dX12_meet_71 rfl (lv_at hl 1 rfl) ?_
        refine lv_iload_n hx hb dX12_meet_72 rfl (lv_at hl 2 rfl) ?_
        refine lv_iload hx hb dX12_meet_73 (lv_at hl 0 rfl) ?_
        refine mx_i (As := [.int x1, .int v464]) (rest := []) (n := 2) (d := 2) ⟨hx, hb, hml, hown, hts⟩ (c_X12_sailsTo l E D G h0 hG0 x1 v464 ⟨by omega, by omega⟩ (by omega)) wd_1693 wd_1695 wp_80 wd_13 wd_1696 (by decide +kernel) ⟨by rw [hR]; exact Nat.le_of_ble_eq_true rfl, by rw [hR]; exact Nat.le_of_ble_eq_true rfl⟩ hI hN hK hS hG0 (trivial) rfl hl.1 rfl (Nat.le_of_ble_eq_true rfl) dX12_meet_75 ⟨Nat.zero_le _, Nat.zero_le _⟩ (fun r472 H locs hI hp hS => ?_)
        have hp473 := hp
        refine lv_istore (lv' := [(5, .int r472), (4, .int v464), (0, .ref h0), (1, .int x1), (2, .int x2), (3, .int x3)]) hx hb dX12_meet_78 hl (by decide) rfl (fun ls hl => ?_)
        refine lv_iload hx hb dX12_meet_80 (lv_at hl 0 rfl) ?_
        refine lv_bipush (v := 24) hx hb dX12_meet_82 (by decide) ?_
        refine lv_icmp_eq (tgt := 111) hx hb dX12_meet_84 (by decide) (fun c474 => ?_) (fun c474 => ?_)
        · skip
          have k475 := iv_eq (X := r472.toInt) (Y := (24)) rfl (by decide) c474
          obtain ⟨v476, e477⟩ : ∃ y : Int32, y = v464 + (1) := ⟨_, rfl⟩
          have tv476 : v476.toInt = v464.toInt + (1) := iv_add rfl (by decide) e477 (by omega) (by omega)
          refine lv_iinc (v := v476) (lv' := [(4, .int v476), (5, .int r472), (0, .ref h0), (1, .int x1), (2, .int x2), (3, .int x3)]) hx hb dX12_meet_111 hl (k := 1) rfl (by rw [e477]; rfl) (by decide) rfl (fun ls hl => ?_)
          refine lv_goto (tgt := 64) hx hb dX12_meet_114 (by decide) ?_
          exact ih_64 _ (by omega) H locs ls v476  rfl (lv_sub hl [0, 2, 3, 4, 5] rfl) ⟨by omega, by omega⟩ ⟨by omega, by omega⟩ ⟨by omega, by omega⟩ ⟨by omega, by omega⟩ hI hS
        · skip
          have k478 := iv_ne (X := r472.toInt) (Y := (24)) rfl (by decide) c474
          refine lv_aload_n hx hb dX12_meet_87 rfl (lv_at hl 2 rfl) ?_
          refine lv_iload_n hx hb dX12_meet_88 rfl (lv_at hl 4 rfl) ?_
          refine lv_iload hx hb dX12_meet_89 (lv_at hl 1 rfl) ?_
          refine mx_i (As := [.int x2, .int v464]) (rest := []) (n := 2) (d := 2) ⟨hx, hb, hml, hown, hts⟩ (c_X12_sailsTo l E D G h0 hG0 x2 v464 ⟨by omega, by omega⟩ (by omega)) wd_1693 wd_1695 wp_80 wd_13 wd_1696 (by decide +kernel) ⟨by rw [hR]; exact Nat.le_of_ble_eq_true rfl, by rw [hR]; exact Nat.le_of_ble_eq_true rfl⟩ hI hN hK hS hG0 (trivial) rfl hl.1 rfl (Nat.le_of_ble_eq_true rfl) dX12_meet_91 ⟨Nat.zero_le _, Nat.zero_le _⟩ (fun r479 H locs hI hp hS => ?_)
          have hp480 := hp
          refine lv_iload hx hb dX12_meet_94 (lv_at hl 0 rfl) ?_
          refine lv_icmp_ne (tgt := 111) hx hb dX12_meet_96 (by decide) (fun c481 => ?_) (fun c481 => ?_)
          · skip
            have k482 := iv_ne (X := r479.toInt) (Y := r472.toInt) rfl rfl c481
            obtain ⟨v483, e484⟩ : ∃ y : Int32, y = v464 + (1) := ⟨_, rfl⟩
            have tv483 : v483.toInt = v464.toInt + (1) := iv_add rfl (by decide) e484 (by omega) (by omega)
            refine lv_iinc (v := v483) (lv' := [(4, .int v483), (5, .int r472), (0, .ref h0), (1, .int x1), (2, .int x2), (3, .int x3)]) hx hb dX12_meet_111 hl (k := 1) rfl (by rw [e484]; rfl) (by decide) rfl (fun ls hl => ?_)
            refine lv_goto (tgt := 64) hx hb dX12_meet_114 (by decide) ?_
            exact ih_64 _ (by omega) H locs ls v483  rfl (lv_sub hl [0, 2, 3, 4, 5] rfl) ⟨by omega, by omega⟩ ⟨by omega, by omega⟩ ⟨by omega, by omega⟩ ⟨by omega, by omega⟩ hI hS
          · skip
            have k485 := iv_eq (X := r479.toInt) (Y := r472.toInt) rfl rfl c481
            refine lv_iload_n hx hb dX12_meet_99 rfl (lv_at hl 5 rfl) ?_
            refine lv_if_ne (tgt := 108) hx hb dX12_meet_100 (by decide) (fun c486 => ?_) (fun c486 => ?_)
            · skip
              have k487 := iv_ne (X := x3.toInt) (Y := (0)) rfl (by decide) c486
              refine lv_iload hx hb dX12_meet_108 (lv_at hl 0 rfl) ?_
              have hpost : True := trivial
              rw [hQ]
              exact W.iret (v := r472) hx hb hr (fun t ht hW => ⟨⟨r472, r472, rfl, rfl, ⟨by rw [ht]; exact hI, hN.warm hW, va_K.moved hW.alike hK⟩, by first | (rw [ht]; exact hpost) | exact hpost⟩, hS.F ht⟩) hS.2.2 dX12_meet_110
            · skip
              have k488 := iv_eq (X := x3.toInt) (Y := (0)) rfl (by decide) c486
              refine lv_iload hx hb dX12_meet_103 (lv_at hl 1 rfl) ?_
              refine lv_goto (tgt := 110) hx hb dX12_meet_105 (by decide) ?_
              have hpost : True := trivial
              rw [hQ]
              exact W.iret (v := v464) hx hb hr (fun t ht hW => ⟨⟨v464, v464, rfl, rfl, ⟨by rw [ht]; exact hI, hN.warm hW, va_K.moved hW.alike hK⟩, by first | (rw [ht]; exact hpost) | exact hpost⟩, hS.F ht⟩) hS.2.2 dX12_meet_110
  have J_62 : ∀ (H : Heap) (locs : List Loc) (ls : Array Slot) (v489 : Int32) , lv_has ls 6 [(0, .ref h0), (1, .int x1), (2, .int x2), (3, .int x3)] → ((0 : Int) ≤ x1.toInt ∧ x1.toInt ≤ 5) → ((0 : Int) ≤ x2.toInt ∧ x2.toInt ≤ 5) → ((0 : Int) ≤ x3.toInt ∧ x3.toInt ≤ 1) → ((0 : Int) ≤ v489.toInt ∧ v489.toInt ≤ 95) → th_I (okM E) D G [] H → va_S (th_A G) s.heap H locs → W p l e R s m args below meth c H locs 0 0 QF (F0 m 62 ls [.int v489]) := by
    intro H locs ls v489  hl k490 k491 k492 k493 hI hS
    refine lv_istore (lv' := [(4, .int v489), (0, .ref h0), (1, .int x1), (2, .int x2), (3, .int x3)]) hx hb dX12_meet_62 hl (by decide) rfl (fun ls hl => ?_)
    exact J_64 _ H locs ls v489  rfl (lv_sub hl [0, 1, 2, 3, 4] rfl) ⟨by omega, by omega⟩ ⟨by omega, by omega⟩ ⟨by omega, by omega⟩ ⟨by omega, by omega⟩ hI hS
  have J_30 : ∀ (H : Heap) (locs : List Loc) (ls : Array Slot)  , lv_has ls 6 [(0, .ref h0), (1, .int x1), (2, .int x2), (3, .int x3)] → th_I (okM E) D G [] H → va_S (th_A G) s.heap H locs → W p l e R s m args below meth c H locs 0 0 QF (F0 m 30 ls []) := by
    intro H locs ls   hl  hI hS
    refine lv_iconst (v := (-1)) hx hb dX12_meet_30 (by decide) ?_
    have hpost : True := trivial
    rw [hQ]
    exact W.iret (v := (-1)) hx hb hr (fun t ht hW => ⟨⟨(-1), (-1), rfl, rfl, ⟨by rw [ht]; exact hI, hN.warm hW, va_K.moved hW.alike hK⟩, by first | (rw [ht]; exact hpost) | exact hpost⟩, hS.F ht⟩) hS.2.2 dX12_meet_31
  refine lv_aload_n hx hb dX12_meet_0 rfl (lv_at hl 0 rfl) ?_
  refine lv_iload_n hx hb dX12_meet_1 rfl (lv_at hl 1 rfl) ?_
  refine mr_i (As := [.int x1]) (rest := []) (n := 1) (d := 1) ⟨hx, hb, hml, hown, hts⟩ (c_X12_isBoat l E D G s.heap h0 hG0 x1) wd_1681 wd_1683 wp_78 wd_13 wd_1684 (by decide +kernel) ⟨by rw [hR]; exact Nat.le_of_ble_eq_true rfl, by rw [hR]; exact Nat.le_of_ble_eq_true rfl⟩ hI hN hK hS hG0 rfl hl.1 rfl (Nat.le_of_ble_eq_true rfl) dX12_meet_2 ⟨Nat.zero_le _, Nat.zero_le _⟩ (fun r494 locs hp hS => ?_)
  rcases hp with ⟨rfl, hp⟩ | ⟨rfl, hp⟩
  · skip
    try simp only [rg, not_and, Int.not_le] at hp
    have hp495 := hp
    refine lv_if_eq (tgt := 30) hx hb dX12_meet_5 (by decide) (fun c => absurd c (by decide)) (fun _ => ?_)
    refine lv_aload_n hx hb dX12_meet_8 rfl (lv_at hl 0 rfl) ?_
    refine lv_iload_n hx hb dX12_meet_9 rfl (lv_at hl 2 rfl) ?_
    refine mr_i (As := [.int x2]) (rest := []) (n := 1) (d := 1) ⟨hx, hb, hml, hown, hts⟩ (c_X12_isBoat l E D G s.heap h0 hG0 x2) wd_1681 wd_1683 wp_78 wd_13 wd_1684 (by decide +kernel) ⟨by rw [hR]; exact Nat.le_of_ble_eq_true rfl, by rw [hR]; exact Nat.le_of_ble_eq_true rfl⟩ hI hN hK hS hG0 rfl hl.1 rfl (Nat.le_of_ble_eq_true rfl) dX12_meet_10 ⟨Nat.zero_le _, Nat.zero_le _⟩ (fun r496 locs hp hS => ?_)
    rcases hp with ⟨rfl, hp⟩ | ⟨rfl, hp⟩
    · skip
      try simp only [rg, not_and, Int.not_le] at hp
      have hp497 := hp
      refine lv_if_eq (tgt := 30) hx hb dX12_meet_13 (by decide) (fun c => absurd c (by decide)) (fun _ => ?_)
      refine lv_iload_n hx hb dX12_meet_16 rfl (lv_at hl 1 rfl) ?_
      refine lv_iload_n hx hb dX12_meet_17 rfl (lv_at hl 2 rfl) ?_
      refine lv_icmp_eq (tgt := 30) hx hb dX12_meet_18 (by decide) (fun c498 => ?_) (fun c498 => ?_)
      · skip
        have k499 := iv_eq (X := x1.toInt) (Y := x2.toInt) rfl rfl c498
        exact J_30 s.heap locs ls   (lv_sub hl [0, 1, 2, 3] rfl)  hI hS
      · skip
        have k500 := iv_ne (X := x1.toInt) (Y := x2.toInt) rfl rfl c498
        refine lv_iload_n hx hb dX12_meet_21 rfl (lv_at hl 3 rfl) ?_
        refine lv_iconst (v := 0) hx hb dX12_meet_22 (by decide) ?_
        refine lv_iconst (v := 1) hx hb dX12_meet_23 (by decide) ?_
        refine th_cSs (As := [.int x3, .int 0, .int 1]) (rest := []) (n := 3) (d := 0) ⟨hx, hb, hml, hown, hts⟩ (c_X12_lies l s.heap x3 0 1) wd_1395 wd_1396 wd_13 wd_1397 (by decide +kernel) ⟨by rw [hR]; exact Nat.le_of_ble_eq_true rfl, by rw [hR]; exact Nat.le_of_ble_eq_true rfl⟩ hN hS rfl hl.1 rfl (Nat.le_of_ble_eq_true rfl) dX12_meet_24 ⟨Nat.zero_le _, Nat.zero_le _⟩ (fun r501 locs hp hS => ?_)
        rcases hp with ⟨rfl, hp⟩ | ⟨rfl, hp⟩
        · skip
          try simp only [rg, not_and, Int.not_le] at hp
          have hp502 := hp
          try rw [show (0 : Int32).toInt = 0 from by decide] at hp502
          try rw [show (1 : Int32).toInt = 1 from by decide] at hp502
          refine lv_if_ne (tgt := 32) hx hb dX12_meet_27 (by decide) (fun _ => ?_) (fun c => absurd c (by decide))
          refine lv_aload_n hx hb dX12_meet_32 rfl (lv_at hl 0 rfl) ?_
          refine mx_v (As := []) (rest := []) (n := 0) (d := 68) ⟨hx, hb, hml, hown, hts⟩ (c_X12_looks l E D G h0 hG0 ) wd_1455 wd_1457 wp_43 wd_13 wd_1458 (by decide +kernel) ⟨by rw [hR]; exact Nat.le_of_ble_eq_true rfl, by rw [hR]; exact Nat.le_of_ble_eq_true rfl⟩ hI hN hK hS hG0 (trivial) rfl hl.1 rfl (Nat.le_of_ble_eq_true rfl) dX12_meet_33 ⟨Nat.zero_le _, Nat.zero_le _⟩ (fun H locs hI hp hS => ?_)
          refine lv_aload_n hx hb dX12_meet_36 rfl (lv_at hl 0 rfl) ?_
          refine lv_iload_n hx hb dX12_meet_37 rfl (lv_at hl 1 rfl) ?_
          refine mr_i (As := [.int x1]) (rest := []) (n := 1) (d := 0) ⟨hx, hb, hml, hown, hts⟩ (c_X12_putIn l E D G H h0 hG0 x1 ⟨by omega, by omega⟩) wd_1689 wd_1691 wp_79 wd_13 wd_1692 (by decide +kernel) ⟨by rw [hR]; exact Nat.le_of_ble_eq_true rfl, by rw [hR]; exact Nat.le_of_ble_eq_true rfl⟩ hI hN hK hS hG0 rfl hl.1 rfl (Nat.le_of_ble_eq_true rfl) dX12_meet_38 ⟨Nat.zero_le _, Nat.zero_le _⟩ (fun r504 locs hp hS => ?_)
          have hp505 := hp
          refine lv_aload_n hx hb dX12_meet_41 rfl (lv_at hl 0 rfl) ?_
          refine lv_iload_n hx hb dX12_meet_42 rfl (lv_at hl 2 rfl) ?_
          refine mr_i (As := [.int x2]) (rest := [.int r504]) (n := 1) (d := 0) ⟨hx, hb, hml, hown, hts⟩ (c_X12_putIn l E D G H h0 hG0 x2 ⟨by omega, by omega⟩) wd_1689 wd_1691 wp_79 wd_13 wd_1692 (by decide +kernel) ⟨by rw [hR]; exact Nat.le_of_ble_eq_true rfl, by rw [hR]; exact Nat.le_of_ble_eq_true rfl⟩ hI hN hK hS hG0 rfl hl.1 rfl (Nat.le_of_ble_eq_true rfl) dX12_meet_43 ⟨Nat.zero_le _, Nat.zero_le _⟩ (fun r506 locs hp hS => ?_)
          have hp507 := hp
          refine lv_icmp_le (tgt := 57) hx hb dX12_meet_46 (by decide) (fun c508 => ?_) (fun c508 => ?_)
          · skip
            have k509 := iv_le (X := r504.toInt) (Y := r506.toInt) rfl rfl c508
            refine lv_aload_n hx hb dX12_meet_57 rfl (lv_at hl 0 rfl) ?_
            refine lv_iload_n hx hb dX12_meet_58 rfl (lv_at hl 2 rfl) ?_
            refine mr_i (As := [.int x2]) (rest := []) (n := 1) (d := 0) ⟨hx, hb, hml, hown, hts⟩ (c_X12_putIn l E D G H h0 hG0 x2 ⟨by omega, by omega⟩) wd_1689 wd_1691 wp_79 wd_13 wd_1692 (by decide +kernel) ⟨by rw [hR]; exact Nat.le_of_ble_eq_true rfl, by rw [hR]; exact Nat.le_of_ble_eq_true rfl⟩ hI hN hK hS hG0 rfl hl.1 rfl (Nat.le_of_ble_eq_true rfl) dX12_meet_59 ⟨Nat.zero_le _, Nat.zero_le _⟩ (fun r510 locs hp hS => ?_)
            have hp511 := hp
            exact J_62 H locs ls r510  (lv_sub hl [0, 1, 2, 3] rfl) ⟨by omega, by omega⟩ ⟨by omega, by omega⟩ ⟨by omega, by omega⟩ ⟨by omega, by omega⟩ hI hS
          · skip
            have k512 := iv_nle (X := r504.toInt) (Y := r506.toInt) rfl rfl c508
            refine lv_aload_n hx hb dX12_meet_49 rfl (lv_at hl 0 rfl) ?_
            refine lv_iload_n hx hb dX12_meet_50 rfl (lv_at hl 1 rfl) ?_
            refine mr_i (As := [.int x1]) (rest := []) (n := 1) (d := 0) ⟨hx, hb, hml, hown, hts⟩ (c_X12_putIn l E D G H h0 hG0 x1 ⟨by omega, by omega⟩) wd_1689 wd_1691 wp_79 wd_13 wd_1692 (by decide +kernel) ⟨by rw [hR]; exact Nat.le_of_ble_eq_true rfl, by rw [hR]; exact Nat.le_of_ble_eq_true rfl⟩ hI hN hK hS hG0 rfl hl.1 rfl (Nat.le_of_ble_eq_true rfl) dX12_meet_51 ⟨Nat.zero_le _, Nat.zero_le _⟩ (fun r513 locs hp hS => ?_)
            have hp514 := hp
            refine lv_goto (tgt := 62) hx hb dX12_meet_54 (by decide) ?_
            exact J_62 H locs ls r513  (lv_sub hl [0, 1, 2, 3] rfl) ⟨by omega, by omega⟩ ⟨by omega, by omega⟩ ⟨by omega, by omega⟩ ⟨by omega, by omega⟩ hI hS
        · skip
          try simp only [rg, not_and, Int.not_le] at hp
          have hp515 := hp
          try rw [show (0 : Int32).toInt = 0 from by decide] at hp515
          try rw [show (1 : Int32).toInt = 1 from by decide] at hp515
          refine lv_if_ne (tgt := 32) hx hb dX12_meet_27 (by decide) (fun c => absurd c (by decide)) (fun _ => ?_)
          exact J_30 s.heap locs ls   (lv_sub hl [0, 1, 2, 3] rfl)  hI hS
    · skip
      try simp only [rg, not_and, Int.not_le] at hp
      have hp516 := hp
      refine lv_if_eq (tgt := 30) hx hb dX12_meet_13 (by decide) (fun _ => ?_) (fun c => absurd c (by decide))
      exact J_30 s.heap locs ls   (lv_sub hl [0, 1, 2, 3] rfl)  hI hS
  · skip
    try simp only [rg, not_and, Int.not_le] at hp
    have hp517 := hp
    refine lv_if_eq (tgt := 30) hx hb dX12_meet_5 (by decide) (fun _ => ?_) (fun c => absurd c (by decide))
    exact J_30 s.heap locs ls   (lv_sub hl [0, 1, 2, 3] rfl)  hI hS
theorem dX12_pour_0g : (decode cX12_pour 0 = .ok (.iload_n 1, 1)) ∧ (decode cX12_pour 1 = .ok (.iload_n 2, 1)) ∧ (decode cX12_pour 2 = .ok (.iload_n 3, 1)) ∧ (decode cX12_pour 3 = .ok (.iload 4, 2)) ∧ (decode cX12_pour 5 = .ok (.invokestatic 141, 3)) ∧ (decode cX12_pour 8 = .ok (.ifCond .ne 9, 3)) ∧ (decode cX12_pour 11 = .ok (.aload_n 0, 1)) ∧ (decode cX12_pour 12 = .ok (.iconst (-1), 1)) ∧ (decode cX12_pour 13 = .ok (.invokevirtual 107, 3)) ∧ (decode cX12_pour 16 = .ok (.ireturn, 1)) := by decide +kernel
theorem dX12_pour_0 : decode cX12_pour 0 = .ok (.iload_n 1, 1) := dX12_pour_0g.1
theorem dX12_pour_1 : decode cX12_pour 1 = .ok (.iload_n 2, 1) := dX12_pour_0g.2.1
theorem dX12_pour_2 : decode cX12_pour 2 = .ok (.iload_n 3, 1) := dX12_pour_0g.2.2.1
theorem dX12_pour_3 : decode cX12_pour 3 = .ok (.iload 4, 2) := dX12_pour_0g.2.2.2.1
theorem dX12_pour_5 : decode cX12_pour 5 = .ok (.invokestatic 141, 3) := dX12_pour_0g.2.2.2.2.1
theorem dX12_pour_8 : decode cX12_pour 8 = .ok (.ifCond .ne 9, 3) := dX12_pour_0g.2.2.2.2.2.1
theorem dX12_pour_11 : decode cX12_pour 11 = .ok (.aload_n 0, 1) := dX12_pour_0g.2.2.2.2.2.2.1
theorem dX12_pour_12 : decode cX12_pour 12 = .ok (.iconst (-1), 1) := dX12_pour_0g.2.2.2.2.2.2.2.1
theorem dX12_pour_13 : decode cX12_pour 13 = .ok (.invokevirtual 107, 3) := dX12_pour_0g.2.2.2.2.2.2.2.2.1
theorem dX12_pour_16 : decode cX12_pour 16 = .ok (.ireturn, 1) := dX12_pour_0g.2.2.2.2.2.2.2.2.2
theorem dX12_pour_17g : (decode cX12_pour 17 = .ok (.aload_n 0, 1)) ∧ (decode cX12_pour 18 = .ok (.invokevirtual 138, 3)) ∧ (decode cX12_pour 21 = .ok (.aload_n 0, 1)) ∧ (decode cX12_pour 22 = .ok (.getfield 64, 3)) ∧ (decode cX12_pour 25 = .ok (.bipush 24, 2)) ∧ (decode cX12_pour 27 = .ok (.iload_n 2, 1)) ∧ (decode cX12_pour 28 = .ok (.imul, 1)) ∧ (decode cX12_pour 29 = .ok (.iload_n 1, 1)) ∧ (decode cX12_pour 30 = .ok (.iadd, 1)) ∧ (decode cX12_pour 31 = .ok (.baload, 1)) := by decide +kernel
theorem dX12_pour_17 : decode cX12_pour 17 = .ok (.aload_n 0, 1) := dX12_pour_17g.1
theorem dX12_pour_18 : decode cX12_pour 18 = .ok (.invokevirtual 138, 3) := dX12_pour_17g.2.1
theorem dX12_pour_21 : decode cX12_pour 21 = .ok (.aload_n 0, 1) := dX12_pour_17g.2.2.1
theorem dX12_pour_22 : decode cX12_pour 22 = .ok (.getfield 64, 3) := dX12_pour_17g.2.2.2.1
theorem dX12_pour_25 : decode cX12_pour 25 = .ok (.bipush 24, 2) := dX12_pour_17g.2.2.2.2.1
theorem dX12_pour_27 : decode cX12_pour 27 = .ok (.iload_n 2, 1) := dX12_pour_17g.2.2.2.2.2.1
theorem dX12_pour_28 : decode cX12_pour 28 = .ok (.imul, 1) := dX12_pour_17g.2.2.2.2.2.2.1
theorem dX12_pour_29 : decode cX12_pour 29 = .ok (.iload_n 1, 1) := dX12_pour_17g.2.2.2.2.2.2.2.1
theorem dX12_pour_30 : decode cX12_pour 30 = .ok (.iadd, 1) := dX12_pour_17g.2.2.2.2.2.2.2.2.1
theorem dX12_pour_31 : decode cX12_pour 31 = .ok (.baload, 1) := dX12_pour_17g.2.2.2.2.2.2.2.2.2
theorem dX12_pour_32g : (decode cX12_pour 32 = .ok (.ifCond .eq 10, 3)) ∧ (decode cX12_pour 35 = .ok (.aload_n 0, 1)) ∧ (decode cX12_pour 36 = .ok (.bipush (-3), 2)) ∧ (decode cX12_pour 38 = .ok (.invokevirtual 107, 3)) ∧ (decode cX12_pour 41 = .ok (.ireturn, 1)) ∧ (decode cX12_pour 42 = .ok (.aload_n 0, 1)) ∧ (decode cX12_pour 43 = .ok (.getfield 20, 3)) ∧ (decode cX12_pour 46 = .ok (.sipush 311, 3)) ∧ (decode cX12_pour 49 = .ok (.iaload, 1)) ∧ (decode cX12_pour 50 = .ok (.bipush 16, 2)) := by decide +kernel
theorem dX12_pour_32 : decode cX12_pour 32 = .ok (.ifCond .eq 10, 3) := dX12_pour_32g.1
theorem dX12_pour_35 : decode cX12_pour 35 = .ok (.aload_n 0, 1) := dX12_pour_32g.2.1
theorem dX12_pour_36 : decode cX12_pour 36 = .ok (.bipush (-3), 2) := dX12_pour_32g.2.2.1
theorem dX12_pour_38 : decode cX12_pour 38 = .ok (.invokevirtual 107, 3) := dX12_pour_32g.2.2.2.1
theorem dX12_pour_41 : decode cX12_pour 41 = .ok (.ireturn, 1) := dX12_pour_32g.2.2.2.2.1
theorem dX12_pour_42 : decode cX12_pour 42 = .ok (.aload_n 0, 1) := dX12_pour_32g.2.2.2.2.2.1
theorem dX12_pour_43 : decode cX12_pour 43 = .ok (.getfield 20, 3) := dX12_pour_32g.2.2.2.2.2.2.1
theorem dX12_pour_46 : decode cX12_pour 46 = .ok (.sipush 311, 3) := dX12_pour_32g.2.2.2.2.2.2.2.1
theorem dX12_pour_49 : decode cX12_pour 49 = .ok (.iaload, 1) := dX12_pour_32g.2.2.2.2.2.2.2.2.1
theorem dX12_pour_50 : decode cX12_pour 50 = .ok (.bipush 16, 2) := dX12_pour_32g.2.2.2.2.2.2.2.2.2
theorem dX12_pour_52g : (decode cX12_pour 52 = .ok (.if_icmp .ne 10, 3)) ∧ (decode cX12_pour 55 = .ok (.aload_n 0, 1)) ∧ (decode cX12_pour 56 = .ok (.bipush (-5), 2)) ∧ (decode cX12_pour 58 = .ok (.invokevirtual 107, 3)) ∧ (decode cX12_pour 61 = .ok (.ireturn, 1)) ∧ (decode cX12_pour 62 = .ok (.aload_n 0, 1)) ∧ (decode cX12_pour 63 = .ok (.aload_n 0, 1)) ∧ (decode cX12_pour 64 = .ok (.sipush 160, 3)) ∧ (decode cX12_pour 67 = .ok (.sipush 311, 3)) ∧ (decode cX12_pour 70 = .ok (.iconst 4, 1)) := by decide +kernel
theorem dX12_pour_52 : decode cX12_pour 52 = .ok (.if_icmp .ne 10, 3) := dX12_pour_52g.1
theorem dX12_pour_55 : decode cX12_pour 55 = .ok (.aload_n 0, 1) := dX12_pour_52g.2.1
theorem dX12_pour_56 : decode cX12_pour 56 = .ok (.bipush (-5), 2) := dX12_pour_52g.2.2.1
theorem dX12_pour_58 : decode cX12_pour 58 = .ok (.invokevirtual 107, 3) := dX12_pour_52g.2.2.2.1
theorem dX12_pour_61 : decode cX12_pour 61 = .ok (.ireturn, 1) := dX12_pour_52g.2.2.2.2.1
theorem dX12_pour_62 : decode cX12_pour 62 = .ok (.aload_n 0, 1) := dX12_pour_52g.2.2.2.2.2.1
theorem dX12_pour_63 : decode cX12_pour 63 = .ok (.aload_n 0, 1) := dX12_pour_52g.2.2.2.2.2.2.1
theorem dX12_pour_64 : decode cX12_pour 64 = .ok (.sipush 160, 3) := dX12_pour_52g.2.2.2.2.2.2.2.1
theorem dX12_pour_67 : decode cX12_pour 67 = .ok (.sipush 311, 3) := dX12_pour_52g.2.2.2.2.2.2.2.2.1
theorem dX12_pour_70 : decode cX12_pour 70 = .ok (.iconst 4, 1) := dX12_pour_52g.2.2.2.2.2.2.2.2.2
theorem dX12_pour_71g : (decode cX12_pour 71 = .ok (.iload_n 1, 1)) ∧ (decode cX12_pour 72 = .ok (.iload_n 2, 1)) ∧ (decode cX12_pour 73 = .ok (.iload_n 3, 1)) ∧ (decode cX12_pour 74 = .ok (.iload 4, 2)) ∧ (decode cX12_pour 76 = .ok (.invokevirtual 125, 3)) ∧ (decode cX12_pour 79 = .ok (.iconst 1, 1)) ∧ (decode cX12_pour 80 = .ok (.isub, 1)) ∧ (decode cX12_pour 81 = .ok (.invokevirtual 111, 3)) ∧ (decode cX12_pour 84 = .ok (.ireturn, 1)) := by decide +kernel
theorem dX12_pour_71 : decode cX12_pour 71 = .ok (.iload_n 1, 1) := dX12_pour_71g.1
theorem dX12_pour_72 : decode cX12_pour 72 = .ok (.iload_n 2, 1) := dX12_pour_71g.2.1
theorem dX12_pour_73 : decode cX12_pour 73 = .ok (.iload_n 3, 1) := dX12_pour_71g.2.2.1
theorem dX12_pour_74 : decode cX12_pour 74 = .ok (.iload 4, 2) := dX12_pour_71g.2.2.2.1
theorem dX12_pour_76 : decode cX12_pour 76 = .ok (.invokevirtual 125, 3) := dX12_pour_71g.2.2.2.2.1
theorem dX12_pour_79 : decode cX12_pour 79 = .ok (.iconst 1, 1) := dX12_pour_71g.2.2.2.2.2.1
theorem dX12_pour_80 : decode cX12_pour 80 = .ok (.isub, 1) := dX12_pour_71g.2.2.2.2.2.2.1
theorem dX12_pour_81 : decode cX12_pour 81 = .ok (.invokevirtual 111, 3) := dX12_pour_71g.2.2.2.2.2.2.2.1
theorem dX12_pour_84 : decode cX12_pour 84 = .ok (.ireturn, 1) := dX12_pour_71g.2.2.2.2.2.2.2.2
set_option maxHeartbeats 4000000 in
set_option maxRecDepth 100000 in
theorem c_X12_pour (l : Launch) (E : Nat → Nat) (D : va_G) (G : th_G) (h0 : Nat) (hG0 : G h0 = some (10, 0)) (x1 : Int32) (x2 : Int32) (x3 : Int32) (x4 : Int32) : Met l yX12_pour (tb (.code yX12_pour cX12_pour 5 (some .int))) (rm 69) (va_Pc [.ref h0, .int x1, .int x2, .int x3, .int x4] (PX E D G (fun H => True))) (QXi E D G (fun r H => True)) 0 0 (th_A G) := by
  refine Met.ofW (cc := cX12_pour) (maxL := 5) (ret := (some .int)) (by decide) rfl ?_
  intro p e s m args below meth c s₁ B hml hv
  obtain ⟨hav, ⟨hI, hN, hK⟩, hX⟩ := hv
  have hx := B.exec
  have hb := B.bytes
  have hr := B.returns
  have hts := atoms_spec (ws := tb (.code yX12_pour cX12_pour 5 (some .int))) B.pre
  have hown : s.vm.findClass RX12 = some m.cls := findClass_of_methodNamed B.named
  have hlocks := B.notSynchronized
  have hS : va_S (th_A G) s.heap s.heap [] := va_S.rf
  have hl := lv_entry ([.ref h0, .int x1, .int x2, .int x3, .int x4]) (n := 5) (Nat.le_of_ble_eq_true rfl)
  rw [show entryFrame m args 5 = entryFrame m ([.ref h0, .int x1, .int x2, .int x3, .int x4] : List Value).toArray 5 from by rw [hav], lg_entry_eq]
  generalize (lg_sl ([.ref h0, .int x1, .int x2, .int x3, .int x4]) ++ List.replicate (5 - (lg_sl ([.ref h0, .int x1, .int x2, .int x3, .int x4])).length) Slot.unset).toArray = ls at hl ⊢
  have hl : lv_has ls 5 [(0, .ref h0), (1, .int x1), (2, .int x2), (3, .int x3), (4, .int x4)] := hl
  generalize hR : (headSpec (tb (.code yX12_pour cX12_pour 5 (some .int))) (rm 69)).room = R
  have hR := hR.symm
  generalize hQ : MQ below (QXi E D G (fun r H => True)) args s 0 0 (th_A G) = QF
  have hQ := hQ.symm
  refine lv_iload_n hx hb dX12_pour_0 rfl (lv_at hl 1 rfl) ?_
  refine lv_iload_n hx hb dX12_pour_1 rfl (lv_at hl 2 rfl) ?_
  refine lv_iload_n hx hb dX12_pour_2 rfl (lv_at hl 3 rfl) ?_
  refine lv_iload hx hb dX12_pour_3 (lv_at hl 4 rfl) ?_
  refine th_cSs (As := [.int x1, .int x2, .int x3, .int x4]) (rest := []) (n := 4) (d := 2) ⟨hx, hb, hml, hown, hts⟩ (c_X12_isPour l s.heap x1 x2 x3 x4) wd_1542 wd_1543 wd_13 wd_1544 (by decide +kernel) ⟨by rw [hR]; exact Nat.le_of_ble_eq_true rfl, by rw [hR]; exact Nat.le_of_ble_eq_true rfl⟩ hN hS rfl hl.1 rfl (Nat.le_of_ble_eq_true rfl) dX12_pour_5 ⟨Nat.zero_le _, Nat.zero_le _⟩ (fun r1 locs hp hS => ?_)
  rcases hp with ⟨rfl, hp⟩ | ⟨rfl, hp⟩
  · skip
    try simp only [rg, not_and, Int.not_le] at hp
    have hp2 := hp
    refine lv_if_ne (tgt := 17) hx hb dX12_pour_8 (by decide) (fun _ => ?_) (fun c => absurd c (by decide))
    refine lv_aload_n hx hb dX12_pour_17 rfl (lv_at hl 0 rfl) ?_
    refine mx_v (As := []) (rest := []) (n := 0) (d := 68) ⟨hx, hb, hml, hown, hts⟩ (c_X12_looks l E D G h0 hG0 ) wd_1455 wd_1457 wp_43 wd_13 wd_1458 (by decide +kernel) ⟨by rw [hR]; exact Nat.le_of_ble_eq_true rfl, by rw [hR]; exact Nat.le_of_ble_eq_true rfl⟩ hI hN hK hS hG0 (trivial) rfl hl.1 rfl (Nat.le_of_ble_eq_true rfl) dX12_pour_18 ⟨Nat.zero_le _, Nat.zero_le _⟩ (fun H locs hI hp hS => ?_)
    refine lv_aload_n hx hb dX12_pour_21 rfl (lv_at hl 0 rfl) ?_
    refine gmA hx hb hts inT12 hown hK hI List.not_mem_nil hG0 26 (by decide) (hts _ (tb_c wd_1259)) rfl rfl dX12_pour_22 (fun a4 hq5 hf6 => ?_)
    refine lv_bipush (v := 24) hx hb dX12_pour_25 (by decide) ?_
    refine lv_iload_n hx hb dX12_pour_27 rfl (lv_at hl 2 rfl) ?_
    refine lv_imul hx hb dX12_pour_28 ?_
    refine lv_topi (fun v7 e8 => ?_)
    have tv7 : v7.toInt = (24) * x2.toInt := iv_mul (by decide) rfl e8 (by omega) (by omega)
    refine lv_iload_n hx hb dX12_pour_29 rfl (lv_at hl 1 rfl) ?_
    refine lv_iadd hx hb dX12_pour_30 ?_
    refine lv_topi (fun v9 e10 => ?_)
    have tv9 : v9.toInt = v7.toInt + x1.toInt := iv_add rfl rfl e10 (by omega) (by omega)
    obtain ⟨F11, hA12⟩ := om_5 hI hq5 List.not_mem_nil
    refine va_zald hx hb hK (th_one hA12) 0 2 rfl rfl (iv_in (X := v9.toInt) rfl (by omega) (by omega)) dX12_pour_31 ?_
    refine lv_topi (fun v13 e14 => ?_)
    have k15 := iv_lo v13
    have k16 := iv_hi v13
    refine lv_if_eq (tgt := 42) hx hb dX12_pour_32 (by decide) (fun c17 => ?_) (fun c17 => ?_)
    · skip
      have k18 := iv_eq (X := v13.toInt) (Y := (0)) rfl (by decide) c17
      refine lv_aload_n hx hb dX12_pour_42 rfl (lv_at hl 0 rfl) ?_
      refine gmA hx hb hts inT12 hown hK hI List.not_mem_nil hG0 3 (by decide) (hts _ (tb_c wd_1236)) rfl rfl dX12_pour_43 (fun a19 hq20 hf21 => ?_)
      refine lv_sipush (v := 311) hx hb dX12_pour_46 (by decide) ?_
      obtain ⟨F22, hA23, hP24⟩ := om_1 hI hq20 List.not_mem_nil
      refine th_iald hx hb hK hA23 0 rfl (iv_in (X := (311)) (by decide) (by omega) (by omega)) dX12_pour_49 (fun v25 e26 => ?_)
      have k27 := kg_m311 (kOk.get (i := 311) hP24 e26 (X := (311)) (by decide) (by omega) (by omega)) (by omega) (by omega) (by omega)
      refine lv_bipush (v := 16) hx hb dX12_pour_50 (by decide) ?_
      refine lv_icmp_ne (tgt := 62) hx hb dX12_pour_52 (by decide) (fun c28 => ?_) (fun c28 => ?_)
      · skip
        have k29 := iv_ne (X := v25.toInt) (Y := (16)) rfl (by decide) c28
        refine lv_aload_n hx hb dX12_pour_62 rfl (lv_at hl 0 rfl) ?_
        refine lv_aload_n hx hb dX12_pour_63 rfl (lv_at hl 0 rfl) ?_
        refine lv_sipush (v := 160) hx hb dX12_pour_64 (by decide) ?_
        refine lv_sipush (v := 311) hx hb dX12_pour_67 (by decide) ?_
        refine lv_iconst (v := 4) hx hb dX12_pour_70 (by decide) ?_
        refine lv_iload_n hx hb dX12_pour_71 rfl (lv_at hl 1 rfl) ?_
        refine lv_iload_n hx hb dX12_pour_72 rfl (lv_at hl 2 rfl) ?_
        refine lv_iload_n hx hb dX12_pour_73 rfl (lv_at hl 3 rfl) ?_
        refine lv_iload hx hb dX12_pour_74 (lv_at hl 4 rfl) ?_
        refine mx_i (As := [.int 160, .int 311, .int 4, .int x1, .int x2, .int x3, .int x4]) (rest := [.ref h0]) (n := 7) (d := 0) ⟨hx, hb, hml, hown, hts⟩ (c_X12_comesBehind_311 l E D G h0 hG0 x1 x2 x3 x4 ⟨by omega, by omega⟩ ⟨by omega, by omega⟩ F22 hP24 (lt_of_rd e26 rfl (by omega))) wd_1435 wd_1437 wp_42 wd_13 wd_1438 (by decide +kernel) ⟨by rw [hR]; exact Nat.le_of_ble_eq_true rfl, by rw [hR]; exact Nat.le_of_ble_eq_true rfl⟩ hI hN hK hS hG0 (⟨a19, hf21, hq20, hA23⟩) rfl hl.1 rfl (Nat.le_of_ble_eq_true rfl) dX12_pour_76 ⟨Nat.zero_le _, Nat.zero_le _⟩ (fun r30 H locs hI hp hS => ?_)
        refine lv_iconst (v := 1) hx hb dX12_pour_79 (by decide) ?_
        refine lv_isub hx hb dX12_pour_80 ?_
        refine lv_topi (fun v31 e32 => ?_)
        try have tv31 : v31.toInt = r30.toInt - (1) := iv_sub rfl (by decide) e32 (by omega) (by omega)
        refine mx_i (As := [.int v31]) (rest := []) (n := 1) (d := 0) ⟨hx, hb, hml, hown, hts⟩ (c_X12_good l E D G h0 hG0 v31) wd_1402 wd_1404 wp_41 wd_13 wd_1405 (by decide +kernel) ⟨by rw [hR]; exact Nat.le_of_ble_eq_true rfl, by rw [hR]; exact Nat.le_of_ble_eq_true rfl⟩ hI hN hK hS hG0 (trivial) rfl hl.1 rfl (Nat.le_of_ble_eq_true rfl) dX12_pour_81 ⟨Nat.zero_le _, Nat.zero_le _⟩ (fun r33 H locs hI hp hS => ?_)
        obtain rfl := hp.symm
        have hpost : True := trivial
        rw [hQ]
        exact W.iret (v := v31) hx hb hr (fun t ht hW => ⟨⟨v31, v31, rfl, rfl, ⟨by rw [ht]; exact hI, hN.warm hW, va_K.moved hW.alike hK⟩, by first | (rw [ht]; exact hpost) | exact hpost⟩, hS.F ht⟩) hS.2.2 dX12_pour_84
      · skip
        have k34 := iv_eq (X := v25.toInt) (Y := (16)) rfl (by decide) c28
        refine lv_aload_n hx hb dX12_pour_55 rfl (lv_at hl 0 rfl) ?_
        refine lv_bipush (v := (-5)) hx hb dX12_pour_56 (by decide) ?_
        refine mx_i (As := [.int (-5)]) (rest := []) (n := 1) (d := 0) ⟨hx, hb, hml, hown, hts⟩ (c_X12_refuses l E D G h0 hG0 (-5) ⟨by decide, by decide⟩) wd_1398 wd_1400 wp_40 wd_13 wd_1401 (by decide +kernel) ⟨by rw [hR]; exact Nat.le_of_ble_eq_true rfl, by rw [hR]; exact Nat.le_of_ble_eq_true rfl⟩ hI hN hK hS hG0 (trivial) rfl hl.1 rfl (Nat.le_of_ble_eq_true rfl) dX12_pour_58 ⟨Nat.zero_le _, Nat.zero_le _⟩ (fun r35 H locs hI hp hS => ?_)
        obtain rfl := hp.symm
        have hpost : True := trivial
        rw [hQ]
        exact W.iret (v := (-5)) hx hb hr (fun t ht hW => ⟨⟨(-5), (-5), rfl, rfl, ⟨by rw [ht]; exact hI, hN.warm hW, va_K.moved hW.alike hK⟩, by first | (rw [ht]; exact hpost) | exact hpost⟩, hS.F ht⟩) hS.2.2 dX12_pour_61
    · skip
      have k36 := iv_ne (X := v13.toInt) (Y := (0)) rfl (by decide) c17
      refine lv_aload_n hx hb dX12_pour_35 rfl (lv_at hl 0 rfl) ?_
      refine lv_bipush (v := (-3)) hx hb dX12_pour_36 (by decide) ?_
      refine mx_i (As := [.int (-3)]) (rest := []) (n := 1) (d := 0) ⟨hx, hb, hml, hown, hts⟩ (c_X12_refuses l E D G h0 hG0 (-3) ⟨by decide, by decide⟩) wd_1398 wd_1400 wp_40 wd_13 wd_1401 (by decide +kernel) ⟨by rw [hR]; exact Nat.le_of_ble_eq_true rfl, by rw [hR]; exact Nat.le_of_ble_eq_true rfl⟩ hI hN hK hS hG0 (trivial) rfl hl.1 rfl (Nat.le_of_ble_eq_true rfl) dX12_pour_38 ⟨Nat.zero_le _, Nat.zero_le _⟩ (fun r37 H locs hI hp hS => ?_)
      obtain rfl := hp.symm
      have hpost : True := trivial
      rw [hQ]
      exact W.iret (v := (-3)) hx hb hr (fun t ht hW => ⟨⟨(-3), (-3), rfl, rfl, ⟨by rw [ht]; exact hI, hN.warm hW, va_K.moved hW.alike hK⟩, by first | (rw [ht]; exact hpost) | exact hpost⟩, hS.F ht⟩) hS.2.2 dX12_pour_41
  · skip
    try simp only [rg, not_and, Int.not_le] at hp
    have hp38 := hp
    refine lv_if_ne (tgt := 17) hx hb dX12_pour_8 (by decide) (fun c => absurd c (by decide)) (fun _ => ?_)
    refine lv_aload_n hx hb dX12_pour_11 rfl (lv_at hl 0 rfl) ?_
    refine lv_iconst (v := (-1)) hx hb dX12_pour_12 (by decide) ?_
    refine mx_i (As := [.int (-1)]) (rest := []) (n := 1) (d := 0) ⟨hx, hb, hml, hown, hts⟩ (c_X12_refuses l E D G h0 hG0 (-1) ⟨by decide, by decide⟩) wd_1398 wd_1400 wp_40 wd_13 wd_1401 (by decide +kernel) ⟨by rw [hR]; exact Nat.le_of_ble_eq_true rfl, by rw [hR]; exact Nat.le_of_ble_eq_true rfl⟩ hI hN hK hS hG0 (trivial) rfl hl.1 rfl (Nat.le_of_ble_eq_true rfl) dX12_pour_13 ⟨Nat.zero_le _, Nat.zero_le _⟩ (fun r39 H locs hI hp hS => ?_)
    obtain rfl := hp.symm
    have hpost : True := trivial
    rw [hQ]
    exact W.iret (v := (-1)) hx hb hr (fun t ht hW => ⟨⟨(-1), (-1), rfl, rfl, ⟨by rw [ht]; exact hI, hN.warm hW, va_K.moved hW.alike hK⟩, by first | (rw [ht]; exact hpost) | exact hpost⟩, hS.F ht⟩) hS.2.2 dX12_pour_16
theorem dX12_undo_0g : (decode cX12_undo 0 = .ok (.aload_n 0, 1)) ∧ (decode cX12_undo 1 = .ok (.getfield 20, 3)) ∧ (decode cX12_undo 4 = .ok (.sipush 311, 3)) ∧ (decode cX12_undo 7 = .ok (.iaload, 1)) ∧ (decode cX12_undo 8 = .ok (.ifCond .ne 10, 3)) ∧ (decode cX12_undo 11 = .ok (.aload_n 0, 1)) ∧ (decode cX12_undo 12 = .ok (.bipush (-3), 2)) ∧ (decode cX12_undo 14 = .ok (.invokevirtual 107, 3)) ∧ (decode cX12_undo 17 = .ok (.ireturn, 1)) ∧ (decode cX12_undo 18 = .ok (.aload_n 0, 1)) := by decide +kernel
theorem dX12_undo_0 : decode cX12_undo 0 = .ok (.aload_n 0, 1) := dX12_undo_0g.1
theorem dX12_undo_1 : decode cX12_undo 1 = .ok (.getfield 20, 3) := dX12_undo_0g.2.1
theorem dX12_undo_4 : decode cX12_undo 4 = .ok (.sipush 311, 3) := dX12_undo_0g.2.2.1
theorem dX12_undo_7 : decode cX12_undo 7 = .ok (.iaload, 1) := dX12_undo_0g.2.2.2.1
theorem dX12_undo_8 : decode cX12_undo 8 = .ok (.ifCond .ne 10, 3) := dX12_undo_0g.2.2.2.2.1
theorem dX12_undo_11 : decode cX12_undo 11 = .ok (.aload_n 0, 1) := dX12_undo_0g.2.2.2.2.2.1
theorem dX12_undo_12 : decode cX12_undo 12 = .ok (.bipush (-3), 2) := dX12_undo_0g.2.2.2.2.2.2.1
theorem dX12_undo_14 : decode cX12_undo 14 = .ok (.invokevirtual 107, 3) := dX12_undo_0g.2.2.2.2.2.2.2.1
theorem dX12_undo_17 : decode cX12_undo 17 = .ok (.ireturn, 1) := dX12_undo_0g.2.2.2.2.2.2.2.2.1
theorem dX12_undo_18 : decode cX12_undo 18 = .ok (.aload_n 0, 1) := dX12_undo_0g.2.2.2.2.2.2.2.2.2
theorem dX12_undo_19g : (decode cX12_undo 19 = .ok (.getfield 20, 3)) ∧ (decode cX12_undo 22 = .ok (.sipush 311, 3)) ∧ (decode cX12_undo 25 = .ok (.dup2, 1)) ∧ (decode cX12_undo 26 = .ok (.iaload, 1)) ∧ (decode cX12_undo 27 = .ok (.iconst 1, 1)) ∧ (decode cX12_undo 28 = .ok (.isub, 1)) ∧ (decode cX12_undo 29 = .ok (.iastore, 1)) ∧ (decode cX12_undo 30 = .ok (.aload_n 0, 1)) ∧ (decode cX12_undo 31 = .ok (.aload_n 0, 1)) ∧ (decode cX12_undo 32 = .ok (.getfield 20, 3)) := by decide +kernel
theorem dX12_undo_19 : decode cX12_undo 19 = .ok (.getfield 20, 3) := dX12_undo_19g.1
theorem dX12_undo_22 : decode cX12_undo 22 = .ok (.sipush 311, 3) := dX12_undo_19g.2.1
theorem dX12_undo_25 : decode cX12_undo 25 = .ok (.dup2, 1) := dX12_undo_19g.2.2.1
theorem dX12_undo_26 : decode cX12_undo 26 = .ok (.iaload, 1) := dX12_undo_19g.2.2.2.1
theorem dX12_undo_27 : decode cX12_undo 27 = .ok (.iconst 1, 1) := dX12_undo_19g.2.2.2.2.1
theorem dX12_undo_28 : decode cX12_undo 28 = .ok (.isub, 1) := dX12_undo_19g.2.2.2.2.2.1
theorem dX12_undo_29 : decode cX12_undo 29 = .ok (.iastore, 1) := dX12_undo_19g.2.2.2.2.2.2.1
theorem dX12_undo_30 : decode cX12_undo 30 = .ok (.aload_n 0, 1) := dX12_undo_19g.2.2.2.2.2.2.2.1
theorem dX12_undo_31 : decode cX12_undo 31 = .ok (.aload_n 0, 1) := dX12_undo_19g.2.2.2.2.2.2.2.2.1
theorem dX12_undo_32 : decode cX12_undo 32 = .ok (.getfield 20, 3) := dX12_undo_19g.2.2.2.2.2.2.2.2.2
theorem dX12_undo_35g : (decode cX12_undo 35 = .ok (.sipush 311, 3)) ∧ (decode cX12_undo 38 = .ok (.iaload, 1)) ∧ (decode cX12_undo 39 = .ok (.invokevirtual 111, 3)) ∧ (decode cX12_undo 42 = .ok (.ireturn, 1)) := by decide +kernel
theorem dX12_undo_35 : decode cX12_undo 35 = .ok (.sipush 311, 3) := dX12_undo_35g.1
theorem dX12_undo_38 : decode cX12_undo 38 = .ok (.iaload, 1) := dX12_undo_35g.2.1
theorem dX12_undo_39 : decode cX12_undo 39 = .ok (.invokevirtual 111, 3) := dX12_undo_35g.2.2.1
theorem dX12_undo_42 : decode cX12_undo 42 = .ok (.ireturn, 1) := dX12_undo_35g.2.2.2
set_option maxHeartbeats 4000000 in
set_option maxRecDepth 100000 in
theorem c_X12_undo (l : Launch) (E : Nat → Nat) (D : va_G) (G : th_G) (h0 : Nat) (hG0 : G h0 = some (10, 0)) : Met l yX12_undo (tb (.code yX12_undo cX12_undo 1 (some .int))) (rm 1) (va_Pc [.ref h0] (PX E D G (fun H => True))) (QXi E D G (fun r H => True)) 0 0 (th_A G) := by
  refine Met.ofW (cc := cX12_undo) (maxL := 1) (ret := (some .int)) (by decide) rfl ?_
  intro p e s m args below meth c s₁ B hml hv
  obtain ⟨hav, ⟨hI, hN, hK⟩, hX⟩ := hv
  have hx := B.exec
  have hb := B.bytes
  have hr := B.returns
  have hts := atoms_spec (ws := tb (.code yX12_undo cX12_undo 1 (some .int))) B.pre
  have hown : s.vm.findClass RX12 = some m.cls := findClass_of_methodNamed B.named
  have hlocks := B.notSynchronized
  have hS : va_S (th_A G) s.heap s.heap [] := va_S.rf
  have hl := lv_entry ([.ref h0]) (n := 1) (Nat.le_of_ble_eq_true rfl)
  rw [show entryFrame m args 1 = entryFrame m ([.ref h0] : List Value).toArray 1 from by rw [hav], lg_entry_eq]
  generalize (lg_sl ([.ref h0]) ++ List.replicate (1 - (lg_sl ([.ref h0])).length) Slot.unset).toArray = ls at hl ⊢
  have hl : lv_has ls 1 [(0, .ref h0)] := hl
  generalize hR : (headSpec (tb (.code yX12_undo cX12_undo 1 (some .int))) (rm 1)).room = R
  have hR := hR.symm
  generalize hQ : MQ below (QXi E D G (fun r H => True)) args s 0 0 (th_A G) = QF
  have hQ := hQ.symm
  refine lv_aload_n hx hb dX12_undo_0 rfl (lv_at hl 0 rfl) ?_
  refine gmA hx hb hts inT12 hown hK hI List.not_mem_nil hG0 3 (by decide) (hts _ (tb_c wd_1236)) rfl rfl dX12_undo_1 (fun a1 hq2 hf3 => ?_)
  refine lv_sipush (v := 311) hx hb dX12_undo_4 (by decide) ?_
  obtain ⟨F4, hA5, hP6⟩ := om_1 hI hq2 List.not_mem_nil
  refine th_iald hx hb hK hA5 0 rfl (iv_in (X := (311)) (by decide) (by omega) (by omega)) dX12_undo_7 (fun v7 e8 => ?_)
  have k9 := kg_m311 (kOk.get (i := 311) hP6 e8 (X := (311)) (by decide) (by omega) (by omega)) (by omega) (by omega) (by omega)
  refine lv_if_ne (tgt := 18) hx hb dX12_undo_8 (by decide) (fun c10 => ?_) (fun c10 => ?_)
  · skip
    have k11 := iv_ne (X := v7.toInt) (Y := (0)) rfl (by decide) c10
    refine lv_aload_n hx hb dX12_undo_18 rfl (lv_at hl 0 rfl) ?_
    refine gmA hx hb hts inT12 hown hK hI List.not_mem_nil hG0 3 (by decide) (hts _ (tb_c wd_1236)) rfl rfl dX12_undo_19 (fun a12 hq13 hf14 => ?_)
    obtain rfl := fr.uniq (by decide) hf3 hf14
    refine lv_sipush (v := 311) hx hb dX12_undo_22 (by decide) ?_
    refine lv_dup2_11 hx hb dX12_undo_25 rfl rfl ?_
    refine th_iald hx hb hK hA5 0 rfl (iv_in (X := (311)) (by decide) (by omega) (by omega)) dX12_undo_26 (fun v15 e16 => ?_)
    obtain rfl := (rd_same (i := 311) (j := 311) e8 e16 (X := (311)) (Y := (311)) (by decide) (by decide) (by omega)).symm
    refine lv_iconst (v := 1) hx hb dX12_undo_27 (by decide) ?_
    refine lv_isub hx hb dX12_undo_28 ?_
    refine lv_topi (fun v17 e18 => ?_)
    have tv17 : v17.toInt = v7.toInt - (1) := iv_sub rfl (by decide) e18 (by omega) (by omega)
    refine th_iast hx hb hK hA5 0 rfl hS ⟨_, hq2⟩ (iv_in (X := (311)) (by decide) (by omega) (by omega)) dX12_undo_29 (fun H locs hA19 oq hS => ?_)
    have hP20 := kOk.set (i := 311) (v := v17) hP6 (X := (311)) (V := v17.toInt) (by decide) rfl (by omega) (by omega) (ks_m311 (by omega) (by omega) (by omega) ⟨by omega, by omega⟩)
    have hI := th_I.put hI hq2 hA19 (ok_m1 hP20) oq
    have hf3 := fr.arr hG0 hq2 (by decide) oq hf3
    have e21 : v17 = (upd F4 (311 : Int32).toNatClampNeg v17) (311 : Int32).toNatClampNeg := rd_us
    refine lv_aload_n hx hb dX12_undo_30 rfl (lv_at hl 0 rfl) ?_
    refine lv_aload_n hx hb dX12_undo_31 rfl (lv_at hl 0 rfl) ?_
    refine gmA hx hb hts inT12 hown hK hI List.not_mem_nil hG0 3 (by decide) (hts _ (tb_c wd_1236)) rfl rfl dX12_undo_32 (fun a22 hq23 hf24 => ?_)
    obtain rfl := fr.uniq (by decide) hf3 hf24
    refine lv_sipush (v := 311) hx hb dX12_undo_35 (by decide) ?_
    refine th_iald hx hb hK hA19 0 rfl (iv_in (X := (311)) (by decide) (by omega) (by omega)) dX12_undo_38 (fun v25 e26 => ?_)
    obtain rfl := (rd_same (i := 311) (j := 311) e21 e26 (X := (311)) (Y := (311)) (by decide) (by decide) (by omega)).symm
    refine mx_i (As := [.int v17]) (rest := []) (n := 1) (d := 0) ⟨hx, hb, hml, hown, hts⟩ (c_X12_good l E D G h0 hG0 v17) wd_1402 wd_1404 wp_41 wd_13 wd_1405 (by decide +kernel) ⟨by rw [hR]; exact Nat.le_of_ble_eq_true rfl, by rw [hR]; exact Nat.le_of_ble_eq_true rfl⟩ hI hN hK hS hG0 (trivial) rfl hl.1 rfl (Nat.le_of_ble_eq_true rfl) dX12_undo_39 ⟨Nat.zero_le _, Nat.zero_le _⟩ (fun r27 H locs hI hp hS => ?_)
    obtain rfl := hp.symm
    have hpost : True := trivial
    rw [hQ]
    exact W.iret (v := v17) hx hb hr (fun t ht hW => ⟨⟨v17, v17, rfl, rfl, ⟨by rw [ht]; exact hI, hN.warm hW, va_K.moved hW.alike hK⟩, by first | (rw [ht]; exact hpost) | exact hpost⟩, hS.F ht⟩) hS.2.2 dX12_undo_42
  · skip
    have k28 := iv_eq (X := v7.toInt) (Y := (0)) rfl (by decide) c10
    refine lv_aload_n hx hb dX12_undo_11 rfl (lv_at hl 0 rfl) ?_
    refine lv_bipush (v := (-3)) hx hb dX12_undo_12 (by decide) ?_
    refine mx_i (As := [.int (-3)]) (rest := []) (n := 1) (d := 0) ⟨hx, hb, hml, hown, hts⟩ (c_X12_refuses l E D G h0 hG0 (-3) ⟨by decide, by decide⟩) wd_1398 wd_1400 wp_40 wd_13 wd_1401 (by decide +kernel) ⟨by rw [hR]; exact Nat.le_of_ble_eq_true rfl, by rw [hR]; exact Nat.le_of_ble_eq_true rfl⟩ hI hN hK hS hG0 (trivial) rfl hl.1 rfl (Nat.le_of_ble_eq_true rfl) dX12_undo_14 ⟨Nat.zero_le _, Nat.zero_le _⟩ (fun r29 H locs hI hp hS => ?_)
    obtain rfl := hp.symm
    have hpost : True := trivial
    rw [hQ]
    exact W.iret (v := (-3)) hx hb hr (fun t ht hW => ⟨⟨(-3), (-3), rfl, rfl, ⟨by rw [ht]; exact hI, hN.warm hW, va_K.moved hW.alike hK⟩, by first | (rw [ht]; exact hpost) | exact hpost⟩, hS.F ht⟩) hS.2.2 dX12_undo_17
theorem dX12_dyeOf_0g : (decode cX12_dyeOf 0 = .ok (.iconst 0, 1)) ∧ (decode cX12_dyeOf 1 = .ok (.istore 4, 2)) ∧ (decode cX12_dyeOf 3 = .ok (.iconst 0, 1)) ∧ (decode cX12_dyeOf 4 = .ok (.istore 5, 2)) ∧ (decode cX12_dyeOf 6 = .ok (.iload 5, 2)) ∧ (decode cX12_dyeOf 8 = .ok (.aload_n 0, 1)) ∧ (decode cX12_dyeOf 9 = .ok (.getfield 20, 3)) ∧ (decode cX12_dyeOf 12 = .ok (.sipush 311, 3)) ∧ (decode cX12_dyeOf 15 = .ok (.iaload, 1)) ∧ (decode cX12_dyeOf 16 = .ok (.if_icmp .ge 84, 3)) := by decide +kernel
theorem dX12_dyeOf_0 : decode cX12_dyeOf 0 = .ok (.iconst 0, 1) := dX12_dyeOf_0g.1
theorem dX12_dyeOf_1 : decode cX12_dyeOf 1 = .ok (.istore 4, 2) := dX12_dyeOf_0g.2.1
theorem dX12_dyeOf_3 : decode cX12_dyeOf 3 = .ok (.iconst 0, 1) := dX12_dyeOf_0g.2.2.1
theorem dX12_dyeOf_4 : decode cX12_dyeOf 4 = .ok (.istore 5, 2) := dX12_dyeOf_0g.2.2.2.1
theorem dX12_dyeOf_6 : decode cX12_dyeOf 6 = .ok (.iload 5, 2) := dX12_dyeOf_0g.2.2.2.2.1
theorem dX12_dyeOf_8 : decode cX12_dyeOf 8 = .ok (.aload_n 0, 1) := dX12_dyeOf_0g.2.2.2.2.2.1
theorem dX12_dyeOf_9 : decode cX12_dyeOf 9 = .ok (.getfield 20, 3) := dX12_dyeOf_0g.2.2.2.2.2.2.1
theorem dX12_dyeOf_12 : decode cX12_dyeOf 12 = .ok (.sipush 311, 3) := dX12_dyeOf_0g.2.2.2.2.2.2.2.1
theorem dX12_dyeOf_15 : decode cX12_dyeOf 15 = .ok (.iaload, 1) := dX12_dyeOf_0g.2.2.2.2.2.2.2.2.1
theorem dX12_dyeOf_16 : decode cX12_dyeOf 16 = .ok (.if_icmp .ge 84, 3) := dX12_dyeOf_0g.2.2.2.2.2.2.2.2.2
theorem dX12_dyeOf_19g : (decode cX12_dyeOf 19 = .ok (.sipush 160, 3)) ∧ (decode cX12_dyeOf 22 = .ok (.iconst 4, 1)) ∧ (decode cX12_dyeOf 23 = .ok (.iload 5, 2)) ∧ (decode cX12_dyeOf 25 = .ok (.imul, 1)) ∧ (decode cX12_dyeOf 26 = .ok (.iadd, 1)) ∧ (decode cX12_dyeOf 27 = .ok (.istore 6, 2)) ∧ (decode cX12_dyeOf 29 = .ok (.aload_n 0, 1)) ∧ (decode cX12_dyeOf 30 = .ok (.getfield 20, 3)) ∧ (decode cX12_dyeOf 33 = .ok (.iload 6, 2)) ∧ (decode cX12_dyeOf 35 = .ok (.iconst 2, 1)) := by decide +kernel
theorem dX12_dyeOf_19 : decode cX12_dyeOf 19 = .ok (.sipush 160, 3) := dX12_dyeOf_19g.1
theorem dX12_dyeOf_22 : decode cX12_dyeOf 22 = .ok (.iconst 4, 1) := dX12_dyeOf_19g.2.1
theorem dX12_dyeOf_23 : decode cX12_dyeOf 23 = .ok (.iload 5, 2) := dX12_dyeOf_19g.2.2.1
theorem dX12_dyeOf_25 : decode cX12_dyeOf 25 = .ok (.imul, 1) := dX12_dyeOf_19g.2.2.2.1
theorem dX12_dyeOf_26 : decode cX12_dyeOf 26 = .ok (.iadd, 1) := dX12_dyeOf_19g.2.2.2.2.1
theorem dX12_dyeOf_27 : decode cX12_dyeOf 27 = .ok (.istore 6, 2) := dX12_dyeOf_19g.2.2.2.2.2.1
theorem dX12_dyeOf_29 : decode cX12_dyeOf 29 = .ok (.aload_n 0, 1) := dX12_dyeOf_19g.2.2.2.2.2.2.1
theorem dX12_dyeOf_30 : decode cX12_dyeOf 30 = .ok (.getfield 20, 3) := dX12_dyeOf_19g.2.2.2.2.2.2.2.1
theorem dX12_dyeOf_33 : decode cX12_dyeOf 33 = .ok (.iload 6, 2) := dX12_dyeOf_19g.2.2.2.2.2.2.2.2.1
theorem dX12_dyeOf_35 : decode cX12_dyeOf 35 = .ok (.iconst 2, 1) := dX12_dyeOf_19g.2.2.2.2.2.2.2.2.2
theorem dX12_dyeOf_36g : (decode cX12_dyeOf 36 = .ok (.iadd, 1)) ∧ (decode cX12_dyeOf 37 = .ok (.iaload, 1)) ∧ (decode cX12_dyeOf 38 = .ok (.iload_n 3, 1)) ∧ (decode cX12_dyeOf 39 = .ok (.if_icmp .ne 55, 3)) ∧ (decode cX12_dyeOf 42 = .ok (.aload_n 0, 1)) ∧ (decode cX12_dyeOf 43 = .ok (.getfield 20, 3)) ∧ (decode cX12_dyeOf 46 = .ok (.iload 6, 2)) ∧ (decode cX12_dyeOf 48 = .ok (.iconst 1, 1)) ∧ (decode cX12_dyeOf 49 = .ok (.iadd, 1)) ∧ (decode cX12_dyeOf 50 = .ok (.iaload, 1)) := by decide +kernel
theorem dX12_dyeOf_36 : decode cX12_dyeOf 36 = .ok (.iadd, 1) := dX12_dyeOf_36g.1
theorem dX12_dyeOf_37 : decode cX12_dyeOf 37 = .ok (.iaload, 1) := dX12_dyeOf_36g.2.1
theorem dX12_dyeOf_38 : decode cX12_dyeOf 38 = .ok (.iload_n 3, 1) := dX12_dyeOf_36g.2.2.1
theorem dX12_dyeOf_39 : decode cX12_dyeOf 39 = .ok (.if_icmp .ne 55, 3) := dX12_dyeOf_36g.2.2.2.1
theorem dX12_dyeOf_42 : decode cX12_dyeOf 42 = .ok (.aload_n 0, 1) := dX12_dyeOf_36g.2.2.2.2.1
theorem dX12_dyeOf_43 : decode cX12_dyeOf 43 = .ok (.getfield 20, 3) := dX12_dyeOf_36g.2.2.2.2.2.1
theorem dX12_dyeOf_46 : decode cX12_dyeOf 46 = .ok (.iload 6, 2) := dX12_dyeOf_36g.2.2.2.2.2.2.1
theorem dX12_dyeOf_48 : decode cX12_dyeOf 48 = .ok (.iconst 1, 1) := dX12_dyeOf_36g.2.2.2.2.2.2.2.1
theorem dX12_dyeOf_49 : decode cX12_dyeOf 49 = .ok (.iadd, 1) := dX12_dyeOf_36g.2.2.2.2.2.2.2.2.1
theorem dX12_dyeOf_50 : decode cX12_dyeOf 50 = .ok (.iaload, 1) := dX12_dyeOf_36g.2.2.2.2.2.2.2.2.2
theorem dX12_dyeOf_51g : (decode cX12_dyeOf 51 = .ok (.iload_n 2, 1)) ∧ (decode cX12_dyeOf 52 = .ok (.if_icmp .gt 42, 3)) ∧ (decode cX12_dyeOf 55 = .ok (.aload_n 0, 1)) ∧ (decode cX12_dyeOf 56 = .ok (.aload_n 0, 1)) ∧ (decode cX12_dyeOf 57 = .ok (.getfield 20, 3)) ∧ (decode cX12_dyeOf 60 = .ok (.iload 6, 2)) ∧ (decode cX12_dyeOf 62 = .ok (.iaload, 1)) ∧ (decode cX12_dyeOf 63 = .ok (.aload_n 0, 1)) ∧ (decode cX12_dyeOf 64 = .ok (.getfield 20, 3)) ∧ (decode cX12_dyeOf 67 = .ok (.iload 6, 2)) := by decide +kernel
theorem dX12_dyeOf_51 : decode cX12_dyeOf 51 = .ok (.iload_n 2, 1) := dX12_dyeOf_51g.1
theorem dX12_dyeOf_52 : decode cX12_dyeOf 52 = .ok (.if_icmp .gt 42, 3) := dX12_dyeOf_51g.2.1
theorem dX12_dyeOf_55 : decode cX12_dyeOf 55 = .ok (.aload_n 0, 1) := dX12_dyeOf_51g.2.2.1
theorem dX12_dyeOf_56 : decode cX12_dyeOf 56 = .ok (.aload_n 0, 1) := dX12_dyeOf_51g.2.2.2.1
theorem dX12_dyeOf_57 : decode cX12_dyeOf 57 = .ok (.getfield 20, 3) := dX12_dyeOf_51g.2.2.2.2.1
theorem dX12_dyeOf_60 : decode cX12_dyeOf 60 = .ok (.iload 6, 2) := dX12_dyeOf_51g.2.2.2.2.2.1
theorem dX12_dyeOf_62 : decode cX12_dyeOf 62 = .ok (.iaload, 1) := dX12_dyeOf_51g.2.2.2.2.2.2.1
theorem dX12_dyeOf_63 : decode cX12_dyeOf 63 = .ok (.aload_n 0, 1) := dX12_dyeOf_51g.2.2.2.2.2.2.2.1
theorem dX12_dyeOf_64 : decode cX12_dyeOf 64 = .ok (.getfield 20, 3) := dX12_dyeOf_51g.2.2.2.2.2.2.2.2.1
theorem dX12_dyeOf_67 : decode cX12_dyeOf 67 = .ok (.iload 6, 2) := dX12_dyeOf_51g.2.2.2.2.2.2.2.2.2
theorem dX12_dyeOf_69g : (decode cX12_dyeOf 69 = .ok (.iconst 1, 1)) ∧ (decode cX12_dyeOf 70 = .ok (.iadd, 1)) ∧ (decode cX12_dyeOf 71 = .ok (.iaload, 1)) ∧ (decode cX12_dyeOf 72 = .ok (.iload_n 2, 1)) ∧ (decode cX12_dyeOf 73 = .ok (.invokevirtual 301, 3)) ∧ (decode cX12_dyeOf 76 = .ok (.iload_n 1, 1)) ∧ (decode cX12_dyeOf 77 = .ok (.if_icmp .ne 17, 3)) ∧ (decode cX12_dyeOf 80 = .ok (.iload 4, 2)) ∧ (decode cX12_dyeOf 82 = .ok (.aload_n 0, 1)) ∧ (decode cX12_dyeOf 83 = .ok (.getfield 20, 3)) := by decide +kernel
theorem dX12_dyeOf_69 : decode cX12_dyeOf 69 = .ok (.iconst 1, 1) := dX12_dyeOf_69g.1
theorem dX12_dyeOf_70 : decode cX12_dyeOf 70 = .ok (.iadd, 1) := dX12_dyeOf_69g.2.1
theorem dX12_dyeOf_71 : decode cX12_dyeOf 71 = .ok (.iaload, 1) := dX12_dyeOf_69g.2.2.1
theorem dX12_dyeOf_72 : decode cX12_dyeOf 72 = .ok (.iload_n 2, 1) := dX12_dyeOf_69g.2.2.2.1
theorem dX12_dyeOf_73 : decode cX12_dyeOf 73 = .ok (.invokevirtual 301, 3) := dX12_dyeOf_69g.2.2.2.2.1
theorem dX12_dyeOf_76 : decode cX12_dyeOf 76 = .ok (.iload_n 1, 1) := dX12_dyeOf_69g.2.2.2.2.2.1
theorem dX12_dyeOf_77 : decode cX12_dyeOf 77 = .ok (.if_icmp .ne 17, 3) := dX12_dyeOf_69g.2.2.2.2.2.2.1
theorem dX12_dyeOf_80 : decode cX12_dyeOf 80 = .ok (.iload 4, 2) := dX12_dyeOf_69g.2.2.2.2.2.2.2.1
theorem dX12_dyeOf_82 : decode cX12_dyeOf 82 = .ok (.aload_n 0, 1) := dX12_dyeOf_69g.2.2.2.2.2.2.2.2.1
theorem dX12_dyeOf_83 : decode cX12_dyeOf 83 = .ok (.getfield 20, 3) := dX12_dyeOf_69g.2.2.2.2.2.2.2.2.2
theorem dX12_dyeOf_86g : (decode cX12_dyeOf 86 = .ok (.iload 6, 2)) ∧ (decode cX12_dyeOf 88 = .ok (.iconst 3, 1)) ∧ (decode cX12_dyeOf 89 = .ok (.iadd, 1)) ∧ (decode cX12_dyeOf 90 = .ok (.iaload, 1)) ∧ (decode cX12_dyeOf 91 = .ok (.iadd, 1)) ∧ (decode cX12_dyeOf 92 = .ok (.istore 4, 2)) ∧ (decode cX12_dyeOf 94 = .ok (.iinc 5 1, 3)) ∧ (decode cX12_dyeOf 97 = .ok (.goto (-91), 3)) ∧ (decode cX12_dyeOf 100 = .ok (.iload 4, 2)) ∧ (decode cX12_dyeOf 102 = .ok (.ireturn, 1)) := by decide +kernel
theorem dX12_dyeOf_86 : decode cX12_dyeOf 86 = .ok (.iload 6, 2) := dX12_dyeOf_86g.1
theorem dX12_dyeOf_88 : decode cX12_dyeOf 88 = .ok (.iconst 3, 1) := dX12_dyeOf_86g.2.1
theorem dX12_dyeOf_89 : decode cX12_dyeOf 89 = .ok (.iadd, 1) := dX12_dyeOf_86g.2.2.1
theorem dX12_dyeOf_90 : decode cX12_dyeOf 90 = .ok (.iaload, 1) := dX12_dyeOf_86g.2.2.2.1
theorem dX12_dyeOf_91 : decode cX12_dyeOf 91 = .ok (.iadd, 1) := dX12_dyeOf_86g.2.2.2.2.1
theorem dX12_dyeOf_92 : decode cX12_dyeOf 92 = .ok (.istore 4, 2) := dX12_dyeOf_86g.2.2.2.2.2.1
theorem dX12_dyeOf_94 : decode cX12_dyeOf 94 = .ok (.iinc 5 1, 3) := dX12_dyeOf_86g.2.2.2.2.2.2.1
theorem dX12_dyeOf_97 : decode cX12_dyeOf 97 = .ok (.goto (-91), 3) := dX12_dyeOf_86g.2.2.2.2.2.2.2.1
theorem dX12_dyeOf_100 : decode cX12_dyeOf 100 = .ok (.iload 4, 2) := dX12_dyeOf_86g.2.2.2.2.2.2.2.2.1
theorem dX12_dyeOf_102 : decode cX12_dyeOf 102 = .ok (.ireturn, 1) := dX12_dyeOf_86g.2.2.2.2.2.2.2.2.2
set_option maxHeartbeats 4000000 in
set_option maxRecDepth 100000 in
theorem c_X12_dyeOf (l : Launch) (E : Nat → Nat) (D : va_G) (G : th_G) (H0 : Heap) (h0 : Nat) (hG0 : G h0 = some (10, 0)) (x1 : Int32) (x2 : Int32) (x3 : Int32) (hx2 : x2.toInt ≤ 96) : Met l yX12_dyeOf (tb (.code yX12_dyeOf cX12_dyeOf 7 (some .int))) (rm 1) (va_Pc [.ref h0, .int x1, .int x2, .int x3] (PR E D G H0)) (QS H0 (fun r => True)) 0 0 (fun _ => False) := by
  refine Met.ofW (cc := cX12_dyeOf) (maxL := 7) (ret := (some .int)) (by decide) rfl ?_
  intro p e s m args below meth c s₁ B hml hv
  obtain ⟨hav, rfl, hI, hN, hK⟩ := hv
  have hx := B.exec
  have hb := B.bytes
  have hr := B.returns
  have hts := atoms_spec (ws := tb (.code yX12_dyeOf cX12_dyeOf 7 (some .int))) B.pre
  have hown : s.vm.findClass RX12 = some m.cls := findClass_of_methodNamed B.named
  have hlocks := B.notSynchronized
  have hS : va_S (fun _ => False) s.heap s.heap [] := va_S.rf
  have hl := lv_entry ([.ref h0, .int x1, .int x2, .int x3]) (n := 7) (Nat.le_of_ble_eq_true rfl)
  rw [show entryFrame m args 7 = entryFrame m ([.ref h0, .int x1, .int x2, .int x3] : List Value).toArray 7 from by rw [hav], lg_entry_eq]
  generalize (lg_sl ([.ref h0, .int x1, .int x2, .int x3]) ++ List.replicate (7 - (lg_sl ([.ref h0, .int x1, .int x2, .int x3])).length) Slot.unset).toArray = ls at hl ⊢
  have hl : lv_has ls 7 [(0, .ref h0), (1, .int x1), (2, .int x2), (3, .int x3)] := hl
  generalize hR : (headSpec (tb (.code yX12_dyeOf cX12_dyeOf 7 (some .int))) (rm 1)).room = R
  have hR := hR.symm
  generalize hQ : MQ below (QS s.heap (fun r => True)) args s 0 0 (fun _ => False) = QF
  have hQ := hQ.symm
  obtain ⟨q_3, hq_3, hf_3⟩ := fr_of hI hG0 3 (by decide) (kd := (1, 5123)) rfl
  obtain ⟨F_3, hA_3, hP_3⟩ := om_1 hI hq_3 List.not_mem_nil
  have J_6 : ∀ (nn : Nat) (locs : List Loc) (ls : Array Slot) (v1423 : Int32) (v1424 : Int32) , (Int.toNat (16 - v1423.toInt) = nn) → lv_has ls 7 [(5, .int v1423), (4, .int v1424), (0, .ref h0), (1, .int x1), (2, .int x2), (3, .int x3)] → ((0 : Int) ≤ v1423.toInt ∧ v1423.toInt ≤ 16) → (x2.toInt ≤ 96) → va_S (fun _ => False) s.heap s.heap locs → W p l e R s m args below meth c s.heap locs 0 0 QF (F0 m 6 ls []) := by
    intro nn
    induction nn using Nat.strongRecOn with
    | ind nn ih_6 =>
      intro locs ls v1423 v1424  hm hl k1425 k1426 hS
      refine lv_iload hx hb dX12_dyeOf_6 (lv_at hl 0 rfl) ?_
      refine lv_aload_n hx hb dX12_dyeOf_8 rfl (lv_at hl 2 rfl) ?_
      refine gmA hx hb hts inT12 hown hK hI List.not_mem_nil hG0 3 (by decide) (hts _ (tb_c wd_1236)) rfl rfl dX12_dyeOf_9 (fun a1427 hq1428 hf1429 => ?_)
      obtain rfl := fr.uniq (by decide) hf_3 hf1429
      refine lv_sipush (v := 311) hx hb dX12_dyeOf_12 (by decide) ?_
      refine th_iald hx hb hK hA_3 0 rfl (iv_in (X := (311)) (by decide) (by omega) (by omega)) dX12_dyeOf_15 (fun v1430 e1431 => ?_)
      have k1432 := kg_m311 (kOk.get (i := 311) hP_3 e1431 (X := (311)) (by decide) (by omega) (by omega)) (by omega) (by omega) (by omega)
      refine lv_icmp_ge (tgt := 100) hx hb dX12_dyeOf_16 (by decide) (fun c1433 => ?_) (fun c1433 => ?_)
      · skip
        have k1434 := iv_le (X := v1430.toInt) (Y := v1423.toInt) rfl rfl c1433
        refine lv_iload hx hb dX12_dyeOf_100 (lv_at hl 1 rfl) ?_
        have hpost : True := trivial
        rw [hQ]
        exact W.iret (v := v1424) hx hb hr (fun t ht hW => ⟨⟨v1424, (), rfl, hpost, ht⟩, hS.F ht⟩) hS.2.2 dX12_dyeOf_102
      · skip
        have k1435 := iv_nle (X := v1430.toInt) (Y := v1423.toInt) rfl rfl c1433
        refine lv_sipush (v := 160) hx hb dX12_dyeOf_19 (by decide) ?_
        refine lv_iconst (v := 4) hx hb dX12_dyeOf_22 (by decide) ?_
        refine lv_iload hx hb dX12_dyeOf_23 (lv_at hl 0 rfl) ?_
        refine lv_imul hx hb dX12_dyeOf_25 ?_
        refine lv_topi (fun v1436 e1437 => ?_)
        have tv1436 : v1436.toInt = (4) * v1423.toInt := iv_mul (by decide) rfl e1437 (by omega) (by omega)
        refine lv_iadd hx hb dX12_dyeOf_26 ?_
        refine lv_topi (fun v1438 e1439 => ?_)
        have tv1438 : v1438.toInt = (160) + v1436.toInt := iv_add (by decide) rfl e1439 (by omega) (by omega)
        refine lv_istore (lv' := [(6, .int v1438), (5, .int v1423), (4, .int v1424), (0, .ref h0), (1, .int x1), (2, .int x2), (3, .int x3)]) hx hb dX12_dyeOf_27 hl (by decide) rfl (fun ls hl => ?_)
        refine lv_aload_n hx hb dX12_dyeOf_29 rfl (lv_at hl 3 rfl) ?_
        refine gmA hx hb hts inT12 hown hK hI List.not_mem_nil hG0 3 (by decide) (hts _ (tb_c wd_1236)) rfl rfl dX12_dyeOf_30 (fun a1440 hq1441 hf1442 => ?_)
        obtain rfl := fr.uniq (by decide) hf_3 hf1442
        refine lv_iload hx hb dX12_dyeOf_33 (lv_at hl 0 rfl) ?_
        refine lv_iconst (v := 2) hx hb dX12_dyeOf_35 (by decide) ?_
        refine lv_iadd hx hb dX12_dyeOf_36 ?_
        refine lv_topi (fun v1443 e1444 => ?_)
        have tv1443 : v1443.toInt = v1438.toInt + (2) := iv_add rfl (by decide) e1444 (by omega) (by omega)
        refine th_iald hx hb hK hA_3 0 rfl (iv_in (X := v1443.toInt) rfl (by omega) (by omega)) dX12_dyeOf_37 (fun v1445 e1446 => ?_)
        refine lv_iload_n hx hb dX12_dyeOf_38 rfl (lv_at hl 6 rfl) ?_
        have k1447 := iv_lo v1445
        have k1448 := iv_hi v1445
        have k1449 := iv_lo x3
        have k1450 := iv_hi x3
        refine lv_icmp_ne (tgt := 94) hx hb dX12_dyeOf_39 (by decide) (fun c1451 => ?_) (fun c1451 => ?_)
        · skip
          have k1452 := iv_ne (X := v1445.toInt) (Y := x3.toInt) rfl rfl c1451
          obtain ⟨v1453, e1454⟩ : ∃ y : Int32, y = v1423 + (1) := ⟨_, rfl⟩
          have tv1453 : v1453.toInt = v1423.toInt + (1) := iv_add rfl (by decide) e1454 (by omega) (by omega)
          refine lv_iinc (v := v1453) (lv' := [(5, .int v1453), (6, .int v1438), (4, .int v1424), (0, .ref h0), (1, .int x1), (2, .int x2), (3, .int x3)]) hx hb dX12_dyeOf_94 hl (k := 1) rfl (by rw [e1454]; rfl) (by decide) rfl (fun ls hl => ?_)
          refine lv_goto (tgt := 6) hx hb dX12_dyeOf_97 (by decide) ?_
          exact ih_6 _ (by omega) locs ls v1453 v1424  rfl (lv_sub hl [0, 2, 3, 4, 5, 6] rfl) ⟨by omega, by omega⟩ (by omega) hS
        · skip
          have k1455 := iv_eq (X := v1445.toInt) (Y := x3.toInt) rfl rfl c1451
          refine lv_aload_n hx hb dX12_dyeOf_42 rfl (lv_at hl 3 rfl) ?_
          refine gmA hx hb hts inT12 hown hK hI List.not_mem_nil hG0 3 (by decide) (hts _ (tb_c wd_1236)) rfl rfl dX12_dyeOf_43 (fun a1456 hq1457 hf1458 => ?_)
          obtain rfl := fr.uniq (by decide) hf_3 hf1458
          refine lv_iload hx hb dX12_dyeOf_46 (lv_at hl 0 rfl) ?_
          refine lv_iconst (v := 1) hx hb dX12_dyeOf_48 (by decide) ?_
          refine lv_iadd hx hb dX12_dyeOf_49 ?_
          refine lv_topi (fun v1459 e1460 => ?_)
          have tv1459 : v1459.toInt = v1438.toInt + (1) := iv_add rfl (by decide) e1460 (by omega) (by omega)
          refine th_iald hx hb hK hA_3 0 rfl (iv_in (X := v1459.toInt) rfl (by omega) (by omega)) dX12_dyeOf_50 (fun v1461 e1462 => ?_)
          have k1463 := kg_pour1 (kOk.get (i := v1459) hP_3 e1462 (X := v1459.toInt) rfl (by omega) (by omega)) (by omega) (by omega) (by omega)
          refine lv_iload_n hx hb dX12_dyeOf_51 rfl (lv_at hl 5 rfl) ?_
          have k1464 := iv_lo x2
          have k1465 := iv_hi x2
          refine lv_icmp_gt (tgt := 94) hx hb dX12_dyeOf_52 (by decide) (fun c1466 => ?_) (fun c1466 => ?_)
          · skip
            have k1467 := iv_lt (X := x2.toInt) (Y := v1461.toInt) rfl rfl c1466
            obtain ⟨v1468, e1469⟩ : ∃ y : Int32, y = v1423 + (1) := ⟨_, rfl⟩
            have tv1468 : v1468.toInt = v1423.toInt + (1) := iv_add rfl (by decide) e1469 (by omega) (by omega)
            refine lv_iinc (v := v1468) (lv' := [(5, .int v1468), (6, .int v1438), (4, .int v1424), (0, .ref h0), (1, .int x1), (2, .int x2), (3, .int x3)]) hx hb dX12_dyeOf_94 hl (k := 1) rfl (by rw [e1469]; rfl) (by decide) rfl (fun ls hl => ?_)
            refine lv_goto (tgt := 6) hx hb dX12_dyeOf_97 (by decide) ?_
            exact ih_6 _ (by omega) locs ls v1468 v1424  rfl (lv_sub hl [0, 2, 3, 4, 5, 6] rfl) ⟨by omega, by omega⟩ (by omega) hS
          · skip
            have k1470 := iv_nlt (X := x2.toInt) (Y := v1461.toInt) rfl rfl c1466
            refine lv_aload_n hx hb dX12_dyeOf_55 rfl (lv_at hl 3 rfl) ?_
            refine lv_aload_n hx hb dX12_dyeOf_56 rfl (lv_at hl 3 rfl) ?_
            refine gmA hx hb hts inT12 hown hK hI List.not_mem_nil hG0 3 (by decide) (hts _ (tb_c wd_1236)) rfl rfl dX12_dyeOf_57 (fun a1471 hq1472 hf1473 => ?_)
            obtain rfl := fr.uniq (by decide) hf_3 hf1473
            refine lv_iload hx hb dX12_dyeOf_60 (lv_at hl 0 rfl) ?_
            refine th_iald hx hb hK hA_3 0 rfl (iv_in (X := v1438.toInt) rfl (by omega) (by omega)) dX12_dyeOf_62 (fun v1474 e1475 => ?_)
            have k1476 := kg_pour0 (kOk.get (i := v1438) hP_3 e1475 (X := v1438.toInt) rfl (by omega) (by omega)) (by omega) (by omega) (by omega)
            refine lv_aload_n hx hb dX12_dyeOf_63 rfl (lv_at hl 3 rfl) ?_
            refine gmA hx hb hts inT12 hown hK hI List.not_mem_nil hG0 3 (by decide) (hts _ (tb_c wd_1236)) rfl rfl dX12_dyeOf_64 (fun a1477 hq1478 hf1479 => ?_)
            obtain rfl := fr.uniq (by decide) hf_3 hf1479
            refine lv_iload hx hb dX12_dyeOf_67 (lv_at hl 0 rfl) ?_
            refine lv_iconst (v := 1) hx hb dX12_dyeOf_69 (by decide) ?_
            refine lv_iadd hx hb dX12_dyeOf_70 ?_
            refine lv_topi (fun v1480 e1481 => ?_)
            have tv1480 : v1480.toInt = v1438.toInt + (1) := iv_add rfl (by decide) e1481 (by omega) (by omega)
            refine th_iald hx hb hK hA_3 0 rfl (iv_in (X := v1480.toInt) rfl (by omega) (by omega)) dX12_dyeOf_71 (fun v1482 e1483 => ?_)
            obtain rfl := (rd_same (i := v1459) (j := v1480) e1462 e1483 (X := v1459.toInt) (Y := v1480.toInt) rfl rfl (by omega)).symm
            refine lv_iload_n hx hb dX12_dyeOf_72 rfl (lv_at hl 5 rfl) ?_
            refine mr_i (As := [.int v1474, .int v1461, .int x2]) (rest := []) (n := 3) (d := 0) ⟨hx, hb, hml, hown, hts⟩ (c_X12_floats l E D G s.heap h0 hG0 v1474 v1461 x2 ⟨by omega, by omega⟩ (by omega) (by omega)) wd_1658 wd_1660 wp_77 wd_13 wd_1661 (by decide +kernel) ⟨by rw [hR]; exact Nat.le_of_ble_eq_true rfl, by rw [hR]; exact Nat.le_of_ble_eq_true rfl⟩ hI hN hK hS hG0 rfl hl.1 rfl (Nat.le_of_ble_eq_true rfl) dX12_dyeOf_73 ⟨Nat.zero_le _, Nat.zero_le _⟩ (fun r1484 locs hp hS => ?_)
            have hp1485 := hp
            refine lv_iload_n hx hb dX12_dyeOf_76 rfl (lv_at hl 4 rfl) ?_
            have k1486 := iv_lo x1
            have k1487 := iv_hi x1
            refine lv_icmp_ne (tgt := 94) hx hb dX12_dyeOf_77 (by decide) (fun c1488 => ?_) (fun c1488 => ?_)
            · skip
              have k1489 := iv_ne (X := r1484.toInt) (Y := x1.toInt) rfl rfl c1488
              obtain ⟨v1490, e1491⟩ : ∃ y : Int32, y = v1423 + (1) := ⟨_, rfl⟩
              have tv1490 : v1490.toInt = v1423.toInt + (1) := iv_add rfl (by decide) e1491 (by omega) (by omega)
              refine lv_iinc (v := v1490) (lv' := [(5, .int v1490), (6, .int v1438), (4, .int v1424), (0, .ref h0), (1, .int x1), (2, .int x2), (3, .int x3)]) hx hb dX12_dyeOf_94 hl (k := 1) rfl (by rw [e1491]; rfl) (by decide) rfl (fun ls hl => ?_)
              refine lv_goto (tgt := 6) hx hb dX12_dyeOf_97 (by decide) ?_
              exact ih_6 _ (by omega) locs ls v1490 v1424  rfl (lv_sub hl [0, 2, 3, 4, 5, 6] rfl) ⟨by omega, by omega⟩ (by omega) hS
            · skip
              have k1492 := iv_eq (X := r1484.toInt) (Y := x1.toInt) rfl rfl c1488
              refine lv_iload hx hb dX12_dyeOf_80 (lv_at hl 2 rfl) ?_
              refine lv_aload_n hx hb dX12_dyeOf_82 rfl (lv_at hl 3 rfl) ?_
              refine gmA hx hb hts inT12 hown hK hI List.not_mem_nil hG0 3 (by decide) (hts _ (tb_c wd_1236)) rfl rfl dX12_dyeOf_83 (fun a1493 hq1494 hf1495 => ?_)
              obtain rfl := fr.uniq (by decide) hf_3 hf1495
              refine lv_iload hx hb dX12_dyeOf_86 (lv_at hl 0 rfl) ?_
              refine lv_iconst (v := 3) hx hb dX12_dyeOf_88 (by decide) ?_
              refine lv_iadd hx hb dX12_dyeOf_89 ?_
              refine lv_topi (fun v1496 e1497 => ?_)
              have tv1496 : v1496.toInt = v1438.toInt + (3) := iv_add rfl (by decide) e1497 (by omega) (by omega)
              refine th_iald hx hb hK hA_3 0 rfl (iv_in (X := v1496.toInt) rfl (by omega) (by omega)) dX12_dyeOf_90 (fun v1498 e1499 => ?_)
              refine lv_iadd hx hb dX12_dyeOf_91 ?_
              refine lv_topi (fun v1500 e1501 => ?_)
              try have tv1500 : v1500.toInt = v1424.toInt + v1498.toInt := iv_add rfl rfl e1501 (by omega) (by omega)
              refine lv_istore (lv' := [(4, .int v1500), (6, .int v1438), (5, .int v1423), (0, .ref h0), (1, .int x1), (2, .int x2), (3, .int x3)]) hx hb dX12_dyeOf_92 hl (by decide) rfl (fun ls hl => ?_)
              obtain ⟨v1502, e1503⟩ : ∃ y : Int32, y = v1423 + (1) := ⟨_, rfl⟩
              have tv1502 : v1502.toInt = v1423.toInt + (1) := iv_add rfl (by decide) e1503 (by omega) (by omega)
              refine lv_iinc (v := v1502) (lv' := [(5, .int v1502), (4, .int v1500), (6, .int v1438), (0, .ref h0), (1, .int x1), (2, .int x2), (3, .int x3)]) hx hb dX12_dyeOf_94 hl (k := 2) rfl (by rw [e1503]; rfl) (by decide) rfl (fun ls hl => ?_)
              refine lv_goto (tgt := 6) hx hb dX12_dyeOf_97 (by decide) ?_
              exact ih_6 _ (by omega) locs ls v1502 v1500  rfl (lv_sub hl [0, 1, 3, 4, 5, 6] rfl) ⟨by omega, by omega⟩ (by omega) hS
  refine lv_iconst (v := 0) hx hb dX12_dyeOf_0 (by decide) ?_
  refine lv_istore (lv' := [(4, .int 0), (0, .ref h0), (1, .int x1), (2, .int x2), (3, .int x3)]) hx hb dX12_dyeOf_1 hl (by decide) rfl (fun ls hl => ?_)
  refine lv_iconst (v := 0) hx hb dX12_dyeOf_3 (by decide) ?_
  refine lv_istore (lv' := [(5, .int 0), (4, .int 0), (0, .ref h0), (1, .int x1), (2, .int x2), (3, .int x3)]) hx hb dX12_dyeOf_4 hl (by decide) rfl (fun ls hl => ?_)
  have zl : (0 : Int32).toInt = 0 := by decide
  exact J_6 _ [] ls 0 0  rfl (lv_sub hl [0, 1, 2, 3, 4, 5] rfl) ⟨by decide, by decide⟩ (by omega) hS
theorem dX12_dye_0g : (decode cX12_dye 0 = .ok (.iload_n 1, 1)) ∧ (decode cX12_dye 1 = .ok (.invokestatic 304, 3)) ∧ (decode cX12_dye 4 = .ok (.ifCond .eq 17, 3)) ∧ (decode cX12_dye 7 = .ok (.iload_n 2, 1)) ∧ (decode cX12_dye 8 = .ok (.invokestatic 298, 3)) ∧ (decode cX12_dye 11 = .ok (.ifCond .eq 10, 3)) ∧ (decode cX12_dye 14 = .ok (.iload_n 3, 1)) ∧ (decode cX12_dye 15 = .ok (.invokestatic 129, 3)) ∧ (decode cX12_dye 18 = .ok (.ifCond .ne 5, 3)) ∧ (decode cX12_dye 21 = .ok (.iconst (-1), 1)) := by decide +kernel
theorem dX12_dye_0 : decode cX12_dye 0 = .ok (.iload_n 1, 1) := dX12_dye_0g.1
theorem dX12_dye_1 : decode cX12_dye 1 = .ok (.invokestatic 304, 3) := dX12_dye_0g.2.1
theorem dX12_dye_4 : decode cX12_dye 4 = .ok (.ifCond .eq 17, 3) := dX12_dye_0g.2.2.1
theorem dX12_dye_7 : decode cX12_dye 7 = .ok (.iload_n 2, 1) := dX12_dye_0g.2.2.2.1
theorem dX12_dye_8 : decode cX12_dye 8 = .ok (.invokestatic 298, 3) := dX12_dye_0g.2.2.2.2.1
theorem dX12_dye_11 : decode cX12_dye 11 = .ok (.ifCond .eq 10, 3) := dX12_dye_0g.2.2.2.2.2.1
theorem dX12_dye_14 : decode cX12_dye 14 = .ok (.iload_n 3, 1) := dX12_dye_0g.2.2.2.2.2.2.1
theorem dX12_dye_15 : decode cX12_dye 15 = .ok (.invokestatic 129, 3) := dX12_dye_0g.2.2.2.2.2.2.2.1
theorem dX12_dye_18 : decode cX12_dye 18 = .ok (.ifCond .ne 5, 3) := dX12_dye_0g.2.2.2.2.2.2.2.2.1
theorem dX12_dye_21 : decode cX12_dye 21 = .ok (.iconst (-1), 1) := dX12_dye_0g.2.2.2.2.2.2.2.2.2
theorem dX12_dye_22g : (decode cX12_dye 22 = .ok (.ireturn, 1)) ∧ (decode cX12_dye 23 = .ok (.aload_n 0, 1)) ∧ (decode cX12_dye 24 = .ok (.invokevirtual 138, 3)) ∧ (decode cX12_dye 27 = .ok (.aload_n 0, 1)) ∧ (decode cX12_dye 28 = .ok (.iload_n 1, 1)) ∧ (decode cX12_dye 29 = .ok (.iload_n 2, 1)) ∧ (decode cX12_dye 30 = .ok (.iload_n 3, 1)) ∧ (decode cX12_dye 31 = .ok (.invokevirtual 322, 3)) ∧ (decode cX12_dye 34 = .ok (.ireturn, 1)) := by decide +kernel
theorem dX12_dye_22 : decode cX12_dye 22 = .ok (.ireturn, 1) := dX12_dye_22g.1
theorem dX12_dye_23 : decode cX12_dye 23 = .ok (.aload_n 0, 1) := dX12_dye_22g.2.1
theorem dX12_dye_24 : decode cX12_dye 24 = .ok (.invokevirtual 138, 3) := dX12_dye_22g.2.2.1
theorem dX12_dye_27 : decode cX12_dye 27 = .ok (.aload_n 0, 1) := dX12_dye_22g.2.2.2.1
theorem dX12_dye_28 : decode cX12_dye 28 = .ok (.iload_n 1, 1) := dX12_dye_22g.2.2.2.2.1
theorem dX12_dye_29 : decode cX12_dye 29 = .ok (.iload_n 2, 1) := dX12_dye_22g.2.2.2.2.2.1
theorem dX12_dye_30 : decode cX12_dye 30 = .ok (.iload_n 3, 1) := dX12_dye_22g.2.2.2.2.2.2.1
theorem dX12_dye_31 : decode cX12_dye 31 = .ok (.invokevirtual 322, 3) := dX12_dye_22g.2.2.2.2.2.2.2.1
theorem dX12_dye_34 : decode cX12_dye 34 = .ok (.ireturn, 1) := dX12_dye_22g.2.2.2.2.2.2.2.2
set_option maxHeartbeats 4000000 in
set_option maxRecDepth 100000 in
theorem c_X12_dye (l : Launch) (E : Nat → Nat) (D : va_G) (G : th_G) (h0 : Nat) (hG0 : G h0 = some (10, 0)) (x1 : Int32) (x2 : Int32) (x3 : Int32) : Met l yX12_dye (tb (.code yX12_dye cX12_dye 4 (some .int))) (rm 69) (va_Pc [.ref h0, .int x1, .int x2, .int x3] (PX E D G (fun H => True))) (QXi E D G (fun r H => True)) 0 0 (th_A G) := by
  refine Met.ofW (cc := cX12_dye) (maxL := 4) (ret := (some .int)) (by decide) rfl ?_
  intro p e s m args below meth c s₁ B hml hv
  obtain ⟨hav, ⟨hI, hN, hK⟩, hX⟩ := hv
  have hx := B.exec
  have hb := B.bytes
  have hr := B.returns
  have hts := atoms_spec (ws := tb (.code yX12_dye cX12_dye 4 (some .int))) B.pre
  have hown : s.vm.findClass RX12 = some m.cls := findClass_of_methodNamed B.named
  have hlocks := B.notSynchronized
  have hS : va_S (th_A G) s.heap s.heap [] := va_S.rf
  have hl := lv_entry ([.ref h0, .int x1, .int x2, .int x3]) (n := 4) (Nat.le_of_ble_eq_true rfl)
  rw [show entryFrame m args 4 = entryFrame m ([.ref h0, .int x1, .int x2, .int x3] : List Value).toArray 4 from by rw [hav], lg_entry_eq]
  generalize (lg_sl ([.ref h0, .int x1, .int x2, .int x3]) ++ List.replicate (4 - (lg_sl ([.ref h0, .int x1, .int x2, .int x3])).length) Slot.unset).toArray = ls at hl ⊢
  have hl : lv_has ls 4 [(0, .ref h0), (1, .int x1), (2, .int x2), (3, .int x3)] := hl
  generalize hR : (headSpec (tb (.code yX12_dye cX12_dye 4 (some .int))) (rm 69)).room = R
  have hR := hR.symm
  generalize hQ : MQ below (QXi E D G (fun r H => True)) args s 0 0 (th_A G) = QF
  have hQ := hQ.symm
  have J_21 : ∀ (H : Heap) (locs : List Loc) (ls : Array Slot)  , lv_has ls 4 [(0, .ref h0), (1, .int x1), (2, .int x2), (3, .int x3)] → th_I (okM E) D G [] H → va_S (th_A G) s.heap H locs → W p l e R s m args below meth c H locs 0 0 QF (F0 m 21 ls []) := by
    intro H locs ls   hl  hI hS
    refine lv_iconst (v := (-1)) hx hb dX12_dye_21 (by decide) ?_
    have hpost : True := trivial
    rw [hQ]
    exact W.iret (v := (-1)) hx hb hr (fun t ht hW => ⟨⟨(-1), (-1), rfl, rfl, ⟨by rw [ht]; exact hI, hN.warm hW, va_K.moved hW.alike hK⟩, by first | (rw [ht]; exact hpost) | exact hpost⟩, hS.F ht⟩) hS.2.2 dX12_dye_22
  refine lv_iload_n hx hb dX12_dye_0 rfl (lv_at hl 1 rfl) ?_
  refine th_cSs (As := [.int x1]) (rest := []) (n := 1) (d := 1) ⟨hx, hb, hml, hown, hts⟩ (c_X12_isPlace l s.heap x1) wd_1670 wd_1671 wd_13 wd_1672 (by decide +kernel) ⟨by rw [hR]; exact Nat.le_of_ble_eq_true rfl, by rw [hR]; exact Nat.le_of_ble_eq_true rfl⟩ hN hS rfl hl.1 rfl (Nat.le_of_ble_eq_true rfl) dX12_dye_1 ⟨Nat.zero_le _, Nat.zero_le _⟩ (fun r89 locs hp hS => ?_)
  rcases hp with ⟨rfl, hp⟩ | ⟨rfl, hp⟩
  · skip
    try simp only [rg, not_and, Int.not_le] at hp
    have hp90 := hp
    refine lv_if_eq (tgt := 21) hx hb dX12_dye_4 (by decide) (fun c => absurd c (by decide)) (fun _ => ?_)
    refine lv_iload_n hx hb dX12_dye_7 rfl (lv_at hl 2 rfl) ?_
    refine th_cSs (As := [.int x2]) (rest := []) (n := 1) (d := 1) ⟨hx, hb, hml, hown, hts⟩ (c_X12_isTime l s.heap x2) wd_1655 wd_1656 wd_13 wd_1657 (by decide +kernel) ⟨by rw [hR]; exact Nat.le_of_ble_eq_true rfl, by rw [hR]; exact Nat.le_of_ble_eq_true rfl⟩ hN hS rfl hl.1 rfl (Nat.le_of_ble_eq_true rfl) dX12_dye_8 ⟨Nat.zero_le _, Nat.zero_le _⟩ (fun r91 locs hp hS => ?_)
    rcases hp with ⟨rfl, hp⟩ | ⟨rfl, hp⟩
    · skip
      try simp only [rg, not_and, Int.not_le] at hp
      have hp92 := hp
      refine lv_if_eq (tgt := 21) hx hb dX12_dye_11 (by decide) (fun c => absurd c (by decide)) (fun _ => ?_)
      refine lv_iload_n hx hb dX12_dye_14 rfl (lv_at hl 3 rfl) ?_
      refine th_cSs (As := [.int x3]) (rest := []) (n := 1) (d := 1) ⟨hx, hb, hml, hown, hts⟩ (c_X12_isColour l s.heap x3) wd_1545 wd_1546 wd_13 wd_1547 (by decide +kernel) ⟨by rw [hR]; exact Nat.le_of_ble_eq_true rfl, by rw [hR]; exact Nat.le_of_ble_eq_true rfl⟩ hN hS rfl hl.1 rfl (Nat.le_of_ble_eq_true rfl) dX12_dye_15 ⟨Nat.zero_le _, Nat.zero_le _⟩ (fun r93 locs hp hS => ?_)
      rcases hp with ⟨rfl, hp⟩ | ⟨rfl, hp⟩
      · skip
        try simp only [rg, not_and, Int.not_le] at hp
        have hp94 := hp
        refine lv_if_ne (tgt := 23) hx hb dX12_dye_18 (by decide) (fun _ => ?_) (fun c => absurd c (by decide))
        refine lv_aload_n hx hb dX12_dye_23 rfl (lv_at hl 0 rfl) ?_
        refine mx_v (As := []) (rest := []) (n := 0) (d := 68) ⟨hx, hb, hml, hown, hts⟩ (c_X12_looks l E D G h0 hG0 ) wd_1455 wd_1457 wp_43 wd_13 wd_1458 (by decide +kernel) ⟨by rw [hR]; exact Nat.le_of_ble_eq_true rfl, by rw [hR]; exact Nat.le_of_ble_eq_true rfl⟩ hI hN hK hS hG0 (trivial) rfl hl.1 rfl (Nat.le_of_ble_eq_true rfl) dX12_dye_24 ⟨Nat.zero_le _, Nat.zero_le _⟩ (fun H locs hI hp hS => ?_)
        refine lv_aload_n hx hb dX12_dye_27 rfl (lv_at hl 0 rfl) ?_
        refine lv_iload_n hx hb dX12_dye_28 rfl (lv_at hl 1 rfl) ?_
        refine lv_iload_n hx hb dX12_dye_29 rfl (lv_at hl 2 rfl) ?_
        refine lv_iload_n hx hb dX12_dye_30 rfl (lv_at hl 3 rfl) ?_
        refine mr_i (As := [.int x1, .int x2, .int x3]) (rest := []) (n := 3) (d := 1) ⟨hx, hb, hml, hown, hts⟩ (c_X12_dyeOf l E D G H h0 hG0 x1 x2 x3 (by omega)) wd_1717 wd_1719 wp_82 wd_13 wd_1720 (by decide +kernel) ⟨by rw [hR]; exact Nat.le_of_ble_eq_true rfl, by rw [hR]; exact Nat.le_of_ble_eq_true rfl⟩ hI hN hK hS hG0 rfl hl.1 rfl (Nat.le_of_ble_eq_true rfl) dX12_dye_31 ⟨Nat.zero_le _, Nat.zero_le _⟩ (fun r96 locs hp hS => ?_)
        have hpost : True := trivial
        rw [hQ]
        exact W.iret (v := r96) hx hb hr (fun t ht hW => ⟨⟨r96, r96, rfl, rfl, ⟨by rw [ht]; exact hI, hN.warm hW, va_K.moved hW.alike hK⟩, by first | (rw [ht]; exact hpost) | exact hpost⟩, hS.F ht⟩) hS.2.2 dX12_dye_34
      · skip
        try simp only [rg, not_and, Int.not_le] at hp
        have hp97 := hp
        refine lv_if_ne (tgt := 23) hx hb dX12_dye_18 (by decide) (fun c => absurd c (by decide)) (fun _ => ?_)
        exact J_21 s.heap locs ls   (lv_sub hl [0, 1, 2, 3] rfl)  hI hS
    · skip
      try simp only [rg, not_and, Int.not_le] at hp
      have hp98 := hp
      refine lv_if_eq (tgt := 21) hx hb dX12_dye_11 (by decide) (fun _ => ?_) (fun c => absurd c (by decide))
      exact J_21 s.heap locs ls   (lv_sub hl [0, 1, 2, 3] rfl)  hI hS
  · skip
    try simp only [rg, not_and, Int.not_le] at hp
    have hp99 := hp
    refine lv_if_eq (tgt := 21) hx hb dX12_dye_4 (by decide) (fun _ => ?_) (fun c => absurd c (by decide))
    exact J_21 s.heap locs ls   (lv_sub hl [0, 1, 2, 3] rfl)  hI hS
theorem dX12_comes_0g : (decode cX12_comes 0 = .ok (.iload_n 1, 1)) ∧ (decode cX12_comes 1 = .ok (.invokestatic 304, 3)) ∧ (decode cX12_comes 4 = .ok (.ifCond .eq 17, 3)) ∧ (decode cX12_comes 7 = .ok (.iload_n 2, 1)) ∧ (decode cX12_comes 8 = .ok (.invokestatic 129, 3)) ∧ (decode cX12_comes 11 = .ok (.ifCond .eq 10, 3)) ∧ (decode cX12_comes 14 = .ok (.iload_n 3, 1)) ∧ (decode cX12_comes 15 = .ok (.invokestatic 298, 3)) ∧ (decode cX12_comes 18 = .ok (.ifCond .ne 5, 3)) ∧ (decode cX12_comes 21 = .ok (.iconst (-1), 1)) := by decide +kernel
theorem dX12_comes_0 : decode cX12_comes 0 = .ok (.iload_n 1, 1) := dX12_comes_0g.1
theorem dX12_comes_1 : decode cX12_comes 1 = .ok (.invokestatic 304, 3) := dX12_comes_0g.2.1
theorem dX12_comes_4 : decode cX12_comes 4 = .ok (.ifCond .eq 17, 3) := dX12_comes_0g.2.2.1
theorem dX12_comes_7 : decode cX12_comes 7 = .ok (.iload_n 2, 1) := dX12_comes_0g.2.2.2.1
theorem dX12_comes_8 : decode cX12_comes 8 = .ok (.invokestatic 129, 3) := dX12_comes_0g.2.2.2.2.1
theorem dX12_comes_11 : decode cX12_comes 11 = .ok (.ifCond .eq 10, 3) := dX12_comes_0g.2.2.2.2.2.1
theorem dX12_comes_14 : decode cX12_comes 14 = .ok (.iload_n 3, 1) := dX12_comes_0g.2.2.2.2.2.2.1
theorem dX12_comes_15 : decode cX12_comes 15 = .ok (.invokestatic 298, 3) := dX12_comes_0g.2.2.2.2.2.2.2.1
theorem dX12_comes_18 : decode cX12_comes 18 = .ok (.ifCond .ne 5, 3) := dX12_comes_0g.2.2.2.2.2.2.2.2.1
theorem dX12_comes_21 : decode cX12_comes 21 = .ok (.iconst (-1), 1) := dX12_comes_0g.2.2.2.2.2.2.2.2.2
theorem dX12_comes_22g : (decode cX12_comes 22 = .ok (.ireturn, 1)) ∧ (decode cX12_comes 23 = .ok (.aload_n 0, 1)) ∧ (decode cX12_comes 24 = .ok (.invokevirtual 138, 3)) ∧ (decode cX12_comes 27 = .ok (.iload_n 3, 1)) ∧ (decode cX12_comes 28 = .ok (.istore 4, 2)) ∧ (decode cX12_comes 30 = .ok (.iload 4, 2)) ∧ (decode cX12_comes 32 = .ok (.bipush 96, 2)) ∧ (decode cX12_comes 34 = .ok (.if_icmp .gt 23, 3)) ∧ (decode cX12_comes 37 = .ok (.aload_n 0, 1)) ∧ (decode cX12_comes 38 = .ok (.iload_n 1, 1)) := by decide +kernel
theorem dX12_comes_22 : decode cX12_comes 22 = .ok (.ireturn, 1) := dX12_comes_22g.1
theorem dX12_comes_23 : decode cX12_comes 23 = .ok (.aload_n 0, 1) := dX12_comes_22g.2.1
theorem dX12_comes_24 : decode cX12_comes 24 = .ok (.invokevirtual 138, 3) := dX12_comes_22g.2.2.1
theorem dX12_comes_27 : decode cX12_comes 27 = .ok (.iload_n 3, 1) := dX12_comes_22g.2.2.2.1
theorem dX12_comes_28 : decode cX12_comes 28 = .ok (.istore 4, 2) := dX12_comes_22g.2.2.2.2.1
theorem dX12_comes_30 : decode cX12_comes 30 = .ok (.iload 4, 2) := dX12_comes_22g.2.2.2.2.2.1
theorem dX12_comes_32 : decode cX12_comes 32 = .ok (.bipush 96, 2) := dX12_comes_22g.2.2.2.2.2.2.1
theorem dX12_comes_34 : decode cX12_comes 34 = .ok (.if_icmp .gt 23, 3) := dX12_comes_22g.2.2.2.2.2.2.2.1
theorem dX12_comes_37 : decode cX12_comes 37 = .ok (.aload_n 0, 1) := dX12_comes_22g.2.2.2.2.2.2.2.2.1
theorem dX12_comes_38 : decode cX12_comes 38 = .ok (.iload_n 1, 1) := dX12_comes_22g.2.2.2.2.2.2.2.2.2
theorem dX12_comes_39g : (decode cX12_comes 39 = .ok (.iload 4, 2)) ∧ (decode cX12_comes 41 = .ok (.iload_n 2, 1)) ∧ (decode cX12_comes 42 = .ok (.invokevirtual 322, 3)) ∧ (decode cX12_comes 45 = .ok (.ifCond .le 6, 3)) ∧ (decode cX12_comes 48 = .ok (.iload 4, 2)) ∧ (decode cX12_comes 50 = .ok (.ireturn, 1)) ∧ (decode cX12_comes 51 = .ok (.iinc 4 1, 3)) ∧ (decode cX12_comes 54 = .ok (.goto (-24), 3)) ∧ (decode cX12_comes 57 = .ok (.iconst (-1), 1)) ∧ (decode cX12_comes 58 = .ok (.ireturn, 1)) := by decide +kernel
theorem dX12_comes_39 : decode cX12_comes 39 = .ok (.iload 4, 2) := dX12_comes_39g.1
theorem dX12_comes_41 : decode cX12_comes 41 = .ok (.iload_n 2, 1) := dX12_comes_39g.2.1
theorem dX12_comes_42 : decode cX12_comes 42 = .ok (.invokevirtual 322, 3) := dX12_comes_39g.2.2.1
theorem dX12_comes_45 : decode cX12_comes 45 = .ok (.ifCond .le 6, 3) := dX12_comes_39g.2.2.2.1
theorem dX12_comes_48 : decode cX12_comes 48 = .ok (.iload 4, 2) := dX12_comes_39g.2.2.2.2.1
theorem dX12_comes_50 : decode cX12_comes 50 = .ok (.ireturn, 1) := dX12_comes_39g.2.2.2.2.2.1
theorem dX12_comes_51 : decode cX12_comes 51 = .ok (.iinc 4 1, 3) := dX12_comes_39g.2.2.2.2.2.2.1
theorem dX12_comes_54 : decode cX12_comes 54 = .ok (.goto (-24), 3) := dX12_comes_39g.2.2.2.2.2.2.2.1
theorem dX12_comes_57 : decode cX12_comes 57 = .ok (.iconst (-1), 1) := dX12_comes_39g.2.2.2.2.2.2.2.2.1
theorem dX12_comes_58 : decode cX12_comes 58 = .ok (.ireturn, 1) := dX12_comes_39g.2.2.2.2.2.2.2.2.2
set_option maxHeartbeats 4000000 in
set_option maxRecDepth 100000 in
theorem c_X12_comes (l : Launch) (E : Nat → Nat) (D : va_G) (G : th_G) (h0 : Nat) (hG0 : G h0 = some (10, 0)) (x1 : Int32) (x2 : Int32) (x3 : Int32) : Met l yX12_comes (tb (.code yX12_comes cX12_comes 5 (some .int))) (rm 69) (va_Pc [.ref h0, .int x1, .int x2, .int x3] (PX E D G (fun H => True))) (QXi E D G (fun r H => True)) 0 0 (th_A G) := by
  refine Met.ofW (cc := cX12_comes) (maxL := 5) (ret := (some .int)) (by decide) rfl ?_
  intro p e s m args below meth c s₁ B hml hv
  obtain ⟨hav, ⟨hI, hN, hK⟩, hX⟩ := hv
  have hx := B.exec
  have hb := B.bytes
  have hr := B.returns
  have hts := atoms_spec (ws := tb (.code yX12_comes cX12_comes 5 (some .int))) B.pre
  have hown : s.vm.findClass RX12 = some m.cls := findClass_of_methodNamed B.named
  have hlocks := B.notSynchronized
  have hS : va_S (th_A G) s.heap s.heap [] := va_S.rf
  have hl := lv_entry ([.ref h0, .int x1, .int x2, .int x3]) (n := 5) (Nat.le_of_ble_eq_true rfl)
  rw [show entryFrame m args 5 = entryFrame m ([.ref h0, .int x1, .int x2, .int x3] : List Value).toArray 5 from by rw [hav], lg_entry_eq]
  generalize (lg_sl ([.ref h0, .int x1, .int x2, .int x3]) ++ List.replicate (5 - (lg_sl ([.ref h0, .int x1, .int x2, .int x3])).length) Slot.unset).toArray = ls at hl ⊢
  have hl : lv_has ls 5 [(0, .ref h0), (1, .int x1), (2, .int x2), (3, .int x3)] := hl
  generalize hR : (headSpec (tb (.code yX12_comes cX12_comes 5 (some .int))) (rm 69)).room = R
  have hR := hR.symm
  generalize hQ : MQ below (QXi E D G (fun r H => True)) args s 0 0 (th_A G) = QF
  have hQ := hQ.symm
  have J_30 : ∀ (nn : Nat) (H : Heap) (locs : List Loc) (ls : Array Slot) (v186 : Int32) , (Int.toNat (97 - v186.toInt) = nn) → lv_has ls 5 [(4, .int v186), (0, .ref h0), (1, .int x1), (2, .int x2), (3, .int x3)] → ((0 : Int) ≤ v186.toInt ∧ v186.toInt ≤ 97) → ((0 : Int) ≤ x1.toInt ∧ x1.toInt ≤ 24) → ((0 : Int) ≤ x2.toInt ∧ x2.toInt ≤ 3) → ((0 : Int) ≤ x3.toInt ∧ x3.toInt ≤ 96) → th_I (okM E) D G [] H → va_S (th_A G) s.heap H locs → W p l e R s m args below meth c H locs 0 0 QF (F0 m 30 ls []) := by
    intro nn
    induction nn using Nat.strongRecOn with
    | ind nn ih_30 =>
      intro H locs ls v186  hm hl k187 k188 k189 k190 hI hS
      refine lv_iload hx hb dX12_comes_30 (lv_at hl 0 rfl) ?_
      refine lv_bipush (v := 96) hx hb dX12_comes_32 (by decide) ?_
      refine lv_icmp_gt (tgt := 57) hx hb dX12_comes_34 (by decide) (fun c191 => ?_) (fun c191 => ?_)
      · skip
        have k192 := iv_lt (X := (96)) (Y := v186.toInt) (by decide) rfl c191
        refine lv_iconst (v := (-1)) hx hb dX12_comes_57 (by decide) ?_
        have hpost : True := trivial
        rw [hQ]
        exact W.iret (v := (-1)) hx hb hr (fun t ht hW => ⟨⟨(-1), (-1), rfl, rfl, ⟨by rw [ht]; exact hI, hN.warm hW, va_K.moved hW.alike hK⟩, by first | (rw [ht]; exact hpost) | exact hpost⟩, hS.F ht⟩) hS.2.2 dX12_comes_58
      · skip
        have k193 := iv_nlt (X := (96)) (Y := v186.toInt) (by decide) rfl c191
        refine lv_aload_n hx hb dX12_comes_37 rfl (lv_at hl 1 rfl) ?_
        refine lv_iload_n hx hb dX12_comes_38 rfl (lv_at hl 2 rfl) ?_
        refine lv_iload hx hb dX12_comes_39 (lv_at hl 0 rfl) ?_
        refine lv_iload_n hx hb dX12_comes_41 rfl (lv_at hl 3 rfl) ?_
        refine mr_i (As := [.int x1, .int v186, .int x2]) (rest := []) (n := 3) (d := 1) ⟨hx, hb, hml, hown, hts⟩ (c_X12_dyeOf l E D G H h0 hG0 x1 v186 x2 (by omega)) wd_1717 wd_1719 wp_82 wd_13 wd_1720 (by decide +kernel) ⟨by rw [hR]; exact Nat.le_of_ble_eq_true rfl, by rw [hR]; exact Nat.le_of_ble_eq_true rfl⟩ hI hN hK hS hG0 rfl hl.1 rfl (Nat.le_of_ble_eq_true rfl) dX12_comes_42 ⟨Nat.zero_le _, Nat.zero_le _⟩ (fun r194 locs hp hS => ?_)
        have k195 := iv_lo r194
        have k196 := iv_hi r194
        refine lv_if_le (tgt := 51) hx hb dX12_comes_45 (by decide) (fun c197 => ?_) (fun c197 => ?_)
        · skip
          have k198 := iv_le (X := r194.toInt) (Y := (0)) rfl (by decide) c197
          obtain ⟨v199, e200⟩ : ∃ y : Int32, y = v186 + (1) := ⟨_, rfl⟩
          have tv199 : v199.toInt = v186.toInt + (1) := iv_add rfl (by decide) e200 (by omega) (by omega)
          refine lv_iinc (v := v199) (lv' := [(4, .int v199), (0, .ref h0), (1, .int x1), (2, .int x2), (3, .int x3)]) hx hb dX12_comes_51 hl (k := 0) rfl (by rw [e200]; rfl) (by decide) rfl (fun ls hl => ?_)
          refine lv_goto (tgt := 30) hx hb dX12_comes_54 (by decide) ?_
          exact ih_30 _ (by omega) H locs ls v199  rfl (lv_sub hl [0, 1, 2, 3, 4] rfl) ⟨by omega, by omega⟩ ⟨by omega, by omega⟩ ⟨by omega, by omega⟩ ⟨by omega, by omega⟩ hI hS
        · skip
          have k201 := iv_nle (X := r194.toInt) (Y := (0)) rfl (by decide) c197
          refine lv_iload hx hb dX12_comes_48 (lv_at hl 0 rfl) ?_
          have hpost : True := trivial
          rw [hQ]
          exact W.iret (v := v186) hx hb hr (fun t ht hW => ⟨⟨v186, v186, rfl, rfl, ⟨by rw [ht]; exact hI, hN.warm hW, va_K.moved hW.alike hK⟩, by first | (rw [ht]; exact hpost) | exact hpost⟩, hS.F ht⟩) hS.2.2 dX12_comes_50
  have J_21 : ∀ (H : Heap) (locs : List Loc) (ls : Array Slot)  , lv_has ls 5 [(0, .ref h0), (1, .int x1), (2, .int x2), (3, .int x3)] → th_I (okM E) D G [] H → va_S (th_A G) s.heap H locs → W p l e R s m args below meth c H locs 0 0 QF (F0 m 21 ls []) := by
    intro H locs ls   hl  hI hS
    refine lv_iconst (v := (-1)) hx hb dX12_comes_21 (by decide) ?_
    have hpost : True := trivial
    rw [hQ]
    exact W.iret (v := (-1)) hx hb hr (fun t ht hW => ⟨⟨(-1), (-1), rfl, rfl, ⟨by rw [ht]; exact hI, hN.warm hW, va_K.moved hW.alike hK⟩, by first | (rw [ht]; exact hpost) | exact hpost⟩, hS.F ht⟩) hS.2.2 dX12_comes_22
  refine lv_iload_n hx hb dX12_comes_0 rfl (lv_at hl 1 rfl) ?_
  refine th_cSs (As := [.int x1]) (rest := []) (n := 1) (d := 1) ⟨hx, hb, hml, hown, hts⟩ (c_X12_isPlace l s.heap x1) wd_1670 wd_1671 wd_13 wd_1672 (by decide +kernel) ⟨by rw [hR]; exact Nat.le_of_ble_eq_true rfl, by rw [hR]; exact Nat.le_of_ble_eq_true rfl⟩ hN hS rfl hl.1 rfl (Nat.le_of_ble_eq_true rfl) dX12_comes_1 ⟨Nat.zero_le _, Nat.zero_le _⟩ (fun r202 locs hp hS => ?_)
  rcases hp with ⟨rfl, hp⟩ | ⟨rfl, hp⟩
  · skip
    try simp only [rg, not_and, Int.not_le] at hp
    have hp203 := hp
    refine lv_if_eq (tgt := 21) hx hb dX12_comes_4 (by decide) (fun c => absurd c (by decide)) (fun _ => ?_)
    refine lv_iload_n hx hb dX12_comes_7 rfl (lv_at hl 2 rfl) ?_
    refine th_cSs (As := [.int x2]) (rest := []) (n := 1) (d := 1) ⟨hx, hb, hml, hown, hts⟩ (c_X12_isColour l s.heap x2) wd_1545 wd_1546 wd_13 wd_1547 (by decide +kernel) ⟨by rw [hR]; exact Nat.le_of_ble_eq_true rfl, by rw [hR]; exact Nat.le_of_ble_eq_true rfl⟩ hN hS rfl hl.1 rfl (Nat.le_of_ble_eq_true rfl) dX12_comes_8 ⟨Nat.zero_le _, Nat.zero_le _⟩ (fun r204 locs hp hS => ?_)
    rcases hp with ⟨rfl, hp⟩ | ⟨rfl, hp⟩
    · skip
      try simp only [rg, not_and, Int.not_le] at hp
      have hp205 := hp
      refine lv_if_eq (tgt := 21) hx hb dX12_comes_11 (by decide) (fun c => absurd c (by decide)) (fun _ => ?_)
      refine lv_iload_n hx hb dX12_comes_14 rfl (lv_at hl 3 rfl) ?_
      refine th_cSs (As := [.int x3]) (rest := []) (n := 1) (d := 1) ⟨hx, hb, hml, hown, hts⟩ (c_X12_isTime l s.heap x3) wd_1655 wd_1656 wd_13 wd_1657 (by decide +kernel) ⟨by rw [hR]; exact Nat.le_of_ble_eq_true rfl, by rw [hR]; exact Nat.le_of_ble_eq_true rfl⟩ hN hS rfl hl.1 rfl (Nat.le_of_ble_eq_true rfl) dX12_comes_15 ⟨Nat.zero_le _, Nat.zero_le _⟩ (fun r206 locs hp hS => ?_)
      rcases hp with ⟨rfl, hp⟩ | ⟨rfl, hp⟩
      · skip
        try simp only [rg, not_and, Int.not_le] at hp
        have hp207 := hp
        refine lv_if_ne (tgt := 23) hx hb dX12_comes_18 (by decide) (fun _ => ?_) (fun c => absurd c (by decide))
        refine lv_aload_n hx hb dX12_comes_23 rfl (lv_at hl 0 rfl) ?_
        refine mx_v (As := []) (rest := []) (n := 0) (d := 68) ⟨hx, hb, hml, hown, hts⟩ (c_X12_looks l E D G h0 hG0 ) wd_1455 wd_1457 wp_43 wd_13 wd_1458 (by decide +kernel) ⟨by rw [hR]; exact Nat.le_of_ble_eq_true rfl, by rw [hR]; exact Nat.le_of_ble_eq_true rfl⟩ hI hN hK hS hG0 (trivial) rfl hl.1 rfl (Nat.le_of_ble_eq_true rfl) dX12_comes_24 ⟨Nat.zero_le _, Nat.zero_le _⟩ (fun H locs hI hp hS => ?_)
        refine lv_iload_n hx hb dX12_comes_27 rfl (lv_at hl 3 rfl) ?_
        refine lv_istore (lv' := [(4, .int x3), (0, .ref h0), (1, .int x1), (2, .int x2), (3, .int x3)]) hx hb dX12_comes_28 hl (by decide) rfl (fun ls hl => ?_)
        exact J_30 _ H locs ls x3  rfl (lv_sub hl [0, 1, 2, 3, 4] rfl) ⟨by omega, by omega⟩ ⟨by omega, by omega⟩ ⟨by omega, by omega⟩ ⟨by omega, by omega⟩ hI hS
      · skip
        try simp only [rg, not_and, Int.not_le] at hp
        have hp209 := hp
        refine lv_if_ne (tgt := 23) hx hb dX12_comes_18 (by decide) (fun c => absurd c (by decide)) (fun _ => ?_)
        exact J_21 s.heap locs ls   (lv_sub hl [0, 1, 2, 3] rfl)  hI hS
    · skip
      try simp only [rg, not_and, Int.not_le] at hp
      have hp210 := hp
      refine lv_if_eq (tgt := 21) hx hb dX12_comes_11 (by decide) (fun _ => ?_) (fun c => absurd c (by decide))
      exact J_21 s.heap locs ls   (lv_sub hl [0, 1, 2, 3] rfl)  hI hS
  · skip
    try simp only [rg, not_and, Int.not_le] at hp
    have hp211 := hp
    refine lv_if_eq (tgt := 21) hx hb dX12_comes_4 (by decide) (fun _ => ?_) (fun c => absurd c (by decide))
    exact J_21 s.heap locs ls   (lv_sub hl [0, 1, 2, 3] rfl)  hI hS
theorem dX12_most_0g : (decode cX12_most 0 = .ok (.iload_n 1, 1)) ∧ (decode cX12_most 1 = .ok (.invokestatic 298, 3)) ∧ (decode cX12_most 4 = .ok (.ifCond .eq 19, 3)) ∧ (decode cX12_most 7 = .ok (.iload_n 2, 1)) ∧ (decode cX12_most 8 = .ok (.invokestatic 129, 3)) ∧ (decode cX12_most 11 = .ok (.ifCond .eq 12, 3)) ∧ (decode cX12_most 14 = .ok (.iload_n 3, 1)) ∧ (decode cX12_most 15 = .ok (.iconst 0, 1)) ∧ (decode cX12_most 16 = .ok (.iconst 1, 1)) ∧ (decode cX12_most 17 = .ok (.invokestatic 103, 3)) := by decide +kernel
theorem dX12_most_0 : decode cX12_most 0 = .ok (.iload_n 1, 1) := dX12_most_0g.1
theorem dX12_most_1 : decode cX12_most 1 = .ok (.invokestatic 298, 3) := dX12_most_0g.2.1
theorem dX12_most_4 : decode cX12_most 4 = .ok (.ifCond .eq 19, 3) := dX12_most_0g.2.2.1
theorem dX12_most_7 : decode cX12_most 7 = .ok (.iload_n 2, 1) := dX12_most_0g.2.2.2.1
theorem dX12_most_8 : decode cX12_most 8 = .ok (.invokestatic 129, 3) := dX12_most_0g.2.2.2.2.1
theorem dX12_most_11 : decode cX12_most 11 = .ok (.ifCond .eq 12, 3) := dX12_most_0g.2.2.2.2.2.1
theorem dX12_most_14 : decode cX12_most 14 = .ok (.iload_n 3, 1) := dX12_most_0g.2.2.2.2.2.2.1
theorem dX12_most_15 : decode cX12_most 15 = .ok (.iconst 0, 1) := dX12_most_0g.2.2.2.2.2.2.2.1
theorem dX12_most_16 : decode cX12_most 16 = .ok (.iconst 1, 1) := dX12_most_0g.2.2.2.2.2.2.2.2.1
theorem dX12_most_17 : decode cX12_most 17 = .ok (.invokestatic 103, 3) := dX12_most_0g.2.2.2.2.2.2.2.2.2
theorem dX12_most_20g : (decode cX12_most 20 = .ok (.ifCond .ne 5, 3)) ∧ (decode cX12_most 23 = .ok (.iconst (-1), 1)) ∧ (decode cX12_most 24 = .ok (.ireturn, 1)) ∧ (decode cX12_most 25 = .ok (.aload_n 0, 1)) ∧ (decode cX12_most 26 = .ok (.invokevirtual 138, 3)) ∧ (decode cX12_most 29 = .ok (.iconst (-1), 1)) ∧ (decode cX12_most 30 = .ok (.istore 4, 2)) ∧ (decode cX12_most 32 = .ok (.iconst 0, 1)) ∧ (decode cX12_most 33 = .ok (.istore 5, 2)) ∧ (decode cX12_most 35 = .ok (.iconst 0, 1)) := by decide +kernel
theorem dX12_most_20 : decode cX12_most 20 = .ok (.ifCond .ne 5, 3) := dX12_most_20g.1
theorem dX12_most_23 : decode cX12_most 23 = .ok (.iconst (-1), 1) := dX12_most_20g.2.1
theorem dX12_most_24 : decode cX12_most 24 = .ok (.ireturn, 1) := dX12_most_20g.2.2.1
theorem dX12_most_25 : decode cX12_most 25 = .ok (.aload_n 0, 1) := dX12_most_20g.2.2.2.1
theorem dX12_most_26 : decode cX12_most 26 = .ok (.invokevirtual 138, 3) := dX12_most_20g.2.2.2.2.1
theorem dX12_most_29 : decode cX12_most 29 = .ok (.iconst (-1), 1) := dX12_most_20g.2.2.2.2.2.1
theorem dX12_most_30 : decode cX12_most 30 = .ok (.istore 4, 2) := dX12_most_20g.2.2.2.2.2.2.1
theorem dX12_most_32 : decode cX12_most 32 = .ok (.iconst 0, 1) := dX12_most_20g.2.2.2.2.2.2.2.1
theorem dX12_most_33 : decode cX12_most 33 = .ok (.istore 5, 2) := dX12_most_20g.2.2.2.2.2.2.2.2.1
theorem dX12_most_35 : decode cX12_most 35 = .ok (.iconst 0, 1) := dX12_most_20g.2.2.2.2.2.2.2.2.2
theorem dX12_most_36g : (decode cX12_most 36 = .ok (.istore 6, 2)) ∧ (decode cX12_most 38 = .ok (.iconst 0, 1)) ∧ (decode cX12_most 39 = .ok (.istore 7, 2)) ∧ (decode cX12_most 41 = .ok (.iload 7, 2)) ∧ (decode cX12_most 43 = .ok (.bipush 24, 2)) ∧ (decode cX12_most 45 = .ok (.if_icmp .ge 52, 3)) ∧ (decode cX12_most 48 = .ok (.aload_n 0, 1)) ∧ (decode cX12_most 49 = .ok (.iload 7, 2)) ∧ (decode cX12_most 51 = .ok (.iload_n 1, 1)) ∧ (decode cX12_most 52 = .ok (.iload_n 2, 1)) := by decide +kernel
theorem dX12_most_36 : decode cX12_most 36 = .ok (.istore 6, 2) := dX12_most_36g.1
theorem dX12_most_38 : decode cX12_most 38 = .ok (.iconst 0, 1) := dX12_most_36g.2.1
theorem dX12_most_39 : decode cX12_most 39 = .ok (.istore 7, 2) := dX12_most_36g.2.2.1
theorem dX12_most_41 : decode cX12_most 41 = .ok (.iload 7, 2) := dX12_most_36g.2.2.2.1
theorem dX12_most_43 : decode cX12_most 43 = .ok (.bipush 24, 2) := dX12_most_36g.2.2.2.2.1
theorem dX12_most_45 : decode cX12_most 45 = .ok (.if_icmp .ge 52, 3) := dX12_most_36g.2.2.2.2.2.1
theorem dX12_most_48 : decode cX12_most 48 = .ok (.aload_n 0, 1) := dX12_most_36g.2.2.2.2.2.2.1
theorem dX12_most_49 : decode cX12_most 49 = .ok (.iload 7, 2) := dX12_most_36g.2.2.2.2.2.2.2.1
theorem dX12_most_51 : decode cX12_most 51 = .ok (.iload_n 1, 1) := dX12_most_36g.2.2.2.2.2.2.2.2.1
theorem dX12_most_52 : decode cX12_most 52 = .ok (.iload_n 2, 1) := dX12_most_36g.2.2.2.2.2.2.2.2.2
theorem dX12_most_53g : (decode cX12_most 53 = .ok (.invokevirtual 322, 3)) ∧ (decode cX12_most 56 = .ok (.istore 8, 2)) ∧ (decode cX12_most 58 = .ok (.iload 6, 2)) ∧ (decode cX12_most 60 = .ok (.iload 8, 2)) ∧ (decode cX12_most 62 = .ok (.ifCond .le 7, 3)) ∧ (decode cX12_most 65 = .ok (.iconst 1, 1)) ∧ (decode cX12_most 66 = .ok (.goto 4, 3)) ∧ (decode cX12_most 69 = .ok (.iconst 0, 1)) ∧ (decode cX12_most 70 = .ok (.iadd, 1)) ∧ (decode cX12_most 71 = .ok (.istore 6, 2)) := by decide +kernel
theorem dX12_most_53 : decode cX12_most 53 = .ok (.invokevirtual 322, 3) := dX12_most_53g.1
theorem dX12_most_56 : decode cX12_most 56 = .ok (.istore 8, 2) := dX12_most_53g.2.1
theorem dX12_most_58 : decode cX12_most 58 = .ok (.iload 6, 2) := dX12_most_53g.2.2.1
theorem dX12_most_60 : decode cX12_most 60 = .ok (.iload 8, 2) := dX12_most_53g.2.2.2.1
theorem dX12_most_62 : decode cX12_most 62 = .ok (.ifCond .le 7, 3) := dX12_most_53g.2.2.2.2.1
theorem dX12_most_65 : decode cX12_most 65 = .ok (.iconst 1, 1) := dX12_most_53g.2.2.2.2.2.1
theorem dX12_most_66 : decode cX12_most 66 = .ok (.goto 4, 3) := dX12_most_53g.2.2.2.2.2.2.1
theorem dX12_most_69 : decode cX12_most 69 = .ok (.iconst 0, 1) := dX12_most_53g.2.2.2.2.2.2.2.1
theorem dX12_most_70 : decode cX12_most 70 = .ok (.iadd, 1) := dX12_most_53g.2.2.2.2.2.2.2.2.1
theorem dX12_most_71 : decode cX12_most 71 = .ok (.istore 6, 2) := dX12_most_53g.2.2.2.2.2.2.2.2.2
theorem dX12_most_73g : (decode cX12_most 73 = .ok (.iload 8, 2)) ∧ (decode cX12_most 75 = .ok (.iload 5, 2)) ∧ (decode cX12_most 77 = .ok (.if_icmp .gt 6, 3)) ∧ (decode cX12_most 80 = .ok (.goto 11, 3)) ∧ (decode cX12_most 83 = .ok (.iload 8, 2)) ∧ (decode cX12_most 85 = .ok (.istore 5, 2)) ∧ (decode cX12_most 87 = .ok (.iload 7, 2)) ∧ (decode cX12_most 89 = .ok (.istore 4, 2)) ∧ (decode cX12_most 91 = .ok (.iinc 7 1, 3)) ∧ (decode cX12_most 94 = .ok (.goto (-53), 3)) := by decide +kernel
theorem dX12_most_73 : decode cX12_most 73 = .ok (.iload 8, 2) := dX12_most_73g.1
theorem dX12_most_75 : decode cX12_most 75 = .ok (.iload 5, 2) := dX12_most_73g.2.1
theorem dX12_most_77 : decode cX12_most 77 = .ok (.if_icmp .gt 6, 3) := dX12_most_73g.2.2.1
theorem dX12_most_80 : decode cX12_most 80 = .ok (.goto 11, 3) := dX12_most_73g.2.2.2.1
theorem dX12_most_83 : decode cX12_most 83 = .ok (.iload 8, 2) := dX12_most_73g.2.2.2.2.1
theorem dX12_most_85 : decode cX12_most 85 = .ok (.istore 5, 2) := dX12_most_73g.2.2.2.2.2.1
theorem dX12_most_87 : decode cX12_most 87 = .ok (.iload 7, 2) := dX12_most_73g.2.2.2.2.2.2.1
theorem dX12_most_89 : decode cX12_most 89 = .ok (.istore 4, 2) := dX12_most_73g.2.2.2.2.2.2.2.1
theorem dX12_most_91 : decode cX12_most 91 = .ok (.iinc 7 1, 3) := dX12_most_73g.2.2.2.2.2.2.2.2.1
theorem dX12_most_94 : decode cX12_most 94 = .ok (.goto (-53), 3) := dX12_most_73g.2.2.2.2.2.2.2.2.2
theorem dX12_most_97g : (decode cX12_most 97 = .ok (.iload_n 3, 1)) ∧ (decode cX12_most 98 = .ok (.ifCond .ne 8, 3)) ∧ (decode cX12_most 101 = .ok (.iload 4, 2)) ∧ (decode cX12_most 103 = .ok (.goto 5, 3)) ∧ (decode cX12_most 106 = .ok (.iload 6, 2)) ∧ (decode cX12_most 108 = .ok (.ireturn, 1)) := by decide +kernel
theorem dX12_most_97 : decode cX12_most 97 = .ok (.iload_n 3, 1) := dX12_most_97g.1
theorem dX12_most_98 : decode cX12_most 98 = .ok (.ifCond .ne 8, 3) := dX12_most_97g.2.1
theorem dX12_most_101 : decode cX12_most 101 = .ok (.iload 4, 2) := dX12_most_97g.2.2.1
theorem dX12_most_103 : decode cX12_most 103 = .ok (.goto 5, 3) := dX12_most_97g.2.2.2.1
theorem dX12_most_106 : decode cX12_most 106 = .ok (.iload 6, 2) := dX12_most_97g.2.2.2.2.1
theorem dX12_most_108 : decode cX12_most 108 = .ok (.ireturn, 1) := dX12_most_97g.2.2.2.2.2
set_option maxHeartbeats 4000000 in
set_option maxRecDepth 100000 in
theorem c_X12_most (l : Launch) (E : Nat → Nat) (D : va_G) (G : th_G) (h0 : Nat) (hG0 : G h0 = some (10, 0)) (x1 : Int32) (x2 : Int32) (x3 : Int32) : Met l yX12_most (tb (.code yX12_most cX12_most 9 (some .int))) (rm 69) (va_Pc [.ref h0, .int x1, .int x2, .int x3] (PX E D G (fun H => True))) (QXi E D G (fun r H => True)) 0 0 (th_A G) := by
  refine Met.ofW (cc := cX12_most) (maxL := 9) (ret := (some .int)) (by decide) rfl ?_
  intro p e s m args below meth c s₁ B hml hv
  obtain ⟨hav, ⟨hI, hN, hK⟩, hX⟩ := hv
  have hx := B.exec
  have hb := B.bytes
  have hr := B.returns
  have hts := atoms_spec (ws := tb (.code yX12_most cX12_most 9 (some .int))) B.pre
  have hown : s.vm.findClass RX12 = some m.cls := findClass_of_methodNamed B.named
  have hlocks := B.notSynchronized
  have hS : va_S (th_A G) s.heap s.heap [] := va_S.rf
  have hl := lv_entry ([.ref h0, .int x1, .int x2, .int x3]) (n := 9) (Nat.le_of_ble_eq_true rfl)
  rw [show entryFrame m args 9 = entryFrame m ([.ref h0, .int x1, .int x2, .int x3] : List Value).toArray 9 from by rw [hav], lg_entry_eq]
  generalize (lg_sl ([.ref h0, .int x1, .int x2, .int x3]) ++ List.replicate (9 - (lg_sl ([.ref h0, .int x1, .int x2, .int x3])).length) Slot.unset).toArray = ls at hl ⊢
  have hl : lv_has ls 9 [(0, .ref h0), (1, .int x1), (2, .int x2), (3, .int x3)] := hl
  generalize hR : (headSpec (tb (.code yX12_most cX12_most 9 (some .int))) (rm 69)).room = R
  have hR := hR.symm
  generalize hQ : MQ below (QXi E D G (fun r H => True)) args s 0 0 (th_A G) = QF
  have hQ := hQ.symm
  have J_41 : ∀ (nn : Nat) (H : Heap) (locs : List Loc) (ls : Array Slot) (v2651 : Int32) (v2652 : Int32) (v2653 : Int32) (v2654 : Int32) , (Int.toNat (24 - v2651.toInt) = nn) → lv_has ls 9 [(7, .int v2651), (6, .int v2652), (5, .int v2653), (4, .int v2654), (0, .ref h0), (1, .int x1), (2, .int x2), (3, .int x3)] → ((0 : Int) ≤ v2651.toInt ∧ v2651.toInt ≤ 24) → ((0 : Int) ≤ v2653.toInt) → ((-1 : Int) ≤ v2654.toInt ∧ v2654.toInt ≤ 23) → ((0 : Int) ≤ x1.toInt ∧ x1.toInt ≤ 96) → ((0 : Int) ≤ x2.toInt ∧ x2.toInt ≤ 3) → ((0 : Int) ≤ x3.toInt ∧ x3.toInt ≤ 1) → th_I (okM E) D G [] H → va_S (th_A G) s.heap H locs → W p l e R s m args below meth c H locs 0 0 QF (F0 m 41 ls []) := by
    intro nn
    induction nn using Nat.strongRecOn with
    | ind nn ih_41 =>
      intro H locs ls v2651 v2652 v2653 v2654  hm hl k2655 k2656 k2657 k2658 k2659 k2660 hI hS
      have J_70 : ∀ (H : Heap) (locs : List Loc) (ls : Array Slot) (v2661 : Int32) (v2666 : Int32) (v2667 : Int32) , lv_has ls 9 [(8, .int v2661), (7, .int v2651), (6, .int v2652), (5, .int v2653), (4, .int v2654), (0, .ref h0), (1, .int x1), (2, .int x2), (3, .int x3)] → ((0 : Int) ≤ v2651.toInt ∧ v2651.toInt ≤ 23) → ((0 : Int) ≤ v2666.toInt ∧ v2666.toInt ≤ 1) → th_I (okM E) D G [] H → va_S (th_A G) s.heap H locs → W p l e R s m args below meth c H locs 0 0 QF (F0 m 70 ls [.int v2666, .int v2667]) := by
        intro H locs ls v2661 v2666 v2667  hl k2668 k2669 hI hS
        refine lv_iadd hx hb dX12_most_70 ?_
        refine lv_topi (fun v2670 e2671 => ?_)
        try have tv2670 : v2670.toInt = v2667.toInt + v2666.toInt := iv_add rfl rfl e2671 (by omega) (by omega)
        refine lv_istore (lv' := [(6, .int v2670), (8, .int v2661), (7, .int v2651), (5, .int v2653), (4, .int v2654), (0, .ref h0), (1, .int x1), (2, .int x2), (3, .int x3)]) hx hb dX12_most_71 hl (by decide) rfl (fun ls hl => ?_)
        refine lv_iload hx hb dX12_most_73 (lv_at hl 1 rfl) ?_
        refine lv_iload hx hb dX12_most_75 (lv_at hl 3 rfl) ?_
        have k2672 := iv_lo v2661
        have k2673 := iv_hi v2661
        have k2674 := iv_lo v2653
        have k2675 := iv_hi v2653
        refine lv_icmp_gt (tgt := 83) hx hb dX12_most_77 (by decide) (fun c2676 => ?_) (fun c2676 => ?_)
        · skip
          have k2677 := iv_lt (X := v2653.toInt) (Y := v2661.toInt) rfl rfl c2676
          refine lv_iload hx hb dX12_most_83 (lv_at hl 1 rfl) ?_
          refine lv_istore (lv' := [(5, .int v2661), (6, .int v2670), (8, .int v2661), (7, .int v2651), (4, .int v2654), (0, .ref h0), (1, .int x1), (2, .int x2), (3, .int x3)]) hx hb dX12_most_85 hl (by decide) rfl (fun ls hl => ?_)
          refine lv_iload hx hb dX12_most_87 (lv_at hl 3 rfl) ?_
          refine lv_istore (lv' := [(4, .int v2651), (5, .int v2661), (6, .int v2670), (8, .int v2661), (7, .int v2651), (0, .ref h0), (1, .int x1), (2, .int x2), (3, .int x3)]) hx hb dX12_most_89 hl (by decide) rfl (fun ls hl => ?_)
          obtain ⟨v2678, e2679⟩ : ∃ y : Int32, y = v2651 + (1) := ⟨_, rfl⟩
          have tv2678 : v2678.toInt = v2651.toInt + (1) := iv_add rfl (by decide) e2679 (by omega) (by omega)
          refine lv_iinc (v := v2678) (lv' := [(7, .int v2678), (4, .int v2651), (5, .int v2661), (6, .int v2670), (8, .int v2661), (0, .ref h0), (1, .int x1), (2, .int x2), (3, .int x3)]) hx hb dX12_most_91 hl (k := 4) rfl (by rw [e2679]; rfl) (by decide) rfl (fun ls hl => ?_)
          refine lv_goto (tgt := 41) hx hb dX12_most_94 (by decide) ?_
          exact ih_41 _ (by omega) H locs ls v2678 v2670 v2661 v2651  rfl (lv_sub hl [0, 3, 2, 1, 5, 6, 7, 8] rfl) ⟨by omega, by omega⟩ (by omega) ⟨by omega, by omega⟩ ⟨by omega, by omega⟩ ⟨by omega, by omega⟩ ⟨by omega, by omega⟩ hI hS
        · skip
          have k2680 := iv_nlt (X := v2653.toInt) (Y := v2661.toInt) rfl rfl c2676
          refine lv_goto (tgt := 91) hx hb dX12_most_80 (by decide) ?_
          obtain ⟨v2681, e2682⟩ : ∃ y : Int32, y = v2651 + (1) := ⟨_, rfl⟩
          have tv2681 : v2681.toInt = v2651.toInt + (1) := iv_add rfl (by decide) e2682 (by omega) (by omega)
          refine lv_iinc (v := v2681) (lv' := [(7, .int v2681), (6, .int v2670), (8, .int v2661), (5, .int v2653), (4, .int v2654), (0, .ref h0), (1, .int x1), (2, .int x2), (3, .int x3)]) hx hb dX12_most_91 hl (k := 2) rfl (by rw [e2682]; rfl) (by decide) rfl (fun ls hl => ?_)
          refine lv_goto (tgt := 41) hx hb dX12_most_94 (by decide) ?_
          exact ih_41 _ (by omega) H locs ls v2681 v2670 v2653 v2654  rfl (lv_sub hl [0, 1, 3, 4, 5, 6, 7, 8] rfl) ⟨by omega, by omega⟩ (by omega) ⟨by omega, by omega⟩ ⟨by omega, by omega⟩ ⟨by omega, by omega⟩ ⟨by omega, by omega⟩ hI hS
      refine lv_iload hx hb dX12_most_41 (lv_at hl 0 rfl) ?_
      refine lv_bipush (v := 24) hx hb dX12_most_43 (by decide) ?_
      refine lv_icmp_ge (tgt := 97) hx hb dX12_most_45 (by decide) (fun c2683 => ?_) (fun c2683 => ?_)
      · skip
        have k2684 := iv_le (X := (24)) (Y := v2651.toInt) (by decide) rfl c2683
        refine lv_iload_n hx hb dX12_most_97 rfl (lv_at hl 7 rfl) ?_
        refine lv_if_ne (tgt := 106) hx hb dX12_most_98 (by decide) (fun c2685 => ?_) (fun c2685 => ?_)
        · skip
          have k2686 := iv_ne (X := x3.toInt) (Y := (0)) rfl (by decide) c2685
          refine lv_iload hx hb dX12_most_106 (lv_at hl 1 rfl) ?_
          have hpost : True := trivial
          rw [hQ]
          exact W.iret (v := v2652) hx hb hr (fun t ht hW => ⟨⟨v2652, v2652, rfl, rfl, ⟨by rw [ht]; exact hI, hN.warm hW, va_K.moved hW.alike hK⟩, by first | (rw [ht]; exact hpost) | exact hpost⟩, hS.F ht⟩) hS.2.2 dX12_most_108
        · skip
          have k2687 := iv_eq (X := x3.toInt) (Y := (0)) rfl (by decide) c2685
          refine lv_iload hx hb dX12_most_101 (lv_at hl 3 rfl) ?_
          refine lv_goto (tgt := 108) hx hb dX12_most_103 (by decide) ?_
          have hpost : True := trivial
          rw [hQ]
          exact W.iret (v := v2654) hx hb hr (fun t ht hW => ⟨⟨v2654, v2654, rfl, rfl, ⟨by rw [ht]; exact hI, hN.warm hW, va_K.moved hW.alike hK⟩, by first | (rw [ht]; exact hpost) | exact hpost⟩, hS.F ht⟩) hS.2.2 dX12_most_108
      · skip
        have k2688 := iv_nle (X := (24)) (Y := v2651.toInt) (by decide) rfl c2683
        refine lv_aload_n hx hb dX12_most_48 rfl (lv_at hl 4 rfl) ?_
        refine lv_iload hx hb dX12_most_49 (lv_at hl 0 rfl) ?_
        refine lv_iload_n hx hb dX12_most_51 rfl (lv_at hl 5 rfl) ?_
        refine lv_iload_n hx hb dX12_most_52 rfl (lv_at hl 6 rfl) ?_
        refine mr_i (As := [.int v2651, .int x1, .int x2]) (rest := []) (n := 3) (d := 1) ⟨hx, hb, hml, hown, hts⟩ (c_X12_dyeOf l E D G H h0 hG0 v2651 x1 x2 (by omega)) wd_1717 wd_1719 wp_82 wd_13 wd_1720 (by decide +kernel) ⟨by rw [hR]; exact Nat.le_of_ble_eq_true rfl, by rw [hR]; exact Nat.le_of_ble_eq_true rfl⟩ hI hN hK hS hG0 rfl hl.1 rfl (Nat.le_of_ble_eq_true rfl) dX12_most_53 ⟨Nat.zero_le _, Nat.zero_le _⟩ (fun r2689 locs hp hS => ?_)
        refine lv_istore (lv' := [(8, .int r2689), (7, .int v2651), (6, .int v2652), (5, .int v2653), (4, .int v2654), (0, .ref h0), (1, .int x1), (2, .int x2), (3, .int x3)]) hx hb dX12_most_56 hl (by decide) rfl (fun ls hl => ?_)
        refine lv_iload hx hb dX12_most_58 (lv_at hl 2 rfl) ?_
        refine lv_iload hx hb dX12_most_60 (lv_at hl 0 rfl) ?_
        have k2690 := iv_lo r2689
        have k2691 := iv_hi r2689
        refine lv_if_le (tgt := 69) hx hb dX12_most_62 (by decide) (fun c2692 => ?_) (fun c2692 => ?_)
        · skip
          have k2693 := iv_le (X := r2689.toInt) (Y := (0)) rfl (by decide) c2692
          refine lv_iconst (v := 0) hx hb dX12_most_69 (by decide) ?_
          exact J_70 H locs ls r2689 0 v2652  (lv_sub hl [0, 1, 2, 3, 4, 5, 6, 7, 8] rfl) ⟨by omega, by omega⟩ ⟨by decide, by decide⟩ hI hS
        · skip
          have k2694 := iv_nle (X := r2689.toInt) (Y := (0)) rfl (by decide) c2692
          refine lv_iconst (v := 1) hx hb dX12_most_65 (by decide) ?_
          refine lv_goto (tgt := 70) hx hb dX12_most_66 (by decide) ?_
          exact J_70 H locs ls r2689 1 v2652  (lv_sub hl [0, 1, 2, 3, 4, 5, 6, 7, 8] rfl) ⟨by omega, by omega⟩ ⟨by decide, by decide⟩ hI hS
  have J_23 : ∀ (H : Heap) (locs : List Loc) (ls : Array Slot)  , lv_has ls 9 [(0, .ref h0), (1, .int x1), (2, .int x2), (3, .int x3)] → th_I (okM E) D G [] H → va_S (th_A G) s.heap H locs → W p l e R s m args below meth c H locs 0 0 QF (F0 m 23 ls []) := by
    intro H locs ls   hl  hI hS
    refine lv_iconst (v := (-1)) hx hb dX12_most_23 (by decide) ?_
    have hpost : True := trivial
    rw [hQ]
    exact W.iret (v := (-1)) hx hb hr (fun t ht hW => ⟨⟨(-1), (-1), rfl, rfl, ⟨by rw [ht]; exact hI, hN.warm hW, va_K.moved hW.alike hK⟩, by first | (rw [ht]; exact hpost) | exact hpost⟩, hS.F ht⟩) hS.2.2 dX12_most_24
  refine lv_iload_n hx hb dX12_most_0 rfl (lv_at hl 1 rfl) ?_
  refine th_cSs (As := [.int x1]) (rest := []) (n := 1) (d := 1) ⟨hx, hb, hml, hown, hts⟩ (c_X12_isTime l s.heap x1) wd_1655 wd_1656 wd_13 wd_1657 (by decide +kernel) ⟨by rw [hR]; exact Nat.le_of_ble_eq_true rfl, by rw [hR]; exact Nat.le_of_ble_eq_true rfl⟩ hN hS rfl hl.1 rfl (Nat.le_of_ble_eq_true rfl) dX12_most_1 ⟨Nat.zero_le _, Nat.zero_le _⟩ (fun r2695 locs hp hS => ?_)
  rcases hp with ⟨rfl, hp⟩ | ⟨rfl, hp⟩
  · skip
    try simp only [rg, not_and, Int.not_le] at hp
    have hp2696 := hp
    refine lv_if_eq (tgt := 23) hx hb dX12_most_4 (by decide) (fun c => absurd c (by decide)) (fun _ => ?_)
    refine lv_iload_n hx hb dX12_most_7 rfl (lv_at hl 2 rfl) ?_
    refine th_cSs (As := [.int x2]) (rest := []) (n := 1) (d := 1) ⟨hx, hb, hml, hown, hts⟩ (c_X12_isColour l s.heap x2) wd_1545 wd_1546 wd_13 wd_1547 (by decide +kernel) ⟨by rw [hR]; exact Nat.le_of_ble_eq_true rfl, by rw [hR]; exact Nat.le_of_ble_eq_true rfl⟩ hN hS rfl hl.1 rfl (Nat.le_of_ble_eq_true rfl) dX12_most_8 ⟨Nat.zero_le _, Nat.zero_le _⟩ (fun r2697 locs hp hS => ?_)
    rcases hp with ⟨rfl, hp⟩ | ⟨rfl, hp⟩
    · skip
      try simp only [rg, not_and, Int.not_le] at hp
      have hp2698 := hp
      refine lv_if_eq (tgt := 23) hx hb dX12_most_11 (by decide) (fun c => absurd c (by decide)) (fun _ => ?_)
      refine lv_iload_n hx hb dX12_most_14 rfl (lv_at hl 3 rfl) ?_
      refine lv_iconst (v := 0) hx hb dX12_most_15 (by decide) ?_
      refine lv_iconst (v := 1) hx hb dX12_most_16 (by decide) ?_
      refine th_cSs (As := [.int x3, .int 0, .int 1]) (rest := []) (n := 3) (d := 0) ⟨hx, hb, hml, hown, hts⟩ (c_X12_lies l s.heap x3 0 1) wd_1395 wd_1396 wd_13 wd_1397 (by decide +kernel) ⟨by rw [hR]; exact Nat.le_of_ble_eq_true rfl, by rw [hR]; exact Nat.le_of_ble_eq_true rfl⟩ hN hS rfl hl.1 rfl (Nat.le_of_ble_eq_true rfl) dX12_most_17 ⟨Nat.zero_le _, Nat.zero_le _⟩ (fun r2699 locs hp hS => ?_)
      rcases hp with ⟨rfl, hp⟩ | ⟨rfl, hp⟩
      · skip
        try simp only [rg, not_and, Int.not_le] at hp
        have hp2700 := hp
        try rw [show (0 : Int32).toInt = 0 from by decide] at hp2700
        try rw [show (1 : Int32).toInt = 1 from by decide] at hp2700
        refine lv_if_ne (tgt := 25) hx hb dX12_most_20 (by decide) (fun _ => ?_) (fun c => absurd c (by decide))
        refine lv_aload_n hx hb dX12_most_25 rfl (lv_at hl 0 rfl) ?_
        refine mx_v (As := []) (rest := []) (n := 0) (d := 68) ⟨hx, hb, hml, hown, hts⟩ (c_X12_looks l E D G h0 hG0 ) wd_1455 wd_1457 wp_43 wd_13 wd_1458 (by decide +kernel) ⟨by rw [hR]; exact Nat.le_of_ble_eq_true rfl, by rw [hR]; exact Nat.le_of_ble_eq_true rfl⟩ hI hN hK hS hG0 (trivial) rfl hl.1 rfl (Nat.le_of_ble_eq_true rfl) dX12_most_26 ⟨Nat.zero_le _, Nat.zero_le _⟩ (fun H locs hI hp hS => ?_)
        refine lv_iconst (v := (-1)) hx hb dX12_most_29 (by decide) ?_
        refine lv_istore (lv' := [(4, .int (-1)), (0, .ref h0), (1, .int x1), (2, .int x2), (3, .int x3)]) hx hb dX12_most_30 hl (by decide) rfl (fun ls hl => ?_)
        refine lv_iconst (v := 0) hx hb dX12_most_32 (by decide) ?_
        refine lv_istore (lv' := [(5, .int 0), (4, .int (-1)), (0, .ref h0), (1, .int x1), (2, .int x2), (3, .int x3)]) hx hb dX12_most_33 hl (by decide) rfl (fun ls hl => ?_)
        refine lv_iconst (v := 0) hx hb dX12_most_35 (by decide) ?_
        refine lv_istore (lv' := [(6, .int 0), (5, .int 0), (4, .int (-1)), (0, .ref h0), (1, .int x1), (2, .int x2), (3, .int x3)]) hx hb dX12_most_36 hl (by decide) rfl (fun ls hl => ?_)
        refine lv_iconst (v := 0) hx hb dX12_most_38 (by decide) ?_
        refine lv_istore (lv' := [(7, .int 0), (6, .int 0), (5, .int 0), (4, .int (-1)), (0, .ref h0), (1, .int x1), (2, .int x2), (3, .int x3)]) hx hb dX12_most_39 hl (by decide) rfl (fun ls hl => ?_)
        have zl : (0 : Int32).toInt = 0 := by decide
        exact J_41 _ H locs ls 0 0 0 (-1)  rfl (lv_sub hl [0, 1, 2, 3, 4, 5, 6, 7] rfl) ⟨by decide, by decide⟩ (by decide) ⟨by decide, by decide⟩ ⟨by omega, by omega⟩ ⟨by omega, by omega⟩ ⟨by omega, by omega⟩ hI hS
      · skip
        try simp only [rg, not_and, Int.not_le] at hp
        have hp2702 := hp
        try rw [show (0 : Int32).toInt = 0 from by decide] at hp2702
        try rw [show (1 : Int32).toInt = 1 from by decide] at hp2702
        refine lv_if_ne (tgt := 25) hx hb dX12_most_20 (by decide) (fun c => absurd c (by decide)) (fun _ => ?_)
        exact J_23 s.heap locs ls   (lv_sub hl [0, 1, 2, 3] rfl)  hI hS
    · skip
      try simp only [rg, not_and, Int.not_le] at hp
      have hp2703 := hp
      refine lv_if_eq (tgt := 23) hx hb dX12_most_11 (by decide) (fun _ => ?_) (fun c => absurd c (by decide))
      exact J_23 s.heap locs ls   (lv_sub hl [0, 1, 2, 3] rfl)  hI hS
  · skip
    try simp only [rg, not_and, Int.not_le] at hp
    have hp2704 := hp
    refine lv_if_eq (tgt := 23) hx hb dX12_most_4 (by decide) (fun _ => ?_) (fun c => absurd c (by decide))
    exact J_23 s.heap locs ls   (lv_sub hl [0, 1, 2, 3] rfl)  hI hS
theorem dX12_thereAt_0g : (decode cX12_thereAt 0 = .ok (.iload_n 1, 1)) ∧ (decode cX12_thereAt 1 = .ok (.istore 6, 2)) ∧ (decode cX12_thereAt 3 = .ok (.iload_n 2, 1)) ∧ (decode cX12_thereAt 4 = .ok (.istore 7, 2)) ∧ (decode cX12_thereAt 6 = .ok (.iload 7, 2)) ∧ (decode cX12_thereAt 8 = .ok (.iload 5, 2)) ∧ (decode cX12_thereAt 10 = .ok (.if_icmp .gt 47, 3)) ∧ (decode cX12_thereAt 13 = .ok (.iload 7, 2)) ∧ (decode cX12_thereAt 15 = .ok (.iload 4, 2)) ∧ (decode cX12_thereAt 17 = .ok (.if_icmp .lt 12, 3)) := by decide +kernel
theorem dX12_thereAt_0 : decode cX12_thereAt 0 = .ok (.iload_n 1, 1) := dX12_thereAt_0g.1
theorem dX12_thereAt_1 : decode cX12_thereAt 1 = .ok (.istore 6, 2) := dX12_thereAt_0g.2.1
theorem dX12_thereAt_3 : decode cX12_thereAt 3 = .ok (.iload_n 2, 1) := dX12_thereAt_0g.2.2.1
theorem dX12_thereAt_4 : decode cX12_thereAt 4 = .ok (.istore 7, 2) := dX12_thereAt_0g.2.2.2.1
theorem dX12_thereAt_6 : decode cX12_thereAt 6 = .ok (.iload 7, 2) := dX12_thereAt_0g.2.2.2.2.1
theorem dX12_thereAt_8 : decode cX12_thereAt 8 = .ok (.iload 5, 2) := dX12_thereAt_0g.2.2.2.2.2.1
theorem dX12_thereAt_10 : decode cX12_thereAt 10 = .ok (.if_icmp .gt 47, 3) := dX12_thereAt_0g.2.2.2.2.2.2.1
theorem dX12_thereAt_13 : decode cX12_thereAt 13 = .ok (.iload 7, 2) := dX12_thereAt_0g.2.2.2.2.2.2.2.1
theorem dX12_thereAt_15 : decode cX12_thereAt 15 = .ok (.iload 4, 2) := dX12_thereAt_0g.2.2.2.2.2.2.2.2.1
theorem dX12_thereAt_17 : decode cX12_thereAt 17 = .ok (.if_icmp .lt 12, 3) := dX12_thereAt_0g.2.2.2.2.2.2.2.2.2
theorem dX12_thereAt_20g : (decode cX12_thereAt 20 = .ok (.iload 6, 2)) ∧ (decode cX12_thereAt 22 = .ok (.iload_n 3, 1)) ∧ (decode cX12_thereAt 23 = .ok (.if_icmp .ne 6, 3)) ∧ (decode cX12_thereAt 26 = .ok (.iload 7, 2)) ∧ (decode cX12_thereAt 28 = .ok (.ireturn, 1)) ∧ (decode cX12_thereAt 29 = .ok (.iload 7, 2)) ∧ (decode cX12_thereAt 31 = .ok (.bipush 96, 2)) ∧ (decode cX12_thereAt 33 = .ok (.if_icmp .ge 18, 3)) ∧ (decode cX12_thereAt 36 = .ok (.aload_n 0, 1)) ∧ (decode cX12_thereAt 37 = .ok (.getfield 67, 3)) := by decide +kernel
theorem dX12_thereAt_20 : decode cX12_thereAt 20 = .ok (.iload 6, 2) := dX12_thereAt_20g.1
theorem dX12_thereAt_22 : decode cX12_thereAt 22 = .ok (.iload_n 3, 1) := dX12_thereAt_20g.2.1
theorem dX12_thereAt_23 : decode cX12_thereAt 23 = .ok (.if_icmp .ne 6, 3) := dX12_thereAt_20g.2.2.1
theorem dX12_thereAt_26 : decode cX12_thereAt 26 = .ok (.iload 7, 2) := dX12_thereAt_20g.2.2.2.1
theorem dX12_thereAt_28 : decode cX12_thereAt 28 = .ok (.ireturn, 1) := dX12_thereAt_20g.2.2.2.2.1
theorem dX12_thereAt_29 : decode cX12_thereAt 29 = .ok (.iload 7, 2) := dX12_thereAt_20g.2.2.2.2.2.1
theorem dX12_thereAt_31 : decode cX12_thereAt 31 = .ok (.bipush 96, 2) := dX12_thereAt_20g.2.2.2.2.2.2.1
theorem dX12_thereAt_33 : decode cX12_thereAt 33 = .ok (.if_icmp .ge 18, 3) := dX12_thereAt_20g.2.2.2.2.2.2.2.1
theorem dX12_thereAt_36 : decode cX12_thereAt 36 = .ok (.aload_n 0, 1) := dX12_thereAt_20g.2.2.2.2.2.2.2.2.1
theorem dX12_thereAt_37 : decode cX12_thereAt 37 = .ok (.getfield 67, 3) := dX12_thereAt_20g.2.2.2.2.2.2.2.2.2
theorem dX12_thereAt_40g : (decode cX12_thereAt 40 = .ok (.bipush 25, 2)) ∧ (decode cX12_thereAt 42 = .ok (.iload 7, 2)) ∧ (decode cX12_thereAt 44 = .ok (.imul, 1)) ∧ (decode cX12_thereAt 45 = .ok (.iload 6, 2)) ∧ (decode cX12_thereAt 47 = .ok (.iadd, 1)) ∧ (decode cX12_thereAt 48 = .ok (.iaload, 1)) ∧ (decode cX12_thereAt 49 = .ok (.istore 6, 2)) ∧ (decode cX12_thereAt 51 = .ok (.iinc 7 1, 3)) ∧ (decode cX12_thereAt 54 = .ok (.goto (-48), 3)) ∧ (decode cX12_thereAt 57 = .ok (.iconst (-1), 1)) := by decide +kernel
theorem dX12_thereAt_40 : decode cX12_thereAt 40 = .ok (.bipush 25, 2) := dX12_thereAt_40g.1
theorem dX12_thereAt_42 : decode cX12_thereAt 42 = .ok (.iload 7, 2) := dX12_thereAt_40g.2.1
theorem dX12_thereAt_44 : decode cX12_thereAt 44 = .ok (.imul, 1) := dX12_thereAt_40g.2.2.1
theorem dX12_thereAt_45 : decode cX12_thereAt 45 = .ok (.iload 6, 2) := dX12_thereAt_40g.2.2.2.1
theorem dX12_thereAt_47 : decode cX12_thereAt 47 = .ok (.iadd, 1) := dX12_thereAt_40g.2.2.2.2.1
theorem dX12_thereAt_48 : decode cX12_thereAt 48 = .ok (.iaload, 1) := dX12_thereAt_40g.2.2.2.2.2.1
theorem dX12_thereAt_49 : decode cX12_thereAt 49 = .ok (.istore 6, 2) := dX12_thereAt_40g.2.2.2.2.2.2.1
theorem dX12_thereAt_51 : decode cX12_thereAt 51 = .ok (.iinc 7 1, 3) := dX12_thereAt_40g.2.2.2.2.2.2.2.1
theorem dX12_thereAt_54 : decode cX12_thereAt 54 = .ok (.goto (-48), 3) := dX12_thereAt_40g.2.2.2.2.2.2.2.2.1
theorem dX12_thereAt_57 : decode cX12_thereAt 57 = .ok (.iconst (-1), 1) := dX12_thereAt_40g.2.2.2.2.2.2.2.2.2
theorem dX12_thereAt_58 : decode cX12_thereAt 58 = .ok (.ireturn, 1) := by decide +kernel
set_option maxHeartbeats 4000000 in
set_option maxRecDepth 100000 in
theorem c_X12_thereAt (l : Launch) (E : Nat → Nat) (D : va_G) (G : th_G) (H0 : Heap) (h0 : Nat) (hG0 : G h0 = some (10, 0)) (x1 : Int32) (x2 : Int32) (x3 : Int32) (x4 : Int32) (x5 : Int32) (hx1 : (0 : Int) ≤ x1.toInt ∧ x1.toInt ≤ 24) (hx2 : (0 : Int) ≤ x2.toInt) (hx5 : x5.toInt ≤ 96) : Met l yX12_thereAt (tb (.code yX12_thereAt cX12_thereAt 8 (some .int))) (rm 0) (va_Pc [.ref h0, .int x1, .int x2, .int x3, .int x4, .int x5] (PR E D G H0)) (QS H0 (fun r => (-1 : Int) ≤ (r : Int32).toInt ∧ (r : Int32).toInt ≤ 96)) 0 0 (fun _ => False) := by
  refine Met.ofW (cc := cX12_thereAt) (maxL := 8) (ret := (some .int)) (by decide) rfl ?_
  intro p e s m args below meth c s₁ B hml hv
  obtain ⟨hav, rfl, hI, hN, hK⟩ := hv
  have hx := B.exec
  have hb := B.bytes
  have hr := B.returns
  have hts := atoms_spec (ws := tb (.code yX12_thereAt cX12_thereAt 8 (some .int))) B.pre
  have hown : s.vm.findClass RX12 = some m.cls := findClass_of_methodNamed B.named
  have hlocks := B.notSynchronized
  have hS : va_S (fun _ => False) s.heap s.heap [] := va_S.rf
  have hl := lv_entry ([.ref h0, .int x1, .int x2, .int x3, .int x4, .int x5]) (n := 8) (Nat.le_of_ble_eq_true rfl)
  rw [show entryFrame m args 8 = entryFrame m ([.ref h0, .int x1, .int x2, .int x3, .int x4, .int x5] : List Value).toArray 8 from by rw [hav], lg_entry_eq]
  generalize (lg_sl ([.ref h0, .int x1, .int x2, .int x3, .int x4, .int x5]) ++ List.replicate (8 - (lg_sl ([.ref h0, .int x1, .int x2, .int x3, .int x4, .int x5])).length) Slot.unset).toArray = ls at hl ⊢
  have hl : lv_has ls 8 [(0, .ref h0), (1, .int x1), (2, .int x2), (3, .int x3), (4, .int x4), (5, .int x5)] := hl
  generalize hR : (headSpec (tb (.code yX12_thereAt cX12_thereAt 8 (some .int))) (rm 0)).room = R
  have hR := hR.symm
  generalize hQ : MQ below (QS s.heap (fun r => (-1 : Int) ≤ (r : Int32).toInt ∧ (r : Int32).toInt ≤ 96)) args s 0 0 (fun _ => False) = QF
  have hQ := hQ.symm
  obtain ⟨q_3, hq_3, hf_3⟩ := fr_of hI hG0 3 (by decide) (kd := (1, 5123)) rfl
  obtain ⟨F_3, hA_3, hP_3⟩ := om_1 hI hq_3 List.not_mem_nil
  have J_6 : ∀ (nn : Nat) (locs : List Loc) (ls : Array Slot) (v299 : Int32) (v300 : Int32) , (Int.toNat (97 - v299.toInt) = nn) → lv_has ls 8 [(7, .int v299), (6, .int v300), (0, .ref h0), (1, .int x1), (2, .int x2), (3, .int x3), (4, .int x4), (5, .int x5)] → ((0 : Int) ≤ v299.toInt) → ((0 : Int) ≤ v300.toInt ∧ v300.toInt ≤ 24) → ((0 : Int) ≤ x1.toInt ∧ x1.toInt ≤ 24) → ((0 : Int) ≤ x2.toInt) → (x5.toInt ≤ 96) → va_S (fun _ => False) s.heap s.heap locs → W p l e R s m args below meth c s.heap locs 0 0 QF (F0 m 6 ls []) := by
    intro nn
    induction nn using Nat.strongRecOn with
    | ind nn ih_6 =>
      intro locs ls v299 v300  hm hl k301 k302 k303 k304 k305 hS
      have J_29 : ∀ (locs : List Loc) (ls : Array Slot)  , lv_has ls 8 [(7, .int v299), (6, .int v300), (0, .ref h0), (1, .int x1), (2, .int x2), (3, .int x3), (4, .int x4), (5, .int x5)] → ((0 : Int) ≤ v299.toInt ∧ v299.toInt ≤ 96) → ((0 : Int) ≤ x5.toInt ∧ x5.toInt ≤ 96) → va_S (fun _ => False) s.heap s.heap locs → W p l e R s m args below meth c s.heap locs 0 0 QF (F0 m 29 ls []) := by
        intro locs ls   hl k308 k309 hS
        refine lv_iload hx hb dX12_thereAt_29 (lv_at hl 0 rfl) ?_
        refine lv_bipush (v := 96) hx hb dX12_thereAt_31 (by decide) ?_
        refine lv_icmp_ge (tgt := 51) hx hb dX12_thereAt_33 (by decide) (fun c310 => ?_) (fun c310 => ?_)
        · skip
          have k311 := iv_le (X := (96)) (Y := v299.toInt) (by decide) rfl c310
          obtain ⟨v312, e313⟩ : ∃ y : Int32, y = v299 + (1) := ⟨_, rfl⟩
          have tv312 : v312.toInt = v299.toInt + (1) := iv_add rfl (by decide) e313 (by omega) (by omega)
          refine lv_iinc (v := v312) (lv' := [(7, .int v312), (6, .int v300), (0, .ref h0), (1, .int x1), (2, .int x2), (3, .int x3), (4, .int x4), (5, .int x5)]) hx hb dX12_thereAt_51 hl (k := 0) rfl (by rw [e313]; rfl) (by decide) rfl (fun ls hl => ?_)
          refine lv_goto (tgt := 6) hx hb dX12_thereAt_54 (by decide) ?_
          exact ih_6 _ (by omega) locs ls v312 v300  rfl (lv_sub hl [0, 1, 2, 3, 4, 5, 6, 7] rfl) (by omega) ⟨by omega, by omega⟩ ⟨by omega, by omega⟩ (by omega) (by omega) hS
        · skip
          have k314 := iv_nle (X := (96)) (Y := v299.toInt) (by decide) rfl c310
          refine lv_aload_n hx hb dX12_thereAt_36 rfl (lv_at hl 2 rfl) ?_
          refine gmA hx hb hts inT12 hown hK hI List.not_mem_nil hG0 27 (by decide) (hts _ (tb_c wd_1260)) rfl rfl dX12_thereAt_37 (fun a315 hq316 hf317 => ?_)
          refine lv_bipush (v := 25) hx hb dX12_thereAt_40 (by decide) ?_
          refine lv_iload hx hb dX12_thereAt_42 (lv_at hl 0 rfl) ?_
          refine lv_imul hx hb dX12_thereAt_44 ?_
          refine lv_topi (fun v318 e319 => ?_)
          have tv318 : v318.toInt = (25) * v299.toInt := iv_mul (by decide) rfl e319 (by omega) (by omega)
          refine lv_iload hx hb dX12_thereAt_45 (lv_at hl 1 rfl) ?_
          refine lv_iadd hx hb dX12_thereAt_47 ?_
          refine lv_topi (fun v320 e321 => ?_)
          have tv320 : v320.toInt = v318.toInt + v300.toInt := iv_add rfl rfl e321 (by omega) (by omega)
          obtain ⟨F322, hA323, hP324⟩ := om_3 hI hq316 List.not_mem_nil
          refine th_iald hx hb hK hA323 0 rfl (iv_in (X := v320.toInt) rfl (by omega) (by omega)) dX12_thereAt_48 (fun v325 e326 => ?_)
          have k327 := rgs_get hP324 e326 (X := v320.toInt) rfl (by omega) (by omega)
          refine lv_istore (lv' := [(6, .int v325), (7, .int v299), (0, .ref h0), (1, .int x1), (2, .int x2), (3, .int x3), (4, .int x4), (5, .int x5)]) hx hb dX12_thereAt_49 hl (by decide) rfl (fun ls hl => ?_)
          obtain ⟨v328, e329⟩ : ∃ y : Int32, y = v299 + (1) := ⟨_, rfl⟩
          have tv328 : v328.toInt = v299.toInt + (1) := iv_add rfl (by decide) e329 (by omega) (by omega)
          refine lv_iinc (v := v328) (lv' := [(7, .int v328), (6, .int v325), (0, .ref h0), (1, .int x1), (2, .int x2), (3, .int x3), (4, .int x4), (5, .int x5)]) hx hb dX12_thereAt_51 hl (k := 1) rfl (by rw [e329]; rfl) (by decide) rfl (fun ls hl => ?_)
          refine lv_goto (tgt := 6) hx hb dX12_thereAt_54 (by decide) ?_
          exact ih_6 _ (by omega) locs ls v328 v325  rfl (lv_sub hl [0, 1, 2, 3, 4, 5, 6, 7] rfl) (by omega) ⟨by omega, by omega⟩ ⟨by omega, by omega⟩ (by omega) (by omega) hS
      refine lv_iload hx hb dX12_thereAt_6 (lv_at hl 0 rfl) ?_
      refine lv_iload hx hb dX12_thereAt_8 (lv_at hl 7 rfl) ?_
      have k330 := iv_lo v299
      have k331 := iv_hi v299
      have k332 := iv_lo x5
      have k333 := iv_hi x5
      refine lv_icmp_gt (tgt := 57) hx hb dX12_thereAt_10 (by decide) (fun c334 => ?_) (fun c334 => ?_)
      · skip
        have k335 := iv_lt (X := x5.toInt) (Y := v299.toInt) rfl rfl c334
        refine lv_iconst (v := (-1)) hx hb dX12_thereAt_57 (by decide) ?_
        have hpost : (-1 : Int) ≤ ((-1) : Int32).toInt ∧ ((-1) : Int32).toInt ≤ 96 := by first | decide | omega
        rw [hQ]
        exact W.iret (v := (-1)) hx hb hr (fun t ht hW => ⟨⟨(-1), (), rfl, hpost, ht⟩, hS.F ht⟩) hS.2.2 dX12_thereAt_58
      · skip
        have k336 := iv_nlt (X := x5.toInt) (Y := v299.toInt) rfl rfl c334
        refine lv_iload hx hb dX12_thereAt_13 (lv_at hl 0 rfl) ?_
        refine lv_iload hx hb dX12_thereAt_15 (lv_at hl 6 rfl) ?_
        have k337 := iv_lo x4
        have k338 := iv_hi x4
        refine lv_icmp_lt (tgt := 29) hx hb dX12_thereAt_17 (by decide) (fun c339 => ?_) (fun c339 => ?_)
        · skip
          have k340 := iv_lt (X := v299.toInt) (Y := x4.toInt) rfl rfl c339
          exact J_29 locs ls   (lv_sub hl [0, 1, 2, 3, 4, 5, 6, 7] rfl) ⟨by omega, by omega⟩ ⟨by omega, by omega⟩ hS
        · skip
          have k341 := iv_nlt (X := v299.toInt) (Y := x4.toInt) rfl rfl c339
          refine lv_iload hx hb dX12_thereAt_20 (lv_at hl 1 rfl) ?_
          refine lv_iload_n hx hb dX12_thereAt_22 rfl (lv_at hl 5 rfl) ?_
          have k342 := iv_lo x3
          have k343 := iv_hi x3
          refine lv_icmp_ne (tgt := 29) hx hb dX12_thereAt_23 (by decide) (fun c344 => ?_) (fun c344 => ?_)
          · skip
            have k345 := iv_ne (X := v300.toInt) (Y := x3.toInt) rfl rfl c344
            exact J_29 locs ls   (lv_sub hl [0, 1, 2, 3, 4, 5, 6, 7] rfl) ⟨by omega, by omega⟩ ⟨by omega, by omega⟩ hS
          · skip
            have k346 := iv_eq (X := v300.toInt) (Y := x3.toInt) rfl rfl c344
            refine lv_iload hx hb dX12_thereAt_26 (lv_at hl 0 rfl) ?_
            have hpost : (-1 : Int) ≤ (v299 : Int32).toInt ∧ (v299 : Int32).toInt ≤ 96 := by first | decide | omega
            rw [hQ]
            exact W.iret (v := v299) hx hb hr (fun t ht hW => ⟨⟨v299, (), rfl, hpost, ht⟩, hS.F ht⟩) hS.2.2 dX12_thereAt_28
  refine lv_iload_n hx hb dX12_thereAt_0 rfl (lv_at hl 1 rfl) ?_
  refine lv_istore (lv' := [(6, .int x1), (0, .ref h0), (1, .int x1), (2, .int x2), (3, .int x3), (4, .int x4), (5, .int x5)]) hx hb dX12_thereAt_1 hl (by decide) rfl (fun ls hl => ?_)
  refine lv_iload_n hx hb dX12_thereAt_3 rfl (lv_at hl 3 rfl) ?_
  refine lv_istore (lv' := [(7, .int x2), (6, .int x1), (0, .ref h0), (1, .int x1), (2, .int x2), (3, .int x3), (4, .int x4), (5, .int x5)]) hx hb dX12_thereAt_4 hl (by decide) rfl (fun ls hl => ?_)
  exact J_6 _ [] ls x2 x1  rfl (lv_sub hl [0, 1, 2, 3, 4, 5, 6, 7] rfl) (by omega) ⟨by omega, by omega⟩ ⟨by omega, by omega⟩ (by omega) (by omega) hS
theorem dX12_findsThrow_0g : (decode cX12_findsThrow 0 = .ok (.aload_n 0, 1)) ∧ (decode cX12_findsThrow 1 = .ok (.iconst (-1), 1)) ∧ (decode cX12_findsThrow 2 = .ok (.putfield 325, 3)) ∧ (decode cX12_findsThrow 5 = .ok (.iload 4, 2)) ∧ (decode cX12_findsThrow 7 = .ok (.istore 5, 2)) ∧ (decode cX12_findsThrow 9 = .ok (.iload 5, 2)) ∧ (decode cX12_findsThrow 11 = .ok (.bipush 96, 2)) ∧ (decode cX12_findsThrow 13 = .ok (.if_icmp .ge 146, 3)) ∧ (decode cX12_findsThrow 16 = .ok (.iload 5, 2)) ∧ (decode cX12_findsThrow 18 = .ok (.iload_n 3, 1)) := by decide +kernel
theorem dX12_findsThrow_0 : decode cX12_findsThrow 0 = .ok (.aload_n 0, 1) := dX12_findsThrow_0g.1
theorem dX12_findsThrow_1 : decode cX12_findsThrow 1 = .ok (.iconst (-1), 1) := dX12_findsThrow_0g.2.1
theorem dX12_findsThrow_2 : decode cX12_findsThrow 2 = .ok (.putfield 325, 3) := dX12_findsThrow_0g.2.2.1
theorem dX12_findsThrow_5 : decode cX12_findsThrow 5 = .ok (.iload 4, 2) := dX12_findsThrow_0g.2.2.2.1
theorem dX12_findsThrow_7 : decode cX12_findsThrow 7 = .ok (.istore 5, 2) := dX12_findsThrow_0g.2.2.2.2.1
theorem dX12_findsThrow_9 : decode cX12_findsThrow 9 = .ok (.iload 5, 2) := dX12_findsThrow_0g.2.2.2.2.2.1
theorem dX12_findsThrow_11 : decode cX12_findsThrow 11 = .ok (.bipush 96, 2) := dX12_findsThrow_0g.2.2.2.2.2.2.1
theorem dX12_findsThrow_13 : decode cX12_findsThrow 13 = .ok (.if_icmp .ge 146, 3) := dX12_findsThrow_0g.2.2.2.2.2.2.2.1
theorem dX12_findsThrow_16 : decode cX12_findsThrow 16 = .ok (.iload 5, 2) := dX12_findsThrow_0g.2.2.2.2.2.2.2.2.1
theorem dX12_findsThrow_18 : decode cX12_findsThrow 18 = .ok (.iload_n 3, 1) := dX12_findsThrow_0g.2.2.2.2.2.2.2.2.2
theorem dX12_findsThrow_19g : (decode cX12_findsThrow 19 = .ok (.if_icmp .gt 140, 3)) ∧ (decode cX12_findsThrow 22 = .ok (.iconst 0, 1)) ∧ (decode cX12_findsThrow 23 = .ok (.istore 6, 2)) ∧ (decode cX12_findsThrow 25 = .ok (.iload 6, 2)) ∧ (decode cX12_findsThrow 27 = .ok (.bipush 24, 2)) ∧ (decode cX12_findsThrow 29 = .ok (.if_icmp .ge 124, 3)) ∧ (decode cX12_findsThrow 32 = .ok (.aload_n 0, 1)) ∧ (decode cX12_findsThrow 33 = .ok (.getfield 64, 3)) ∧ (decode cX12_findsThrow 36 = .ok (.bipush 24, 2)) ∧ (decode cX12_findsThrow 38 = .ok (.iload 5, 2)) := by decide +kernel
theorem dX12_findsThrow_19 : decode cX12_findsThrow 19 = .ok (.if_icmp .gt 140, 3) := dX12_findsThrow_19g.1
theorem dX12_findsThrow_22 : decode cX12_findsThrow 22 = .ok (.iconst 0, 1) := dX12_findsThrow_19g.2.1
theorem dX12_findsThrow_23 : decode cX12_findsThrow 23 = .ok (.istore 6, 2) := dX12_findsThrow_19g.2.2.1
theorem dX12_findsThrow_25 : decode cX12_findsThrow 25 = .ok (.iload 6, 2) := dX12_findsThrow_19g.2.2.2.1
theorem dX12_findsThrow_27 : decode cX12_findsThrow 27 = .ok (.bipush 24, 2) := dX12_findsThrow_19g.2.2.2.2.1
theorem dX12_findsThrow_29 : decode cX12_findsThrow 29 = .ok (.if_icmp .ge 124, 3) := dX12_findsThrow_19g.2.2.2.2.2.1
theorem dX12_findsThrow_32 : decode cX12_findsThrow 32 = .ok (.aload_n 0, 1) := dX12_findsThrow_19g.2.2.2.2.2.2.1
theorem dX12_findsThrow_33 : decode cX12_findsThrow 33 = .ok (.getfield 64, 3) := dX12_findsThrow_19g.2.2.2.2.2.2.2.1
theorem dX12_findsThrow_36 : decode cX12_findsThrow 36 = .ok (.bipush 24, 2) := dX12_findsThrow_19g.2.2.2.2.2.2.2.2.1
theorem dX12_findsThrow_38 : decode cX12_findsThrow 38 = .ok (.iload 5, 2) := dX12_findsThrow_19g.2.2.2.2.2.2.2.2.2
theorem dX12_findsThrow_40g : (decode cX12_findsThrow 40 = .ok (.imul, 1)) ∧ (decode cX12_findsThrow 41 = .ok (.iload 6, 2)) ∧ (decode cX12_findsThrow 43 = .ok (.iadd, 1)) ∧ (decode cX12_findsThrow 44 = .ok (.baload, 1)) ∧ (decode cX12_findsThrow 45 = .ok (.ifCond .eq 6, 3)) ∧ (decode cX12_findsThrow 48 = .ok (.goto 99, 3)) ∧ (decode cX12_findsThrow 51 = .ok (.aload_n 0, 1)) ∧ (decode cX12_findsThrow 52 = .ok (.iload 6, 2)) ∧ (decode cX12_findsThrow 54 = .ok (.iload 5, 2)) ∧ (decode cX12_findsThrow 56 = .ok (.iload_n 1, 1)) := by decide +kernel
theorem dX12_findsThrow_40 : decode cX12_findsThrow 40 = .ok (.imul, 1) := dX12_findsThrow_40g.1
theorem dX12_findsThrow_41 : decode cX12_findsThrow 41 = .ok (.iload 6, 2) := dX12_findsThrow_40g.2.1
theorem dX12_findsThrow_43 : decode cX12_findsThrow 43 = .ok (.iadd, 1) := dX12_findsThrow_40g.2.2.1
theorem dX12_findsThrow_44 : decode cX12_findsThrow 44 = .ok (.baload, 1) := dX12_findsThrow_40g.2.2.2.1
theorem dX12_findsThrow_45 : decode cX12_findsThrow 45 = .ok (.ifCond .eq 6, 3) := dX12_findsThrow_40g.2.2.2.2.1
theorem dX12_findsThrow_48 : decode cX12_findsThrow 48 = .ok (.goto 99, 3) := dX12_findsThrow_40g.2.2.2.2.2.1
theorem dX12_findsThrow_51 : decode cX12_findsThrow 51 = .ok (.aload_n 0, 1) := dX12_findsThrow_40g.2.2.2.2.2.2.1
theorem dX12_findsThrow_52 : decode cX12_findsThrow 52 = .ok (.iload 6, 2) := dX12_findsThrow_40g.2.2.2.2.2.2.2.1
theorem dX12_findsThrow_54 : decode cX12_findsThrow 54 = .ok (.iload 5, 2) := dX12_findsThrow_40g.2.2.2.2.2.2.2.2.1
theorem dX12_findsThrow_56 : decode cX12_findsThrow 56 = .ok (.iload_n 1, 1) := dX12_findsThrow_40g.2.2.2.2.2.2.2.2.2
theorem dX12_findsThrow_57g : (decode cX12_findsThrow 57 = .ok (.iload_n 2, 1)) ∧ (decode cX12_findsThrow 58 = .ok (.iload_n 3, 1)) ∧ (decode cX12_findsThrow 59 = .ok (.invokevirtual 328, 3)) ∧ (decode cX12_findsThrow 62 = .ok (.istore 7, 2)) ∧ (decode cX12_findsThrow 64 = .ok (.aload_n 0, 1)) ∧ (decode cX12_findsThrow 65 = .ok (.getfield 58, 3)) ∧ (decode cX12_findsThrow 68 = .ok (.bipush 24, 2)) ∧ (decode cX12_findsThrow 70 = .ok (.iload 5, 2)) ∧ (decode cX12_findsThrow 72 = .ok (.imul, 1)) ∧ (decode cX12_findsThrow 73 = .ok (.iload 6, 2)) := by decide +kernel
theorem dX12_findsThrow_57 : decode cX12_findsThrow 57 = .ok (.iload_n 2, 1) := dX12_findsThrow_57g.1
theorem dX12_findsThrow_58 : decode cX12_findsThrow 58 = .ok (.iload_n 3, 1) := dX12_findsThrow_57g.2.1
theorem dX12_findsThrow_59 : decode cX12_findsThrow 59 = .ok (.invokevirtual 328, 3) := dX12_findsThrow_57g.2.2.1
theorem dX12_findsThrow_62 : decode cX12_findsThrow 62 = .ok (.istore 7, 2) := dX12_findsThrow_57g.2.2.2.1
theorem dX12_findsThrow_64 : decode cX12_findsThrow 64 = .ok (.aload_n 0, 1) := dX12_findsThrow_57g.2.2.2.2.1
theorem dX12_findsThrow_65 : decode cX12_findsThrow 65 = .ok (.getfield 58, 3) := dX12_findsThrow_57g.2.2.2.2.2.1
theorem dX12_findsThrow_68 : decode cX12_findsThrow 68 = .ok (.bipush 24, 2) := dX12_findsThrow_57g.2.2.2.2.2.2.1
theorem dX12_findsThrow_70 : decode cX12_findsThrow 70 = .ok (.iload 5, 2) := dX12_findsThrow_57g.2.2.2.2.2.2.2.1
theorem dX12_findsThrow_72 : decode cX12_findsThrow 72 = .ok (.imul, 1) := dX12_findsThrow_57g.2.2.2.2.2.2.2.2.1
theorem dX12_findsThrow_73 : decode cX12_findsThrow 73 = .ok (.iload 6, 2) := dX12_findsThrow_57g.2.2.2.2.2.2.2.2.2
theorem dX12_findsThrow_75g : (decode cX12_findsThrow 75 = .ok (.iadd, 1)) ∧ (decode cX12_findsThrow 76 = .ok (.iaload, 1)) ∧ (decode cX12_findsThrow 77 = .ok (.istore 8, 2)) ∧ (decode cX12_findsThrow 79 = .ok (.iload 7, 2)) ∧ (decode cX12_findsThrow 81 = .ok (.iconst (-1), 1)) ∧ (decode cX12_findsThrow 82 = .ok (.if_icmp .eq 65, 3)) ∧ (decode cX12_findsThrow 85 = .ok (.aload_n 0, 1)) ∧ (decode cX12_findsThrow 86 = .ok (.getfield 325, 3)) ∧ (decode cX12_findsThrow 89 = .ok (.iconst (-1), 1)) ∧ (decode cX12_findsThrow 90 = .ok (.if_icmp .eq 33, 3)) := by decide +kernel
theorem dX12_findsThrow_75 : decode cX12_findsThrow 75 = .ok (.iadd, 1) := dX12_findsThrow_75g.1
theorem dX12_findsThrow_76 : decode cX12_findsThrow 76 = .ok (.iaload, 1) := dX12_findsThrow_75g.2.1
theorem dX12_findsThrow_77 : decode cX12_findsThrow 77 = .ok (.istore 8, 2) := dX12_findsThrow_75g.2.2.1
theorem dX12_findsThrow_79 : decode cX12_findsThrow 79 = .ok (.iload 7, 2) := dX12_findsThrow_75g.2.2.2.1
theorem dX12_findsThrow_81 : decode cX12_findsThrow 81 = .ok (.iconst (-1), 1) := dX12_findsThrow_75g.2.2.2.2.1
theorem dX12_findsThrow_82 : decode cX12_findsThrow 82 = .ok (.if_icmp .eq 65, 3) := dX12_findsThrow_75g.2.2.2.2.2.1
theorem dX12_findsThrow_85 : decode cX12_findsThrow 85 = .ok (.aload_n 0, 1) := dX12_findsThrow_75g.2.2.2.2.2.2.1
theorem dX12_findsThrow_86 : decode cX12_findsThrow 86 = .ok (.getfield 325, 3) := dX12_findsThrow_75g.2.2.2.2.2.2.2.1
theorem dX12_findsThrow_89 : decode cX12_findsThrow 89 = .ok (.iconst (-1), 1) := dX12_findsThrow_75g.2.2.2.2.2.2.2.2.1
theorem dX12_findsThrow_90 : decode cX12_findsThrow 90 = .ok (.if_icmp .eq 33, 3) := dX12_findsThrow_75g.2.2.2.2.2.2.2.2.2
theorem dX12_findsThrow_93g : (decode cX12_findsThrow 93 = .ok (.iload 8, 2)) ∧ (decode cX12_findsThrow 95 = .ok (.aload_n 0, 1)) ∧ (decode cX12_findsThrow 96 = .ok (.getfield 332, 3)) ∧ (decode cX12_findsThrow 99 = .ok (.if_icmp .gt 48, 3)) ∧ (decode cX12_findsThrow 102 = .ok (.iload 8, 2)) ∧ (decode cX12_findsThrow 104 = .ok (.aload_n 0, 1)) ∧ (decode cX12_findsThrow 105 = .ok (.getfield 332, 3)) ∧ (decode cX12_findsThrow 108 = .ok (.if_icmp .ne 15, 3)) ∧ (decode cX12_findsThrow 111 = .ok (.iload 7, 2)) ∧ (decode cX12_findsThrow 113 = .ok (.aload_n 0, 1)) := by decide +kernel
theorem dX12_findsThrow_93 : decode cX12_findsThrow 93 = .ok (.iload 8, 2) := dX12_findsThrow_93g.1
theorem dX12_findsThrow_95 : decode cX12_findsThrow 95 = .ok (.aload_n 0, 1) := dX12_findsThrow_93g.2.1
theorem dX12_findsThrow_96 : decode cX12_findsThrow 96 = .ok (.getfield 332, 3) := dX12_findsThrow_93g.2.2.1
theorem dX12_findsThrow_99 : decode cX12_findsThrow 99 = .ok (.if_icmp .gt 48, 3) := dX12_findsThrow_93g.2.2.2.1
theorem dX12_findsThrow_102 : decode cX12_findsThrow 102 = .ok (.iload 8, 2) := dX12_findsThrow_93g.2.2.2.2.1
theorem dX12_findsThrow_104 : decode cX12_findsThrow 104 = .ok (.aload_n 0, 1) := dX12_findsThrow_93g.2.2.2.2.2.1
theorem dX12_findsThrow_105 : decode cX12_findsThrow 105 = .ok (.getfield 332, 3) := dX12_findsThrow_93g.2.2.2.2.2.2.1
theorem dX12_findsThrow_108 : decode cX12_findsThrow 108 = .ok (.if_icmp .ne 15, 3) := dX12_findsThrow_93g.2.2.2.2.2.2.2.1
theorem dX12_findsThrow_111 : decode cX12_findsThrow 111 = .ok (.iload 7, 2) := dX12_findsThrow_93g.2.2.2.2.2.2.2.2.1
theorem dX12_findsThrow_113 : decode cX12_findsThrow 113 = .ok (.aload_n 0, 1) := dX12_findsThrow_93g.2.2.2.2.2.2.2.2.2
theorem dX12_findsThrow_114g : (decode cX12_findsThrow 114 = .ok (.getfield 335, 3)) ∧ (decode cX12_findsThrow 117 = .ok (.if_icmp .lt 6, 3)) ∧ (decode cX12_findsThrow 120 = .ok (.goto 27, 3)) ∧ (decode cX12_findsThrow 123 = .ok (.aload_n 0, 1)) ∧ (decode cX12_findsThrow 124 = .ok (.iload 8, 2)) ∧ (decode cX12_findsThrow 126 = .ok (.putfield 332, 3)) ∧ (decode cX12_findsThrow 129 = .ok (.aload_n 0, 1)) ∧ (decode cX12_findsThrow 130 = .ok (.iload 6, 2)) ∧ (decode cX12_findsThrow 132 = .ok (.putfield 325, 3)) ∧ (decode cX12_findsThrow 135 = .ok (.aload_n 0, 1)) := by decide +kernel
theorem dX12_findsThrow_114 : decode cX12_findsThrow 114 = .ok (.getfield 335, 3) := dX12_findsThrow_114g.1
theorem dX12_findsThrow_117 : decode cX12_findsThrow 117 = .ok (.if_icmp .lt 6, 3) := dX12_findsThrow_114g.2.1
theorem dX12_findsThrow_120 : decode cX12_findsThrow 120 = .ok (.goto 27, 3) := dX12_findsThrow_114g.2.2.1
theorem dX12_findsThrow_123 : decode cX12_findsThrow 123 = .ok (.aload_n 0, 1) := dX12_findsThrow_114g.2.2.2.1
theorem dX12_findsThrow_124 : decode cX12_findsThrow 124 = .ok (.iload 8, 2) := dX12_findsThrow_114g.2.2.2.2.1
theorem dX12_findsThrow_126 : decode cX12_findsThrow 126 = .ok (.putfield 332, 3) := dX12_findsThrow_114g.2.2.2.2.2.1
theorem dX12_findsThrow_129 : decode cX12_findsThrow 129 = .ok (.aload_n 0, 1) := dX12_findsThrow_114g.2.2.2.2.2.2.1
theorem dX12_findsThrow_130 : decode cX12_findsThrow 130 = .ok (.iload 6, 2) := dX12_findsThrow_114g.2.2.2.2.2.2.2.1
theorem dX12_findsThrow_132 : decode cX12_findsThrow 132 = .ok (.putfield 325, 3) := dX12_findsThrow_114g.2.2.2.2.2.2.2.2.1
theorem dX12_findsThrow_135 : decode cX12_findsThrow 135 = .ok (.aload_n 0, 1) := dX12_findsThrow_114g.2.2.2.2.2.2.2.2.2
theorem dX12_findsThrow_136g : (decode cX12_findsThrow 136 = .ok (.iload 5, 2)) ∧ (decode cX12_findsThrow 138 = .ok (.putfield 338, 3)) ∧ (decode cX12_findsThrow 141 = .ok (.aload_n 0, 1)) ∧ (decode cX12_findsThrow 142 = .ok (.iload 7, 2)) ∧ (decode cX12_findsThrow 144 = .ok (.putfield 335, 3)) ∧ (decode cX12_findsThrow 147 = .ok (.iinc 6 1, 3)) ∧ (decode cX12_findsThrow 150 = .ok (.goto (-125), 3)) ∧ (decode cX12_findsThrow 153 = .ok (.iinc 5 1, 3)) ∧ (decode cX12_findsThrow 156 = .ok (.goto (-147), 3)) ∧ (decode cX12_findsThrow 159 = .ok (.return_, 1)) := by decide +kernel
theorem dX12_findsThrow_136 : decode cX12_findsThrow 136 = .ok (.iload 5, 2) := dX12_findsThrow_136g.1
theorem dX12_findsThrow_138 : decode cX12_findsThrow 138 = .ok (.putfield 338, 3) := dX12_findsThrow_136g.2.1
theorem dX12_findsThrow_141 : decode cX12_findsThrow 141 = .ok (.aload_n 0, 1) := dX12_findsThrow_136g.2.2.1
theorem dX12_findsThrow_142 : decode cX12_findsThrow 142 = .ok (.iload 7, 2) := dX12_findsThrow_136g.2.2.2.1
theorem dX12_findsThrow_144 : decode cX12_findsThrow 144 = .ok (.putfield 335, 3) := dX12_findsThrow_136g.2.2.2.2.1
theorem dX12_findsThrow_147 : decode cX12_findsThrow 147 = .ok (.iinc 6 1, 3) := dX12_findsThrow_136g.2.2.2.2.2.1
theorem dX12_findsThrow_150 : decode cX12_findsThrow 150 = .ok (.goto (-125), 3) := dX12_findsThrow_136g.2.2.2.2.2.2.1
theorem dX12_findsThrow_153 : decode cX12_findsThrow 153 = .ok (.iinc 5 1, 3) := dX12_findsThrow_136g.2.2.2.2.2.2.2.1
theorem dX12_findsThrow_156 : decode cX12_findsThrow 156 = .ok (.goto (-147), 3) := dX12_findsThrow_136g.2.2.2.2.2.2.2.2.1
theorem dX12_findsThrow_159 : decode cX12_findsThrow 159 = .ok (.return_, 1) := dX12_findsThrow_136g.2.2.2.2.2.2.2.2.2
set_option maxHeartbeats 4000000 in
set_option maxRecDepth 100000 in
theorem c_X12_findsThrow (l : Launch) (E : Nat → Nat) (D : va_G) (G : th_G) (h0 : Nat) (hG0 : G h0 = some (10, 0)) (x1 : Int32) (x2 : Int32) (x3 : Int32) (x4 : Int32) (hx3 : x3.toInt ≤ 96) (hx4 : (0 : Int) ≤ x4.toInt) : Met l yX12_findsThrow (tb (.code yX12_findsThrow cX12_findsThrow 9 none)) (rm 1) (va_Pc [.ref h0, .int x1, .int x2, .int x3, .int x4] (PX E D G (fun H => True))) (QXv E D G (fun H => True)) 0 0 (th_A G) := by
  refine Met.ofW (cc := cX12_findsThrow) (maxL := 9) (ret := none) (by decide) rfl ?_
  intro p e s m args below meth c s₁ B hml hv
  obtain ⟨hav, ⟨hI, hN, hK⟩, hX⟩ := hv
  have hx := B.exec
  have hb := B.bytes
  have hr := B.returns
  have hts := atoms_spec (ws := tb (.code yX12_findsThrow cX12_findsThrow 9 none)) B.pre
  have hown : s.vm.findClass RX12 = some m.cls := findClass_of_methodNamed B.named
  have hlocks := B.notSynchronized
  have hS : va_S (th_A G) s.heap s.heap [] := va_S.rf
  have hl := lv_entry ([.ref h0, .int x1, .int x2, .int x3, .int x4]) (n := 9) (Nat.le_of_ble_eq_true rfl)
  rw [show entryFrame m args 9 = entryFrame m ([.ref h0, .int x1, .int x2, .int x3, .int x4] : List Value).toArray 9 from by rw [hav], lg_entry_eq]
  generalize (lg_sl ([.ref h0, .int x1, .int x2, .int x3, .int x4]) ++ List.replicate (9 - (lg_sl ([.ref h0, .int x1, .int x2, .int x3, .int x4])).length) Slot.unset).toArray = ls at hl ⊢
  have hl : lv_has ls 9 [(0, .ref h0), (1, .int x1), (2, .int x2), (3, .int x3), (4, .int x4)] := hl
  generalize hR : (headSpec (tb (.code yX12_findsThrow cX12_findsThrow 9 none)) (rm 1)).room = R
  have hR := hR.symm
  generalize hQ : MQ below (QXv E D G (fun H => True)) args s 0 0 (th_A G) = QF
  have hQ := hQ.symm
  have J_9 : ∀ (nn : Nat) (H : Heap) (locs : List Loc) (ls : Array Slot) (v1948 : Int32) , (Int.toNat (96 - v1948.toInt) = nn) → lv_has ls 9 [(5, .int v1948), (0, .ref h0), (1, .int x1), (2, .int x2), (3, .int x3), (4, .int x4)] → ((0 : Int) ≤ v1948.toInt) → (x3.toInt ≤ 96) → ((0 : Int) ≤ x4.toInt) → th_I (okM E) D G [] H → va_S (th_A G) s.heap H locs → W p l e R s m args below meth c H locs 0 0 QF (F0 m 9 ls []) := by
    intro nn
    induction nn using Nat.strongRecOn with
    | ind nn ih_9 =>
      intro H locs ls v1948  hm hl k1949 k1950 k1951 hI hS
      have J_25 : ∀ (nn : Nat) (H : Heap) (locs : List Loc) (ls : Array Slot) (v1952 : Int32) , (Int.toNat (24 - v1952.toInt) = nn) → lv_has ls 9 [(6, .int v1952), (5, .int v1948), (0, .ref h0), (1, .int x1), (2, .int x2), (3, .int x3), (4, .int x4)] → ((0 : Int) ≤ v1952.toInt ∧ v1952.toInt ≤ 24) → ((0 : Int) ≤ v1948.toInt ∧ v1948.toInt ≤ 95) → ((0 : Int) ≤ x3.toInt ∧ x3.toInt ≤ 96) → th_I (okM E) D G [] H → va_S (th_A G) s.heap H locs → W p l e R s m args below meth c H locs 0 0 QF (F0 m 25 ls []) := by
        intro nn
        induction nn using Nat.strongRecOn with
        | ind nn ih_25 =>
          intro H locs ls v1952  hm hl k1954 k1955 k1956 hI hS
          have J_123 : ∀ (H : Heap) (locs : List Loc) (ls : Array Slot) (v1957 : Int32) (v1958 : Int32) , lv_has ls 9 [(8, .int v1957), (7, .int v1958), (6, .int v1952), (5, .int v1948), (0, .ref h0), (1, .int x1), (2, .int x2), (3, .int x3), (4, .int x4)] → ((0 : Int) ≤ v1958.toInt ∧ v1958.toInt ≤ 96) → ((0 : Int) ≤ v1952.toInt ∧ v1952.toInt ≤ 23) → th_I (okM E) D G [] H → va_S (th_A G) s.heap H locs → W p l e R s m args below meth c H locs 0 0 QF (F0 m 123 ls []) := by
            intro H locs ls v1957 v1958  hl k1961 k1962 hI hS
            refine lv_aload_n hx hb dX12_findsThrow_123 rfl (lv_at hl 4 rfl) ?_
            refine lv_iload hx hb dX12_findsThrow_124 (lv_at hl 0 rfl) ?_
            have k1963 := iv_lo v1957
            have k1964 := iv_hi v1957
            refine pmI (ty := .int) hx hb hts inT12 hown hK hI List.not_mem_nil hG0 hS ⟨_, hG0⟩ 30 (by decide) (hts _ (tb_c wd_1263)) rfl rfl (by decide +kernel) rfl rfl rfl (by omega) (by omega) dX12_findsThrow_126 (fun H locs hI hgP hS => ?_)
            have hg1965 := hgP.2.1
            refine lv_aload_n hx hb dX12_findsThrow_129 rfl (lv_at hl 4 rfl) ?_
            refine lv_iload hx hb dX12_findsThrow_130 (lv_at hl 2 rfl) ?_
            refine pmI (ty := .int) hx hb hts inT12 hown hK hI List.not_mem_nil hG0 hS ⟨_, hG0⟩ 31 (by decide) (hts _ (tb_c wd_1264)) rfl rfl (by decide +kernel) rfl rfl rfl (by omega) (by omega) dX12_findsThrow_132 (fun H locs hI hgP hS => ?_)
            have hg1965 := hgP.2.2.1 30 _ (by decide) (by decide) hg1965
            have hg1966 := hgP.2.1
            refine lv_aload_n hx hb dX12_findsThrow_135 rfl (lv_at hl 4 rfl) ?_
            refine lv_iload hx hb dX12_findsThrow_136 (lv_at hl 3 rfl) ?_
            refine pmI (ty := .int) hx hb hts inT12 hown hK hI List.not_mem_nil hG0 hS ⟨_, hG0⟩ 32 (by decide) (hts _ (tb_c wd_1265)) rfl rfl (by decide +kernel) rfl rfl rfl (by omega) (by omega) dX12_findsThrow_138 (fun H locs hI hgP hS => ?_)
            have hg1965 := hgP.2.2.1 30 _ (by decide) (by decide) hg1965
            have hg1966 := hgP.2.2.1 31 _ (by decide) (by decide) hg1966
            have hg1967 := hgP.2.1
            refine lv_aload_n hx hb dX12_findsThrow_141 rfl (lv_at hl 4 rfl) ?_
            refine lv_iload hx hb dX12_findsThrow_142 (lv_at hl 1 rfl) ?_
            refine pmI (ty := .int) hx hb hts inT12 hown hK hI List.not_mem_nil hG0 hS ⟨_, hG0⟩ 33 (by decide) (hts _ (tb_c wd_1266)) rfl rfl (by decide +kernel) rfl rfl rfl (by omega) (by omega) dX12_findsThrow_144 (fun H locs hI hgP hS => ?_)
            have hg1965 := hgP.2.2.1 30 _ (by decide) (by decide) hg1965
            have hg1966 := hgP.2.2.1 31 _ (by decide) (by decide) hg1966
            have hg1967 := hgP.2.2.1 32 _ (by decide) (by decide) hg1967
            have hg1968 := hgP.2.1
            obtain ⟨v1969, e1970⟩ : ∃ y : Int32, y = v1952 + (1) := ⟨_, rfl⟩
            have tv1969 : v1969.toInt = v1952.toInt + (1) := iv_add rfl (by decide) e1970 (by omega) (by omega)
            refine lv_iinc (v := v1969) (lv' := [(6, .int v1969), (8, .int v1957), (7, .int v1958), (5, .int v1948), (0, .ref h0), (1, .int x1), (2, .int x2), (3, .int x3), (4, .int x4)]) hx hb dX12_findsThrow_147 hl (k := 2) rfl (by rw [e1970]; rfl) (by decide) rfl (fun ls hl => ?_)
            refine lv_goto (tgt := 25) hx hb dX12_findsThrow_150 (by decide) ?_
            exact ih_25 _ (by omega) H locs ls v1969  rfl (lv_sub hl [0, 3, 4, 5, 6, 7, 8] rfl) ⟨by omega, by omega⟩ ⟨by omega, by omega⟩ ⟨by omega, by omega⟩ hI hS
          refine lv_iload hx hb dX12_findsThrow_25 (lv_at hl 0 rfl) ?_
          refine lv_bipush (v := 24) hx hb dX12_findsThrow_27 (by decide) ?_
          refine lv_icmp_ge (tgt := 153) hx hb dX12_findsThrow_29 (by decide) (fun c1971 => ?_) (fun c1971 => ?_)
          · skip
            have k1972 := iv_le (X := (24)) (Y := v1952.toInt) (by decide) rfl c1971
            obtain ⟨v1973, e1974⟩ : ∃ y : Int32, y = v1948 + (1) := ⟨_, rfl⟩
            have tv1973 : v1973.toInt = v1948.toInt + (1) := iv_add rfl (by decide) e1974 (by omega) (by omega)
            refine lv_iinc (v := v1973) (lv' := [(5, .int v1973), (6, .int v1952), (0, .ref h0), (1, .int x1), (2, .int x2), (3, .int x3), (4, .int x4)]) hx hb dX12_findsThrow_153 hl (k := 1) rfl (by rw [e1974]; rfl) (by decide) rfl (fun ls hl => ?_)
            refine lv_goto (tgt := 9) hx hb dX12_findsThrow_156 (by decide) ?_
            exact ih_9 _ (by omega) H locs ls v1973  rfl (lv_sub hl [0, 2, 3, 4, 5, 6] rfl) (by omega) (by omega) (by omega) hI hS
          · skip
            have k1975 := iv_nle (X := (24)) (Y := v1952.toInt) (by decide) rfl c1971
            refine lv_aload_n hx hb dX12_findsThrow_32 rfl (lv_at hl 2 rfl) ?_
            refine gmA hx hb hts inT12 hown hK hI List.not_mem_nil hG0 26 (by decide) (hts _ (tb_c wd_1259)) rfl rfl dX12_findsThrow_33 (fun a1976 hq1977 hf1978 => ?_)
            refine lv_bipush (v := 24) hx hb dX12_findsThrow_36 (by decide) ?_
            refine lv_iload hx hb dX12_findsThrow_38 (lv_at hl 1 rfl) ?_
            refine lv_imul hx hb dX12_findsThrow_40 ?_
            refine lv_topi (fun v1979 e1980 => ?_)
            have tv1979 : v1979.toInt = (24) * v1948.toInt := iv_mul (by decide) rfl e1980 (by omega) (by omega)
            refine lv_iload hx hb dX12_findsThrow_41 (lv_at hl 0 rfl) ?_
            refine lv_iadd hx hb dX12_findsThrow_43 ?_
            refine lv_topi (fun v1981 e1982 => ?_)
            have tv1981 : v1981.toInt = v1979.toInt + v1952.toInt := iv_add rfl rfl e1982 (by omega) (by omega)
            obtain ⟨F1983, hA1984⟩ := om_5 hI hq1977 List.not_mem_nil
            refine va_zald hx hb hK (th_one hA1984) 0 2 rfl rfl (iv_in (X := v1981.toInt) rfl (by omega) (by omega)) dX12_findsThrow_44 ?_
            refine lv_topi (fun v1985 e1986 => ?_)
            have k1987 := iv_lo v1985
            have k1988 := iv_hi v1985
            refine lv_if_eq (tgt := 51) hx hb dX12_findsThrow_45 (by decide) (fun c1989 => ?_) (fun c1989 => ?_)
            · skip
              have k1990 := iv_eq (X := v1985.toInt) (Y := (0)) rfl (by decide) c1989
              refine lv_aload_n hx hb dX12_findsThrow_51 rfl (lv_at hl 2 rfl) ?_
              refine lv_iload hx hb dX12_findsThrow_52 (lv_at hl 0 rfl) ?_
              refine lv_iload hx hb dX12_findsThrow_54 (lv_at hl 1 rfl) ?_
              refine lv_iload_n hx hb dX12_findsThrow_56 rfl (lv_at hl 3 rfl) ?_
              refine lv_iload_n hx hb dX12_findsThrow_57 rfl (lv_at hl 4 rfl) ?_
              refine lv_iload_n hx hb dX12_findsThrow_58 rfl (lv_at hl 5 rfl) ?_
              refine mr_i (As := [.int v1952, .int v1948, .int x1, .int x2, .int x3]) (rest := []) (n := 5) (d := 0) ⟨hx, hb, hml, hown, hts⟩ (c_X12_thereAt l E D G H h0 hG0 v1952 v1948 x1 x2 x3 ⟨by omega, by omega⟩ (by omega) (by omega)) wd_1737 wd_1739 wp_84 wd_13 wd_1740 (by decide +kernel) ⟨by rw [hR]; exact Nat.le_of_ble_eq_true rfl, by rw [hR]; exact Nat.le_of_ble_eq_true rfl⟩ hI hN hK hS hG0 rfl hl.1 rfl (Nat.le_of_ble_eq_true rfl) dX12_findsThrow_59 ⟨Nat.zero_le _, Nat.zero_le _⟩ (fun r1991 locs hp hS => ?_)
              have hp1992 := hp
              refine lv_istore (lv' := [(7, .int r1991), (6, .int v1952), (5, .int v1948), (0, .ref h0), (1, .int x1), (2, .int x2), (3, .int x3), (4, .int x4)]) hx hb dX12_findsThrow_62 hl (by decide) rfl (fun ls hl => ?_)
              refine lv_aload_n hx hb dX12_findsThrow_64 rfl (lv_at hl 3 rfl) ?_
              refine gmA hx hb hts inT12 hown hK hI List.not_mem_nil hG0 24 (by decide) (hts _ (tb_c wd_1257)) rfl rfl dX12_findsThrow_65 (fun a1993 hq1994 hf1995 => ?_)
              refine lv_bipush (v := 24) hx hb dX12_findsThrow_68 (by decide) ?_
              refine lv_iload hx hb dX12_findsThrow_70 (lv_at hl 2 rfl) ?_
              refine lv_imul hx hb dX12_findsThrow_72 ?_
              refine lv_topi (fun v1996 e1997 => ?_)
              have tv1996 : v1996.toInt = (24) * v1948.toInt := iv_mul (by decide) rfl e1997 (by omega) (by omega)
              refine lv_iload hx hb dX12_findsThrow_73 (lv_at hl 1 rfl) ?_
              refine lv_iadd hx hb dX12_findsThrow_75 ?_
              refine lv_topi (fun v1998 e1999 => ?_)
              have tv1998 : v1998.toInt = v1996.toInt + v1952.toInt := iv_add rfl rfl e1999 (by omega) (by omega)
              obtain ⟨F2000, hA2001⟩ := om_0 hI hq1994 List.not_mem_nil
              refine th_iald hx hb hK hA2001 0 rfl (iv_in (X := v1998.toInt) rfl (by omega) (by omega)) dX12_findsThrow_76 (fun v2002 e2003 => ?_)
              refine lv_istore (lv' := [(8, .int v2002), (7, .int r1991), (6, .int v1952), (5, .int v1948), (0, .ref h0), (1, .int x1), (2, .int x2), (3, .int x3), (4, .int x4)]) hx hb dX12_findsThrow_77 hl (by decide) rfl (fun ls hl => ?_)
              refine lv_iload hx hb dX12_findsThrow_79 (lv_at hl 1 rfl) ?_
              refine lv_iconst (v := (-1)) hx hb dX12_findsThrow_81 (by decide) ?_
              refine lv_icmp_eq (tgt := 147) hx hb dX12_findsThrow_82 (by decide) (fun c2004 => ?_) (fun c2004 => ?_)
              · skip
                have k2005 := iv_eq (X := r1991.toInt) (Y := (-1)) rfl (by decide) c2004
                obtain ⟨v2006, e2007⟩ : ∃ y : Int32, y = v1952 + (1) := ⟨_, rfl⟩
                have tv2006 : v2006.toInt = v1952.toInt + (1) := iv_add rfl (by decide) e2007 (by omega) (by omega)
                refine lv_iinc (v := v2006) (lv' := [(6, .int v2006), (8, .int v2002), (7, .int r1991), (5, .int v1948), (0, .ref h0), (1, .int x1), (2, .int x2), (3, .int x3), (4, .int x4)]) hx hb dX12_findsThrow_147 hl (k := 2) rfl (by rw [e2007]; rfl) (by decide) rfl (fun ls hl => ?_)
                refine lv_goto (tgt := 25) hx hb dX12_findsThrow_150 (by decide) ?_
                exact ih_25 _ (by omega) H locs ls v2006  rfl (lv_sub hl [0, 3, 4, 5, 6, 7, 8] rfl) ⟨by omega, by omega⟩ ⟨by omega, by omega⟩ ⟨by omega, by omega⟩ hI hS
              · skip
                have k2008 := iv_ne (X := r1991.toInt) (Y := (-1)) rfl (by decide) c2004
                refine lv_aload_n hx hb dX12_findsThrow_85 rfl (lv_at hl 4 rfl) ?_
                refine gmI hx hb hts inT12 hown hK hI List.not_mem_nil hG0 31 (by decide) (hts _ (tb_c wd_1264)) rfl rfl dX12_findsThrow_86 (fun w2009 hg2010 k2011 k2012 => ?_)
                refine lv_iconst (v := (-1)) hx hb dX12_findsThrow_89 (by decide) ?_
                refine lv_icmp_eq (tgt := 123) hx hb dX12_findsThrow_90 (by decide) (fun c2013 => ?_) (fun c2013 => ?_)
                · skip
                  have k2014 := iv_eq (X := w2009.toInt) (Y := (-1)) rfl (by decide) c2013
                  exact J_123 H locs ls v2002 r1991  (lv_sub hl [0, 1, 2, 3, 4, 5, 6, 7, 8] rfl) ⟨by omega, by omega⟩ ⟨by omega, by omega⟩ hI hS
                · skip
                  have k2015 := iv_ne (X := w2009.toInt) (Y := (-1)) rfl (by decide) c2013
                  refine lv_iload hx hb dX12_findsThrow_93 (lv_at hl 0 rfl) ?_
                  refine lv_aload_n hx hb dX12_findsThrow_95 rfl (lv_at hl 4 rfl) ?_
                  refine gmI hx hb hts inT12 hown hK hI List.not_mem_nil hG0 30 (by decide) (hts _ (tb_c wd_1263)) rfl rfl dX12_findsThrow_96 (fun w2016 hg2017 k2018 k2019 => ?_)
                  have k2020 := iv_lo v2002
                  have k2021 := iv_hi v2002
                  refine lv_icmp_gt (tgt := 147) hx hb dX12_findsThrow_99 (by decide) (fun c2022 => ?_) (fun c2022 => ?_)
                  · skip
                    have k2023 := iv_lt (X := w2016.toInt) (Y := v2002.toInt) rfl rfl c2022
                    obtain ⟨v2024, e2025⟩ : ∃ y : Int32, y = v1952 + (1) := ⟨_, rfl⟩
                    have tv2024 : v2024.toInt = v1952.toInt + (1) := iv_add rfl (by decide) e2025 (by omega) (by omega)
                    refine lv_iinc (v := v2024) (lv' := [(6, .int v2024), (8, .int v2002), (7, .int r1991), (5, .int v1948), (0, .ref h0), (1, .int x1), (2, .int x2), (3, .int x3), (4, .int x4)]) hx hb dX12_findsThrow_147 hl (k := 2) rfl (by rw [e2025]; rfl) (by decide) rfl (fun ls hl => ?_)
                    refine lv_goto (tgt := 25) hx hb dX12_findsThrow_150 (by decide) ?_
                    exact ih_25 _ (by omega) H locs ls v2024  rfl (lv_sub hl [0, 3, 4, 5, 6, 7, 8] rfl) ⟨by omega, by omega⟩ ⟨by omega, by omega⟩ ⟨by omega, by omega⟩ hI hS
                  · skip
                    have k2026 := iv_nlt (X := w2016.toInt) (Y := v2002.toInt) rfl rfl c2022
                    refine lv_iload hx hb dX12_findsThrow_102 (lv_at hl 0 rfl) ?_
                    refine lv_aload_n hx hb dX12_findsThrow_104 rfl (lv_at hl 4 rfl) ?_
                    refine gmI hx hb hts inT12 hown hK hI List.not_mem_nil hG0 30 (by decide) (hts _ (tb_c wd_1263)) rfl rfl dX12_findsThrow_105 (fun w2027 hg2028 k2029 k2030 => ?_)
                    obtain rfl := gf.uniq (by decide) hg2017 hg2028
                    refine lv_icmp_ne (tgt := 123) hx hb dX12_findsThrow_108 (by decide) (fun c2031 => ?_) (fun c2031 => ?_)
                    · skip
                      have k2032 := iv_ne (X := v2002.toInt) (Y := w2016.toInt) rfl rfl c2031
                      exact J_123 H locs ls v2002 r1991  (lv_sub hl [0, 1, 2, 3, 4, 5, 6, 7, 8] rfl) ⟨by omega, by omega⟩ ⟨by omega, by omega⟩ hI hS
                    · skip
                      have k2033 := iv_eq (X := v2002.toInt) (Y := w2016.toInt) rfl rfl c2031
                      refine lv_iload hx hb dX12_findsThrow_111 (lv_at hl 1 rfl) ?_
                      refine lv_aload_n hx hb dX12_findsThrow_113 rfl (lv_at hl 4 rfl) ?_
                      refine gmI hx hb hts inT12 hown hK hI List.not_mem_nil hG0 33 (by decide) (hts _ (tb_c wd_1266)) rfl rfl dX12_findsThrow_114 (fun w2034 hg2035 k2036 k2037 => ?_)
                      refine lv_icmp_lt (tgt := 123) hx hb dX12_findsThrow_117 (by decide) (fun c2038 => ?_) (fun c2038 => ?_)
                      · skip
                        have k2039 := iv_lt (X := r1991.toInt) (Y := w2034.toInt) rfl rfl c2038
                        exact J_123 H locs ls v2002 r1991  (lv_sub hl [0, 1, 2, 3, 4, 5, 6, 7, 8] rfl) ⟨by omega, by omega⟩ ⟨by omega, by omega⟩ hI hS
                      · skip
                        have k2040 := iv_nlt (X := r1991.toInt) (Y := w2034.toInt) rfl rfl c2038
                        refine lv_goto (tgt := 147) hx hb dX12_findsThrow_120 (by decide) ?_
                        obtain ⟨v2041, e2042⟩ : ∃ y : Int32, y = v1952 + (1) := ⟨_, rfl⟩
                        have tv2041 : v2041.toInt = v1952.toInt + (1) := iv_add rfl (by decide) e2042 (by omega) (by omega)
                        refine lv_iinc (v := v2041) (lv' := [(6, .int v2041), (8, .int v2002), (7, .int r1991), (5, .int v1948), (0, .ref h0), (1, .int x1), (2, .int x2), (3, .int x3), (4, .int x4)]) hx hb dX12_findsThrow_147 hl (k := 2) rfl (by rw [e2042]; rfl) (by decide) rfl (fun ls hl => ?_)
                        refine lv_goto (tgt := 25) hx hb dX12_findsThrow_150 (by decide) ?_
                        exact ih_25 _ (by omega) H locs ls v2041  rfl (lv_sub hl [0, 3, 4, 5, 6, 7, 8] rfl) ⟨by omega, by omega⟩ ⟨by omega, by omega⟩ ⟨by omega, by omega⟩ hI hS
            · skip
              have k2043 := iv_ne (X := v1985.toInt) (Y := (0)) rfl (by decide) c1989
              refine lv_goto (tgt := 147) hx hb dX12_findsThrow_48 (by decide) ?_
              obtain ⟨v2044, e2045⟩ : ∃ y : Int32, y = v1952 + (1) := ⟨_, rfl⟩
              have tv2044 : v2044.toInt = v1952.toInt + (1) := iv_add rfl (by decide) e2045 (by omega) (by omega)
              refine lv_iinc (v := v2044) (lv' := [(6, .int v2044), (5, .int v1948), (0, .ref h0), (1, .int x1), (2, .int x2), (3, .int x3), (4, .int x4)]) hx hb dX12_findsThrow_147 hl (k := 0) rfl (by rw [e2045]; rfl) (by decide) rfl (fun ls hl => ?_)
              refine lv_goto (tgt := 25) hx hb dX12_findsThrow_150 (by decide) ?_
              exact ih_25 _ (by omega) H locs ls v2044  rfl (lv_sub hl [0, 1, 2, 3, 4, 5, 6] rfl) ⟨by omega, by omega⟩ ⟨by omega, by omega⟩ ⟨by omega, by omega⟩ hI hS
      refine lv_iload hx hb dX12_findsThrow_9 (lv_at hl 0 rfl) ?_
      refine lv_bipush (v := 96) hx hb dX12_findsThrow_11 (by decide) ?_
      have k2046 := iv_lo v1948
      have k2047 := iv_hi v1948
      refine lv_icmp_ge (tgt := 159) hx hb dX12_findsThrow_13 (by decide) (fun c2048 => ?_) (fun c2048 => ?_)
      · skip
        have k2049 := iv_le (X := (96)) (Y := v1948.toInt) (by decide) rfl c2048
        have hpost : True := trivial
        rw [hQ]
        exact W.vret hx hb hr (fun t ht hW => ⟨⟨(), rfl, trivial, ⟨by rw [ht]; exact hI, hN.warm hW, va_K.moved hW.alike hK⟩, by first | (rw [ht]; exact hpost) | exact hpost⟩, hS.F ht⟩) hS.2.2 dX12_findsThrow_159
      · skip
        have k2050 := iv_nle (X := (96)) (Y := v1948.toInt) (by decide) rfl c2048
        refine lv_iload hx hb dX12_findsThrow_16 (lv_at hl 0 rfl) ?_
        refine lv_iload_n hx hb dX12_findsThrow_18 rfl (lv_at hl 4 rfl) ?_
        have k2051 := iv_lo x3
        have k2052 := iv_hi x3
        refine lv_icmp_gt (tgt := 159) hx hb dX12_findsThrow_19 (by decide) (fun c2053 => ?_) (fun c2053 => ?_)
        · skip
          have k2054 := iv_lt (X := x3.toInt) (Y := v1948.toInt) rfl rfl c2053
          have hpost : True := trivial
          rw [hQ]
          exact W.vret hx hb hr (fun t ht hW => ⟨⟨(), rfl, trivial, ⟨by rw [ht]; exact hI, hN.warm hW, va_K.moved hW.alike hK⟩, by first | (rw [ht]; exact hpost) | exact hpost⟩, hS.F ht⟩) hS.2.2 dX12_findsThrow_159
        · skip
          have k2055 := iv_nlt (X := x3.toInt) (Y := v1948.toInt) rfl rfl c2053
          refine lv_iconst (v := 0) hx hb dX12_findsThrow_22 (by decide) ?_
          refine lv_istore (lv' := [(6, .int 0), (5, .int v1948), (0, .ref h0), (1, .int x1), (2, .int x2), (3, .int x3), (4, .int x4)]) hx hb dX12_findsThrow_23 hl (by decide) rfl (fun ls hl => ?_)
          have zl : (0 : Int32).toInt = 0 := by decide
          exact J_25 _ H locs ls 0  rfl (lv_sub hl [0, 1, 2, 3, 4, 5, 6] rfl) ⟨by decide, by decide⟩ ⟨by omega, by omega⟩ ⟨by omega, by omega⟩ hI hS
  refine lv_aload_n hx hb dX12_findsThrow_0 rfl (lv_at hl 0 rfl) ?_
  refine lv_iconst (v := (-1)) hx hb dX12_findsThrow_1 (by decide) ?_
  refine pmI (ty := .int) hx hb hts inT12 hown hK hI List.not_mem_nil hG0 hS ⟨_, hG0⟩ 31 (by decide) (hts _ (tb_c wd_1264)) rfl rfl (by decide +kernel) rfl rfl rfl (by decide) (by decide) dX12_findsThrow_2 (fun H locs hI hgP hS => ?_)
  have hg2056 := hgP.2.1
  refine lv_iload hx hb dX12_findsThrow_5 (lv_at hl 4 rfl) ?_
  refine lv_istore (lv' := [(5, .int x4), (0, .ref h0), (1, .int x1), (2, .int x2), (3, .int x3), (4, .int x4)]) hx hb dX12_findsThrow_7 hl (by decide) rfl (fun ls hl => ?_)
  exact J_9 _ H locs ls x4  rfl (lv_sub hl [0, 1, 2, 3, 4, 5] rfl) (by omega) (by omega) (by omega) hI hS
theorem dX12_least_0g : (decode cX12_least 0 = .ok (.iload_n 1, 1)) ∧ (decode cX12_least 1 = .ok (.invokestatic 304, 3)) ∧ (decode cX12_least 4 = .ok (.ifCond .eq 38, 3)) ∧ (decode cX12_least 7 = .ok (.iload_n 2, 1)) ∧ (decode cX12_least 8 = .ok (.invokestatic 298, 3)) ∧ (decode cX12_least 11 = .ok (.ifCond .eq 31, 3)) ∧ (decode cX12_least 14 = .ok (.iload_n 3, 1)) ∧ (decode cX12_least 15 = .ok (.iload_n 2, 1)) ∧ (decode cX12_least 16 = .ok (.bipush 96, 2)) ∧ (decode cX12_least 18 = .ok (.invokestatic 103, 3)) := by decide +kernel
theorem dX12_least_0 : decode cX12_least 0 = .ok (.iload_n 1, 1) := dX12_least_0g.1
theorem dX12_least_1 : decode cX12_least 1 = .ok (.invokestatic 304, 3) := dX12_least_0g.2.1
theorem dX12_least_4 : decode cX12_least 4 = .ok (.ifCond .eq 38, 3) := dX12_least_0g.2.2.1
theorem dX12_least_7 : decode cX12_least 7 = .ok (.iload_n 2, 1) := dX12_least_0g.2.2.2.1
theorem dX12_least_8 : decode cX12_least 8 = .ok (.invokestatic 298, 3) := dX12_least_0g.2.2.2.2.1
theorem dX12_least_11 : decode cX12_least 11 = .ok (.ifCond .eq 31, 3) := dX12_least_0g.2.2.2.2.2.1
theorem dX12_least_14 : decode cX12_least 14 = .ok (.iload_n 3, 1) := dX12_least_0g.2.2.2.2.2.2.1
theorem dX12_least_15 : decode cX12_least 15 = .ok (.iload_n 2, 1) := dX12_least_0g.2.2.2.2.2.2.2.1
theorem dX12_least_16 : decode cX12_least 16 = .ok (.bipush 96, 2) := dX12_least_0g.2.2.2.2.2.2.2.2.1
theorem dX12_least_18 : decode cX12_least 18 = .ok (.invokestatic 103, 3) := dX12_least_0g.2.2.2.2.2.2.2.2.2
theorem dX12_least_21g : (decode cX12_least 21 = .ok (.ifCond .eq 21, 3)) ∧ (decode cX12_least 24 = .ok (.iload 4, 2)) ∧ (decode cX12_least 26 = .ok (.invokestatic 114, 3)) ∧ (decode cX12_least 29 = .ok (.ifCond .eq 13, 3)) ∧ (decode cX12_least 32 = .ok (.iload 5, 2)) ∧ (decode cX12_least 34 = .ok (.iconst 0, 1)) ∧ (decode cX12_least 35 = .ok (.iconst 3, 1)) ∧ (decode cX12_least 36 = .ok (.invokestatic 103, 3)) ∧ (decode cX12_least 39 = .ok (.ifCond .ne 5, 3)) ∧ (decode cX12_least 42 = .ok (.iconst (-1), 1)) := by decide +kernel
theorem dX12_least_21 : decode cX12_least 21 = .ok (.ifCond .eq 21, 3) := dX12_least_21g.1
theorem dX12_least_24 : decode cX12_least 24 = .ok (.iload 4, 2) := dX12_least_21g.2.1
theorem dX12_least_26 : decode cX12_least 26 = .ok (.invokestatic 114, 3) := dX12_least_21g.2.2.1
theorem dX12_least_29 : decode cX12_least 29 = .ok (.ifCond .eq 13, 3) := dX12_least_21g.2.2.2.1
theorem dX12_least_32 : decode cX12_least 32 = .ok (.iload 5, 2) := dX12_least_21g.2.2.2.2.1
theorem dX12_least_34 : decode cX12_least 34 = .ok (.iconst 0, 1) := dX12_least_21g.2.2.2.2.2.1
theorem dX12_least_35 : decode cX12_least 35 = .ok (.iconst 3, 1) := dX12_least_21g.2.2.2.2.2.2.1
theorem dX12_least_36 : decode cX12_least 36 = .ok (.invokestatic 103, 3) := dX12_least_21g.2.2.2.2.2.2.2.1
theorem dX12_least_39 : decode cX12_least 39 = .ok (.ifCond .ne 5, 3) := dX12_least_21g.2.2.2.2.2.2.2.2.1
theorem dX12_least_42 : decode cX12_least 42 = .ok (.iconst (-1), 1) := dX12_least_21g.2.2.2.2.2.2.2.2.2
theorem dX12_least_43g : (decode cX12_least 43 = .ok (.ireturn, 1)) ∧ (decode cX12_least 44 = .ok (.aload_n 0, 1)) ∧ (decode cX12_least 45 = .ok (.invokevirtual 138, 3)) ∧ (decode cX12_least 48 = .ok (.aload_n 0, 1)) ∧ (decode cX12_least 49 = .ok (.iload_n 1, 1)) ∧ (decode cX12_least 50 = .ok (.iload_n 2, 1)) ∧ (decode cX12_least 51 = .ok (.iload_n 3, 1)) ∧ (decode cX12_least 52 = .ok (.iload 4, 2)) ∧ (decode cX12_least 54 = .ok (.invokevirtual 341, 3)) ∧ (decode cX12_least 57 = .ok (.aload_n 0, 1)) := by decide +kernel
theorem dX12_least_43 : decode cX12_least 43 = .ok (.ireturn, 1) := dX12_least_43g.1
theorem dX12_least_44 : decode cX12_least 44 = .ok (.aload_n 0, 1) := dX12_least_43g.2.1
theorem dX12_least_45 : decode cX12_least 45 = .ok (.invokevirtual 138, 3) := dX12_least_43g.2.2.1
theorem dX12_least_48 : decode cX12_least 48 = .ok (.aload_n 0, 1) := dX12_least_43g.2.2.2.1
theorem dX12_least_49 : decode cX12_least 49 = .ok (.iload_n 1, 1) := dX12_least_43g.2.2.2.2.1
theorem dX12_least_50 : decode cX12_least 50 = .ok (.iload_n 2, 1) := dX12_least_43g.2.2.2.2.2.1
theorem dX12_least_51 : decode cX12_least 51 = .ok (.iload_n 3, 1) := dX12_least_43g.2.2.2.2.2.2.1
theorem dX12_least_52 : decode cX12_least 52 = .ok (.iload 4, 2) := dX12_least_43g.2.2.2.2.2.2.2.1
theorem dX12_least_54 : decode cX12_least 54 = .ok (.invokevirtual 341, 3) := dX12_least_43g.2.2.2.2.2.2.2.2.1
theorem dX12_least_57 : decode cX12_least 57 = .ok (.aload_n 0, 1) := dX12_least_43g.2.2.2.2.2.2.2.2.2
theorem dX12_least_58g : (decode cX12_least 58 = .ok (.getfield 325, 3)) ∧ (decode cX12_least 61 = .ok (.iconst (-1), 1)) ∧ (decode cX12_least 62 = .ok (.if_icmp .ne 5, 3)) ∧ (decode cX12_least 65 = .ok (.iconst (-1), 1)) ∧ (decode cX12_least 66 = .ok (.ireturn, 1)) ∧ (decode cX12_least 67 = .ok (.iload 5, 2)) ∧ (decode cX12_least 69 = .ok (.ifCond .ne 10, 3)) ∧ (decode cX12_least 72 = .ok (.aload_n 0, 1)) ∧ (decode cX12_least 73 = .ok (.getfield 332, 3)) ∧ (decode cX12_least 76 = .ok (.goto 33, 3)) := by decide +kernel
theorem dX12_least_58 : decode cX12_least 58 = .ok (.getfield 325, 3) := dX12_least_58g.1
theorem dX12_least_61 : decode cX12_least 61 = .ok (.iconst (-1), 1) := dX12_least_58g.2.1
theorem dX12_least_62 : decode cX12_least 62 = .ok (.if_icmp .ne 5, 3) := dX12_least_58g.2.2.1
theorem dX12_least_65 : decode cX12_least 65 = .ok (.iconst (-1), 1) := dX12_least_58g.2.2.2.1
theorem dX12_least_66 : decode cX12_least 66 = .ok (.ireturn, 1) := dX12_least_58g.2.2.2.2.1
theorem dX12_least_67 : decode cX12_least 67 = .ok (.iload 5, 2) := dX12_least_58g.2.2.2.2.2.1
theorem dX12_least_69 : decode cX12_least 69 = .ok (.ifCond .ne 10, 3) := dX12_least_58g.2.2.2.2.2.2.1
theorem dX12_least_72 : decode cX12_least 72 = .ok (.aload_n 0, 1) := dX12_least_58g.2.2.2.2.2.2.2.1
theorem dX12_least_73 : decode cX12_least 73 = .ok (.getfield 332, 3) := dX12_least_58g.2.2.2.2.2.2.2.2.1
theorem dX12_least_76 : decode cX12_least 76 = .ok (.goto 33, 3) := dX12_least_58g.2.2.2.2.2.2.2.2.2
theorem dX12_least_79g : (decode cX12_least 79 = .ok (.iload 5, 2)) ∧ (decode cX12_least 81 = .ok (.iconst 1, 1)) ∧ (decode cX12_least 82 = .ok (.if_icmp .ne 10, 3)) ∧ (decode cX12_least 85 = .ok (.aload_n 0, 1)) ∧ (decode cX12_least 86 = .ok (.getfield 325, 3)) ∧ (decode cX12_least 89 = .ok (.goto 20, 3)) ∧ (decode cX12_least 92 = .ok (.iload 5, 2)) ∧ (decode cX12_least 94 = .ok (.iconst 2, 1)) ∧ (decode cX12_least 95 = .ok (.if_icmp .ne 10, 3)) ∧ (decode cX12_least 98 = .ok (.aload_n 0, 1)) := by decide +kernel
theorem dX12_least_79 : decode cX12_least 79 = .ok (.iload 5, 2) := dX12_least_79g.1
theorem dX12_least_81 : decode cX12_least 81 = .ok (.iconst 1, 1) := dX12_least_79g.2.1
theorem dX12_least_82 : decode cX12_least 82 = .ok (.if_icmp .ne 10, 3) := dX12_least_79g.2.2.1
theorem dX12_least_85 : decode cX12_least 85 = .ok (.aload_n 0, 1) := dX12_least_79g.2.2.2.1
theorem dX12_least_86 : decode cX12_least 86 = .ok (.getfield 325, 3) := dX12_least_79g.2.2.2.2.1
theorem dX12_least_89 : decode cX12_least 89 = .ok (.goto 20, 3) := dX12_least_79g.2.2.2.2.2.1
theorem dX12_least_92 : decode cX12_least 92 = .ok (.iload 5, 2) := dX12_least_79g.2.2.2.2.2.2.1
theorem dX12_least_94 : decode cX12_least 94 = .ok (.iconst 2, 1) := dX12_least_79g.2.2.2.2.2.2.2.1
theorem dX12_least_95 : decode cX12_least 95 = .ok (.if_icmp .ne 10, 3) := dX12_least_79g.2.2.2.2.2.2.2.2.1
theorem dX12_least_98 : decode cX12_least 98 = .ok (.aload_n 0, 1) := dX12_least_79g.2.2.2.2.2.2.2.2.2
theorem dX12_least_99g : (decode cX12_least 99 = .ok (.getfield 338, 3)) ∧ (decode cX12_least 102 = .ok (.goto 7, 3)) ∧ (decode cX12_least 105 = .ok (.aload_n 0, 1)) ∧ (decode cX12_least 106 = .ok (.getfield 335, 3)) ∧ (decode cX12_least 109 = .ok (.ireturn, 1)) := by decide +kernel
theorem dX12_least_99 : decode cX12_least 99 = .ok (.getfield 338, 3) := dX12_least_99g.1
theorem dX12_least_102 : decode cX12_least 102 = .ok (.goto 7, 3) := dX12_least_99g.2.1
theorem dX12_least_105 : decode cX12_least 105 = .ok (.aload_n 0, 1) := dX12_least_99g.2.2.1
theorem dX12_least_106 : decode cX12_least 106 = .ok (.getfield 335, 3) := dX12_least_99g.2.2.2.1
theorem dX12_least_109 : decode cX12_least 109 = .ok (.ireturn, 1) := dX12_least_99g.2.2.2.2
set_option maxHeartbeats 4000000 in
set_option maxRecDepth 100000 in
theorem c_X12_least (l : Launch) (E : Nat → Nat) (D : va_G) (G : th_G) (h0 : Nat) (hG0 : G h0 = some (10, 0)) (x1 : Int32) (x2 : Int32) (x3 : Int32) (x4 : Int32) (x5 : Int32) : Met l yX12_least (tb (.code yX12_least cX12_least 6 (some .int))) (rm 69) (va_Pc [.ref h0, .int x1, .int x2, .int x3, .int x4, .int x5] (PX E D G (fun H => True))) (QXi E D G (fun r H => True)) 0 0 (th_A G) := by
  refine Met.ofW (cc := cX12_least) (maxL := 6) (ret := (some .int)) (by decide) rfl ?_
  intro p e s m args below meth c s₁ B hml hv
  obtain ⟨hav, ⟨hI, hN, hK⟩, hX⟩ := hv
  have hx := B.exec
  have hb := B.bytes
  have hr := B.returns
  have hts := atoms_spec (ws := tb (.code yX12_least cX12_least 6 (some .int))) B.pre
  have hown : s.vm.findClass RX12 = some m.cls := findClass_of_methodNamed B.named
  have hlocks := B.notSynchronized
  have hS : va_S (th_A G) s.heap s.heap [] := va_S.rf
  have hl := lv_entry ([.ref h0, .int x1, .int x2, .int x3, .int x4, .int x5]) (n := 6) (Nat.le_of_ble_eq_true rfl)
  rw [show entryFrame m args 6 = entryFrame m ([.ref h0, .int x1, .int x2, .int x3, .int x4, .int x5] : List Value).toArray 6 from by rw [hav], lg_entry_eq]
  generalize (lg_sl ([.ref h0, .int x1, .int x2, .int x3, .int x4, .int x5]) ++ List.replicate (6 - (lg_sl ([.ref h0, .int x1, .int x2, .int x3, .int x4, .int x5])).length) Slot.unset).toArray = ls at hl ⊢
  have hl : lv_has ls 6 [(0, .ref h0), (1, .int x1), (2, .int x2), (3, .int x3), (4, .int x4), (5, .int x5)] := hl
  generalize hR : (headSpec (tb (.code yX12_least cX12_least 6 (some .int))) (rm 69)).room = R
  have hR := hR.symm
  generalize hQ : MQ below (QXi E D G (fun r H => True)) args s 0 0 (th_A G) = QF
  have hQ := hQ.symm
  have J_42 : ∀ (H : Heap) (locs : List Loc) (ls : Array Slot)  , lv_has ls 6 [(0, .ref h0), (1, .int x1), (2, .int x2), (3, .int x3), (4, .int x4), (5, .int x5)] → th_I (okM E) D G [] H → va_S (th_A G) s.heap H locs → W p l e R s m args below meth c H locs 0 0 QF (F0 m 42 ls []) := by
    intro H locs ls   hl  hI hS
    refine lv_iconst (v := (-1)) hx hb dX12_least_42 (by decide) ?_
    have hpost : True := trivial
    rw [hQ]
    exact W.iret (v := (-1)) hx hb hr (fun t ht hW => ⟨⟨(-1), (-1), rfl, rfl, ⟨by rw [ht]; exact hI, hN.warm hW, va_K.moved hW.alike hK⟩, by first | (rw [ht]; exact hpost) | exact hpost⟩, hS.F ht⟩) hS.2.2 dX12_least_43
  refine lv_iload_n hx hb dX12_least_0 rfl (lv_at hl 1 rfl) ?_
  refine th_cSs (As := [.int x1]) (rest := []) (n := 1) (d := 1) ⟨hx, hb, hml, hown, hts⟩ (c_X12_isPlace l s.heap x1) wd_1670 wd_1671 wd_13 wd_1672 (by decide +kernel) ⟨by rw [hR]; exact Nat.le_of_ble_eq_true rfl, by rw [hR]; exact Nat.le_of_ble_eq_true rfl⟩ hN hS rfl hl.1 rfl (Nat.le_of_ble_eq_true rfl) dX12_least_1 ⟨Nat.zero_le _, Nat.zero_le _⟩ (fun r393 locs hp hS => ?_)
  rcases hp with ⟨rfl, hp⟩ | ⟨rfl, hp⟩
  · skip
    try simp only [rg, not_and, Int.not_le] at hp
    have hp394 := hp
    refine lv_if_eq (tgt := 42) hx hb dX12_least_4 (by decide) (fun c => absurd c (by decide)) (fun _ => ?_)
    refine lv_iload_n hx hb dX12_least_7 rfl (lv_at hl 2 rfl) ?_
    refine th_cSs (As := [.int x2]) (rest := []) (n := 1) (d := 1) ⟨hx, hb, hml, hown, hts⟩ (c_X12_isTime l s.heap x2) wd_1655 wd_1656 wd_13 wd_1657 (by decide +kernel) ⟨by rw [hR]; exact Nat.le_of_ble_eq_true rfl, by rw [hR]; exact Nat.le_of_ble_eq_true rfl⟩ hN hS rfl hl.1 rfl (Nat.le_of_ble_eq_true rfl) dX12_least_8 ⟨Nat.zero_le _, Nat.zero_le _⟩ (fun r395 locs hp hS => ?_)
    rcases hp with ⟨rfl, hp⟩ | ⟨rfl, hp⟩
    · skip
      try simp only [rg, not_and, Int.not_le] at hp
      have hp396 := hp
      refine lv_if_eq (tgt := 42) hx hb dX12_least_11 (by decide) (fun c => absurd c (by decide)) (fun _ => ?_)
      refine lv_iload_n hx hb dX12_least_14 rfl (lv_at hl 3 rfl) ?_
      refine lv_iload_n hx hb dX12_least_15 rfl (lv_at hl 2 rfl) ?_
      refine lv_bipush (v := 96) hx hb dX12_least_16 (by decide) ?_
      refine th_cSs (As := [.int x3, .int x2, .int 96]) (rest := []) (n := 3) (d := 0) ⟨hx, hb, hml, hown, hts⟩ (c_X12_lies l s.heap x3 x2 96) wd_1395 wd_1396 wd_13 wd_1397 (by decide +kernel) ⟨by rw [hR]; exact Nat.le_of_ble_eq_true rfl, by rw [hR]; exact Nat.le_of_ble_eq_true rfl⟩ hN hS rfl hl.1 rfl (Nat.le_of_ble_eq_true rfl) dX12_least_18 ⟨Nat.zero_le _, Nat.zero_le _⟩ (fun r397 locs hp hS => ?_)
      rcases hp with ⟨rfl, hp⟩ | ⟨rfl, hp⟩
      · skip
        try simp only [rg, not_and, Int.not_le] at hp
        have hp398 := hp
        try rw [show (96 : Int32).toInt = 96 from by decide] at hp398
        refine lv_if_eq (tgt := 42) hx hb dX12_least_21 (by decide) (fun c => absurd c (by decide)) (fun _ => ?_)
        refine lv_iload hx hb dX12_least_24 (lv_at hl 4 rfl) ?_
        refine th_cSs (As := [.int x4]) (rest := []) (n := 1) (d := 1) ⟨hx, hb, hml, hown, hts⟩ (c_X12_isHour l s.heap x4) wd_1428 wd_1429 wd_13 wd_1430 (by decide +kernel) ⟨by rw [hR]; exact Nat.le_of_ble_eq_true rfl, by rw [hR]; exact Nat.le_of_ble_eq_true rfl⟩ hN hS rfl hl.1 rfl (Nat.le_of_ble_eq_true rfl) dX12_least_26 ⟨Nat.zero_le _, Nat.zero_le _⟩ (fun r399 locs hp hS => ?_)
        rcases hp with ⟨rfl, hp⟩ | ⟨rfl, hp⟩
        · skip
          try simp only [rg, not_and, Int.not_le] at hp
          have hp400 := hp
          refine lv_if_eq (tgt := 42) hx hb dX12_least_29 (by decide) (fun c => absurd c (by decide)) (fun _ => ?_)
          refine lv_iload hx hb dX12_least_32 (lv_at hl 5 rfl) ?_
          refine lv_iconst (v := 0) hx hb dX12_least_34 (by decide) ?_
          refine lv_iconst (v := 3) hx hb dX12_least_35 (by decide) ?_
          refine th_cSs (As := [.int x5, .int 0, .int 3]) (rest := []) (n := 3) (d := 0) ⟨hx, hb, hml, hown, hts⟩ (c_X12_lies l s.heap x5 0 3) wd_1395 wd_1396 wd_13 wd_1397 (by decide +kernel) ⟨by rw [hR]; exact Nat.le_of_ble_eq_true rfl, by rw [hR]; exact Nat.le_of_ble_eq_true rfl⟩ hN hS rfl hl.1 rfl (Nat.le_of_ble_eq_true rfl) dX12_least_36 ⟨Nat.zero_le _, Nat.zero_le _⟩ (fun r401 locs hp hS => ?_)
          rcases hp with ⟨rfl, hp⟩ | ⟨rfl, hp⟩
          · skip
            try simp only [rg, not_and, Int.not_le] at hp
            have hp402 := hp
            try rw [show (0 : Int32).toInt = 0 from by decide] at hp402
            try rw [show (3 : Int32).toInt = 3 from by decide] at hp402
            refine lv_if_ne (tgt := 44) hx hb dX12_least_39 (by decide) (fun _ => ?_) (fun c => absurd c (by decide))
            refine lv_aload_n hx hb dX12_least_44 rfl (lv_at hl 0 rfl) ?_
            refine mx_v (As := []) (rest := []) (n := 0) (d := 68) ⟨hx, hb, hml, hown, hts⟩ (c_X12_looks l E D G h0 hG0 ) wd_1455 wd_1457 wp_43 wd_13 wd_1458 (by decide +kernel) ⟨by rw [hR]; exact Nat.le_of_ble_eq_true rfl, by rw [hR]; exact Nat.le_of_ble_eq_true rfl⟩ hI hN hK hS hG0 (trivial) rfl hl.1 rfl (Nat.le_of_ble_eq_true rfl) dX12_least_45 ⟨Nat.zero_le _, Nat.zero_le _⟩ (fun H locs hI hp hS => ?_)
            refine lv_aload_n hx hb dX12_least_48 rfl (lv_at hl 0 rfl) ?_
            refine lv_iload_n hx hb dX12_least_49 rfl (lv_at hl 1 rfl) ?_
            refine lv_iload_n hx hb dX12_least_50 rfl (lv_at hl 2 rfl) ?_
            refine lv_iload_n hx hb dX12_least_51 rfl (lv_at hl 3 rfl) ?_
            refine lv_iload hx hb dX12_least_52 (lv_at hl 4 rfl) ?_
            refine mx_v (As := [.int x1, .int x2, .int x3, .int x4]) (rest := []) (n := 4) (d := 1) ⟨hx, hb, hml, hown, hts⟩ (c_X12_findsThrow l E D G h0 hG0 x1 x2 x3 x4 (by omega) (by omega)) wd_1733 wd_1735 wp_83 wd_13 wd_1736 (by decide +kernel) ⟨by rw [hR]; exact Nat.le_of_ble_eq_true rfl, by rw [hR]; exact Nat.le_of_ble_eq_true rfl⟩ hI hN hK hS hG0 (trivial) rfl hl.1 rfl (Nat.le_of_ble_eq_true rfl) dX12_least_54 ⟨Nat.zero_le _, Nat.zero_le _⟩ (fun H locs hI hp hS => ?_)
            refine lv_aload_n hx hb dX12_least_57 rfl (lv_at hl 0 rfl) ?_
            refine gmI hx hb hts inT12 hown hK hI List.not_mem_nil hG0 31 (by decide) (hts _ (tb_c wd_1264)) rfl rfl dX12_least_58 (fun w405 hg406 k407 k408 => ?_)
            refine lv_iconst (v := (-1)) hx hb dX12_least_61 (by decide) ?_
            refine lv_icmp_ne (tgt := 67) hx hb dX12_least_62 (by decide) (fun c409 => ?_) (fun c409 => ?_)
            · skip
              have k410 := iv_ne (X := w405.toInt) (Y := (-1)) rfl (by decide) c409
              refine lv_iload hx hb dX12_least_67 (lv_at hl 5 rfl) ?_
              refine lv_if_ne (tgt := 79) hx hb dX12_least_69 (by decide) (fun c411 => ?_) (fun c411 => ?_)
              · skip
                have k412 := iv_ne (X := x5.toInt) (Y := (0)) rfl (by decide) c411
                refine lv_iload hx hb dX12_least_79 (lv_at hl 5 rfl) ?_
                refine lv_iconst (v := 1) hx hb dX12_least_81 (by decide) ?_
                refine lv_icmp_ne (tgt := 92) hx hb dX12_least_82 (by decide) (fun c413 => ?_) (fun c413 => ?_)
                · skip
                  have k414 := iv_ne (X := x5.toInt) (Y := (1)) rfl (by decide) c413
                  refine lv_iload hx hb dX12_least_92 (lv_at hl 5 rfl) ?_
                  refine lv_iconst (v := 2) hx hb dX12_least_94 (by decide) ?_
                  refine lv_icmp_ne (tgt := 105) hx hb dX12_least_95 (by decide) (fun c415 => ?_) (fun c415 => ?_)
                  · skip
                    have k416 := iv_ne (X := x5.toInt) (Y := (2)) rfl (by decide) c415
                    refine lv_aload_n hx hb dX12_least_105 rfl (lv_at hl 0 rfl) ?_
                    refine gmI hx hb hts inT12 hown hK hI List.not_mem_nil hG0 33 (by decide) (hts _ (tb_c wd_1266)) rfl rfl dX12_least_106 (fun w417 hg418 k419 k420 => ?_)
                    have hpost : True := trivial
                    rw [hQ]
                    exact W.iret (v := w417) hx hb hr (fun t ht hW => ⟨⟨w417, w417, rfl, rfl, ⟨by rw [ht]; exact hI, hN.warm hW, va_K.moved hW.alike hK⟩, by first | (rw [ht]; exact hpost) | exact hpost⟩, hS.F ht⟩) hS.2.2 dX12_least_109
                  · skip
                    have k421 := iv_eq (X := x5.toInt) (Y := (2)) rfl (by decide) c415
                    refine lv_aload_n hx hb dX12_least_98 rfl (lv_at hl 0 rfl) ?_
                    refine gmI hx hb hts inT12 hown hK hI List.not_mem_nil hG0 32 (by decide) (hts _ (tb_c wd_1265)) rfl rfl dX12_least_99 (fun w422 hg423 k424 k425 => ?_)
                    refine lv_goto (tgt := 109) hx hb dX12_least_102 (by decide) ?_
                    have hpost : True := trivial
                    rw [hQ]
                    exact W.iret (v := w422) hx hb hr (fun t ht hW => ⟨⟨w422, w422, rfl, rfl, ⟨by rw [ht]; exact hI, hN.warm hW, va_K.moved hW.alike hK⟩, by first | (rw [ht]; exact hpost) | exact hpost⟩, hS.F ht⟩) hS.2.2 dX12_least_109
                · skip
                  have k426 := iv_eq (X := x5.toInt) (Y := (1)) rfl (by decide) c413
                  refine lv_aload_n hx hb dX12_least_85 rfl (lv_at hl 0 rfl) ?_
                  refine gmI hx hb hts inT12 hown hK hI List.not_mem_nil hG0 31 (by decide) (hts _ (tb_c wd_1264)) rfl rfl dX12_least_86 (fun w427 hg428 k429 k430 => ?_)
                  obtain rfl := gf.uniq (by decide) hg406 hg428
                  refine lv_goto (tgt := 109) hx hb dX12_least_89 (by decide) ?_
                  have hpost : True := trivial
                  rw [hQ]
                  exact W.iret (v := w405) hx hb hr (fun t ht hW => ⟨⟨w405, w405, rfl, rfl, ⟨by rw [ht]; exact hI, hN.warm hW, va_K.moved hW.alike hK⟩, by first | (rw [ht]; exact hpost) | exact hpost⟩, hS.F ht⟩) hS.2.2 dX12_least_109
              · skip
                have k431 := iv_eq (X := x5.toInt) (Y := (0)) rfl (by decide) c411
                refine lv_aload_n hx hb dX12_least_72 rfl (lv_at hl 0 rfl) ?_
                refine gmI hx hb hts inT12 hown hK hI List.not_mem_nil hG0 30 (by decide) (hts _ (tb_c wd_1263)) rfl rfl dX12_least_73 (fun w432 hg433 k434 k435 => ?_)
                refine lv_goto (tgt := 109) hx hb dX12_least_76 (by decide) ?_
                have hpost : True := trivial
                rw [hQ]
                exact W.iret (v := w432) hx hb hr (fun t ht hW => ⟨⟨w432, w432, rfl, rfl, ⟨by rw [ht]; exact hI, hN.warm hW, va_K.moved hW.alike hK⟩, by first | (rw [ht]; exact hpost) | exact hpost⟩, hS.F ht⟩) hS.2.2 dX12_least_109
            · skip
              have k436 := iv_eq (X := w405.toInt) (Y := (-1)) rfl (by decide) c409
              refine lv_iconst (v := (-1)) hx hb dX12_least_65 (by decide) ?_
              have hpost : True := trivial
              rw [hQ]
              exact W.iret (v := (-1)) hx hb hr (fun t ht hW => ⟨⟨(-1), (-1), rfl, rfl, ⟨by rw [ht]; exact hI, hN.warm hW, va_K.moved hW.alike hK⟩, by first | (rw [ht]; exact hpost) | exact hpost⟩, hS.F ht⟩) hS.2.2 dX12_least_66
          · skip
            try simp only [rg, not_and, Int.not_le] at hp
            have hp437 := hp
            try rw [show (0 : Int32).toInt = 0 from by decide] at hp437
            try rw [show (3 : Int32).toInt = 3 from by decide] at hp437
            refine lv_if_ne (tgt := 44) hx hb dX12_least_39 (by decide) (fun c => absurd c (by decide)) (fun _ => ?_)
            exact J_42 s.heap locs ls   (lv_sub hl [0, 1, 2, 3, 4, 5] rfl)  hI hS
        · skip
          try simp only [rg, not_and, Int.not_le] at hp
          have hp438 := hp
          refine lv_if_eq (tgt := 42) hx hb dX12_least_29 (by decide) (fun _ => ?_) (fun c => absurd c (by decide))
          exact J_42 s.heap locs ls   (lv_sub hl [0, 1, 2, 3, 4, 5] rfl)  hI hS
      · skip
        try simp only [rg, not_and, Int.not_le] at hp
        have hp439 := hp
        try rw [show (96 : Int32).toInt = 96 from by decide] at hp439
        refine lv_if_eq (tgt := 42) hx hb dX12_least_21 (by decide) (fun _ => ?_) (fun c => absurd c (by decide))
        exact J_42 s.heap locs ls   (lv_sub hl [0, 1, 2, 3, 4, 5] rfl)  hI hS
    · skip
      try simp only [rg, not_and, Int.not_le] at hp
      have hp440 := hp
      refine lv_if_eq (tgt := 42) hx hb dX12_least_11 (by decide) (fun _ => ?_) (fun c => absurd c (by decide))
      exact J_42 s.heap locs ls   (lv_sub hl [0, 1, 2, 3, 4, 5] rfl)  hI hS
  · skip
    try simp only [rg, not_and, Int.not_le] at hp
    have hp441 := hp
    refine lv_if_eq (tgt := 42) hx hb dX12_least_4 (by decide) (fun _ => ?_) (fun c => absurd c (by decide))
    exact J_42 s.heap locs ls   (lv_sub hl [0, 1, 2, 3, 4, 5] rfl)  hI hS
theorem dX12_sight_0g : (decode cX12_sight 0 = .ok (.iload_n 1, 1)) ∧ (decode cX12_sight 1 = .ok (.invokestatic 118, 3)) ∧ (decode cX12_sight 4 = .ok (.ifCond .eq 27, 3)) ∧ (decode cX12_sight 7 = .ok (.iload_n 2, 1)) ∧ (decode cX12_sight 8 = .ok (.invokestatic 298, 3)) ∧ (decode cX12_sight 11 = .ok (.ifCond .eq 20, 3)) ∧ (decode cX12_sight 14 = .ok (.iload_n 3, 1)) ∧ (decode cX12_sight 15 = .ok (.invokestatic 129, 3)) ∧ (decode cX12_sight 18 = .ok (.ifCond .eq 13, 3)) ∧ (decode cX12_sight 21 = .ok (.iload 4, 2)) := by decide +kernel
theorem dX12_sight_0 : decode cX12_sight 0 = .ok (.iload_n 1, 1) := dX12_sight_0g.1
theorem dX12_sight_1 : decode cX12_sight 1 = .ok (.invokestatic 118, 3) := dX12_sight_0g.2.1
theorem dX12_sight_4 : decode cX12_sight 4 = .ok (.ifCond .eq 27, 3) := dX12_sight_0g.2.2.1
theorem dX12_sight_7 : decode cX12_sight 7 = .ok (.iload_n 2, 1) := dX12_sight_0g.2.2.2.1
theorem dX12_sight_8 : decode cX12_sight 8 = .ok (.invokestatic 298, 3) := dX12_sight_0g.2.2.2.2.1
theorem dX12_sight_11 : decode cX12_sight 11 = .ok (.ifCond .eq 20, 3) := dX12_sight_0g.2.2.2.2.2.1
theorem dX12_sight_14 : decode cX12_sight 14 = .ok (.iload_n 3, 1) := dX12_sight_0g.2.2.2.2.2.2.1
theorem dX12_sight_15 : decode cX12_sight 15 = .ok (.invokestatic 129, 3) := dX12_sight_0g.2.2.2.2.2.2.2.1
theorem dX12_sight_18 : decode cX12_sight 18 = .ok (.ifCond .eq 13, 3) := dX12_sight_0g.2.2.2.2.2.2.2.2.1
theorem dX12_sight_21 : decode cX12_sight 21 = .ok (.iload 4, 2) := dX12_sight_0g.2.2.2.2.2.2.2.2.2
theorem dX12_sight_23g : (decode cX12_sight 23 = .ok (.iconst 0, 1)) ∧ (decode cX12_sight 24 = .ok (.iconst 1, 1)) ∧ (decode cX12_sight 25 = .ok (.invokestatic 103, 3)) ∧ (decode cX12_sight 28 = .ok (.ifCond .ne 9, 3)) ∧ (decode cX12_sight 31 = .ok (.aload_n 0, 1)) ∧ (decode cX12_sight 32 = .ok (.iconst (-1), 1)) ∧ (decode cX12_sight 33 = .ok (.invokevirtual 107, 3)) ∧ (decode cX12_sight 36 = .ok (.ireturn, 1)) ∧ (decode cX12_sight 37 = .ok (.aload_n 0, 1)) ∧ (decode cX12_sight 38 = .ok (.getfield 20, 3)) := by decide +kernel
theorem dX12_sight_23 : decode cX12_sight 23 = .ok (.iconst 0, 1) := dX12_sight_23g.1
theorem dX12_sight_24 : decode cX12_sight 24 = .ok (.iconst 1, 1) := dX12_sight_23g.2.1
theorem dX12_sight_25 : decode cX12_sight 25 = .ok (.invokestatic 103, 3) := dX12_sight_23g.2.2.1
theorem dX12_sight_28 : decode cX12_sight 28 = .ok (.ifCond .ne 9, 3) := dX12_sight_23g.2.2.2.1
theorem dX12_sight_31 : decode cX12_sight 31 = .ok (.aload_n 0, 1) := dX12_sight_23g.2.2.2.2.1
theorem dX12_sight_32 : decode cX12_sight 32 = .ok (.iconst (-1), 1) := dX12_sight_23g.2.2.2.2.2.1
theorem dX12_sight_33 : decode cX12_sight 33 = .ok (.invokevirtual 107, 3) := dX12_sight_23g.2.2.2.2.2.2.1
theorem dX12_sight_36 : decode cX12_sight 36 = .ok (.ireturn, 1) := dX12_sight_23g.2.2.2.2.2.2.2.1
theorem dX12_sight_37 : decode cX12_sight 37 = .ok (.aload_n 0, 1) := dX12_sight_23g.2.2.2.2.2.2.2.2.1
theorem dX12_sight_38 : decode cX12_sight 38 = .ok (.getfield 20, 3) := dX12_sight_23g.2.2.2.2.2.2.2.2.2
theorem dX12_sight_41g : (decode cX12_sight 41 = .ok (.sipush 312, 3)) ∧ (decode cX12_sight 44 = .ok (.iaload, 1)) ∧ (decode cX12_sight 45 = .ok (.bipush 10, 2)) ∧ (decode cX12_sight 47 = .ok (.if_icmp .ne 10, 3)) ∧ (decode cX12_sight 50 = .ok (.aload_n 0, 1)) ∧ (decode cX12_sight 51 = .ok (.bipush (-5), 2)) ∧ (decode cX12_sight 53 = .ok (.invokevirtual 107, 3)) ∧ (decode cX12_sight 56 = .ok (.ireturn, 1)) ∧ (decode cX12_sight 57 = .ok (.aload_n 0, 1)) ∧ (decode cX12_sight 58 = .ok (.aload_n 0, 1)) := by decide +kernel
theorem dX12_sight_41 : decode cX12_sight 41 = .ok (.sipush 312, 3) := dX12_sight_41g.1
theorem dX12_sight_44 : decode cX12_sight 44 = .ok (.iaload, 1) := dX12_sight_41g.2.1
theorem dX12_sight_45 : decode cX12_sight 45 = .ok (.bipush 10, 2) := dX12_sight_41g.2.2.1
theorem dX12_sight_47 : decode cX12_sight 47 = .ok (.if_icmp .ne 10, 3) := dX12_sight_41g.2.2.2.1
theorem dX12_sight_50 : decode cX12_sight 50 = .ok (.aload_n 0, 1) := dX12_sight_41g.2.2.2.2.1
theorem dX12_sight_51 : decode cX12_sight 51 = .ok (.bipush (-5), 2) := dX12_sight_41g.2.2.2.2.2.1
theorem dX12_sight_53 : decode cX12_sight 53 = .ok (.invokevirtual 107, 3) := dX12_sight_41g.2.2.2.2.2.2.1
theorem dX12_sight_56 : decode cX12_sight 56 = .ok (.ireturn, 1) := dX12_sight_41g.2.2.2.2.2.2.2.1
theorem dX12_sight_57 : decode cX12_sight 57 = .ok (.aload_n 0, 1) := dX12_sight_41g.2.2.2.2.2.2.2.2.1
theorem dX12_sight_58 : decode cX12_sight 58 = .ok (.aload_n 0, 1) := dX12_sight_41g.2.2.2.2.2.2.2.2.2
theorem dX12_sight_59g : (decode cX12_sight 59 = .ok (.sipush 224, 3)) ∧ (decode cX12_sight 62 = .ok (.sipush 312, 3)) ∧ (decode cX12_sight 65 = .ok (.iconst 4, 1)) ∧ (decode cX12_sight 66 = .ok (.iload_n 1, 1)) ∧ (decode cX12_sight 67 = .ok (.iload_n 2, 1)) ∧ (decode cX12_sight 68 = .ok (.iload_n 3, 1)) ∧ (decode cX12_sight 69 = .ok (.iload 4, 2)) ∧ (decode cX12_sight 71 = .ok (.invokevirtual 125, 3)) ∧ (decode cX12_sight 74 = .ok (.invokevirtual 111, 3)) ∧ (decode cX12_sight 77 = .ok (.ireturn, 1)) := by decide +kernel
theorem dX12_sight_59 : decode cX12_sight 59 = .ok (.sipush 224, 3) := dX12_sight_59g.1
theorem dX12_sight_62 : decode cX12_sight 62 = .ok (.sipush 312, 3) := dX12_sight_59g.2.1
theorem dX12_sight_65 : decode cX12_sight 65 = .ok (.iconst 4, 1) := dX12_sight_59g.2.2.1
theorem dX12_sight_66 : decode cX12_sight 66 = .ok (.iload_n 1, 1) := dX12_sight_59g.2.2.2.1
theorem dX12_sight_67 : decode cX12_sight 67 = .ok (.iload_n 2, 1) := dX12_sight_59g.2.2.2.2.1
theorem dX12_sight_68 : decode cX12_sight 68 = .ok (.iload_n 3, 1) := dX12_sight_59g.2.2.2.2.2.1
theorem dX12_sight_69 : decode cX12_sight 69 = .ok (.iload 4, 2) := dX12_sight_59g.2.2.2.2.2.2.1
theorem dX12_sight_71 : decode cX12_sight 71 = .ok (.invokevirtual 125, 3) := dX12_sight_59g.2.2.2.2.2.2.2.1
theorem dX12_sight_74 : decode cX12_sight 74 = .ok (.invokevirtual 111, 3) := dX12_sight_59g.2.2.2.2.2.2.2.2.1
theorem dX12_sight_77 : decode cX12_sight 77 = .ok (.ireturn, 1) := dX12_sight_59g.2.2.2.2.2.2.2.2.2
set_option maxHeartbeats 4000000 in
set_option maxRecDepth 100000 in
theorem c_X12_sight (l : Launch) (Eo : Nat → Nat) (D : va_G) (G : th_G) (h0 : Nat) (hG0 : G h0 = some (10, 0)) (x1 : Int32) (x2 : Int32) (x3 : Int32) (x4 : Int32) (hU1 : UQ G 1) : Met l yX12_sight (tb (.code yX12_sight cX12_sight 5 (some .int))) (rm 2) (va_Pc [.ref h0, .int x1, .int x2, .int x3, .int x4] (PX Eo D G (fun H => True))) (QXi (eu Eo 10 (gI ((rg x1 0 23 ∧ rg x2 0 96 ∧ rg x3 0 3 ∧ rg x4 0 1) ∧ Eo 10 < 10) (Eo 10))) D G (fun r H => ((r : Int32) = -1 ∧ ¬ (rg x1 0 23 ∧ rg x2 0 96 ∧ rg x3 0 3 ∧ rg x4 0 1)) ∨ ((r : Int32) = -5 ∧ (rg x1 0 23 ∧ rg x2 0 96 ∧ rg x3 0 3 ∧ rg x4 0 1) ∧ ¬ Eo 10 < 10) ∨ ((r : Int32).toInt = ((Eo 10 : Nat) : Int) + 1 ∧ (rg x1 0 23 ∧ rg x2 0 96 ∧ rg x3 0 3 ∧ rg x4 0 1) ∧ Eo 10 < 10))) 0 0 (th_A G) := by
  refine Met.ofW (cc := cX12_sight) (maxL := 5) (ret := (some .int)) (by decide) rfl ?_
  intro p e s m args below meth c s₁ B hml hv
  obtain ⟨hav, ⟨hI, hN, hK⟩, hX⟩ := hv
  have hx := B.exec
  have hb := B.bytes
  have hr := B.returns
  have hts := atoms_spec (ws := tb (.code yX12_sight cX12_sight 5 (some .int))) B.pre
  have hown : s.vm.findClass RX12 = some m.cls := findClass_of_methodNamed B.named
  have hlocks := B.notSynchronized
  have hS : va_S (th_A G) s.heap s.heap [] := va_S.rf
  have hl := lv_entry ([.ref h0, .int x1, .int x2, .int x3, .int x4]) (n := 5) (Nat.le_of_ble_eq_true rfl)
  rw [show entryFrame m args 5 = entryFrame m ([.ref h0, .int x1, .int x2, .int x3, .int x4] : List Value).toArray 5 from by rw [hav], lg_entry_eq]
  generalize (lg_sl ([.ref h0, .int x1, .int x2, .int x3, .int x4]) ++ List.replicate (5 - (lg_sl ([.ref h0, .int x1, .int x2, .int x3, .int x4])).length) Slot.unset).toArray = ls at hl ⊢
  obtain ⟨E, hEe⟩ : ∃ x : Nat → Nat, x = eu Eo 10 (gI ((rg x1 0 23 ∧ rg x2 0 96 ∧ rg x3 0 3 ∧ rg x4 0 1) ∧ Eo 10 < 10) (Eo 10)) := ⟨_, rfl⟩
  have hl : lv_has ls 5 [(0, .ref h0), (1, .int x1), (2, .int x2), (3, .int x3), (4, .int x4)] := hl
  generalize hR : (headSpec (tb (.code yX12_sight cX12_sight 5 (some .int))) (rm 2)).room = R
  have hR := hR.symm
  generalize hQ : MQ below (QXi (eu Eo 10 (gI ((rg x1 0 23 ∧ rg x2 0 96 ∧ rg x3 0 3 ∧ rg x4 0 1) ∧ Eo 10 < 10) (Eo 10))) D G (fun r H => ((r : Int32) = -1 ∧ ¬ (rg x1 0 23 ∧ rg x2 0 96 ∧ rg x3 0 3 ∧ rg x4 0 1)) ∨ ((r : Int32) = -5 ∧ (rg x1 0 23 ∧ rg x2 0 96 ∧ rg x3 0 3 ∧ rg x4 0 1) ∧ ¬ Eo 10 < 10) ∨ ((r : Int32).toInt = ((Eo 10 : Nat) : Int) + 1 ∧ (rg x1 0 23 ∧ rg x2 0 96 ∧ rg x3 0 3 ∧ rg x4 0 1) ∧ Eo 10 < 10))) args s 0 0 (th_A G) = QF
  have hQ := hQ.symm
  refine lv_iload_n hx hb dX12_sight_0 rfl (lv_at hl 1 rfl) ?_
  refine th_cSs (As := [.int x1]) (rest := []) (n := 1) (d := 1) ⟨hx, hb, hml, hown, hts⟩ (c_X12_isCell l s.heap x1) wd_1414 wd_1415 wd_13 wd_1416 (by decide +kernel) ⟨by rw [hR]; exact Nat.le_of_ble_eq_true rfl, by rw [hR]; exact Nat.le_of_ble_eq_true rfl⟩ hN hS rfl hl.1 rfl (Nat.le_of_ble_eq_true rfl) dX12_sight_1 ⟨Nat.zero_le _, Nat.zero_le _⟩ (fun r1 locs hp hS => ?_)
  rcases hp with ⟨rfl, hp⟩ | ⟨rfl, hp⟩
  · skip
    try simp only [rg, not_and, Int.not_le] at hp
    have hp2 := hp
    refine lv_if_eq (tgt := 31) hx hb dX12_sight_4 (by decide) (fun c => absurd c (by decide)) (fun _ => ?_)
    refine lv_iload_n hx hb dX12_sight_7 rfl (lv_at hl 2 rfl) ?_
    refine th_cSs (As := [.int x2]) (rest := []) (n := 1) (d := 1) ⟨hx, hb, hml, hown, hts⟩ (c_X12_isTime l s.heap x2) wd_1655 wd_1656 wd_13 wd_1657 (by decide +kernel) ⟨by rw [hR]; exact Nat.le_of_ble_eq_true rfl, by rw [hR]; exact Nat.le_of_ble_eq_true rfl⟩ hN hS rfl hl.1 rfl (Nat.le_of_ble_eq_true rfl) dX12_sight_8 ⟨Nat.zero_le _, Nat.zero_le _⟩ (fun r3 locs hp hS => ?_)
    rcases hp with ⟨rfl, hp⟩ | ⟨rfl, hp⟩
    · skip
      try simp only [rg, not_and, Int.not_le] at hp
      have hp4 := hp
      refine lv_if_eq (tgt := 31) hx hb dX12_sight_11 (by decide) (fun c => absurd c (by decide)) (fun _ => ?_)
      refine lv_iload_n hx hb dX12_sight_14 rfl (lv_at hl 3 rfl) ?_
      refine th_cSs (As := [.int x3]) (rest := []) (n := 1) (d := 1) ⟨hx, hb, hml, hown, hts⟩ (c_X12_isColour l s.heap x3) wd_1545 wd_1546 wd_13 wd_1547 (by decide +kernel) ⟨by rw [hR]; exact Nat.le_of_ble_eq_true rfl, by rw [hR]; exact Nat.le_of_ble_eq_true rfl⟩ hN hS rfl hl.1 rfl (Nat.le_of_ble_eq_true rfl) dX12_sight_15 ⟨Nat.zero_le _, Nat.zero_le _⟩ (fun r5 locs hp hS => ?_)
      rcases hp with ⟨rfl, hp⟩ | ⟨rfl, hp⟩
      · skip
        try simp only [rg, not_and, Int.not_le] at hp
        have hp6 := hp
        refine lv_if_eq (tgt := 31) hx hb dX12_sight_18 (by decide) (fun c => absurd c (by decide)) (fun _ => ?_)
        refine lv_iload hx hb dX12_sight_21 (lv_at hl 4 rfl) ?_
        refine lv_iconst (v := 0) hx hb dX12_sight_23 (by decide) ?_
        refine lv_iconst (v := 1) hx hb dX12_sight_24 (by decide) ?_
        refine th_cSs (As := [.int x4, .int 0, .int 1]) (rest := []) (n := 3) (d := 0) ⟨hx, hb, hml, hown, hts⟩ (c_X12_lies l s.heap x4 0 1) wd_1395 wd_1396 wd_13 wd_1397 (by decide +kernel) ⟨by rw [hR]; exact Nat.le_of_ble_eq_true rfl, by rw [hR]; exact Nat.le_of_ble_eq_true rfl⟩ hN hS rfl hl.1 rfl (Nat.le_of_ble_eq_true rfl) dX12_sight_25 ⟨Nat.zero_le _, Nat.zero_le _⟩ (fun r7 locs hp hS => ?_)
        rcases hp with ⟨rfl, hp⟩ | ⟨rfl, hp⟩
        · skip
          try simp only [rg, not_and, Int.not_le] at hp
          have hp8 := hp
          try rw [show (0 : Int32).toInt = 0 from by decide] at hp8
          try rw [show (1 : Int32).toInt = 1 from by decide] at hp8
          refine lv_if_ne (tgt := 37) hx hb dX12_sight_28 (by decide) (fun _ => ?_) (fun c => absurd c (by decide))
          refine lv_aload_n hx hb dX12_sight_37 rfl (lv_at hl 0 rfl) ?_
          refine gmA hx hb hts inT12 hown hK hI List.not_mem_nil hG0 3 (by decide) (hts _ (tb_c wd_1236)) rfl rfl dX12_sight_38 (fun a9 hq10 hf11 => ?_)
          refine lv_sipush (v := 312) hx hb dX12_sight_41 (by decide) ?_
          obtain ⟨F12, hA13, hP14⟩ := om_1 hI hq10 List.not_mem_nil
          refine th_iald hx hb hK hA13 0 rfl (iv_in (X := (312)) (by decide) (by omega) (by omega)) dX12_sight_44 (fun v15 e16 => ?_)
          have k17 := kg_m312 (kOk.get (i := 312) hP14 e16 (X := (312)) (by decide) (by omega) (by omega)) (by omega) (by omega) (by omega)
          refine lv_bipush (v := 10) hx hb dX12_sight_45 (by decide) ?_
          refine lv_icmp_ne (tgt := 57) hx hb dX12_sight_47 (by decide) (fun c18 => ?_) (fun c18 => ?_)
          · skip
            have k19 := iv_ne (X := v15.toInt) (Y := (10)) rfl (by decide) c18
            refine lv_aload_n hx hb dX12_sight_57 rfl (lv_at hl 0 rfl) ?_
            refine lv_aload_n hx hb dX12_sight_58 rfl (lv_at hl 0 rfl) ?_
            refine lv_sipush (v := 224) hx hb dX12_sight_59 (by decide) ?_
            refine lv_sipush (v := 312) hx hb dX12_sight_62 (by decide) ?_
            refine lv_iconst (v := 4) hx hb dX12_sight_65 (by decide) ?_
            refine lv_iload_n hx hb dX12_sight_66 rfl (lv_at hl 1 rfl) ?_
            refine lv_iload_n hx hb dX12_sight_67 rfl (lv_at hl 2 rfl) ?_
            refine lv_iload_n hx hb dX12_sight_68 rfl (lv_at hl 3 rfl) ?_
            refine lv_iload hx hb dX12_sight_69 (lv_at hl 4 rfl) ?_
            refine mx_iE (As := [.int 224, .int 312, .int 4, .int x1, .int x2, .int x3, .int x4]) (rest := [.ref h0]) (n := 7) (d := 0) ⟨hx, hb, hml, hown, hts⟩ (c_X12_comesBehind_312 l Eo D G h0 hG0 x1 x2 x3 x4 ⟨by omega, by omega⟩ F12 hP14 (lt_of_rd e16 rfl (by omega)) hU1) wd_1435 wd_1437 wp_42 wd_13 wd_1438 (by decide +kernel) ⟨by rw [hR]; exact Nat.le_of_ble_eq_true rfl, by rw [hR]; exact Nat.le_of_ble_eq_true rfl⟩ hI hN hK (by rw [tys_eu (by decide)]; exact hK) hS hG0 (⟨a9, hf11, hq10, hA13⟩) rfl hl.1 rfl (Nat.le_of_ble_eq_true rfl) dX12_sight_71 ⟨Nat.zero_le _, Nat.zero_le _⟩ (fun r20 H locs Eu21 hEu21 hI hK hp hS => ?_)
            have hEq : Eu21 = E := hEu21.trans ((congrArg (fun z => eu Eo 10 z) (show _ = gI ((rg x1 0 23 ∧ rg x2 0 96 ∧ rg x3 0 3 ∧ rg x4 0 1) ∧ Eo 10 < 10) (Eo 10) from by first | omega | (rw [gI_t (by (try simp only [rg]); omega)]; done) | (rw [gI_t (by (try simp only [rg]); omega)]; omega) | (rw [gD_t (by (try simp only [rg]); omega)]; omega))).trans hEe.symm)
            rw [hEq] at hI hK
            have hp22 := hp
            refine mx_i (As := [.int r20]) (rest := []) (n := 1) (d := 0) ⟨hx, hb, hml, hown, hts⟩ (c_X12_good l E D G h0 hG0 r20) wd_1402 wd_1404 wp_41 wd_13 wd_1405 (by decide +kernel) ⟨by rw [hR]; exact Nat.le_of_ble_eq_true rfl, by rw [hR]; exact Nat.le_of_ble_eq_true rfl⟩ hI hN hK hS hG0 (trivial) rfl hl.1 rfl (Nat.le_of_ble_eq_true rfl) dX12_sight_74 ⟨Nat.zero_le _, Nat.zero_le _⟩ (fun r23 H locs hI hp hS => ?_)
            obtain rfl := hp.symm
            have hE10 : E 10 = gI ((rg x1 0 23 ∧ rg x2 0 96 ∧ rg x3 0 3 ∧ rg x4 0 1) ∧ Eo 10 < 10) (Eo 10) := by rw [hEe]; exact eu_at
            try rw [gD_t (by omega)] at hE10
            try rw [gI_t (by simp only [rg]; omega)] at hE10
            have hpost : ((r20 : Int32) = -1 ∧ ¬ (rg x1 0 23 ∧ rg x2 0 96 ∧ rg x3 0 3 ∧ rg x4 0 1)) ∨ ((r20 : Int32) = -5 ∧ (rg x1 0 23 ∧ rg x2 0 96 ∧ rg x3 0 3 ∧ rg x4 0 1) ∧ ¬ Eo 10 < 10) ∨ ((r20 : Int32).toInt = ((Eo 10 : Nat) : Int) + 1 ∧ (rg x1 0 23 ∧ rg x2 0 96 ∧ rg x3 0 3 ∧ rg x4 0 1) ∧ Eo 10 < 10) := by first | exact Or.inl ⟨rfl, by (try simp only [rg]); omega⟩ | exact Or.inr (Or.inl ⟨rfl, by (try simp only [rg]); omega⟩) | exact Or.inr (Or.inr ⟨by omega, by (try simp only [rg]); omega⟩)
            subst hEe
            rw [hQ]
            exact W.iret (v := r20) hx hb hr (fun t ht hW => ⟨⟨r20, r20, rfl, rfl, ⟨by rw [ht]; exact hI, hN.warm hW, va_K.moved hW.alike hK⟩, by first | (rw [ht]; exact hpost) | exact hpost⟩, hS.F ht⟩) hS.2.2 dX12_sight_77
          · skip
            have k24 := iv_eq (X := v15.toInt) (Y := (10)) rfl (by decide) c18
            refine lv_aload_n hx hb dX12_sight_50 rfl (lv_at hl 0 rfl) ?_
            refine lv_bipush (v := (-5)) hx hb dX12_sight_51 (by decide) ?_
            refine mx_i (As := [.int (-5)]) (rest := []) (n := 1) (d := 0) ⟨hx, hb, hml, hown, hts⟩ (c_X12_refuses l Eo D G h0 hG0 (-5) ⟨by decide, by decide⟩) wd_1398 wd_1400 wp_40 wd_13 wd_1401 (by decide +kernel) ⟨by rw [hR]; exact Nat.le_of_ble_eq_true rfl, by rw [hR]; exact Nat.le_of_ble_eq_true rfl⟩ hI hN hK hS hG0 (trivial) rfl hl.1 rfl (Nat.le_of_ble_eq_true rfl) dX12_sight_53 ⟨Nat.zero_le _, Nat.zero_le _⟩ (fun r25 H locs hI hp hS => ?_)
            obtain rfl := hp.symm
            have hEq : eu Eo 10 (gI ((rg x1 0 23 ∧ rg x2 0 96 ∧ rg x3 0 3 ∧ rg x4 0 1) ∧ Eo 10 < 10) (Eo 10)) = Eo := eu_id (by first | (exact gI_f (by (try simp only [rg]); omega)) | (exact gD_f (by (try simp only [rg]); omega)) | omega)
            have hI : th_I (okM (eu Eo 10 (gI ((rg x1 0 23 ∧ rg x2 0 96 ∧ rg x3 0 3 ∧ rg x4 0 1) ∧ Eo 10 < 10) (Eo 10)))) D G [] H := by rw [hEq]; exact hI
            have hK : va_K D vwCl (th_tys (eu Eo 10 (gI ((rg x1 0 23 ∧ rg x2 0 96 ∧ rg x3 0 3 ∧ rg x4 0 1) ∧ Eo 10 < 10) (Eo 10)))) s := by rw [hEq]; exact hK
            have hpost : (((-5) : Int32) = -1 ∧ ¬ (rg x1 0 23 ∧ rg x2 0 96 ∧ rg x3 0 3 ∧ rg x4 0 1)) ∨ (((-5) : Int32) = -5 ∧ (rg x1 0 23 ∧ rg x2 0 96 ∧ rg x3 0 3 ∧ rg x4 0 1) ∧ ¬ Eo 10 < 10) ∨ (((-5) : Int32).toInt = ((Eo 10 : Nat) : Int) + 1 ∧ (rg x1 0 23 ∧ rg x2 0 96 ∧ rg x3 0 3 ∧ rg x4 0 1) ∧ Eo 10 < 10) := by first | exact Or.inl ⟨rfl, by (try simp only [rg]); omega⟩ | exact Or.inr (Or.inl ⟨rfl, by (try simp only [rg]); omega⟩) | exact Or.inr (Or.inr ⟨by omega, by (try simp only [rg]); omega⟩)
            rw [hQ]
            exact W.iret (v := (-5)) hx hb hr (fun t ht hW => ⟨⟨(-5), (-5), rfl, rfl, ⟨by rw [ht]; exact hI, hN.warm hW, va_K.moved hW.alike hK⟩, by first | (rw [ht]; exact hpost) | exact hpost⟩, hS.F ht⟩) hS.2.2 dX12_sight_56
        · skip
          try simp only [rg, not_and, Int.not_le] at hp
          have hp26 := hp
          try rw [show (0 : Int32).toInt = 0 from by decide] at hp26
          try rw [show (1 : Int32).toInt = 1 from by decide] at hp26
          refine lv_if_ne (tgt := 37) hx hb dX12_sight_28 (by decide) (fun c => absurd c (by decide)) (fun _ => ?_)
          refine lv_aload_n hx hb dX12_sight_31 rfl (lv_at hl 0 rfl) ?_
          refine lv_iconst (v := (-1)) hx hb dX12_sight_32 (by decide) ?_
          refine mx_i (As := [.int (-1)]) (rest := []) (n := 1) (d := 0) ⟨hx, hb, hml, hown, hts⟩ (c_X12_refuses l Eo D G h0 hG0 (-1) ⟨by decide, by decide⟩) wd_1398 wd_1400 wp_40 wd_13 wd_1401 (by decide +kernel) ⟨by rw [hR]; exact Nat.le_of_ble_eq_true rfl, by rw [hR]; exact Nat.le_of_ble_eq_true rfl⟩ hI hN hK hS hG0 (trivial) rfl hl.1 rfl (Nat.le_of_ble_eq_true rfl) dX12_sight_33 ⟨Nat.zero_le _, Nat.zero_le _⟩ (fun r27 H locs hI hp hS => ?_)
          obtain rfl := hp.symm
          have hEq : eu Eo 10 (gI ((rg x1 0 23 ∧ rg x2 0 96 ∧ rg x3 0 3 ∧ rg x4 0 1) ∧ Eo 10 < 10) (Eo 10)) = Eo := eu_id (by first | (exact gI_f (by (try simp only [rg]); omega)) | (exact gD_f (by (try simp only [rg]); omega)) | omega)
          have hI : th_I (okM (eu Eo 10 (gI ((rg x1 0 23 ∧ rg x2 0 96 ∧ rg x3 0 3 ∧ rg x4 0 1) ∧ Eo 10 < 10) (Eo 10)))) D G [] H := by rw [hEq]; exact hI
          have hK : va_K D vwCl (th_tys (eu Eo 10 (gI ((rg x1 0 23 ∧ rg x2 0 96 ∧ rg x3 0 3 ∧ rg x4 0 1) ∧ Eo 10 < 10) (Eo 10)))) s := by rw [hEq]; exact hK
          have hpost : (((-1) : Int32) = -1 ∧ ¬ (rg x1 0 23 ∧ rg x2 0 96 ∧ rg x3 0 3 ∧ rg x4 0 1)) ∨ (((-1) : Int32) = -5 ∧ (rg x1 0 23 ∧ rg x2 0 96 ∧ rg x3 0 3 ∧ rg x4 0 1) ∧ ¬ Eo 10 < 10) ∨ (((-1) : Int32).toInt = ((Eo 10 : Nat) : Int) + 1 ∧ (rg x1 0 23 ∧ rg x2 0 96 ∧ rg x3 0 3 ∧ rg x4 0 1) ∧ Eo 10 < 10) := by first | exact Or.inl ⟨rfl, by (try simp only [rg]); omega⟩ | exact Or.inr (Or.inl ⟨rfl, by (try simp only [rg]); omega⟩) | exact Or.inr (Or.inr ⟨by omega, by (try simp only [rg]); omega⟩)
          rw [hQ]
          exact W.iret (v := (-1)) hx hb hr (fun t ht hW => ⟨⟨(-1), (-1), rfl, rfl, ⟨by rw [ht]; exact hI, hN.warm hW, va_K.moved hW.alike hK⟩, by first | (rw [ht]; exact hpost) | exact hpost⟩, hS.F ht⟩) hS.2.2 dX12_sight_36
      · skip
        try simp only [rg, not_and, Int.not_le] at hp
        have hp28 := hp
        refine lv_if_eq (tgt := 31) hx hb dX12_sight_18 (by decide) (fun _ => ?_) (fun c => absurd c (by decide))
        refine lv_aload_n hx hb dX12_sight_31 rfl (lv_at hl 0 rfl) ?_
        refine lv_iconst (v := (-1)) hx hb dX12_sight_32 (by decide) ?_
        refine mx_i (As := [.int (-1)]) (rest := []) (n := 1) (d := 0) ⟨hx, hb, hml, hown, hts⟩ (c_X12_refuses l Eo D G h0 hG0 (-1) ⟨by decide, by decide⟩) wd_1398 wd_1400 wp_40 wd_13 wd_1401 (by decide +kernel) ⟨by rw [hR]; exact Nat.le_of_ble_eq_true rfl, by rw [hR]; exact Nat.le_of_ble_eq_true rfl⟩ hI hN hK hS hG0 (trivial) rfl hl.1 rfl (Nat.le_of_ble_eq_true rfl) dX12_sight_33 ⟨Nat.zero_le _, Nat.zero_le _⟩ (fun r29 H locs hI hp hS => ?_)
        obtain rfl := hp.symm
        have hEq : eu Eo 10 (gI ((rg x1 0 23 ∧ rg x2 0 96 ∧ rg x3 0 3 ∧ rg x4 0 1) ∧ Eo 10 < 10) (Eo 10)) = Eo := eu_id (by first | (exact gI_f (by (try simp only [rg]); omega)) | (exact gD_f (by (try simp only [rg]); omega)) | omega)
        have hI : th_I (okM (eu Eo 10 (gI ((rg x1 0 23 ∧ rg x2 0 96 ∧ rg x3 0 3 ∧ rg x4 0 1) ∧ Eo 10 < 10) (Eo 10)))) D G [] H := by rw [hEq]; exact hI
        have hK : va_K D vwCl (th_tys (eu Eo 10 (gI ((rg x1 0 23 ∧ rg x2 0 96 ∧ rg x3 0 3 ∧ rg x4 0 1) ∧ Eo 10 < 10) (Eo 10)))) s := by rw [hEq]; exact hK
        have hpost : (((-1) : Int32) = -1 ∧ ¬ (rg x1 0 23 ∧ rg x2 0 96 ∧ rg x3 0 3 ∧ rg x4 0 1)) ∨ (((-1) : Int32) = -5 ∧ (rg x1 0 23 ∧ rg x2 0 96 ∧ rg x3 0 3 ∧ rg x4 0 1) ∧ ¬ Eo 10 < 10) ∨ (((-1) : Int32).toInt = ((Eo 10 : Nat) : Int) + 1 ∧ (rg x1 0 23 ∧ rg x2 0 96 ∧ rg x3 0 3 ∧ rg x4 0 1) ∧ Eo 10 < 10) := by first | exact Or.inl ⟨rfl, by (try simp only [rg]); omega⟩ | exact Or.inr (Or.inl ⟨rfl, by (try simp only [rg]); omega⟩) | exact Or.inr (Or.inr ⟨by omega, by (try simp only [rg]); omega⟩)
        rw [hQ]
        exact W.iret (v := (-1)) hx hb hr (fun t ht hW => ⟨⟨(-1), (-1), rfl, rfl, ⟨by rw [ht]; exact hI, hN.warm hW, va_K.moved hW.alike hK⟩, by first | (rw [ht]; exact hpost) | exact hpost⟩, hS.F ht⟩) hS.2.2 dX12_sight_36
    · skip
      try simp only [rg, not_and, Int.not_le] at hp
      have hp30 := hp
      refine lv_if_eq (tgt := 31) hx hb dX12_sight_11 (by decide) (fun _ => ?_) (fun c => absurd c (by decide))
      refine lv_aload_n hx hb dX12_sight_31 rfl (lv_at hl 0 rfl) ?_
      refine lv_iconst (v := (-1)) hx hb dX12_sight_32 (by decide) ?_
      refine mx_i (As := [.int (-1)]) (rest := []) (n := 1) (d := 0) ⟨hx, hb, hml, hown, hts⟩ (c_X12_refuses l Eo D G h0 hG0 (-1) ⟨by decide, by decide⟩) wd_1398 wd_1400 wp_40 wd_13 wd_1401 (by decide +kernel) ⟨by rw [hR]; exact Nat.le_of_ble_eq_true rfl, by rw [hR]; exact Nat.le_of_ble_eq_true rfl⟩ hI hN hK hS hG0 (trivial) rfl hl.1 rfl (Nat.le_of_ble_eq_true rfl) dX12_sight_33 ⟨Nat.zero_le _, Nat.zero_le _⟩ (fun r31 H locs hI hp hS => ?_)
      obtain rfl := hp.symm
      have hEq : eu Eo 10 (gI ((rg x1 0 23 ∧ rg x2 0 96 ∧ rg x3 0 3 ∧ rg x4 0 1) ∧ Eo 10 < 10) (Eo 10)) = Eo := eu_id (by first | (exact gI_f (by (try simp only [rg]); omega)) | (exact gD_f (by (try simp only [rg]); omega)) | omega)
      have hI : th_I (okM (eu Eo 10 (gI ((rg x1 0 23 ∧ rg x2 0 96 ∧ rg x3 0 3 ∧ rg x4 0 1) ∧ Eo 10 < 10) (Eo 10)))) D G [] H := by rw [hEq]; exact hI
      have hK : va_K D vwCl (th_tys (eu Eo 10 (gI ((rg x1 0 23 ∧ rg x2 0 96 ∧ rg x3 0 3 ∧ rg x4 0 1) ∧ Eo 10 < 10) (Eo 10)))) s := by rw [hEq]; exact hK
      have hpost : (((-1) : Int32) = -1 ∧ ¬ (rg x1 0 23 ∧ rg x2 0 96 ∧ rg x3 0 3 ∧ rg x4 0 1)) ∨ (((-1) : Int32) = -5 ∧ (rg x1 0 23 ∧ rg x2 0 96 ∧ rg x3 0 3 ∧ rg x4 0 1) ∧ ¬ Eo 10 < 10) ∨ (((-1) : Int32).toInt = ((Eo 10 : Nat) : Int) + 1 ∧ (rg x1 0 23 ∧ rg x2 0 96 ∧ rg x3 0 3 ∧ rg x4 0 1) ∧ Eo 10 < 10) := by first | exact Or.inl ⟨rfl, by (try simp only [rg]); omega⟩ | exact Or.inr (Or.inl ⟨rfl, by (try simp only [rg]); omega⟩) | exact Or.inr (Or.inr ⟨by omega, by (try simp only [rg]); omega⟩)
      rw [hQ]
      exact W.iret (v := (-1)) hx hb hr (fun t ht hW => ⟨⟨(-1), (-1), rfl, rfl, ⟨by rw [ht]; exact hI, hN.warm hW, va_K.moved hW.alike hK⟩, by first | (rw [ht]; exact hpost) | exact hpost⟩, hS.F ht⟩) hS.2.2 dX12_sight_36
  · skip
    try simp only [rg, not_and, Int.not_le] at hp
    have hp32 := hp
    refine lv_if_eq (tgt := 31) hx hb dX12_sight_4 (by decide) (fun _ => ?_) (fun c => absurd c (by decide))
    refine lv_aload_n hx hb dX12_sight_31 rfl (lv_at hl 0 rfl) ?_
    refine lv_iconst (v := (-1)) hx hb dX12_sight_32 (by decide) ?_
    refine mx_i (As := [.int (-1)]) (rest := []) (n := 1) (d := 0) ⟨hx, hb, hml, hown, hts⟩ (c_X12_refuses l Eo D G h0 hG0 (-1) ⟨by decide, by decide⟩) wd_1398 wd_1400 wp_40 wd_13 wd_1401 (by decide +kernel) ⟨by rw [hR]; exact Nat.le_of_ble_eq_true rfl, by rw [hR]; exact Nat.le_of_ble_eq_true rfl⟩ hI hN hK hS hG0 (trivial) rfl hl.1 rfl (Nat.le_of_ble_eq_true rfl) dX12_sight_33 ⟨Nat.zero_le _, Nat.zero_le _⟩ (fun r33 H locs hI hp hS => ?_)
    obtain rfl := hp.symm
    have hEq : eu Eo 10 (gI ((rg x1 0 23 ∧ rg x2 0 96 ∧ rg x3 0 3 ∧ rg x4 0 1) ∧ Eo 10 < 10) (Eo 10)) = Eo := eu_id (by first | (exact gI_f (by (try simp only [rg]); omega)) | (exact gD_f (by (try simp only [rg]); omega)) | omega)
    have hI : th_I (okM (eu Eo 10 (gI ((rg x1 0 23 ∧ rg x2 0 96 ∧ rg x3 0 3 ∧ rg x4 0 1) ∧ Eo 10 < 10) (Eo 10)))) D G [] H := by rw [hEq]; exact hI
    have hK : va_K D vwCl (th_tys (eu Eo 10 (gI ((rg x1 0 23 ∧ rg x2 0 96 ∧ rg x3 0 3 ∧ rg x4 0 1) ∧ Eo 10 < 10) (Eo 10)))) s := by rw [hEq]; exact hK
    have hpost : (((-1) : Int32) = -1 ∧ ¬ (rg x1 0 23 ∧ rg x2 0 96 ∧ rg x3 0 3 ∧ rg x4 0 1)) ∨ (((-1) : Int32) = -5 ∧ (rg x1 0 23 ∧ rg x2 0 96 ∧ rg x3 0 3 ∧ rg x4 0 1) ∧ ¬ Eo 10 < 10) ∨ (((-1) : Int32).toInt = ((Eo 10 : Nat) : Int) + 1 ∧ (rg x1 0 23 ∧ rg x2 0 96 ∧ rg x3 0 3 ∧ rg x4 0 1) ∧ Eo 10 < 10) := by first | exact Or.inl ⟨rfl, by (try simp only [rg]); omega⟩ | exact Or.inr (Or.inl ⟨rfl, by (try simp only [rg]); omega⟩) | exact Or.inr (Or.inr ⟨by omega, by (try simp only [rg]); omega⟩)
    rw [hQ]
    exact W.iret (v := (-1)) hx hb hr (fun t ht hW => ⟨⟨(-1), (-1), rfl, rfl, ⟨by rw [ht]; exact hI, hN.warm hW, va_K.moved hW.alike hK⟩, by first | (rw [ht]; exact hpost) | exact hpost⟩, hS.F ht⟩) hS.2.2 dX12_sight_36
theorem dX12_forget_0g : (decode cX12_forget 0 = .ok (.aload_n 0, 1)) ∧ (decode cX12_forget 1 = .ok (.sipush 312, 3)) ∧ (decode cX12_forget 4 = .ok (.invokevirtual 345, 3)) ∧ (decode cX12_forget 7 = .ok (.ireturn, 1)) := by decide +kernel
theorem dX12_forget_0 : decode cX12_forget 0 = .ok (.aload_n 0, 1) := dX12_forget_0g.1
theorem dX12_forget_1 : decode cX12_forget 1 = .ok (.sipush 312, 3) := dX12_forget_0g.2.1
theorem dX12_forget_4 : decode cX12_forget 4 = .ok (.invokevirtual 345, 3) := dX12_forget_0g.2.2.1
theorem dX12_forget_7 : decode cX12_forget 7 = .ok (.ireturn, 1) := dX12_forget_0g.2.2.2
set_option maxHeartbeats 4000000 in
set_option maxRecDepth 100000 in
theorem c_X12_forget (l : Launch) (Eo : Nat → Nat) (D : va_G) (G : th_G) (h0 : Nat) (hG0 : G h0 = some (10, 0)) (hU1 : UQ G 1) : Met l yX12_forget (tb (.code yX12_forget cX12_forget 1 (some .int))) (rm 1) (va_Pc [.ref h0] (PX Eo D G (fun H => True))) (QXi (eu Eo 10 (0)) D G (fun r H => (r : Int32).toInt = ((Eo 10 : Nat) : Int))) 0 0 (th_A G) := by
  refine Met.ofW (cc := cX12_forget) (maxL := 1) (ret := (some .int)) (by decide) rfl ?_
  intro p e s m args below meth c s₁ B hml hv
  obtain ⟨hav, ⟨hI, hN, hK⟩, hX⟩ := hv
  have hx := B.exec
  have hb := B.bytes
  have hr := B.returns
  have hts := atoms_spec (ws := tb (.code yX12_forget cX12_forget 1 (some .int))) B.pre
  have hown : s.vm.findClass RX12 = some m.cls := findClass_of_methodNamed B.named
  have hlocks := B.notSynchronized
  have hS : va_S (th_A G) s.heap s.heap [] := va_S.rf
  have hl := lv_entry ([.ref h0]) (n := 1) (Nat.le_of_ble_eq_true rfl)
  rw [show entryFrame m args 1 = entryFrame m ([.ref h0] : List Value).toArray 1 from by rw [hav], lg_entry_eq]
  generalize (lg_sl ([.ref h0]) ++ List.replicate (1 - (lg_sl ([.ref h0])).length) Slot.unset).toArray = ls at hl ⊢
  obtain ⟨E, hEe⟩ : ∃ x : Nat → Nat, x = eu Eo 10 (0) := ⟨_, rfl⟩
  have hl : lv_has ls 1 [(0, .ref h0)] := hl
  generalize hR : (headSpec (tb (.code yX12_forget cX12_forget 1 (some .int))) (rm 1)).room = R
  have hR := hR.symm
  generalize hQ : MQ below (QXi (eu Eo 10 (0)) D G (fun r H => (r : Int32).toInt = ((Eo 10 : Nat) : Int))) args s 0 0 (th_A G) = QF
  have hQ := hQ.symm
  refine lv_aload_n hx hb dX12_forget_0 rfl (lv_at hl 0 rfl) ?_
  refine lv_sipush (v := 312) hx hb dX12_forget_1 (by decide) ?_
  refine mx_iE (As := [.int 312]) (rest := []) (n := 1) (d := 0) ⟨hx, hb, hml, hown, hts⟩ (c_X12_goAll_312 l Eo D G h0 hG0  hU1) wd_1749 wd_1751 wp_85 wd_13 wd_1752 (by decide +kernel) ⟨by rw [hR]; exact Nat.le_of_ble_eq_true rfl, by rw [hR]; exact Nat.le_of_ble_eq_true rfl⟩ hI hN hK (by rw [tys_eu (by decide)]; exact hK) hS hG0 (trivial) rfl hl.1 rfl (Nat.le_of_ble_eq_true rfl) dX12_forget_4 ⟨Nat.zero_le _, Nat.zero_le _⟩ (fun r1 H locs Eu2 hEu2 hI hK hp hS => ?_)
  have hEq : Eu2 = E := hEu2.trans ((congrArg (fun z => eu Eo 10 z) (show _ = 0 from by first | omega | (rw [gI_t (by (try simp only [rg]); omega)]; done) | (rw [gI_t (by (try simp only [rg]); omega)]; omega) | (rw [gD_t (by (try simp only [rg]); omega)]; omega))).trans hEe.symm)
  rw [hEq] at hI hK
  have hp3 := hp
  have hE10 : E 10 = 0 := by rw [hEe]; exact eu_at
  try rw [gD_t (by omega)] at hE10
  try rw [gI_t (by simp only [rg]; omega)] at hE10
  have hpost : (r1 : Int32).toInt = ((Eo 10 : Nat) : Int) := by omega
  subst hEe
  rw [hQ]
  exact W.iret (v := r1) hx hb hr (fun t ht hW => ⟨⟨r1, r1, rfl, rfl, ⟨by rw [ht]; exact hI, hN.warm hW, va_K.moved hW.alike hK⟩, by first | (rw [ht]; exact hpost) | exact hpost⟩, hS.F ht⟩) hS.2.2 dX12_forget_7
theorem dX12_so_0g : (decode cX12_so 0 = .ok (.iload_n 1, 1)) ∧ (decode cX12_so 1 = .ok (.iconst 0, 1)) ∧ (decode cX12_so 2 = .ok (.aload_n 0, 1)) ∧ (decode cX12_so 3 = .ok (.getfield 20, 3)) ∧ (decode cX12_so 6 = .ok (.sipush 312, 3)) ∧ (decode cX12_so 9 = .ok (.iaload, 1)) ∧ (decode cX12_so 10 = .ok (.iconst 1, 1)) ∧ (decode cX12_so 11 = .ok (.isub, 1)) ∧ (decode cX12_so 12 = .ok (.invokestatic 103, 3)) ∧ (decode cX12_so 15 = .ok (.ifCond .ne 5, 3)) := by decide +kernel
theorem dX12_so_0 : decode cX12_so 0 = .ok (.iload_n 1, 1) := dX12_so_0g.1
theorem dX12_so_1 : decode cX12_so 1 = .ok (.iconst 0, 1) := dX12_so_0g.2.1
theorem dX12_so_2 : decode cX12_so 2 = .ok (.aload_n 0, 1) := dX12_so_0g.2.2.1
theorem dX12_so_3 : decode cX12_so 3 = .ok (.getfield 20, 3) := dX12_so_0g.2.2.2.1
theorem dX12_so_6 : decode cX12_so 6 = .ok (.sipush 312, 3) := dX12_so_0g.2.2.2.2.1
theorem dX12_so_9 : decode cX12_so 9 = .ok (.iaload, 1) := dX12_so_0g.2.2.2.2.2.1
theorem dX12_so_10 : decode cX12_so 10 = .ok (.iconst 1, 1) := dX12_so_0g.2.2.2.2.2.2.1
theorem dX12_so_11 : decode cX12_so 11 = .ok (.isub, 1) := dX12_so_0g.2.2.2.2.2.2.2.1
theorem dX12_so_12 : decode cX12_so 12 = .ok (.invokestatic 103, 3) := dX12_so_0g.2.2.2.2.2.2.2.2.1
theorem dX12_so_15 : decode cX12_so 15 = .ok (.ifCond .ne 5, 3) := dX12_so_0g.2.2.2.2.2.2.2.2.2
theorem dX12_so_18g : (decode cX12_so 18 = .ok (.iconst (-1), 1)) ∧ (decode cX12_so 19 = .ok (.ireturn, 1)) ∧ (decode cX12_so 20 = .ok (.aload_n 0, 1)) ∧ (decode cX12_so 21 = .ok (.invokevirtual 138, 3)) ∧ (decode cX12_so 24 = .ok (.sipush 224, 3)) ∧ (decode cX12_so 27 = .ok (.iconst 4, 1)) ∧ (decode cX12_so 28 = .ok (.iload_n 1, 1)) ∧ (decode cX12_so 29 = .ok (.imul, 1)) ∧ (decode cX12_so 30 = .ok (.iadd, 1)) ∧ (decode cX12_so 31 = .ok (.istore_n 2, 1)) := by decide +kernel
theorem dX12_so_18 : decode cX12_so 18 = .ok (.iconst (-1), 1) := dX12_so_18g.1
theorem dX12_so_19 : decode cX12_so 19 = .ok (.ireturn, 1) := dX12_so_18g.2.1
theorem dX12_so_20 : decode cX12_so 20 = .ok (.aload_n 0, 1) := dX12_so_18g.2.2.1
theorem dX12_so_21 : decode cX12_so 21 = .ok (.invokevirtual 138, 3) := dX12_so_18g.2.2.2.1
theorem dX12_so_24 : decode cX12_so 24 = .ok (.sipush 224, 3) := dX12_so_18g.2.2.2.2.1
theorem dX12_so_27 : decode cX12_so 27 = .ok (.iconst 4, 1) := dX12_so_18g.2.2.2.2.2.1
theorem dX12_so_28 : decode cX12_so 28 = .ok (.iload_n 1, 1) := dX12_so_18g.2.2.2.2.2.2.1
theorem dX12_so_29 : decode cX12_so 29 = .ok (.imul, 1) := dX12_so_18g.2.2.2.2.2.2.2.1
theorem dX12_so_30 : decode cX12_so 30 = .ok (.iadd, 1) := dX12_so_18g.2.2.2.2.2.2.2.2.1
theorem dX12_so_31 : decode cX12_so 31 = .ok (.istore_n 2, 1) := dX12_so_18g.2.2.2.2.2.2.2.2.2
theorem dX12_so_32g : (decode cX12_so 32 = .ok (.aload_n 0, 1)) ∧ (decode cX12_so 33 = .ok (.aload_n 0, 1)) ∧ (decode cX12_so 34 = .ok (.getfield 20, 3)) ∧ (decode cX12_so 37 = .ok (.iload_n 2, 1)) ∧ (decode cX12_so 38 = .ok (.iaload, 1)) ∧ (decode cX12_so 39 = .ok (.aload_n 0, 1)) ∧ (decode cX12_so 40 = .ok (.getfield 20, 3)) ∧ (decode cX12_so 43 = .ok (.iload_n 2, 1)) ∧ (decode cX12_so 44 = .ok (.iconst 1, 1)) ∧ (decode cX12_so 45 = .ok (.iadd, 1)) := by decide +kernel
theorem dX12_so_32 : decode cX12_so 32 = .ok (.aload_n 0, 1) := dX12_so_32g.1
theorem dX12_so_33 : decode cX12_so 33 = .ok (.aload_n 0, 1) := dX12_so_32g.2.1
theorem dX12_so_34 : decode cX12_so 34 = .ok (.getfield 20, 3) := dX12_so_32g.2.2.1
theorem dX12_so_37 : decode cX12_so 37 = .ok (.iload_n 2, 1) := dX12_so_32g.2.2.2.1
theorem dX12_so_38 : decode cX12_so 38 = .ok (.iaload, 1) := dX12_so_32g.2.2.2.2.1
theorem dX12_so_39 : decode cX12_so 39 = .ok (.aload_n 0, 1) := dX12_so_32g.2.2.2.2.2.1
theorem dX12_so_40 : decode cX12_so 40 = .ok (.getfield 20, 3) := dX12_so_32g.2.2.2.2.2.2.1
theorem dX12_so_43 : decode cX12_so 43 = .ok (.iload_n 2, 1) := dX12_so_32g.2.2.2.2.2.2.2.1
theorem dX12_so_44 : decode cX12_so 44 = .ok (.iconst 1, 1) := dX12_so_32g.2.2.2.2.2.2.2.2.1
theorem dX12_so_45 : decode cX12_so 45 = .ok (.iadd, 1) := dX12_so_32g.2.2.2.2.2.2.2.2.2
theorem dX12_so_46g : (decode cX12_so 46 = .ok (.iaload, 1)) ∧ (decode cX12_so 47 = .ok (.aload_n 0, 1)) ∧ (decode cX12_so 48 = .ok (.getfield 20, 3)) ∧ (decode cX12_so 51 = .ok (.iload_n 2, 1)) ∧ (decode cX12_so 52 = .ok (.iconst 2, 1)) ∧ (decode cX12_so 53 = .ok (.iadd, 1)) ∧ (decode cX12_so 54 = .ok (.iaload, 1)) ∧ (decode cX12_so 55 = .ok (.invokevirtual 322, 3)) ∧ (decode cX12_so 58 = .ok (.ifCond .le 7, 3)) ∧ (decode cX12_so 61 = .ok (.iconst 1, 1)) := by decide +kernel
theorem dX12_so_46 : decode cX12_so 46 = .ok (.iaload, 1) := dX12_so_46g.1
theorem dX12_so_47 : decode cX12_so 47 = .ok (.aload_n 0, 1) := dX12_so_46g.2.1
theorem dX12_so_48 : decode cX12_so 48 = .ok (.getfield 20, 3) := dX12_so_46g.2.2.1
theorem dX12_so_51 : decode cX12_so 51 = .ok (.iload_n 2, 1) := dX12_so_46g.2.2.2.1
theorem dX12_so_52 : decode cX12_so 52 = .ok (.iconst 2, 1) := dX12_so_46g.2.2.2.2.1
theorem dX12_so_53 : decode cX12_so 53 = .ok (.iadd, 1) := dX12_so_46g.2.2.2.2.2.1
theorem dX12_so_54 : decode cX12_so 54 = .ok (.iaload, 1) := dX12_so_46g.2.2.2.2.2.2.1
theorem dX12_so_55 : decode cX12_so 55 = .ok (.invokevirtual 322, 3) := dX12_so_46g.2.2.2.2.2.2.2.1
theorem dX12_so_58 : decode cX12_so 58 = .ok (.ifCond .le 7, 3) := dX12_so_46g.2.2.2.2.2.2.2.2.1
theorem dX12_so_61 : decode cX12_so 61 = .ok (.iconst 1, 1) := dX12_so_46g.2.2.2.2.2.2.2.2.2
theorem dX12_so_62g : (decode cX12_so 62 = .ok (.goto 4, 3)) ∧ (decode cX12_so 65 = .ok (.iconst 0, 1)) ∧ (decode cX12_so 66 = .ok (.aload_n 0, 1)) ∧ (decode cX12_so 67 = .ok (.getfield 20, 3)) ∧ (decode cX12_so 70 = .ok (.iload_n 2, 1)) ∧ (decode cX12_so 71 = .ok (.iconst 3, 1)) ∧ (decode cX12_so 72 = .ok (.iadd, 1)) ∧ (decode cX12_so 73 = .ok (.iaload, 1)) ∧ (decode cX12_so 74 = .ok (.iconst 1, 1)) ∧ (decode cX12_so 75 = .ok (.if_icmp .ne 7, 3)) := by decide +kernel
theorem dX12_so_62 : decode cX12_so 62 = .ok (.goto 4, 3) := dX12_so_62g.1
theorem dX12_so_65 : decode cX12_so 65 = .ok (.iconst 0, 1) := dX12_so_62g.2.1
theorem dX12_so_66 : decode cX12_so 66 = .ok (.aload_n 0, 1) := dX12_so_62g.2.2.1
theorem dX12_so_67 : decode cX12_so 67 = .ok (.getfield 20, 3) := dX12_so_62g.2.2.2.1
theorem dX12_so_70 : decode cX12_so 70 = .ok (.iload_n 2, 1) := dX12_so_62g.2.2.2.2.1
theorem dX12_so_71 : decode cX12_so 71 = .ok (.iconst 3, 1) := dX12_so_62g.2.2.2.2.2.1
theorem dX12_so_72 : decode cX12_so 72 = .ok (.iadd, 1) := dX12_so_62g.2.2.2.2.2.2.1
theorem dX12_so_73 : decode cX12_so 73 = .ok (.iaload, 1) := dX12_so_62g.2.2.2.2.2.2.2.1
theorem dX12_so_74 : decode cX12_so 74 = .ok (.iconst 1, 1) := dX12_so_62g.2.2.2.2.2.2.2.2.1
theorem dX12_so_75 : decode cX12_so 75 = .ok (.if_icmp .ne 7, 3) := dX12_so_62g.2.2.2.2.2.2.2.2.2
theorem dX12_so_78g : (decode cX12_so 78 = .ok (.iconst 1, 1)) ∧ (decode cX12_so 79 = .ok (.goto 4, 3)) ∧ (decode cX12_so 82 = .ok (.iconst 0, 1)) ∧ (decode cX12_so 83 = .ok (.if_icmp .ne 7, 3)) ∧ (decode cX12_so 86 = .ok (.iconst 1, 1)) ∧ (decode cX12_so 87 = .ok (.goto 4, 3)) ∧ (decode cX12_so 90 = .ok (.iconst 0, 1)) ∧ (decode cX12_so 91 = .ok (.ireturn, 1)) := by decide +kernel
theorem dX12_so_78 : decode cX12_so 78 = .ok (.iconst 1, 1) := dX12_so_78g.1
theorem dX12_so_79 : decode cX12_so 79 = .ok (.goto 4, 3) := dX12_so_78g.2.1
theorem dX12_so_82 : decode cX12_so 82 = .ok (.iconst 0, 1) := dX12_so_78g.2.2.1
theorem dX12_so_83 : decode cX12_so 83 = .ok (.if_icmp .ne 7, 3) := dX12_so_78g.2.2.2.1
theorem dX12_so_86 : decode cX12_so 86 = .ok (.iconst 1, 1) := dX12_so_78g.2.2.2.2.1
theorem dX12_so_87 : decode cX12_so 87 = .ok (.goto 4, 3) := dX12_so_78g.2.2.2.2.2.1
theorem dX12_so_90 : decode cX12_so 90 = .ok (.iconst 0, 1) := dX12_so_78g.2.2.2.2.2.2.1
theorem dX12_so_91 : decode cX12_so 91 = .ok (.ireturn, 1) := dX12_so_78g.2.2.2.2.2.2.2
set_option maxHeartbeats 4000000 in
set_option maxRecDepth 100000 in
theorem c_X12_so (l : Launch) (E : Nat → Nat) (D : va_G) (G : th_G) (h0 : Nat) (hG0 : G h0 = some (10, 0)) (x1 : Int32) : Met l yX12_so (tb (.code yX12_so cX12_so 3 (some .int))) (rm 69) (va_Pc [.ref h0, .int x1] (PX E D G (fun H => True))) (QXi E D G (fun r H => True)) 0 0 (th_A G) := by
  refine Met.ofW (cc := cX12_so) (maxL := 3) (ret := (some .int)) (by decide) rfl ?_
  intro p e s m args below meth c s₁ B hml hv
  obtain ⟨hav, ⟨hI, hN, hK⟩, hX⟩ := hv
  have hx := B.exec
  have hb := B.bytes
  have hr := B.returns
  have hts := atoms_spec (ws := tb (.code yX12_so cX12_so 3 (some .int))) B.pre
  have hown : s.vm.findClass RX12 = some m.cls := findClass_of_methodNamed B.named
  have hlocks := B.notSynchronized
  have hS : va_S (th_A G) s.heap s.heap [] := va_S.rf
  have hl := lv_entry ([.ref h0, .int x1]) (n := 3) (Nat.le_of_ble_eq_true rfl)
  rw [show entryFrame m args 3 = entryFrame m ([.ref h0, .int x1] : List Value).toArray 3 from by rw [hav], lg_entry_eq]
  generalize (lg_sl ([.ref h0, .int x1]) ++ List.replicate (3 - (lg_sl ([.ref h0, .int x1])).length) Slot.unset).toArray = ls at hl ⊢
  have hl : lv_has ls 3 [(0, .ref h0), (1, .int x1)] := hl
  generalize hR : (headSpec (tb (.code yX12_so cX12_so 3 (some .int))) (rm 69)).room = R
  have hR := hR.symm
  generalize hQ : MQ below (QXi E D G (fun r H => True)) args s 0 0 (th_A G) = QF
  have hQ := hQ.symm
  have J_66 : ∀ (H : Heap) (locs : List Loc) (ls : Array Slot) (v546 : Int32) (v547 : Int32) , lv_has ls 3 [(2, .int v546), (0, .ref h0), (1, .int x1)] → ((224 : Int) ≤ v546.toInt ∧ v546.toInt ≤ 260) → ((0 : Int) ≤ x1.toInt ∧ x1.toInt ≤ 9) → ((0 : Int) ≤ v547.toInt ∧ v547.toInt ≤ 1) → th_I (okM E) D G [] H → va_S (th_A G) s.heap H locs → W p l e R s m args below meth c H locs 0 0 QF (F0 m 66 ls [.int v547]) := by
    intro H locs ls v546 v547  hl k548 k549 k550 hI hS
    refine lv_aload_n hx hb dX12_so_66 rfl (lv_at hl 1 rfl) ?_
    refine gmA hx hb hts inT12 hown hK hI List.not_mem_nil hG0 3 (by decide) (hts _ (tb_c wd_1236)) rfl rfl dX12_so_67 (fun a551 hq552 hf553 => ?_)
    refine lv_iload_n hx hb dX12_so_70 rfl (lv_at hl 0 rfl) ?_
    refine lv_iconst (v := 3) hx hb dX12_so_71 (by decide) ?_
    refine lv_iadd hx hb dX12_so_72 ?_
    refine lv_topi (fun v554 e555 => ?_)
    have tv554 : v554.toInt = v546.toInt + (3) := iv_add rfl (by decide) e555 (by omega) (by omega)
    obtain ⟨F556, hA557, hP558⟩ := om_1 hI hq552 List.not_mem_nil
    refine th_iald hx hb hK hA557 0 rfl (iv_in (X := v554.toInt) rfl (by omega) (by omega)) dX12_so_73 (fun v559 e560 => ?_)
    refine lv_iconst (v := 1) hx hb dX12_so_74 (by decide) ?_
    have k561 := iv_lo v559
    have k562 := iv_hi v559
    refine lv_icmp_ne (tgt := 82) hx hb dX12_so_75 (by decide) (fun c563 => ?_) (fun c563 => ?_)
    · skip
      have k564 := iv_ne (X := v559.toInt) (Y := (1)) rfl (by decide) c563
      refine lv_iconst (v := 0) hx hb dX12_so_82 (by decide) ?_
      refine lv_icmp_ne (tgt := 90) hx hb dX12_so_83 (by decide) (fun c565 => ?_) (fun c565 => ?_)
      · skip
        have k566 := iv_ne (X := v547.toInt) (Y := (0)) rfl (by decide) c565
        refine lv_iconst (v := 0) hx hb dX12_so_90 (by decide) ?_
        have hpost : True := trivial
        rw [hQ]
        exact W.iret (v := 0) hx hb hr (fun t ht hW => ⟨⟨0, 0, rfl, rfl, ⟨by rw [ht]; exact hI, hN.warm hW, va_K.moved hW.alike hK⟩, by first | (rw [ht]; exact hpost) | exact hpost⟩, hS.F ht⟩) hS.2.2 dX12_so_91
      · skip
        have k567 := iv_eq (X := v547.toInt) (Y := (0)) rfl (by decide) c565
        refine lv_iconst (v := 1) hx hb dX12_so_86 (by decide) ?_
        refine lv_goto (tgt := 91) hx hb dX12_so_87 (by decide) ?_
        have hpost : True := trivial
        rw [hQ]
        exact W.iret (v := 1) hx hb hr (fun t ht hW => ⟨⟨1, 1, rfl, rfl, ⟨by rw [ht]; exact hI, hN.warm hW, va_K.moved hW.alike hK⟩, by first | (rw [ht]; exact hpost) | exact hpost⟩, hS.F ht⟩) hS.2.2 dX12_so_91
    · skip
      have k568 := iv_eq (X := v559.toInt) (Y := (1)) rfl (by decide) c563
      refine lv_iconst (v := 1) hx hb dX12_so_78 (by decide) ?_
      refine lv_goto (tgt := 83) hx hb dX12_so_79 (by decide) ?_
      refine lv_icmp_ne (tgt := 90) hx hb dX12_so_83 (by decide) (fun c569 => ?_) (fun c569 => ?_)
      · skip
        have k570 := iv_ne (X := v547.toInt) (Y := (1)) rfl (by decide) c569
        refine lv_iconst (v := 0) hx hb dX12_so_90 (by decide) ?_
        have hpost : True := trivial
        rw [hQ]
        exact W.iret (v := 0) hx hb hr (fun t ht hW => ⟨⟨0, 0, rfl, rfl, ⟨by rw [ht]; exact hI, hN.warm hW, va_K.moved hW.alike hK⟩, by first | (rw [ht]; exact hpost) | exact hpost⟩, hS.F ht⟩) hS.2.2 dX12_so_91
      · skip
        have k571 := iv_eq (X := v547.toInt) (Y := (1)) rfl (by decide) c569
        refine lv_iconst (v := 1) hx hb dX12_so_86 (by decide) ?_
        refine lv_goto (tgt := 91) hx hb dX12_so_87 (by decide) ?_
        have hpost : True := trivial
        rw [hQ]
        exact W.iret (v := 1) hx hb hr (fun t ht hW => ⟨⟨1, 1, rfl, rfl, ⟨by rw [ht]; exact hI, hN.warm hW, va_K.moved hW.alike hK⟩, by first | (rw [ht]; exact hpost) | exact hpost⟩, hS.F ht⟩) hS.2.2 dX12_so_91
  refine lv_iload_n hx hb dX12_so_0 rfl (lv_at hl 1 rfl) ?_
  refine lv_iconst (v := 0) hx hb dX12_so_1 (by decide) ?_
  refine lv_aload_n hx hb dX12_so_2 rfl (lv_at hl 0 rfl) ?_
  refine gmA hx hb hts inT12 hown hK hI List.not_mem_nil hG0 3 (by decide) (hts _ (tb_c wd_1236)) rfl rfl dX12_so_3 (fun a572 hq573 hf574 => ?_)
  refine lv_sipush (v := 312) hx hb dX12_so_6 (by decide) ?_
  obtain ⟨F575, hA576, hP577⟩ := om_1 hI hq573 List.not_mem_nil
  refine th_iald hx hb hK hA576 0 rfl (iv_in (X := (312)) (by decide) (by omega) (by omega)) dX12_so_9 (fun v578 e579 => ?_)
  have k580 := kg_m312 (kOk.get (i := 312) hP577 e579 (X := (312)) (by decide) (by omega) (by omega)) (by omega) (by omega) (by omega)
  refine lv_iconst (v := 1) hx hb dX12_so_10 (by decide) ?_
  refine lv_isub hx hb dX12_so_11 ?_
  refine lv_topi (fun v581 e582 => ?_)
  have tv581 : v581.toInt = v578.toInt - (1) := iv_sub rfl (by decide) e582 (by omega) (by omega)
  refine th_cSs (As := [.int x1, .int 0, .int v581]) (rest := []) (n := 3) (d := 0) ⟨hx, hb, hml, hown, hts⟩ (c_X12_lies l s.heap x1 0 v581) wd_1395 wd_1396 wd_13 wd_1397 (by decide +kernel) ⟨by rw [hR]; exact Nat.le_of_ble_eq_true rfl, by rw [hR]; exact Nat.le_of_ble_eq_true rfl⟩ hN hS rfl hl.1 rfl (Nat.le_of_ble_eq_true rfl) dX12_so_12 ⟨Nat.zero_le _, Nat.zero_le _⟩ (fun r583 locs hp hS => ?_)
  rcases hp with ⟨rfl, hp⟩ | ⟨rfl, hp⟩
  · skip
    try simp only [rg, not_and, Int.not_le] at hp
    have hp584 := hp
    try rw [show (0 : Int32).toInt = 0 from by decide] at hp584
    refine lv_if_ne (tgt := 20) hx hb dX12_so_15 (by decide) (fun _ => ?_) (fun c => absurd c (by decide))
    refine lv_aload_n hx hb dX12_so_20 rfl (lv_at hl 0 rfl) ?_
    refine mx_v (As := []) (rest := []) (n := 0) (d := 68) ⟨hx, hb, hml, hown, hts⟩ (c_X12_looks l E D G h0 hG0 ) wd_1455 wd_1457 wp_43 wd_13 wd_1458 (by decide +kernel) ⟨by rw [hR]; exact Nat.le_of_ble_eq_true rfl, by rw [hR]; exact Nat.le_of_ble_eq_true rfl⟩ hI hN hK hS hG0 (trivial) rfl hl.1 rfl (Nat.le_of_ble_eq_true rfl) dX12_so_21 ⟨Nat.zero_le _, Nat.zero_le _⟩ (fun H locs hI hp hS => ?_)
    refine lv_sipush (v := 224) hx hb dX12_so_24 (by decide) ?_
    refine lv_iconst (v := 4) hx hb dX12_so_27 (by decide) ?_
    refine lv_iload_n hx hb dX12_so_28 rfl (lv_at hl 1 rfl) ?_
    refine lv_imul hx hb dX12_so_29 ?_
    refine lv_topi (fun v586 e587 => ?_)
    have tv586 : v586.toInt = (4) * x1.toInt := iv_mul (by decide) rfl e587 (by omega) (by omega)
    refine lv_iadd hx hb dX12_so_30 ?_
    refine lv_topi (fun v588 e589 => ?_)
    have tv588 : v588.toInt = (224) + v586.toInt := iv_add (by decide) rfl e589 (by omega) (by omega)
    refine lv_istore_n (lv' := [(2, .int v588), (0, .ref h0), (1, .int x1)]) hx hb dX12_so_31 rfl hl (by decide) rfl (fun ls hl => ?_)
    refine lv_aload_n hx hb dX12_so_32 rfl (lv_at hl 1 rfl) ?_
    refine lv_aload_n hx hb dX12_so_33 rfl (lv_at hl 1 rfl) ?_
    refine gmA hx hb hts inT12 hown hK hI List.not_mem_nil hG0 3 (by decide) (hts _ (tb_c wd_1236)) rfl rfl dX12_so_34 (fun a590 hq591 hf592 => ?_)
    refine lv_iload_n hx hb dX12_so_37 rfl (lv_at hl 0 rfl) ?_
    obtain ⟨F593, hA594, hP595⟩ := om_1 hI hq591 List.not_mem_nil
    refine th_iald hx hb hK hA594 0 rfl (iv_in (X := v588.toInt) rfl (by omega) (by omega)) dX12_so_38 (fun v596 e597 => ?_)
    refine lv_aload_n hx hb dX12_so_39 rfl (lv_at hl 1 rfl) ?_
    refine gmA hx hb hts inT12 hown hK hI List.not_mem_nil hG0 3 (by decide) (hts _ (tb_c wd_1236)) rfl rfl dX12_so_40 (fun a598 hq599 hf600 => ?_)
    obtain rfl := fr.uniq (by decide) hf592 hf600
    refine lv_iload_n hx hb dX12_so_43 rfl (lv_at hl 0 rfl) ?_
    refine lv_iconst (v := 1) hx hb dX12_so_44 (by decide) ?_
    refine lv_iadd hx hb dX12_so_45 ?_
    refine lv_topi (fun v601 e602 => ?_)
    have tv601 : v601.toInt = v588.toInt + (1) := iv_add rfl (by decide) e602 (by omega) (by omega)
    refine th_iald hx hb hK hA594 0 rfl (iv_in (X := v601.toInt) rfl (by omega) (by omega)) dX12_so_46 (fun v603 e604 => ?_)
    have k605 := kg_sight1 (kOk.get (i := v601) hP595 e604 (X := v601.toInt) rfl (by omega) (by omega)) (by omega) (by omega) (by omega)
    refine lv_aload_n hx hb dX12_so_47 rfl (lv_at hl 1 rfl) ?_
    refine gmA hx hb hts inT12 hown hK hI List.not_mem_nil hG0 3 (by decide) (hts _ (tb_c wd_1236)) rfl rfl dX12_so_48 (fun a606 hq607 hf608 => ?_)
    obtain rfl := fr.uniq (by decide) hf592 hf608
    refine lv_iload_n hx hb dX12_so_51 rfl (lv_at hl 0 rfl) ?_
    refine lv_iconst (v := 2) hx hb dX12_so_52 (by decide) ?_
    refine lv_iadd hx hb dX12_so_53 ?_
    refine lv_topi (fun v609 e610 => ?_)
    have tv609 : v609.toInt = v588.toInt + (2) := iv_add rfl (by decide) e610 (by omega) (by omega)
    refine th_iald hx hb hK hA594 0 rfl (iv_in (X := v609.toInt) rfl (by omega) (by omega)) dX12_so_54 (fun v611 e612 => ?_)
    refine mr_i (As := [.int v596, .int v603, .int v611]) (rest := []) (n := 3) (d := 1) ⟨hx, hb, hml, hown, hts⟩ (c_X12_dyeOf l E D G H h0 hG0 v596 v603 v611 (by omega)) wd_1717 wd_1719 wp_82 wd_13 wd_1720 (by decide +kernel) ⟨by rw [hR]; exact Nat.le_of_ble_eq_true rfl, by rw [hR]; exact Nat.le_of_ble_eq_true rfl⟩ hI hN hK hS hG0 rfl hl.1 rfl (Nat.le_of_ble_eq_true rfl) dX12_so_55 ⟨Nat.zero_le _, Nat.zero_le _⟩ (fun r613 locs hp hS => ?_)
    have k614 := iv_lo r613
    have k615 := iv_hi r613
    refine lv_if_le (tgt := 65) hx hb dX12_so_58 (by decide) (fun c616 => ?_) (fun c616 => ?_)
    · skip
      have k617 := iv_le (X := r613.toInt) (Y := (0)) rfl (by decide) c616
      refine lv_iconst (v := 0) hx hb dX12_so_65 (by decide) ?_
      exact J_66 H locs ls v588 0  (lv_sub hl [0, 1, 2] rfl) ⟨by omega, by omega⟩ ⟨by omega, by omega⟩ ⟨by decide, by decide⟩ hI hS
    · skip
      have k618 := iv_nle (X := r613.toInt) (Y := (0)) rfl (by decide) c616
      refine lv_iconst (v := 1) hx hb dX12_so_61 (by decide) ?_
      refine lv_goto (tgt := 66) hx hb dX12_so_62 (by decide) ?_
      exact J_66 H locs ls v588 1  (lv_sub hl [0, 1, 2] rfl) ⟨by omega, by omega⟩ ⟨by omega, by omega⟩ ⟨by decide, by decide⟩ hI hS
  · skip
    try simp only [rg, not_and, Int.not_le] at hp
    have hp619 := hp
    try rw [show (0 : Int32).toInt = 0 from by decide] at hp619
    refine lv_if_ne (tgt := 20) hx hb dX12_so_15 (by decide) (fun c => absurd c (by decide)) (fun _ => ?_)
    refine lv_iconst (v := (-1)) hx hb dX12_so_18 (by decide) ?_
    have hpost : True := trivial
    rw [hQ]
    exact W.iret (v := (-1)) hx hb hr (fun t ht hW => ⟨⟨(-1), (-1), rfl, rfl, ⟨by rw [ht]; exact hI, hN.warm hW, va_K.moved hW.alike hK⟩, by first | (rw [ht]; exact hpost) | exact hpost⟩, hS.F ht⟩) hS.2.2 dX12_so_19
theorem dX12_seenBy_0g : (decode cX12_seenBy 0 = .ok (.iconst 0, 1)) ∧ (decode cX12_seenBy 1 = .ok (.istore 4, 2)) ∧ (decode cX12_seenBy 3 = .ok (.iload_n 1, 1)) ∧ (decode cX12_seenBy 4 = .ok (.istore 5, 2)) ∧ (decode cX12_seenBy 6 = .ok (.iload_n 2, 1)) ∧ (decode cX12_seenBy 7 = .ok (.istore 6, 2)) ∧ (decode cX12_seenBy 9 = .ok (.iload 6, 2)) ∧ (decode cX12_seenBy 11 = .ok (.bipush 96, 2)) ∧ (decode cX12_seenBy 13 = .ok (.if_icmp .gt 119, 3)) ∧ (decode cX12_seenBy 16 = .ok (.iconst 0, 1)) := by decide +kernel
theorem dX12_seenBy_0 : decode cX12_seenBy 0 = .ok (.iconst 0, 1) := dX12_seenBy_0g.1
theorem dX12_seenBy_1 : decode cX12_seenBy 1 = .ok (.istore 4, 2) := dX12_seenBy_0g.2.1
theorem dX12_seenBy_3 : decode cX12_seenBy 3 = .ok (.iload_n 1, 1) := dX12_seenBy_0g.2.2.1
theorem dX12_seenBy_4 : decode cX12_seenBy 4 = .ok (.istore 5, 2) := dX12_seenBy_0g.2.2.2.1
theorem dX12_seenBy_6 : decode cX12_seenBy 6 = .ok (.iload_n 2, 1) := dX12_seenBy_0g.2.2.2.2.1
theorem dX12_seenBy_7 : decode cX12_seenBy 7 = .ok (.istore 6, 2) := dX12_seenBy_0g.2.2.2.2.2.1
theorem dX12_seenBy_9 : decode cX12_seenBy 9 = .ok (.iload 6, 2) := dX12_seenBy_0g.2.2.2.2.2.2.1
theorem dX12_seenBy_11 : decode cX12_seenBy 11 = .ok (.bipush 96, 2) := dX12_seenBy_0g.2.2.2.2.2.2.2.1
theorem dX12_seenBy_13 : decode cX12_seenBy 13 = .ok (.if_icmp .gt 119, 3) := dX12_seenBy_0g.2.2.2.2.2.2.2.2.1
theorem dX12_seenBy_16 : decode cX12_seenBy 16 = .ok (.iconst 0, 1) := dX12_seenBy_0g.2.2.2.2.2.2.2.2.2
theorem dX12_seenBy_17g : (decode cX12_seenBy 17 = .ok (.istore 7, 2)) ∧ (decode cX12_seenBy 19 = .ok (.iload 7, 2)) ∧ (decode cX12_seenBy 21 = .ok (.aload_n 0, 1)) ∧ (decode cX12_seenBy 22 = .ok (.getfield 20, 3)) ∧ (decode cX12_seenBy 25 = .ok (.sipush 312, 3)) ∧ (decode cX12_seenBy 28 = .ok (.iaload, 1)) ∧ (decode cX12_seenBy 29 = .ok (.if_icmp .ge 75, 3)) ∧ (decode cX12_seenBy 32 = .ok (.aload_n 0, 1)) ∧ (decode cX12_seenBy 33 = .ok (.getfield 20, 3)) ∧ (decode cX12_seenBy 36 = .ok (.sipush 224, 3)) := by decide +kernel
theorem dX12_seenBy_17 : decode cX12_seenBy 17 = .ok (.istore 7, 2) := dX12_seenBy_17g.1
theorem dX12_seenBy_19 : decode cX12_seenBy 19 = .ok (.iload 7, 2) := dX12_seenBy_17g.2.1
theorem dX12_seenBy_21 : decode cX12_seenBy 21 = .ok (.aload_n 0, 1) := dX12_seenBy_17g.2.2.1
theorem dX12_seenBy_22 : decode cX12_seenBy 22 = .ok (.getfield 20, 3) := dX12_seenBy_17g.2.2.2.1
theorem dX12_seenBy_25 : decode cX12_seenBy 25 = .ok (.sipush 312, 3) := dX12_seenBy_17g.2.2.2.2.1
theorem dX12_seenBy_28 : decode cX12_seenBy 28 = .ok (.iaload, 1) := dX12_seenBy_17g.2.2.2.2.2.1
theorem dX12_seenBy_29 : decode cX12_seenBy 29 = .ok (.if_icmp .ge 75, 3) := dX12_seenBy_17g.2.2.2.2.2.2.1
theorem dX12_seenBy_32 : decode cX12_seenBy 32 = .ok (.aload_n 0, 1) := dX12_seenBy_17g.2.2.2.2.2.2.2.1
theorem dX12_seenBy_33 : decode cX12_seenBy 33 = .ok (.getfield 20, 3) := dX12_seenBy_17g.2.2.2.2.2.2.2.2.1
theorem dX12_seenBy_36 : decode cX12_seenBy 36 = .ok (.sipush 224, 3) := dX12_seenBy_17g.2.2.2.2.2.2.2.2.2
theorem dX12_seenBy_39g : (decode cX12_seenBy 39 = .ok (.iconst 4, 1)) ∧ (decode cX12_seenBy 40 = .ok (.iload 7, 2)) ∧ (decode cX12_seenBy 42 = .ok (.imul, 1)) ∧ (decode cX12_seenBy 43 = .ok (.iadd, 1)) ∧ (decode cX12_seenBy 44 = .ok (.iaload, 1)) ∧ (decode cX12_seenBy 45 = .ok (.iload 5, 2)) ∧ (decode cX12_seenBy 47 = .ok (.if_icmp .ne 51, 3)) ∧ (decode cX12_seenBy 50 = .ok (.aload_n 0, 1)) ∧ (decode cX12_seenBy 51 = .ok (.getfield 20, 3)) ∧ (decode cX12_seenBy 54 = .ok (.sipush 224, 3)) := by decide +kernel
theorem dX12_seenBy_39 : decode cX12_seenBy 39 = .ok (.iconst 4, 1) := dX12_seenBy_39g.1
theorem dX12_seenBy_40 : decode cX12_seenBy 40 = .ok (.iload 7, 2) := dX12_seenBy_39g.2.1
theorem dX12_seenBy_42 : decode cX12_seenBy 42 = .ok (.imul, 1) := dX12_seenBy_39g.2.2.1
theorem dX12_seenBy_43 : decode cX12_seenBy 43 = .ok (.iadd, 1) := dX12_seenBy_39g.2.2.2.1
theorem dX12_seenBy_44 : decode cX12_seenBy 44 = .ok (.iaload, 1) := dX12_seenBy_39g.2.2.2.2.1
theorem dX12_seenBy_45 : decode cX12_seenBy 45 = .ok (.iload 5, 2) := dX12_seenBy_39g.2.2.2.2.2.1
theorem dX12_seenBy_47 : decode cX12_seenBy 47 = .ok (.if_icmp .ne 51, 3) := dX12_seenBy_39g.2.2.2.2.2.2.1
theorem dX12_seenBy_50 : decode cX12_seenBy 50 = .ok (.aload_n 0, 1) := dX12_seenBy_39g.2.2.2.2.2.2.2.1
theorem dX12_seenBy_51 : decode cX12_seenBy 51 = .ok (.getfield 20, 3) := dX12_seenBy_39g.2.2.2.2.2.2.2.2.1
theorem dX12_seenBy_54 : decode cX12_seenBy 54 = .ok (.sipush 224, 3) := dX12_seenBy_39g.2.2.2.2.2.2.2.2.2
theorem dX12_seenBy_57g : (decode cX12_seenBy 57 = .ok (.iconst 4, 1)) ∧ (decode cX12_seenBy 58 = .ok (.iload 7, 2)) ∧ (decode cX12_seenBy 60 = .ok (.imul, 1)) ∧ (decode cX12_seenBy 61 = .ok (.iadd, 1)) ∧ (decode cX12_seenBy 62 = .ok (.iconst 1, 1)) ∧ (decode cX12_seenBy 63 = .ok (.iadd, 1)) ∧ (decode cX12_seenBy 64 = .ok (.iaload, 1)) ∧ (decode cX12_seenBy 65 = .ok (.iload 6, 2)) ∧ (decode cX12_seenBy 67 = .ok (.if_icmp .ne 31, 3)) ∧ (decode cX12_seenBy 70 = .ok (.aload_n 0, 1)) := by decide +kernel
theorem dX12_seenBy_57 : decode cX12_seenBy 57 = .ok (.iconst 4, 1) := dX12_seenBy_57g.1
theorem dX12_seenBy_58 : decode cX12_seenBy 58 = .ok (.iload 7, 2) := dX12_seenBy_57g.2.1
theorem dX12_seenBy_60 : decode cX12_seenBy 60 = .ok (.imul, 1) := dX12_seenBy_57g.2.2.1
theorem dX12_seenBy_61 : decode cX12_seenBy 61 = .ok (.iadd, 1) := dX12_seenBy_57g.2.2.2.1
theorem dX12_seenBy_62 : decode cX12_seenBy 62 = .ok (.iconst 1, 1) := dX12_seenBy_57g.2.2.2.2.1
theorem dX12_seenBy_63 : decode cX12_seenBy 63 = .ok (.iadd, 1) := dX12_seenBy_57g.2.2.2.2.2.1
theorem dX12_seenBy_64 : decode cX12_seenBy 64 = .ok (.iaload, 1) := dX12_seenBy_57g.2.2.2.2.2.2.1
theorem dX12_seenBy_65 : decode cX12_seenBy 65 = .ok (.iload 6, 2) := dX12_seenBy_57g.2.2.2.2.2.2.2.1
theorem dX12_seenBy_67 : decode cX12_seenBy 67 = .ok (.if_icmp .ne 31, 3) := dX12_seenBy_57g.2.2.2.2.2.2.2.2.1
theorem dX12_seenBy_70 : decode cX12_seenBy 70 = .ok (.aload_n 0, 1) := dX12_seenBy_57g.2.2.2.2.2.2.2.2.2
theorem dX12_seenBy_71g : (decode cX12_seenBy 71 = .ok (.getfield 20, 3)) ∧ (decode cX12_seenBy 74 = .ok (.sipush 224, 3)) ∧ (decode cX12_seenBy 77 = .ok (.iconst 4, 1)) ∧ (decode cX12_seenBy 78 = .ok (.iload 7, 2)) ∧ (decode cX12_seenBy 80 = .ok (.imul, 1)) ∧ (decode cX12_seenBy 81 = .ok (.iadd, 1)) ∧ (decode cX12_seenBy 82 = .ok (.iconst 2, 1)) ∧ (decode cX12_seenBy 83 = .ok (.iadd, 1)) ∧ (decode cX12_seenBy 84 = .ok (.iaload, 1)) ∧ (decode cX12_seenBy 85 = .ok (.iload_n 3, 1)) := by decide +kernel
theorem dX12_seenBy_71 : decode cX12_seenBy 71 = .ok (.getfield 20, 3) := dX12_seenBy_71g.1
theorem dX12_seenBy_74 : decode cX12_seenBy 74 = .ok (.sipush 224, 3) := dX12_seenBy_71g.2.1
theorem dX12_seenBy_77 : decode cX12_seenBy 77 = .ok (.iconst 4, 1) := dX12_seenBy_71g.2.2.1
theorem dX12_seenBy_78 : decode cX12_seenBy 78 = .ok (.iload 7, 2) := dX12_seenBy_71g.2.2.2.1
theorem dX12_seenBy_80 : decode cX12_seenBy 80 = .ok (.imul, 1) := dX12_seenBy_71g.2.2.2.2.1
theorem dX12_seenBy_81 : decode cX12_seenBy 81 = .ok (.iadd, 1) := dX12_seenBy_71g.2.2.2.2.2.1
theorem dX12_seenBy_82 : decode cX12_seenBy 82 = .ok (.iconst 2, 1) := dX12_seenBy_71g.2.2.2.2.2.2.1
theorem dX12_seenBy_83 : decode cX12_seenBy 83 = .ok (.iadd, 1) := dX12_seenBy_71g.2.2.2.2.2.2.2.1
theorem dX12_seenBy_84 : decode cX12_seenBy 84 = .ok (.iaload, 1) := dX12_seenBy_71g.2.2.2.2.2.2.2.2.1
theorem dX12_seenBy_85 : decode cX12_seenBy 85 = .ok (.iload_n 3, 1) := dX12_seenBy_71g.2.2.2.2.2.2.2.2.2
theorem dX12_seenBy_86g : (decode cX12_seenBy 86 = .ok (.if_icmp .ne 12, 3)) ∧ (decode cX12_seenBy 89 = .ok (.iload 4, 2)) ∧ (decode cX12_seenBy 91 = .ok (.iconst 1, 1)) ∧ (decode cX12_seenBy 92 = .ok (.iload 7, 2)) ∧ (decode cX12_seenBy 94 = .ok (.ishl, 1)) ∧ (decode cX12_seenBy 95 = .ok (.ior, 1)) ∧ (decode cX12_seenBy 96 = .ok (.istore 4, 2)) ∧ (decode cX12_seenBy 98 = .ok (.iinc 7 1, 3)) ∧ (decode cX12_seenBy 101 = .ok (.goto (-82), 3)) ∧ (decode cX12_seenBy 104 = .ok (.iload 6, 2)) := by decide +kernel
theorem dX12_seenBy_86 : decode cX12_seenBy 86 = .ok (.if_icmp .ne 12, 3) := dX12_seenBy_86g.1
theorem dX12_seenBy_89 : decode cX12_seenBy 89 = .ok (.iload 4, 2) := dX12_seenBy_86g.2.1
theorem dX12_seenBy_91 : decode cX12_seenBy 91 = .ok (.iconst 1, 1) := dX12_seenBy_86g.2.2.1
theorem dX12_seenBy_92 : decode cX12_seenBy 92 = .ok (.iload 7, 2) := dX12_seenBy_86g.2.2.2.1
theorem dX12_seenBy_94 : decode cX12_seenBy 94 = .ok (.ishl, 1) := dX12_seenBy_86g.2.2.2.2.1
theorem dX12_seenBy_95 : decode cX12_seenBy 95 = .ok (.ior, 1) := dX12_seenBy_86g.2.2.2.2.2.1
theorem dX12_seenBy_96 : decode cX12_seenBy 96 = .ok (.istore 4, 2) := dX12_seenBy_86g.2.2.2.2.2.2.1
theorem dX12_seenBy_98 : decode cX12_seenBy 98 = .ok (.iinc 7 1, 3) := dX12_seenBy_86g.2.2.2.2.2.2.2.1
theorem dX12_seenBy_101 : decode cX12_seenBy 101 = .ok (.goto (-82), 3) := dX12_seenBy_86g.2.2.2.2.2.2.2.2.1
theorem dX12_seenBy_104 : decode cX12_seenBy 104 = .ok (.iload 6, 2) := dX12_seenBy_86g.2.2.2.2.2.2.2.2.2
theorem dX12_seenBy_106g : (decode cX12_seenBy 106 = .ok (.bipush 96, 2)) ∧ (decode cX12_seenBy 108 = .ok (.if_icmp .ge 18, 3)) ∧ (decode cX12_seenBy 111 = .ok (.aload_n 0, 1)) ∧ (decode cX12_seenBy 112 = .ok (.getfield 67, 3)) ∧ (decode cX12_seenBy 115 = .ok (.bipush 25, 2)) ∧ (decode cX12_seenBy 117 = .ok (.iload 6, 2)) ∧ (decode cX12_seenBy 119 = .ok (.imul, 1)) ∧ (decode cX12_seenBy 120 = .ok (.iload 5, 2)) ∧ (decode cX12_seenBy 122 = .ok (.iadd, 1)) ∧ (decode cX12_seenBy 123 = .ok (.iaload, 1)) := by decide +kernel
theorem dX12_seenBy_106 : decode cX12_seenBy 106 = .ok (.bipush 96, 2) := dX12_seenBy_106g.1
theorem dX12_seenBy_108 : decode cX12_seenBy 108 = .ok (.if_icmp .ge 18, 3) := dX12_seenBy_106g.2.1
theorem dX12_seenBy_111 : decode cX12_seenBy 111 = .ok (.aload_n 0, 1) := dX12_seenBy_106g.2.2.1
theorem dX12_seenBy_112 : decode cX12_seenBy 112 = .ok (.getfield 67, 3) := dX12_seenBy_106g.2.2.2.1
theorem dX12_seenBy_115 : decode cX12_seenBy 115 = .ok (.bipush 25, 2) := dX12_seenBy_106g.2.2.2.2.1
theorem dX12_seenBy_117 : decode cX12_seenBy 117 = .ok (.iload 6, 2) := dX12_seenBy_106g.2.2.2.2.2.1
theorem dX12_seenBy_119 : decode cX12_seenBy 119 = .ok (.imul, 1) := dX12_seenBy_106g.2.2.2.2.2.2.1
theorem dX12_seenBy_120 : decode cX12_seenBy 120 = .ok (.iload 5, 2) := dX12_seenBy_106g.2.2.2.2.2.2.2.1
theorem dX12_seenBy_122 : decode cX12_seenBy 122 = .ok (.iadd, 1) := dX12_seenBy_106g.2.2.2.2.2.2.2.2.1
theorem dX12_seenBy_123 : decode cX12_seenBy 123 = .ok (.iaload, 1) := dX12_seenBy_106g.2.2.2.2.2.2.2.2.2
theorem dX12_seenBy_124g : (decode cX12_seenBy 124 = .ok (.istore 5, 2)) ∧ (decode cX12_seenBy 126 = .ok (.iinc 6 1, 3)) ∧ (decode cX12_seenBy 129 = .ok (.goto (-120), 3)) ∧ (decode cX12_seenBy 132 = .ok (.iload 4, 2)) ∧ (decode cX12_seenBy 134 = .ok (.ireturn, 1)) := by decide +kernel
theorem dX12_seenBy_124 : decode cX12_seenBy 124 = .ok (.istore 5, 2) := dX12_seenBy_124g.1
theorem dX12_seenBy_126 : decode cX12_seenBy 126 = .ok (.iinc 6 1, 3) := dX12_seenBy_124g.2.1
theorem dX12_seenBy_129 : decode cX12_seenBy 129 = .ok (.goto (-120), 3) := dX12_seenBy_124g.2.2.1
theorem dX12_seenBy_132 : decode cX12_seenBy 132 = .ok (.iload 4, 2) := dX12_seenBy_124g.2.2.2.1
theorem dX12_seenBy_134 : decode cX12_seenBy 134 = .ok (.ireturn, 1) := dX12_seenBy_124g.2.2.2.2
set_option maxHeartbeats 4000000 in
set_option maxRecDepth 100000 in
theorem c_X12_seenBy (l : Launch) (E : Nat → Nat) (D : va_G) (G : th_G) (H0 : Heap) (h0 : Nat) (hG0 : G h0 = some (10, 0)) (x1 : Int32) (x2 : Int32) (x3 : Int32) (hx1 : (0 : Int) ≤ x1.toInt ∧ x1.toInt ≤ 24) (hx2 : (0 : Int) ≤ x2.toInt) : Met l yX12_seenBy (tb (.code yX12_seenBy cX12_seenBy 8 (some .int))) (rm 0) (va_Pc [.ref h0, .int x1, .int x2, .int x3] (PR E D G H0)) (QS H0 (fun r => 0 ≤ (r : Int32).toInt ∧ (r : Int32).toInt ≤ 1023)) 0 0 (fun _ => False) := by
  refine Met.ofW (cc := cX12_seenBy) (maxL := 8) (ret := (some .int)) (by decide) rfl ?_
  intro p e s m args below meth c s₁ B hml hv
  obtain ⟨hav, rfl, hI, hN, hK⟩ := hv
  have hx := B.exec
  have hb := B.bytes
  have hr := B.returns
  have hts := atoms_spec (ws := tb (.code yX12_seenBy cX12_seenBy 8 (some .int))) B.pre
  have hown : s.vm.findClass RX12 = some m.cls := findClass_of_methodNamed B.named
  have hlocks := B.notSynchronized
  have hS : va_S (fun _ => False) s.heap s.heap [] := va_S.rf
  have hl := lv_entry ([.ref h0, .int x1, .int x2, .int x3]) (n := 8) (Nat.le_of_ble_eq_true rfl)
  rw [show entryFrame m args 8 = entryFrame m ([.ref h0, .int x1, .int x2, .int x3] : List Value).toArray 8 from by rw [hav], lg_entry_eq]
  generalize (lg_sl ([.ref h0, .int x1, .int x2, .int x3]) ++ List.replicate (8 - (lg_sl ([.ref h0, .int x1, .int x2, .int x3])).length) Slot.unset).toArray = ls at hl ⊢
  have hl : lv_has ls 8 [(0, .ref h0), (1, .int x1), (2, .int x2), (3, .int x3)] := hl
  generalize hR : (headSpec (tb (.code yX12_seenBy cX12_seenBy 8 (some .int))) (rm 0)).room = R
  have hR := hR.symm
  generalize hQ : MQ below (QS s.heap (fun r => 0 ≤ (r : Int32).toInt ∧ (r : Int32).toInt ≤ 1023)) args s 0 0 (fun _ => False) = QF
  have hQ := hQ.symm
  obtain ⟨q_3, hq_3, hf_3⟩ := fr_of hI hG0 3 (by decide) (kd := (1, 5123)) rfl
  obtain ⟨F_3, hA_3, hP_3⟩ := om_1 hI hq_3 List.not_mem_nil
  have J_9 : ∀ (nn : Nat) (locs : List Loc) (ls : Array Slot) (v2241 : Int32) (v2242 : Int32) (v2243 : Int32) , (Int.toNat (97 - v2241.toInt) = nn) → lv_has ls 8 [(6, .int v2241), (5, .int v2242), (4, .int v2243), (0, .ref h0), (1, .int x1), (2, .int x2), (3, .int x3)] → ((0 : Int) ≤ v2241.toInt) → ((0 : Int) ≤ v2242.toInt ∧ v2242.toInt ≤ 24) → ((0 : Int) ≤ v2243.toInt ∧ v2243.toInt ≤ 1023) → ((0 : Int) ≤ x1.toInt ∧ x1.toInt ≤ 24) → ((0 : Int) ≤ x2.toInt) → va_S (fun _ => False) s.heap s.heap locs → W p l e R s m args below meth c s.heap locs 0 0 QF (F0 m 9 ls []) := by
    intro nn
    induction nn using Nat.strongRecOn with
    | ind nn ih_9 =>
      intro locs ls v2241 v2242 v2243  hm hl k2244 k2245 k2246 k2247 k2248 hS
      have J_19 : ∀ (nn : Nat) (locs : List Loc) (ls : Array Slot) (v2249 : Int32) (v2252 : Int32) , (Int.toNat (10 - v2249.toInt) = nn) → lv_has ls 8 [(7, .int v2249), (6, .int v2241), (5, .int v2242), (4, .int v2252), (0, .ref h0), (1, .int x1), (2, .int x2), (3, .int x3)] → ((0 : Int) ≤ v2249.toInt ∧ v2249.toInt ≤ 10) → ((0 : Int) ≤ v2241.toInt ∧ v2241.toInt ≤ 96) → ((0 : Int) ≤ v2252.toInt ∧ v2252.toInt ≤ 1023) → va_S (fun _ => False) s.heap s.heap locs → W p l e R s m args below meth c s.heap locs 0 0 QF (F0 m 19 ls []) := by
        intro nn
        induction nn using Nat.strongRecOn with
        | ind nn ih_19 =>
          intro locs ls v2249 v2252  hm hl k2253 k2254 k2255 hS
          have J_98 : ∀ (locs : List Loc) (ls : Array Slot) (v2259 : Int32) , lv_has ls 8 [(7, .int v2249), (6, .int v2241), (5, .int v2242), (4, .int v2259), (0, .ref h0), (1, .int x1), (2, .int x2), (3, .int x3)] → ((0 : Int) ≤ v2249.toInt ∧ v2249.toInt ≤ 9) → ((0 : Int) ≤ v2259.toInt ∧ v2259.toInt ≤ 1023) → va_S (fun _ => False) s.heap s.heap locs → W p l e R s m args below meth c s.heap locs 0 0 QF (F0 m 98 ls []) := by
            intro locs ls v2259  hl k2260 k2261 hS
            obtain ⟨v2262, e2263⟩ : ∃ y : Int32, y = v2249 + (1) := ⟨_, rfl⟩
            have tv2262 : v2262.toInt = v2249.toInt + (1) := iv_add rfl (by decide) e2263 (by omega) (by omega)
            refine lv_iinc (v := v2262) (lv' := [(7, .int v2262), (6, .int v2241), (5, .int v2242), (4, .int v2259), (0, .ref h0), (1, .int x1), (2, .int x2), (3, .int x3)]) hx hb dX12_seenBy_98 hl (k := 0) rfl (by rw [e2263]; rfl) (by decide) rfl (fun ls hl => ?_)
            refine lv_goto (tgt := 19) hx hb dX12_seenBy_101 (by decide) ?_
            exact ih_19 _ (by omega) locs ls v2262 v2259  rfl (lv_sub hl [0, 1, 2, 3, 4, 5, 6, 7] rfl) ⟨by omega, by omega⟩ ⟨by omega, by omega⟩ ⟨by omega, by omega⟩ hS
          refine lv_iload hx hb dX12_seenBy_19 (lv_at hl 0 rfl) ?_
          refine lv_aload_n hx hb dX12_seenBy_21 rfl (lv_at hl 4 rfl) ?_
          refine gmA hx hb hts inT12 hown hK hI List.not_mem_nil hG0 3 (by decide) (hts _ (tb_c wd_1236)) rfl rfl dX12_seenBy_22 (fun a2264 hq2265 hf2266 => ?_)
          obtain rfl := fr.uniq (by decide) hf_3 hf2266
          refine lv_sipush (v := 312) hx hb dX12_seenBy_25 (by decide) ?_
          refine th_iald hx hb hK hA_3 0 rfl (iv_in (X := (312)) (by decide) (by omega) (by omega)) dX12_seenBy_28 (fun v2267 e2268 => ?_)
          have k2269 := kg_m312 (kOk.get (i := 312) hP_3 e2268 (X := (312)) (by decide) (by omega) (by omega)) (by omega) (by omega) (by omega)
          refine lv_icmp_ge (tgt := 104) hx hb dX12_seenBy_29 (by decide) (fun c2270 => ?_) (fun c2270 => ?_)
          · skip
            have k2271 := iv_le (X := v2267.toInt) (Y := v2249.toInt) rfl rfl c2270
            refine lv_iload hx hb dX12_seenBy_104 (lv_at hl 1 rfl) ?_
            refine lv_bipush (v := 96) hx hb dX12_seenBy_106 (by decide) ?_
            refine lv_icmp_ge (tgt := 126) hx hb dX12_seenBy_108 (by decide) (fun c2272 => ?_) (fun c2272 => ?_)
            · skip
              have k2273 := iv_le (X := (96)) (Y := v2241.toInt) (by decide) rfl c2272
              obtain ⟨v2274, e2275⟩ : ∃ y : Int32, y = v2241 + (1) := ⟨_, rfl⟩
              have tv2274 : v2274.toInt = v2241.toInt + (1) := iv_add rfl (by decide) e2275 (by omega) (by omega)
              refine lv_iinc (v := v2274) (lv' := [(6, .int v2274), (7, .int v2249), (5, .int v2242), (4, .int v2252), (0, .ref h0), (1, .int x1), (2, .int x2), (3, .int x3)]) hx hb dX12_seenBy_126 hl (k := 1) rfl (by rw [e2275]; rfl) (by decide) rfl (fun ls hl => ?_)
              refine lv_goto (tgt := 9) hx hb dX12_seenBy_129 (by decide) ?_
              exact ih_9 _ (by omega) locs ls v2274 v2242 v2252  rfl (lv_sub hl [0, 2, 3, 4, 5, 6, 7] rfl) (by omega) ⟨by omega, by omega⟩ ⟨by omega, by omega⟩ ⟨by omega, by omega⟩ (by omega) hS
            · skip
              have k2276 := iv_nle (X := (96)) (Y := v2241.toInt) (by decide) rfl c2272
              refine lv_aload_n hx hb dX12_seenBy_111 rfl (lv_at hl 4 rfl) ?_
              refine gmA hx hb hts inT12 hown hK hI List.not_mem_nil hG0 27 (by decide) (hts _ (tb_c wd_1260)) rfl rfl dX12_seenBy_112 (fun a2277 hq2278 hf2279 => ?_)
              refine lv_bipush (v := 25) hx hb dX12_seenBy_115 (by decide) ?_
              refine lv_iload hx hb dX12_seenBy_117 (lv_at hl 1 rfl) ?_
              refine lv_imul hx hb dX12_seenBy_119 ?_
              refine lv_topi (fun v2280 e2281 => ?_)
              have tv2280 : v2280.toInt = (25) * v2241.toInt := iv_mul (by decide) rfl e2281 (by omega) (by omega)
              refine lv_iload hx hb dX12_seenBy_120 (lv_at hl 2 rfl) ?_
              refine lv_iadd hx hb dX12_seenBy_122 ?_
              refine lv_topi (fun v2282 e2283 => ?_)
              have tv2282 : v2282.toInt = v2280.toInt + v2242.toInt := iv_add rfl rfl e2283 (by omega) (by omega)
              obtain ⟨F2284, hA2285, hP2286⟩ := om_3 hI hq2278 List.not_mem_nil
              refine th_iald hx hb hK hA2285 0 rfl (iv_in (X := v2282.toInt) rfl (by omega) (by omega)) dX12_seenBy_123 (fun v2287 e2288 => ?_)
              have k2289 := rgs_get hP2286 e2288 (X := v2282.toInt) rfl (by omega) (by omega)
              refine lv_istore (lv' := [(5, .int v2287), (7, .int v2249), (6, .int v2241), (4, .int v2252), (0, .ref h0), (1, .int x1), (2, .int x2), (3, .int x3)]) hx hb dX12_seenBy_124 hl (by decide) rfl (fun ls hl => ?_)
              obtain ⟨v2290, e2291⟩ : ∃ y : Int32, y = v2241 + (1) := ⟨_, rfl⟩
              have tv2290 : v2290.toInt = v2241.toInt + (1) := iv_add rfl (by decide) e2291 (by omega) (by omega)
              refine lv_iinc (v := v2290) (lv' := [(6, .int v2290), (5, .int v2287), (7, .int v2249), (4, .int v2252), (0, .ref h0), (1, .int x1), (2, .int x2), (3, .int x3)]) hx hb dX12_seenBy_126 hl (k := 2) rfl (by rw [e2291]; rfl) (by decide) rfl (fun ls hl => ?_)
              refine lv_goto (tgt := 9) hx hb dX12_seenBy_129 (by decide) ?_
              exact ih_9 _ (by omega) locs ls v2290 v2287 v2252  rfl (lv_sub hl [0, 1, 3, 4, 5, 6, 7] rfl) (by omega) ⟨by omega, by omega⟩ ⟨by omega, by omega⟩ ⟨by omega, by omega⟩ (by omega) hS
          · skip
            have k2292 := iv_nle (X := v2267.toInt) (Y := v2249.toInt) rfl rfl c2270
            refine lv_aload_n hx hb dX12_seenBy_32 rfl (lv_at hl 4 rfl) ?_
            refine gmA hx hb hts inT12 hown hK hI List.not_mem_nil hG0 3 (by decide) (hts _ (tb_c wd_1236)) rfl rfl dX12_seenBy_33 (fun a2293 hq2294 hf2295 => ?_)
            obtain rfl := fr.uniq (by decide) hf_3 hf2295
            refine lv_sipush (v := 224) hx hb dX12_seenBy_36 (by decide) ?_
            refine lv_iconst (v := 4) hx hb dX12_seenBy_39 (by decide) ?_
            refine lv_iload hx hb dX12_seenBy_40 (lv_at hl 0 rfl) ?_
            refine lv_imul hx hb dX12_seenBy_42 ?_
            refine lv_topi (fun v2296 e2297 => ?_)
            have tv2296 : v2296.toInt = (4) * v2249.toInt := iv_mul (by decide) rfl e2297 (by omega) (by omega)
            refine lv_iadd hx hb dX12_seenBy_43 ?_
            refine lv_topi (fun v2298 e2299 => ?_)
            have tv2298 : v2298.toInt = (224) + v2296.toInt := iv_add (by decide) rfl e2299 (by omega) (by omega)
            refine th_iald hx hb hK hA_3 0 rfl (iv_in (X := v2298.toInt) rfl (by omega) (by omega)) dX12_seenBy_44 (fun v2300 e2301 => ?_)
            refine lv_iload hx hb dX12_seenBy_45 (lv_at hl 2 rfl) ?_
            have k2302 := iv_lo v2300
            have k2303 := iv_hi v2300
            refine lv_icmp_ne (tgt := 98) hx hb dX12_seenBy_47 (by decide) (fun c2304 => ?_) (fun c2304 => ?_)
            · skip
              have k2305 := iv_ne (X := v2300.toInt) (Y := v2242.toInt) rfl rfl c2304
              exact J_98 locs ls v2252  (lv_sub hl [0, 1, 2, 3, 4, 5, 6, 7] rfl) ⟨by omega, by omega⟩ ⟨by omega, by omega⟩ hS
            · skip
              have k2306 := iv_eq (X := v2300.toInt) (Y := v2242.toInt) rfl rfl c2304
              refine lv_aload_n hx hb dX12_seenBy_50 rfl (lv_at hl 4 rfl) ?_
              refine gmA hx hb hts inT12 hown hK hI List.not_mem_nil hG0 3 (by decide) (hts _ (tb_c wd_1236)) rfl rfl dX12_seenBy_51 (fun a2307 hq2308 hf2309 => ?_)
              obtain rfl := fr.uniq (by decide) hf_3 hf2309
              refine lv_sipush (v := 224) hx hb dX12_seenBy_54 (by decide) ?_
              refine lv_iconst (v := 4) hx hb dX12_seenBy_57 (by decide) ?_
              refine lv_iload hx hb dX12_seenBy_58 (lv_at hl 0 rfl) ?_
              refine lv_imul hx hb dX12_seenBy_60 ?_
              refine lv_topi (fun v2310 e2311 => ?_)
              have tv2310 : v2310.toInt = (4) * v2249.toInt := iv_mul (by decide) rfl e2311 (by omega) (by omega)
              refine lv_iadd hx hb dX12_seenBy_61 ?_
              refine lv_topi (fun v2312 e2313 => ?_)
              have tv2312 : v2312.toInt = (224) + v2310.toInt := iv_add (by decide) rfl e2313 (by omega) (by omega)
              refine lv_iconst (v := 1) hx hb dX12_seenBy_62 (by decide) ?_
              refine lv_iadd hx hb dX12_seenBy_63 ?_
              refine lv_topi (fun v2314 e2315 => ?_)
              have tv2314 : v2314.toInt = v2312.toInt + (1) := iv_add rfl (by decide) e2315 (by omega) (by omega)
              refine th_iald hx hb hK hA_3 0 rfl (iv_in (X := v2314.toInt) rfl (by omega) (by omega)) dX12_seenBy_64 (fun v2316 e2317 => ?_)
              have k2318 := kg_sight1 (kOk.get (i := v2314) hP_3 e2317 (X := v2314.toInt) rfl (by omega) (by omega)) (by omega) (by omega) (by omega)
              refine lv_iload hx hb dX12_seenBy_65 (lv_at hl 1 rfl) ?_
              refine lv_icmp_ne (tgt := 98) hx hb dX12_seenBy_67 (by decide) (fun c2319 => ?_) (fun c2319 => ?_)
              · skip
                have k2320 := iv_ne (X := v2316.toInt) (Y := v2241.toInt) rfl rfl c2319
                exact J_98 locs ls v2252  (lv_sub hl [0, 1, 2, 3, 4, 5, 6, 7] rfl) ⟨by omega, by omega⟩ ⟨by omega, by omega⟩ hS
              · skip
                have k2321 := iv_eq (X := v2316.toInt) (Y := v2241.toInt) rfl rfl c2319
                refine lv_aload_n hx hb dX12_seenBy_70 rfl (lv_at hl 4 rfl) ?_
                refine gmA hx hb hts inT12 hown hK hI List.not_mem_nil hG0 3 (by decide) (hts _ (tb_c wd_1236)) rfl rfl dX12_seenBy_71 (fun a2322 hq2323 hf2324 => ?_)
                obtain rfl := fr.uniq (by decide) hf_3 hf2324
                refine lv_sipush (v := 224) hx hb dX12_seenBy_74 (by decide) ?_
                refine lv_iconst (v := 4) hx hb dX12_seenBy_77 (by decide) ?_
                refine lv_iload hx hb dX12_seenBy_78 (lv_at hl 0 rfl) ?_
                refine lv_imul hx hb dX12_seenBy_80 ?_
                refine lv_topi (fun v2325 e2326 => ?_)
                have tv2325 : v2325.toInt = (4) * v2249.toInt := iv_mul (by decide) rfl e2326 (by omega) (by omega)
                refine lv_iadd hx hb dX12_seenBy_81 ?_
                refine lv_topi (fun v2327 e2328 => ?_)
                have tv2327 : v2327.toInt = (224) + v2325.toInt := iv_add (by decide) rfl e2328 (by omega) (by omega)
                refine lv_iconst (v := 2) hx hb dX12_seenBy_82 (by decide) ?_
                refine lv_iadd hx hb dX12_seenBy_83 ?_
                refine lv_topi (fun v2329 e2330 => ?_)
                have tv2329 : v2329.toInt = v2327.toInt + (2) := iv_add rfl (by decide) e2330 (by omega) (by omega)
                refine th_iald hx hb hK hA_3 0 rfl (iv_in (X := v2329.toInt) rfl (by omega) (by omega)) dX12_seenBy_84 (fun v2331 e2332 => ?_)
                refine lv_iload_n hx hb dX12_seenBy_85 rfl (lv_at hl 7 rfl) ?_
                have k2333 := iv_lo v2331
                have k2334 := iv_hi v2331
                have k2335 := iv_lo x3
                have k2336 := iv_hi x3
                refine lv_icmp_ne (tgt := 98) hx hb dX12_seenBy_86 (by decide) (fun c2337 => ?_) (fun c2337 => ?_)
                · skip
                  have k2338 := iv_ne (X := v2331.toInt) (Y := x3.toInt) rfl rfl c2337
                  exact J_98 locs ls v2252  (lv_sub hl [0, 1, 2, 3, 4, 5, 6, 7] rfl) ⟨by omega, by omega⟩ ⟨by omega, by omega⟩ hS
                · skip
                  have k2339 := iv_eq (X := v2331.toInt) (Y := x3.toInt) rfl rfl c2337
                  refine lv_iload hx hb dX12_seenBy_89 (lv_at hl 3 rfl) ?_
                  refine lv_iconst (v := 1) hx hb dX12_seenBy_91 (by decide) ?_
                  refine lv_iload hx hb dX12_seenBy_92 (lv_at hl 0 rfl) ?_
                  refine lv_ishl hx hb dX12_seenBy_94 ?_
                  refine lv_topi (fun v2340 e2341 => ?_)
                  have tv2340 := iv_1sh (X := v2249.toInt) rfl e2341 (by omega) (by omega)
                  refine lv_ior hx hb dX12_seenBy_95 ?_
                  refine lv_topi (fun v2342 e2343 => ?_)
                  have tv2342 := iv_or (X := v2252.toInt) (Y := v2340.toInt) rfl rfl e2343 (by omega) (by omega) (by omega) (by omega)
                  refine lv_istore (lv' := [(4, .int v2342), (7, .int v2249), (6, .int v2241), (5, .int v2242), (0, .ref h0), (1, .int x1), (2, .int x2), (3, .int x3)]) hx hb dX12_seenBy_96 hl (by decide) rfl (fun ls hl => ?_)
                  exact J_98 locs ls v2342  (lv_sub hl [1, 2, 3, 0, 4, 5, 6, 7] rfl) ⟨by omega, by omega⟩ ⟨by omega, by omega⟩ hS
      refine lv_iload hx hb dX12_seenBy_9 (lv_at hl 0 rfl) ?_
      refine lv_bipush (v := 96) hx hb dX12_seenBy_11 (by decide) ?_
      have k2344 := iv_lo v2241
      have k2345 := iv_hi v2241
      refine lv_icmp_gt (tgt := 132) hx hb dX12_seenBy_13 (by decide) (fun c2346 => ?_) (fun c2346 => ?_)
      · skip
        have k2347 := iv_lt (X := (96)) (Y := v2241.toInt) (by decide) rfl c2346
        refine lv_iload hx hb dX12_seenBy_132 (lv_at hl 2 rfl) ?_
        have hpost : 0 ≤ (v2243 : Int32).toInt ∧ (v2243 : Int32).toInt ≤ 1023 := by omega
        rw [hQ]
        exact W.iret (v := v2243) hx hb hr (fun t ht hW => ⟨⟨v2243, (), rfl, hpost, ht⟩, hS.F ht⟩) hS.2.2 dX12_seenBy_134
      · skip
        have k2348 := iv_nlt (X := (96)) (Y := v2241.toInt) (by decide) rfl c2346
        refine lv_iconst (v := 0) hx hb dX12_seenBy_16 (by decide) ?_
        refine lv_istore (lv' := [(7, .int 0), (6, .int v2241), (5, .int v2242), (4, .int v2243), (0, .ref h0), (1, .int x1), (2, .int x2), (3, .int x3)]) hx hb dX12_seenBy_17 hl (by decide) rfl (fun ls hl => ?_)
        have zl : (0 : Int32).toInt = 0 := by decide
        exact J_19 _ locs ls 0 v2243  rfl (lv_sub hl [0, 1, 2, 3, 4, 5, 6, 7] rfl) ⟨by decide, by decide⟩ ⟨by omega, by omega⟩ ⟨by omega, by omega⟩ hS
  refine lv_iconst (v := 0) hx hb dX12_seenBy_0 (by decide) ?_
  refine lv_istore (lv' := [(4, .int 0), (0, .ref h0), (1, .int x1), (2, .int x2), (3, .int x3)]) hx hb dX12_seenBy_1 hl (by decide) rfl (fun ls hl => ?_)
  refine lv_iload_n hx hb dX12_seenBy_3 rfl (lv_at hl 2 rfl) ?_
  refine lv_istore (lv' := [(5, .int x1), (4, .int 0), (0, .ref h0), (1, .int x1), (2, .int x2), (3, .int x3)]) hx hb dX12_seenBy_4 hl (by decide) rfl (fun ls hl => ?_)
  refine lv_iload_n hx hb dX12_seenBy_6 rfl (lv_at hl 4 rfl) ?_
  refine lv_istore (lv' := [(6, .int x2), (5, .int x1), (4, .int 0), (0, .ref h0), (1, .int x1), (2, .int x2), (3, .int x3)]) hx hb dX12_seenBy_7 hl (by decide) rfl (fun ls hl => ?_)
  exact J_9 _ [] ls x2 x1 0  rfl (lv_sub hl [0, 1, 2, 3, 4, 5, 6] rfl) (by omega) ⟨by omega, by omega⟩ ⟨by decide, by decide⟩ ⟨by omega, by omega⟩ (by omega) hS
