theorem wp_83 : Cond.selects RX12 yX12_findsThrow yX12_findsThrow ∈ TB := tv 83 (by decide +kernel) (by decide +kernel)
theorem wp_85 : Cond.selects RX12 yX12_goAll yX12_goAll ∈ TB := tv 85 (by decide +kernel) (by decide +kernel)
theorem wp_86 : Cond.selects RX12 yX12_seenOf yX12_seenOf ∈ TB := tv 86 (by decide +kernel) (by decide +kernel)
theorem wp_87 : Cond.selects RX12 yX12_seenBy yX12_seenBy ∈ TB := tv 87 (by decide +kernel) (by decide +kernel)
theorem wp_90 : Cond.selects RX12 yX12_firstAt yX12_firstAt ∈ TB := tv 90 (by decide +kernel) (by decide +kernel)
theorem wd_1267 : (Cond.fieldLink RX12 (73 : Nat) "NineRiverModel" "sorts" "[I") ∈ TB := tw 1267 (by decide +kernel) (by decide +kernel)
theorem wd_1275 : (Cond.fieldLink RX12 (91 : Nat) "NineRiverModel" "answers" "[I") ∈ TB := tw 1275 (by decide +kernel) (by decide +kernel)
theorem wd_1582 : (Cond.constant RX12 (158 : Nat) (1000000 : Int32)) ∈ TB := tw 1582 (by decide +kernel) (by decide +kernel)
theorem wd_1733 : (Cond.methodLink RX12 (341 : Nat) yX12_findsThrow) ∈ TB := tw 1733 (by decide +kernel) (by decide +kernel)
theorem wd_1735 : (Jvm.Cond.instanceMethod yX12_findsThrow) ∈ TB := tw 1735 (by decide +kernel) (by decide +kernel)
theorem wd_1736 : (Cond.code yX12_findsThrow cX12_findsThrow 9 (Option.none : Option Jvm.ClassFile.FieldType)) ∈ TB := tw 1736 (by decide +kernel) (by decide +kernel)
theorem wd_1749 : (Cond.methodLink RX12 (345 : Nat) yX12_goAll) ∈ TB := tw 1749 (by decide +kernel) (by decide +kernel)
theorem wd_1751 : (Jvm.Cond.instanceMethod yX12_goAll) ∈ TB := tw 1751 (by decide +kernel) (by decide +kernel)
theorem wd_1752 : (Cond.code yX12_goAll cX12_goAll 3 (Option.some Jvm.ClassFile.FieldType.int)) ∈ TB := tw 1752 (by decide +kernel) (by decide +kernel)
theorem wd_1761 : (Cond.methodLink RX12 (348 : Nat) yX12_seenOf) ∈ TB := tw 1761 (by decide +kernel) (by decide +kernel)
theorem wd_1763 : (Jvm.Cond.instanceMethod yX12_seenOf) ∈ TB := tw 1763 (by decide +kernel) (by decide +kernel)
theorem wd_1764 : (Cond.code yX12_seenOf cX12_seenOf 4 (Option.some Jvm.ClassFile.FieldType.int)) ∈ TB := tw 1764 (by decide +kernel) (by decide +kernel)
theorem wd_1765 : (Cond.methodLink RX12 (351 : Nat) yX12_seenBy) ∈ TB := tw 1765 (by decide +kernel) (by decide +kernel)
theorem wd_1767 : (Jvm.Cond.instanceMethod yX12_seenBy) ∈ TB := tw 1767 (by decide +kernel) (by decide +kernel)
theorem wd_1768 : (Cond.code yX12_seenBy cX12_seenBy 8 (Option.some Jvm.ClassFile.FieldType.int)) ∈ TB := tw 1768 (by decide +kernel) (by decide +kernel)
theorem wd_1800 : (Cond.methodLink RX12 (370 : Nat) yX12_firstAt) ∈ TB := tw 1800 (by decide +kernel) (by decide +kernel)
theorem wd_1802 : (Jvm.Cond.instanceMethod yX12_firstAt) ∈ TB := tw 1802 (by decide +kernel) (by decide +kernel)
theorem wd_1803 : (Cond.code yX12_firstAt cX12_firstAt 4 (Option.some Jvm.ClassFile.FieldType.int)) ∈ TB := tw 1803 (by decide +kernel) (by decide +kernel)
theorem dX12_least_0 : decode cX12_least 0 = .ok (.iload_n 1, 1) := by decide +kernel
theorem dX12_least_1 : decode cX12_least 1 = .ok (.invokestatic 304, 3) := by decide +kernel
theorem dX12_least_4 : decode cX12_least 4 = .ok (.ifCond .eq 38, 3) := by decide +kernel
theorem dX12_least_7 : decode cX12_least 7 = .ok (.iload_n 2, 1) := by decide +kernel
theorem dX12_least_8 : decode cX12_least 8 = .ok (.invokestatic 298, 3) := by decide +kernel
theorem dX12_least_11 : decode cX12_least 11 = .ok (.ifCond .eq 31, 3) := by decide +kernel
theorem dX12_least_14 : decode cX12_least 14 = .ok (.iload_n 3, 1) := by decide +kernel
theorem dX12_least_15 : decode cX12_least 15 = .ok (.iload_n 2, 1) := by decide +kernel
theorem dX12_least_16 : decode cX12_least 16 = .ok (.bipush 96, 2) := by decide +kernel
theorem dX12_least_18 : decode cX12_least 18 = .ok (.invokestatic 103, 3) := by decide +kernel
theorem dX12_least_21 : decode cX12_least 21 = .ok (.ifCond .eq 21, 3) := by decide +kernel
theorem dX12_least_24 : decode cX12_least 24 = .ok (.iload 4, 2) := by decide +kernel
theorem dX12_least_26 : decode cX12_least 26 = .ok (.invokestatic 114, 3) := by decide +kernel
theorem dX12_least_29 : decode cX12_least 29 = .ok (.ifCond .eq 13, 3) := by decide +kernel
theorem dX12_least_32 : decode cX12_least 32 = .ok (.iload 5, 2) := by decide +kernel
theorem dX12_least_34 : decode cX12_least 34 = .ok (.iconst 0, 1) := by decide +kernel
theorem dX12_least_35 : decode cX12_least 35 = .ok (.iconst 3, 1) := by decide +kernel
theorem dX12_least_36 : decode cX12_least 36 = .ok (.invokestatic 103, 3) := by decide +kernel
theorem dX12_least_39 : decode cX12_least 39 = .ok (.ifCond .ne 5, 3) := by decide +kernel
theorem dX12_least_42 : decode cX12_least 42 = .ok (.iconst (-1), 1) := by decide +kernel
theorem dX12_least_43 : decode cX12_least 43 = .ok (.ireturn, 1) := by decide +kernel
theorem dX12_least_44 : decode cX12_least 44 = .ok (.aload_n 0, 1) := by decide +kernel
theorem dX12_least_45 : decode cX12_least 45 = .ok (.invokevirtual 138, 3) := by decide +kernel
theorem dX12_least_48 : decode cX12_least 48 = .ok (.aload_n 0, 1) := by decide +kernel
theorem dX12_least_49 : decode cX12_least 49 = .ok (.iload_n 1, 1) := by decide +kernel
theorem dX12_least_50 : decode cX12_least 50 = .ok (.iload_n 2, 1) := by decide +kernel
theorem dX12_least_51 : decode cX12_least 51 = .ok (.iload_n 3, 1) := by decide +kernel
theorem dX12_least_52 : decode cX12_least 52 = .ok (.iload 4, 2) := by decide +kernel
theorem dX12_least_54 : decode cX12_least 54 = .ok (.invokevirtual 341, 3) := by decide +kernel
theorem dX12_least_57 : decode cX12_least 57 = .ok (.aload_n 0, 1) := by decide +kernel
theorem dX12_least_58 : decode cX12_least 58 = .ok (.getfield 325, 3) := by decide +kernel
theorem dX12_least_61 : decode cX12_least 61 = .ok (.iconst (-1), 1) := by decide +kernel
theorem dX12_least_62 : decode cX12_least 62 = .ok (.if_icmp .ne 5, 3) := by decide +kernel
theorem dX12_least_65 : decode cX12_least 65 = .ok (.iconst (-1), 1) := by decide +kernel
theorem dX12_least_66 : decode cX12_least 66 = .ok (.ireturn, 1) := by decide +kernel
theorem dX12_least_67 : decode cX12_least 67 = .ok (.iload 5, 2) := by decide +kernel
theorem dX12_least_69 : decode cX12_least 69 = .ok (.ifCond .ne 10, 3) := by decide +kernel
theorem dX12_least_72 : decode cX12_least 72 = .ok (.aload_n 0, 1) := by decide +kernel
theorem dX12_least_73 : decode cX12_least 73 = .ok (.getfield 332, 3) := by decide +kernel
theorem dX12_least_76 : decode cX12_least 76 = .ok (.goto 33, 3) := by decide +kernel
theorem dX12_least_79 : decode cX12_least 79 = .ok (.iload 5, 2) := by decide +kernel
theorem dX12_least_81 : decode cX12_least 81 = .ok (.iconst 1, 1) := by decide +kernel
theorem dX12_least_82 : decode cX12_least 82 = .ok (.if_icmp .ne 10, 3) := by decide +kernel
theorem dX12_least_85 : decode cX12_least 85 = .ok (.aload_n 0, 1) := by decide +kernel
theorem dX12_least_86 : decode cX12_least 86 = .ok (.getfield 325, 3) := by decide +kernel
theorem dX12_least_89 : decode cX12_least 89 = .ok (.goto 20, 3) := by decide +kernel
theorem dX12_least_92 : decode cX12_least 92 = .ok (.iload 5, 2) := by decide +kernel
theorem dX12_least_94 : decode cX12_least 94 = .ok (.iconst 2, 1) := by decide +kernel
theorem dX12_least_95 : decode cX12_least 95 = .ok (.if_icmp .ne 10, 3) := by decide +kernel
theorem dX12_least_98 : decode cX12_least 98 = .ok (.aload_n 0, 1) := by decide +kernel
theorem dX12_least_99 : decode cX12_least 99 = .ok (.getfield 338, 3) := by decide +kernel
theorem dX12_least_102 : decode cX12_least 102 = .ok (.goto 7, 3) := by decide +kernel
theorem dX12_least_105 : decode cX12_least 105 = .ok (.aload_n 0, 1) := by decide +kernel
theorem dX12_least_106 : decode cX12_least 106 = .ok (.getfield 335, 3) := by decide +kernel
theorem dX12_least_109 : decode cX12_least 109 = .ok (.ireturn, 1) := by decide +kernel
set_option maxHeartbeats 4000000 in
set_option maxRecDepth 100000 in
theorem c_X12_least (l : Launch) (E : Nat → Nat) (D : va_G) (G : th_G) (h0 : Nat) (hG0 : G h0 = some (10, 0)) (x1 : Int32) (x2 : Int32) (x3 : Int32) (x4 : Int32) (x5 : Int32) : Met l yX12_least (tb (.code yX12_least cX12_least 6 (some .int))) (rm 69) (va_Pc [.ref h0, .int x1, .int x2, .int x3, .int x4, .int x5] (PX E D G (fun H => True))) (QXi E D G (fun r H => True)) 0 0 (th_A G) := by
  refine Met.ofW (cc := cX12_least) (maxL := 6) (ret := (some .int)) (by decide) rfl ?_
  intro p e s m args below meth c s₁ B hml hv
  obtain ⟨hav, ⟨hI, hN, hK⟩, hX⟩ := hv
  have hx := B.exec
  have hb := B.bytes
  have hr := B.returns
  have hts := atoms_spec (ws := tb (.code yX12_least cX12_least 6 (some .int))) B.pre
  have hown : s.vm.findClass RX12 = some m.cls := findClass_of_methodNamed B.named
  have hlocks := B.notSynchronized
  have hS : va_S (th_A G) s.heap s.heap [] := va_S.rf
  have hl := lv_entry ([.ref h0, .int x1, .int x2, .int x3, .int x4, .int x5]) (n := 6) (Nat.le_of_ble_eq_true rfl)
  rw [show entryFrame m args 6 = entryFrame m ([.ref h0, .int x1, .int x2, .int x3, .int x4, .int x5] : List Value).toArray 6 from by rw [hav], lg_entry_eq]
  generalize (lg_sl ([.ref h0, .int x1, .int x2, .int x3, .int x4, .int x5]) ++ List.replicate (6 - (lg_sl ([.ref h0, .int x1, .int x2, .int x3, .int x4, .int x5])).length) Slot.unset).toArray = ls at hl ⊢
  have hl : lv_has ls 6 [(0, .ref h0), (1, .int x1), (2, .int x2), (3, .int x3), (4, .int x4), (5, .int x5)] := hl
  generalize hR : (headSpec (tb (.code yX12_least cX12_least 6 (some .int))) (rm 69)).room = R
  have hR := hR.symm
  generalize hQ : MQ below (QXi E D G (fun r H => True)) args s 0 0 (th_A G) = QF
  have hQ := hQ.symm
  have J_42 : ∀ (H : Heap) (locs : List Loc) (ls : Array Slot)  , lv_has ls 6 [(0, .ref h0), (1, .int x1), (2, .int x2), (3, .int x3), (4, .int x4), (5, .int x5)] → th_I (okM E) D G [] H → va_S (th_A G) s.heap H locs → W p l e R s m args below meth c H locs 0 0 QF (F0 m 42 ls []) := by
    intro H locs ls   hl  hI hS
    refine lv_iconst (v := (-1)) hx hb dX12_least_42 (by decide) ?_
    have hpost : True := trivial
    rw [hQ]
    exact W.iret (v := (-1)) hx hb hr (fun t ht hW => ⟨⟨(-1), (-1), rfl, rfl, ⟨by rw [ht]; exact hI, hN.warm hW, va_K.moved hW.alike hK⟩, by first | (rw [ht]; exact hpost) | exact hpost⟩, hS.F ht⟩) hS.2.2 dX12_least_43
  refine lv_iload_n hx hb dX12_least_0 rfl (lv_at hl 1 rfl) ?_
  refine th_cSs (As := [.int x1]) (rest := []) (n := 1) (d := 1) ⟨hx, hb, hml, hown, hts⟩ (c_X12_isPlace l s.heap x1) wd_1670 wd_1671 wd_13 wd_1672 (by decide +kernel) ⟨by rw [hR]; exact Nat.le_of_ble_eq_true rfl, by rw [hR]; exact Nat.le_of_ble_eq_true rfl⟩ hN hS rfl hl.1 rfl (Nat.le_of_ble_eq_true rfl) dX12_least_1 ⟨Nat.zero_le _, Nat.zero_le _⟩ (fun r393 locs hp hS => ?_)
  rcases hp with ⟨rfl, hp⟩ | ⟨rfl, hp⟩
  · skip
    try simp only [rg, not_and, Int.not_le] at hp
    have hp394 := hp
    refine lv_if_eq (tgt := 42) hx hb dX12_least_4 (by decide) (fun c => absurd c (by decide)) (fun _ => ?_)
    refine lv_iload_n hx hb dX12_least_7 rfl (lv_at hl 2 rfl) ?_
    refine th_cSs (As := [.int x2]) (rest := []) (n := 1) (d := 1) ⟨hx, hb, hml, hown, hts⟩ (c_X12_isTime l s.heap x2) wd_1655 wd_1656 wd_13 wd_1657 (by decide +kernel) ⟨by rw [hR]; exact Nat.le_of_ble_eq_true rfl, by rw [hR]; exact Nat.le_of_ble_eq_true rfl⟩ hN hS rfl hl.1 rfl (Nat.le_of_ble_eq_true rfl) dX12_least_8 ⟨Nat.zero_le _, Nat.zero_le _⟩ (fun r395 locs hp hS => ?_)
    rcases hp with ⟨rfl, hp⟩ | ⟨rfl, hp⟩
    · skip
      try simp only [rg, not_and, Int.not_le] at hp
      have hp396 := hp
      refine lv_if_eq (tgt := 42) hx hb dX12_least_11 (by decide) (fun c => absurd c (by decide)) (fun _ => ?_)
      refine lv_iload_n hx hb dX12_least_14 rfl (lv_at hl 3 rfl) ?_
      refine lv_iload_n hx hb dX12_least_15 rfl (lv_at hl 2 rfl) ?_
      refine lv_bipush (v := 96) hx hb dX12_least_16 (by decide) ?_
      refine th_cSs (As := [.int x3, .int x2, .int 96]) (rest := []) (n := 3) (d := 0) ⟨hx, hb, hml, hown, hts⟩ (c_X12_lies l s.heap x3 x2 96) wd_1395 wd_1396 wd_13 wd_1397 (by decide +kernel) ⟨by rw [hR]; exact Nat.le_of_ble_eq_true rfl, by rw [hR]; exact Nat.le_of_ble_eq_true rfl⟩ hN hS rfl hl.1 rfl (Nat.le_of_ble_eq_true rfl) dX12_least_18 ⟨Nat.zero_le _, Nat.zero_le _⟩ (fun r397 locs hp hS => ?_)
      rcases hp with ⟨rfl, hp⟩ | ⟨rfl, hp⟩
      · skip
        try simp only [rg, not_and, Int.not_le] at hp
        have hp398 := hp
        try rw [show (96 : Int32).toInt = 96 from by decide] at hp398
        refine lv_if_eq (tgt := 42) hx hb dX12_least_21 (by decide) (fun c => absurd c (by decide)) (fun _ => ?_)
        refine lv_iload hx hb dX12_least_24 (lv_at hl 4 rfl) ?_
        refine th_cSs (As := [.int x4]) (rest := []) (n := 1) (d := 1) ⟨hx, hb, hml, hown, hts⟩ (c_X12_isHour l s.heap x4) wd_1428 wd_1429 wd_13 wd_1430 (by decide +kernel) ⟨by rw [hR]; exact Nat.le_of_ble_eq_true rfl, by rw [hR]; exact Nat.le_of_ble_eq_true rfl⟩ hN hS rfl hl.1 rfl (Nat.le_of_ble_eq_true rfl) dX12_least_26 ⟨Nat.zero_le _, Nat.zero_le _⟩ (fun r399 locs hp hS => ?_)
        rcases hp with ⟨rfl, hp⟩ | ⟨rfl, hp⟩
        · skip
          try simp only [rg, not_and, Int.not_le] at hp
          have hp400 := hp
          refine lv_if_eq (tgt := 42) hx hb dX12_least_29 (by decide) (fun c => absurd c (by decide)) (fun _ => ?_)
          refine lv_iload hx hb dX12_least_32 (lv_at hl 5 rfl) ?_
          refine lv_iconst (v := 0) hx hb dX12_least_34 (by decide) ?_
          refine lv_iconst (v := 3) hx hb dX12_least_35 (by decide) ?_
          refine th_cSs (As := [.int x5, .int 0, .int 3]) (rest := []) (n := 3) (d := 0) ⟨hx, hb, hml, hown, hts⟩ (c_X12_lies l s.heap x5 0 3) wd_1395 wd_1396 wd_13 wd_1397 (by decide +kernel) ⟨by rw [hR]; exact Nat.le_of_ble_eq_true rfl, by rw [hR]; exact Nat.le_of_ble_eq_true rfl⟩ hN hS rfl hl.1 rfl (Nat.le_of_ble_eq_true rfl) dX12_least_36 ⟨Nat.zero_le _, Nat.zero_le _⟩ (fun r401 locs hp hS => ?_)
          rcases hp with ⟨rfl, hp⟩ | ⟨rfl, hp⟩
          · skip
            try simp only [rg, not_and, Int.not_le] at hp
            have hp402 := hp
            try rw [show (0 : Int32).toInt = 0 from by decide] at hp402
            try rw [show (3 : Int32).toInt = 3 from by decide] at hp402
            refine lv_if_ne (tgt := 44) hx hb dX12_least_39 (by decide) (fun _ => ?_) (fun c => absurd c (by decide))
            refine lv_aload_n hx hb dX12_least_44 rfl (lv_at hl 0 rfl) ?_
            refine mx_v (As := []) (rest := []) (n := 0) (d := 68) ⟨hx, hb, hml, hown, hts⟩ (c_X12_looks l E D G h0 hG0 ) wd_1455 wd_1457 wp_43 wd_13 wd_1458 (by decide +kernel) ⟨by rw [hR]; exact Nat.le_of_ble_eq_true rfl, by rw [hR]; exact Nat.le_of_ble_eq_true rfl⟩ hI hN hK hS hG0 (trivial) rfl hl.1 rfl (Nat.le_of_ble_eq_true rfl) dX12_least_45 ⟨Nat.zero_le _, Nat.zero_le _⟩ (fun H locs hI hp hS => ?_)
            refine lv_aload_n hx hb dX12_least_48 rfl (lv_at hl 0 rfl) ?_
            refine lv_iload_n hx hb dX12_least_49 rfl (lv_at hl 1 rfl) ?_
            refine lv_iload_n hx hb dX12_least_50 rfl (lv_at hl 2 rfl) ?_
            refine lv_iload_n hx hb dX12_least_51 rfl (lv_at hl 3 rfl) ?_
            refine lv_iload hx hb dX12_least_52 (lv_at hl 4 rfl) ?_
            refine mx_v (As := [.int x1, .int x2, .int x3, .int x4]) (rest := []) (n := 4) (d := 1) ⟨hx, hb, hml, hown, hts⟩ (c_X12_findsThrow l E D G h0 hG0 x1 x2 x3 x4 (by omega) (by omega)) wd_1733 wd_1735 wp_83 wd_13 wd_1736 (by decide +kernel) ⟨by rw [hR]; exact Nat.le_of_ble_eq_true rfl, by rw [hR]; exact Nat.le_of_ble_eq_true rfl⟩ hI hN hK hS hG0 (trivial) rfl hl.1 rfl (Nat.le_of_ble_eq_true rfl) dX12_least_54 ⟨Nat.zero_le _, Nat.zero_le _⟩ (fun H locs hI hp hS => ?_)
            refine lv_aload_n hx hb dX12_least_57 rfl (lv_at hl 0 rfl) ?_
            refine gmI hx hb hts inT12 hown hK hI List.not_mem_nil hG0 31 (by decide) (hts _ (tb_c wd_1264)) rfl rfl dX12_least_58 (fun w405 hg406 k407 k408 => ?_)
            refine lv_iconst (v := (-1)) hx hb dX12_least_61 (by decide) ?_
            refine lv_icmp_ne (tgt := 67) hx hb dX12_least_62 (by decide) (fun c409 => ?_) (fun c409 => ?_)
            · skip
              have k410 := iv_ne (X := w405.toInt) (Y := (-1)) rfl (by decide) c409
              refine lv_iload hx hb dX12_least_67 (lv_at hl 5 rfl) ?_
              refine lv_if_ne (tgt := 79) hx hb dX12_least_69 (by decide) (fun c411 => ?_) (fun c411 => ?_)
              · skip
                have k412 := iv_ne (X := x5.toInt) (Y := (0)) rfl (by decide) c411
                refine lv_iload hx hb dX12_least_79 (lv_at hl 5 rfl) ?_
                refine lv_iconst (v := 1) hx hb dX12_least_81 (by decide) ?_
                refine lv_icmp_ne (tgt := 92) hx hb dX12_least_82 (by decide) (fun c413 => ?_) (fun c413 => ?_)
                · skip
                  have k414 := iv_ne (X := x5.toInt) (Y := (1)) rfl (by decide) c413
                  refine lv_iload hx hb dX12_least_92 (lv_at hl 5 rfl) ?_
                  refine lv_iconst (v := 2) hx hb dX12_least_94 (by decide) ?_
                  refine lv_icmp_ne (tgt := 105) hx hb dX12_least_95 (by decide) (fun c415 => ?_) (fun c415 => ?_)
                  · skip
                    have k416 := iv_ne (X := x5.toInt) (Y := (2)) rfl (by decide) c415
                    refine lv_aload_n hx hb dX12_least_105 rfl (lv_at hl 0 rfl) ?_
                    refine gmI hx hb hts inT12 hown hK hI List.not_mem_nil hG0 33 (by decide) (hts _ (tb_c wd_1266)) rfl rfl dX12_least_106 (fun w417 hg418 k419 k420 => ?_)
                    have hpost : True := trivial
                    rw [hQ]
                    exact W.iret (v := w417) hx hb hr (fun t ht hW => ⟨⟨w417, w417, rfl, rfl, ⟨by rw [ht]; exact hI, hN.warm hW, va_K.moved hW.alike hK⟩, by first | (rw [ht]; exact hpost) | exact hpost⟩, hS.F ht⟩) hS.2.2 dX12_least_109
                  · skip
                    have k421 := iv_eq (X := x5.toInt) (Y := (2)) rfl (by decide) c415
                    refine lv_aload_n hx hb dX12_least_98 rfl (lv_at hl 0 rfl) ?_
                    refine gmI hx hb hts inT12 hown hK hI List.not_mem_nil hG0 32 (by decide) (hts _ (tb_c wd_1265)) rfl rfl dX12_least_99 (fun w422 hg423 k424 k425 => ?_)
                    refine lv_goto (tgt := 109) hx hb dX12_least_102 (by decide) ?_
                    have hpost : True := trivial
                    rw [hQ]
                    exact W.iret (v := w422) hx hb hr (fun t ht hW => ⟨⟨w422, w422, rfl, rfl, ⟨by rw [ht]; exact hI, hN.warm hW, va_K.moved hW.alike hK⟩, by first | (rw [ht]; exact hpost) | exact hpost⟩, hS.F ht⟩) hS.2.2 dX12_least_109
                · skip
                  have k426 := iv_eq (X := x5.toInt) (Y := (1)) rfl (by decide) c413
                  refine lv_aload_n hx hb dX12_least_85 rfl (lv_at hl 0 rfl) ?_
                  refine gmI hx hb hts inT12 hown hK hI List.not_mem_nil hG0 31 (by decide) (hts _ (tb_c wd_1264)) rfl rfl dX12_least_86 (fun w427 hg428 k429 k430 => ?_)
                  obtain rfl := gf.uniq (by decide) hg406 hg428
                  refine lv_goto (tgt := 109) hx hb dX12_least_89 (by decide) ?_
                  have hpost : True := trivial
                  rw [hQ]
                  exact W.iret (v := w405) hx hb hr (fun t ht hW => ⟨⟨w405, w405, rfl, rfl, ⟨by rw [ht]; exact hI, hN.warm hW, va_K.moved hW.alike hK⟩, by first | (rw [ht]; exact hpost) | exact hpost⟩, hS.F ht⟩) hS.2.2 dX12_least_109
              · skip
                have k431 := iv_eq (X := x5.toInt) (Y := (0)) rfl (by decide) c411
                refine lv_aload_n hx hb dX12_least_72 rfl (lv_at hl 0 rfl) ?_
                refine gmI hx hb hts inT12 hown hK hI List.not_mem_nil hG0 30 (by decide) (hts _ (tb_c wd_1263)) rfl rfl dX12_least_73 (fun w432 hg433 k434 k435 => ?_)
                refine lv_goto (tgt := 109) hx hb dX12_least_76 (by decide) ?_
                have hpost : True := trivial
                rw [hQ]
                exact W.iret (v := w432) hx hb hr (fun t ht hW => ⟨⟨w432, w432, rfl, rfl, ⟨by rw [ht]; exact hI, hN.warm hW, va_K.moved hW.alike hK⟩, by first | (rw [ht]; exact hpost) | exact hpost⟩, hS.F ht⟩) hS.2.2 dX12_least_109
            · skip
              have k436 := iv_eq (X := w405.toInt) (Y := (-1)) rfl (by decide) c409
              refine lv_iconst (v := (-1)) hx hb dX12_least_65 (by decide) ?_
              have hpost : True := trivial
              rw [hQ]
              exact W.iret (v := (-1)) hx hb hr (fun t ht hW => ⟨⟨(-1), (-1), rfl, rfl, ⟨by rw [ht]; exact hI, hN.warm hW, va_K.moved hW.alike hK⟩, by first | (rw [ht]; exact hpost) | exact hpost⟩, hS.F ht⟩) hS.2.2 dX12_least_66
          · skip
            try simp only [rg, not_and, Int.not_le] at hp
            have hp437 := hp
            try rw [show (0 : Int32).toInt = 0 from by decide] at hp437
            try rw [show (3 : Int32).toInt = 3 from by decide] at hp437
            refine lv_if_ne (tgt := 44) hx hb dX12_least_39 (by decide) (fun c => absurd c (by decide)) (fun _ => ?_)
            exact J_42 s.heap locs ls   (lv_sub hl [0, 1, 2, 3, 4, 5] rfl)  hI hS
        · skip
          try simp only [rg, not_and, Int.not_le] at hp
          have hp438 := hp
          refine lv_if_eq (tgt := 42) hx hb dX12_least_29 (by decide) (fun _ => ?_) (fun c => absurd c (by decide))
          exact J_42 s.heap locs ls   (lv_sub hl [0, 1, 2, 3, 4, 5] rfl)  hI hS
      · skip
        try simp only [rg, not_and, Int.not_le] at hp
        have hp439 := hp
        try rw [show (96 : Int32).toInt = 96 from by decide] at hp439
        refine lv_if_eq (tgt := 42) hx hb dX12_least_21 (by decide) (fun _ => ?_) (fun c => absurd c (by decide))
        exact J_42 s.heap locs ls   (lv_sub hl [0, 1, 2, 3, 4, 5] rfl)  hI hS
    · skip
      try simp only [rg, not_and, Int.not_le] at hp
      have hp440 := hp
      refine lv_if_eq (tgt := 42) hx hb dX12_least_11 (by decide) (fun _ => ?_) (fun c => absurd c (by decide))
      exact J_42 s.heap locs ls   (lv_sub hl [0, 1, 2, 3, 4, 5] rfl)  hI hS
  · skip
    try simp only [rg, not_and, Int.not_le] at hp
    have hp441 := hp
    refine lv_if_eq (tgt := 42) hx hb dX12_least_4 (by decide) (fun _ => ?_) (fun c => absurd c (by decide))
    exact J_42 s.heap locs ls   (lv_sub hl [0, 1, 2, 3, 4, 5] rfl)  hI hS
theorem dX12_sight_0 : decode cX12_sight 0 = .ok (.iload_n 1, 1) := by decide +kernel
theorem dX12_sight_1 : decode cX12_sight 1 = .ok (.invokestatic 118, 3) := by decide +kernel
theorem dX12_sight_4 : decode cX12_sight 4 = .ok (.ifCond .eq 27, 3) := by decide +kernel
theorem dX12_sight_7 : decode cX12_sight 7 = .ok (.iload_n 2, 1) := by decide +kernel
theorem dX12_sight_8 : decode cX12_sight 8 = .ok (.invokestatic 298, 3) := by decide +kernel
theorem dX12_sight_11 : decode cX12_sight 11 = .ok (.ifCond .eq 20, 3) := by decide +kernel
theorem dX12_sight_14 : decode cX12_sight 14 = .ok (.iload_n 3, 1) := by decide +kernel
theorem dX12_sight_15 : decode cX12_sight 15 = .ok (.invokestatic 129, 3) := by decide +kernel
theorem dX12_sight_18 : decode cX12_sight 18 = .ok (.ifCond .eq 13, 3) := by decide +kernel
theorem dX12_sight_21 : decode cX12_sight 21 = .ok (.iload 4, 2) := by decide +kernel
theorem dX12_sight_23 : decode cX12_sight 23 = .ok (.iconst 0, 1) := by decide +kernel
theorem dX12_sight_24 : decode cX12_sight 24 = .ok (.iconst 1, 1) := by decide +kernel
theorem dX12_sight_25 : decode cX12_sight 25 = .ok (.invokestatic 103, 3) := by decide +kernel
theorem dX12_sight_28 : decode cX12_sight 28 = .ok (.ifCond .ne 9, 3) := by decide +kernel
theorem dX12_sight_31 : decode cX12_sight 31 = .ok (.aload_n 0, 1) := by decide +kernel
theorem dX12_sight_32 : decode cX12_sight 32 = .ok (.iconst (-1), 1) := by decide +kernel
theorem dX12_sight_33 : decode cX12_sight 33 = .ok (.invokevirtual 107, 3) := by decide +kernel
theorem dX12_sight_36 : decode cX12_sight 36 = .ok (.ireturn, 1) := by decide +kernel
theorem dX12_sight_37 : decode cX12_sight 37 = .ok (.aload_n 0, 1) := by decide +kernel
theorem dX12_sight_38 : decode cX12_sight 38 = .ok (.getfield 20, 3) := by decide +kernel
theorem dX12_sight_41 : decode cX12_sight 41 = .ok (.sipush 312, 3) := by decide +kernel
theorem dX12_sight_44 : decode cX12_sight 44 = .ok (.iaload, 1) := by decide +kernel
theorem dX12_sight_45 : decode cX12_sight 45 = .ok (.bipush 10, 2) := by decide +kernel
theorem dX12_sight_47 : decode cX12_sight 47 = .ok (.if_icmp .ne 10, 3) := by decide +kernel
theorem dX12_sight_50 : decode cX12_sight 50 = .ok (.aload_n 0, 1) := by decide +kernel
theorem dX12_sight_51 : decode cX12_sight 51 = .ok (.bipush (-5), 2) := by decide +kernel
theorem dX12_sight_53 : decode cX12_sight 53 = .ok (.invokevirtual 107, 3) := by decide +kernel
theorem dX12_sight_56 : decode cX12_sight 56 = .ok (.ireturn, 1) := by decide +kernel
theorem dX12_sight_57 : decode cX12_sight 57 = .ok (.aload_n 0, 1) := by decide +kernel
theorem dX12_sight_58 : decode cX12_sight 58 = .ok (.aload_n 0, 1) := by decide +kernel
theorem dX12_sight_59 : decode cX12_sight 59 = .ok (.sipush 224, 3) := by decide +kernel
theorem dX12_sight_62 : decode cX12_sight 62 = .ok (.sipush 312, 3) := by decide +kernel
theorem dX12_sight_65 : decode cX12_sight 65 = .ok (.iconst 4, 1) := by decide +kernel
theorem dX12_sight_66 : decode cX12_sight 66 = .ok (.iload_n 1, 1) := by decide +kernel
theorem dX12_sight_67 : decode cX12_sight 67 = .ok (.iload_n 2, 1) := by decide +kernel
theorem dX12_sight_68 : decode cX12_sight 68 = .ok (.iload_n 3, 1) := by decide +kernel
theorem dX12_sight_69 : decode cX12_sight 69 = .ok (.iload 4, 2) := by decide +kernel
theorem dX12_sight_71 : decode cX12_sight 71 = .ok (.invokevirtual 125, 3) := by decide +kernel
theorem dX12_sight_74 : decode cX12_sight 74 = .ok (.invokevirtual 111, 3) := by decide +kernel
theorem dX12_sight_77 : decode cX12_sight 77 = .ok (.ireturn, 1) := by decide +kernel
set_option maxHeartbeats 4000000 in
set_option maxRecDepth 100000 in
theorem c_X12_sight (l : Launch) (E : Nat → Nat) (D : va_G) (G : th_G) (h0 : Nat) (hG0 : G h0 = some (10, 0)) (x1 : Int32) (x2 : Int32) (x3 : Int32) (x4 : Int32) : Met l yX12_sight (tb (.code yX12_sight cX12_sight 5 (some .int))) (rm 2) (va_Pc [.ref h0, .int x1, .int x2, .int x3, .int x4] (PX E D G (fun H => True))) (QXi E D G (fun r H => True)) 0 0 (th_A G) := by
  refine Met.ofW (cc := cX12_sight) (maxL := 5) (ret := (some .int)) (by decide) rfl ?_
  intro p e s m args below meth c s₁ B hml hv
  obtain ⟨hav, ⟨hI, hN, hK⟩, hX⟩ := hv
  have hx := B.exec
  have hb := B.bytes
  have hr := B.returns
  have hts := atoms_spec (ws := tb (.code yX12_sight cX12_sight 5 (some .int))) B.pre
  have hown : s.vm.findClass RX12 = some m.cls := findClass_of_methodNamed B.named
  have hlocks := B.notSynchronized
  have hS : va_S (th_A G) s.heap s.heap [] := va_S.rf
  have hl := lv_entry ([.ref h0, .int x1, .int x2, .int x3, .int x4]) (n := 5) (Nat.le_of_ble_eq_true rfl)
  rw [show entryFrame m args 5 = entryFrame m ([.ref h0, .int x1, .int x2, .int x3, .int x4] : List Value).toArray 5 from by rw [hav], lg_entry_eq]
  generalize (lg_sl ([.ref h0, .int x1, .int x2, .int x3, .int x4]) ++ List.replicate (5 - (lg_sl ([.ref h0, .int x1, .int x2, .int x3, .int x4])).length) Slot.unset).toArray = ls at hl ⊢
  have hl : lv_has ls 5 [(0, .ref h0), (1, .int x1), (2, .int x2), (3, .int x3), (4, .int x4)] := hl
  generalize hR : (headSpec (tb (.code yX12_sight cX12_sight 5 (some .int))) (rm 2)).room = R
  have hR := hR.symm
  generalize hQ : MQ below (QXi E D G (fun r H => True)) args s 0 0 (th_A G) = QF
  have hQ := hQ.symm
  have J_31 : ∀ (H : Heap) (locs : List Loc) (ls : Array Slot)  , lv_has ls 5 [(0, .ref h0), (1, .int x1), (2, .int x2), (3, .int x3), (4, .int x4)] → th_I (okM E) D G [] H → va_S (th_A G) s.heap H locs → W p l e R s m args below meth c H locs 0 0 QF (F0 m 31 ls []) := by
    intro H locs ls   hl  hI hS
    refine lv_aload_n hx hb dX12_sight_31 rfl (lv_at hl 0 rfl) ?_
    refine lv_iconst (v := (-1)) hx hb dX12_sight_32 (by decide) ?_
    refine mx_i (As := [.int (-1)]) (rest := []) (n := 1) (d := 0) ⟨hx, hb, hml, hown, hts⟩ (c_X12_refuses l E D G h0 hG0 (-1) ⟨by decide, by decide⟩) wd_1398 wd_1400 wp_40 wd_13 wd_1401 (by decide +kernel) ⟨by rw [hR]; exact Nat.le_of_ble_eq_true rfl, by rw [hR]; exact Nat.le_of_ble_eq_true rfl⟩ hI hN hK hS hG0 (trivial) rfl hl.1 rfl (Nat.le_of_ble_eq_true rfl) dX12_sight_33 ⟨Nat.zero_le _, Nat.zero_le _⟩ (fun r224 H locs hI hp hS => ?_)
    obtain rfl := hp.symm
    have hpost : True := trivial
    rw [hQ]
    exact W.iret (v := (-1)) hx hb hr (fun t ht hW => ⟨⟨(-1), (-1), rfl, rfl, ⟨by rw [ht]; exact hI, hN.warm hW, va_K.moved hW.alike hK⟩, by first | (rw [ht]; exact hpost) | exact hpost⟩, hS.F ht⟩) hS.2.2 dX12_sight_36
  refine lv_iload_n hx hb dX12_sight_0 rfl (lv_at hl 1 rfl) ?_
  refine th_cSs (As := [.int x1]) (rest := []) (n := 1) (d := 1) ⟨hx, hb, hml, hown, hts⟩ (c_X12_isCell l s.heap x1) wd_1414 wd_1415 wd_13 wd_1416 (by decide +kernel) ⟨by rw [hR]; exact Nat.le_of_ble_eq_true rfl, by rw [hR]; exact Nat.le_of_ble_eq_true rfl⟩ hN hS rfl hl.1 rfl (Nat.le_of_ble_eq_true rfl) dX12_sight_1 ⟨Nat.zero_le _, Nat.zero_le _⟩ (fun r225 locs hp hS => ?_)
  rcases hp with ⟨rfl, hp⟩ | ⟨rfl, hp⟩
  · skip
    try simp only [rg, not_and, Int.not_le] at hp
    have hp226 := hp
    refine lv_if_eq (tgt := 31) hx hb dX12_sight_4 (by decide) (fun c => absurd c (by decide)) (fun _ => ?_)
    refine lv_iload_n hx hb dX12_sight_7 rfl (lv_at hl 2 rfl) ?_
    refine th_cSs (As := [.int x2]) (rest := []) (n := 1) (d := 1) ⟨hx, hb, hml, hown, hts⟩ (c_X12_isTime l s.heap x2) wd_1655 wd_1656 wd_13 wd_1657 (by decide +kernel) ⟨by rw [hR]; exact Nat.le_of_ble_eq_true rfl, by rw [hR]; exact Nat.le_of_ble_eq_true rfl⟩ hN hS rfl hl.1 rfl (Nat.le_of_ble_eq_true rfl) dX12_sight_8 ⟨Nat.zero_le _, Nat.zero_le _⟩ (fun r227 locs hp hS => ?_)
    rcases hp with ⟨rfl, hp⟩ | ⟨rfl, hp⟩
    · skip
      try simp only [rg, not_and, Int.not_le] at hp
      have hp228 := hp
      refine lv_if_eq (tgt := 31) hx hb dX12_sight_11 (by decide) (fun c => absurd c (by decide)) (fun _ => ?_)
      refine lv_iload_n hx hb dX12_sight_14 rfl (lv_at hl 3 rfl) ?_
      refine th_cSs (As := [.int x3]) (rest := []) (n := 1) (d := 1) ⟨hx, hb, hml, hown, hts⟩ (c_X12_isColour l s.heap x3) wd_1545 wd_1546 wd_13 wd_1547 (by decide +kernel) ⟨by rw [hR]; exact Nat.le_of_ble_eq_true rfl, by rw [hR]; exact Nat.le_of_ble_eq_true rfl⟩ hN hS rfl hl.1 rfl (Nat.le_of_ble_eq_true rfl) dX12_sight_15 ⟨Nat.zero_le _, Nat.zero_le _⟩ (fun r229 locs hp hS => ?_)
      rcases hp with ⟨rfl, hp⟩ | ⟨rfl, hp⟩
      · skip
        try simp only [rg, not_and, Int.not_le] at hp
        have hp230 := hp
        refine lv_if_eq (tgt := 31) hx hb dX12_sight_18 (by decide) (fun c => absurd c (by decide)) (fun _ => ?_)
        refine lv_iload hx hb dX12_sight_21 (lv_at hl 4 rfl) ?_
        refine lv_iconst (v := 0) hx hb dX12_sight_23 (by decide) ?_
        refine lv_iconst (v := 1) hx hb dX12_sight_24 (by decide) ?_
        refine th_cSs (As := [.int x4, .int 0, .int 1]) (rest := []) (n := 3) (d := 0) ⟨hx, hb, hml, hown, hts⟩ (c_X12_lies l s.heap x4 0 1) wd_1395 wd_1396 wd_13 wd_1397 (by decide +kernel) ⟨by rw [hR]; exact Nat.le_of_ble_eq_true rfl, by rw [hR]; exact Nat.le_of_ble_eq_true rfl⟩ hN hS rfl hl.1 rfl (Nat.le_of_ble_eq_true rfl) dX12_sight_25 ⟨Nat.zero_le _, Nat.zero_le _⟩ (fun r231 locs hp hS => ?_)
        rcases hp with ⟨rfl, hp⟩ | ⟨rfl, hp⟩
        · skip
          try simp only [rg, not_and, Int.not_le] at hp
          have hp232 := hp
          try rw [show (0 : Int32).toInt = 0 from by decide] at hp232
          try rw [show (1 : Int32).toInt = 1 from by decide] at hp232
          refine lv_if_ne (tgt := 37) hx hb dX12_sight_28 (by decide) (fun _ => ?_) (fun c => absurd c (by decide))
          refine lv_aload_n hx hb dX12_sight_37 rfl (lv_at hl 0 rfl) ?_
          refine gmA hx hb hts inT12 hown hK hI List.not_mem_nil hG0 3 (by decide) (hts _ (tb_c wd_1236)) rfl rfl dX12_sight_38 (fun a233 hq234 hf235 => ?_)
          refine lv_sipush (v := 312) hx hb dX12_sight_41 (by decide) ?_
          obtain ⟨F236, hA237, hP238⟩ := om_1 hI hq234 List.not_mem_nil
          refine th_iald hx hb hK hA237 0 rfl (iv_in (X := (312)) (by decide) (by omega) (by omega)) dX12_sight_44 (fun v239 e240 => ?_)
          have k241 := kg_m312 (kOk.get (i := 312) hP238 e240 (X := (312)) (by decide) (by omega) (by omega)) (by omega) (by omega) (by omega)
          refine lv_bipush (v := 10) hx hb dX12_sight_45 (by decide) ?_
          refine lv_icmp_ne (tgt := 57) hx hb dX12_sight_47 (by decide) (fun c242 => ?_) (fun c242 => ?_)
          · skip
            have k243 := iv_ne (X := v239.toInt) (Y := (10)) rfl (by decide) c242
            refine lv_aload_n hx hb dX12_sight_57 rfl (lv_at hl 0 rfl) ?_
            refine lv_aload_n hx hb dX12_sight_58 rfl (lv_at hl 0 rfl) ?_
            refine lv_sipush (v := 224) hx hb dX12_sight_59 (by decide) ?_
            refine lv_sipush (v := 312) hx hb dX12_sight_62 (by decide) ?_
            refine lv_iconst (v := 4) hx hb dX12_sight_65 (by decide) ?_
            refine lv_iload_n hx hb dX12_sight_66 rfl (lv_at hl 1 rfl) ?_
            refine lv_iload_n hx hb dX12_sight_67 rfl (lv_at hl 2 rfl) ?_
            refine lv_iload_n hx hb dX12_sight_68 rfl (lv_at hl 3 rfl) ?_
            refine lv_iload hx hb dX12_sight_69 (lv_at hl 4 rfl) ?_
            refine mx_i (As := [.int 224, .int 312, .int 4, .int x1, .int x2, .int x3, .int x4]) (rest := [.ref h0]) (n := 7) (d := 0) ⟨hx, hb, hml, hown, hts⟩ (c_X12_comesBehind_312 l E D G h0 hG0 x1 x2 x3 x4 ⟨by omega, by omega⟩ F236 hP238 (lt_of_rd e240 rfl (by omega))) wd_1435 wd_1437 wp_42 wd_13 wd_1438 (by decide +kernel) ⟨by rw [hR]; exact Nat.le_of_ble_eq_true rfl, by rw [hR]; exact Nat.le_of_ble_eq_true rfl⟩ hI hN hK hS hG0 (⟨a233, hf235, hq234, hA237⟩) rfl hl.1 rfl (Nat.le_of_ble_eq_true rfl) dX12_sight_71 ⟨Nat.zero_le _, Nat.zero_le _⟩ (fun r244 H locs hI hp hS => ?_)
            refine mx_i (As := [.int r244]) (rest := []) (n := 1) (d := 0) ⟨hx, hb, hml, hown, hts⟩ (c_X12_good l E D G h0 hG0 r244) wd_1402 wd_1404 wp_41 wd_13 wd_1405 (by decide +kernel) ⟨by rw [hR]; exact Nat.le_of_ble_eq_true rfl, by rw [hR]; exact Nat.le_of_ble_eq_true rfl⟩ hI hN hK hS hG0 (trivial) rfl hl.1 rfl (Nat.le_of_ble_eq_true rfl) dX12_sight_74 ⟨Nat.zero_le _, Nat.zero_le _⟩ (fun r245 H locs hI hp hS => ?_)
            obtain rfl := hp.symm
            have hpost : True := trivial
            rw [hQ]
            exact W.iret (v := r244) hx hb hr (fun t ht hW => ⟨⟨r244, r244, rfl, rfl, ⟨by rw [ht]; exact hI, hN.warm hW, va_K.moved hW.alike hK⟩, by first | (rw [ht]; exact hpost) | exact hpost⟩, hS.F ht⟩) hS.2.2 dX12_sight_77
          · skip
            have k246 := iv_eq (X := v239.toInt) (Y := (10)) rfl (by decide) c242
            refine lv_aload_n hx hb dX12_sight_50 rfl (lv_at hl 0 rfl) ?_
            refine lv_bipush (v := (-5)) hx hb dX12_sight_51 (by decide) ?_
            refine mx_i (As := [.int (-5)]) (rest := []) (n := 1) (d := 0) ⟨hx, hb, hml, hown, hts⟩ (c_X12_refuses l E D G h0 hG0 (-5) ⟨by decide, by decide⟩) wd_1398 wd_1400 wp_40 wd_13 wd_1401 (by decide +kernel) ⟨by rw [hR]; exact Nat.le_of_ble_eq_true rfl, by rw [hR]; exact Nat.le_of_ble_eq_true rfl⟩ hI hN hK hS hG0 (trivial) rfl hl.1 rfl (Nat.le_of_ble_eq_true rfl) dX12_sight_53 ⟨Nat.zero_le _, Nat.zero_le _⟩ (fun r247 H locs hI hp hS => ?_)
            obtain rfl := hp.symm
            have hpost : True := trivial
            rw [hQ]
            exact W.iret (v := (-5)) hx hb hr (fun t ht hW => ⟨⟨(-5), (-5), rfl, rfl, ⟨by rw [ht]; exact hI, hN.warm hW, va_K.moved hW.alike hK⟩, by first | (rw [ht]; exact hpost) | exact hpost⟩, hS.F ht⟩) hS.2.2 dX12_sight_56
        · skip
          try simp only [rg, not_and, Int.not_le] at hp
          have hp248 := hp
          try rw [show (0 : Int32).toInt = 0 from by decide] at hp248
          try rw [show (1 : Int32).toInt = 1 from by decide] at hp248
          refine lv_if_ne (tgt := 37) hx hb dX12_sight_28 (by decide) (fun c => absurd c (by decide)) (fun _ => ?_)
          exact J_31 s.heap locs ls   (lv_sub hl [0, 1, 2, 3, 4] rfl)  hI hS
      · skip
        try simp only [rg, not_and, Int.not_le] at hp
        have hp249 := hp
        refine lv_if_eq (tgt := 31) hx hb dX12_sight_18 (by decide) (fun _ => ?_) (fun c => absurd c (by decide))
        exact J_31 s.heap locs ls   (lv_sub hl [0, 1, 2, 3, 4] rfl)  hI hS
    · skip
      try simp only [rg, not_and, Int.not_le] at hp
      have hp250 := hp
      refine lv_if_eq (tgt := 31) hx hb dX12_sight_11 (by decide) (fun _ => ?_) (fun c => absurd c (by decide))
      exact J_31 s.heap locs ls   (lv_sub hl [0, 1, 2, 3, 4] rfl)  hI hS
  · skip
    try simp only [rg, not_and, Int.not_le] at hp
    have hp251 := hp
    refine lv_if_eq (tgt := 31) hx hb dX12_sight_4 (by decide) (fun _ => ?_) (fun c => absurd c (by decide))
    exact J_31 s.heap locs ls   (lv_sub hl [0, 1, 2, 3, 4] rfl)  hI hS
theorem dX12_forget_0 : decode cX12_forget 0 = .ok (.aload_n 0, 1) := by decide +kernel
theorem dX12_forget_1 : decode cX12_forget 1 = .ok (.sipush 312, 3) := by decide +kernel
theorem dX12_forget_4 : decode cX12_forget 4 = .ok (.invokevirtual 345, 3) := by decide +kernel
theorem dX12_forget_7 : decode cX12_forget 7 = .ok (.ireturn, 1) := by decide +kernel
set_option maxHeartbeats 4000000 in
set_option maxRecDepth 100000 in
theorem c_X12_forget (l : Launch) (E : Nat → Nat) (D : va_G) (G : th_G) (h0 : Nat) (hG0 : G h0 = some (10, 0)) : Met l yX12_forget (tb (.code yX12_forget cX12_forget 1 (some .int))) (rm 1) (va_Pc [.ref h0] (PX E D G (fun H => True))) (QXi E D G (fun r H => True)) 0 0 (th_A G) := by
  refine Met.ofW (cc := cX12_forget) (maxL := 1) (ret := (some .int)) (by decide) rfl ?_
  intro p e s m args below meth c s₁ B hml hv
  obtain ⟨hav, ⟨hI, hN, hK⟩, hX⟩ := hv
  have hx := B.exec
  have hb := B.bytes
  have hr := B.returns
  have hts := atoms_spec (ws := tb (.code yX12_forget cX12_forget 1 (some .int))) B.pre
  have hown : s.vm.findClass RX12 = some m.cls := findClass_of_methodNamed B.named
  have hlocks := B.notSynchronized
  have hS : va_S (th_A G) s.heap s.heap [] := va_S.rf
  have hl := lv_entry ([.ref h0]) (n := 1) (Nat.le_of_ble_eq_true rfl)
  rw [show entryFrame m args 1 = entryFrame m ([.ref h0] : List Value).toArray 1 from by rw [hav], lg_entry_eq]
  generalize (lg_sl ([.ref h0]) ++ List.replicate (1 - (lg_sl ([.ref h0])).length) Slot.unset).toArray = ls at hl ⊢
  have hl : lv_has ls 1 [(0, .ref h0)] := hl
  generalize hR : (headSpec (tb (.code yX12_forget cX12_forget 1 (some .int))) (rm 1)).room = R
  have hR := hR.symm
  generalize hQ : MQ below (QXi E D G (fun r H => True)) args s 0 0 (th_A G) = QF
  have hQ := hQ.symm
  refine lv_aload_n hx hb dX12_forget_0 rfl (lv_at hl 0 rfl) ?_
  refine lv_sipush (v := 312) hx hb dX12_forget_1 (by decide) ?_
  refine mx_i (As := [.int 312]) (rest := []) (n := 1) (d := 0) ⟨hx, hb, hml, hown, hts⟩ (c_X12_goAll_312 l E D G h0 hG0 ) wd_1749 wd_1751 wp_85 wd_13 wd_1752 (by decide +kernel) ⟨by rw [hR]; exact Nat.le_of_ble_eq_true rfl, by rw [hR]; exact Nat.le_of_ble_eq_true rfl⟩ hI hN hK hS hG0 (trivial) rfl hl.1 rfl (Nat.le_of_ble_eq_true rfl) dX12_forget_4 ⟨Nat.zero_le _, Nat.zero_le _⟩ (fun r1 H locs hI hp hS => ?_)
  have hpost : True := trivial
  rw [hQ]
  exact W.iret (v := r1) hx hb hr (fun t ht hW => ⟨⟨r1, r1, rfl, rfl, ⟨by rw [ht]; exact hI, hN.warm hW, va_K.moved hW.alike hK⟩, by first | (rw [ht]; exact hpost) | exact hpost⟩, hS.F ht⟩) hS.2.2 dX12_forget_7
theorem dX12_so_0 : decode cX12_so 0 = .ok (.iload_n 1, 1) := by decide +kernel
theorem dX12_so_1 : decode cX12_so 1 = .ok (.iconst 0, 1) := by decide +kernel
theorem dX12_so_2 : decode cX12_so 2 = .ok (.aload_n 0, 1) := by decide +kernel
theorem dX12_so_3 : decode cX12_so 3 = .ok (.getfield 20, 3) := by decide +kernel
theorem dX12_so_6 : decode cX12_so 6 = .ok (.sipush 312, 3) := by decide +kernel
theorem dX12_so_9 : decode cX12_so 9 = .ok (.iaload, 1) := by decide +kernel
theorem dX12_so_10 : decode cX12_so 10 = .ok (.iconst 1, 1) := by decide +kernel
theorem dX12_so_11 : decode cX12_so 11 = .ok (.isub, 1) := by decide +kernel
theorem dX12_so_12 : decode cX12_so 12 = .ok (.invokestatic 103, 3) := by decide +kernel
theorem dX12_so_15 : decode cX12_so 15 = .ok (.ifCond .ne 5, 3) := by decide +kernel
theorem dX12_so_18 : decode cX12_so 18 = .ok (.iconst (-1), 1) := by decide +kernel
theorem dX12_so_19 : decode cX12_so 19 = .ok (.ireturn, 1) := by decide +kernel
theorem dX12_so_20 : decode cX12_so 20 = .ok (.aload_n 0, 1) := by decide +kernel
theorem dX12_so_21 : decode cX12_so 21 = .ok (.invokevirtual 138, 3) := by decide +kernel
theorem dX12_so_24 : decode cX12_so 24 = .ok (.sipush 224, 3) := by decide +kernel
theorem dX12_so_27 : decode cX12_so 27 = .ok (.iconst 4, 1) := by decide +kernel
theorem dX12_so_28 : decode cX12_so 28 = .ok (.iload_n 1, 1) := by decide +kernel
theorem dX12_so_29 : decode cX12_so 29 = .ok (.imul, 1) := by decide +kernel
theorem dX12_so_30 : decode cX12_so 30 = .ok (.iadd, 1) := by decide +kernel
theorem dX12_so_31 : decode cX12_so 31 = .ok (.istore_n 2, 1) := by decide +kernel
theorem dX12_so_32 : decode cX12_so 32 = .ok (.aload_n 0, 1) := by decide +kernel
theorem dX12_so_33 : decode cX12_so 33 = .ok (.aload_n 0, 1) := by decide +kernel
theorem dX12_so_34 : decode cX12_so 34 = .ok (.getfield 20, 3) := by decide +kernel
theorem dX12_so_37 : decode cX12_so 37 = .ok (.iload_n 2, 1) := by decide +kernel
theorem dX12_so_38 : decode cX12_so 38 = .ok (.iaload, 1) := by decide +kernel
theorem dX12_so_39 : decode cX12_so 39 = .ok (.aload_n 0, 1) := by decide +kernel
theorem dX12_so_40 : decode cX12_so 40 = .ok (.getfield 20, 3) := by decide +kernel
theorem dX12_so_43 : decode cX12_so 43 = .ok (.iload_n 2, 1) := by decide +kernel
theorem dX12_so_44 : decode cX12_so 44 = .ok (.iconst 1, 1) := by decide +kernel
theorem dX12_so_45 : decode cX12_so 45 = .ok (.iadd, 1) := by decide +kernel
theorem dX12_so_46 : decode cX12_so 46 = .ok (.iaload, 1) := by decide +kernel
theorem dX12_so_47 : decode cX12_so 47 = .ok (.aload_n 0, 1) := by decide +kernel
theorem dX12_so_48 : decode cX12_so 48 = .ok (.getfield 20, 3) := by decide +kernel
theorem dX12_so_51 : decode cX12_so 51 = .ok (.iload_n 2, 1) := by decide +kernel
theorem dX12_so_52 : decode cX12_so 52 = .ok (.iconst 2, 1) := by decide +kernel
theorem dX12_so_53 : decode cX12_so 53 = .ok (.iadd, 1) := by decide +kernel
theorem dX12_so_54 : decode cX12_so 54 = .ok (.iaload, 1) := by decide +kernel
theorem dX12_so_55 : decode cX12_so 55 = .ok (.invokevirtual 322, 3) := by decide +kernel
theorem dX12_so_58 : decode cX12_so 58 = .ok (.ifCond .le 7, 3) := by decide +kernel
theorem dX12_so_61 : decode cX12_so 61 = .ok (.iconst 1, 1) := by decide +kernel
theorem dX12_so_62 : decode cX12_so 62 = .ok (.goto 4, 3) := by decide +kernel
theorem dX12_so_65 : decode cX12_so 65 = .ok (.iconst 0, 1) := by decide +kernel
theorem dX12_so_66 : decode cX12_so 66 = .ok (.aload_n 0, 1) := by decide +kernel
theorem dX12_so_67 : decode cX12_so 67 = .ok (.getfield 20, 3) := by decide +kernel
theorem dX12_so_70 : decode cX12_so 70 = .ok (.iload_n 2, 1) := by decide +kernel
theorem dX12_so_71 : decode cX12_so 71 = .ok (.iconst 3, 1) := by decide +kernel
theorem dX12_so_72 : decode cX12_so 72 = .ok (.iadd, 1) := by decide +kernel
theorem dX12_so_73 : decode cX12_so 73 = .ok (.iaload, 1) := by decide +kernel
theorem dX12_so_74 : decode cX12_so 74 = .ok (.iconst 1, 1) := by decide +kernel
theorem dX12_so_75 : decode cX12_so 75 = .ok (.if_icmp .ne 7, 3) := by decide +kernel
theorem dX12_so_78 : decode cX12_so 78 = .ok (.iconst 1, 1) := by decide +kernel
theorem dX12_so_79 : decode cX12_so 79 = .ok (.goto 4, 3) := by decide +kernel
theorem dX12_so_82 : decode cX12_so 82 = .ok (.iconst 0, 1) := by decide +kernel
theorem dX12_so_83 : decode cX12_so 83 = .ok (.if_icmp .ne 7, 3) := by decide +kernel
theorem dX12_so_86 : decode cX12_so 86 = .ok (.iconst 1, 1) := by decide +kernel
theorem dX12_so_87 : decode cX12_so 87 = .ok (.goto 4, 3) := by decide +kernel
theorem dX12_so_90 : decode cX12_so 90 = .ok (.iconst 0, 1) := by decide +kernel
theorem dX12_so_91 : decode cX12_so 91 = .ok (.ireturn, 1) := by decide +kernel
set_option maxHeartbeats 4000000 in
set_option maxRecDepth 100000 in
theorem c_X12_so (l : Launch) (E : Nat → Nat) (D : va_G) (G : th_G) (h0 : Nat) (hG0 : G h0 = some (10, 0)) (x1 : Int32) : Met l yX12_so (tb (.code yX12_so cX12_so 3 (some .int))) (rm 69) (va_Pc [.ref h0, .int x1] (PX E D G (fun H => True))) (QXi E D G (fun r H => True)) 0 0 (th_A G) := by
  refine Met.ofW (cc := cX12_so) (maxL := 3) (ret := (some .int)) (by decide) rfl ?_
  intro p e s m args below meth c s₁ B hml hv
  obtain ⟨hav, ⟨hI, hN, hK⟩, hX⟩ := hv
  have hx := B.exec
  have hb := B.bytes
  have hr := B.returns
  have hts := atoms_spec (ws := tb (.code yX12_so cX12_so 3 (some .int))) B.pre
  have hown : s.vm.findClass RX12 = some m.cls := findClass_of_methodNamed B.named
  have hlocks := B.notSynchronized
  have hS : va_S (th_A G) s.heap s.heap [] := va_S.rf
  have hl := lv_entry ([.ref h0, .int x1]) (n := 3) (Nat.le_of_ble_eq_true rfl)
  rw [show entryFrame m args 3 = entryFrame m ([.ref h0, .int x1] : List Value).toArray 3 from by rw [hav], lg_entry_eq]
  generalize (lg_sl ([.ref h0, .int x1]) ++ List.replicate (3 - (lg_sl ([.ref h0, .int x1])).length) Slot.unset).toArray = ls at hl ⊢
  have hl : lv_has ls 3 [(0, .ref h0), (1, .int x1)] := hl
  generalize hR : (headSpec (tb (.code yX12_so cX12_so 3 (some .int))) (rm 69)).room = R
  have hR := hR.symm
  generalize hQ : MQ below (QXi E D G (fun r H => True)) args s 0 0 (th_A G) = QF
  have hQ := hQ.symm
  have J_66 : ∀ (H : Heap) (locs : List Loc) (ls : Array Slot) (v546 : Int32) (v547 : Int32) , lv_has ls 3 [(2, .int v546), (0, .ref h0), (1, .int x1)] → ((224 : Int) ≤ v546.toInt ∧ v546.toInt ≤ 260) → ((0 : Int) ≤ x1.toInt ∧ x1.toInt ≤ 9) → ((0 : Int) ≤ v547.toInt ∧ v547.toInt ≤ 1) → th_I (okM E) D G [] H → va_S (th_A G) s.heap H locs → W p l e R s m args below meth c H locs 0 0 QF (F0 m 66 ls [.int v547]) := by
    intro H locs ls v546 v547  hl k548 k549 k550 hI hS
    refine lv_aload_n hx hb dX12_so_66 rfl (lv_at hl 1 rfl) ?_
    refine gmA hx hb hts inT12 hown hK hI List.not_mem_nil hG0 3 (by decide) (hts _ (tb_c wd_1236)) rfl rfl dX12_so_67 (fun a551 hq552 hf553 => ?_)
    refine lv_iload_n hx hb dX12_so_70 rfl (lv_at hl 0 rfl) ?_
    refine lv_iconst (v := 3) hx hb dX12_so_71 (by decide) ?_
    refine lv_iadd hx hb dX12_so_72 ?_
    refine lv_topi (fun v554 e555 => ?_)
    have tv554 : v554.toInt = v546.toInt + (3) := iv_add rfl (by decide) e555 (by omega) (by omega)
    obtain ⟨F556, hA557, hP558⟩ := om_1 hI hq552 List.not_mem_nil
    refine th_iald hx hb hK hA557 0 rfl (iv_in (X := v554.toInt) rfl (by omega) (by omega)) dX12_so_73 (fun v559 e560 => ?_)
    refine lv_iconst (v := 1) hx hb dX12_so_74 (by decide) ?_
    have k561 := iv_lo v559
    have k562 := iv_hi v559
    refine lv_icmp_ne (tgt := 82) hx hb dX12_so_75 (by decide) (fun c563 => ?_) (fun c563 => ?_)
    · skip
      have k564 := iv_ne (X := v559.toInt) (Y := (1)) rfl (by decide) c563
      refine lv_iconst (v := 0) hx hb dX12_so_82 (by decide) ?_
      refine lv_icmp_ne (tgt := 90) hx hb dX12_so_83 (by decide) (fun c565 => ?_) (fun c565 => ?_)
      · skip
        have k566 := iv_ne (X := v547.toInt) (Y := (0)) rfl (by decide) c565
        refine lv_iconst (v := 0) hx hb dX12_so_90 (by decide) ?_
        have hpost : True := trivial
        rw [hQ]
        exact W.iret (v := 0) hx hb hr (fun t ht hW => ⟨⟨0, 0, rfl, rfl, ⟨by rw [ht]; exact hI, hN.warm hW, va_K.moved hW.alike hK⟩, by first | (rw [ht]; exact hpost) | exact hpost⟩, hS.F ht⟩) hS.2.2 dX12_so_91
      · skip
        have k567 := iv_eq (X := v547.toInt) (Y := (0)) rfl (by decide) c565
        refine lv_iconst (v := 1) hx hb dX12_so_86 (by decide) ?_
        refine lv_goto (tgt := 91) hx hb dX12_so_87 (by decide) ?_
        have hpost : True := trivial
        rw [hQ]
        exact W.iret (v := 1) hx hb hr (fun t ht hW => ⟨⟨1, 1, rfl, rfl, ⟨by rw [ht]; exact hI, hN.warm hW, va_K.moved hW.alike hK⟩, by first | (rw [ht]; exact hpost) | exact hpost⟩, hS.F ht⟩) hS.2.2 dX12_so_91
    · skip
      have k568 := iv_eq (X := v559.toInt) (Y := (1)) rfl (by decide) c563
      refine lv_iconst (v := 1) hx hb dX12_so_78 (by decide) ?_
      refine lv_goto (tgt := 83) hx hb dX12_so_79 (by decide) ?_
      refine lv_icmp_ne (tgt := 90) hx hb dX12_so_83 (by decide) (fun c569 => ?_) (fun c569 => ?_)
      · skip
        have k570 := iv_ne (X := v547.toInt) (Y := (1)) rfl (by decide) c569
        refine lv_iconst (v := 0) hx hb dX12_so_90 (by decide) ?_
        have hpost : True := trivial
        rw [hQ]
        exact W.iret (v := 0) hx hb hr (fun t ht hW => ⟨⟨0, 0, rfl, rfl, ⟨by rw [ht]; exact hI, hN.warm hW, va_K.moved hW.alike hK⟩, by first | (rw [ht]; exact hpost) | exact hpost⟩, hS.F ht⟩) hS.2.2 dX12_so_91
      · skip
        have k571 := iv_eq (X := v547.toInt) (Y := (1)) rfl (by decide) c569
        refine lv_iconst (v := 1) hx hb dX12_so_86 (by decide) ?_
        refine lv_goto (tgt := 91) hx hb dX12_so_87 (by decide) ?_
        have hpost : True := trivial
        rw [hQ]
        exact W.iret (v := 1) hx hb hr (fun t ht hW => ⟨⟨1, 1, rfl, rfl, ⟨by rw [ht]; exact hI, hN.warm hW, va_K.moved hW.alike hK⟩, by first | (rw [ht]; exact hpost) | exact hpost⟩, hS.F ht⟩) hS.2.2 dX12_so_91
  refine lv_iload_n hx hb dX12_so_0 rfl (lv_at hl 1 rfl) ?_
  refine lv_iconst (v := 0) hx hb dX12_so_1 (by decide) ?_
  refine lv_aload_n hx hb dX12_so_2 rfl (lv_at hl 0 rfl) ?_
  refine gmA hx hb hts inT12 hown hK hI List.not_mem_nil hG0 3 (by decide) (hts _ (tb_c wd_1236)) rfl rfl dX12_so_3 (fun a572 hq573 hf574 => ?_)
  refine lv_sipush (v := 312) hx hb dX12_so_6 (by decide) ?_
  obtain ⟨F575, hA576, hP577⟩ := om_1 hI hq573 List.not_mem_nil
  refine th_iald hx hb hK hA576 0 rfl (iv_in (X := (312)) (by decide) (by omega) (by omega)) dX12_so_9 (fun v578 e579 => ?_)
  have k580 := kg_m312 (kOk.get (i := 312) hP577 e579 (X := (312)) (by decide) (by omega) (by omega)) (by omega) (by omega) (by omega)
  refine lv_iconst (v := 1) hx hb dX12_so_10 (by decide) ?_
  refine lv_isub hx hb dX12_so_11 ?_
  refine lv_topi (fun v581 e582 => ?_)
  have tv581 : v581.toInt = v578.toInt - (1) := iv_sub rfl (by decide) e582 (by omega) (by omega)
  refine th_cSs (As := [.int x1, .int 0, .int v581]) (rest := []) (n := 3) (d := 0) ⟨hx, hb, hml, hown, hts⟩ (c_X12_lies l s.heap x1 0 v581) wd_1395 wd_1396 wd_13 wd_1397 (by decide +kernel) ⟨by rw [hR]; exact Nat.le_of_ble_eq_true rfl, by rw [hR]; exact Nat.le_of_ble_eq_true rfl⟩ hN hS rfl hl.1 rfl (Nat.le_of_ble_eq_true rfl) dX12_so_12 ⟨Nat.zero_le _, Nat.zero_le _⟩ (fun r583 locs hp hS => ?_)
  rcases hp with ⟨rfl, hp⟩ | ⟨rfl, hp⟩
  · skip
    try simp only [rg, not_and, Int.not_le] at hp
    have hp584 := hp
    try rw [show (0 : Int32).toInt = 0 from by decide] at hp584
    refine lv_if_ne (tgt := 20) hx hb dX12_so_15 (by decide) (fun _ => ?_) (fun c => absurd c (by decide))
    refine lv_aload_n hx hb dX12_so_20 rfl (lv_at hl 0 rfl) ?_
    refine mx_v (As := []) (rest := []) (n := 0) (d := 68) ⟨hx, hb, hml, hown, hts⟩ (c_X12_looks l E D G h0 hG0 ) wd_1455 wd_1457 wp_43 wd_13 wd_1458 (by decide +kernel) ⟨by rw [hR]; exact Nat.le_of_ble_eq_true rfl, by rw [hR]; exact Nat.le_of_ble_eq_true rfl⟩ hI hN hK hS hG0 (trivial) rfl hl.1 rfl (Nat.le_of_ble_eq_true rfl) dX12_so_21 ⟨Nat.zero_le _, Nat.zero_le _⟩ (fun H locs hI hp hS => ?_)
    refine lv_sipush (v := 224) hx hb dX12_so_24 (by decide) ?_
    refine lv_iconst (v := 4) hx hb dX12_so_27 (by decide) ?_
    refine lv_iload_n hx hb dX12_so_28 rfl (lv_at hl 1 rfl) ?_
    refine lv_imul hx hb dX12_so_29 ?_
    refine lv_topi (fun v586 e587 => ?_)
    have tv586 : v586.toInt = (4) * x1.toInt := iv_mul (by decide) rfl e587 (by omega) (by omega)
    refine lv_iadd hx hb dX12_so_30 ?_
    refine lv_topi (fun v588 e589 => ?_)
    have tv588 : v588.toInt = (224) + v586.toInt := iv_add (by decide) rfl e589 (by omega) (by omega)
    refine lv_istore_n (lv' := [(2, .int v588), (0, .ref h0), (1, .int x1)]) hx hb dX12_so_31 rfl hl (by decide) rfl (fun ls hl => ?_)
    refine lv_aload_n hx hb dX12_so_32 rfl (lv_at hl 1 rfl) ?_
    refine lv_aload_n hx hb dX12_so_33 rfl (lv_at hl 1 rfl) ?_
    refine gmA hx hb hts inT12 hown hK hI List.not_mem_nil hG0 3 (by decide) (hts _ (tb_c wd_1236)) rfl rfl dX12_so_34 (fun a590 hq591 hf592 => ?_)
    refine lv_iload_n hx hb dX12_so_37 rfl (lv_at hl 0 rfl) ?_
    obtain ⟨F593, hA594, hP595⟩ := om_1 hI hq591 List.not_mem_nil
    refine th_iald hx hb hK hA594 0 rfl (iv_in (X := v588.toInt) rfl (by omega) (by omega)) dX12_so_38 (fun v596 e597 => ?_)
    refine lv_aload_n hx hb dX12_so_39 rfl (lv_at hl 1 rfl) ?_
    refine gmA hx hb hts inT12 hown hK hI List.not_mem_nil hG0 3 (by decide) (hts _ (tb_c wd_1236)) rfl rfl dX12_so_40 (fun a598 hq599 hf600 => ?_)
    obtain rfl := fr.uniq (by decide) hf592 hf600
    refine lv_iload_n hx hb dX12_so_43 rfl (lv_at hl 0 rfl) ?_
    refine lv_iconst (v := 1) hx hb dX12_so_44 (by decide) ?_
    refine lv_iadd hx hb dX12_so_45 ?_
    refine lv_topi (fun v601 e602 => ?_)
    have tv601 : v601.toInt = v588.toInt + (1) := iv_add rfl (by decide) e602 (by omega) (by omega)
    refine th_iald hx hb hK hA594 0 rfl (iv_in (X := v601.toInt) rfl (by omega) (by omega)) dX12_so_46 (fun v603 e604 => ?_)
    have k605 := kg_sight1 (kOk.get (i := v601) hP595 e604 (X := v601.toInt) rfl (by omega) (by omega)) (by omega) (by omega) (by omega)
    refine lv_aload_n hx hb dX12_so_47 rfl (lv_at hl 1 rfl) ?_
    refine gmA hx hb hts inT12 hown hK hI List.not_mem_nil hG0 3 (by decide) (hts _ (tb_c wd_1236)) rfl rfl dX12_so_48 (fun a606 hq607 hf608 => ?_)
    obtain rfl := fr.uniq (by decide) hf592 hf608
    refine lv_iload_n hx hb dX12_so_51 rfl (lv_at hl 0 rfl) ?_
    refine lv_iconst (v := 2) hx hb dX12_so_52 (by decide) ?_
    refine lv_iadd hx hb dX12_so_53 ?_
    refine lv_topi (fun v609 e610 => ?_)
    have tv609 : v609.toInt = v588.toInt + (2) := iv_add rfl (by decide) e610 (by omega) (by omega)
    refine th_iald hx hb hK hA594 0 rfl (iv_in (X := v609.toInt) rfl (by omega) (by omega)) dX12_so_54 (fun v611 e612 => ?_)
    refine mr_i (As := [.int v596, .int v603, .int v611]) (rest := []) (n := 3) (d := 1) ⟨hx, hb, hml, hown, hts⟩ (c_X12_dyeOf l E D G H h0 hG0 v596 v603 v611 (by omega)) wd_1717 wd_1719 wp_82 wd_13 wd_1720 (by decide +kernel) ⟨by rw [hR]; exact Nat.le_of_ble_eq_true rfl, by rw [hR]; exact Nat.le_of_ble_eq_true rfl⟩ hI hN hK hS hG0 rfl hl.1 rfl (Nat.le_of_ble_eq_true rfl) dX12_so_55 ⟨Nat.zero_le _, Nat.zero_le _⟩ (fun r613 locs hp hS => ?_)
    have k614 := iv_lo r613
    have k615 := iv_hi r613
    refine lv_if_le (tgt := 65) hx hb dX12_so_58 (by decide) (fun c616 => ?_) (fun c616 => ?_)
    · skip
      have k617 := iv_le (X := r613.toInt) (Y := (0)) rfl (by decide) c616
      refine lv_iconst (v := 0) hx hb dX12_so_65 (by decide) ?_
      exact J_66 H locs ls v588 0  (lv_sub hl [0, 1, 2] rfl) ⟨by omega, by omega⟩ ⟨by omega, by omega⟩ ⟨by decide, by decide⟩ hI hS
    · skip
      have k618 := iv_nle (X := r613.toInt) (Y := (0)) rfl (by decide) c616
      refine lv_iconst (v := 1) hx hb dX12_so_61 (by decide) ?_
      refine lv_goto (tgt := 66) hx hb dX12_so_62 (by decide) ?_
      exact J_66 H locs ls v588 1  (lv_sub hl [0, 1, 2] rfl) ⟨by omega, by omega⟩ ⟨by omega, by omega⟩ ⟨by decide, by decide⟩ hI hS
  · skip
    try simp only [rg, not_and, Int.not_le] at hp
    have hp619 := hp
    try rw [show (0 : Int32).toInt = 0 from by decide] at hp619
    refine lv_if_ne (tgt := 20) hx hb dX12_so_15 (by decide) (fun c => absurd c (by decide)) (fun _ => ?_)
    refine lv_iconst (v := (-1)) hx hb dX12_so_18 (by decide) ?_
    have hpost : True := trivial
    rw [hQ]
    exact W.iret (v := (-1)) hx hb hr (fun t ht hW => ⟨⟨(-1), (-1), rfl, rfl, ⟨by rw [ht]; exact hI, hN.warm hW, va_K.moved hW.alike hK⟩, by first | (rw [ht]; exact hpost) | exact hpost⟩, hS.F ht⟩) hS.2.2 dX12_so_19
theorem dX12_seenBy_0 : decode cX12_seenBy 0 = .ok (.iconst 0, 1) := by decide +kernel
theorem dX12_seenBy_1 : decode cX12_seenBy 1 = .ok (.istore 4, 2) := by decide +kernel
theorem dX12_seenBy_3 : decode cX12_seenBy 3 = .ok (.iload_n 1, 1) := by decide +kernel
theorem dX12_seenBy_4 : decode cX12_seenBy 4 = .ok (.istore 5, 2) := by decide +kernel
theorem dX12_seenBy_6 : decode cX12_seenBy 6 = .ok (.iload_n 2, 1) := by decide +kernel
theorem dX12_seenBy_7 : decode cX12_seenBy 7 = .ok (.istore 6, 2) := by decide +kernel
theorem dX12_seenBy_9 : decode cX12_seenBy 9 = .ok (.iload 6, 2) := by decide +kernel
theorem dX12_seenBy_11 : decode cX12_seenBy 11 = .ok (.bipush 96, 2) := by decide +kernel
theorem dX12_seenBy_13 : decode cX12_seenBy 13 = .ok (.if_icmp .gt 119, 3) := by decide +kernel
theorem dX12_seenBy_16 : decode cX12_seenBy 16 = .ok (.iconst 0, 1) := by decide +kernel
theorem dX12_seenBy_17 : decode cX12_seenBy 17 = .ok (.istore 7, 2) := by decide +kernel
theorem dX12_seenBy_19 : decode cX12_seenBy 19 = .ok (.iload 7, 2) := by decide +kernel
theorem dX12_seenBy_21 : decode cX12_seenBy 21 = .ok (.aload_n 0, 1) := by decide +kernel
theorem dX12_seenBy_22 : decode cX12_seenBy 22 = .ok (.getfield 20, 3) := by decide +kernel
theorem dX12_seenBy_25 : decode cX12_seenBy 25 = .ok (.sipush 312, 3) := by decide +kernel
theorem dX12_seenBy_28 : decode cX12_seenBy 28 = .ok (.iaload, 1) := by decide +kernel
theorem dX12_seenBy_29 : decode cX12_seenBy 29 = .ok (.if_icmp .ge 75, 3) := by decide +kernel
theorem dX12_seenBy_32 : decode cX12_seenBy 32 = .ok (.aload_n 0, 1) := by decide +kernel
theorem dX12_seenBy_33 : decode cX12_seenBy 33 = .ok (.getfield 20, 3) := by decide +kernel
theorem dX12_seenBy_36 : decode cX12_seenBy 36 = .ok (.sipush 224, 3) := by decide +kernel
theorem dX12_seenBy_39 : decode cX12_seenBy 39 = .ok (.iconst 4, 1) := by decide +kernel
theorem dX12_seenBy_40 : decode cX12_seenBy 40 = .ok (.iload 7, 2) := by decide +kernel
theorem dX12_seenBy_42 : decode cX12_seenBy 42 = .ok (.imul, 1) := by decide +kernel
theorem dX12_seenBy_43 : decode cX12_seenBy 43 = .ok (.iadd, 1) := by decide +kernel
theorem dX12_seenBy_44 : decode cX12_seenBy 44 = .ok (.iaload, 1) := by decide +kernel
theorem dX12_seenBy_45 : decode cX12_seenBy 45 = .ok (.iload 5, 2) := by decide +kernel
theorem dX12_seenBy_47 : decode cX12_seenBy 47 = .ok (.if_icmp .ne 51, 3) := by decide +kernel
theorem dX12_seenBy_50 : decode cX12_seenBy 50 = .ok (.aload_n 0, 1) := by decide +kernel
theorem dX12_seenBy_51 : decode cX12_seenBy 51 = .ok (.getfield 20, 3) := by decide +kernel
theorem dX12_seenBy_54 : decode cX12_seenBy 54 = .ok (.sipush 224, 3) := by decide +kernel
theorem dX12_seenBy_57 : decode cX12_seenBy 57 = .ok (.iconst 4, 1) := by decide +kernel
theorem dX12_seenBy_58 : decode cX12_seenBy 58 = .ok (.iload 7, 2) := by decide +kernel
theorem dX12_seenBy_60 : decode cX12_seenBy 60 = .ok (.imul, 1) := by decide +kernel
theorem dX12_seenBy_61 : decode cX12_seenBy 61 = .ok (.iadd, 1) := by decide +kernel
theorem dX12_seenBy_62 : decode cX12_seenBy 62 = .ok (.iconst 1, 1) := by decide +kernel
theorem dX12_seenBy_63 : decode cX12_seenBy 63 = .ok (.iadd, 1) := by decide +kernel
theorem dX12_seenBy_64 : decode cX12_seenBy 64 = .ok (.iaload, 1) := by decide +kernel
theorem dX12_seenBy_65 : decode cX12_seenBy 65 = .ok (.iload 6, 2) := by decide +kernel
theorem dX12_seenBy_67 : decode cX12_seenBy 67 = .ok (.if_icmp .ne 31, 3) := by decide +kernel
theorem dX12_seenBy_70 : decode cX12_seenBy 70 = .ok (.aload_n 0, 1) := by decide +kernel
theorem dX12_seenBy_71 : decode cX12_seenBy 71 = .ok (.getfield 20, 3) := by decide +kernel
theorem dX12_seenBy_74 : decode cX12_seenBy 74 = .ok (.sipush 224, 3) := by decide +kernel
theorem dX12_seenBy_77 : decode cX12_seenBy 77 = .ok (.iconst 4, 1) := by decide +kernel
theorem dX12_seenBy_78 : decode cX12_seenBy 78 = .ok (.iload 7, 2) := by decide +kernel
theorem dX12_seenBy_80 : decode cX12_seenBy 80 = .ok (.imul, 1) := by decide +kernel
theorem dX12_seenBy_81 : decode cX12_seenBy 81 = .ok (.iadd, 1) := by decide +kernel
theorem dX12_seenBy_82 : decode cX12_seenBy 82 = .ok (.iconst 2, 1) := by decide +kernel
theorem dX12_seenBy_83 : decode cX12_seenBy 83 = .ok (.iadd, 1) := by decide +kernel
theorem dX12_seenBy_84 : decode cX12_seenBy 84 = .ok (.iaload, 1) := by decide +kernel
theorem dX12_seenBy_85 : decode cX12_seenBy 85 = .ok (.iload_n 3, 1) := by decide +kernel
theorem dX12_seenBy_86 : decode cX12_seenBy 86 = .ok (.if_icmp .ne 12, 3) := by decide +kernel
theorem dX12_seenBy_89 : decode cX12_seenBy 89 = .ok (.iload 4, 2) := by decide +kernel
theorem dX12_seenBy_91 : decode cX12_seenBy 91 = .ok (.iconst 1, 1) := by decide +kernel
theorem dX12_seenBy_92 : decode cX12_seenBy 92 = .ok (.iload 7, 2) := by decide +kernel
theorem dX12_seenBy_94 : decode cX12_seenBy 94 = .ok (.ishl, 1) := by decide +kernel
theorem dX12_seenBy_95 : decode cX12_seenBy 95 = .ok (.ior, 1) := by decide +kernel
theorem dX12_seenBy_96 : decode cX12_seenBy 96 = .ok (.istore 4, 2) := by decide +kernel
theorem dX12_seenBy_98 : decode cX12_seenBy 98 = .ok (.iinc 7 1, 3) := by decide +kernel
theorem dX12_seenBy_101 : decode cX12_seenBy 101 = .ok (.goto (-82), 3) := by decide +kernel
theorem dX12_seenBy_104 : decode cX12_seenBy 104 = .ok (.iload 6, 2) := by decide +kernel
theorem dX12_seenBy_106 : decode cX12_seenBy 106 = .ok (.bipush 96, 2) := by decide +kernel
theorem dX12_seenBy_108 : decode cX12_seenBy 108 = .ok (.if_icmp .ge 18, 3) := by decide +kernel
theorem dX12_seenBy_111 : decode cX12_seenBy 111 = .ok (.aload_n 0, 1) := by decide +kernel
theorem dX12_seenBy_112 : decode cX12_seenBy 112 = .ok (.getfield 67, 3) := by decide +kernel
theorem dX12_seenBy_115 : decode cX12_seenBy 115 = .ok (.bipush 25, 2) := by decide +kernel
theorem dX12_seenBy_117 : decode cX12_seenBy 117 = .ok (.iload 6, 2) := by decide +kernel
theorem dX12_seenBy_119 : decode cX12_seenBy 119 = .ok (.imul, 1) := by decide +kernel
theorem dX12_seenBy_120 : decode cX12_seenBy 120 = .ok (.iload 5, 2) := by decide +kernel
theorem dX12_seenBy_122 : decode cX12_seenBy 122 = .ok (.iadd, 1) := by decide +kernel
theorem dX12_seenBy_123 : decode cX12_seenBy 123 = .ok (.iaload, 1) := by decide +kernel
theorem dX12_seenBy_124 : decode cX12_seenBy 124 = .ok (.istore 5, 2) := by decide +kernel
theorem dX12_seenBy_126 : decode cX12_seenBy 126 = .ok (.iinc 6 1, 3) := by decide +kernel
theorem dX12_seenBy_129 : decode cX12_seenBy 129 = .ok (.goto (-120), 3) := by decide +kernel
theorem dX12_seenBy_132 : decode cX12_seenBy 132 = .ok (.iload 4, 2) := by decide +kernel
theorem dX12_seenBy_134 : decode cX12_seenBy 134 = .ok (.ireturn, 1) := by decide +kernel
set_option maxHeartbeats 4000000 in
set_option maxRecDepth 100000 in
theorem c_X12_seenBy (l : Launch) (E : Nat → Nat) (D : va_G) (G : th_G) (H0 : Heap) (h0 : Nat) (hG0 : G h0 = some (10, 0)) (x1 : Int32) (x2 : Int32) (x3 : Int32) (hx1 : (0 : Int) ≤ x1.toInt ∧ x1.toInt ≤ 24) (hx2 : (0 : Int) ≤ x2.toInt) : Met l yX12_seenBy (tb (.code yX12_seenBy cX12_seenBy 8 (some .int))) (rm 0) (va_Pc [.ref h0, .int x1, .int x2, .int x3] (PR E D G H0)) (QS H0 (fun r => 0 ≤ (r : Int32).toInt ∧ (r : Int32).toInt ≤ 1023)) 0 0 (fun _ => False) := by
  refine Met.ofW (cc := cX12_seenBy) (maxL := 8) (ret := (some .int)) (by decide) rfl ?_
  intro p e s m args below meth c s₁ B hml hv
  obtain ⟨hav, rfl, hI, hN, hK⟩ := hv
  have hx := B.exec
  have hb := B.bytes
  have hr := B.returns
  have hts := atoms_spec (ws := tb (.code yX12_seenBy cX12_seenBy 8 (some .int))) B.pre
  have hown : s.vm.findClass RX12 = some m.cls := findClass_of_methodNamed B.named
  have hlocks := B.notSynchronized
  have hS : va_S (fun _ => False) s.heap s.heap [] := va_S.rf
  have hl := lv_entry ([.ref h0, .int x1, .int x2, .int x3]) (n := 8) (Nat.le_of_ble_eq_true rfl)
  rw [show entryFrame m args 8 = entryFrame m ([.ref h0, .int x1, .int x2, .int x3] : List Value).toArray 8 from by rw [hav], lg_entry_eq]
  generalize (lg_sl ([.ref h0, .int x1, .int x2, .int x3]) ++ List.replicate (8 - (lg_sl ([.ref h0, .int x1, .int x2, .int x3])).length) Slot.unset).toArray = ls at hl ⊢
  have hl : lv_has ls 8 [(0, .ref h0), (1, .int x1), (2, .int x2), (3, .int x3)] := hl
  generalize hR : (headSpec (tb (.code yX12_seenBy cX12_seenBy 8 (some .int))) (rm 0)).room = R
  have hR := hR.symm
  generalize hQ : MQ below (QS s.heap (fun r => 0 ≤ (r : Int32).toInt ∧ (r : Int32).toInt ≤ 1023)) args s 0 0 (fun _ => False) = QF
  have hQ := hQ.symm
  obtain ⟨q_3, hq_3, hf_3⟩ := fr_of hI hG0 3 (by decide) (kd := (1, 5123)) rfl
  obtain ⟨F_3, hA_3, hP_3⟩ := om_1 hI hq_3 List.not_mem_nil
  have J_9 : ∀ (nn : Nat) (locs : List Loc) (ls : Array Slot) (v2241 : Int32) (v2242 : Int32) (v2243 : Int32) , (Int.toNat (97 - v2241.toInt) = nn) → lv_has ls 8 [(6, .int v2241), (5, .int v2242), (4, .int v2243), (0, .ref h0), (1, .int x1), (2, .int x2), (3, .int x3)] → ((0 : Int) ≤ v2241.toInt) → ((0 : Int) ≤ v2242.toInt ∧ v2242.toInt ≤ 24) → ((0 : Int) ≤ v2243.toInt ∧ v2243.toInt ≤ 1023) → ((0 : Int) ≤ x1.toInt ∧ x1.toInt ≤ 24) → ((0 : Int) ≤ x2.toInt) → va_S (fun _ => False) s.heap s.heap locs → W p l e R s m args below meth c s.heap locs 0 0 QF (F0 m 9 ls []) := by
    intro nn
    induction nn using Nat.strongRecOn with
    | ind nn ih_9 =>
      intro locs ls v2241 v2242 v2243  hm hl k2244 k2245 k2246 k2247 k2248 hS
      have J_19 : ∀ (nn : Nat) (locs : List Loc) (ls : Array Slot) (v2249 : Int32) (v2252 : Int32) , (Int.toNat (10 - v2249.toInt) = nn) → lv_has ls 8 [(7, .int v2249), (6, .int v2241), (5, .int v2242), (4, .int v2252), (0, .ref h0), (1, .int x1), (2, .int x2), (3, .int x3)] → ((0 : Int) ≤ v2249.toInt ∧ v2249.toInt ≤ 10) → ((0 : Int) ≤ v2241.toInt ∧ v2241.toInt ≤ 96) → ((0 : Int) ≤ v2252.toInt ∧ v2252.toInt ≤ 1023) → va_S (fun _ => False) s.heap s.heap locs → W p l e R s m args below meth c s.heap locs 0 0 QF (F0 m 19 ls []) := by
        intro nn
        induction nn using Nat.strongRecOn with
        | ind nn ih_19 =>
          intro locs ls v2249 v2252  hm hl k2253 k2254 k2255 hS
          have J_98 : ∀ (locs : List Loc) (ls : Array Slot) (v2259 : Int32) , lv_has ls 8 [(7, .int v2249), (6, .int v2241), (5, .int v2242), (4, .int v2259), (0, .ref h0), (1, .int x1), (2, .int x2), (3, .int x3)] → ((0 : Int) ≤ v2249.toInt ∧ v2249.toInt ≤ 9) → ((0 : Int) ≤ v2259.toInt ∧ v2259.toInt ≤ 1023) → va_S (fun _ => False) s.heap s.heap locs → W p l e R s m args below meth c s.heap locs 0 0 QF (F0 m 98 ls []) := by
            intro locs ls v2259  hl k2260 k2261 hS
            obtain ⟨v2262, e2263⟩ : ∃ y : Int32, y = v2249 + (1) := ⟨_, rfl⟩
            have tv2262 : v2262.toInt = v2249.toInt + (1) := iv_add rfl (by decide) e2263 (by omega) (by omega)
            refine lv_iinc (v := v2262) (lv' := [(7, .int v2262), (6, .int v2241), (5, .int v2242), (4, .int v2259), (0, .ref h0), (1, .int x1), (2, .int x2), (3, .int x3)]) hx hb dX12_seenBy_98 hl (k := 0) rfl (by rw [e2263]; rfl) (by decide) rfl (fun ls hl => ?_)
            refine lv_goto (tgt := 19) hx hb dX12_seenBy_101 (by decide) ?_
            exact ih_19 _ (by omega) locs ls v2262 v2259  rfl (lv_sub hl [0, 1, 2, 3, 4, 5, 6, 7] rfl) ⟨by omega, by omega⟩ ⟨by omega, by omega⟩ ⟨by omega, by omega⟩ hS
          refine lv_iload hx hb dX12_seenBy_19 (lv_at hl 0 rfl) ?_
          refine lv_aload_n hx hb dX12_seenBy_21 rfl (lv_at hl 4 rfl) ?_
          refine gmA hx hb hts inT12 hown hK hI List.not_mem_nil hG0 3 (by decide) (hts _ (tb_c wd_1236)) rfl rfl dX12_seenBy_22 (fun a2264 hq2265 hf2266 => ?_)
          obtain rfl := fr.uniq (by decide) hf_3 hf2266
          refine lv_sipush (v := 312) hx hb dX12_seenBy_25 (by decide) ?_
          refine th_iald hx hb hK hA_3 0 rfl (iv_in (X := (312)) (by decide) (by omega) (by omega)) dX12_seenBy_28 (fun v2267 e2268 => ?_)
          have k2269 := kg_m312 (kOk.get (i := 312) hP_3 e2268 (X := (312)) (by decide) (by omega) (by omega)) (by omega) (by omega) (by omega)
          refine lv_icmp_ge (tgt := 104) hx hb dX12_seenBy_29 (by decide) (fun c2270 => ?_) (fun c2270 => ?_)
          · skip
            have k2271 := iv_le (X := v2267.toInt) (Y := v2249.toInt) rfl rfl c2270
            refine lv_iload hx hb dX12_seenBy_104 (lv_at hl 1 rfl) ?_
            refine lv_bipush (v := 96) hx hb dX12_seenBy_106 (by decide) ?_
            refine lv_icmp_ge (tgt := 126) hx hb dX12_seenBy_108 (by decide) (fun c2272 => ?_) (fun c2272 => ?_)
            · skip
              have k2273 := iv_le (X := (96)) (Y := v2241.toInt) (by decide) rfl c2272
              obtain ⟨v2274, e2275⟩ : ∃ y : Int32, y = v2241 + (1) := ⟨_, rfl⟩
              have tv2274 : v2274.toInt = v2241.toInt + (1) := iv_add rfl (by decide) e2275 (by omega) (by omega)
              refine lv_iinc (v := v2274) (lv' := [(6, .int v2274), (7, .int v2249), (5, .int v2242), (4, .int v2252), (0, .ref h0), (1, .int x1), (2, .int x2), (3, .int x3)]) hx hb dX12_seenBy_126 hl (k := 1) rfl (by rw [e2275]; rfl) (by decide) rfl (fun ls hl => ?_)
              refine lv_goto (tgt := 9) hx hb dX12_seenBy_129 (by decide) ?_
              exact ih_9 _ (by omega) locs ls v2274 v2242 v2252  rfl (lv_sub hl [0, 2, 3, 4, 5, 6, 7] rfl) (by omega) ⟨by omega, by omega⟩ ⟨by omega, by omega⟩ ⟨by omega, by omega⟩ (by omega) hS
            · skip
              have k2276 := iv_nle (X := (96)) (Y := v2241.toInt) (by decide) rfl c2272
              refine lv_aload_n hx hb dX12_seenBy_111 rfl (lv_at hl 4 rfl) ?_
              refine gmA hx hb hts inT12 hown hK hI List.not_mem_nil hG0 27 (by decide) (hts _ (tb_c wd_1260)) rfl rfl dX12_seenBy_112 (fun a2277 hq2278 hf2279 => ?_)
              refine lv_bipush (v := 25) hx hb dX12_seenBy_115 (by decide) ?_
              refine lv_iload hx hb dX12_seenBy_117 (lv_at hl 1 rfl) ?_
              refine lv_imul hx hb dX12_seenBy_119 ?_
              refine lv_topi (fun v2280 e2281 => ?_)
              have tv2280 : v2280.toInt = (25) * v2241.toInt := iv_mul (by decide) rfl e2281 (by omega) (by omega)
              refine lv_iload hx hb dX12_seenBy_120 (lv_at hl 2 rfl) ?_
              refine lv_iadd hx hb dX12_seenBy_122 ?_
              refine lv_topi (fun v2282 e2283 => ?_)
              have tv2282 : v2282.toInt = v2280.toInt + v2242.toInt := iv_add rfl rfl e2283 (by omega) (by omega)
              obtain ⟨F2284, hA2285, hP2286⟩ := om_3 hI hq2278 List.not_mem_nil
              refine th_iald hx hb hK hA2285 0 rfl (iv_in (X := v2282.toInt) rfl (by omega) (by omega)) dX12_seenBy_123 (fun v2287 e2288 => ?_)
              have k2289 := rgs_get hP2286 e2288 (X := v2282.toInt) rfl (by omega) (by omega)
              refine lv_istore (lv' := [(5, .int v2287), (7, .int v2249), (6, .int v2241), (4, .int v2252), (0, .ref h0), (1, .int x1), (2, .int x2), (3, .int x3)]) hx hb dX12_seenBy_124 hl (by decide) rfl (fun ls hl => ?_)
              obtain ⟨v2290, e2291⟩ : ∃ y : Int32, y = v2241 + (1) := ⟨_, rfl⟩
              have tv2290 : v2290.toInt = v2241.toInt + (1) := iv_add rfl (by decide) e2291 (by omega) (by omega)
              refine lv_iinc (v := v2290) (lv' := [(6, .int v2290), (5, .int v2287), (7, .int v2249), (4, .int v2252), (0, .ref h0), (1, .int x1), (2, .int x2), (3, .int x3)]) hx hb dX12_seenBy_126 hl (k := 2) rfl (by rw [e2291]; rfl) (by decide) rfl (fun ls hl => ?_)
              refine lv_goto (tgt := 9) hx hb dX12_seenBy_129 (by decide) ?_
              exact ih_9 _ (by omega) locs ls v2290 v2287 v2252  rfl (lv_sub hl [0, 1, 3, 4, 5, 6, 7] rfl) (by omega) ⟨by omega, by omega⟩ ⟨by omega, by omega⟩ ⟨by omega, by omega⟩ (by omega) hS
          · skip
            have k2292 := iv_nle (X := v2267.toInt) (Y := v2249.toInt) rfl rfl c2270
            refine lv_aload_n hx hb dX12_seenBy_32 rfl (lv_at hl 4 rfl) ?_
            refine gmA hx hb hts inT12 hown hK hI List.not_mem_nil hG0 3 (by decide) (hts _ (tb_c wd_1236)) rfl rfl dX12_seenBy_33 (fun a2293 hq2294 hf2295 => ?_)
            obtain rfl := fr.uniq (by decide) hf_3 hf2295
            refine lv_sipush (v := 224) hx hb dX12_seenBy_36 (by decide) ?_
            refine lv_iconst (v := 4) hx hb dX12_seenBy_39 (by decide) ?_
            refine lv_iload hx hb dX12_seenBy_40 (lv_at hl 0 rfl) ?_
            refine lv_imul hx hb dX12_seenBy_42 ?_
            refine lv_topi (fun v2296 e2297 => ?_)
            have tv2296 : v2296.toInt = (4) * v2249.toInt := iv_mul (by decide) rfl e2297 (by omega) (by omega)
            refine lv_iadd hx hb dX12_seenBy_43 ?_
            refine lv_topi (fun v2298 e2299 => ?_)
            have tv2298 : v2298.toInt = (224) + v2296.toInt := iv_add (by decide) rfl e2299 (by omega) (by omega)
            refine th_iald hx hb hK hA_3 0 rfl (iv_in (X := v2298.toInt) rfl (by omega) (by omega)) dX12_seenBy_44 (fun v2300 e2301 => ?_)
            refine lv_iload hx hb dX12_seenBy_45 (lv_at hl 2 rfl) ?_
            have k2302 := iv_lo v2300
            have k2303 := iv_hi v2300
            refine lv_icmp_ne (tgt := 98) hx hb dX12_seenBy_47 (by decide) (fun c2304 => ?_) (fun c2304 => ?_)
            · skip
              have k2305 := iv_ne (X := v2300.toInt) (Y := v2242.toInt) rfl rfl c2304
              exact J_98 locs ls v2252  (lv_sub hl [0, 1, 2, 3, 4, 5, 6, 7] rfl) ⟨by omega, by omega⟩ ⟨by omega, by omega⟩ hS
            · skip
              have k2306 := iv_eq (X := v2300.toInt) (Y := v2242.toInt) rfl rfl c2304
              refine lv_aload_n hx hb dX12_seenBy_50 rfl (lv_at hl 4 rfl) ?_
              refine gmA hx hb hts inT12 hown hK hI List.not_mem_nil hG0 3 (by decide) (hts _ (tb_c wd_1236)) rfl rfl dX12_seenBy_51 (fun a2307 hq2308 hf2309 => ?_)
              obtain rfl := fr.uniq (by decide) hf_3 hf2309
              refine lv_sipush (v := 224) hx hb dX12_seenBy_54 (by decide) ?_
              refine lv_iconst (v := 4) hx hb dX12_seenBy_57 (by decide) ?_
              refine lv_iload hx hb dX12_seenBy_58 (lv_at hl 0 rfl) ?_
              refine lv_imul hx hb dX12_seenBy_60 ?_
              refine lv_topi (fun v2310 e2311 => ?_)
              have tv2310 : v2310.toInt = (4) * v2249.toInt := iv_mul (by decide) rfl e2311 (by omega) (by omega)
              refine lv_iadd hx hb dX12_seenBy_61 ?_
              refine lv_topi (fun v2312 e2313 => ?_)
              have tv2312 : v2312.toInt = (224) + v2310.toInt := iv_add (by decide) rfl e2313 (by omega) (by omega)
              refine lv_iconst (v := 1) hx hb dX12_seenBy_62 (by decide) ?_
              refine lv_iadd hx hb dX12_seenBy_63 ?_
              refine lv_topi (fun v2314 e2315 => ?_)
              have tv2314 : v2314.toInt = v2312.toInt + (1) := iv_add rfl (by decide) e2315 (by omega) (by omega)
              refine th_iald hx hb hK hA_3 0 rfl (iv_in (X := v2314.toInt) rfl (by omega) (by omega)) dX12_seenBy_64 (fun v2316 e2317 => ?_)
              have k2318 := kg_sight1 (kOk.get (i := v2314) hP_3 e2317 (X := v2314.toInt) rfl (by omega) (by omega)) (by omega) (by omega) (by omega)
              refine lv_iload hx hb dX12_seenBy_65 (lv_at hl 1 rfl) ?_
              refine lv_icmp_ne (tgt := 98) hx hb dX12_seenBy_67 (by decide) (fun c2319 => ?_) (fun c2319 => ?_)
              · skip
                have k2320 := iv_ne (X := v2316.toInt) (Y := v2241.toInt) rfl rfl c2319
                exact J_98 locs ls v2252  (lv_sub hl [0, 1, 2, 3, 4, 5, 6, 7] rfl) ⟨by omega, by omega⟩ ⟨by omega, by omega⟩ hS
              · skip
                have k2321 := iv_eq (X := v2316.toInt) (Y := v2241.toInt) rfl rfl c2319
                refine lv_aload_n hx hb dX12_seenBy_70 rfl (lv_at hl 4 rfl) ?_
                refine gmA hx hb hts inT12 hown hK hI List.not_mem_nil hG0 3 (by decide) (hts _ (tb_c wd_1236)) rfl rfl dX12_seenBy_71 (fun a2322 hq2323 hf2324 => ?_)
                obtain rfl := fr.uniq (by decide) hf_3 hf2324
                refine lv_sipush (v := 224) hx hb dX12_seenBy_74 (by decide) ?_
                refine lv_iconst (v := 4) hx hb dX12_seenBy_77 (by decide) ?_
                refine lv_iload hx hb dX12_seenBy_78 (lv_at hl 0 rfl) ?_
                refine lv_imul hx hb dX12_seenBy_80 ?_
                refine lv_topi (fun v2325 e2326 => ?_)
                have tv2325 : v2325.toInt = (4) * v2249.toInt := iv_mul (by decide) rfl e2326 (by omega) (by omega)
                refine lv_iadd hx hb dX12_seenBy_81 ?_
                refine lv_topi (fun v2327 e2328 => ?_)
                have tv2327 : v2327.toInt = (224) + v2325.toInt := iv_add (by decide) rfl e2328 (by omega) (by omega)
                refine lv_iconst (v := 2) hx hb dX12_seenBy_82 (by decide) ?_
                refine lv_iadd hx hb dX12_seenBy_83 ?_
                refine lv_topi (fun v2329 e2330 => ?_)
                have tv2329 : v2329.toInt = v2327.toInt + (2) := iv_add rfl (by decide) e2330 (by omega) (by omega)
                refine th_iald hx hb hK hA_3 0 rfl (iv_in (X := v2329.toInt) rfl (by omega) (by omega)) dX12_seenBy_84 (fun v2331 e2332 => ?_)
                refine lv_iload_n hx hb dX12_seenBy_85 rfl (lv_at hl 7 rfl) ?_
                have k2333 := iv_lo v2331
                have k2334 := iv_hi v2331
                have k2335 := iv_lo x3
                have k2336 := iv_hi x3
                refine lv_icmp_ne (tgt := 98) hx hb dX12_seenBy_86 (by decide) (fun c2337 => ?_) (fun c2337 => ?_)
                · skip
                  have k2338 := iv_ne (X := v2331.toInt) (Y := x3.toInt) rfl rfl c2337
                  exact J_98 locs ls v2252  (lv_sub hl [0, 1, 2, 3, 4, 5, 6, 7] rfl) ⟨by omega, by omega⟩ ⟨by omega, by omega⟩ hS
                · skip
                  have k2339 := iv_eq (X := v2331.toInt) (Y := x3.toInt) rfl rfl c2337
                  refine lv_iload hx hb dX12_seenBy_89 (lv_at hl 3 rfl) ?_
                  refine lv_iconst (v := 1) hx hb dX12_seenBy_91 (by decide) ?_
                  refine lv_iload hx hb dX12_seenBy_92 (lv_at hl 0 rfl) ?_
                  refine lv_ishl hx hb dX12_seenBy_94 ?_
                  refine lv_topi (fun v2340 e2341 => ?_)
                  have tv2340 := iv_1sh (X := v2249.toInt) rfl e2341 (by omega) (by omega)
                  refine lv_ior hx hb dX12_seenBy_95 ?_
                  refine lv_topi (fun v2342 e2343 => ?_)
                  have tv2342 := iv_or (X := v2252.toInt) (Y := v2340.toInt) rfl rfl e2343 (by omega) (by omega) (by omega) (by omega)
                  refine lv_istore (lv' := [(4, .int v2342), (7, .int v2249), (6, .int v2241), (5, .int v2242), (0, .ref h0), (1, .int x1), (2, .int x2), (3, .int x3)]) hx hb dX12_seenBy_96 hl (by decide) rfl (fun ls hl => ?_)
                  exact J_98 locs ls v2342  (lv_sub hl [1, 2, 3, 0, 4, 5, 6, 7] rfl) ⟨by omega, by omega⟩ ⟨by omega, by omega⟩ hS
      refine lv_iload hx hb dX12_seenBy_9 (lv_at hl 0 rfl) ?_
      refine lv_bipush (v := 96) hx hb dX12_seenBy_11 (by decide) ?_
      have k2344 := iv_lo v2241
      have k2345 := iv_hi v2241
      refine lv_icmp_gt (tgt := 132) hx hb dX12_seenBy_13 (by decide) (fun c2346 => ?_) (fun c2346 => ?_)
      · skip
        have k2347 := iv_lt (X := (96)) (Y := v2241.toInt) (by decide) rfl c2346
        refine lv_iload hx hb dX12_seenBy_132 (lv_at hl 2 rfl) ?_
        have hpost : 0 ≤ (v2243 : Int32).toInt ∧ (v2243 : Int32).toInt ≤ 1023 := by omega
        rw [hQ]
        exact W.iret (v := v2243) hx hb hr (fun t ht hW => ⟨⟨v2243, (), rfl, hpost, ht⟩, hS.F ht⟩) hS.2.2 dX12_seenBy_134
      · skip
        have k2348 := iv_nlt (X := (96)) (Y := v2241.toInt) (by decide) rfl c2346
        refine lv_iconst (v := 0) hx hb dX12_seenBy_16 (by decide) ?_
        refine lv_istore (lv' := [(7, .int 0), (6, .int v2241), (5, .int v2242), (4, .int v2243), (0, .ref h0), (1, .int x1), (2, .int x2), (3, .int x3)]) hx hb dX12_seenBy_17 hl (by decide) rfl (fun ls hl => ?_)
        have zl : (0 : Int32).toInt = 0 := by decide
        exact J_19 _ locs ls 0 v2243  rfl (lv_sub hl [0, 1, 2, 3, 4, 5, 6, 7] rfl) ⟨by decide, by decide⟩ ⟨by omega, by omega⟩ ⟨by omega, by omega⟩ hS
  refine lv_iconst (v := 0) hx hb dX12_seenBy_0 (by decide) ?_
  refine lv_istore (lv' := [(4, .int 0), (0, .ref h0), (1, .int x1), (2, .int x2), (3, .int x3)]) hx hb dX12_seenBy_1 hl (by decide) rfl (fun ls hl => ?_)
  refine lv_iload_n hx hb dX12_seenBy_3 rfl (lv_at hl 2 rfl) ?_
  refine lv_istore (lv' := [(5, .int x1), (4, .int 0), (0, .ref h0), (1, .int x1), (2, .int x2), (3, .int x3)]) hx hb dX12_seenBy_4 hl (by decide) rfl (fun ls hl => ?_)
  refine lv_iload_n hx hb dX12_seenBy_6 rfl (lv_at hl 4 rfl) ?_
  refine lv_istore (lv' := [(6, .int x2), (5, .int x1), (4, .int 0), (0, .ref h0), (1, .int x1), (2, .int x2), (3, .int x3)]) hx hb dX12_seenBy_7 hl (by decide) rfl (fun ls hl => ?_)
  exact J_9 _ [] ls x2 x1 0  rfl (lv_sub hl [0, 1, 2, 3, 4, 5, 6] rfl) (by omega) ⟨by omega, by omega⟩ ⟨by decide, by decide⟩ ⟨by omega, by omega⟩ (by omega) hS
theorem dX12_seenOf_0 : decode cX12_seenOf 0 = .ok (.iconst 0, 1) := by decide +kernel
theorem dX12_seenOf_1 : decode cX12_seenOf 1 = .ok (.istore_n 2, 1) := by decide +kernel
theorem dX12_seenOf_2 : decode cX12_seenOf 2 = .ok (.iconst 0, 1) := by decide +kernel
theorem dX12_seenOf_3 : decode cX12_seenOf 3 = .ok (.istore_n 3, 1) := by decide +kernel
theorem dX12_seenOf_4 : decode cX12_seenOf 4 = .ok (.iload_n 3, 1) := by decide +kernel
theorem dX12_seenOf_5 : decode cX12_seenOf 5 = .ok (.aload_n 0, 1) := by decide +kernel
theorem dX12_seenOf_6 : decode cX12_seenOf 6 = .ok (.getfield 20, 3) := by decide +kernel
theorem dX12_seenOf_9 : decode cX12_seenOf 9 = .ok (.sipush 312, 3) := by decide +kernel
theorem dX12_seenOf_12 : decode cX12_seenOf 12 = .ok (.iaload, 1) := by decide +kernel
theorem dX12_seenOf_13 : decode cX12_seenOf 13 = .ok (.if_icmp .ge 55, 3) := by decide +kernel
theorem dX12_seenOf_16 : decode cX12_seenOf 16 = .ok (.iload_n 2, 1) := by decide +kernel
theorem dX12_seenOf_17 : decode cX12_seenOf 17 = .ok (.aload_n 0, 1) := by decide +kernel
theorem dX12_seenOf_18 : decode cX12_seenOf 18 = .ok (.getfield 20, 3) := by decide +kernel
theorem dX12_seenOf_21 : decode cX12_seenOf 21 = .ok (.sipush 224, 3) := by decide +kernel
theorem dX12_seenOf_24 : decode cX12_seenOf 24 = .ok (.iconst 4, 1) := by decide +kernel
theorem dX12_seenOf_25 : decode cX12_seenOf 25 = .ok (.iload_n 3, 1) := by decide +kernel
theorem dX12_seenOf_26 : decode cX12_seenOf 26 = .ok (.imul, 1) := by decide +kernel
theorem dX12_seenOf_27 : decode cX12_seenOf 27 = .ok (.iadd, 1) := by decide +kernel
theorem dX12_seenOf_28 : decode cX12_seenOf 28 = .ok (.iconst 2, 1) := by decide +kernel
theorem dX12_seenOf_29 : decode cX12_seenOf 29 = .ok (.iadd, 1) := by decide +kernel
theorem dX12_seenOf_30 : decode cX12_seenOf 30 = .ok (.iaload, 1) := by decide +kernel
theorem dX12_seenOf_31 : decode cX12_seenOf 31 = .ok (.iload_n 1, 1) := by decide +kernel
theorem dX12_seenOf_32 : decode cX12_seenOf 32 = .ok (.if_icmp .ne 27, 3) := by decide +kernel
theorem dX12_seenOf_35 : decode cX12_seenOf 35 = .ok (.aload_n 0, 1) := by decide +kernel
theorem dX12_seenOf_36 : decode cX12_seenOf 36 = .ok (.getfield 20, 3) := by decide +kernel
theorem dX12_seenOf_39 : decode cX12_seenOf 39 = .ok (.sipush 224, 3) := by decide +kernel
theorem dX12_seenOf_42 : decode cX12_seenOf 42 = .ok (.iconst 4, 1) := by decide +kernel
theorem dX12_seenOf_43 : decode cX12_seenOf 43 = .ok (.iload_n 3, 1) := by decide +kernel
theorem dX12_seenOf_44 : decode cX12_seenOf 44 = .ok (.imul, 1) := by decide +kernel
theorem dX12_seenOf_45 : decode cX12_seenOf 45 = .ok (.iadd, 1) := by decide +kernel
theorem dX12_seenOf_46 : decode cX12_seenOf 46 = .ok (.iconst 3, 1) := by decide +kernel
theorem dX12_seenOf_47 : decode cX12_seenOf 47 = .ok (.iadd, 1) := by decide +kernel
theorem dX12_seenOf_48 : decode cX12_seenOf 48 = .ok (.iaload, 1) := by decide +kernel
theorem dX12_seenOf_49 : decode cX12_seenOf 49 = .ok (.iconst 1, 1) := by decide +kernel
theorem dX12_seenOf_50 : decode cX12_seenOf 50 = .ok (.if_icmp .ne 9, 3) := by decide +kernel
theorem dX12_seenOf_53 : decode cX12_seenOf 53 = .ok (.iconst 1, 1) := by decide +kernel
theorem dX12_seenOf_54 : decode cX12_seenOf 54 = .ok (.iload_n 3, 1) := by decide +kernel
theorem dX12_seenOf_55 : decode cX12_seenOf 55 = .ok (.ishl, 1) := by decide +kernel
theorem dX12_seenOf_56 : decode cX12_seenOf 56 = .ok (.goto 4, 3) := by decide +kernel
theorem dX12_seenOf_59 : decode cX12_seenOf 59 = .ok (.iconst 0, 1) := by decide +kernel
theorem dX12_seenOf_60 : decode cX12_seenOf 60 = .ok (.ior, 1) := by decide +kernel
theorem dX12_seenOf_61 : decode cX12_seenOf 61 = .ok (.istore_n 2, 1) := by decide +kernel
theorem dX12_seenOf_62 : decode cX12_seenOf 62 = .ok (.iinc 3 1, 3) := by decide +kernel
theorem dX12_seenOf_65 : decode cX12_seenOf 65 = .ok (.goto (-61), 3) := by decide +kernel
theorem dX12_seenOf_68 : decode cX12_seenOf 68 = .ok (.iload_n 2, 1) := by decide +kernel
theorem dX12_seenOf_69 : decode cX12_seenOf 69 = .ok (.ireturn, 1) := by decide +kernel
set_option maxHeartbeats 4000000 in
set_option maxRecDepth 100000 in
theorem c_X12_seenOf (l : Launch) (E : Nat → Nat) (D : va_G) (G : th_G) (H0 : Heap) (h0 : Nat) (hG0 : G h0 = some (10, 0)) (x1 : Int32) : Met l yX12_seenOf (tb (.code yX12_seenOf cX12_seenOf 4 (some .int))) (rm 0) (va_Pc [.ref h0, .int x1] (PR E D G H0)) (QS H0 (fun r => 0 ≤ (r : Int32).toInt ∧ (r : Int32).toInt ≤ 1023)) 0 0 (fun _ => False) := by
  refine Met.ofW (cc := cX12_seenOf) (maxL := 4) (ret := (some .int)) (by decide) rfl ?_
  intro p e s m args below meth c s₁ B hml hv
  obtain ⟨hav, rfl, hI, hN, hK⟩ := hv
  have hx := B.exec
  have hb := B.bytes
  have hr := B.returns
  have hts := atoms_spec (ws := tb (.code yX12_seenOf cX12_seenOf 4 (some .int))) B.pre
  have hown : s.vm.findClass RX12 = some m.cls := findClass_of_methodNamed B.named
  have hlocks := B.notSynchronized
  have hS : va_S (fun _ => False) s.heap s.heap [] := va_S.rf
  have hl := lv_entry ([.ref h0, .int x1]) (n := 4) (Nat.le_of_ble_eq_true rfl)
  rw [show entryFrame m args 4 = entryFrame m ([.ref h0, .int x1] : List Value).toArray 4 from by rw [hav], lg_entry_eq]
  generalize (lg_sl ([.ref h0, .int x1]) ++ List.replicate (4 - (lg_sl ([.ref h0, .int x1])).length) Slot.unset).toArray = ls at hl ⊢
  have hl : lv_has ls 4 [(0, .ref h0), (1, .int x1)] := hl
  generalize hR : (headSpec (tb (.code yX12_seenOf cX12_seenOf 4 (some .int))) (rm 0)).room = R
  have hR := hR.symm
  generalize hQ : MQ below (QS s.heap (fun r => 0 ≤ (r : Int32).toInt ∧ (r : Int32).toInt ≤ 1023)) args s 0 0 (fun _ => False) = QF
  have hQ := hQ.symm
  obtain ⟨q_3, hq_3, hf_3⟩ := fr_of hI hG0 3 (by decide) (kd := (1, 5123)) rfl
  obtain ⟨F_3, hA_3, hP_3⟩ := om_1 hI hq_3 List.not_mem_nil
  have J_4 : ∀ (nn : Nat) (locs : List Loc) (ls : Array Slot) (v884 : Int32) (v885 : Int32) , (Int.toNat (10 - v884.toInt) = nn) → lv_has ls 4 [(3, .int v884), (2, .int v885), (0, .ref h0), (1, .int x1)] → ((0 : Int) ≤ v884.toInt ∧ v884.toInt ≤ 10) → ((0 : Int) ≤ v885.toInt ∧ v885.toInt ≤ 1023) → va_S (fun _ => False) s.heap s.heap locs → W p l e R s m args below meth c s.heap locs 0 0 QF (F0 m 4 ls []) := by
    intro nn
    induction nn using Nat.strongRecOn with
    | ind nn ih_4 =>
      intro locs ls v884 v885  hm hl k886 k887 hS
      refine lv_iload_n hx hb dX12_seenOf_4 rfl (lv_at hl 0 rfl) ?_
      refine lv_aload_n hx hb dX12_seenOf_5 rfl (lv_at hl 2 rfl) ?_
      refine gmA hx hb hts inT12 hown hK hI List.not_mem_nil hG0 3 (by decide) (hts _ (tb_c wd_1236)) rfl rfl dX12_seenOf_6 (fun a888 hq889 hf890 => ?_)
      obtain rfl := fr.uniq (by decide) hf_3 hf890
      refine lv_sipush (v := 312) hx hb dX12_seenOf_9 (by decide) ?_
      refine th_iald hx hb hK hA_3 0 rfl (iv_in (X := (312)) (by decide) (by omega) (by omega)) dX12_seenOf_12 (fun v891 e892 => ?_)
      have k893 := kg_m312 (kOk.get (i := 312) hP_3 e892 (X := (312)) (by decide) (by omega) (by omega)) (by omega) (by omega) (by omega)
      refine lv_icmp_ge (tgt := 68) hx hb dX12_seenOf_13 (by decide) (fun c894 => ?_) (fun c894 => ?_)
      · skip
        have k895 := iv_le (X := v891.toInt) (Y := v884.toInt) rfl rfl c894
        refine lv_iload_n hx hb dX12_seenOf_68 rfl (lv_at hl 1 rfl) ?_
        have hpost : 0 ≤ (v885 : Int32).toInt ∧ (v885 : Int32).toInt ≤ 1023 := by omega
        rw [hQ]
        exact W.iret (v := v885) hx hb hr (fun t ht hW => ⟨⟨v885, (), rfl, hpost, ht⟩, hS.F ht⟩) hS.2.2 dX12_seenOf_69
      · skip
        have k896 := iv_nle (X := v891.toInt) (Y := v884.toInt) rfl rfl c894
        refine lv_iload_n hx hb dX12_seenOf_16 rfl (lv_at hl 1 rfl) ?_
        refine lv_aload_n hx hb dX12_seenOf_17 rfl (lv_at hl 2 rfl) ?_
        refine gmA hx hb hts inT12 hown hK hI List.not_mem_nil hG0 3 (by decide) (hts _ (tb_c wd_1236)) rfl rfl dX12_seenOf_18 (fun a897 hq898 hf899 => ?_)
        obtain rfl := fr.uniq (by decide) hf_3 hf899
        refine lv_sipush (v := 224) hx hb dX12_seenOf_21 (by decide) ?_
        refine lv_iconst (v := 4) hx hb dX12_seenOf_24 (by decide) ?_
        refine lv_iload_n hx hb dX12_seenOf_25 rfl (lv_at hl 0 rfl) ?_
        refine lv_imul hx hb dX12_seenOf_26 ?_
        refine lv_topi (fun v900 e901 => ?_)
        have tv900 : v900.toInt = (4) * v884.toInt := iv_mul (by decide) rfl e901 (by omega) (by omega)
        refine lv_iadd hx hb dX12_seenOf_27 ?_
        refine lv_topi (fun v902 e903 => ?_)
        have tv902 : v902.toInt = (224) + v900.toInt := iv_add (by decide) rfl e903 (by omega) (by omega)
        refine lv_iconst (v := 2) hx hb dX12_seenOf_28 (by decide) ?_
        refine lv_iadd hx hb dX12_seenOf_29 ?_
        refine lv_topi (fun v904 e905 => ?_)
        have tv904 : v904.toInt = v902.toInt + (2) := iv_add rfl (by decide) e905 (by omega) (by omega)
        refine th_iald hx hb hK hA_3 0 rfl (iv_in (X := v904.toInt) rfl (by omega) (by omega)) dX12_seenOf_30 (fun v906 e907 => ?_)
        refine lv_iload_n hx hb dX12_seenOf_31 rfl (lv_at hl 3 rfl) ?_
        have k908 := iv_lo v906
        have k909 := iv_hi v906
        have k910 := iv_lo x1
        have k911 := iv_hi x1
        refine lv_icmp_ne (tgt := 59) hx hb dX12_seenOf_32 (by decide) (fun c912 => ?_) (fun c912 => ?_)
        · skip
          have k913 := iv_ne (X := v906.toInt) (Y := x1.toInt) rfl rfl c912
          refine lv_iconst (v := 0) hx hb dX12_seenOf_59 (by decide) ?_
          refine lv_ior hx hb dX12_seenOf_60 ?_
          refine lv_topi (fun v914 e915 => ?_)
          have tv914 := iv_or (X := v885.toInt) (Y := (0)) rfl (by decide) e915 (by omega) (by omega) (by omega) (by omega)
          refine lv_istore_n (lv' := [(2, .int v914), (3, .int v884), (0, .ref h0), (1, .int x1)]) hx hb dX12_seenOf_61 rfl hl (by decide) rfl (fun ls hl => ?_)
          obtain ⟨v916, e917⟩ : ∃ y : Int32, y = v884 + (1) := ⟨_, rfl⟩
          have tv916 : v916.toInt = v884.toInt + (1) := iv_add rfl (by decide) e917 (by omega) (by omega)
          refine lv_iinc (v := v916) (lv' := [(3, .int v916), (2, .int v914), (0, .ref h0), (1, .int x1)]) hx hb dX12_seenOf_62 hl (k := 1) rfl (by rw [e917]; rfl) (by decide) rfl (fun ls hl => ?_)
          refine lv_goto (tgt := 4) hx hb dX12_seenOf_65 (by decide) ?_
          exact ih_4 _ (by omega) locs ls v916 v914  rfl (lv_sub hl [0, 1, 2, 3] rfl) ⟨by omega, by omega⟩ ⟨by omega, by omega⟩ hS
        · skip
          have k918 := iv_eq (X := v906.toInt) (Y := x1.toInt) rfl rfl c912
          refine lv_aload_n hx hb dX12_seenOf_35 rfl (lv_at hl 2 rfl) ?_
          refine gmA hx hb hts inT12 hown hK hI List.not_mem_nil hG0 3 (by decide) (hts _ (tb_c wd_1236)) rfl rfl dX12_seenOf_36 (fun a919 hq920 hf921 => ?_)
          obtain rfl := fr.uniq (by decide) hf_3 hf921
          refine lv_sipush (v := 224) hx hb dX12_seenOf_39 (by decide) ?_
          refine lv_iconst (v := 4) hx hb dX12_seenOf_42 (by decide) ?_
          refine lv_iload_n hx hb dX12_seenOf_43 rfl (lv_at hl 0 rfl) ?_
          refine lv_imul hx hb dX12_seenOf_44 ?_
          refine lv_topi (fun v922 e923 => ?_)
          have tv922 : v922.toInt = (4) * v884.toInt := iv_mul (by decide) rfl e923 (by omega) (by omega)
          refine lv_iadd hx hb dX12_seenOf_45 ?_
          refine lv_topi (fun v924 e925 => ?_)
          have tv924 : v924.toInt = (224) + v922.toInt := iv_add (by decide) rfl e925 (by omega) (by omega)
          refine lv_iconst (v := 3) hx hb dX12_seenOf_46 (by decide) ?_
          refine lv_iadd hx hb dX12_seenOf_47 ?_
          refine lv_topi (fun v926 e927 => ?_)
          have tv926 : v926.toInt = v924.toInt + (3) := iv_add rfl (by decide) e927 (by omega) (by omega)
          refine th_iald hx hb hK hA_3 0 rfl (iv_in (X := v926.toInt) rfl (by omega) (by omega)) dX12_seenOf_48 (fun v928 e929 => ?_)
          refine lv_iconst (v := 1) hx hb dX12_seenOf_49 (by decide) ?_
          have k930 := iv_lo v928
          have k931 := iv_hi v928
          refine lv_icmp_ne (tgt := 59) hx hb dX12_seenOf_50 (by decide) (fun c932 => ?_) (fun c932 => ?_)
          · skip
            have k933 := iv_ne (X := v928.toInt) (Y := (1)) rfl (by decide) c932
            refine lv_iconst (v := 0) hx hb dX12_seenOf_59 (by decide) ?_
            refine lv_ior hx hb dX12_seenOf_60 ?_
            refine lv_topi (fun v934 e935 => ?_)
            have tv934 := iv_or (X := v885.toInt) (Y := (0)) rfl (by decide) e935 (by omega) (by omega) (by omega) (by omega)
            refine lv_istore_n (lv' := [(2, .int v934), (3, .int v884), (0, .ref h0), (1, .int x1)]) hx hb dX12_seenOf_61 rfl hl (by decide) rfl (fun ls hl => ?_)
            obtain ⟨v936, e937⟩ : ∃ y : Int32, y = v884 + (1) := ⟨_, rfl⟩
            have tv936 : v936.toInt = v884.toInt + (1) := iv_add rfl (by decide) e937 (by omega) (by omega)
            refine lv_iinc (v := v936) (lv' := [(3, .int v936), (2, .int v934), (0, .ref h0), (1, .int x1)]) hx hb dX12_seenOf_62 hl (k := 1) rfl (by rw [e937]; rfl) (by decide) rfl (fun ls hl => ?_)
            refine lv_goto (tgt := 4) hx hb dX12_seenOf_65 (by decide) ?_
            exact ih_4 _ (by omega) locs ls v936 v934  rfl (lv_sub hl [0, 1, 2, 3] rfl) ⟨by omega, by omega⟩ ⟨by omega, by omega⟩ hS
          · skip
            have k938 := iv_eq (X := v928.toInt) (Y := (1)) rfl (by decide) c932
            refine lv_iconst (v := 1) hx hb dX12_seenOf_53 (by decide) ?_
            refine lv_iload_n hx hb dX12_seenOf_54 rfl (lv_at hl 0 rfl) ?_
            refine lv_ishl hx hb dX12_seenOf_55 ?_
            refine lv_topi (fun v939 e940 => ?_)
            have tv939 := iv_1sh (X := v884.toInt) rfl e940 (by omega) (by omega)
            refine lv_goto (tgt := 60) hx hb dX12_seenOf_56 (by decide) ?_
            refine lv_ior hx hb dX12_seenOf_60 ?_
            refine lv_topi (fun v941 e942 => ?_)
            have tv941 := iv_or (X := v885.toInt) (Y := v939.toInt) rfl rfl e942 (by omega) (by omega) (by omega) (by omega)
            refine lv_istore_n (lv' := [(2, .int v941), (3, .int v884), (0, .ref h0), (1, .int x1)]) hx hb dX12_seenOf_61 rfl hl (by decide) rfl (fun ls hl => ?_)
            obtain ⟨v943, e944⟩ : ∃ y : Int32, y = v884 + (1) := ⟨_, rfl⟩
            have tv943 : v943.toInt = v884.toInt + (1) := iv_add rfl (by decide) e944 (by omega) (by omega)
            refine lv_iinc (v := v943) (lv' := [(3, .int v943), (2, .int v941), (0, .ref h0), (1, .int x1)]) hx hb dX12_seenOf_62 hl (k := 1) rfl (by rw [e944]; rfl) (by decide) rfl (fun ls hl => ?_)
            refine lv_goto (tgt := 4) hx hb dX12_seenOf_65 (by decide) ?_
            exact ih_4 _ (by omega) locs ls v943 v941  rfl (lv_sub hl [0, 1, 2, 3] rfl) ⟨by omega, by omega⟩ ⟨by omega, by omega⟩ hS
  refine lv_iconst (v := 0) hx hb dX12_seenOf_0 (by decide) ?_
  refine lv_istore_n (lv' := [(2, .int 0), (0, .ref h0), (1, .int x1)]) hx hb dX12_seenOf_1 rfl hl (by decide) rfl (fun ls hl => ?_)
  refine lv_iconst (v := 0) hx hb dX12_seenOf_2 (by decide) ?_
  refine lv_istore_n (lv' := [(3, .int 0), (2, .int 0), (0, .ref h0), (1, .int x1)]) hx hb dX12_seenOf_3 rfl hl (by decide) rfl (fun ls hl => ?_)
  have zl : (0 : Int32).toInt = 0 := by decide
  exact J_4 _ [] ls 0 0  rfl (lv_sub hl [0, 1, 2, 3] rfl) ⟨by decide, by decide⟩ ⟨by decide, by decide⟩ hS
theorem dX12_suspects_0 : decode cX12_suspects 0 = .ok (.iload_n 1, 1) := by decide +kernel
theorem dX12_suspects_1 : decode cX12_suspects 1 = .ok (.invokestatic 129, 3) := by decide +kernel
theorem dX12_suspects_4 : decode cX12_suspects 4 = .ok (.ifCond .eq 8, 3) := by decide +kernel
theorem dX12_suspects_7 : decode cX12_suspects 7 = .ok (.iload_n 2, 1) := by decide +kernel
theorem dX12_suspects_8 : decode cX12_suspects 8 = .ok (.iconst (-1), 1) := by decide +kernel
theorem dX12_suspects_9 : decode cX12_suspects 9 = .ok (.if_icmp .ge 5, 3) := by decide +kernel
theorem dX12_suspects_12 : decode cX12_suspects 12 = .ok (.iconst (-1), 1) := by decide +kernel
theorem dX12_suspects_13 : decode cX12_suspects 13 = .ok (.ireturn, 1) := by decide +kernel
theorem dX12_suspects_14 : decode cX12_suspects 14 = .ok (.aload_n 0, 1) := by decide +kernel
theorem dX12_suspects_15 : decode cX12_suspects 15 = .ok (.invokevirtual 138, 3) := by decide +kernel
theorem dX12_suspects_18 : decode cX12_suspects 18 = .ok (.aload_n 0, 1) := by decide +kernel
theorem dX12_suspects_19 : decode cX12_suspects 19 = .ok (.iload_n 1, 1) := by decide +kernel
theorem dX12_suspects_20 : decode cX12_suspects 20 = .ok (.invokevirtual 348, 3) := by decide +kernel
theorem dX12_suspects_23 : decode cX12_suspects 23 = .ok (.istore_n 3, 1) := by decide +kernel
theorem dX12_suspects_24 : decode cX12_suspects 24 = .ok (.iconst 0, 1) := by decide +kernel
theorem dX12_suspects_25 : decode cX12_suspects 25 = .ok (.istore 4, 2) := by decide +kernel
theorem dX12_suspects_27 : decode cX12_suspects 27 = .ok (.iconst 0, 1) := by decide +kernel
theorem dX12_suspects_28 : decode cX12_suspects 28 = .ok (.istore 5, 2) := by decide +kernel
theorem dX12_suspects_30 : decode cX12_suspects 30 = .ok (.iload 5, 2) := by decide +kernel
theorem dX12_suspects_32 : decode cX12_suspects 32 = .ok (.sipush 2304, 3) := by decide +kernel
theorem dX12_suspects_35 : decode cX12_suspects 35 = .ok (.if_icmp .ge 43, 3) := by decide +kernel
theorem dX12_suspects_38 : decode cX12_suspects 38 = .ok (.aload_n 0, 1) := by decide +kernel
theorem dX12_suspects_39 : decode cX12_suspects 39 = .ok (.iload 5, 2) := by decide +kernel
theorem dX12_suspects_41 : decode cX12_suspects 41 = .ok (.bipush 24, 2) := by decide +kernel
theorem dX12_suspects_43 : decode cX12_suspects 43 = .ok (.irem, 1) := by decide +kernel
theorem dX12_suspects_44 : decode cX12_suspects 44 = .ok (.iload 5, 2) := by decide +kernel
theorem dX12_suspects_46 : decode cX12_suspects 46 = .ok (.bipush 24, 2) := by decide +kernel
theorem dX12_suspects_48 : decode cX12_suspects 48 = .ok (.idiv, 1) := by decide +kernel
theorem dX12_suspects_49 : decode cX12_suspects 49 = .ok (.iload_n 1, 1) := by decide +kernel
theorem dX12_suspects_50 : decode cX12_suspects 50 = .ok (.invokevirtual 351, 3) := by decide +kernel
theorem dX12_suspects_53 : decode cX12_suspects 53 = .ok (.iload_n 3, 1) := by decide +kernel
theorem dX12_suspects_54 : decode cX12_suspects 54 = .ok (.if_icmp .eq 6, 3) := by decide +kernel
theorem dX12_suspects_57 : decode cX12_suspects 57 = .ok (.goto 15, 3) := by decide +kernel
theorem dX12_suspects_60 : decode cX12_suspects 60 = .ok (.iload 4, 2) := by decide +kernel
theorem dX12_suspects_62 : decode cX12_suspects 62 = .ok (.iload_n 2, 1) := by decide +kernel
theorem dX12_suspects_63 : decode cX12_suspects 63 = .ok (.if_icmp .ne 6, 3) := by decide +kernel
theorem dX12_suspects_66 : decode cX12_suspects 66 = .ok (.iload 5, 2) := by decide +kernel
theorem dX12_suspects_68 : decode cX12_suspects 68 = .ok (.ireturn, 1) := by decide +kernel
theorem dX12_suspects_69 : decode cX12_suspects 69 = .ok (.iinc 4 1, 3) := by decide +kernel
theorem dX12_suspects_72 : decode cX12_suspects 72 = .ok (.iinc 5 1, 3) := by decide +kernel
theorem dX12_suspects_75 : decode cX12_suspects 75 = .ok (.goto (-45), 3) := by decide +kernel
theorem dX12_suspects_78 : decode cX12_suspects 78 = .ok (.iload_n 2, 1) := by decide +kernel
theorem dX12_suspects_79 : decode cX12_suspects 79 = .ok (.iconst (-1), 1) := by decide +kernel
theorem dX12_suspects_80 : decode cX12_suspects 80 = .ok (.if_icmp .ne 8, 3) := by decide +kernel
theorem dX12_suspects_83 : decode cX12_suspects 83 = .ok (.iload 4, 2) := by decide +kernel
theorem dX12_suspects_85 : decode cX12_suspects 85 = .ok (.goto 4, 3) := by decide +kernel
theorem dX12_suspects_88 : decode cX12_suspects 88 = .ok (.iconst (-1), 1) := by decide +kernel
theorem dX12_suspects_89 : decode cX12_suspects 89 = .ok (.ireturn, 1) := by decide +kernel
set_option maxHeartbeats 4000000 in
set_option maxRecDepth 100000 in
theorem c_X12_suspects (l : Launch) (E : Nat → Nat) (D : va_G) (G : th_G) (h0 : Nat) (hG0 : G h0 = some (10, 0)) (x1 : Int32) (x2 : Int32) : Met l yX12_suspects (tb (.code yX12_suspects cX12_suspects 6 (some .int))) (rm 69) (va_Pc [.ref h0, .int x1, .int x2] (PX E D G (fun H => True))) (QXi E D G (fun r H => True)) 0 0 (th_A G) := by
  refine Met.ofW (cc := cX12_suspects) (maxL := 6) (ret := (some .int)) (by decide) rfl ?_
  intro p e s m args below meth c s₁ B hml hv
  obtain ⟨hav, ⟨hI, hN, hK⟩, hX⟩ := hv
  have hx := B.exec
  have hb := B.bytes
  have hr := B.returns
  have hts := atoms_spec (ws := tb (.code yX12_suspects cX12_suspects 6 (some .int))) B.pre
  have hown : s.vm.findClass RX12 = some m.cls := findClass_of_methodNamed B.named
  have hlocks := B.notSynchronized
  have hS : va_S (th_A G) s.heap s.heap [] := va_S.rf
  have hl := lv_entry ([.ref h0, .int x1, .int x2]) (n := 6) (Nat.le_of_ble_eq_true rfl)
  rw [show entryFrame m args 6 = entryFrame m ([.ref h0, .int x1, .int x2] : List Value).toArray 6 from by rw [hav], lg_entry_eq]
  generalize (lg_sl ([.ref h0, .int x1, .int x2]) ++ List.replicate (6 - (lg_sl ([.ref h0, .int x1, .int x2])).length) Slot.unset).toArray = ls at hl ⊢
  have hl : lv_has ls 6 [(0, .ref h0), (1, .int x1), (2, .int x2)] := hl
  generalize hR : (headSpec (tb (.code yX12_suspects cX12_suspects 6 (some .int))) (rm 69)).room = R
  have hR := hR.symm
  generalize hQ : MQ below (QXi E D G (fun r H => True)) args s 0 0 (th_A G) = QF
  have hQ := hQ.symm
  have J_30 : ∀ (nn : Nat) (H : Heap) (locs : List Loc) (ls : Array Slot) (v2324 : Int32) (v2325 : Int32) (v2326 : Int32) , (Int.toNat (2304 - v2324.toInt) = nn) → lv_has ls 6 [(5, .int v2324), (4, .int v2325), (3, .int v2326), (0, .ref h0), (1, .int x1), (2, .int x2)] → ((0 : Int) ≤ v2324.toInt ∧ v2324.toInt ≤ 2304) → ((0 : Int) ≤ v2326.toInt ∧ v2326.toInt ≤ 1023) → ((0 : Int) ≤ x1.toInt ∧ x1.toInt ≤ 3) → ((-1 : Int) ≤ x2.toInt) → th_I (okM E) D G [] H → va_S (th_A G) s.heap H locs → W p l e R s m args below meth c H locs 0 0 QF (F0 m 30 ls []) := by
    intro nn
    induction nn using Nat.strongRecOn with
    | ind nn ih_30 =>
      intro H locs ls v2324 v2325 v2326  hm hl k2327 k2328 k2329 k2330 hI hS
      have J_72 : ∀ (H : Heap) (locs : List Loc) (ls : Array Slot) (v2331 : Int32) , lv_has ls 6 [(4, .int v2331), (5, .int v2324), (3, .int v2326), (0, .ref h0), (1, .int x1), (2, .int x2)] → ((0 : Int) ≤ v2324.toInt ∧ v2324.toInt ≤ 2303) → th_I (okM E) D G [] H → va_S (th_A G) s.heap H locs → W p l e R s m args below meth c H locs 0 0 QF (F0 m 72 ls []) := by
        intro H locs ls v2331  hl k2334 hI hS
        obtain ⟨v2335, e2336⟩ : ∃ y : Int32, y = v2324 + (1) := ⟨_, rfl⟩
        have tv2335 : v2335.toInt = v2324.toInt + (1) := iv_add rfl (by decide) e2336 (by omega) (by omega)
        refine lv_iinc (v := v2335) (lv' := [(5, .int v2335), (4, .int v2331), (3, .int v2326), (0, .ref h0), (1, .int x1), (2, .int x2)]) hx hb dX12_suspects_72 hl (k := 1) rfl (by rw [e2336]; rfl) (by decide) rfl (fun ls hl => ?_)
        refine lv_goto (tgt := 30) hx hb dX12_suspects_75 (by decide) ?_
        exact ih_30 _ (by omega) H locs ls v2335 v2331 v2326  rfl (lv_sub hl [0, 1, 2, 3, 4, 5] rfl) ⟨by omega, by omega⟩ ⟨by omega, by omega⟩ ⟨by omega, by omega⟩ (by omega) hI hS
      refine lv_iload hx hb dX12_suspects_30 (lv_at hl 0 rfl) ?_
      refine lv_sipush (v := 2304) hx hb dX12_suspects_32 (by decide) ?_
      refine lv_icmp_ge (tgt := 78) hx hb dX12_suspects_35 (by decide) (fun c2337 => ?_) (fun c2337 => ?_)
      · skip
        have k2338 := iv_le (X := (2304)) (Y := v2324.toInt) (by decide) rfl c2337
        refine lv_iload_n hx hb dX12_suspects_78 rfl (lv_at hl 5 rfl) ?_
        refine lv_iconst (v := (-1)) hx hb dX12_suspects_79 (by decide) ?_
        have k2339 := iv_lo x2
        have k2340 := iv_hi x2
        refine lv_icmp_ne (tgt := 88) hx hb dX12_suspects_80 (by decide) (fun c2341 => ?_) (fun c2341 => ?_)
        · skip
          have k2342 := iv_ne (X := x2.toInt) (Y := (-1)) rfl (by decide) c2341
          refine lv_iconst (v := (-1)) hx hb dX12_suspects_88 (by decide) ?_
          have hpost : True := trivial
          rw [hQ]
          exact W.iret (v := (-1)) hx hb hr (fun t ht hW => ⟨⟨(-1), (-1), rfl, rfl, ⟨by rw [ht]; exact hI, hN.warm hW, va_K.moved hW.alike hK⟩, by first | (rw [ht]; exact hpost) | exact hpost⟩, hS.F ht⟩) hS.2.2 dX12_suspects_89
        · skip
          have k2343 := iv_eq (X := x2.toInt) (Y := (-1)) rfl (by decide) c2341
          refine lv_iload hx hb dX12_suspects_83 (lv_at hl 1 rfl) ?_
          refine lv_goto (tgt := 89) hx hb dX12_suspects_85 (by decide) ?_
          have hpost : True := trivial
          rw [hQ]
          exact W.iret (v := v2325) hx hb hr (fun t ht hW => ⟨⟨v2325, v2325, rfl, rfl, ⟨by rw [ht]; exact hI, hN.warm hW, va_K.moved hW.alike hK⟩, by first | (rw [ht]; exact hpost) | exact hpost⟩, hS.F ht⟩) hS.2.2 dX12_suspects_89
      · skip
        have k2344 := iv_nle (X := (2304)) (Y := v2324.toInt) (by decide) rfl c2337
        refine lv_aload_n hx hb dX12_suspects_38 rfl (lv_at hl 3 rfl) ?_
        refine lv_iload hx hb dX12_suspects_39 (lv_at hl 0 rfl) ?_
        refine lv_bipush (v := 24) hx hb dX12_suspects_41 (by decide) ?_
        refine lv_irem hx hb dX12_suspects_43 (by decide) ?_
        refine lv_topi (fun v2345 e2346 => ?_)
        have tv2345 := iv_remp (X := v2324.toInt) (Y := 24) rfl (by decide) e2346 (by decide) (by omega)
        refine lv_iload hx hb dX12_suspects_44 (lv_at hl 0 rfl) ?_
        refine lv_bipush (v := 24) hx hb dX12_suspects_46 (by decide) ?_
        refine lv_idiv hx hb dX12_suspects_48 (by decide) ?_
        refine lv_topi (fun v2347 e2348 => ?_)
        have tv2347 := iv_divp (X := v2324.toInt) (Y := 24) rfl (by decide) e2348 (by decide) (by omega)
        refine lv_iload_n hx hb dX12_suspects_49 rfl (lv_at hl 4 rfl) ?_
        refine mr_i (As := [.int v2345, .int v2347, .int x1]) (rest := []) (n := 3) (d := 0) ⟨hx, hb, hml, hown, hts⟩ (c_X12_seenBy l E D G H h0 hG0 v2345 v2347 x1 ⟨by omega, by omega⟩ (by omega)) wd_1765 wd_1767 wp_87 wd_13 wd_1768 (by decide +kernel) ⟨by rw [hR]; exact Nat.le_of_ble_eq_true rfl, by rw [hR]; exact Nat.le_of_ble_eq_true rfl⟩ hI hN hK hS hG0 rfl hl.1 rfl (Nat.le_of_ble_eq_true rfl) dX12_suspects_50 ⟨Nat.zero_le _, Nat.zero_le _⟩ (fun r2349 locs hp hS => ?_)
        have hp2350 := hp
        refine lv_iload_n hx hb dX12_suspects_53 rfl (lv_at hl 2 rfl) ?_
        refine lv_icmp_eq (tgt := 60) hx hb dX12_suspects_54 (by decide) (fun c2351 => ?_) (fun c2351 => ?_)
        · skip
          have k2352 := iv_eq (X := r2349.toInt) (Y := v2326.toInt) rfl rfl c2351
          refine lv_iload hx hb dX12_suspects_60 (lv_at hl 1 rfl) ?_
          refine lv_iload_n hx hb dX12_suspects_62 rfl (lv_at hl 5 rfl) ?_
          have k2353 := iv_lo v2325
          have k2354 := iv_hi v2325
          have k2355 := iv_lo x2
          have k2356 := iv_hi x2
          refine lv_icmp_ne (tgt := 69) hx hb dX12_suspects_63 (by decide) (fun c2357 => ?_) (fun c2357 => ?_)
          · skip
            have k2358 := iv_ne (X := v2325.toInt) (Y := x2.toInt) rfl rfl c2357
            obtain ⟨v2359, e2360⟩ : ∃ y : Int32, y = v2325 + (1) := ⟨_, rfl⟩
            refine lv_iinc (v := v2359) (lv' := [(4, .int v2359), (5, .int v2324), (3, .int v2326), (0, .ref h0), (1, .int x1), (2, .int x2)]) hx hb dX12_suspects_69 hl (k := 1) rfl (by rw [e2360]; rfl) (by decide) rfl (fun ls hl => ?_)
            exact J_72 H locs ls v2359  (lv_sub hl [0, 1, 2, 3, 4, 5] rfl) ⟨by omega, by omega⟩ hI hS
          · skip
            have k2361 := iv_eq (X := v2325.toInt) (Y := x2.toInt) rfl rfl c2357
            refine lv_iload hx hb dX12_suspects_66 (lv_at hl 0 rfl) ?_
            have hpost : True := trivial
            rw [hQ]
            exact W.iret (v := v2324) hx hb hr (fun t ht hW => ⟨⟨v2324, v2324, rfl, rfl, ⟨by rw [ht]; exact hI, hN.warm hW, va_K.moved hW.alike hK⟩, by first | (rw [ht]; exact hpost) | exact hpost⟩, hS.F ht⟩) hS.2.2 dX12_suspects_68
        · skip
          have k2362 := iv_ne (X := r2349.toInt) (Y := v2326.toInt) rfl rfl c2351
          refine lv_goto (tgt := 72) hx hb dX12_suspects_57 (by decide) ?_
          exact J_72 H locs ls v2325  (lv_sub hl [1, 0, 2, 3, 4, 5] rfl) ⟨by omega, by omega⟩ hI hS
  have J_12 : ∀ (H : Heap) (locs : List Loc) (ls : Array Slot)  , lv_has ls 6 [(0, .ref h0), (1, .int x1), (2, .int x2)] → th_I (okM E) D G [] H → va_S (th_A G) s.heap H locs → W p l e R s m args below meth c H locs 0 0 QF (F0 m 12 ls []) := by
    intro H locs ls   hl  hI hS
    refine lv_iconst (v := (-1)) hx hb dX12_suspects_12 (by decide) ?_
    have hpost : True := trivial
    rw [hQ]
    exact W.iret (v := (-1)) hx hb hr (fun t ht hW => ⟨⟨(-1), (-1), rfl, rfl, ⟨by rw [ht]; exact hI, hN.warm hW, va_K.moved hW.alike hK⟩, by first | (rw [ht]; exact hpost) | exact hpost⟩, hS.F ht⟩) hS.2.2 dX12_suspects_13
  refine lv_iload_n hx hb dX12_suspects_0 rfl (lv_at hl 1 rfl) ?_
  refine th_cSs (As := [.int x1]) (rest := []) (n := 1) (d := 1) ⟨hx, hb, hml, hown, hts⟩ (c_X12_isColour l s.heap x1) wd_1545 wd_1546 wd_13 wd_1547 (by decide +kernel) ⟨by rw [hR]; exact Nat.le_of_ble_eq_true rfl, by rw [hR]; exact Nat.le_of_ble_eq_true rfl⟩ hN hS rfl hl.1 rfl (Nat.le_of_ble_eq_true rfl) dX12_suspects_1 ⟨Nat.zero_le _, Nat.zero_le _⟩ (fun r2363 locs hp hS => ?_)
  rcases hp with ⟨rfl, hp⟩ | ⟨rfl, hp⟩
  · skip
    try simp only [rg, not_and, Int.not_le] at hp
    have hp2364 := hp
    refine lv_if_eq (tgt := 12) hx hb dX12_suspects_4 (by decide) (fun c => absurd c (by decide)) (fun _ => ?_)
    refine lv_iload_n hx hb dX12_suspects_7 rfl (lv_at hl 2 rfl) ?_
    refine lv_iconst (v := (-1)) hx hb dX12_suspects_8 (by decide) ?_
    have k2365 := iv_lo x2
    have k2366 := iv_hi x2
    refine lv_icmp_ge (tgt := 14) hx hb dX12_suspects_9 (by decide) (fun c2367 => ?_) (fun c2367 => ?_)
    · skip
      have k2368 := iv_le (X := (-1)) (Y := x2.toInt) (by decide) rfl c2367
      refine lv_aload_n hx hb dX12_suspects_14 rfl (lv_at hl 0 rfl) ?_
      refine mx_v (As := []) (rest := []) (n := 0) (d := 68) ⟨hx, hb, hml, hown, hts⟩ (c_X12_looks l E D G h0 hG0 ) wd_1455 wd_1457 wp_43 wd_13 wd_1458 (by decide +kernel) ⟨by rw [hR]; exact Nat.le_of_ble_eq_true rfl, by rw [hR]; exact Nat.le_of_ble_eq_true rfl⟩ hI hN hK hS hG0 (trivial) rfl hl.1 rfl (Nat.le_of_ble_eq_true rfl) dX12_suspects_15 ⟨Nat.zero_le _, Nat.zero_le _⟩ (fun H locs hI hp hS => ?_)
      refine lv_aload_n hx hb dX12_suspects_18 rfl (lv_at hl 0 rfl) ?_
      refine lv_iload_n hx hb dX12_suspects_19 rfl (lv_at hl 1 rfl) ?_
      refine mr_i (As := [.int x1]) (rest := []) (n := 1) (d := 0) ⟨hx, hb, hml, hown, hts⟩ (c_X12_seenOf l E D G H h0 hG0 x1) wd_1761 wd_1763 wp_86 wd_13 wd_1764 (by decide +kernel) ⟨by rw [hR]; exact Nat.le_of_ble_eq_true rfl, by rw [hR]; exact Nat.le_of_ble_eq_true rfl⟩ hI hN hK hS hG0 rfl hl.1 rfl (Nat.le_of_ble_eq_true rfl) dX12_suspects_20 ⟨Nat.zero_le _, Nat.zero_le _⟩ (fun r2370 locs hp hS => ?_)
      have hp2371 := hp
      refine lv_istore_n (lv' := [(3, .int r2370), (0, .ref h0), (1, .int x1), (2, .int x2)]) hx hb dX12_suspects_23 rfl hl (by decide) rfl (fun ls hl => ?_)
      refine lv_iconst (v := 0) hx hb dX12_suspects_24 (by decide) ?_
      refine lv_istore (lv' := [(4, .int 0), (3, .int r2370), (0, .ref h0), (1, .int x1), (2, .int x2)]) hx hb dX12_suspects_25 hl (by decide) rfl (fun ls hl => ?_)
      refine lv_iconst (v := 0) hx hb dX12_suspects_27 (by decide) ?_
      refine lv_istore (lv' := [(5, .int 0), (4, .int 0), (3, .int r2370), (0, .ref h0), (1, .int x1), (2, .int x2)]) hx hb dX12_suspects_28 hl (by decide) rfl (fun ls hl => ?_)
      have zl : (0 : Int32).toInt = 0 := by decide
      exact J_30 _ H locs ls 0 0 r2370  rfl (lv_sub hl [0, 1, 2, 3, 4, 5] rfl) ⟨by decide, by decide⟩ ⟨by omega, by omega⟩ ⟨by omega, by omega⟩ (by omega) hI hS
    · skip
      have k2372 := iv_nle (X := (-1)) (Y := x2.toInt) (by decide) rfl c2367
      exact J_12 s.heap locs ls   (lv_sub hl [0, 1, 2] rfl)  hI hS
  · skip
    try simp only [rg, not_and, Int.not_le] at hp
    have hp2373 := hp
    refine lv_if_eq (tgt := 12) hx hb dX12_suspects_4 (by decide) (fun _ => ?_) (fun c => absurd c (by decide))
    exact J_12 s.heap locs ls   (lv_sub hl [0, 1, 2] rfl)  hI hS
theorem dX12_pairs_0 : decode cX12_pairs 0 = .ok (.iload_n 1, 1) := by decide +kernel
theorem dX12_pairs_1 : decode cX12_pairs 1 = .ok (.invokestatic 129, 3) := by decide +kernel
theorem dX12_pairs_4 : decode cX12_pairs 4 = .ok (.ifCond .ne 5, 3) := by decide +kernel
theorem dX12_pairs_7 : decode cX12_pairs 7 = .ok (.iconst (-1), 1) := by decide +kernel
theorem dX12_pairs_8 : decode cX12_pairs 8 = .ok (.ireturn, 1) := by decide +kernel
theorem dX12_pairs_9 : decode cX12_pairs 9 = .ok (.aload_n 0, 1) := by decide +kernel
theorem dX12_pairs_10 : decode cX12_pairs 10 = .ok (.invokevirtual 138, 3) := by decide +kernel
theorem dX12_pairs_13 : decode cX12_pairs 13 = .ok (.aload_n 0, 1) := by decide +kernel
theorem dX12_pairs_14 : decode cX12_pairs 14 = .ok (.iload_n 1, 1) := by decide +kernel
theorem dX12_pairs_15 : decode cX12_pairs 15 = .ok (.invokevirtual 348, 3) := by decide +kernel
theorem dX12_pairs_18 : decode cX12_pairs 18 = .ok (.istore_n 2, 1) := by decide +kernel
theorem dX12_pairs_19 : decode cX12_pairs 19 = .ok (.iconst 0, 1) := by decide +kernel
theorem dX12_pairs_20 : decode cX12_pairs 20 = .ok (.istore_n 3, 1) := by decide +kernel
theorem dX12_pairs_21 : decode cX12_pairs 21 = .ok (.iload_n 3, 1) := by decide +kernel
theorem dX12_pairs_22 : decode cX12_pairs 22 = .ok (.sipush 1024, 3) := by decide +kernel
theorem dX12_pairs_25 : decode cX12_pairs 25 = .ok (.if_icmp .ge 16, 3) := by decide +kernel
theorem dX12_pairs_28 : decode cX12_pairs 28 = .ok (.aload_n 0, 1) := by decide +kernel
theorem dX12_pairs_29 : decode cX12_pairs 29 = .ok (.getfield 73, 3) := by decide +kernel
theorem dX12_pairs_32 : decode cX12_pairs 32 = .ok (.iload_n 3, 1) := by decide +kernel
theorem dX12_pairs_33 : decode cX12_pairs 33 = .ok (.iconst 0, 1) := by decide +kernel
theorem dX12_pairs_34 : decode cX12_pairs 34 = .ok (.iastore, 1) := by decide +kernel
theorem dX12_pairs_35 : decode cX12_pairs 35 = .ok (.iinc 3 1, 3) := by decide +kernel
theorem dX12_pairs_38 : decode cX12_pairs 38 = .ok (.goto (-17), 3) := by decide +kernel
theorem dX12_pairs_41 : decode cX12_pairs 41 = .ok (.iconst 0, 1) := by decide +kernel
theorem dX12_pairs_42 : decode cX12_pairs 42 = .ok (.istore_n 3, 1) := by decide +kernel
theorem dX12_pairs_43 : decode cX12_pairs 43 = .ok (.iload_n 3, 1) := by decide +kernel
theorem dX12_pairs_44 : decode cX12_pairs 44 = .ok (.sipush 2304, 3) := by decide +kernel
theorem dX12_pairs_47 : decode cX12_pairs 47 = .ok (.if_icmp .ge 31, 3) := by decide +kernel
theorem dX12_pairs_50 : decode cX12_pairs 50 = .ok (.aload_n 0, 1) := by decide +kernel
theorem dX12_pairs_51 : decode cX12_pairs 51 = .ok (.getfield 73, 3) := by decide +kernel
theorem dX12_pairs_54 : decode cX12_pairs 54 = .ok (.aload_n 0, 1) := by decide +kernel
theorem dX12_pairs_55 : decode cX12_pairs 55 = .ok (.iload_n 3, 1) := by decide +kernel
theorem dX12_pairs_56 : decode cX12_pairs 56 = .ok (.bipush 24, 2) := by decide +kernel
theorem dX12_pairs_58 : decode cX12_pairs 58 = .ok (.irem, 1) := by decide +kernel
theorem dX12_pairs_59 : decode cX12_pairs 59 = .ok (.iload_n 3, 1) := by decide +kernel
theorem dX12_pairs_60 : decode cX12_pairs 60 = .ok (.bipush 24, 2) := by decide +kernel
theorem dX12_pairs_62 : decode cX12_pairs 62 = .ok (.idiv, 1) := by decide +kernel
theorem dX12_pairs_63 : decode cX12_pairs 63 = .ok (.iload_n 1, 1) := by decide +kernel
theorem dX12_pairs_64 : decode cX12_pairs 64 = .ok (.invokevirtual 351, 3) := by decide +kernel
theorem dX12_pairs_67 : decode cX12_pairs 67 = .ok (.dup2, 1) := by decide +kernel
theorem dX12_pairs_68 : decode cX12_pairs 68 = .ok (.iaload, 1) := by decide +kernel
theorem dX12_pairs_69 : decode cX12_pairs 69 = .ok (.iconst 1, 1) := by decide +kernel
theorem dX12_pairs_70 : decode cX12_pairs 70 = .ok (.iadd, 1) := by decide +kernel
theorem dX12_pairs_71 : decode cX12_pairs 71 = .ok (.iastore, 1) := by decide +kernel
theorem dX12_pairs_72 : decode cX12_pairs 72 = .ok (.iinc 3 1, 3) := by decide +kernel
theorem dX12_pairs_75 : decode cX12_pairs 75 = .ok (.goto (-32), 3) := by decide +kernel
theorem dX12_pairs_78 : decode cX12_pairs 78 = .ok (.aload_n 0, 1) := by decide +kernel
theorem dX12_pairs_79 : decode cX12_pairs 79 = .ok (.getfield 73, 3) := by decide +kernel
theorem dX12_pairs_82 : decode cX12_pairs 82 = .ok (.iload_n 2, 1) := by decide +kernel
theorem dX12_pairs_83 : decode cX12_pairs 83 = .ok (.iaload, 1) := by decide +kernel
theorem dX12_pairs_84 : decode cX12_pairs 84 = .ok (.aload_n 0, 1) := by decide +kernel
theorem dX12_pairs_85 : decode cX12_pairs 85 = .ok (.getfield 73, 3) := by decide +kernel
theorem dX12_pairs_88 : decode cX12_pairs 88 = .ok (.iload_n 2, 1) := by decide +kernel
theorem dX12_pairs_89 : decode cX12_pairs 89 = .ok (.iaload, 1) := by decide +kernel
theorem dX12_pairs_90 : decode cX12_pairs 90 = .ok (.iconst 1, 1) := by decide +kernel
theorem dX12_pairs_91 : decode cX12_pairs 91 = .ok (.isub, 1) := by decide +kernel
theorem dX12_pairs_92 : decode cX12_pairs 92 = .ok (.imul, 1) := by decide +kernel
theorem dX12_pairs_93 : decode cX12_pairs 93 = .ok (.iconst 2, 1) := by decide +kernel
theorem dX12_pairs_94 : decode cX12_pairs 94 = .ok (.idiv, 1) := by decide +kernel
theorem dX12_pairs_95 : decode cX12_pairs 95 = .ok (.istore_n 3, 1) := by decide +kernel
theorem dX12_pairs_96 : decode cX12_pairs 96 = .ok (.iconst 0, 1) := by decide +kernel
theorem dX12_pairs_97 : decode cX12_pairs 97 = .ok (.istore 4, 2) := by decide +kernel
theorem dX12_pairs_99 : decode cX12_pairs 99 = .ok (.iload 4, 2) := by decide +kernel
theorem dX12_pairs_101 : decode cX12_pairs 101 = .ok (.sipush 1024, 3) := by decide +kernel
theorem dX12_pairs_104 : decode cX12_pairs 104 = .ok (.if_icmp .ge 70, 3) := by decide +kernel
theorem dX12_pairs_107 : decode cX12_pairs 107 = .ok (.iload 4, 2) := by decide +kernel
theorem dX12_pairs_109 : decode cX12_pairs 109 = .ok (.iconst 1, 1) := by decide +kernel
theorem dX12_pairs_110 : decode cX12_pairs 110 = .ok (.iadd, 1) := by decide +kernel
theorem dX12_pairs_111 : decode cX12_pairs 111 = .ok (.istore 5, 2) := by decide +kernel
theorem dX12_pairs_113 : decode cX12_pairs 113 = .ok (.iload 5, 2) := by decide +kernel
theorem dX12_pairs_115 : decode cX12_pairs 115 = .ok (.sipush 1024, 3) := by decide +kernel
theorem dX12_pairs_118 : decode cX12_pairs 118 = .ok (.if_icmp .ge 50, 3) := by decide +kernel
theorem dX12_pairs_121 : decode cX12_pairs 121 = .ok (.aload_n 0, 1) := by decide +kernel
theorem dX12_pairs_122 : decode cX12_pairs 122 = .ok (.getfield 73, 3) := by decide +kernel
theorem dX12_pairs_125 : decode cX12_pairs 125 = .ok (.iload 4, 2) := by decide +kernel
theorem dX12_pairs_127 : decode cX12_pairs 127 = .ok (.iaload, 1) := by decide +kernel
theorem dX12_pairs_128 : decode cX12_pairs 128 = .ok (.ifCond .le 40, 3) := by decide +kernel
theorem dX12_pairs_131 : decode cX12_pairs 131 = .ok (.iload_n 3, 1) := by decide +kernel
theorem dX12_pairs_132 : decode cX12_pairs 132 = .ok (.iload 4, 2) := by decide +kernel
theorem dX12_pairs_134 : decode cX12_pairs 134 = .ok (.iload 5, 2) := by decide +kernel
theorem dX12_pairs_136 : decode cX12_pairs 136 = .ok (.ior, 1) := by decide +kernel
theorem dX12_pairs_137 : decode cX12_pairs 137 = .ok (.iload_n 2, 1) := by decide +kernel
theorem dX12_pairs_138 : decode cX12_pairs 138 = .ok (.if_icmp .ne 21, 3) := by decide +kernel
theorem dX12_pairs_141 : decode cX12_pairs 141 = .ok (.aload_n 0, 1) := by decide +kernel
theorem dX12_pairs_142 : decode cX12_pairs 142 = .ok (.getfield 73, 3) := by decide +kernel
theorem dX12_pairs_145 : decode cX12_pairs 145 = .ok (.iload 4, 2) := by decide +kernel
theorem dX12_pairs_147 : decode cX12_pairs 147 = .ok (.iaload, 1) := by decide +kernel
theorem dX12_pairs_148 : decode cX12_pairs 148 = .ok (.aload_n 0, 1) := by decide +kernel
theorem dX12_pairs_149 : decode cX12_pairs 149 = .ok (.getfield 73, 3) := by decide +kernel
theorem dX12_pairs_152 : decode cX12_pairs 152 = .ok (.iload 5, 2) := by decide +kernel
theorem dX12_pairs_154 : decode cX12_pairs 154 = .ok (.iaload, 1) := by decide +kernel
theorem dX12_pairs_155 : decode cX12_pairs 155 = .ok (.imul, 1) := by decide +kernel
theorem dX12_pairs_156 : decode cX12_pairs 156 = .ok (.goto 4, 3) := by decide +kernel
theorem dX12_pairs_159 : decode cX12_pairs 159 = .ok (.iconst 0, 1) := by decide +kernel
theorem dX12_pairs_160 : decode cX12_pairs 160 = .ok (.iadd, 1) := by decide +kernel
theorem dX12_pairs_161 : decode cX12_pairs 161 = .ok (.istore_n 3, 1) := by decide +kernel
theorem dX12_pairs_162 : decode cX12_pairs 162 = .ok (.iinc 5 1, 3) := by decide +kernel
theorem dX12_pairs_165 : decode cX12_pairs 165 = .ok (.goto (-52), 3) := by decide +kernel
theorem dX12_pairs_168 : decode cX12_pairs 168 = .ok (.iinc 4 1, 3) := by decide +kernel
theorem dX12_pairs_171 : decode cX12_pairs 171 = .ok (.goto (-72), 3) := by decide +kernel
theorem dX12_pairs_174 : decode cX12_pairs 174 = .ok (.iload_n 3, 1) := by decide +kernel
theorem dX12_pairs_175 : decode cX12_pairs 175 = .ok (.ireturn, 1) := by decide +kernel
set_option maxHeartbeats 4000000 in
set_option maxRecDepth 100000 in
theorem c_X12_pairs (l : Launch) (E : Nat → Nat) (D : va_G) (G : th_G) (h0 : Nat) (hG0 : G h0 = some (10, 0)) (x1 : Int32) : Met l yX12_pairs (tb (.code yX12_pairs cX12_pairs 6 (some .int))) (rm 69) (va_Pc [.ref h0, .int x1] (PX E D G (fun H => True))) (QXi E D G (fun r H => True)) 0 0 (th_A G) := by
  refine Met.ofW (cc := cX12_pairs) (maxL := 6) (ret := (some .int)) (by decide) rfl ?_
  intro p e s m args below meth c s₁ B hml hv
  obtain ⟨hav, ⟨hI, hN, hK⟩, hX⟩ := hv
  have hx := B.exec
  have hb := B.bytes
  have hr := B.returns
  have hts := atoms_spec (ws := tb (.code yX12_pairs cX12_pairs 6 (some .int))) B.pre
  have hown : s.vm.findClass RX12 = some m.cls := findClass_of_methodNamed B.named
  have hlocks := B.notSynchronized
  have hS : va_S (th_A G) s.heap s.heap [] := va_S.rf
  have hl := lv_entry ([.ref h0, .int x1]) (n := 6) (Nat.le_of_ble_eq_true rfl)
  rw [show entryFrame m args 6 = entryFrame m ([.ref h0, .int x1] : List Value).toArray 6 from by rw [hav], lg_entry_eq]
  generalize (lg_sl ([.ref h0, .int x1]) ++ List.replicate (6 - (lg_sl ([.ref h0, .int x1])).length) Slot.unset).toArray = ls at hl ⊢
  have hl : lv_has ls 6 [(0, .ref h0), (1, .int x1)] := hl
  generalize hR : (headSpec (tb (.code yX12_pairs cX12_pairs 6 (some .int))) (rm 69)).room = R
  have hR := hR.symm
  generalize hQ : MQ below (QXi E D G (fun r H => True)) args s 0 0 (th_A G) = QF
  have hQ := hQ.symm
  have J_99 : ∀ (nn : Nat) (H : Heap) (locs : List Loc) (ls : Array Slot) (v2513 : Int32) (v2514 : Int32) (v2515 : Int32) , (Int.toNat (1024 - v2513.toInt) = nn) → lv_has ls 6 [(4, .int v2513), (3, .int v2514), (2, .int v2515), (0, .ref h0), (1, .int x1)] → ((0 : Int) ≤ v2513.toInt ∧ v2513.toInt ≤ 1024) → ((0 : Int) ≤ v2515.toInt ∧ v2515.toInt ≤ 1023) → ((0 : Int) ≤ x1.toInt ∧ x1.toInt ≤ 3) → th_I (okM E) D G [] H → va_S (th_A G) s.heap H locs → W p l e R s m args below meth c H locs 0 0 QF (F0 m 99 ls []) := by
    intro nn
    induction nn using Nat.strongRecOn with
    | ind nn ih_99 =>
      intro H locs ls v2513 v2514 v2515  hm hl k2516 k2517 k2518 hI hS
      have J_113 : ∀ (nn : Nat) (H : Heap) (locs : List Loc) (ls : Array Slot) (v2519 : Int32) (v2521 : Int32) , (Int.toNat (1024 - v2519.toInt) = nn) → lv_has ls 6 [(5, .int v2519), (4, .int v2513), (3, .int v2521), (2, .int v2515), (0, .ref h0), (1, .int x1)] → ((1 : Int) ≤ v2519.toInt ∧ v2519.toInt ≤ 1024) → ((0 : Int) ≤ v2513.toInt ∧ v2513.toInt ≤ 1023) → th_I (okM E) D G [] H → va_S (th_A G) s.heap H locs → W p l e R s m args below meth c H locs 0 0 QF (F0 m 113 ls []) := by
        intro nn
        induction nn using Nat.strongRecOn with
        | ind nn ih_113 =>
          intro H locs ls v2519 v2521  hm hl k2523 k2524 hI hS
          refine lv_iload hx hb dX12_pairs_113 (lv_at hl 0 rfl) ?_
          refine lv_sipush (v := 1024) hx hb dX12_pairs_115 (by decide) ?_
          refine lv_icmp_ge (tgt := 168) hx hb dX12_pairs_118 (by decide) (fun c2525 => ?_) (fun c2525 => ?_)
          · skip
            have k2526 := iv_le (X := (1024)) (Y := v2519.toInt) (by decide) rfl c2525
            obtain ⟨v2527, e2528⟩ : ∃ y : Int32, y = v2513 + (1) := ⟨_, rfl⟩
            have tv2527 : v2527.toInt = v2513.toInt + (1) := iv_add rfl (by decide) e2528 (by omega) (by omega)
            refine lv_iinc (v := v2527) (lv' := [(4, .int v2527), (5, .int v2519), (3, .int v2521), (2, .int v2515), (0, .ref h0), (1, .int x1)]) hx hb dX12_pairs_168 hl (k := 1) rfl (by rw [e2528]; rfl) (by decide) rfl (fun ls hl => ?_)
            refine lv_goto (tgt := 99) hx hb dX12_pairs_171 (by decide) ?_
            exact ih_99 _ (by omega) H locs ls v2527 v2521 v2515  rfl (lv_sub hl [0, 2, 3, 4, 5] rfl) ⟨by omega, by omega⟩ ⟨by omega, by omega⟩ ⟨by omega, by omega⟩ hI hS
          · skip
            have k2529 := iv_nle (X := (1024)) (Y := v2519.toInt) (by decide) rfl c2525
            refine lv_aload_n hx hb dX12_pairs_121 rfl (lv_at hl 4 rfl) ?_
            refine gmA hx hb hts inT12 hown hK hI List.not_mem_nil hG0 34 (by decide) (hts _ (tb_c wd_1267)) rfl rfl dX12_pairs_122 (fun a2530 hq2531 hf2532 => ?_)
            refine lv_iload hx hb dX12_pairs_125 (lv_at hl 1 rfl) ?_
            obtain ⟨F2533, hA2534⟩ := om_0 hI hq2531 List.not_mem_nil
            refine th_iald hx hb hK hA2534 0 rfl (iv_in (X := v2513.toInt) rfl (by omega) (by omega)) dX12_pairs_127 (fun v2535 e2536 => ?_)
            have k2537 := iv_lo v2535
            have k2538 := iv_hi v2535
            refine lv_if_le (tgt := 168) hx hb dX12_pairs_128 (by decide) (fun c2539 => ?_) (fun c2539 => ?_)
            · skip
              have k2540 := iv_le (X := v2535.toInt) (Y := (0)) rfl (by decide) c2539
              obtain ⟨v2541, e2542⟩ : ∃ y : Int32, y = v2513 + (1) := ⟨_, rfl⟩
              have tv2541 : v2541.toInt = v2513.toInt + (1) := iv_add rfl (by decide) e2542 (by omega) (by omega)
              refine lv_iinc (v := v2541) (lv' := [(4, .int v2541), (5, .int v2519), (3, .int v2521), (2, .int v2515), (0, .ref h0), (1, .int x1)]) hx hb dX12_pairs_168 hl (k := 1) rfl (by rw [e2542]; rfl) (by decide) rfl (fun ls hl => ?_)
              refine lv_goto (tgt := 99) hx hb dX12_pairs_171 (by decide) ?_
              exact ih_99 _ (by omega) H locs ls v2541 v2521 v2515  rfl (lv_sub hl [0, 2, 3, 4, 5] rfl) ⟨by omega, by omega⟩ ⟨by omega, by omega⟩ ⟨by omega, by omega⟩ hI hS
            · skip
              have k2543 := iv_nle (X := v2535.toInt) (Y := (0)) rfl (by decide) c2539
              refine lv_iload_n hx hb dX12_pairs_131 rfl (lv_at hl 2 rfl) ?_
              refine lv_iload hx hb dX12_pairs_132 (lv_at hl 1 rfl) ?_
              refine lv_iload hx hb dX12_pairs_134 (lv_at hl 0 rfl) ?_
              refine lv_ior hx hb dX12_pairs_136 ?_
              refine lv_topi (fun v2544 e2545 => ?_)
              have tv2544 := iv_or (X := v2513.toInt) (Y := v2519.toInt) rfl rfl e2545 (by omega) (by omega) (by omega) (by omega)
              refine lv_iload_n hx hb dX12_pairs_137 rfl (lv_at hl 3 rfl) ?_
              refine lv_icmp_ne (tgt := 159) hx hb dX12_pairs_138 (by decide) (fun c2546 => ?_) (fun c2546 => ?_)
              · skip
                have k2547 := iv_ne (X := v2544.toInt) (Y := v2515.toInt) rfl rfl c2546
                refine lv_iconst (v := 0) hx hb dX12_pairs_159 (by decide) ?_
                refine lv_iadd hx hb dX12_pairs_160 ?_
                refine lv_topi (fun v2548 e2549 => ?_)
                have k2550 := iv_lo v2521
                have k2551 := iv_hi v2521
                have tv2548 : v2548.toInt = v2521.toInt + (0) := iv_add rfl (by decide) e2549 (by omega) (by omega)
                refine lv_istore_n (lv' := [(3, .int v2548), (5, .int v2519), (4, .int v2513), (2, .int v2515), (0, .ref h0), (1, .int x1)]) hx hb dX12_pairs_161 rfl hl (by decide) rfl (fun ls hl => ?_)
                obtain ⟨v2552, e2553⟩ : ∃ y : Int32, y = v2519 + (1) := ⟨_, rfl⟩
                have tv2552 : v2552.toInt = v2519.toInt + (1) := iv_add rfl (by decide) e2553 (by omega) (by omega)
                refine lv_iinc (v := v2552) (lv' := [(5, .int v2552), (3, .int v2548), (4, .int v2513), (2, .int v2515), (0, .ref h0), (1, .int x1)]) hx hb dX12_pairs_162 hl (k := 1) rfl (by rw [e2553]; rfl) (by decide) rfl (fun ls hl => ?_)
                refine lv_goto (tgt := 113) hx hb dX12_pairs_165 (by decide) ?_
                exact ih_113 _ (by omega) H locs ls v2552 v2548  rfl (lv_sub hl [0, 2, 1, 3, 4, 5] rfl) ⟨by omega, by omega⟩ ⟨by omega, by omega⟩ hI hS
              · skip
                have k2554 := iv_eq (X := v2544.toInt) (Y := v2515.toInt) rfl rfl c2546
                refine lv_aload_n hx hb dX12_pairs_141 rfl (lv_at hl 4 rfl) ?_
                refine gmA hx hb hts inT12 hown hK hI List.not_mem_nil hG0 34 (by decide) (hts _ (tb_c wd_1267)) rfl rfl dX12_pairs_142 (fun a2555 hq2556 hf2557 => ?_)
                obtain rfl := fr.uniq (by decide) hf2532 hf2557
                refine lv_iload hx hb dX12_pairs_145 (lv_at hl 1 rfl) ?_
                refine th_iald hx hb hK hA2534 0 rfl (iv_in (X := v2513.toInt) rfl (by omega) (by omega)) dX12_pairs_147 (fun v2558 e2559 => ?_)
                obtain rfl := (rd_same (i := v2513) (j := v2513) e2536 e2559 (X := v2513.toInt) (Y := v2513.toInt) rfl rfl (by omega)).symm
                refine lv_aload_n hx hb dX12_pairs_148 rfl (lv_at hl 4 rfl) ?_
                refine gmA hx hb hts inT12 hown hK hI List.not_mem_nil hG0 34 (by decide) (hts _ (tb_c wd_1267)) rfl rfl dX12_pairs_149 (fun a2560 hq2561 hf2562 => ?_)
                obtain rfl := fr.uniq (by decide) hf2532 hf2562
                refine lv_iload hx hb dX12_pairs_152 (lv_at hl 0 rfl) ?_
                refine th_iald hx hb hK hA2534 0 rfl (iv_in (X := v2519.toInt) rfl (by omega) (by omega)) dX12_pairs_154 (fun v2563 e2564 => ?_)
                refine lv_imul hx hb dX12_pairs_155 ?_
                refine lv_topi (fun v2565 e2566 => ?_)
                try have tv2565 : v2565.toInt = v2535.toInt * v2563.toInt := iv_mul rfl rfl e2566 (by omega) (by omega)
                refine lv_goto (tgt := 160) hx hb dX12_pairs_156 (by decide) ?_
                refine lv_iadd hx hb dX12_pairs_160 ?_
                refine lv_topi (fun v2567 e2568 => ?_)
                try have tv2567 : v2567.toInt = v2521.toInt + v2565.toInt := iv_add rfl rfl e2568 (by omega) (by omega)
                refine lv_istore_n (lv' := [(3, .int v2567), (5, .int v2519), (4, .int v2513), (2, .int v2515), (0, .ref h0), (1, .int x1)]) hx hb dX12_pairs_161 rfl hl (by decide) rfl (fun ls hl => ?_)
                obtain ⟨v2569, e2570⟩ : ∃ y : Int32, y = v2519 + (1) := ⟨_, rfl⟩
                have tv2569 : v2569.toInt = v2519.toInt + (1) := iv_add rfl (by decide) e2570 (by omega) (by omega)
                refine lv_iinc (v := v2569) (lv' := [(5, .int v2569), (3, .int v2567), (4, .int v2513), (2, .int v2515), (0, .ref h0), (1, .int x1)]) hx hb dX12_pairs_162 hl (k := 1) rfl (by rw [e2570]; rfl) (by decide) rfl (fun ls hl => ?_)
                refine lv_goto (tgt := 113) hx hb dX12_pairs_165 (by decide) ?_
                exact ih_113 _ (by omega) H locs ls v2569 v2567  rfl (lv_sub hl [0, 2, 1, 3, 4, 5] rfl) ⟨by omega, by omega⟩ ⟨by omega, by omega⟩ hI hS
      refine lv_iload hx hb dX12_pairs_99 (lv_at hl 0 rfl) ?_
      refine lv_sipush (v := 1024) hx hb dX12_pairs_101 (by decide) ?_
      refine lv_icmp_ge (tgt := 174) hx hb dX12_pairs_104 (by decide) (fun c2571 => ?_) (fun c2571 => ?_)
      · skip
        have k2572 := iv_le (X := (1024)) (Y := v2513.toInt) (by decide) rfl c2571
        refine lv_iload_n hx hb dX12_pairs_174 rfl (lv_at hl 1 rfl) ?_
        have hpost : True := trivial
        rw [hQ]
        exact W.iret (v := v2514) hx hb hr (fun t ht hW => ⟨⟨v2514, v2514, rfl, rfl, ⟨by rw [ht]; exact hI, hN.warm hW, va_K.moved hW.alike hK⟩, by first | (rw [ht]; exact hpost) | exact hpost⟩, hS.F ht⟩) hS.2.2 dX12_pairs_175
      · skip
        have k2573 := iv_nle (X := (1024)) (Y := v2513.toInt) (by decide) rfl c2571
        refine lv_iload hx hb dX12_pairs_107 (lv_at hl 0 rfl) ?_
        refine lv_iconst (v := 1) hx hb dX12_pairs_109 (by decide) ?_
        refine lv_iadd hx hb dX12_pairs_110 ?_
        refine lv_topi (fun v2574 e2575 => ?_)
        have tv2574 : v2574.toInt = v2513.toInt + (1) := iv_add rfl (by decide) e2575 (by omega) (by omega)
        refine lv_istore (lv' := [(5, .int v2574), (4, .int v2513), (3, .int v2514), (2, .int v2515), (0, .ref h0), (1, .int x1)]) hx hb dX12_pairs_111 hl (by decide) rfl (fun ls hl => ?_)
        exact J_113 _ H locs ls v2574 v2514  rfl (lv_sub hl [0, 1, 2, 3, 4, 5] rfl) ⟨by omega, by omega⟩ ⟨by omega, by omega⟩ hI hS
  have J_43 : ∀ (nn : Nat) (H : Heap) (locs : List Loc) (ls : Array Slot) (v2576 : Int32) (v2577 : Int32) , (Int.toNat (2304 - v2576.toInt) = nn) → lv_has ls 6 [(3, .int v2576), (2, .int v2577), (0, .ref h0), (1, .int x1)] → ((0 : Int) ≤ v2576.toInt ∧ v2576.toInt ≤ 2304) → ((0 : Int) ≤ v2577.toInt ∧ v2577.toInt ≤ 1023) → ((0 : Int) ≤ x1.toInt ∧ x1.toInt ≤ 3) → th_I (okM E) D G [] H → va_S (th_A G) s.heap H locs → W p l e R s m args below meth c H locs 0 0 QF (F0 m 43 ls []) := by
    intro nn
    induction nn using Nat.strongRecOn with
    | ind nn ih_43 =>
      intro H locs ls v2576 v2577  hm hl k2578 k2579 k2580 hI hS
      refine lv_iload_n hx hb dX12_pairs_43 rfl (lv_at hl 0 rfl) ?_
      refine lv_sipush (v := 2304) hx hb dX12_pairs_44 (by decide) ?_
      refine lv_icmp_ge (tgt := 78) hx hb dX12_pairs_47 (by decide) (fun c2581 => ?_) (fun c2581 => ?_)
      · skip
        have k2582 := iv_le (X := (2304)) (Y := v2576.toInt) (by decide) rfl c2581
        refine lv_aload_n hx hb dX12_pairs_78 rfl (lv_at hl 2 rfl) ?_
        refine gmA hx hb hts inT12 hown hK hI List.not_mem_nil hG0 34 (by decide) (hts _ (tb_c wd_1267)) rfl rfl dX12_pairs_79 (fun a2583 hq2584 hf2585 => ?_)
        refine lv_iload_n hx hb dX12_pairs_82 rfl (lv_at hl 1 rfl) ?_
        obtain ⟨F2586, hA2587⟩ := om_0 hI hq2584 List.not_mem_nil
        refine th_iald hx hb hK hA2587 0 rfl (iv_in (X := v2577.toInt) rfl (by omega) (by omega)) dX12_pairs_83 (fun v2588 e2589 => ?_)
        refine lv_aload_n hx hb dX12_pairs_84 rfl (lv_at hl 2 rfl) ?_
        refine gmA hx hb hts inT12 hown hK hI List.not_mem_nil hG0 34 (by decide) (hts _ (tb_c wd_1267)) rfl rfl dX12_pairs_85 (fun a2590 hq2591 hf2592 => ?_)
        obtain rfl := fr.uniq (by decide) hf2585 hf2592
        refine lv_iload_n hx hb dX12_pairs_88 rfl (lv_at hl 1 rfl) ?_
        refine th_iald hx hb hK hA2587 0 rfl (iv_in (X := v2577.toInt) rfl (by omega) (by omega)) dX12_pairs_89 (fun v2593 e2594 => ?_)
        obtain rfl := (rd_same (i := v2577) (j := v2577) e2589 e2594 (X := v2577.toInt) (Y := v2577.toInt) rfl rfl (by omega)).symm
        refine lv_iconst (v := 1) hx hb dX12_pairs_90 (by decide) ?_
        refine lv_isub hx hb dX12_pairs_91 ?_
        refine lv_topi (fun v2595 e2596 => ?_)
        try have tv2595 : v2595.toInt = v2588.toInt - (1) := iv_sub rfl (by decide) e2596 (by omega) (by omega)
        refine lv_imul hx hb dX12_pairs_92 ?_
        refine lv_topi (fun v2597 e2598 => ?_)
        try have tv2597 : v2597.toInt = v2588.toInt * v2595.toInt := iv_mul rfl rfl e2598 (by omega) (by omega)
        refine lv_iconst (v := 2) hx hb dX12_pairs_93 (by decide) ?_
        refine lv_idiv hx hb dX12_pairs_94 (by decide) ?_
        refine lv_topi (fun v2599 e2600 => ?_)
        refine lv_istore_n (lv' := [(3, .int v2599), (2, .int v2577), (0, .ref h0), (1, .int x1)]) hx hb dX12_pairs_95 rfl hl (by decide) rfl (fun ls hl => ?_)
        refine lv_iconst (v := 0) hx hb dX12_pairs_96 (by decide) ?_
        refine lv_istore (lv' := [(4, .int 0), (3, .int v2599), (2, .int v2577), (0, .ref h0), (1, .int x1)]) hx hb dX12_pairs_97 hl (by decide) rfl (fun ls hl => ?_)
        have zl : (0 : Int32).toInt = 0 := by decide
        exact J_99 _ H locs ls 0 v2599 v2577  rfl (lv_sub hl [0, 1, 2, 3, 4] rfl) ⟨by decide, by decide⟩ ⟨by omega, by omega⟩ ⟨by omega, by omega⟩ hI hS
      · skip
        have k2601 := iv_nle (X := (2304)) (Y := v2576.toInt) (by decide) rfl c2581
        refine lv_aload_n hx hb dX12_pairs_50 rfl (lv_at hl 2 rfl) ?_
        refine gmA hx hb hts inT12 hown hK hI List.not_mem_nil hG0 34 (by decide) (hts _ (tb_c wd_1267)) rfl rfl dX12_pairs_51 (fun a2602 hq2603 hf2604 => ?_)
        refine lv_aload_n hx hb dX12_pairs_54 rfl (lv_at hl 2 rfl) ?_
        refine lv_iload_n hx hb dX12_pairs_55 rfl (lv_at hl 0 rfl) ?_
        refine lv_bipush (v := 24) hx hb dX12_pairs_56 (by decide) ?_
        refine lv_irem hx hb dX12_pairs_58 (by decide) ?_
        refine lv_topi (fun v2605 e2606 => ?_)
        have tv2605 := iv_remp (X := v2576.toInt) (Y := 24) rfl (by decide) e2606 (by decide) (by omega)
        refine lv_iload_n hx hb dX12_pairs_59 rfl (lv_at hl 0 rfl) ?_
        refine lv_bipush (v := 24) hx hb dX12_pairs_60 (by decide) ?_
        refine lv_idiv hx hb dX12_pairs_62 (by decide) ?_
        refine lv_topi (fun v2607 e2608 => ?_)
        have tv2607 := iv_divp (X := v2576.toInt) (Y := 24) rfl (by decide) e2608 (by decide) (by omega)
        refine lv_iload_n hx hb dX12_pairs_63 rfl (lv_at hl 3 rfl) ?_
        refine mr_i (As := [.int v2605, .int v2607, .int x1]) (rest := [.ref a2602]) (n := 3) (d := 0) ⟨hx, hb, hml, hown, hts⟩ (c_X12_seenBy l E D G H h0 hG0 v2605 v2607 x1 ⟨by omega, by omega⟩ (by omega)) wd_1765 wd_1767 wp_87 wd_13 wd_1768 (by decide +kernel) ⟨by rw [hR]; exact Nat.le_of_ble_eq_true rfl, by rw [hR]; exact Nat.le_of_ble_eq_true rfl⟩ hI hN hK hS hG0 rfl hl.1 rfl (Nat.le_of_ble_eq_true rfl) dX12_pairs_64 ⟨Nat.zero_le _, Nat.zero_le _⟩ (fun r2609 locs hp hS => ?_)
        have hp2610 := hp
        refine lv_dup2_11 hx hb dX12_pairs_67 rfl rfl ?_
        obtain ⟨F2611, hA2612⟩ := om_0 hI hq2603 List.not_mem_nil
        refine th_iald hx hb hK hA2612 0 rfl (iv_in (X := r2609.toInt) rfl (by omega) (by omega)) dX12_pairs_68 (fun v2613 e2614 => ?_)
        refine lv_iconst (v := 1) hx hb dX12_pairs_69 (by decide) ?_
        refine lv_iadd hx hb dX12_pairs_70 ?_
        refine lv_topi (fun v2615 e2616 => ?_)
        try have tv2615 : v2615.toInt = v2613.toInt + (1) := iv_add rfl (by decide) e2616 (by omega) (by omega)
        refine th_iast hx hb hK hA2612 0 rfl hS ⟨_, hq2603⟩ (iv_in (X := r2609.toInt) rfl (by omega) (by omega)) dX12_pairs_71 (fun H locs hA2617 oq hS => ?_)
        have hI := th_I.put hI hq2603 hA2617 ok_m0 oq
        have hf2604 := fr.arr hG0 hq2603 (by decide) oq hf2604
        have e2618 : v2615 = (upd F2611 (r2609 : Int32).toNatClampNeg v2615) (r2609 : Int32).toNatClampNeg := rd_us
        obtain ⟨v2619, e2620⟩ : ∃ y : Int32, y = v2576 + (1) := ⟨_, rfl⟩
        have tv2619 : v2619.toInt = v2576.toInt + (1) := iv_add rfl (by decide) e2620 (by omega) (by omega)
        refine lv_iinc (v := v2619) (lv' := [(3, .int v2619), (2, .int v2577), (0, .ref h0), (1, .int x1)]) hx hb dX12_pairs_72 hl (k := 0) rfl (by rw [e2620]; rfl) (by decide) rfl (fun ls hl => ?_)
        refine lv_goto (tgt := 43) hx hb dX12_pairs_75 (by decide) ?_
        exact ih_43 _ (by omega) H locs ls v2619 v2577  rfl (lv_sub hl [0, 1, 2, 3] rfl) ⟨by omega, by omega⟩ ⟨by omega, by omega⟩ ⟨by omega, by omega⟩ hI hS
  have J_21 : ∀ (nn : Nat) (H : Heap) (locs : List Loc) (ls : Array Slot) (v2621 : Int32) (v2622 : Int32) , (Int.toNat (1024 - v2621.toInt) = nn) → lv_has ls 6 [(3, .int v2621), (2, .int v2622), (0, .ref h0), (1, .int x1)] → ((0 : Int) ≤ v2621.toInt ∧ v2621.toInt ≤ 1024) → ((0 : Int) ≤ v2622.toInt ∧ v2622.toInt ≤ 1023) → ((0 : Int) ≤ x1.toInt ∧ x1.toInt ≤ 3) → th_I (okM E) D G [] H → va_S (th_A G) s.heap H locs → W p l e R s m args below meth c H locs 0 0 QF (F0 m 21 ls []) := by
    intro nn
    induction nn using Nat.strongRecOn with
    | ind nn ih_21 =>
      intro H locs ls v2621 v2622  hm hl k2623 k2624 k2625 hI hS
      refine lv_iload_n hx hb dX12_pairs_21 rfl (lv_at hl 0 rfl) ?_
      refine lv_sipush (v := 1024) hx hb dX12_pairs_22 (by decide) ?_
      refine lv_icmp_ge (tgt := 41) hx hb dX12_pairs_25 (by decide) (fun c2626 => ?_) (fun c2626 => ?_)
      · skip
        have k2627 := iv_le (X := (1024)) (Y := v2621.toInt) (by decide) rfl c2626
        refine lv_iconst (v := 0) hx hb dX12_pairs_41 (by decide) ?_
        refine lv_istore_n (lv' := [(3, .int 0), (2, .int v2622), (0, .ref h0), (1, .int x1)]) hx hb dX12_pairs_42 rfl hl (by decide) rfl (fun ls hl => ?_)
        have zl : (0 : Int32).toInt = 0 := by decide
        exact J_43 _ H locs ls 0 v2622  rfl (lv_sub hl [0, 1, 2, 3] rfl) ⟨by decide, by decide⟩ ⟨by omega, by omega⟩ ⟨by omega, by omega⟩ hI hS
      · skip
        have k2628 := iv_nle (X := (1024)) (Y := v2621.toInt) (by decide) rfl c2626
        refine lv_aload_n hx hb dX12_pairs_28 rfl (lv_at hl 2 rfl) ?_
        refine gmA hx hb hts inT12 hown hK hI List.not_mem_nil hG0 34 (by decide) (hts _ (tb_c wd_1267)) rfl rfl dX12_pairs_29 (fun a2629 hq2630 hf2631 => ?_)
        refine lv_iload_n hx hb dX12_pairs_32 rfl (lv_at hl 0 rfl) ?_
        refine lv_iconst (v := 0) hx hb dX12_pairs_33 (by decide) ?_
        obtain ⟨F2632, hA2633⟩ := om_0 hI hq2630 List.not_mem_nil
        refine th_iast hx hb hK hA2633 0 rfl hS ⟨_, hq2630⟩ (iv_in (X := v2621.toInt) rfl (by omega) (by omega)) dX12_pairs_34 (fun H locs hA2634 oq hS => ?_)
        have hI := th_I.put hI hq2630 hA2634 ok_m0 oq
        have hf2631 := fr.arr hG0 hq2630 (by decide) oq hf2631
        have e2635 : 0 = (upd F2632 (v2621 : Int32).toNatClampNeg 0) (v2621 : Int32).toNatClampNeg := rd_us
        obtain ⟨v2636, e2637⟩ : ∃ y : Int32, y = v2621 + (1) := ⟨_, rfl⟩
        have tv2636 : v2636.toInt = v2621.toInt + (1) := iv_add rfl (by decide) e2637 (by omega) (by omega)
        refine lv_iinc (v := v2636) (lv' := [(3, .int v2636), (2, .int v2622), (0, .ref h0), (1, .int x1)]) hx hb dX12_pairs_35 hl (k := 0) rfl (by rw [e2637]; rfl) (by decide) rfl (fun ls hl => ?_)
        refine lv_goto (tgt := 21) hx hb dX12_pairs_38 (by decide) ?_
        exact ih_21 _ (by omega) H locs ls v2636 v2622  rfl (lv_sub hl [0, 1, 2, 3] rfl) ⟨by omega, by omega⟩ ⟨by omega, by omega⟩ ⟨by omega, by omega⟩ hI hS
  refine lv_iload_n hx hb dX12_pairs_0 rfl (lv_at hl 1 rfl) ?_
  refine th_cSs (As := [.int x1]) (rest := []) (n := 1) (d := 1) ⟨hx, hb, hml, hown, hts⟩ (c_X12_isColour l s.heap x1) wd_1545 wd_1546 wd_13 wd_1547 (by decide +kernel) ⟨by rw [hR]; exact Nat.le_of_ble_eq_true rfl, by rw [hR]; exact Nat.le_of_ble_eq_true rfl⟩ hN hS rfl hl.1 rfl (Nat.le_of_ble_eq_true rfl) dX12_pairs_1 ⟨Nat.zero_le _, Nat.zero_le _⟩ (fun r2638 locs hp hS => ?_)
  rcases hp with ⟨rfl, hp⟩ | ⟨rfl, hp⟩
  · skip
    try simp only [rg, not_and, Int.not_le] at hp
    have hp2639 := hp
    refine lv_if_ne (tgt := 9) hx hb dX12_pairs_4 (by decide) (fun _ => ?_) (fun c => absurd c (by decide))
    refine lv_aload_n hx hb dX12_pairs_9 rfl (lv_at hl 0 rfl) ?_
    refine mx_v (As := []) (rest := []) (n := 0) (d := 68) ⟨hx, hb, hml, hown, hts⟩ (c_X12_looks l E D G h0 hG0 ) wd_1455 wd_1457 wp_43 wd_13 wd_1458 (by decide +kernel) ⟨by rw [hR]; exact Nat.le_of_ble_eq_true rfl, by rw [hR]; exact Nat.le_of_ble_eq_true rfl⟩ hI hN hK hS hG0 (trivial) rfl hl.1 rfl (Nat.le_of_ble_eq_true rfl) dX12_pairs_10 ⟨Nat.zero_le _, Nat.zero_le _⟩ (fun H locs hI hp hS => ?_)
    refine lv_aload_n hx hb dX12_pairs_13 rfl (lv_at hl 0 rfl) ?_
    refine lv_iload_n hx hb dX12_pairs_14 rfl (lv_at hl 1 rfl) ?_
    refine mr_i (As := [.int x1]) (rest := []) (n := 1) (d := 0) ⟨hx, hb, hml, hown, hts⟩ (c_X12_seenOf l E D G H h0 hG0 x1) wd_1761 wd_1763 wp_86 wd_13 wd_1764 (by decide +kernel) ⟨by rw [hR]; exact Nat.le_of_ble_eq_true rfl, by rw [hR]; exact Nat.le_of_ble_eq_true rfl⟩ hI hN hK hS hG0 rfl hl.1 rfl (Nat.le_of_ble_eq_true rfl) dX12_pairs_15 ⟨Nat.zero_le _, Nat.zero_le _⟩ (fun r2641 locs hp hS => ?_)
    have hp2642 := hp
    refine lv_istore_n (lv' := [(2, .int r2641), (0, .ref h0), (1, .int x1)]) hx hb dX12_pairs_18 rfl hl (by decide) rfl (fun ls hl => ?_)
    refine lv_iconst (v := 0) hx hb dX12_pairs_19 (by decide) ?_
    refine lv_istore_n (lv' := [(3, .int 0), (2, .int r2641), (0, .ref h0), (1, .int x1)]) hx hb dX12_pairs_20 rfl hl (by decide) rfl (fun ls hl => ?_)
    have zl : (0 : Int32).toInt = 0 := by decide
    exact J_21 _ H locs ls 0 r2641  rfl (lv_sub hl [0, 1, 2, 3] rfl) ⟨by decide, by decide⟩ ⟨by omega, by omega⟩ ⟨by omega, by omega⟩ hI hS
  · skip
    try simp only [rg, not_and, Int.not_le] at hp
    have hp2643 := hp
    refine lv_if_ne (tgt := 9) hx hb dX12_pairs_4 (by decide) (fun c => absurd c (by decide)) (fun _ => ?_)
    refine lv_iconst (v := (-1)) hx hb dX12_pairs_7 (by decide) ?_
    have hpost : True := trivial
    rw [hQ]
    exact W.iret (v := (-1)) hx hb hr (fun t ht hW => ⟨⟨(-1), (-1), rfl, rfl, ⟨by rw [ht]; exact hI, hN.warm hW, va_K.moved hW.alike hK⟩, by first | (rw [ht]; exact hpost) | exact hpost⟩, hS.F ht⟩) hS.2.2 dX12_pairs_8
theorem dX12_job_0 : decode cX12_job 0 = .ok (.iload_n 1, 1) := by decide +kernel
theorem dX12_job_1 : decode cX12_job 1 = .ok (.invokestatic 118, 3) := by decide +kernel
theorem dX12_job_4 : decode cX12_job 4 = .ok (.ifCond .eq 20, 3) := by decide +kernel
theorem dX12_job_7 : decode cX12_job 7 = .ok (.iload_n 2, 1) := by decide +kernel
theorem dX12_job_8 : decode cX12_job 8 = .ok (.iconst 1, 1) := by decide +kernel
theorem dX12_job_9 : decode cX12_job 9 = .ok (.bipush 6, 2) := by decide +kernel
theorem dX12_job_11 : decode cX12_job 11 = .ok (.invokestatic 103, 3) := by decide +kernel
theorem dX12_job_14 : decode cX12_job 14 = .ok (.ifCond .eq 10, 3) := by decide +kernel
theorem dX12_job_17 : decode cX12_job 17 = .ok (.iload_n 3, 1) := by decide +kernel
theorem dX12_job_18 : decode cX12_job 18 = .ok (.invokestatic 114, 3) := by decide +kernel
theorem dX12_job_21 : decode cX12_job 21 = .ok (.ifCond .ne 9, 3) := by decide +kernel
theorem dX12_job_24 : decode cX12_job 24 = .ok (.aload_n 0, 1) := by decide +kernel
theorem dX12_job_25 : decode cX12_job 25 = .ok (.iconst (-1), 1) := by decide +kernel
theorem dX12_job_26 : decode cX12_job 26 = .ok (.invokevirtual 107, 3) := by decide +kernel
theorem dX12_job_29 : decode cX12_job 29 = .ok (.ireturn, 1) := by decide +kernel
theorem dX12_job_30 : decode cX12_job 30 = .ok (.aload_n 0, 1) := by decide +kernel
theorem dX12_job_31 : decode cX12_job 31 = .ok (.getfield 20, 3) := by decide +kernel
theorem dX12_job_34 : decode cX12_job 34 = .ok (.sipush 313, 3) := by decide +kernel
theorem dX12_job_37 : decode cX12_job 37 = .ok (.iaload, 1) := by decide +kernel
theorem dX12_job_38 : decode cX12_job 38 = .ok (.bipush 6, 2) := by decide +kernel
theorem dX12_job_40 : decode cX12_job 40 = .ok (.if_icmp .ne 10, 3) := by decide +kernel
theorem dX12_job_43 : decode cX12_job 43 = .ok (.aload_n 0, 1) := by decide +kernel
theorem dX12_job_44 : decode cX12_job 44 = .ok (.bipush (-5), 2) := by decide +kernel
theorem dX12_job_46 : decode cX12_job 46 = .ok (.invokevirtual 107, 3) := by decide +kernel
theorem dX12_job_49 : decode cX12_job 49 = .ok (.ireturn, 1) := by decide +kernel
theorem dX12_job_50 : decode cX12_job 50 = .ok (.aload_n 0, 1) := by decide +kernel
theorem dX12_job_51 : decode cX12_job 51 = .ok (.aload_n 0, 1) := by decide +kernel
theorem dX12_job_52 : decode cX12_job 52 = .ok (.sipush 264, 3) := by decide +kernel
theorem dX12_job_55 : decode cX12_job 55 = .ok (.sipush 313, 3) := by decide +kernel
theorem dX12_job_58 : decode cX12_job 58 = .ok (.iconst 3, 1) := by decide +kernel
theorem dX12_job_59 : decode cX12_job 59 = .ok (.iload_n 1, 1) := by decide +kernel
theorem dX12_job_60 : decode cX12_job 60 = .ok (.iload_n 2, 1) := by decide +kernel
theorem dX12_job_61 : decode cX12_job 61 = .ok (.iload_n 3, 1) := by decide +kernel
theorem dX12_job_62 : decode cX12_job 62 = .ok (.iconst 0, 1) := by decide +kernel
theorem dX12_job_63 : decode cX12_job 63 = .ok (.invokevirtual 125, 3) := by decide +kernel
theorem dX12_job_66 : decode cX12_job 66 = .ok (.invokevirtual 111, 3) := by decide +kernel
theorem dX12_job_69 : decode cX12_job 69 = .ok (.ireturn, 1) := by decide +kernel
set_option maxHeartbeats 4000000 in
set_option maxRecDepth 100000 in
theorem c_X12_job (l : Launch) (E : Nat → Nat) (D : va_G) (G : th_G) (h0 : Nat) (hG0 : G h0 = some (10, 0)) (x1 : Int32) (x2 : Int32) (x3 : Int32) : Met l yX12_job (tb (.code yX12_job cX12_job 4 (some .int))) (rm 2) (va_Pc [.ref h0, .int x1, .int x2, .int x3] (PX E D G (fun H => True))) (QXi E D G (fun r H => True)) 0 0 (th_A G) := by
  refine Met.ofW (cc := cX12_job) (maxL := 4) (ret := (some .int)) (by decide) rfl ?_
  intro p e s m args below meth c s₁ B hml hv
  obtain ⟨hav, ⟨hI, hN, hK⟩, hX⟩ := hv
  have hx := B.exec
  have hb := B.bytes
  have hr := B.returns
  have hts := atoms_spec (ws := tb (.code yX12_job cX12_job 4 (some .int))) B.pre
  have hown : s.vm.findClass RX12 = some m.cls := findClass_of_methodNamed B.named
  have hlocks := B.notSynchronized
  have hS : va_S (th_A G) s.heap s.heap [] := va_S.rf
  have hl := lv_entry ([.ref h0, .int x1, .int x2, .int x3]) (n := 4) (Nat.le_of_ble_eq_true rfl)
  rw [show entryFrame m args 4 = entryFrame m ([.ref h0, .int x1, .int x2, .int x3] : List Value).toArray 4 from by rw [hav], lg_entry_eq]
  generalize (lg_sl ([.ref h0, .int x1, .int x2, .int x3]) ++ List.replicate (4 - (lg_sl ([.ref h0, .int x1, .int x2, .int x3])).length) Slot.unset).toArray = ls at hl ⊢
  have hl : lv_has ls 4 [(0, .ref h0), (1, .int x1), (2, .int x2), (3, .int x3)] := hl
  generalize hR : (headSpec (tb (.code yX12_job cX12_job 4 (some .int))) (rm 2)).room = R
  have hR := hR.symm
  generalize hQ : MQ below (QXi E D G (fun r H => True)) args s 0 0 (th_A G) = QF
  have hQ := hQ.symm
  have J_24 : ∀ (H : Heap) (locs : List Loc) (ls : Array Slot)  , lv_has ls 4 [(0, .ref h0), (1, .int x1), (2, .int x2), (3, .int x3)] → th_I (okM E) D G [] H → va_S (th_A G) s.heap H locs → W p l e R s m args below meth c H locs 0 0 QF (F0 m 24 ls []) := by
    intro H locs ls   hl  hI hS
    refine lv_aload_n hx hb dX12_job_24 rfl (lv_at hl 0 rfl) ?_
    refine lv_iconst (v := (-1)) hx hb dX12_job_25 (by decide) ?_
    refine mx_i (As := [.int (-1)]) (rest := []) (n := 1) (d := 0) ⟨hx, hb, hml, hown, hts⟩ (c_X12_refuses l E D G h0 hG0 (-1) ⟨by decide, by decide⟩) wd_1398 wd_1400 wp_40 wd_13 wd_1401 (by decide +kernel) ⟨by rw [hR]; exact Nat.le_of_ble_eq_true rfl, by rw [hR]; exact Nat.le_of_ble_eq_true rfl⟩ hI hN hK hS hG0 (trivial) rfl hl.1 rfl (Nat.le_of_ble_eq_true rfl) dX12_job_26 ⟨Nat.zero_le _, Nat.zero_le _⟩ (fun r200 H locs hI hp hS => ?_)
    obtain rfl := hp.symm
    have hpost : True := trivial
    rw [hQ]
    exact W.iret (v := (-1)) hx hb hr (fun t ht hW => ⟨⟨(-1), (-1), rfl, rfl, ⟨by rw [ht]; exact hI, hN.warm hW, va_K.moved hW.alike hK⟩, by first | (rw [ht]; exact hpost) | exact hpost⟩, hS.F ht⟩) hS.2.2 dX12_job_29
  refine lv_iload_n hx hb dX12_job_0 rfl (lv_at hl 1 rfl) ?_
  refine th_cSs (As := [.int x1]) (rest := []) (n := 1) (d := 1) ⟨hx, hb, hml, hown, hts⟩ (c_X12_isCell l s.heap x1) wd_1414 wd_1415 wd_13 wd_1416 (by decide +kernel) ⟨by rw [hR]; exact Nat.le_of_ble_eq_true rfl, by rw [hR]; exact Nat.le_of_ble_eq_true rfl⟩ hN hS rfl hl.1 rfl (Nat.le_of_ble_eq_true rfl) dX12_job_1 ⟨Nat.zero_le _, Nat.zero_le _⟩ (fun r201 locs hp hS => ?_)
  rcases hp with ⟨rfl, hp⟩ | ⟨rfl, hp⟩
  · skip
    try simp only [rg, not_and, Int.not_le] at hp
    have hp202 := hp
    refine lv_if_eq (tgt := 24) hx hb dX12_job_4 (by decide) (fun c => absurd c (by decide)) (fun _ => ?_)
    refine lv_iload_n hx hb dX12_job_7 rfl (lv_at hl 2 rfl) ?_
    refine lv_iconst (v := 1) hx hb dX12_job_8 (by decide) ?_
    refine lv_bipush (v := 6) hx hb dX12_job_9 (by decide) ?_
    refine th_cSs (As := [.int x2, .int 1, .int 6]) (rest := []) (n := 3) (d := 0) ⟨hx, hb, hml, hown, hts⟩ (c_X12_lies l s.heap x2 1 6) wd_1395 wd_1396 wd_13 wd_1397 (by decide +kernel) ⟨by rw [hR]; exact Nat.le_of_ble_eq_true rfl, by rw [hR]; exact Nat.le_of_ble_eq_true rfl⟩ hN hS rfl hl.1 rfl (Nat.le_of_ble_eq_true rfl) dX12_job_11 ⟨Nat.zero_le _, Nat.zero_le _⟩ (fun r203 locs hp hS => ?_)
    rcases hp with ⟨rfl, hp⟩ | ⟨rfl, hp⟩
    · skip
      try simp only [rg, not_and, Int.not_le] at hp
      have hp204 := hp
      try rw [show (1 : Int32).toInt = 1 from by decide] at hp204
      try rw [show (6 : Int32).toInt = 6 from by decide] at hp204
      refine lv_if_eq (tgt := 24) hx hb dX12_job_14 (by decide) (fun c => absurd c (by decide)) (fun _ => ?_)
      refine lv_iload_n hx hb dX12_job_17 rfl (lv_at hl 3 rfl) ?_
      refine th_cSs (As := [.int x3]) (rest := []) (n := 1) (d := 1) ⟨hx, hb, hml, hown, hts⟩ (c_X12_isHour l s.heap x3) wd_1428 wd_1429 wd_13 wd_1430 (by decide +kernel) ⟨by rw [hR]; exact Nat.le_of_ble_eq_true rfl, by rw [hR]; exact Nat.le_of_ble_eq_true rfl⟩ hN hS rfl hl.1 rfl (Nat.le_of_ble_eq_true rfl) dX12_job_18 ⟨Nat.zero_le _, Nat.zero_le _⟩ (fun r205 locs hp hS => ?_)
      rcases hp with ⟨rfl, hp⟩ | ⟨rfl, hp⟩
      · skip
        try simp only [rg, not_and, Int.not_le] at hp
        have hp206 := hp
        refine lv_if_ne (tgt := 30) hx hb dX12_job_21 (by decide) (fun _ => ?_) (fun c => absurd c (by decide))
        refine lv_aload_n hx hb dX12_job_30 rfl (lv_at hl 0 rfl) ?_
        refine gmA hx hb hts inT12 hown hK hI List.not_mem_nil hG0 3 (by decide) (hts _ (tb_c wd_1236)) rfl rfl dX12_job_31 (fun a207 hq208 hf209 => ?_)
        refine lv_sipush (v := 313) hx hb dX12_job_34 (by decide) ?_
        obtain ⟨F210, hA211, hP212⟩ := om_1 hI hq208 List.not_mem_nil
        refine th_iald hx hb hK hA211 0 rfl (iv_in (X := (313)) (by decide) (by omega) (by omega)) dX12_job_37 (fun v213 e214 => ?_)
        have k215 := kg_m313 (kOk.get (i := 313) hP212 e214 (X := (313)) (by decide) (by omega) (by omega)) (by omega) (by omega) (by omega)
        refine lv_bipush (v := 6) hx hb dX12_job_38 (by decide) ?_
        refine lv_icmp_ne (tgt := 50) hx hb dX12_job_40 (by decide) (fun c216 => ?_) (fun c216 => ?_)
        · skip
          have k217 := iv_ne (X := v213.toInt) (Y := (6)) rfl (by decide) c216
          refine lv_aload_n hx hb dX12_job_50 rfl (lv_at hl 0 rfl) ?_
          refine lv_aload_n hx hb dX12_job_51 rfl (lv_at hl 0 rfl) ?_
          refine lv_sipush (v := 264) hx hb dX12_job_52 (by decide) ?_
          refine lv_sipush (v := 313) hx hb dX12_job_55 (by decide) ?_
          refine lv_iconst (v := 3) hx hb dX12_job_58 (by decide) ?_
          refine lv_iload_n hx hb dX12_job_59 rfl (lv_at hl 1 rfl) ?_
          refine lv_iload_n hx hb dX12_job_60 rfl (lv_at hl 2 rfl) ?_
          refine lv_iload_n hx hb dX12_job_61 rfl (lv_at hl 3 rfl) ?_
          refine lv_iconst (v := 0) hx hb dX12_job_62 (by decide) ?_
          refine mx_i (As := [.int 264, .int 313, .int 3, .int x1, .int x2, .int x3, .int 0]) (rest := [.ref h0]) (n := 7) (d := 0) ⟨hx, hb, hml, hown, hts⟩ (c_X12_comesBehind_313 l E D G h0 hG0 x1 x2 x3 0 ⟨by omega, by omega⟩ ⟨by omega, by omega⟩ F210 hP212 (lt_of_rd e214 rfl (by omega))) wd_1435 wd_1437 wp_42 wd_13 wd_1438 (by decide +kernel) ⟨by rw [hR]; exact Nat.le_of_ble_eq_true rfl, by rw [hR]; exact Nat.le_of_ble_eq_true rfl⟩ hI hN hK hS hG0 (⟨a207, hf209, hq208, hA211⟩) rfl hl.1 rfl (Nat.le_of_ble_eq_true rfl) dX12_job_63 ⟨Nat.zero_le _, Nat.zero_le _⟩ (fun r218 H locs hI hp hS => ?_)
          refine mx_i (As := [.int r218]) (rest := []) (n := 1) (d := 0) ⟨hx, hb, hml, hown, hts⟩ (c_X12_good l E D G h0 hG0 r218) wd_1402 wd_1404 wp_41 wd_13 wd_1405 (by decide +kernel) ⟨by rw [hR]; exact Nat.le_of_ble_eq_true rfl, by rw [hR]; exact Nat.le_of_ble_eq_true rfl⟩ hI hN hK hS hG0 (trivial) rfl hl.1 rfl (Nat.le_of_ble_eq_true rfl) dX12_job_66 ⟨Nat.zero_le _, Nat.zero_le _⟩ (fun r219 H locs hI hp hS => ?_)
          obtain rfl := hp.symm
          have hpost : True := trivial
          rw [hQ]
          exact W.iret (v := r218) hx hb hr (fun t ht hW => ⟨⟨r218, r218, rfl, rfl, ⟨by rw [ht]; exact hI, hN.warm hW, va_K.moved hW.alike hK⟩, by first | (rw [ht]; exact hpost) | exact hpost⟩, hS.F ht⟩) hS.2.2 dX12_job_69
        · skip
          have k220 := iv_eq (X := v213.toInt) (Y := (6)) rfl (by decide) c216
          refine lv_aload_n hx hb dX12_job_43 rfl (lv_at hl 0 rfl) ?_
          refine lv_bipush (v := (-5)) hx hb dX12_job_44 (by decide) ?_
          refine mx_i (As := [.int (-5)]) (rest := []) (n := 1) (d := 0) ⟨hx, hb, hml, hown, hts⟩ (c_X12_refuses l E D G h0 hG0 (-5) ⟨by decide, by decide⟩) wd_1398 wd_1400 wp_40 wd_13 wd_1401 (by decide +kernel) ⟨by rw [hR]; exact Nat.le_of_ble_eq_true rfl, by rw [hR]; exact Nat.le_of_ble_eq_true rfl⟩ hI hN hK hS hG0 (trivial) rfl hl.1 rfl (Nat.le_of_ble_eq_true rfl) dX12_job_46 ⟨Nat.zero_le _, Nat.zero_le _⟩ (fun r221 H locs hI hp hS => ?_)
          obtain rfl := hp.symm
          have hpost : True := trivial
          rw [hQ]
          exact W.iret (v := (-5)) hx hb hr (fun t ht hW => ⟨⟨(-5), (-5), rfl, rfl, ⟨by rw [ht]; exact hI, hN.warm hW, va_K.moved hW.alike hK⟩, by first | (rw [ht]; exact hpost) | exact hpost⟩, hS.F ht⟩) hS.2.2 dX12_job_49
      · skip
        try simp only [rg, not_and, Int.not_le] at hp
        have hp222 := hp
        refine lv_if_ne (tgt := 30) hx hb dX12_job_21 (by decide) (fun c => absurd c (by decide)) (fun _ => ?_)
        exact J_24 s.heap locs ls   (lv_sub hl [0, 1, 2, 3] rfl)  hI hS
    · skip
      try simp only [rg, not_and, Int.not_le] at hp
      have hp223 := hp
      try rw [show (1 : Int32).toInt = 1 from by decide] at hp223
      try rw [show (6 : Int32).toInt = 6 from by decide] at hp223
      refine lv_if_eq (tgt := 24) hx hb dX12_job_14 (by decide) (fun _ => ?_) (fun c => absurd c (by decide))
      exact J_24 s.heap locs ls   (lv_sub hl [0, 1, 2, 3] rfl)  hI hS
  · skip
    try simp only [rg, not_and, Int.not_le] at hp
    have hp224 := hp
    refine lv_if_eq (tgt := 24) hx hb dX12_job_4 (by decide) (fun _ => ?_) (fun c => absurd c (by decide))
    exact J_24 s.heap locs ls   (lv_sub hl [0, 1, 2, 3] rfl)  hI hS
theorem dX12_hang_0 : decode cX12_hang 0 = .ok (.aload_n 0, 1) := by decide +kernel
theorem dX12_hang_1 : decode cX12_hang 1 = .ok (.sipush 313, 3) := by decide +kernel
theorem dX12_hang_4 : decode cX12_hang 4 = .ok (.invokevirtual 345, 3) := by decide +kernel
theorem dX12_hang_7 : decode cX12_hang 7 = .ok (.ireturn, 1) := by decide +kernel
set_option maxHeartbeats 4000000 in
set_option maxRecDepth 100000 in
theorem c_X12_hang (l : Launch) (E : Nat → Nat) (D : va_G) (G : th_G) (h0 : Nat) (hG0 : G h0 = some (10, 0)) : Met l yX12_hang (tb (.code yX12_hang cX12_hang 1 (some .int))) (rm 1) (va_Pc [.ref h0] (PX E D G (fun H => True))) (QXi E D G (fun r H => True)) 0 0 (th_A G) := by
  refine Met.ofW (cc := cX12_hang) (maxL := 1) (ret := (some .int)) (by decide) rfl ?_
  intro p e s m args below meth c s₁ B hml hv
  obtain ⟨hav, ⟨hI, hN, hK⟩, hX⟩ := hv
  have hx := B.exec
  have hb := B.bytes
  have hr := B.returns
  have hts := atoms_spec (ws := tb (.code yX12_hang cX12_hang 1 (some .int))) B.pre
  have hown : s.vm.findClass RX12 = some m.cls := findClass_of_methodNamed B.named
  have hlocks := B.notSynchronized
  have hS : va_S (th_A G) s.heap s.heap [] := va_S.rf
  have hl := lv_entry ([.ref h0]) (n := 1) (Nat.le_of_ble_eq_true rfl)
  rw [show entryFrame m args 1 = entryFrame m ([.ref h0] : List Value).toArray 1 from by rw [hav], lg_entry_eq]
  generalize (lg_sl ([.ref h0]) ++ List.replicate (1 - (lg_sl ([.ref h0])).length) Slot.unset).toArray = ls at hl ⊢
  have hl : lv_has ls 1 [(0, .ref h0)] := hl
  generalize hR : (headSpec (tb (.code yX12_hang cX12_hang 1 (some .int))) (rm 1)).room = R
  have hR := hR.symm
  generalize hQ : MQ below (QXi E D G (fun r H => True)) args s 0 0 (th_A G) = QF
  have hQ := hQ.symm
  refine lv_aload_n hx hb dX12_hang_0 rfl (lv_at hl 0 rfl) ?_
  refine lv_sipush (v := 313) hx hb dX12_hang_1 (by decide) ?_
  refine mx_i (As := [.int 313]) (rest := []) (n := 1) (d := 0) ⟨hx, hb, hml, hown, hts⟩ (c_X12_goAll_313 l E D G h0 hG0 ) wd_1749 wd_1751 wp_85 wd_13 wd_1752 (by decide +kernel) ⟨by rw [hR]; exact Nat.le_of_ble_eq_true rfl, by rw [hR]; exact Nat.le_of_ble_eq_true rfl⟩ hI hN hK hS hG0 (trivial) rfl hl.1 rfl (Nat.le_of_ble_eq_true rfl) dX12_hang_4 ⟨Nat.zero_le _, Nat.zero_le _⟩ (fun r1 H locs hI hp hS => ?_)
  have hpost : True := trivial
  rw [hQ]
  exact W.iret (v := r1) hx hb hr (fun t ht hW => ⟨⟨r1, r1, rfl, rfl, ⟨by rw [ht]; exact hI, hN.warm hW, va_K.moved hW.alike hK⟩, by first | (rw [ht]; exact hpost) | exact hpost⟩, hS.F ht⟩) hS.2.2 dX12_hang_7
theorem dX12_firstAt_0 : decode cX12_firstAt 0 = .ok (.aload_n 0, 1) := by decide +kernel
theorem dX12_firstAt_1 : decode cX12_firstAt 1 = .ok (.iload_n 1, 1) := by decide +kernel
theorem dX12_firstAt_2 : decode cX12_firstAt 2 = .ok (.iload_n 2, 1) := by decide +kernel
theorem dX12_firstAt_3 : decode cX12_firstAt 3 = .ok (.iload_n 3, 1) := by decide +kernel
theorem dX12_firstAt_4 : decode cX12_firstAt 4 = .ok (.iload_n 2, 1) := by decide +kernel
theorem dX12_firstAt_5 : decode cX12_firstAt 5 = .ok (.bipush 96, 2) := by decide +kernel
theorem dX12_firstAt_7 : decode cX12_firstAt 7 = .ok (.invokevirtual 328, 3) := by decide +kernel
theorem dX12_firstAt_10 : decode cX12_firstAt 10 = .ok (.ireturn, 1) := by decide +kernel
set_option maxHeartbeats 4000000 in
set_option maxRecDepth 100000 in
theorem c_X12_firstAt (l : Launch) (E : Nat → Nat) (D : va_G) (G : th_G) (H0 : Heap) (h0 : Nat) (hG0 : G h0 = some (10, 0)) (x1 : Int32) (x2 : Int32) (x3 : Int32) (hx1 : (0 : Int) ≤ x1.toInt ∧ x1.toInt ≤ 24) (hx2 : (0 : Int) ≤ x2.toInt) : Met l yX12_firstAt (tb (.code yX12_firstAt cX12_firstAt 4 (some .int))) (rm 1) (va_Pc [.ref h0, .int x1, .int x2, .int x3] (PR E D G H0)) (QS H0 (fun r => (-1 : Int) ≤ (r : Int32).toInt ∧ (r : Int32).toInt ≤ 96)) 0 0 (fun _ => False) := by
  refine Met.ofW (cc := cX12_firstAt) (maxL := 4) (ret := (some .int)) (by decide) rfl ?_
  intro p e s m args below meth c s₁ B hml hv
  obtain ⟨hav, rfl, hI, hN, hK⟩ := hv
  have hx := B.exec
  have hb := B.bytes
  have hr := B.returns
  have hts := atoms_spec (ws := tb (.code yX12_firstAt cX12_firstAt 4 (some .int))) B.pre
  have hown : s.vm.findClass RX12 = some m.cls := findClass_of_methodNamed B.named
  have hlocks := B.notSynchronized
  have hS : va_S (fun _ => False) s.heap s.heap [] := va_S.rf
  have hl := lv_entry ([.ref h0, .int x1, .int x2, .int x3]) (n := 4) (Nat.le_of_ble_eq_true rfl)
  rw [show entryFrame m args 4 = entryFrame m ([.ref h0, .int x1, .int x2, .int x3] : List Value).toArray 4 from by rw [hav], lg_entry_eq]
  generalize (lg_sl ([.ref h0, .int x1, .int x2, .int x3]) ++ List.replicate (4 - (lg_sl ([.ref h0, .int x1, .int x2, .int x3])).length) Slot.unset).toArray = ls at hl ⊢
  have hl : lv_has ls 4 [(0, .ref h0), (1, .int x1), (2, .int x2), (3, .int x3)] := hl
  generalize hR : (headSpec (tb (.code yX12_firstAt cX12_firstAt 4 (some .int))) (rm 1)).room = R
  have hR := hR.symm
  generalize hQ : MQ below (QS s.heap (fun r => (-1 : Int) ≤ (r : Int32).toInt ∧ (r : Int32).toInt ≤ 96)) args s 0 0 (fun _ => False) = QF
  have hQ := hQ.symm
  obtain ⟨q_3, hq_3, hf_3⟩ := fr_of hI hG0 3 (by decide) (kd := (1, 5123)) rfl
  obtain ⟨F_3, hA_3, hP_3⟩ := om_1 hI hq_3 List.not_mem_nil
  refine lv_aload_n hx hb dX12_firstAt_0 rfl (lv_at hl 0 rfl) ?_
  refine lv_iload_n hx hb dX12_firstAt_1 rfl (lv_at hl 1 rfl) ?_
  refine lv_iload_n hx hb dX12_firstAt_2 rfl (lv_at hl 2 rfl) ?_
  refine lv_iload_n hx hb dX12_firstAt_3 rfl (lv_at hl 3 rfl) ?_
  refine lv_iload_n hx hb dX12_firstAt_4 rfl (lv_at hl 2 rfl) ?_
  refine lv_bipush (v := 96) hx hb dX12_firstAt_5 (by decide) ?_
  have k2 := iv_lo x2
  have k3 := iv_hi x2
  refine mr_i (As := [.int x1, .int x2, .int x3, .int x2, .int 96]) (rest := []) (n := 5) (d := 0) ⟨hx, hb, hml, hown, hts⟩ (c_X12_thereAt l E D G s.heap h0 hG0 x1 x2 x3 x2 96 ⟨by omega, by omega⟩ (by omega) (by decide)) wd_1737 wd_1739 wp_84 wd_13 wd_1740 (by decide +kernel) ⟨by rw [hR]; exact Nat.le_of_ble_eq_true rfl, by rw [hR]; exact Nat.le_of_ble_eq_true rfl⟩ hI hN hK hS hG0 rfl hl.1 rfl (Nat.le_of_ble_eq_true rfl) dX12_firstAt_7 ⟨Nat.zero_le _, Nat.zero_le _⟩ (fun r1 locs hp hS => ?_)
  have hp4 := hp
  have hpost : (-1 : Int) ≤ (r1 : Int32).toInt ∧ (r1 : Int32).toInt ≤ 96 := by first | decide | omega
  rw [hQ]
  exact W.iret (v := r1) hx hb hr (fun t ht hW => ⟨⟨r1, (), rfl, hpost, ht⟩, hS.F ht⟩) hS.2.2 dX12_firstAt_10
theorem dX12_lovers_0 : decode cX12_lovers 0 = .ok (.iload_n 1, 1) := by decide +kernel
theorem dX12_lovers_1 : decode cX12_lovers 1 = .ok (.invokestatic 118, 3) := by decide +kernel
theorem dX12_lovers_4 : decode cX12_lovers 4 = .ok (.ifCond .eq 27, 3) := by decide +kernel
theorem dX12_lovers_7 : decode cX12_lovers 7 = .ok (.iload_n 2, 1) := by decide +kernel
theorem dX12_lovers_8 : decode cX12_lovers 8 = .ok (.invokestatic 118, 3) := by decide +kernel
theorem dX12_lovers_11 : decode cX12_lovers 11 = .ok (.ifCond .eq 20, 3) := by decide +kernel
theorem dX12_lovers_14 : decode cX12_lovers 14 = .ok (.iload_n 3, 1) := by decide +kernel
theorem dX12_lovers_15 : decode cX12_lovers 15 = .ok (.invokestatic 298, 3) := by decide +kernel
theorem dX12_lovers_18 : decode cX12_lovers 18 = .ok (.ifCond .eq 13, 3) := by decide +kernel
theorem dX12_lovers_21 : decode cX12_lovers 21 = .ok (.iload 4, 2) := by decide +kernel
theorem dX12_lovers_23 : decode cX12_lovers 23 = .ok (.iconst 0, 1) := by decide +kernel
theorem dX12_lovers_24 : decode cX12_lovers 24 = .ok (.iconst 1, 1) := by decide +kernel
theorem dX12_lovers_25 : decode cX12_lovers 25 = .ok (.invokestatic 103, 3) := by decide +kernel
theorem dX12_lovers_28 : decode cX12_lovers 28 = .ok (.ifCond .ne 5, 3) := by decide +kernel
theorem dX12_lovers_31 : decode cX12_lovers 31 = .ok (.iconst (-1), 1) := by decide +kernel
theorem dX12_lovers_32 : decode cX12_lovers 32 = .ok (.ireturn, 1) := by decide +kernel
theorem dX12_lovers_33 : decode cX12_lovers 33 = .ok (.iload_n 1, 1) := by decide +kernel
theorem dX12_lovers_34 : decode cX12_lovers 34 = .ok (.iload_n 2, 1) := by decide +kernel
theorem dX12_lovers_35 : decode cX12_lovers 35 = .ok (.if_icmp .ne 5, 3) := by decide +kernel
theorem dX12_lovers_38 : decode cX12_lovers 38 = .ok (.iload_n 3, 1) := by decide +kernel
theorem dX12_lovers_39 : decode cX12_lovers 39 = .ok (.ireturn, 1) := by decide +kernel
theorem dX12_lovers_40 : decode cX12_lovers 40 = .ok (.aload_n 0, 1) := by decide +kernel
theorem dX12_lovers_41 : decode cX12_lovers 41 = .ok (.invokevirtual 138, 3) := by decide +kernel
theorem dX12_lovers_44 : decode cX12_lovers 44 = .ok (.aload_n 0, 1) := by decide +kernel
theorem dX12_lovers_45 : decode cX12_lovers 45 = .ok (.getfield 91, 3) := by decide +kernel
theorem dX12_lovers_48 : decode cX12_lovers 48 = .ok (.bipush 96, 2) := by decide +kernel
theorem dX12_lovers_50 : decode cX12_lovers 50 = .ok (.ldc 158, 2) := by decide +kernel
theorem dX12_lovers_52 : decode cX12_lovers 52 = .ok (.iastore, 1) := by decide +kernel
theorem dX12_lovers_53 : decode cX12_lovers 53 = .ok (.bipush 95, 2) := by decide +kernel
theorem dX12_lovers_55 : decode cX12_lovers 55 = .ok (.istore 5, 2) := by decide +kernel
theorem dX12_lovers_57 : decode cX12_lovers 57 = .ok (.iload 5, 2) := by decide +kernel
theorem dX12_lovers_59 : decode cX12_lovers 59 = .ok (.iload_n 3, 1) := by decide +kernel
theorem dX12_lovers_60 : decode cX12_lovers 60 = .ok (.if_icmp .lt 79, 3) := by decide +kernel
theorem dX12_lovers_63 : decode cX12_lovers 63 = .ok (.aload_n 0, 1) := by decide +kernel
theorem dX12_lovers_64 : decode cX12_lovers 64 = .ok (.getfield 64, 3) := by decide +kernel
theorem dX12_lovers_67 : decode cX12_lovers 67 = .ok (.bipush 24, 2) := by decide +kernel
theorem dX12_lovers_69 : decode cX12_lovers 69 = .ok (.iload 5, 2) := by decide +kernel
theorem dX12_lovers_71 : decode cX12_lovers 71 = .ok (.imul, 1) := by decide +kernel
theorem dX12_lovers_72 : decode cX12_lovers 72 = .ok (.iload_n 2, 1) := by decide +kernel
theorem dX12_lovers_73 : decode cX12_lovers 73 = .ok (.iadd, 1) := by decide +kernel
theorem dX12_lovers_74 : decode cX12_lovers 74 = .ok (.baload, 1) := by decide +kernel
theorem dX12_lovers_75 : decode cX12_lovers 75 = .ok (.ifCond .eq 7, 3) := by decide +kernel
theorem dX12_lovers_78 : decode cX12_lovers 78 = .ok (.iconst (-1), 1) := by decide +kernel
theorem dX12_lovers_79 : decode cX12_lovers 79 = .ok (.goto 11, 3) := by decide +kernel
theorem dX12_lovers_82 : decode cX12_lovers 82 = .ok (.aload_n 0, 1) := by decide +kernel
theorem dX12_lovers_83 : decode cX12_lovers 83 = .ok (.iload_n 2, 1) := by decide +kernel
theorem dX12_lovers_84 : decode cX12_lovers 84 = .ok (.iload 5, 2) := by decide +kernel
theorem dX12_lovers_86 : decode cX12_lovers 86 = .ok (.iload_n 1, 1) := by decide +kernel
theorem dX12_lovers_87 : decode cX12_lovers 87 = .ok (.invokevirtual 370, 3) := by decide +kernel
theorem dX12_lovers_90 : decode cX12_lovers 90 = .ok (.istore 6, 2) := by decide +kernel
theorem dX12_lovers_92 : decode cX12_lovers 92 = .ok (.aload_n 0, 1) := by decide +kernel
theorem dX12_lovers_93 : decode cX12_lovers 93 = .ok (.getfield 91, 3) := by decide +kernel
theorem dX12_lovers_96 : decode cX12_lovers 96 = .ok (.iload 5, 2) := by decide +kernel
theorem dX12_lovers_98 : decode cX12_lovers 98 = .ok (.iload 6, 2) := by decide +kernel
theorem dX12_lovers_100 : decode cX12_lovers 100 = .ok (.iconst (-1), 1) := by decide +kernel
theorem dX12_lovers_101 : decode cX12_lovers 101 = .ok (.if_icmp .eq 22, 3) := by decide +kernel
theorem dX12_lovers_104 : decode cX12_lovers 104 = .ok (.iload 6, 2) := by decide +kernel
theorem dX12_lovers_106 : decode cX12_lovers 106 = .ok (.aload_n 0, 1) := by decide +kernel
theorem dX12_lovers_107 : decode cX12_lovers 107 = .ok (.getfield 91, 3) := by decide +kernel
theorem dX12_lovers_110 : decode cX12_lovers 110 = .ok (.iload 5, 2) := by decide +kernel
theorem dX12_lovers_112 : decode cX12_lovers 112 = .ok (.iconst 1, 1) := by decide +kernel
theorem dX12_lovers_113 : decode cX12_lovers 113 = .ok (.iadd, 1) := by decide +kernel
theorem dX12_lovers_114 : decode cX12_lovers 114 = .ok (.iaload, 1) := by decide +kernel
theorem dX12_lovers_115 : decode cX12_lovers 115 = .ok (.if_icmp .ge 8, 3) := by decide +kernel
theorem dX12_lovers_118 : decode cX12_lovers 118 = .ok (.iload 6, 2) := by decide +kernel
theorem dX12_lovers_120 : decode cX12_lovers 120 = .ok (.goto 12, 3) := by decide +kernel
theorem dX12_lovers_123 : decode cX12_lovers 123 = .ok (.aload_n 0, 1) := by decide +kernel
theorem dX12_lovers_124 : decode cX12_lovers 124 = .ok (.getfield 91, 3) := by decide +kernel
theorem dX12_lovers_127 : decode cX12_lovers 127 = .ok (.iload 5, 2) := by decide +kernel
theorem dX12_lovers_129 : decode cX12_lovers 129 = .ok (.iconst 1, 1) := by decide +kernel
theorem dX12_lovers_130 : decode cX12_lovers 130 = .ok (.iadd, 1) := by decide +kernel
theorem dX12_lovers_131 : decode cX12_lovers 131 = .ok (.iaload, 1) := by decide +kernel
theorem dX12_lovers_132 : decode cX12_lovers 132 = .ok (.iastore, 1) := by decide +kernel
theorem dX12_lovers_133 : decode cX12_lovers 133 = .ok (.iinc 5 (-1), 3) := by decide +kernel
theorem dX12_lovers_136 : decode cX12_lovers 136 = .ok (.goto (-79), 3) := by decide +kernel
theorem dX12_lovers_139 : decode cX12_lovers 139 = .ok (.ldc 158, 2) := by decide +kernel
theorem dX12_lovers_141 : decode cX12_lovers 141 = .ok (.istore 5, 2) := by decide +kernel
theorem dX12_lovers_143 : decode cX12_lovers 143 = .ok (.iconst (-1), 1) := by decide +kernel
theorem dX12_lovers_144 : decode cX12_lovers 144 = .ok (.istore 6, 2) := by decide +kernel
theorem dX12_lovers_146 : decode cX12_lovers 146 = .ok (.iload_n 3, 1) := by decide +kernel
theorem dX12_lovers_147 : decode cX12_lovers 147 = .ok (.istore 7, 2) := by decide +kernel
theorem dX12_lovers_149 : decode cX12_lovers 149 = .ok (.iload 7, 2) := by decide +kernel
theorem dX12_lovers_151 : decode cX12_lovers 151 = .ok (.bipush 96, 2) := by decide +kernel
theorem dX12_lovers_153 : decode cX12_lovers 153 = .ok (.if_icmp .ge 83, 3) := by decide +kernel
theorem dX12_lovers_156 : decode cX12_lovers 156 = .ok (.aload_n 0, 1) := by decide +kernel
theorem dX12_lovers_157 : decode cX12_lovers 157 = .ok (.getfield 64, 3) := by decide +kernel
theorem dX12_lovers_160 : decode cX12_lovers 160 = .ok (.bipush 24, 2) := by decide +kernel
theorem dX12_lovers_162 : decode cX12_lovers 162 = .ok (.iload 7, 2) := by decide +kernel
theorem dX12_lovers_164 : decode cX12_lovers 164 = .ok (.imul, 1) := by decide +kernel
theorem dX12_lovers_165 : decode cX12_lovers 165 = .ok (.iload_n 1, 1) := by decide +kernel
theorem dX12_lovers_166 : decode cX12_lovers 166 = .ok (.iadd, 1) := by decide +kernel
theorem dX12_lovers_167 : decode cX12_lovers 167 = .ok (.baload, 1) := by decide +kernel
theorem dX12_lovers_168 : decode cX12_lovers 168 = .ok (.ifCond .eq 7, 3) := by decide +kernel
theorem dX12_lovers_171 : decode cX12_lovers 171 = .ok (.iconst (-1), 1) := by decide +kernel
theorem dX12_lovers_172 : decode cX12_lovers 172 = .ok (.goto 11, 3) := by decide +kernel
theorem dX12_lovers_175 : decode cX12_lovers 175 = .ok (.aload_n 0, 1) := by decide +kernel
theorem dX12_lovers_176 : decode cX12_lovers 176 = .ok (.iload_n 1, 1) := by decide +kernel
theorem dX12_lovers_177 : decode cX12_lovers 177 = .ok (.iload 7, 2) := by decide +kernel
theorem dX12_lovers_179 : decode cX12_lovers 179 = .ok (.iload_n 2, 1) := by decide +kernel
theorem dX12_lovers_180 : decode cX12_lovers 180 = .ok (.invokevirtual 370, 3) := by decide +kernel
theorem dX12_lovers_183 : decode cX12_lovers 183 = .ok (.istore 8, 2) := by decide +kernel
theorem dX12_lovers_185 : decode cX12_lovers 185 = .ok (.iload 8, 2) := by decide +kernel
theorem dX12_lovers_187 : decode cX12_lovers 187 = .ok (.iconst (-1), 1) := by decide +kernel
theorem dX12_lovers_188 : decode cX12_lovers 188 = .ok (.if_icmp .ne 8, 3) := by decide +kernel
theorem dX12_lovers_191 : decode cX12_lovers 191 = .ok (.ldc 158, 2) := by decide +kernel
theorem dX12_lovers_193 : decode cX12_lovers 193 = .ok (.goto 10, 3) := by decide +kernel
theorem dX12_lovers_196 : decode cX12_lovers 196 = .ok (.aload_n 0, 1) := by decide +kernel
theorem dX12_lovers_197 : decode cX12_lovers 197 = .ok (.getfield 91, 3) := by decide +kernel
theorem dX12_lovers_200 : decode cX12_lovers 200 = .ok (.iload 8, 2) := by decide +kernel
theorem dX12_lovers_202 : decode cX12_lovers 202 = .ok (.iaload, 1) := by decide +kernel
theorem dX12_lovers_203 : decode cX12_lovers 203 = .ok (.istore 9, 2) := by decide +kernel
theorem dX12_lovers_205 : decode cX12_lovers 205 = .ok (.iload 9, 2) := by decide +kernel
theorem dX12_lovers_207 : decode cX12_lovers 207 = .ok (.iload 5, 2) := by decide +kernel
theorem dX12_lovers_209 : decode cX12_lovers 209 = .ok (.if_icmp .gt 21, 3) := by decide +kernel
theorem dX12_lovers_212 : decode cX12_lovers 212 = .ok (.iload 9, 2) := by decide +kernel
theorem dX12_lovers_214 : decode cX12_lovers 214 = .ok (.ldc 158, 2) := by decide +kernel
theorem dX12_lovers_216 : decode cX12_lovers 216 = .ok (.if_icmp .ne 6, 3) := by decide +kernel
theorem dX12_lovers_219 : decode cX12_lovers 219 = .ok (.goto 11, 3) := by decide +kernel
theorem dX12_lovers_222 : decode cX12_lovers 222 = .ok (.iload 9, 2) := by decide +kernel
theorem dX12_lovers_224 : decode cX12_lovers 224 = .ok (.istore 5, 2) := by decide +kernel
theorem dX12_lovers_226 : decode cX12_lovers 226 = .ok (.iload 7, 2) := by decide +kernel
theorem dX12_lovers_228 : decode cX12_lovers 228 = .ok (.istore 6, 2) := by decide +kernel
theorem dX12_lovers_230 : decode cX12_lovers 230 = .ok (.iinc 7 1, 3) := by decide +kernel
theorem dX12_lovers_233 : decode cX12_lovers 233 = .ok (.goto (-84), 3) := by decide +kernel
theorem dX12_lovers_236 : decode cX12_lovers 236 = .ok (.iload 5, 2) := by decide +kernel
theorem dX12_lovers_238 : decode cX12_lovers 238 = .ok (.ldc 158, 2) := by decide +kernel
theorem dX12_lovers_240 : decode cX12_lovers 240 = .ok (.if_icmp .ne 7, 3) := by decide +kernel
theorem dX12_lovers_243 : decode cX12_lovers 243 = .ok (.iconst (-1), 1) := by decide +kernel
theorem dX12_lovers_244 : decode cX12_lovers 244 = .ok (.goto 15, 3) := by decide +kernel
theorem dX12_lovers_247 : decode cX12_lovers 247 = .ok (.iload 4, 2) := by decide +kernel
theorem dX12_lovers_249 : decode cX12_lovers 249 = .ok (.ifCond .ne 8, 3) := by decide +kernel
theorem dX12_lovers_252 : decode cX12_lovers 252 = .ok (.iload 5, 2) := by decide +kernel
theorem dX12_lovers_254 : decode cX12_lovers 254 = .ok (.goto 5, 3) := by decide +kernel
theorem dX12_lovers_257 : decode cX12_lovers 257 = .ok (.iload 6, 2) := by decide +kernel
theorem dX12_lovers_259 : decode cX12_lovers 259 = .ok (.ireturn, 1) := by decide +kernel
set_option maxHeartbeats 4000000 in
set_option maxRecDepth 100000 in
theorem c_X12_lovers (l : Launch) (E : Nat → Nat) (D : va_G) (G : th_G) (h0 : Nat) (hG0 : G h0 = some (10, 0)) (x1 : Int32) (x2 : Int32) (x3 : Int32) (x4 : Int32) : Met l yX12_lovers (tb (.code yX12_lovers cX12_lovers 10 (some .int))) (rm 69) (va_Pc [.ref h0, .int x1, .int x2, .int x3, .int x4] (PX E D G (fun H => True))) (QXi E D G (fun r H => True)) 0 0 (th_A G) := by
  refine Met.ofW (cc := cX12_lovers) (maxL := 10) (ret := (some .int)) (by decide) rfl ?_
  intro p e s m args below meth c s₁ B hml hv
  obtain ⟨hav, ⟨hI, hN, hK⟩, hX⟩ := hv
  have hx := B.exec
  have hb := B.bytes
  have hr := B.returns
  have hts := atoms_spec (ws := tb (.code yX12_lovers cX12_lovers 10 (some .int))) B.pre
  have hown : s.vm.findClass RX12 = some m.cls := findClass_of_methodNamed B.named
  have hlocks := B.notSynchronized
  have hS : va_S (th_A G) s.heap s.heap [] := va_S.rf
  have hl := lv_entry ([.ref h0, .int x1, .int x2, .int x3, .int x4]) (n := 10) (Nat.le_of_ble_eq_true rfl)
  rw [show entryFrame m args 10 = entryFrame m ([.ref h0, .int x1, .int x2, .int x3, .int x4] : List Value).toArray 10 from by rw [hav], lg_entry_eq]
  generalize (lg_sl ([.ref h0, .int x1, .int x2, .int x3, .int x4]) ++ List.replicate (10 - (lg_sl ([.ref h0, .int x1, .int x2, .int x3, .int x4])).length) Slot.unset).toArray = ls at hl ⊢
  have hl : lv_has ls 10 [(0, .ref h0), (1, .int x1), (2, .int x2), (3, .int x3), (4, .int x4)] := hl
  generalize hR : (headSpec (tb (.code yX12_lovers cX12_lovers 10 (some .int))) (rm 69)).room = R
  have hR := hR.symm
  generalize hQ : MQ below (QXi E D G (fun r H => True)) args s 0 0 (th_A G) = QF
  have hQ := hQ.symm
  have J_149 : ∀ (nn : Nat) (H : Heap) (locs : List Loc) (ls : Array Slot) (v9821 : Int32) (v9822 : Int32) (v9823 : Int32) , (Int.toNat (96 - v9821.toInt) = nn) → lv_has ls 10 [(7, .int v9821), (6, .int v9822), (5, .int v9823), (0, .ref h0), (1, .int x1), (2, .int x2), (3, .int x3), (4, .int x4)] → ((0 : Int) ≤ v9821.toInt ∧ v9821.toInt ≤ 96) → ((-1 : Int) ≤ v9822.toInt ∧ v9822.toInt ≤ 95) → (v9823.toInt ≤ 1000000) → ((0 : Int) ≤ x1.toInt ∧ x1.toInt ≤ 23) → ((0 : Int) ≤ x2.toInt ∧ x2.toInt ≤ 23) → ((0 : Int) ≤ x3.toInt ∧ x3.toInt ≤ 96) → ((0 : Int) ≤ x4.toInt ∧ x4.toInt ≤ 1) → th_I (okM E) D G [] H → va_S (th_A G) s.heap H locs → W p l e R s m args below meth c H locs 0 0 QF (F0 m 149 ls []) := by
    intro nn
    induction nn using Nat.strongRecOn with
    | ind nn ih_149 =>
      intro H locs ls v9821 v9822 v9823  hm hl k9824 k9825 k9826 k9827 k9828 k9829 k9830 hI hS
      have J_230 : ∀ (H : Heap) (locs : List Loc) (ls : Array Slot) (v9831 : Int32) (v9832 : Int32) (v9834 : Int32) (v9835 : Int32) , lv_has ls 10 [(9, .int v9831), (8, .int v9832), (7, .int v9821), (6, .int v9834), (5, .int v9835), (0, .ref h0), (1, .int x1), (2, .int x2), (3, .int x3), (4, .int x4)] → ((-1 : Int) ≤ v9832.toInt ∧ v9832.toInt ≤ 96) → ((0 : Int) ≤ v9821.toInt ∧ v9821.toInt ≤ 95) → ((-1 : Int) ≤ v9834.toInt ∧ v9834.toInt ≤ 95) → (v9835.toInt ≤ 1000000) → th_I (okM E) D G [] H → va_S (th_A G) s.heap H locs → W p l e R s m args below meth c H locs 0 0 QF (F0 m 230 ls []) := by
        intro H locs ls v9831 v9832 v9834 v9835  hl k9836 k9837 k9838 k9839 hI hS
        obtain ⟨v9840, e9841⟩ : ∃ y : Int32, y = v9821 + (1) := ⟨_, rfl⟩
        have tv9840 : v9840.toInt = v9821.toInt + (1) := iv_add rfl (by decide) e9841 (by omega) (by omega)
        refine lv_iinc (v := v9840) (lv' := [(7, .int v9840), (9, .int v9831), (8, .int v9832), (6, .int v9834), (5, .int v9835), (0, .ref h0), (1, .int x1), (2, .int x2), (3, .int x3), (4, .int x4)]) hx hb dX12_lovers_230 hl (k := 2) rfl (by rw [e9841]; rfl) (by decide) rfl (fun ls hl => ?_)
        refine lv_goto (tgt := 149) hx hb dX12_lovers_233 (by decide) ?_
        exact ih_149 _ (by omega) H locs ls v9840 v9834 v9835  rfl (lv_sub hl [0, 3, 4, 5, 6, 7, 8, 9] rfl) ⟨by omega, by omega⟩ ⟨by omega, by omega⟩ (by omega) ⟨by omega, by omega⟩ ⟨by omega, by omega⟩ ⟨by omega, by omega⟩ ⟨by omega, by omega⟩ hI hS
      have J_203 : ∀ (H : Heap) (locs : List Loc) (ls : Array Slot) (v9842 : Int32) (v9846 : Int32) , lv_has ls 10 [(8, .int v9842), (7, .int v9821), (6, .int v9822), (5, .int v9823), (0, .ref h0), (1, .int x1), (2, .int x2), (3, .int x3), (4, .int x4)] → ((-1 : Int) ≤ v9842.toInt ∧ v9842.toInt ≤ 96) → ((0 : Int) ≤ v9821.toInt ∧ v9821.toInt ≤ 95) → th_I (okM E) D G [] H → va_S (th_A G) s.heap H locs → W p l e R s m args below meth c H locs 0 0 QF (F0 m 203 ls [.int v9846]) := by
        intro H locs ls v9842 v9846  hl k9847 k9848 hI hS
        refine lv_istore (lv' := [(9, .int v9846), (8, .int v9842), (7, .int v9821), (6, .int v9822), (5, .int v9823), (0, .ref h0), (1, .int x1), (2, .int x2), (3, .int x3), (4, .int x4)]) hx hb dX12_lovers_203 hl (by decide) rfl (fun ls hl => ?_)
        refine lv_iload hx hb dX12_lovers_205 (lv_at hl 0 rfl) ?_
        refine lv_iload hx hb dX12_lovers_207 (lv_at hl 4 rfl) ?_
        have k9849 := iv_lo v9846
        have k9850 := iv_hi v9846
        have k9851 := iv_lo v9823
        have k9852 := iv_hi v9823
        refine lv_icmp_gt (tgt := 230) hx hb dX12_lovers_209 (by decide) (fun c9853 => ?_) (fun c9853 => ?_)
        · skip
          have k9854 := iv_lt (X := v9823.toInt) (Y := v9846.toInt) rfl rfl c9853
          exact J_230 H locs ls v9846 v9842 v9822 v9823  (lv_sub hl [0, 1, 2, 3, 4, 5, 6, 7, 8, 9] rfl) ⟨by omega, by omega⟩ ⟨by omega, by omega⟩ ⟨by omega, by omega⟩ (by omega) hI hS
        · skip
          have k9855 := iv_nlt (X := v9823.toInt) (Y := v9846.toInt) rfl rfl c9853
          refine lv_iload hx hb dX12_lovers_212 (lv_at hl 0 rfl) ?_
          refine lv_ldc hx hb hown (hts _ (tb_c wd_1582)) dX12_lovers_214 ?_
          refine lv_icmp_ne (tgt := 222) hx hb dX12_lovers_216 (by decide) (fun c9856 => ?_) (fun c9856 => ?_)
          · skip
            have k9857 := iv_ne (X := v9846.toInt) (Y := (1000000)) rfl (by decide) c9856
            refine lv_iload hx hb dX12_lovers_222 (lv_at hl 0 rfl) ?_
            refine lv_istore (lv' := [(5, .int v9846), (9, .int v9846), (8, .int v9842), (7, .int v9821), (6, .int v9822), (0, .ref h0), (1, .int x1), (2, .int x2), (3, .int x3), (4, .int x4)]) hx hb dX12_lovers_224 hl (by decide) rfl (fun ls hl => ?_)
            refine lv_iload hx hb dX12_lovers_226 (lv_at hl 3 rfl) ?_
            refine lv_istore (lv' := [(6, .int v9821), (5, .int v9846), (9, .int v9846), (8, .int v9842), (7, .int v9821), (0, .ref h0), (1, .int x1), (2, .int x2), (3, .int x3), (4, .int x4)]) hx hb dX12_lovers_228 hl (by decide) rfl (fun ls hl => ?_)
            exact J_230 H locs ls v9846 v9842 v9821 v9846  (lv_sub hl [2, 3, 4, 0, 1, 5, 6, 7, 8, 9] rfl) ⟨by omega, by omega⟩ ⟨by omega, by omega⟩ ⟨by omega, by omega⟩ (by omega) hI hS
          · skip
            have k9858 := iv_eq (X := v9846.toInt) (Y := (1000000)) rfl (by decide) c9856
            refine lv_goto (tgt := 230) hx hb dX12_lovers_219 (by decide) ?_
            exact J_230 H locs ls v9846 v9842 v9822 v9823  (lv_sub hl [0, 1, 2, 3, 4, 5, 6, 7, 8, 9] rfl) ⟨by omega, by omega⟩ ⟨by omega, by omega⟩ ⟨by omega, by omega⟩ (by omega) hI hS
      have J_183 : ∀ (H : Heap) (locs : List Loc) (ls : Array Slot) (v9862 : Int32) , lv_has ls 10 [(7, .int v9821), (6, .int v9822), (5, .int v9823), (0, .ref h0), (1, .int x1), (2, .int x2), (3, .int x3), (4, .int x4)] → ((0 : Int) ≤ v9821.toInt ∧ v9821.toInt ≤ 95) → ((-1 : Int) ≤ v9862.toInt ∧ v9862.toInt ≤ 96) → th_I (okM E) D G [] H → va_S (th_A G) s.heap H locs → W p l e R s m args below meth c H locs 0 0 QF (F0 m 183 ls [.int v9862]) := by
        intro H locs ls v9862  hl k9863 k9864 hI hS
        refine lv_istore (lv' := [(8, .int v9862), (7, .int v9821), (6, .int v9822), (5, .int v9823), (0, .ref h0), (1, .int x1), (2, .int x2), (3, .int x3), (4, .int x4)]) hx hb dX12_lovers_183 hl (by decide) rfl (fun ls hl => ?_)
        refine lv_iload hx hb dX12_lovers_185 (lv_at hl 0 rfl) ?_
        refine lv_iconst (v := (-1)) hx hb dX12_lovers_187 (by decide) ?_
        refine lv_icmp_ne (tgt := 196) hx hb dX12_lovers_188 (by decide) (fun c9865 => ?_) (fun c9865 => ?_)
        · skip
          have k9866 := iv_ne (X := v9862.toInt) (Y := (-1)) rfl (by decide) c9865
          refine lv_aload_n hx hb dX12_lovers_196 rfl (lv_at hl 4 rfl) ?_
          refine gmA hx hb hts inT12 hown hK hI List.not_mem_nil hG0 42 (by decide) (hts _ (tb_c wd_1275)) rfl rfl dX12_lovers_197 (fun a9867 hq9868 hf9869 => ?_)
          refine lv_iload hx hb dX12_lovers_200 (lv_at hl 0 rfl) ?_
          obtain ⟨F9870, hA9871⟩ := om_0 hI hq9868 List.not_mem_nil
          refine th_iald hx hb hK hA9871 0 rfl (iv_in (X := v9862.toInt) rfl (by omega) (by omega)) dX12_lovers_202 (fun v9872 e9873 => ?_)
          exact J_203 H locs ls v9862 v9872  (lv_sub hl [0, 1, 2, 3, 4, 5, 6, 7, 8] rfl) ⟨by omega, by omega⟩ ⟨by omega, by omega⟩ hI hS
        · skip
          have k9874 := iv_eq (X := v9862.toInt) (Y := (-1)) rfl (by decide) c9865
          refine lv_ldc hx hb hown (hts _ (tb_c wd_1582)) dX12_lovers_191 ?_
          refine lv_goto (tgt := 203) hx hb dX12_lovers_193 (by decide) ?_
          exact J_203 H locs ls v9862 1000000  (lv_sub hl [0, 1, 2, 3, 4, 5, 6, 7, 8] rfl) ⟨by omega, by omega⟩ ⟨by omega, by omega⟩ hI hS
      refine lv_iload hx hb dX12_lovers_149 (lv_at hl 0 rfl) ?_
      refine lv_bipush (v := 96) hx hb dX12_lovers_151 (by decide) ?_
      refine lv_icmp_ge (tgt := 236) hx hb dX12_lovers_153 (by decide) (fun c9875 => ?_) (fun c9875 => ?_)
      · skip
        have k9876 := iv_le (X := (96)) (Y := v9821.toInt) (by decide) rfl c9875
        refine lv_iload hx hb dX12_lovers_236 (lv_at hl 2 rfl) ?_
        refine lv_ldc hx hb hown (hts _ (tb_c wd_1582)) dX12_lovers_238 ?_
        have k9877 := iv_lo v9823
        have k9878 := iv_hi v9823
        refine lv_icmp_ne (tgt := 247) hx hb dX12_lovers_240 (by decide) (fun c9879 => ?_) (fun c9879 => ?_)
        · skip
          have k9880 := iv_ne (X := v9823.toInt) (Y := (1000000)) rfl (by decide) c9879
          refine lv_iload hx hb dX12_lovers_247 (lv_at hl 7 rfl) ?_
          refine lv_if_ne (tgt := 257) hx hb dX12_lovers_249 (by decide) (fun c9881 => ?_) (fun c9881 => ?_)
          · skip
            have k9882 := iv_ne (X := x4.toInt) (Y := (0)) rfl (by decide) c9881
            refine lv_iload hx hb dX12_lovers_257 (lv_at hl 1 rfl) ?_
            have hpost : True := trivial
            rw [hQ]
            exact W.iret (v := v9822) hx hb hr (fun t ht hW => ⟨⟨v9822, v9822, rfl, rfl, ⟨by rw [ht]; exact hI, hN.warm hW, va_K.moved hW.alike hK⟩, by first | (rw [ht]; exact hpost) | exact hpost⟩, hS.F ht⟩) hS.2.2 dX12_lovers_259
          · skip
            have k9883 := iv_eq (X := x4.toInt) (Y := (0)) rfl (by decide) c9881
            refine lv_iload hx hb dX12_lovers_252 (lv_at hl 2 rfl) ?_
            refine lv_goto (tgt := 259) hx hb dX12_lovers_254 (by decide) ?_
            have hpost : True := trivial
            rw [hQ]
            exact W.iret (v := v9823) hx hb hr (fun t ht hW => ⟨⟨v9823, v9823, rfl, rfl, ⟨by rw [ht]; exact hI, hN.warm hW, va_K.moved hW.alike hK⟩, by first | (rw [ht]; exact hpost) | exact hpost⟩, hS.F ht⟩) hS.2.2 dX12_lovers_259
        · skip
          have k9884 := iv_eq (X := v9823.toInt) (Y := (1000000)) rfl (by decide) c9879
          refine lv_iconst (v := (-1)) hx hb dX12_lovers_243 (by decide) ?_
          refine lv_goto (tgt := 259) hx hb dX12_lovers_244 (by decide) ?_
          have hpost : True := trivial
          rw [hQ]
          exact W.iret (v := (-1)) hx hb hr (fun t ht hW => ⟨⟨(-1), (-1), rfl, rfl, ⟨by rw [ht]; exact hI, hN.warm hW, va_K.moved hW.alike hK⟩, by first | (rw [ht]; exact hpost) | exact hpost⟩, hS.F ht⟩) hS.2.2 dX12_lovers_259
      · skip
        have k9885 := iv_nle (X := (96)) (Y := v9821.toInt) (by decide) rfl c9875
        refine lv_aload_n hx hb dX12_lovers_156 rfl (lv_at hl 3 rfl) ?_
        refine gmA hx hb hts inT12 hown hK hI List.not_mem_nil hG0 26 (by decide) (hts _ (tb_c wd_1259)) rfl rfl dX12_lovers_157 (fun a9886 hq9887 hf9888 => ?_)
        refine lv_bipush (v := 24) hx hb dX12_lovers_160 (by decide) ?_
        refine lv_iload hx hb dX12_lovers_162 (lv_at hl 0 rfl) ?_
        refine lv_imul hx hb dX12_lovers_164 ?_
        refine lv_topi (fun v9889 e9890 => ?_)
        have tv9889 : v9889.toInt = (24) * v9821.toInt := iv_mul (by decide) rfl e9890 (by omega) (by omega)
        refine lv_iload_n hx hb dX12_lovers_165 rfl (lv_at hl 4 rfl) ?_
        refine lv_iadd hx hb dX12_lovers_166 ?_
        refine lv_topi (fun v9891 e9892 => ?_)
        have tv9891 : v9891.toInt = v9889.toInt + x1.toInt := iv_add rfl rfl e9892 (by omega) (by omega)
        obtain ⟨F9893, hA9894⟩ := om_5 hI hq9887 List.not_mem_nil
        refine va_zald hx hb hK (th_one hA9894) 0 2 rfl rfl (iv_in (X := v9891.toInt) rfl (by omega) (by omega)) dX12_lovers_167 ?_
        refine lv_topi (fun v9895 e9896 => ?_)
        have k9897 := iv_lo v9895
        have k9898 := iv_hi v9895
        refine lv_if_eq (tgt := 175) hx hb dX12_lovers_168 (by decide) (fun c9899 => ?_) (fun c9899 => ?_)
        · skip
          have k9900 := iv_eq (X := v9895.toInt) (Y := (0)) rfl (by decide) c9899
          refine lv_aload_n hx hb dX12_lovers_175 rfl (lv_at hl 3 rfl) ?_
          refine lv_iload_n hx hb dX12_lovers_176 rfl (lv_at hl 4 rfl) ?_
          refine lv_iload hx hb dX12_lovers_177 (lv_at hl 0 rfl) ?_
          refine lv_iload_n hx hb dX12_lovers_179 rfl (lv_at hl 5 rfl) ?_
          refine mr_i (As := [.int x1, .int v9821, .int x2]) (rest := []) (n := 3) (d := 1) ⟨hx, hb, hml, hown, hts⟩ (c_X12_firstAt l E D G H h0 hG0 x1 v9821 x2 ⟨by omega, by omega⟩ (by omega)) wd_1800 wd_1802 wp_90 wd_13 wd_1803 (by decide +kernel) ⟨by rw [hR]; exact Nat.le_of_ble_eq_true rfl, by rw [hR]; exact Nat.le_of_ble_eq_true rfl⟩ hI hN hK hS hG0 rfl hl.1 rfl (Nat.le_of_ble_eq_true rfl) dX12_lovers_180 ⟨Nat.zero_le _, Nat.zero_le _⟩ (fun r9901 locs hp hS => ?_)
          have hp9902 := hp
          exact J_183 H locs ls r9901  (lv_sub hl [0, 1, 2, 3, 4, 5, 6, 7] rfl) ⟨by omega, by omega⟩ ⟨by omega, by omega⟩ hI hS
        · skip
          have k9903 := iv_ne (X := v9895.toInt) (Y := (0)) rfl (by decide) c9899
          refine lv_iconst (v := (-1)) hx hb dX12_lovers_171 (by decide) ?_
          refine lv_goto (tgt := 183) hx hb dX12_lovers_172 (by decide) ?_
          exact J_183 H locs ls (-1)  (lv_sub hl [0, 1, 2, 3, 4, 5, 6, 7] rfl) ⟨by omega, by omega⟩ ⟨by decide, by decide⟩ hI hS
  have J_57 : ∀ (nn : Nat) (H : Heap) (locs : List Loc) (ls : Array Slot) (v9904 : Int32) , (Int.toNat (v9904.toInt - (-1)) = nn) → lv_has ls 10 [(5, .int v9904), (0, .ref h0), (1, .int x1), (2, .int x2), (3, .int x3), (4, .int x4)] → ((-1 : Int) ≤ v9904.toInt ∧ v9904.toInt ≤ 95) → ((0 : Int) ≤ x1.toInt ∧ x1.toInt ≤ 23) → ((0 : Int) ≤ x2.toInt ∧ x2.toInt ≤ 23) → ((0 : Int) ≤ x3.toInt ∧ x3.toInt ≤ 96) → ((0 : Int) ≤ x4.toInt ∧ x4.toInt ≤ 1) → th_I (okM E) D G [] H → va_S (th_A G) s.heap H locs → W p l e R s m args below meth c H locs 0 0 QF (F0 m 57 ls []) := by
    intro nn
    induction nn using Nat.strongRecOn with
    | ind nn ih_57 =>
      intro H locs ls v9904  hm hl k9905 k9906 k9907 k9908 k9909 hI hS
      have J_132 : ∀ (H : Heap) (locs : List Loc) (ls : Array Slot) (v9910 : Int32) (v9912 : Int32) (v9913 : Int32) (a9914 : Nat) , lv_has ls 10 [(6, .int v9910), (5, .int v9904), (0, .ref h0), (1, .int x1), (2, .int x2), (3, .int x3), (4, .int x4)] → ((-1 : Int) ≤ v9910.toInt ∧ v9910.toInt ≤ 96) → ((0 : Int) ≤ v9904.toInt ∧ v9904.toInt ≤ 95) → ((0 : Int) ≤ x3.toInt ∧ x3.toInt ≤ 95) → ((0 : Int) ≤ v9913.toInt ∧ v9913.toInt ≤ 95) → G a9914 = some (0, 98) → th_I (okM E) D G [] H → va_S (th_A G) s.heap H locs → W p l e R s m args below meth c H locs 0 0 QF (F0 m 132 ls [.int v9912, .int v9913, .ref a9914]) := by
        intro H locs ls v9910 v9912 v9913 a9914  hl k9915 k9916 k9917 k9918 ha9914 hI hS
        obtain ⟨F9919, hA9920⟩ := om_0 hI ha9914 List.not_mem_nil
        refine th_iast hx hb hK hA9920 0 rfl hS ⟨_, ha9914⟩ (iv_in (X := v9913.toInt) rfl (by omega) (by omega)) dX12_lovers_132 (fun H locs hA9921 oq hS => ?_)
        have hI := th_I.put hI ha9914 hA9921 ok_m0 oq
        obtain ⟨v9922, e9923⟩ : ∃ y : Int32, y = v9904 + (-1) := ⟨_, rfl⟩
        have tv9922 : v9922.toInt = v9904.toInt + (-1) := iv_add rfl (by decide) e9923 (by omega) (by omega)
        refine lv_iinc (v := v9922) (lv' := [(5, .int v9922), (6, .int v9910), (0, .ref h0), (1, .int x1), (2, .int x2), (3, .int x3), (4, .int x4)]) hx hb dX12_lovers_133 hl (k := 1) rfl (by rw [e9923]; rfl) (by decide) rfl (fun ls hl => ?_)
        refine lv_goto (tgt := 57) hx hb dX12_lovers_136 (by decide) ?_
        exact ih_57 _ (by omega) H locs ls v9922  rfl (lv_sub hl [0, 2, 3, 4, 5, 6] rfl) ⟨by omega, by omega⟩ ⟨by omega, by omega⟩ ⟨by omega, by omega⟩ ⟨by omega, by omega⟩ ⟨by omega, by omega⟩ hI hS
      have J_123 : ∀ (H : Heap) (locs : List Loc) (ls : Array Slot) (v9924 : Int32) (v9926 : Int32) (a9927 : Nat) , lv_has ls 10 [(6, .int v9924), (5, .int v9904), (0, .ref h0), (1, .int x1), (2, .int x2), (3, .int x3), (4, .int x4)] → ((-1 : Int) ≤ v9924.toInt ∧ v9924.toInt ≤ 96) → ((0 : Int) ≤ v9904.toInt ∧ v9904.toInt ≤ 95) → ((0 : Int) ≤ x3.toInt ∧ x3.toInt ≤ 95) → ((0 : Int) ≤ v9926.toInt ∧ v9926.toInt ≤ 95) → G a9927 = some (0, 98) → th_I (okM E) D G [] H → va_S (th_A G) s.heap H locs → W p l e R s m args below meth c H locs 0 0 QF (F0 m 123 ls [.int v9926, .ref a9927]) := by
        intro H locs ls v9924 v9926 a9927  hl k9928 k9929 k9930 k9931 ha9927 hI hS
        refine lv_aload_n hx hb dX12_lovers_123 rfl (lv_at hl 2 rfl) ?_
        refine gmA hx hb hts inT12 hown hK hI List.not_mem_nil hG0 42 (by decide) (hts _ (tb_c wd_1275)) rfl rfl dX12_lovers_124 (fun a9932 hq9933 hf9934 => ?_)
        refine lv_iload hx hb dX12_lovers_127 (lv_at hl 1 rfl) ?_
        refine lv_iconst (v := 1) hx hb dX12_lovers_129 (by decide) ?_
        refine lv_iadd hx hb dX12_lovers_130 ?_
        refine lv_topi (fun v9935 e9936 => ?_)
        have tv9935 : v9935.toInt = v9904.toInt + (1) := iv_add rfl (by decide) e9936 (by omega) (by omega)
        obtain ⟨F9937, hA9938⟩ := om_0 hI hq9933 List.not_mem_nil
        refine th_iald hx hb hK hA9938 0 rfl (iv_in (X := v9935.toInt) rfl (by omega) (by omega)) dX12_lovers_131 (fun v9939 e9940 => ?_)
        exact J_132 H locs ls v9924 v9939 v9926 a9927  (lv_sub hl [0, 1, 2, 3, 4, 5, 6] rfl) ⟨by omega, by omega⟩ ⟨by omega, by omega⟩ ⟨by omega, by omega⟩ ⟨by omega, by omega⟩ ha9927 hI hS
      have J_90 : ∀ (H : Heap) (locs : List Loc) (ls : Array Slot) (v9942 : Int32) , lv_has ls 10 [(5, .int v9904), (0, .ref h0), (1, .int x1), (2, .int x2), (3, .int x3), (4, .int x4)] → ((0 : Int) ≤ v9904.toInt ∧ v9904.toInt ≤ 95) → ((0 : Int) ≤ x3.toInt ∧ x3.toInt ≤ 95) → ((-1 : Int) ≤ v9942.toInt ∧ v9942.toInt ≤ 96) → th_I (okM E) D G [] H → va_S (th_A G) s.heap H locs → W p l e R s m args below meth c H locs 0 0 QF (F0 m 90 ls [.int v9942]) := by
        intro H locs ls v9942  hl k9943 k9944 k9945 hI hS
        refine lv_istore (lv' := [(6, .int v9942), (5, .int v9904), (0, .ref h0), (1, .int x1), (2, .int x2), (3, .int x3), (4, .int x4)]) hx hb dX12_lovers_90 hl (by decide) rfl (fun ls hl => ?_)
        refine lv_aload_n hx hb dX12_lovers_92 rfl (lv_at hl 2 rfl) ?_
        refine gmA hx hb hts inT12 hown hK hI List.not_mem_nil hG0 42 (by decide) (hts _ (tb_c wd_1275)) rfl rfl dX12_lovers_93 (fun a9946 hq9947 hf9948 => ?_)
        refine lv_iload hx hb dX12_lovers_96 (lv_at hl 1 rfl) ?_
        refine lv_iload hx hb dX12_lovers_98 (lv_at hl 0 rfl) ?_
        refine lv_iconst (v := (-1)) hx hb dX12_lovers_100 (by decide) ?_
        refine lv_icmp_eq (tgt := 123) hx hb dX12_lovers_101 (by decide) (fun c9949 => ?_) (fun c9949 => ?_)
        · skip
          have k9950 := iv_eq (X := v9942.toInt) (Y := (-1)) rfl (by decide) c9949
          exact J_123 H locs ls v9942 v9904 a9946  (lv_sub hl [0, 1, 2, 3, 4, 5, 6] rfl) ⟨by omega, by omega⟩ ⟨by omega, by omega⟩ ⟨by omega, by omega⟩ ⟨by omega, by omega⟩ hq9947 hI hS
        · skip
          have k9951 := iv_ne (X := v9942.toInt) (Y := (-1)) rfl (by decide) c9949
          refine lv_iload hx hb dX12_lovers_104 (lv_at hl 0 rfl) ?_
          refine lv_aload_n hx hb dX12_lovers_106 rfl (lv_at hl 2 rfl) ?_
          refine gmA hx hb hts inT12 hown hK hI List.not_mem_nil hG0 42 (by decide) (hts _ (tb_c wd_1275)) rfl rfl dX12_lovers_107 (fun a9952 hq9953 hf9954 => ?_)
          obtain rfl := fr.uniq (by decide) hf9948 hf9954
          refine lv_iload hx hb dX12_lovers_110 (lv_at hl 1 rfl) ?_
          refine lv_iconst (v := 1) hx hb dX12_lovers_112 (by decide) ?_
          refine lv_iadd hx hb dX12_lovers_113 ?_
          refine lv_topi (fun v9955 e9956 => ?_)
          have tv9955 : v9955.toInt = v9904.toInt + (1) := iv_add rfl (by decide) e9956 (by omega) (by omega)
          obtain ⟨F9957, hA9958⟩ := om_0 hI hq9947 List.not_mem_nil
          refine th_iald hx hb hK hA9958 0 rfl (iv_in (X := v9955.toInt) rfl (by omega) (by omega)) dX12_lovers_114 (fun v9959 e9960 => ?_)
          have k9961 := iv_lo v9959
          have k9962 := iv_hi v9959
          refine lv_icmp_ge (tgt := 123) hx hb dX12_lovers_115 (by decide) (fun c9963 => ?_) (fun c9963 => ?_)
          · skip
            have k9964 := iv_le (X := v9959.toInt) (Y := v9942.toInt) rfl rfl c9963
            exact J_123 H locs ls v9942 v9904 a9946  (lv_sub hl [0, 1, 2, 3, 4, 5, 6] rfl) ⟨by omega, by omega⟩ ⟨by omega, by omega⟩ ⟨by omega, by omega⟩ ⟨by omega, by omega⟩ hq9947 hI hS
          · skip
            have k9965 := iv_nle (X := v9959.toInt) (Y := v9942.toInt) rfl rfl c9963
            refine lv_iload hx hb dX12_lovers_118 (lv_at hl 0 rfl) ?_
            refine lv_goto (tgt := 132) hx hb dX12_lovers_120 (by decide) ?_
            exact J_132 H locs ls v9942 v9942 v9904 a9946  (lv_sub hl [0, 1, 2, 3, 4, 5, 6] rfl) ⟨by omega, by omega⟩ ⟨by omega, by omega⟩ ⟨by omega, by omega⟩ ⟨by omega, by omega⟩ hq9947 hI hS
      refine lv_iload hx hb dX12_lovers_57 (lv_at hl 0 rfl) ?_
      refine lv_iload_n hx hb dX12_lovers_59 rfl (lv_at hl 4 rfl) ?_
      refine lv_icmp_lt (tgt := 139) hx hb dX12_lovers_60 (by decide) (fun c9966 => ?_) (fun c9966 => ?_)
      · skip
        have k9967 := iv_lt (X := v9904.toInt) (Y := x3.toInt) rfl rfl c9966
        refine lv_ldc hx hb hown (hts _ (tb_c wd_1582)) dX12_lovers_139 ?_
        refine lv_istore (lv' := [(5, .int 1000000), (0, .ref h0), (1, .int x1), (2, .int x2), (3, .int x3), (4, .int x4)]) hx hb dX12_lovers_141 hl (by decide) rfl (fun ls hl => ?_)
        refine lv_iconst (v := (-1)) hx hb dX12_lovers_143 (by decide) ?_
        refine lv_istore (lv' := [(6, .int (-1)), (5, .int 1000000), (0, .ref h0), (1, .int x1), (2, .int x2), (3, .int x3), (4, .int x4)]) hx hb dX12_lovers_144 hl (by decide) rfl (fun ls hl => ?_)
        refine lv_iload_n hx hb dX12_lovers_146 rfl (lv_at hl 5 rfl) ?_
        refine lv_istore (lv' := [(7, .int x3), (6, .int (-1)), (5, .int 1000000), (0, .ref h0), (1, .int x1), (2, .int x2), (3, .int x3), (4, .int x4)]) hx hb dX12_lovers_147 hl (by decide) rfl (fun ls hl => ?_)
        exact J_149 _ H locs ls x3 (-1) 1000000  rfl (lv_sub hl [0, 1, 2, 3, 4, 5, 6, 7] rfl) ⟨by omega, by omega⟩ ⟨by decide, by decide⟩ (by decide) ⟨by omega, by omega⟩ ⟨by omega, by omega⟩ ⟨by omega, by omega⟩ ⟨by omega, by omega⟩ hI hS
      · skip
        have k9968 := iv_nlt (X := v9904.toInt) (Y := x3.toInt) rfl rfl c9966
        refine lv_aload_n hx hb dX12_lovers_63 rfl (lv_at hl 1 rfl) ?_
        refine gmA hx hb hts inT12 hown hK hI List.not_mem_nil hG0 26 (by decide) (hts _ (tb_c wd_1259)) rfl rfl dX12_lovers_64 (fun a9969 hq9970 hf9971 => ?_)
        refine lv_bipush (v := 24) hx hb dX12_lovers_67 (by decide) ?_
        refine lv_iload hx hb dX12_lovers_69 (lv_at hl 0 rfl) ?_
        refine lv_imul hx hb dX12_lovers_71 ?_
        refine lv_topi (fun v9972 e9973 => ?_)
        have tv9972 : v9972.toInt = (24) * v9904.toInt := iv_mul (by decide) rfl e9973 (by omega) (by omega)
        refine lv_iload_n hx hb dX12_lovers_72 rfl (lv_at hl 3 rfl) ?_
        refine lv_iadd hx hb dX12_lovers_73 ?_
        refine lv_topi (fun v9974 e9975 => ?_)
        have tv9974 : v9974.toInt = v9972.toInt + x2.toInt := iv_add rfl rfl e9975 (by omega) (by omega)
        obtain ⟨F9976, hA9977⟩ := om_5 hI hq9970 List.not_mem_nil
        refine va_zald hx hb hK (th_one hA9977) 0 2 rfl rfl (iv_in (X := v9974.toInt) rfl (by omega) (by omega)) dX12_lovers_74 ?_
        refine lv_topi (fun v9978 e9979 => ?_)
        have k9980 := iv_lo v9978
        have k9981 := iv_hi v9978
        refine lv_if_eq (tgt := 82) hx hb dX12_lovers_75 (by decide) (fun c9982 => ?_) (fun c9982 => ?_)
        · skip
          have k9983 := iv_eq (X := v9978.toInt) (Y := (0)) rfl (by decide) c9982
          refine lv_aload_n hx hb dX12_lovers_82 rfl (lv_at hl 1 rfl) ?_
          refine lv_iload_n hx hb dX12_lovers_83 rfl (lv_at hl 3 rfl) ?_
          refine lv_iload hx hb dX12_lovers_84 (lv_at hl 0 rfl) ?_
          refine lv_iload_n hx hb dX12_lovers_86 rfl (lv_at hl 2 rfl) ?_
          refine mr_i (As := [.int x2, .int v9904, .int x1]) (rest := []) (n := 3) (d := 1) ⟨hx, hb, hml, hown, hts⟩ (c_X12_firstAt l E D G H h0 hG0 x2 v9904 x1 ⟨by omega, by omega⟩ (by omega)) wd_1800 wd_1802 wp_90 wd_13 wd_1803 (by decide +kernel) ⟨by rw [hR]; exact Nat.le_of_ble_eq_true rfl, by rw [hR]; exact Nat.le_of_ble_eq_true rfl⟩ hI hN hK hS hG0 rfl hl.1 rfl (Nat.le_of_ble_eq_true rfl) dX12_lovers_87 ⟨Nat.zero_le _, Nat.zero_le _⟩ (fun r9984 locs hp hS => ?_)
          have hp9985 := hp
          exact J_90 H locs ls r9984  (lv_sub hl [0, 1, 2, 3, 4, 5] rfl) ⟨by omega, by omega⟩ ⟨by omega, by omega⟩ ⟨by omega, by omega⟩ hI hS
        · skip
          have k9986 := iv_ne (X := v9978.toInt) (Y := (0)) rfl (by decide) c9982
          refine lv_iconst (v := (-1)) hx hb dX12_lovers_78 (by decide) ?_
          refine lv_goto (tgt := 90) hx hb dX12_lovers_79 (by decide) ?_
          exact J_90 H locs ls (-1)  (lv_sub hl [0, 1, 2, 3, 4, 5] rfl) ⟨by omega, by omega⟩ ⟨by omega, by omega⟩ ⟨by decide, by decide⟩ hI hS
  have J_31 : ∀ (H : Heap) (locs : List Loc) (ls : Array Slot)  , lv_has ls 10 [(0, .ref h0), (1, .int x1), (2, .int x2), (3, .int x3), (4, .int x4)] → th_I (okM E) D G [] H → va_S (th_A G) s.heap H locs → W p l e R s m args below meth c H locs 0 0 QF (F0 m 31 ls []) := by
    intro H locs ls   hl  hI hS
    refine lv_iconst (v := (-1)) hx hb dX12_lovers_31 (by decide) ?_
    have hpost : True := trivial
    rw [hQ]
    exact W.iret (v := (-1)) hx hb hr (fun t ht hW => ⟨⟨(-1), (-1), rfl, rfl, ⟨by rw [ht]; exact hI, hN.warm hW, va_K.moved hW.alike hK⟩, by first | (rw [ht]; exact hpost) | exact hpost⟩, hS.F ht⟩) hS.2.2 dX12_lovers_32
  refine lv_iload_n hx hb dX12_lovers_0 rfl (lv_at hl 1 rfl) ?_
  refine th_cSs (As := [.int x1]) (rest := []) (n := 1) (d := 1) ⟨hx, hb, hml, hown, hts⟩ (c_X12_isCell l s.heap x1) wd_1414 wd_1415 wd_13 wd_1416 (by decide +kernel) ⟨by rw [hR]; exact Nat.le_of_ble_eq_true rfl, by rw [hR]; exact Nat.le_of_ble_eq_true rfl⟩ hN hS rfl hl.1 rfl (Nat.le_of_ble_eq_true rfl) dX12_lovers_1 ⟨Nat.zero_le _, Nat.zero_le _⟩ (fun r9987 locs hp hS => ?_)
  rcases hp with ⟨rfl, hp⟩ | ⟨rfl, hp⟩
  · skip
    try simp only [rg, not_and, Int.not_le] at hp
    have hp9988 := hp
    refine lv_if_eq (tgt := 31) hx hb dX12_lovers_4 (by decide) (fun c => absurd c (by decide)) (fun _ => ?_)
    refine lv_iload_n hx hb dX12_lovers_7 rfl (lv_at hl 2 rfl) ?_
    refine th_cSs (As := [.int x2]) (rest := []) (n := 1) (d := 1) ⟨hx, hb, hml, hown, hts⟩ (c_X12_isCell l s.heap x2) wd_1414 wd_1415 wd_13 wd_1416 (by decide +kernel) ⟨by rw [hR]; exact Nat.le_of_ble_eq_true rfl, by rw [hR]; exact Nat.le_of_ble_eq_true rfl⟩ hN hS rfl hl.1 rfl (Nat.le_of_ble_eq_true rfl) dX12_lovers_8 ⟨Nat.zero_le _, Nat.zero_le _⟩ (fun r9989 locs hp hS => ?_)
    rcases hp with ⟨rfl, hp⟩ | ⟨rfl, hp⟩
    · skip
      try simp only [rg, not_and, Int.not_le] at hp
      have hp9990 := hp
      refine lv_if_eq (tgt := 31) hx hb dX12_lovers_11 (by decide) (fun c => absurd c (by decide)) (fun _ => ?_)
      refine lv_iload_n hx hb dX12_lovers_14 rfl (lv_at hl 3 rfl) ?_
      refine th_cSs (As := [.int x3]) (rest := []) (n := 1) (d := 1) ⟨hx, hb, hml, hown, hts⟩ (c_X12_isTime l s.heap x3) wd_1655 wd_1656 wd_13 wd_1657 (by decide +kernel) ⟨by rw [hR]; exact Nat.le_of_ble_eq_true rfl, by rw [hR]; exact Nat.le_of_ble_eq_true rfl⟩ hN hS rfl hl.1 rfl (Nat.le_of_ble_eq_true rfl) dX12_lovers_15 ⟨Nat.zero_le _, Nat.zero_le _⟩ (fun r9991 locs hp hS => ?_)
      rcases hp with ⟨rfl, hp⟩ | ⟨rfl, hp⟩
      · skip
        try simp only [rg, not_and, Int.not_le] at hp
        have hp9992 := hp
        refine lv_if_eq (tgt := 31) hx hb dX12_lovers_18 (by decide) (fun c => absurd c (by decide)) (fun _ => ?_)
        refine lv_iload hx hb dX12_lovers_21 (lv_at hl 4 rfl) ?_
        refine lv_iconst (v := 0) hx hb dX12_lovers_23 (by decide) ?_
        refine lv_iconst (v := 1) hx hb dX12_lovers_24 (by decide) ?_
        refine th_cSs (As := [.int x4, .int 0, .int 1]) (rest := []) (n := 3) (d := 0) ⟨hx, hb, hml, hown, hts⟩ (c_X12_lies l s.heap x4 0 1) wd_1395 wd_1396 wd_13 wd_1397 (by decide +kernel) ⟨by rw [hR]; exact Nat.le_of_ble_eq_true rfl, by rw [hR]; exact Nat.le_of_ble_eq_true rfl⟩ hN hS rfl hl.1 rfl (Nat.le_of_ble_eq_true rfl) dX12_lovers_25 ⟨Nat.zero_le _, Nat.zero_le _⟩ (fun r9993 locs hp hS => ?_)
        rcases hp with ⟨rfl, hp⟩ | ⟨rfl, hp⟩
        · skip
          try simp only [rg, not_and, Int.not_le] at hp
          have hp9994 := hp
          try rw [show (0 : Int32).toInt = 0 from by decide] at hp9994
          try rw [show (1 : Int32).toInt = 1 from by decide] at hp9994
          refine lv_if_ne (tgt := 33) hx hb dX12_lovers_28 (by decide) (fun _ => ?_) (fun c => absurd c (by decide))
          refine lv_iload_n hx hb dX12_lovers_33 rfl (lv_at hl 1 rfl) ?_
          refine lv_iload_n hx hb dX12_lovers_34 rfl (lv_at hl 2 rfl) ?_
          refine lv_icmp_ne (tgt := 40) hx hb dX12_lovers_35 (by decide) (fun c9995 => ?_) (fun c9995 => ?_)
          · skip
            have k9996 := iv_ne (X := x1.toInt) (Y := x2.toInt) rfl rfl c9995
            refine lv_aload_n hx hb dX12_lovers_40 rfl (lv_at hl 0 rfl) ?_
            refine mx_v (As := []) (rest := []) (n := 0) (d := 68) ⟨hx, hb, hml, hown, hts⟩ (c_X12_looks l E D G h0 hG0 ) wd_1455 wd_1457 wp_43 wd_13 wd_1458 (by decide +kernel) ⟨by rw [hR]; exact Nat.le_of_ble_eq_true rfl, by rw [hR]; exact Nat.le_of_ble_eq_true rfl⟩ hI hN hK hS hG0 (trivial) rfl hl.1 rfl (Nat.le_of_ble_eq_true rfl) dX12_lovers_41 ⟨Nat.zero_le _, Nat.zero_le _⟩ (fun H locs hI hp hS => ?_)
            refine lv_aload_n hx hb dX12_lovers_44 rfl (lv_at hl 0 rfl) ?_
            refine gmA hx hb hts inT12 hown hK hI List.not_mem_nil hG0 42 (by decide) (hts _ (tb_c wd_1275)) rfl rfl dX12_lovers_45 (fun a9998 hq9999 hf10000 => ?_)
            refine lv_bipush (v := 96) hx hb dX12_lovers_48 (by decide) ?_
            refine lv_ldc hx hb hown (hts _ (tb_c wd_1582)) dX12_lovers_50 ?_
            obtain ⟨F10001, hA10002⟩ := om_0 hI hq9999 List.not_mem_nil
            refine th_iast hx hb hK hA10002 0 rfl hS ⟨_, hq9999⟩ (iv_in (X := (96)) (by decide) (by omega) (by omega)) dX12_lovers_52 (fun H locs hA10003 oq hS => ?_)
            have hI := th_I.put hI hq9999 hA10003 ok_m0 oq
            have hf10000 := fr.arr hG0 hq9999 (by decide) oq hf10000
            have e10004 : 1000000 = (upd F10001 (96 : Int32).toNatClampNeg 1000000) (96 : Int32).toNatClampNeg := rd_us
            refine lv_bipush (v := 95) hx hb dX12_lovers_53 (by decide) ?_
            refine lv_istore (lv' := [(5, .int 95), (0, .ref h0), (1, .int x1), (2, .int x2), (3, .int x3), (4, .int x4)]) hx hb dX12_lovers_55 hl (by decide) rfl (fun ls hl => ?_)
            have zl : (95 : Int32).toInt = 95 := by decide
            exact J_57 _ H locs ls 95  rfl (lv_sub hl [0, 1, 2, 3, 4, 5] rfl) ⟨by decide, by decide⟩ ⟨by omega, by omega⟩ ⟨by omega, by omega⟩ ⟨by omega, by omega⟩ ⟨by omega, by omega⟩ hI hS
          · skip
            have k10005 := iv_eq (X := x1.toInt) (Y := x2.toInt) rfl rfl c9995
            refine lv_iload_n hx hb dX12_lovers_38 rfl (lv_at hl 3 rfl) ?_
            have hpost : True := trivial
            rw [hQ]
            exact W.iret (v := x3) hx hb hr (fun t ht hW => ⟨⟨x3, x3, rfl, rfl, ⟨by rw [ht]; exact hI, hN.warm hW, va_K.moved hW.alike hK⟩, by first | (rw [ht]; exact hpost) | exact hpost⟩, hS.F ht⟩) hS.2.2 dX12_lovers_39
        · skip
          try simp only [rg, not_and, Int.not_le] at hp
          have hp10006 := hp
          try rw [show (0 : Int32).toInt = 0 from by decide] at hp10006
          try rw [show (1 : Int32).toInt = 1 from by decide] at hp10006
          refine lv_if_ne (tgt := 33) hx hb dX12_lovers_28 (by decide) (fun c => absurd c (by decide)) (fun _ => ?_)
          exact J_31 s.heap locs ls   (lv_sub hl [0, 1, 2, 3, 4] rfl)  hI hS
      · skip
        try simp only [rg, not_and, Int.not_le] at hp
        have hp10007 := hp
        refine lv_if_eq (tgt := 31) hx hb dX12_lovers_18 (by decide) (fun _ => ?_) (fun c => absurd c (by decide))
        exact J_31 s.heap locs ls   (lv_sub hl [0, 1, 2, 3, 4] rfl)  hI hS
    · skip
      try simp only [rg, not_and, Int.not_le] at hp
      have hp10008 := hp
      refine lv_if_eq (tgt := 31) hx hb dX12_lovers_11 (by decide) (fun _ => ?_) (fun c => absurd c (by decide))
      exact J_31 s.heap locs ls   (lv_sub hl [0, 1, 2, 3, 4] rfl)  hI hS
  · skip
    try simp only [rg, not_and, Int.not_le] at hp
    have hp10009 := hp
    refine lv_if_eq (tgt := 31) hx hb dX12_lovers_4 (by decide) (fun _ => ?_) (fun c => absurd c (by decide))
    exact J_31 s.heap locs ls   (lv_sub hl [0, 1, 2, 3, 4] rfl)  hI hS
theorem dX12_matters_0 : decode cX12_matters 0 = .ok (.iload_n 1, 1) := by decide +kernel
theorem dX12_matters_1 : decode cX12_matters 1 = .ok (.invokestatic 118, 3) := by decide +kernel
theorem dX12_matters_4 : decode cX12_matters 4 = .ok (.ifCond .eq 26, 3) := by decide +kernel
theorem dX12_matters_7 : decode cX12_matters 7 = .ok (.iload_n 2, 1) := by decide +kernel
theorem dX12_matters_8 : decode cX12_matters 8 = .ok (.invokestatic 298, 3) := by decide +kernel
theorem dX12_matters_11 : decode cX12_matters 11 = .ok (.ifCond .eq 19, 3) := by decide +kernel
theorem dX12_matters_14 : decode cX12_matters 14 = .ok (.iload_n 3, 1) := by decide +kernel
theorem dX12_matters_15 : decode cX12_matters 15 = .ok (.iload_n 2, 1) := by decide +kernel
theorem dX12_matters_16 : decode cX12_matters 16 = .ok (.bipush 96, 2) := by decide +kernel
theorem dX12_matters_18 : decode cX12_matters 18 = .ok (.invokestatic 103, 3) := by decide +kernel
theorem dX12_matters_21 : decode cX12_matters 21 = .ok (.ifCond .eq 9, 3) := by decide +kernel
theorem dX12_matters_24 : decode cX12_matters 24 = .ok (.iload 4, 2) := by decide +kernel
theorem dX12_matters_26 : decode cX12_matters 26 = .ok (.iconst (-1), 1) := by decide +kernel
theorem dX12_matters_27 : decode cX12_matters 27 = .ok (.if_icmp .ge 5, 3) := by decide +kernel
theorem dX12_matters_30 : decode cX12_matters 30 = .ok (.iconst (-1), 1) := by decide +kernel
theorem dX12_matters_31 : decode cX12_matters 31 = .ok (.ireturn, 1) := by decide +kernel
theorem dX12_matters_32 : decode cX12_matters 32 = .ok (.aload_n 0, 1) := by decide +kernel
theorem dX12_matters_33 : decode cX12_matters 33 = .ok (.invokevirtual 138, 3) := by decide +kernel
theorem dX12_matters_36 : decode cX12_matters 36 = .ok (.aload_n 0, 1) := by decide +kernel
theorem dX12_matters_37 : decode cX12_matters 37 = .ok (.iload_n 1, 1) := by decide +kernel
theorem dX12_matters_38 : decode cX12_matters 38 = .ok (.iload_n 2, 1) := by decide +kernel
theorem dX12_matters_39 : decode cX12_matters 39 = .ok (.iload_n 3, 1) := by decide +kernel
theorem dX12_matters_40 : decode cX12_matters 40 = .ok (.invokevirtual 301, 3) := by decide +kernel
theorem dX12_matters_43 : decode cX12_matters 43 = .ok (.istore 5, 2) := by decide +kernel
theorem dX12_matters_45 : decode cX12_matters 45 = .ok (.iload_n 1, 1) := by decide +kernel
theorem dX12_matters_46 : decode cX12_matters 46 = .ok (.istore 6, 2) := by decide +kernel
theorem dX12_matters_48 : decode cX12_matters 48 = .ok (.iconst 0, 1) := by decide +kernel
theorem dX12_matters_49 : decode cX12_matters 49 = .ok (.istore 7, 2) := by decide +kernel
theorem dX12_matters_51 : decode cX12_matters 51 = .ok (.iload_n 2, 1) := by decide +kernel
theorem dX12_matters_52 : decode cX12_matters 52 = .ok (.istore 8, 2) := by decide +kernel
theorem dX12_matters_54 : decode cX12_matters 54 = .ok (.iload 8, 2) := by decide +kernel
theorem dX12_matters_56 : decode cX12_matters 56 = .ok (.iload_n 3, 1) := by decide +kernel
theorem dX12_matters_57 : decode cX12_matters 57 = .ok (.if_icmp .ge 101, 3) := by decide +kernel
theorem dX12_matters_60 : decode cX12_matters 60 = .ok (.iload 6, 2) := by decide +kernel
theorem dX12_matters_62 : decode cX12_matters 62 = .ok (.bipush 24, 2) := by decide +kernel
theorem dX12_matters_64 : decode cX12_matters 64 = .ok (.if_icmp .ne 8, 3) := by decide +kernel
theorem dX12_matters_67 : decode cX12_matters 67 = .ok (.bipush 24, 2) := by decide +kernel
theorem dX12_matters_69 : decode cX12_matters 69 = .ok (.goto 37, 3) := by decide +kernel
theorem dX12_matters_72 : decode cX12_matters 72 = .ok (.aload_n 0, 1) := by decide +kernel
theorem dX12_matters_73 : decode cX12_matters 73 = .ok (.iload 6, 2) := by decide +kernel
theorem dX12_matters_75 : decode cX12_matters 75 = .ok (.iload 8, 2) := by decide +kernel
theorem dX12_matters_77 : decode cX12_matters 77 = .ok (.aload_n 0, 1) := by decide +kernel
theorem dX12_matters_78 : decode cX12_matters 78 = .ok (.iload 6, 2) := by decide +kernel
theorem dX12_matters_80 : decode cX12_matters 80 = .ok (.iload 8, 2) := by decide +kernel
theorem dX12_matters_82 : decode cX12_matters 82 = .ok (.aload_n 0, 1) := by decide +kernel
theorem dX12_matters_83 : decode cX12_matters 83 = .ok (.getfield 20, 3) := by decide +kernel
theorem dX12_matters_86 : decode cX12_matters 86 = .ok (.bipush 10, 2) := by decide +kernel
theorem dX12_matters_88 : decode cX12_matters 88 = .ok (.iload 8, 2) := by decide +kernel
theorem dX12_matters_90 : decode cX12_matters 90 = .ok (.iadd, 1) := by decide +kernel
theorem dX12_matters_91 : decode cX12_matters 91 = .ok (.iaload, 1) := by decide +kernel
theorem dX12_matters_92 : decode cX12_matters 92 = .ok (.ifCond .ne 7, 3) := by decide +kernel
theorem dX12_matters_95 : decode cX12_matters 95 = .ok (.iconst 1, 1) := by decide +kernel
theorem dX12_matters_96 : decode cX12_matters 96 = .ok (.goto 4, 3) := by decide +kernel
theorem dX12_matters_99 : decode cX12_matters 99 = .ok (.iconst 0, 1) := by decide +kernel
theorem dX12_matters_100 : decode cX12_matters 100 = .ok (.invokevirtual 282, 3) := by decide +kernel
theorem dX12_matters_103 : decode cX12_matters 103 = .ok (.invokevirtual 288, 3) := by decide +kernel
theorem dX12_matters_106 : decode cX12_matters 106 = .ok (.istore 9, 2) := by decide +kernel
theorem dX12_matters_108 : decode cX12_matters 108 = .ok (.aload_n 0, 1) := by decide +kernel
theorem dX12_matters_109 : decode cX12_matters 109 = .ok (.iload 9, 2) := by decide +kernel
theorem dX12_matters_111 : decode cX12_matters 111 = .ok (.iload 8, 2) := by decide +kernel
theorem dX12_matters_113 : decode cX12_matters 113 = .ok (.iconst 1, 1) := by decide +kernel
theorem dX12_matters_114 : decode cX12_matters 114 = .ok (.iadd, 1) := by decide +kernel
theorem dX12_matters_115 : decode cX12_matters 115 = .ok (.iload_n 3, 1) := by decide +kernel
theorem dX12_matters_116 : decode cX12_matters 116 = .ok (.invokevirtual 301, 3) := by decide +kernel
theorem dX12_matters_119 : decode cX12_matters 119 = .ok (.iload 5, 2) := by decide +kernel
theorem dX12_matters_121 : decode cX12_matters 121 = .ok (.if_icmp .eq 16, 3) := by decide +kernel
theorem dX12_matters_124 : decode cX12_matters 124 = .ok (.iload 7, 2) := by decide +kernel
theorem dX12_matters_126 : decode cX12_matters 126 = .ok (.iload 4, 2) := by decide +kernel
theorem dX12_matters_128 : decode cX12_matters 128 = .ok (.if_icmp .ne 6, 3) := by decide +kernel
theorem dX12_matters_131 : decode cX12_matters 131 = .ok (.iload 8, 2) := by decide +kernel
theorem dX12_matters_133 : decode cX12_matters 133 = .ok (.ireturn, 1) := by decide +kernel
theorem dX12_matters_134 : decode cX12_matters 134 = .ok (.iinc 7 1, 3) := by decide +kernel
theorem dX12_matters_137 : decode cX12_matters 137 = .ok (.aload_n 0, 1) := by decide +kernel
theorem dX12_matters_138 : decode cX12_matters 138 = .ok (.getfield 67, 3) := by decide +kernel
theorem dX12_matters_141 : decode cX12_matters 141 = .ok (.bipush 25, 2) := by decide +kernel
theorem dX12_matters_143 : decode cX12_matters 143 = .ok (.iload 8, 2) := by decide +kernel
theorem dX12_matters_145 : decode cX12_matters 145 = .ok (.imul, 1) := by decide +kernel
theorem dX12_matters_146 : decode cX12_matters 146 = .ok (.iload 6, 2) := by decide +kernel
theorem dX12_matters_148 : decode cX12_matters 148 = .ok (.iadd, 1) := by decide +kernel
theorem dX12_matters_149 : decode cX12_matters 149 = .ok (.iaload, 1) := by decide +kernel
theorem dX12_matters_150 : decode cX12_matters 150 = .ok (.istore 6, 2) := by decide +kernel
theorem dX12_matters_152 : decode cX12_matters 152 = .ok (.iinc 8 1, 3) := by decide +kernel
theorem dX12_matters_155 : decode cX12_matters 155 = .ok (.goto (-101), 3) := by decide +kernel
theorem dX12_matters_158 : decode cX12_matters 158 = .ok (.iload 4, 2) := by decide +kernel
theorem dX12_matters_160 : decode cX12_matters 160 = .ok (.iconst (-1), 1) := by decide +kernel
theorem dX12_matters_161 : decode cX12_matters 161 = .ok (.if_icmp .ne 8, 3) := by decide +kernel
theorem dX12_matters_164 : decode cX12_matters 164 = .ok (.iload 7, 2) := by decide +kernel
theorem dX12_matters_166 : decode cX12_matters 166 = .ok (.goto 4, 3) := by decide +kernel
theorem dX12_matters_169 : decode cX12_matters 169 = .ok (.iconst (-1), 1) := by decide +kernel
theorem dX12_matters_170 : decode cX12_matters 170 = .ok (.ireturn, 1) := by decide +kernel
set_option maxHeartbeats 4000000 in
set_option maxRecDepth 100000 in
theorem c_X12_matters (l : Launch) (E : Nat → Nat) (D : va_G) (G : th_G) (h0 : Nat) (hG0 : G h0 = some (10, 0)) (x1 : Int32) (x2 : Int32) (x3 : Int32) (x4 : Int32) : Met l yX12_matters (tb (.code yX12_matters cX12_matters 10 (some .int))) (rm 69) (va_Pc [.ref h0, .int x1, .int x2, .int x3, .int x4] (PX E D G (fun H => True))) (QXi E D G (fun r H => True)) 0 0 (th_A G) := by
  refine Met.ofW (cc := cX12_matters) (maxL := 10) (ret := (some .int)) (by decide) rfl ?_
  intro p e s m args below meth c s₁ B hml hv
  obtain ⟨hav, ⟨hI, hN, hK⟩, hX⟩ := hv
  have hx := B.exec
  have hb := B.bytes
  have hr := B.returns
  have hts := atoms_spec (ws := tb (.code yX12_matters cX12_matters 10 (some .int))) B.pre
  have hown : s.vm.findClass RX12 = some m.cls := findClass_of_methodNamed B.named
  have hlocks := B.notSynchronized
  have hS : va_S (th_A G) s.heap s.heap [] := va_S.rf
  have hl := lv_entry ([.ref h0, .int x1, .int x2, .int x3, .int x4]) (n := 10) (Nat.le_of_ble_eq_true rfl)
  rw [show entryFrame m args 10 = entryFrame m ([.ref h0, .int x1, .int x2, .int x3, .int x4] : List Value).toArray 10 from by rw [hav], lg_entry_eq]
  generalize (lg_sl ([.ref h0, .int x1, .int x2, .int x3, .int x4]) ++ List.replicate (10 - (lg_sl ([.ref h0, .int x1, .int x2, .int x3, .int x4])).length) Slot.unset).toArray = ls at hl ⊢
  have hl : lv_has ls 10 [(0, .ref h0), (1, .int x1), (2, .int x2), (3, .int x3), (4, .int x4)] := hl
  generalize hR : (headSpec (tb (.code yX12_matters cX12_matters 10 (some .int))) (rm 69)).room = R
  have hR := hR.symm
  generalize hQ : MQ below (QXi E D G (fun r H => True)) args s 0 0 (th_A G) = QF
  have hQ := hQ.symm
  have J_54 : ∀ (nn : Nat) (H : Heap) (locs : List Loc) (ls : Array Slot) (v8399 : Int32) (v8400 : Int32) (v8401 : Int32) (v8402 : Int32) , (Int.toNat (96 - v8399.toInt) = nn) → lv_has ls 10 [(8, .int v8399), (7, .int v8400), (6, .int v8401), (5, .int v8402), (0, .ref h0), (1, .int x1), (2, .int x2), (3, .int x3), (4, .int x4)] → ((0 : Int) ≤ v8399.toInt ∧ v8399.toInt ≤ 96) → ((0 : Int) ≤ v8401.toInt ∧ v8401.toInt ≤ 24) → ((0 : Int) ≤ v8402.toInt ∧ v8402.toInt ≤ 24) → ((0 : Int) ≤ x1.toInt ∧ x1.toInt ≤ 23) → ((0 : Int) ≤ x2.toInt ∧ x2.toInt ≤ 96) → ((0 : Int) ≤ x3.toInt ∧ x3.toInt ≤ 96) → ((-1 : Int) ≤ x4.toInt) → th_I (okM E) D G [] H → va_S (th_A G) s.heap H locs → W p l e R s m args below meth c H locs 0 0 QF (F0 m 54 ls []) := by
    intro nn
    induction nn using Nat.strongRecOn with
    | ind nn ih_54 =>
      intro H locs ls v8399 v8400 v8401 v8402  hm hl k8403 k8404 k8405 k8406 k8407 k8408 k8409 hI hS
      have J_137 : ∀ (H : Heap) (locs : List Loc) (ls : Array Slot) (v8410 : Int32) (v8412 : Int32) , lv_has ls 10 [(9, .int v8410), (8, .int v8399), (7, .int v8412), (6, .int v8401), (5, .int v8402), (0, .ref h0), (1, .int x1), (2, .int x2), (3, .int x3), (4, .int x4)] → ((0 : Int) ≤ v8410.toInt ∧ v8410.toInt ≤ 24) → ((0 : Int) ≤ v8399.toInt ∧ v8399.toInt ≤ 95) → ((1 : Int) ≤ x3.toInt ∧ x3.toInt ≤ 96) → th_I (okM E) D G [] H → va_S (th_A G) s.heap H locs → W p l e R s m args below meth c H locs 0 0 QF (F0 m 137 ls []) := by
        intro H locs ls v8410 v8412  hl k8415 k8416 k8417 hI hS
        refine lv_aload_n hx hb dX12_matters_137 rfl (lv_at hl 5 rfl) ?_
        refine gmA hx hb hts inT12 hown hK hI List.not_mem_nil hG0 27 (by decide) (hts _ (tb_c wd_1260)) rfl rfl dX12_matters_138 (fun a8418 hq8419 hf8420 => ?_)
        refine lv_bipush (v := 25) hx hb dX12_matters_141 (by decide) ?_
        refine lv_iload hx hb dX12_matters_143 (lv_at hl 1 rfl) ?_
        refine lv_imul hx hb dX12_matters_145 ?_
        refine lv_topi (fun v8421 e8422 => ?_)
        have tv8421 : v8421.toInt = (25) * v8399.toInt := iv_mul (by decide) rfl e8422 (by omega) (by omega)
        refine lv_iload hx hb dX12_matters_146 (lv_at hl 3 rfl) ?_
        refine lv_iadd hx hb dX12_matters_148 ?_
        refine lv_topi (fun v8423 e8424 => ?_)
        have tv8423 : v8423.toInt = v8421.toInt + v8401.toInt := iv_add rfl rfl e8424 (by omega) (by omega)
        obtain ⟨F8425, hA8426, hP8427⟩ := om_3 hI hq8419 List.not_mem_nil
        refine th_iald hx hb hK hA8426 0 rfl (iv_in (X := v8423.toInt) rfl (by omega) (by omega)) dX12_matters_149 (fun v8428 e8429 => ?_)
        have k8430 := rgs_get hP8427 e8429 (X := v8423.toInt) rfl (by omega) (by omega)
        refine lv_istore (lv' := [(6, .int v8428), (9, .int v8410), (8, .int v8399), (7, .int v8412), (5, .int v8402), (0, .ref h0), (1, .int x1), (2, .int x2), (3, .int x3), (4, .int x4)]) hx hb dX12_matters_150 hl (by decide) rfl (fun ls hl => ?_)
        obtain ⟨v8431, e8432⟩ : ∃ y : Int32, y = v8399 + (1) := ⟨_, rfl⟩
        have tv8431 : v8431.toInt = v8399.toInt + (1) := iv_add rfl (by decide) e8432 (by omega) (by omega)
        refine lv_iinc (v := v8431) (lv' := [(8, .int v8431), (6, .int v8428), (9, .int v8410), (7, .int v8412), (5, .int v8402), (0, .ref h0), (1, .int x1), (2, .int x2), (3, .int x3), (4, .int x4)]) hx hb dX12_matters_152 hl (k := 2) rfl (by rw [e8432]; rfl) (by decide) rfl (fun ls hl => ?_)
        refine lv_goto (tgt := 54) hx hb dX12_matters_155 (by decide) ?_
        exact ih_54 _ (by omega) H locs ls v8431 v8412 v8428 v8402  rfl (lv_sub hl [0, 3, 1, 4, 5, 6, 7, 8, 9] rfl) ⟨by omega, by omega⟩ ⟨by omega, by omega⟩ ⟨by omega, by omega⟩ ⟨by omega, by omega⟩ ⟨by omega, by omega⟩ ⟨by omega, by omega⟩ (by omega) hI hS
      have J_106 : ∀ (H : Heap) (locs : List Loc) (ls : Array Slot) (v8437 : Int32) , lv_has ls 10 [(8, .int v8399), (7, .int v8400), (6, .int v8401), (5, .int v8402), (0, .ref h0), (1, .int x1), (2, .int x2), (3, .int x3), (4, .int x4)] → ((0 : Int) ≤ v8399.toInt ∧ v8399.toInt ≤ 95) → ((1 : Int) ≤ x3.toInt ∧ x3.toInt ≤ 96) → ((0 : Int) ≤ v8437.toInt ∧ v8437.toInt ≤ 24) → th_I (okM E) D G [] H → va_S (th_A G) s.heap H locs → W p l e R s m args below meth c H locs 0 0 QF (F0 m 106 ls [.int v8437]) := by
        intro H locs ls v8437  hl k8438 k8439 k8440 hI hS
        refine lv_istore (lv' := [(9, .int v8437), (8, .int v8399), (7, .int v8400), (6, .int v8401), (5, .int v8402), (0, .ref h0), (1, .int x1), (2, .int x2), (3, .int x3), (4, .int x4)]) hx hb dX12_matters_106 hl (by decide) rfl (fun ls hl => ?_)
        refine lv_aload_n hx hb dX12_matters_108 rfl (lv_at hl 5 rfl) ?_
        refine lv_iload hx hb dX12_matters_109 (lv_at hl 0 rfl) ?_
        refine lv_iload hx hb dX12_matters_111 (lv_at hl 1 rfl) ?_
        refine lv_iconst (v := 1) hx hb dX12_matters_113 (by decide) ?_
        refine lv_iadd hx hb dX12_matters_114 ?_
        refine lv_topi (fun v8441 e8442 => ?_)
        have tv8441 : v8441.toInt = v8399.toInt + (1) := iv_add rfl (by decide) e8442 (by omega) (by omega)
        refine lv_iload_n hx hb dX12_matters_115 rfl (lv_at hl 8 rfl) ?_
        refine mr_i (As := [.int v8437, .int v8441, .int x3]) (rest := []) (n := 3) (d := 0) ⟨hx, hb, hml, hown, hts⟩ (c_X12_floats l E D G H h0 hG0 v8437 v8441 x3 ⟨by omega, by omega⟩ (by omega) (by omega)) wd_1658 wd_1660 wp_77 wd_13 wd_1661 (by decide +kernel) ⟨by rw [hR]; exact Nat.le_of_ble_eq_true rfl, by rw [hR]; exact Nat.le_of_ble_eq_true rfl⟩ hI hN hK hS hG0 rfl hl.1 rfl (Nat.le_of_ble_eq_true rfl) dX12_matters_116 ⟨Nat.zero_le _, Nat.zero_le _⟩ (fun r8443 locs hp hS => ?_)
        have hp8444 := hp
        refine lv_iload hx hb dX12_matters_119 (lv_at hl 4 rfl) ?_
        refine lv_icmp_eq (tgt := 137) hx hb dX12_matters_121 (by decide) (fun c8445 => ?_) (fun c8445 => ?_)
        · skip
          have k8446 := iv_eq (X := r8443.toInt) (Y := v8402.toInt) rfl rfl c8445
          exact J_137 H locs ls v8437 v8400  (lv_sub hl [0, 1, 2, 3, 4, 5, 6, 7, 8, 9] rfl) ⟨by omega, by omega⟩ ⟨by omega, by omega⟩ ⟨by omega, by omega⟩ hI hS
        · skip
          have k8447 := iv_ne (X := r8443.toInt) (Y := v8402.toInt) rfl rfl c8445
          refine lv_iload hx hb dX12_matters_124 (lv_at hl 2 rfl) ?_
          refine lv_iload hx hb dX12_matters_126 (lv_at hl 9 rfl) ?_
          have k8448 := iv_lo v8400
          have k8449 := iv_hi v8400
          have k8450 := iv_lo x4
          have k8451 := iv_hi x4
          refine lv_icmp_ne (tgt := 134) hx hb dX12_matters_128 (by decide) (fun c8452 => ?_) (fun c8452 => ?_)
          · skip
            have k8453 := iv_ne (X := v8400.toInt) (Y := x4.toInt) rfl rfl c8452
            obtain ⟨v8454, e8455⟩ : ∃ y : Int32, y = v8400 + (1) := ⟨_, rfl⟩
            refine lv_iinc (v := v8454) (lv' := [(7, .int v8454), (9, .int v8437), (8, .int v8399), (6, .int v8401), (5, .int v8402), (0, .ref h0), (1, .int x1), (2, .int x2), (3, .int x3), (4, .int x4)]) hx hb dX12_matters_134 hl (k := 2) rfl (by rw [e8455]; rfl) (by decide) rfl (fun ls hl => ?_)
            exact J_137 H locs ls v8437 v8454  (lv_sub hl [1, 2, 0, 3, 4, 5, 6, 7, 8, 9] rfl) ⟨by omega, by omega⟩ ⟨by omega, by omega⟩ ⟨by omega, by omega⟩ hI hS
          · skip
            have k8456 := iv_eq (X := v8400.toInt) (Y := x4.toInt) rfl rfl c8452
            refine lv_iload hx hb dX12_matters_131 (lv_at hl 1 rfl) ?_
            have hpost : True := trivial
            rw [hQ]
            exact W.iret (v := v8399) hx hb hr (fun t ht hW => ⟨⟨v8399, v8399, rfl, rfl, ⟨by rw [ht]; exact hI, hN.warm hW, va_K.moved hW.alike hK⟩, by first | (rw [ht]; exact hpost) | exact hpost⟩, hS.F ht⟩) hS.2.2 dX12_matters_133
      have J_100 : ∀ (H : Heap) (locs : List Loc) (ls : Array Slot) (v8461 : Int32) (v8462 : Int32) (v8463 : Int32) (v8464 : Int32) (v8465 : Int32) , lv_has ls 10 [(8, .int v8399), (7, .int v8400), (6, .int v8401), (5, .int v8402), (0, .ref h0), (1, .int x1), (2, .int x2), (3, .int x3), (4, .int x4)] → ((0 : Int) ≤ v8399.toInt ∧ v8399.toInt ≤ 95) → ((0 : Int) ≤ v8401.toInt ∧ v8401.toInt ≤ 23) → ((1 : Int) ≤ x3.toInt ∧ x3.toInt ≤ 96) → ((0 : Int) ≤ v8461.toInt ∧ v8461.toInt ≤ 1) → ((0 : Int) ≤ v8462.toInt ∧ v8462.toInt ≤ 95) → ((0 : Int) ≤ v8463.toInt ∧ v8463.toInt ≤ 23) → ((0 : Int) ≤ v8464.toInt ∧ v8464.toInt ≤ 95) → ((0 : Int) ≤ v8465.toInt ∧ v8465.toInt ≤ 23) → th_I (okM E) D G [] H → va_S (th_A G) s.heap H locs → W p l e R s m args below meth c H locs 0 0 QF (F0 m 100 ls [.int v8461, .int v8462, .int v8463, .ref h0, .int v8464, .int v8465, .ref h0]) := by
        intro H locs ls v8461 v8462 v8463 v8464 v8465  hl k8466 k8467 k8468 k8469 k8470 k8471 k8472 k8473 hI hS
        refine mx_i (As := [.int v8463, .int v8462, .int v8461]) (rest := [.int v8464, .int v8465, .ref h0]) (n := 3) (d := 67) ⟨hx, hb, hml, hown, hts⟩ (c_X12_flowOf l E D G h0 hG0 v8463 v8462 v8461 ⟨by omega, by omega⟩) wd_1459 wd_1461 wp_44 wd_13 wd_1462 (by decide +kernel) ⟨by rw [hR]; exact Nat.le_of_ble_eq_true rfl, by rw [hR]; exact Nat.le_of_ble_eq_true rfl⟩ hI hN hK hS hG0 (trivial) rfl hl.1 rfl (Nat.le_of_ble_eq_true rfl) dX12_matters_100 ⟨Nat.zero_le _, Nat.zero_le _⟩ (fun r8474 H locs hI hp hS => ?_)
        refine mr_i (As := [.int v8465, .int v8464, .int r8474]) (rest := []) (n := 3) (d := 2) ⟨hx, hb, hml, hown, hts⟩ (c_X12_floatsTo l E D G H h0 hG0 v8465 v8464 r8474 ⟨by omega, by omega⟩) wd_1531 wd_1533 wp_60 wd_13 wd_1534 (by decide +kernel) ⟨by rw [hR]; exact Nat.le_of_ble_eq_true rfl, by rw [hR]; exact Nat.le_of_ble_eq_true rfl⟩ hI hN hK hS hG0 rfl hl.1 rfl (Nat.le_of_ble_eq_true rfl) dX12_matters_103 ⟨Nat.zero_le _, Nat.zero_le _⟩ (fun r8475 locs hp hS => ?_)
        have hp8476 := hp
        exact J_106 H locs ls r8475  (lv_sub hl [0, 1, 2, 3, 4, 5, 6, 7, 8] rfl) ⟨by omega, by omega⟩ ⟨by omega, by omega⟩ ⟨by omega, by omega⟩ hI hS
      refine lv_iload hx hb dX12_matters_54 (lv_at hl 0 rfl) ?_
      refine lv_iload_n hx hb dX12_matters_56 rfl (lv_at hl 7 rfl) ?_
      refine lv_icmp_ge (tgt := 158) hx hb dX12_matters_57 (by decide) (fun c8477 => ?_) (fun c8477 => ?_)
      · skip
        have k8478 := iv_le (X := x3.toInt) (Y := v8399.toInt) rfl rfl c8477
        refine lv_iload hx hb dX12_matters_158 (lv_at hl 8 rfl) ?_
        refine lv_iconst (v := (-1)) hx hb dX12_matters_160 (by decide) ?_
        have k8479 := iv_lo x4
        have k8480 := iv_hi x4
        refine lv_icmp_ne (tgt := 169) hx hb dX12_matters_161 (by decide) (fun c8481 => ?_) (fun c8481 => ?_)
        · skip
          have k8482 := iv_ne (X := x4.toInt) (Y := (-1)) rfl (by decide) c8481
          refine lv_iconst (v := (-1)) hx hb dX12_matters_169 (by decide) ?_
          have hpost : True := trivial
          rw [hQ]
          exact W.iret (v := (-1)) hx hb hr (fun t ht hW => ⟨⟨(-1), (-1), rfl, rfl, ⟨by rw [ht]; exact hI, hN.warm hW, va_K.moved hW.alike hK⟩, by first | (rw [ht]; exact hpost) | exact hpost⟩, hS.F ht⟩) hS.2.2 dX12_matters_170
        · skip
          have k8483 := iv_eq (X := x4.toInt) (Y := (-1)) rfl (by decide) c8481
          refine lv_iload hx hb dX12_matters_164 (lv_at hl 1 rfl) ?_
          refine lv_goto (tgt := 170) hx hb dX12_matters_166 (by decide) ?_
          have hpost : True := trivial
          rw [hQ]
          exact W.iret (v := v8400) hx hb hr (fun t ht hW => ⟨⟨v8400, v8400, rfl, rfl, ⟨by rw [ht]; exact hI, hN.warm hW, va_K.moved hW.alike hK⟩, by first | (rw [ht]; exact hpost) | exact hpost⟩, hS.F ht⟩) hS.2.2 dX12_matters_170
      · skip
        have k8484 := iv_nle (X := x3.toInt) (Y := v8399.toInt) rfl rfl c8477
        refine lv_iload hx hb dX12_matters_60 (lv_at hl 2 rfl) ?_
        refine lv_bipush (v := 24) hx hb dX12_matters_62 (by decide) ?_
        refine lv_icmp_ne (tgt := 72) hx hb dX12_matters_64 (by decide) (fun c8485 => ?_) (fun c8485 => ?_)
        · skip
          have k8486 := iv_ne (X := v8401.toInt) (Y := (24)) rfl (by decide) c8485
          refine lv_aload_n hx hb dX12_matters_72 rfl (lv_at hl 4 rfl) ?_
          refine lv_iload hx hb dX12_matters_73 (lv_at hl 2 rfl) ?_
          refine lv_iload hx hb dX12_matters_75 (lv_at hl 0 rfl) ?_
          refine lv_aload_n hx hb dX12_matters_77 rfl (lv_at hl 4 rfl) ?_
          refine lv_iload hx hb dX12_matters_78 (lv_at hl 2 rfl) ?_
          refine lv_iload hx hb dX12_matters_80 (lv_at hl 0 rfl) ?_
          refine lv_aload_n hx hb dX12_matters_82 rfl (lv_at hl 4 rfl) ?_
          refine gmA hx hb hts inT12 hown hK hI List.not_mem_nil hG0 3 (by decide) (hts _ (tb_c wd_1236)) rfl rfl dX12_matters_83 (fun a8487 hq8488 hf8489 => ?_)
          refine lv_bipush (v := 10) hx hb dX12_matters_86 (by decide) ?_
          refine lv_iload hx hb dX12_matters_88 (lv_at hl 0 rfl) ?_
          refine lv_iadd hx hb dX12_matters_90 ?_
          refine lv_topi (fun v8490 e8491 => ?_)
          have tv8490 : v8490.toInt = (10) + v8399.toInt := iv_add (by decide) rfl e8491 (by omega) (by omega)
          obtain ⟨F8492, hA8493, hP8494⟩ := om_1 hI hq8488 List.not_mem_nil
          refine th_iald hx hb hK hA8493 0 rfl (iv_in (X := v8490.toInt) rfl (by omega) (by omega)) dX12_matters_91 (fun v8495 e8496 => ?_)
          have k8497 := iv_lo v8495
          have k8498 := iv_hi v8495
          refine lv_if_ne (tgt := 99) hx hb dX12_matters_92 (by decide) (fun c8499 => ?_) (fun c8499 => ?_)
          · skip
            have k8500 := iv_ne (X := v8495.toInt) (Y := (0)) rfl (by decide) c8499
            refine lv_iconst (v := 0) hx hb dX12_matters_99 (by decide) ?_
            exact J_100 H locs ls 0 v8399 v8401 v8399 v8401  (lv_sub hl [0, 1, 2, 3, 4, 5, 6, 7, 8] rfl) ⟨by omega, by omega⟩ ⟨by omega, by omega⟩ ⟨by omega, by omega⟩ ⟨by decide, by decide⟩ ⟨by omega, by omega⟩ ⟨by omega, by omega⟩ ⟨by omega, by omega⟩ ⟨by omega, by omega⟩ hI hS
          · skip
            have k8501 := iv_eq (X := v8495.toInt) (Y := (0)) rfl (by decide) c8499
            refine lv_iconst (v := 1) hx hb dX12_matters_95 (by decide) ?_
            refine lv_goto (tgt := 100) hx hb dX12_matters_96 (by decide) ?_
            exact J_100 H locs ls 1 v8399 v8401 v8399 v8401  (lv_sub hl [0, 1, 2, 3, 4, 5, 6, 7, 8] rfl) ⟨by omega, by omega⟩ ⟨by omega, by omega⟩ ⟨by omega, by omega⟩ ⟨by decide, by decide⟩ ⟨by omega, by omega⟩ ⟨by omega, by omega⟩ ⟨by omega, by omega⟩ ⟨by omega, by omega⟩ hI hS
        · skip
          have k8502 := iv_eq (X := v8401.toInt) (Y := (24)) rfl (by decide) c8485
          refine lv_bipush (v := 24) hx hb dX12_matters_67 (by decide) ?_
          refine lv_goto (tgt := 106) hx hb dX12_matters_69 (by decide) ?_
          exact J_106 H locs ls 24  (lv_sub hl [0, 1, 2, 3, 4, 5, 6, 7, 8] rfl) ⟨by omega, by omega⟩ ⟨by omega, by omega⟩ ⟨by decide, by decide⟩ hI hS
  have J_30 : ∀ (H : Heap) (locs : List Loc) (ls : Array Slot)  , lv_has ls 10 [(0, .ref h0), (1, .int x1), (2, .int x2), (3, .int x3), (4, .int x4)] → th_I (okM E) D G [] H → va_S (th_A G) s.heap H locs → W p l e R s m args below meth c H locs 0 0 QF (F0 m 30 ls []) := by
    intro H locs ls   hl  hI hS
    refine lv_iconst (v := (-1)) hx hb dX12_matters_30 (by decide) ?_
    have hpost : True := trivial
    rw [hQ]
    exact W.iret (v := (-1)) hx hb hr (fun t ht hW => ⟨⟨(-1), (-1), rfl, rfl, ⟨by rw [ht]; exact hI, hN.warm hW, va_K.moved hW.alike hK⟩, by first | (rw [ht]; exact hpost) | exact hpost⟩, hS.F ht⟩) hS.2.2 dX12_matters_31
  refine lv_iload_n hx hb dX12_matters_0 rfl (lv_at hl 1 rfl) ?_
  refine th_cSs (As := [.int x1]) (rest := []) (n := 1) (d := 1) ⟨hx, hb, hml, hown, hts⟩ (c_X12_isCell l s.heap x1) wd_1414 wd_1415 wd_13 wd_1416 (by decide +kernel) ⟨by rw [hR]; exact Nat.le_of_ble_eq_true rfl, by rw [hR]; exact Nat.le_of_ble_eq_true rfl⟩ hN hS rfl hl.1 rfl (Nat.le_of_ble_eq_true rfl) dX12_matters_1 ⟨Nat.zero_le _, Nat.zero_le _⟩ (fun r8503 locs hp hS => ?_)
  rcases hp with ⟨rfl, hp⟩ | ⟨rfl, hp⟩
  · skip
    try simp only [rg, not_and, Int.not_le] at hp
    have hp8504 := hp
    refine lv_if_eq (tgt := 30) hx hb dX12_matters_4 (by decide) (fun c => absurd c (by decide)) (fun _ => ?_)
    refine lv_iload_n hx hb dX12_matters_7 rfl (lv_at hl 2 rfl) ?_
    refine th_cSs (As := [.int x2]) (rest := []) (n := 1) (d := 1) ⟨hx, hb, hml, hown, hts⟩ (c_X12_isTime l s.heap x2) wd_1655 wd_1656 wd_13 wd_1657 (by decide +kernel) ⟨by rw [hR]; exact Nat.le_of_ble_eq_true rfl, by rw [hR]; exact Nat.le_of_ble_eq_true rfl⟩ hN hS rfl hl.1 rfl (Nat.le_of_ble_eq_true rfl) dX12_matters_8 ⟨Nat.zero_le _, Nat.zero_le _⟩ (fun r8505 locs hp hS => ?_)
    rcases hp with ⟨rfl, hp⟩ | ⟨rfl, hp⟩
    · skip
      try simp only [rg, not_and, Int.not_le] at hp
      have hp8506 := hp
      refine lv_if_eq (tgt := 30) hx hb dX12_matters_11 (by decide) (fun c => absurd c (by decide)) (fun _ => ?_)
      refine lv_iload_n hx hb dX12_matters_14 rfl (lv_at hl 3 rfl) ?_
      refine lv_iload_n hx hb dX12_matters_15 rfl (lv_at hl 2 rfl) ?_
      refine lv_bipush (v := 96) hx hb dX12_matters_16 (by decide) ?_
      refine th_cSs (As := [.int x3, .int x2, .int 96]) (rest := []) (n := 3) (d := 0) ⟨hx, hb, hml, hown, hts⟩ (c_X12_lies l s.heap x3 x2 96) wd_1395 wd_1396 wd_13 wd_1397 (by decide +kernel) ⟨by rw [hR]; exact Nat.le_of_ble_eq_true rfl, by rw [hR]; exact Nat.le_of_ble_eq_true rfl⟩ hN hS rfl hl.1 rfl (Nat.le_of_ble_eq_true rfl) dX12_matters_18 ⟨Nat.zero_le _, Nat.zero_le _⟩ (fun r8507 locs hp hS => ?_)
      rcases hp with ⟨rfl, hp⟩ | ⟨rfl, hp⟩
      · skip
        try simp only [rg, not_and, Int.not_le] at hp
        have hp8508 := hp
        try rw [show (96 : Int32).toInt = 96 from by decide] at hp8508
        refine lv_if_eq (tgt := 30) hx hb dX12_matters_21 (by decide) (fun c => absurd c (by decide)) (fun _ => ?_)
        refine lv_iload hx hb dX12_matters_24 (lv_at hl 4 rfl) ?_
        refine lv_iconst (v := (-1)) hx hb dX12_matters_26 (by decide) ?_
        have k8509 := iv_lo x4
        have k8510 := iv_hi x4
        refine lv_icmp_ge (tgt := 32) hx hb dX12_matters_27 (by decide) (fun c8511 => ?_) (fun c8511 => ?_)
        · skip
          have k8512 := iv_le (X := (-1)) (Y := x4.toInt) (by decide) rfl c8511
          refine lv_aload_n hx hb dX12_matters_32 rfl (lv_at hl 0 rfl) ?_
          refine mx_v (As := []) (rest := []) (n := 0) (d := 68) ⟨hx, hb, hml, hown, hts⟩ (c_X12_looks l E D G h0 hG0 ) wd_1455 wd_1457 wp_43 wd_13 wd_1458 (by decide +kernel) ⟨by rw [hR]; exact Nat.le_of_ble_eq_true rfl, by rw [hR]; exact Nat.le_of_ble_eq_true rfl⟩ hI hN hK hS hG0 (trivial) rfl hl.1 rfl (Nat.le_of_ble_eq_true rfl) dX12_matters_33 ⟨Nat.zero_le _, Nat.zero_le _⟩ (fun H locs hI hp hS => ?_)
          refine lv_aload_n hx hb dX12_matters_36 rfl (lv_at hl 0 rfl) ?_
          refine lv_iload_n hx hb dX12_matters_37 rfl (lv_at hl 1 rfl) ?_
          refine lv_iload_n hx hb dX12_matters_38 rfl (lv_at hl 2 rfl) ?_
          refine lv_iload_n hx hb dX12_matters_39 rfl (lv_at hl 3 rfl) ?_
          refine mr_i (As := [.int x1, .int x2, .int x3]) (rest := []) (n := 3) (d := 0) ⟨hx, hb, hml, hown, hts⟩ (c_X12_floats l E D G H h0 hG0 x1 x2 x3 ⟨by omega, by omega⟩ (by omega) (by omega)) wd_1658 wd_1660 wp_77 wd_13 wd_1661 (by decide +kernel) ⟨by rw [hR]; exact Nat.le_of_ble_eq_true rfl, by rw [hR]; exact Nat.le_of_ble_eq_true rfl⟩ hI hN hK hS hG0 rfl hl.1 rfl (Nat.le_of_ble_eq_true rfl) dX12_matters_40 ⟨Nat.zero_le _, Nat.zero_le _⟩ (fun r8514 locs hp hS => ?_)
          have hp8515 := hp
          refine lv_istore (lv' := [(5, .int r8514), (0, .ref h0), (1, .int x1), (2, .int x2), (3, .int x3), (4, .int x4)]) hx hb dX12_matters_43 hl (by decide) rfl (fun ls hl => ?_)
          refine lv_iload_n hx hb dX12_matters_45 rfl (lv_at hl 2 rfl) ?_
          refine lv_istore (lv' := [(6, .int x1), (5, .int r8514), (0, .ref h0), (1, .int x1), (2, .int x2), (3, .int x3), (4, .int x4)]) hx hb dX12_matters_46 hl (by decide) rfl (fun ls hl => ?_)
          refine lv_iconst (v := 0) hx hb dX12_matters_48 (by decide) ?_
          refine lv_istore (lv' := [(7, .int 0), (6, .int x1), (5, .int r8514), (0, .ref h0), (1, .int x1), (2, .int x2), (3, .int x3), (4, .int x4)]) hx hb dX12_matters_49 hl (by decide) rfl (fun ls hl => ?_)
          refine lv_iload_n hx hb dX12_matters_51 rfl (lv_at hl 5 rfl) ?_
          refine lv_istore (lv' := [(8, .int x2), (7, .int 0), (6, .int x1), (5, .int r8514), (0, .ref h0), (1, .int x1), (2, .int x2), (3, .int x3), (4, .int x4)]) hx hb dX12_matters_52 hl (by decide) rfl (fun ls hl => ?_)
          exact J_54 _ H locs ls x2 0 x1 r8514  rfl (lv_sub hl [0, 1, 2, 3, 4, 5, 6, 7, 8] rfl) ⟨by omega, by omega⟩ ⟨by omega, by omega⟩ ⟨by omega, by omega⟩ ⟨by omega, by omega⟩ ⟨by omega, by omega⟩ ⟨by omega, by omega⟩ (by omega) hI hS
        · skip
          have k8516 := iv_nle (X := (-1)) (Y := x4.toInt) (by decide) rfl c8511
          exact J_30 s.heap locs ls   (lv_sub hl [0, 1, 2, 3, 4] rfl)  hI hS
      · skip
        try simp only [rg, not_and, Int.not_le] at hp
        have hp8517 := hp
        try rw [show (96 : Int32).toInt = 96 from by decide] at hp8517
        refine lv_if_eq (tgt := 30) hx hb dX12_matters_21 (by decide) (fun _ => ?_) (fun c => absurd c (by decide))
        exact J_30 s.heap locs ls   (lv_sub hl [0, 1, 2, 3, 4] rfl)  hI hS
    · skip
      try simp only [rg, not_and, Int.not_le] at hp
      have hp8518 := hp
      refine lv_if_eq (tgt := 30) hx hb dX12_matters_11 (by decide) (fun _ => ?_) (fun c => absurd c (by decide))
      exact J_30 s.heap locs ls   (lv_sub hl [0, 1, 2, 3, 4] rfl)  hI hS
  · skip
    try simp only [rg, not_and, Int.not_le] at hp
    have hp8519 := hp
    refine lv_if_eq (tgt := 30) hx hb dX12_matters_4 (by decide) (fun _ => ?_) (fun c => absurd c (by decide))
    exact J_30 s.heap locs ls   (lv_sub hl [0, 1, 2, 3, 4] rfl)  hI hS
