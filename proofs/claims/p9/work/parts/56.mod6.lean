theorem wp_91 : Cond.selects RX12 yX12_grants yX12_grants ∈ TB := tv 91 (by decide +kernel) (by decide +kernel)
theorem wp_92 : Cond.selects RX12 yX12_findsBest yX12_findsBest ∈ TB := tv 92 (by decide +kernel) (by decide +kernel)
theorem wp_93 : Cond.selects RX12 yX12_laysFlows yX12_laysFlows ∈ TB := tv 93 (by decide +kernel) (by decide +kernel)
theorem wp_94 : Cond.selects RX12 yX12_draws yX12_draws ∈ TB := tv 94 (by decide +kernel) (by decide +kernel)
theorem wd_1277 : (Cond.fieldLink RX12 (380 : Nat) "NineRiverModel" "bestMany" "I") ∈ TB := tw 1277 (by decide +kernel) (by decide +kernel)
theorem wd_1278 : (Cond.fieldLink RX12 (389 : Nat) "NineRiverModel" "bestClock" "I") ∈ TB := tw 1278 (by decide +kernel) (by decide +kernel)
theorem wd_1279 : (Cond.fieldLink RX12 (392 : Nat) "NineRiverModel" "bestLong" "I") ∈ TB := tw 1279 (by decide +kernel) (by decide +kernel)
theorem wd_1280 : (Cond.fieldLink RX12 (97 : Nat) "NineRiverModel" "bestBy" "I") ∈ TB := tw 1280 (by decide +kernel) (by decide +kernel)
theorem wd_1281 : (Cond.fieldLink RX12 (377 : Nat) "NineRiverModel" "bestPump" "I") ∈ TB := tw 1281 (by decide +kernel) (by decide +kernel)
theorem wd_1282 : (Cond.fieldLink RX12 (100 : Nat) "NineRiverModel" "drawnCells" "[I") ∈ TB := tw 1282 (by decide +kernel) (by decide +kernel)
theorem wd_1283 : (Cond.fieldLink RX12 (407 : Nat) "NineRiverModel" "isDrawn" "Z") ∈ TB := tw 1283 (by decide +kernel) (by decide +kernel)
theorem wd_1284 : (Cond.fieldLink RX12 (400 : Nat) "NineRiverModel" "latest" "I") ∈ TB := tw 1284 (by decide +kernel) (by decide +kernel)
theorem wd_1824 : (Cond.methodLink RX12 (373 : Nat) yX12_grants) ∈ TB := tw 1824 (by decide +kernel) (by decide +kernel)
theorem wd_1826 : (Jvm.Cond.instanceMethod yX12_grants) ∈ TB := tw 1826 (by decide +kernel) (by decide +kernel)
theorem wd_1827 : (Cond.code yX12_grants cX12_grants 3 (Option.some Jvm.ClassFile.FieldType.int)) ∈ TB := tw 1827 (by decide +kernel) (by decide +kernel)
theorem wd_1832 : (Cond.methodLink RX12 (395 : Nat) yX12_findsBest) ∈ TB := tw 1832 (by decide +kernel) (by decide +kernel)
theorem wd_1834 : (Jvm.Cond.instanceMethod yX12_findsBest) ∈ TB := tw 1834 (by decide +kernel) (by decide +kernel)
theorem wd_1835 : (Cond.code yX12_findsBest cX12_findsBest 7 (Option.none : Option Jvm.ClassFile.FieldType)) ∈ TB := tw 1835 (by decide +kernel) (by decide +kernel)
theorem wd_1836 : (Cond.methodLink RX12 (383 : Nat) yX12_laysFlows) ∈ TB := tw 1836 (by decide +kernel) (by decide +kernel)
theorem wd_1838 : (Jvm.Cond.instanceMethod yX12_laysFlows) ∈ TB := tw 1838 (by decide +kernel) (by decide +kernel)
theorem wd_1839 : (Cond.code yX12_laysFlows cX12_laysFlows 2 (Option.none : Option Jvm.ClassFile.FieldType)) ∈ TB := tw 1839 (by decide +kernel) (by decide +kernel)
theorem wd_1840 : (Cond.methodLink RX12 (386 : Nat) yX12_ones) ∈ TB := tw 1840 (by decide +kernel) (by decide +kernel)
theorem wd_1841 : (Jvm.Cond.static yX12_ones) ∈ TB := tw 1841 (by decide +kernel) (by decide +kernel)
theorem wd_1842 : (Cond.code yX12_ones cX12_ones 3 (Option.some Jvm.ClassFile.FieldType.int)) ∈ TB := tw 1842 (by decide +kernel) (by decide +kernel)
theorem wd_1851 : (Cond.methodLink RX12 (410 : Nat) yX12_draws) ∈ TB := tw 1851 (by decide +kernel) (by decide +kernel)
theorem wd_1853 : (Jvm.Cond.instanceMethod yX12_draws) ∈ TB := tw 1853 (by decide +kernel) (by decide +kernel)
theorem wd_1854 : (Cond.code yX12_draws cX12_draws 2 (Option.some Jvm.ClassFile.FieldType.int)) ∈ TB := tw 1854 (by decide +kernel) (by decide +kernel)
theorem wd_1855 : (Cond.constantLong RX12 (398 : Nat) (1103 : Int64)) ∈ TB := tw 1855 (by decide +kernel) (by decide +kernel)
theorem wd_1856 : (Cond.constantLong RX12 (403 : Nat) (12345 : Int64)) ∈ TB := tw 1856 (by decide +kernel) (by decide +kernel)
theorem wd_1857 : (Cond.constantLong RX12 (405 : Nat) (1000003 : Int64)) ∈ TB := tw 1857 (by decide +kernel) (by decide +kernel)
theorem dX12_wish_0 : decode cX12_wish 0 = .ok (.iload_n 1, 1) := by decide +kernel
theorem dX12_wish_1 : decode cX12_wish 1 = .ok (.invokestatic 118, 3) := by decide +kernel
theorem dX12_wish_4 : decode cX12_wish 4 = .ok (.ifCond .eq 28, 3) := by decide +kernel
theorem dX12_wish_7 : decode cX12_wish 7 = .ok (.iload_n 2, 1) := by decide +kernel
theorem dX12_wish_8 : decode cX12_wish 8 = .ok (.invokestatic 298, 3) := by decide +kernel
theorem dX12_wish_11 : decode cX12_wish 11 = .ok (.ifCond .eq 21, 3) := by decide +kernel
theorem dX12_wish_14 : decode cX12_wish 14 = .ok (.iload_n 3, 1) := by decide +kernel
theorem dX12_wish_15 : decode cX12_wish 15 = .ok (.invokestatic 304, 3) := by decide +kernel
theorem dX12_wish_18 : decode cX12_wish 18 = .ok (.ifCond .eq 14, 3) := by decide +kernel
theorem dX12_wish_21 : decode cX12_wish 21 = .ok (.iload 4, 2) := by decide +kernel
theorem dX12_wish_23 : decode cX12_wish 23 = .ok (.iload_n 2, 1) := by decide +kernel
theorem dX12_wish_24 : decode cX12_wish 24 = .ok (.bipush 96, 2) := by decide +kernel
theorem dX12_wish_26 : decode cX12_wish 26 = .ok (.invokestatic 103, 3) := by decide +kernel
theorem dX12_wish_29 : decode cX12_wish 29 = .ok (.ifCond .ne 9, 3) := by decide +kernel
theorem dX12_wish_32 : decode cX12_wish 32 = .ok (.aload_n 0, 1) := by decide +kernel
theorem dX12_wish_33 : decode cX12_wish 33 = .ok (.iconst (-1), 1) := by decide +kernel
theorem dX12_wish_34 : decode cX12_wish 34 = .ok (.invokevirtual 107, 3) := by decide +kernel
theorem dX12_wish_37 : decode cX12_wish 37 = .ok (.ireturn, 1) := by decide +kernel
theorem dX12_wish_38 : decode cX12_wish 38 = .ok (.aload_n 0, 1) := by decide +kernel
theorem dX12_wish_39 : decode cX12_wish 39 = .ok (.getfield 20, 3) := by decide +kernel
theorem dX12_wish_42 : decode cX12_wish 42 = .ok (.sipush 314, 3) := by decide +kernel
theorem dX12_wish_45 : decode cX12_wish 45 = .ok (.iaload, 1) := by decide +kernel
theorem dX12_wish_46 : decode cX12_wish 46 = .ok (.bipush 6, 2) := by decide +kernel
theorem dX12_wish_48 : decode cX12_wish 48 = .ok (.if_icmp .ne 10, 3) := by decide +kernel
theorem dX12_wish_51 : decode cX12_wish 51 = .ok (.aload_n 0, 1) := by decide +kernel
theorem dX12_wish_52 : decode cX12_wish 52 = .ok (.bipush (-5), 2) := by decide +kernel
theorem dX12_wish_54 : decode cX12_wish 54 = .ok (.invokevirtual 107, 3) := by decide +kernel
theorem dX12_wish_57 : decode cX12_wish 57 = .ok (.ireturn, 1) := by decide +kernel
theorem dX12_wish_58 : decode cX12_wish 58 = .ok (.aload_n 0, 1) := by decide +kernel
theorem dX12_wish_59 : decode cX12_wish 59 = .ok (.aload_n 0, 1) := by decide +kernel
theorem dX12_wish_60 : decode cX12_wish 60 = .ok (.sipush 282, 3) := by decide +kernel
theorem dX12_wish_63 : decode cX12_wish 63 = .ok (.sipush 314, 3) := by decide +kernel
theorem dX12_wish_66 : decode cX12_wish 66 = .ok (.iconst 4, 1) := by decide +kernel
theorem dX12_wish_67 : decode cX12_wish 67 = .ok (.iload_n 1, 1) := by decide +kernel
theorem dX12_wish_68 : decode cX12_wish 68 = .ok (.iload_n 2, 1) := by decide +kernel
theorem dX12_wish_69 : decode cX12_wish 69 = .ok (.iload_n 3, 1) := by decide +kernel
theorem dX12_wish_70 : decode cX12_wish 70 = .ok (.iload 4, 2) := by decide +kernel
theorem dX12_wish_72 : decode cX12_wish 72 = .ok (.invokevirtual 125, 3) := by decide +kernel
theorem dX12_wish_75 : decode cX12_wish 75 = .ok (.invokevirtual 111, 3) := by decide +kernel
theorem dX12_wish_78 : decode cX12_wish 78 = .ok (.ireturn, 1) := by decide +kernel
set_option maxHeartbeats 4000000 in
set_option maxRecDepth 100000 in
theorem c_X12_wish (l : Launch) (E : Nat → Nat) (D : va_G) (G : th_G) (h0 : Nat) (hG0 : G h0 = some (10, 0)) (x1 : Int32) (x2 : Int32) (x3 : Int32) (x4 : Int32) : Met l yX12_wish (tb (.code yX12_wish cX12_wish 5 (some .int))) (rm 2) (va_Pc [.ref h0, .int x1, .int x2, .int x3, .int x4] (PX E D G (fun H => True))) (QXi E D G (fun r H => True)) 0 0 (th_A G) := by
  refine Met.ofW (cc := cX12_wish) (maxL := 5) (ret := (some .int)) (by decide) rfl ?_
  intro p e s m args below meth c s₁ B hml hv
  obtain ⟨hav, ⟨hI, hN, hK⟩, hX⟩ := hv
  have hx := B.exec
  have hb := B.bytes
  have hr := B.returns
  have hts := atoms_spec (ws := tb (.code yX12_wish cX12_wish 5 (some .int))) B.pre
  have hown : s.vm.findClass RX12 = some m.cls := findClass_of_methodNamed B.named
  have hlocks := B.notSynchronized
  have hS : va_S (th_A G) s.heap s.heap [] := va_S.rf
  have hl := lv_entry ([.ref h0, .int x1, .int x2, .int x3, .int x4]) (n := 5) (Nat.le_of_ble_eq_true rfl)
  rw [show entryFrame m args 5 = entryFrame m ([.ref h0, .int x1, .int x2, .int x3, .int x4] : List Value).toArray 5 from by rw [hav], lg_entry_eq]
  generalize (lg_sl ([.ref h0, .int x1, .int x2, .int x3, .int x4]) ++ List.replicate (5 - (lg_sl ([.ref h0, .int x1, .int x2, .int x3, .int x4])).length) Slot.unset).toArray = ls at hl ⊢
  have hl : lv_has ls 5 [(0, .ref h0), (1, .int x1), (2, .int x2), (3, .int x3), (4, .int x4)] := hl
  generalize hR : (headSpec (tb (.code yX12_wish cX12_wish 5 (some .int))) (rm 2)).room = R
  have hR := hR.symm
  generalize hQ : MQ below (QXi E D G (fun r H => True)) args s 0 0 (th_A G) = QF
  have hQ := hQ.symm
  have J_32 : ∀ (H : Heap) (locs : List Loc) (ls : Array Slot)  , lv_has ls 5 [(0, .ref h0), (1, .int x1), (2, .int x2), (3, .int x3), (4, .int x4)] → th_I (okM E) D G [] H → va_S (th_A G) s.heap H locs → W p l e R s m args below meth c H locs 0 0 QF (F0 m 32 ls []) := by
    intro H locs ls   hl  hI hS
    refine lv_aload_n hx hb dX12_wish_32 rfl (lv_at hl 0 rfl) ?_
    refine lv_iconst (v := (-1)) hx hb dX12_wish_33 (by decide) ?_
    refine mx_i (As := [.int (-1)]) (rest := []) (n := 1) (d := 0) ⟨hx, hb, hml, hown, hts⟩ (c_X12_refuses l E D G h0 hG0 (-1) ⟨by decide, by decide⟩) wd_1398 wd_1400 wp_40 wd_13 wd_1401 (by decide +kernel) ⟨by rw [hR]; exact Nat.le_of_ble_eq_true rfl, by rw [hR]; exact Nat.le_of_ble_eq_true rfl⟩ hI hN hK hS hG0 (trivial) rfl hl.1 rfl (Nat.le_of_ble_eq_true rfl) dX12_wish_34 ⟨Nat.zero_le _, Nat.zero_le _⟩ (fun r224 H locs hI hp hS => ?_)
    obtain rfl := hp.symm
    have hpost : True := trivial
    rw [hQ]
    exact W.iret (v := (-1)) hx hb hr (fun t ht hW => ⟨⟨(-1), (-1), rfl, rfl, ⟨by rw [ht]; exact hI, hN.warm hW, va_K.moved hW.alike hK⟩, by first | (rw [ht]; exact hpost) | exact hpost⟩, hS.F ht⟩) hS.2.2 dX12_wish_37
  refine lv_iload_n hx hb dX12_wish_0 rfl (lv_at hl 1 rfl) ?_
  refine th_cSs (As := [.int x1]) (rest := []) (n := 1) (d := 1) ⟨hx, hb, hml, hown, hts⟩ (c_X12_isCell l s.heap x1) wd_1414 wd_1415 wd_13 wd_1416 (by decide +kernel) ⟨by rw [hR]; exact Nat.le_of_ble_eq_true rfl, by rw [hR]; exact Nat.le_of_ble_eq_true rfl⟩ hN hS rfl hl.1 rfl (Nat.le_of_ble_eq_true rfl) dX12_wish_1 ⟨Nat.zero_le _, Nat.zero_le _⟩ (fun r225 locs hp hS => ?_)
  rcases hp with ⟨rfl, hp⟩ | ⟨rfl, hp⟩
  · skip
    try simp only [rg, not_and, Int.not_le] at hp
    have hp226 := hp
    refine lv_if_eq (tgt := 32) hx hb dX12_wish_4 (by decide) (fun c => absurd c (by decide)) (fun _ => ?_)
    refine lv_iload_n hx hb dX12_wish_7 rfl (lv_at hl 2 rfl) ?_
    refine th_cSs (As := [.int x2]) (rest := []) (n := 1) (d := 1) ⟨hx, hb, hml, hown, hts⟩ (c_X12_isTime l s.heap x2) wd_1655 wd_1656 wd_13 wd_1657 (by decide +kernel) ⟨by rw [hR]; exact Nat.le_of_ble_eq_true rfl, by rw [hR]; exact Nat.le_of_ble_eq_true rfl⟩ hN hS rfl hl.1 rfl (Nat.le_of_ble_eq_true rfl) dX12_wish_8 ⟨Nat.zero_le _, Nat.zero_le _⟩ (fun r227 locs hp hS => ?_)
    rcases hp with ⟨rfl, hp⟩ | ⟨rfl, hp⟩
    · skip
      try simp only [rg, not_and, Int.not_le] at hp
      have hp228 := hp
      refine lv_if_eq (tgt := 32) hx hb dX12_wish_11 (by decide) (fun c => absurd c (by decide)) (fun _ => ?_)
      refine lv_iload_n hx hb dX12_wish_14 rfl (lv_at hl 3 rfl) ?_
      refine th_cSs (As := [.int x3]) (rest := []) (n := 1) (d := 1) ⟨hx, hb, hml, hown, hts⟩ (c_X12_isPlace l s.heap x3) wd_1670 wd_1671 wd_13 wd_1672 (by decide +kernel) ⟨by rw [hR]; exact Nat.le_of_ble_eq_true rfl, by rw [hR]; exact Nat.le_of_ble_eq_true rfl⟩ hN hS rfl hl.1 rfl (Nat.le_of_ble_eq_true rfl) dX12_wish_15 ⟨Nat.zero_le _, Nat.zero_le _⟩ (fun r229 locs hp hS => ?_)
      rcases hp with ⟨rfl, hp⟩ | ⟨rfl, hp⟩
      · skip
        try simp only [rg, not_and, Int.not_le] at hp
        have hp230 := hp
        refine lv_if_eq (tgt := 32) hx hb dX12_wish_18 (by decide) (fun c => absurd c (by decide)) (fun _ => ?_)
        refine lv_iload hx hb dX12_wish_21 (lv_at hl 4 rfl) ?_
        refine lv_iload_n hx hb dX12_wish_23 rfl (lv_at hl 2 rfl) ?_
        refine lv_bipush (v := 96) hx hb dX12_wish_24 (by decide) ?_
        refine th_cSs (As := [.int x4, .int x2, .int 96]) (rest := []) (n := 3) (d := 0) ⟨hx, hb, hml, hown, hts⟩ (c_X12_lies l s.heap x4 x2 96) wd_1395 wd_1396 wd_13 wd_1397 (by decide +kernel) ⟨by rw [hR]; exact Nat.le_of_ble_eq_true rfl, by rw [hR]; exact Nat.le_of_ble_eq_true rfl⟩ hN hS rfl hl.1 rfl (Nat.le_of_ble_eq_true rfl) dX12_wish_26 ⟨Nat.zero_le _, Nat.zero_le _⟩ (fun r231 locs hp hS => ?_)
        rcases hp with ⟨rfl, hp⟩ | ⟨rfl, hp⟩
        · skip
          try simp only [rg, not_and, Int.not_le] at hp
          have hp232 := hp
          try rw [show (96 : Int32).toInt = 96 from by decide] at hp232
          refine lv_if_ne (tgt := 38) hx hb dX12_wish_29 (by decide) (fun _ => ?_) (fun c => absurd c (by decide))
          refine lv_aload_n hx hb dX12_wish_38 rfl (lv_at hl 0 rfl) ?_
          refine gmA hx hb hts inT12 hown hK hI List.not_mem_nil hG0 3 (by decide) (hts _ (tb_c wd_1236)) rfl rfl dX12_wish_39 (fun a233 hq234 hf235 => ?_)
          refine lv_sipush (v := 314) hx hb dX12_wish_42 (by decide) ?_
          obtain ⟨F236, hA237, hP238⟩ := om_1 hI hq234 List.not_mem_nil
          refine th_iald hx hb hK hA237 0 rfl (iv_in (X := (314)) (by decide) (by omega) (by omega)) dX12_wish_45 (fun v239 e240 => ?_)
          have k241 := kg_m314 (kOk.get (i := 314) hP238 e240 (X := (314)) (by decide) (by omega) (by omega)) (by omega) (by omega) (by omega)
          refine lv_bipush (v := 6) hx hb dX12_wish_46 (by decide) ?_
          refine lv_icmp_ne (tgt := 58) hx hb dX12_wish_48 (by decide) (fun c242 => ?_) (fun c242 => ?_)
          · skip
            have k243 := iv_ne (X := v239.toInt) (Y := (6)) rfl (by decide) c242
            refine lv_aload_n hx hb dX12_wish_58 rfl (lv_at hl 0 rfl) ?_
            refine lv_aload_n hx hb dX12_wish_59 rfl (lv_at hl 0 rfl) ?_
            refine lv_sipush (v := 282) hx hb dX12_wish_60 (by decide) ?_
            refine lv_sipush (v := 314) hx hb dX12_wish_63 (by decide) ?_
            refine lv_iconst (v := 4) hx hb dX12_wish_66 (by decide) ?_
            refine lv_iload_n hx hb dX12_wish_67 rfl (lv_at hl 1 rfl) ?_
            refine lv_iload_n hx hb dX12_wish_68 rfl (lv_at hl 2 rfl) ?_
            refine lv_iload_n hx hb dX12_wish_69 rfl (lv_at hl 3 rfl) ?_
            refine lv_iload hx hb dX12_wish_70 (lv_at hl 4 rfl) ?_
            refine mx_i (As := [.int 282, .int 314, .int 4, .int x1, .int x2, .int x3, .int x4]) (rest := [.ref h0]) (n := 7) (d := 0) ⟨hx, hb, hml, hown, hts⟩ (c_X12_comesBehind_314 l E D G h0 hG0 x1 x2 x3 x4 ⟨by omega, by omega⟩ ⟨by omega, by omega⟩ ⟨by omega, by omega⟩ F236 hP238 (lt_of_rd e240 rfl (by omega))) wd_1435 wd_1437 wp_42 wd_13 wd_1438 (by decide +kernel) ⟨by rw [hR]; exact Nat.le_of_ble_eq_true rfl, by rw [hR]; exact Nat.le_of_ble_eq_true rfl⟩ hI hN hK hS hG0 (⟨a233, hf235, hq234, hA237⟩) rfl hl.1 rfl (Nat.le_of_ble_eq_true rfl) dX12_wish_72 ⟨Nat.zero_le _, Nat.zero_le _⟩ (fun r244 H locs hI hp hS => ?_)
            refine mx_i (As := [.int r244]) (rest := []) (n := 1) (d := 0) ⟨hx, hb, hml, hown, hts⟩ (c_X12_good l E D G h0 hG0 r244) wd_1402 wd_1404 wp_41 wd_13 wd_1405 (by decide +kernel) ⟨by rw [hR]; exact Nat.le_of_ble_eq_true rfl, by rw [hR]; exact Nat.le_of_ble_eq_true rfl⟩ hI hN hK hS hG0 (trivial) rfl hl.1 rfl (Nat.le_of_ble_eq_true rfl) dX12_wish_75 ⟨Nat.zero_le _, Nat.zero_le _⟩ (fun r245 H locs hI hp hS => ?_)
            obtain rfl := hp.symm
            have hpost : True := trivial
            rw [hQ]
            exact W.iret (v := r244) hx hb hr (fun t ht hW => ⟨⟨r244, r244, rfl, rfl, ⟨by rw [ht]; exact hI, hN.warm hW, va_K.moved hW.alike hK⟩, by first | (rw [ht]; exact hpost) | exact hpost⟩, hS.F ht⟩) hS.2.2 dX12_wish_78
          · skip
            have k246 := iv_eq (X := v239.toInt) (Y := (6)) rfl (by decide) c242
            refine lv_aload_n hx hb dX12_wish_51 rfl (lv_at hl 0 rfl) ?_
            refine lv_bipush (v := (-5)) hx hb dX12_wish_52 (by decide) ?_
            refine mx_i (As := [.int (-5)]) (rest := []) (n := 1) (d := 0) ⟨hx, hb, hml, hown, hts⟩ (c_X12_refuses l E D G h0 hG0 (-5) ⟨by decide, by decide⟩) wd_1398 wd_1400 wp_40 wd_13 wd_1401 (by decide +kernel) ⟨by rw [hR]; exact Nat.le_of_ble_eq_true rfl, by rw [hR]; exact Nat.le_of_ble_eq_true rfl⟩ hI hN hK hS hG0 (trivial) rfl hl.1 rfl (Nat.le_of_ble_eq_true rfl) dX12_wish_54 ⟨Nat.zero_le _, Nat.zero_le _⟩ (fun r247 H locs hI hp hS => ?_)
            obtain rfl := hp.symm
            have hpost : True := trivial
            rw [hQ]
            exact W.iret (v := (-5)) hx hb hr (fun t ht hW => ⟨⟨(-5), (-5), rfl, rfl, ⟨by rw [ht]; exact hI, hN.warm hW, va_K.moved hW.alike hK⟩, by first | (rw [ht]; exact hpost) | exact hpost⟩, hS.F ht⟩) hS.2.2 dX12_wish_57
        · skip
          try simp only [rg, not_and, Int.not_le] at hp
          have hp248 := hp
          try rw [show (96 : Int32).toInt = 96 from by decide] at hp248
          refine lv_if_ne (tgt := 38) hx hb dX12_wish_29 (by decide) (fun c => absurd c (by decide)) (fun _ => ?_)
          exact J_32 s.heap locs ls   (lv_sub hl [0, 1, 2, 3, 4] rfl)  hI hS
      · skip
        try simp only [rg, not_and, Int.not_le] at hp
        have hp249 := hp
        refine lv_if_eq (tgt := 32) hx hb dX12_wish_18 (by decide) (fun _ => ?_) (fun c => absurd c (by decide))
        exact J_32 s.heap locs ls   (lv_sub hl [0, 1, 2, 3, 4] rfl)  hI hS
    · skip
      try simp only [rg, not_and, Int.not_le] at hp
      have hp250 := hp
      refine lv_if_eq (tgt := 32) hx hb dX12_wish_11 (by decide) (fun _ => ?_) (fun c => absurd c (by decide))
      exact J_32 s.heap locs ls   (lv_sub hl [0, 1, 2, 3, 4] rfl)  hI hS
  · skip
    try simp only [rg, not_and, Int.not_le] at hp
    have hp251 := hp
    refine lv_if_eq (tgt := 32) hx hb dX12_wish_4 (by decide) (fun _ => ?_) (fun c => absurd c (by decide))
    exact J_32 s.heap locs ls   (lv_sub hl [0, 1, 2, 3, 4] rfl)  hI hS
theorem dX12_drop_0 : decode cX12_drop 0 = .ok (.aload_n 0, 1) := by decide +kernel
theorem dX12_drop_1 : decode cX12_drop 1 = .ok (.sipush 314, 3) := by decide +kernel
theorem dX12_drop_4 : decode cX12_drop 4 = .ok (.invokevirtual 345, 3) := by decide +kernel
theorem dX12_drop_7 : decode cX12_drop 7 = .ok (.ireturn, 1) := by decide +kernel
set_option maxHeartbeats 4000000 in
set_option maxRecDepth 100000 in
theorem c_X12_drop (l : Launch) (E : Nat → Nat) (D : va_G) (G : th_G) (h0 : Nat) (hG0 : G h0 = some (10, 0)) : Met l yX12_drop (tb (.code yX12_drop cX12_drop 1 (some .int))) (rm 1) (va_Pc [.ref h0] (PX E D G (fun H => True))) (QXi E D G (fun r H => True)) 0 0 (th_A G) := by
  refine Met.ofW (cc := cX12_drop) (maxL := 1) (ret := (some .int)) (by decide) rfl ?_
  intro p e s m args below meth c s₁ B hml hv
  obtain ⟨hav, ⟨hI, hN, hK⟩, hX⟩ := hv
  have hx := B.exec
  have hb := B.bytes
  have hr := B.returns
  have hts := atoms_spec (ws := tb (.code yX12_drop cX12_drop 1 (some .int))) B.pre
  have hown : s.vm.findClass RX12 = some m.cls := findClass_of_methodNamed B.named
  have hlocks := B.notSynchronized
  have hS : va_S (th_A G) s.heap s.heap [] := va_S.rf
  have hl := lv_entry ([.ref h0]) (n := 1) (Nat.le_of_ble_eq_true rfl)
  rw [show entryFrame m args 1 = entryFrame m ([.ref h0] : List Value).toArray 1 from by rw [hav], lg_entry_eq]
  generalize (lg_sl ([.ref h0]) ++ List.replicate (1 - (lg_sl ([.ref h0])).length) Slot.unset).toArray = ls at hl ⊢
  have hl : lv_has ls 1 [(0, .ref h0)] := hl
  generalize hR : (headSpec (tb (.code yX12_drop cX12_drop 1 (some .int))) (rm 1)).room = R
  have hR := hR.symm
  generalize hQ : MQ below (QXi E D G (fun r H => True)) args s 0 0 (th_A G) = QF
  have hQ := hQ.symm
  refine lv_aload_n hx hb dX12_drop_0 rfl (lv_at hl 0 rfl) ?_
  refine lv_sipush (v := 314) hx hb dX12_drop_1 (by decide) ?_
  refine mx_i (As := [.int 314]) (rest := []) (n := 1) (d := 0) ⟨hx, hb, hml, hown, hts⟩ (c_X12_goAll_314 l E D G h0 hG0 ) wd_1749 wd_1751 wp_85 wd_13 wd_1752 (by decide +kernel) ⟨by rw [hR]; exact Nat.le_of_ble_eq_true rfl, by rw [hR]; exact Nat.le_of_ble_eq_true rfl⟩ hI hN hK hS hG0 (trivial) rfl hl.1 rfl (Nat.le_of_ble_eq_true rfl) dX12_drop_4 ⟨Nat.zero_le _, Nat.zero_le _⟩ (fun r1 H locs hI hp hS => ?_)
  have hpost : True := trivial
  rw [hQ]
  exact W.iret (v := r1) hx hb hr (fun t ht hW => ⟨⟨r1, r1, rfl, rfl, ⟨by rw [ht]; exact hI, hN.warm hW, va_K.moved hW.alike hK⟩, by first | (rw [ht]; exact hpost) | exact hpost⟩, hS.F ht⟩) hS.2.2 dX12_drop_7
theorem dX12_grants_0 : decode cX12_grants 0 = .ok (.iconst 0, 1) := by decide +kernel
theorem dX12_grants_1 : decode cX12_grants 1 = .ok (.istore_n 1, 1) := by decide +kernel
theorem dX12_grants_2 : decode cX12_grants 2 = .ok (.iconst 0, 1) := by decide +kernel
theorem dX12_grants_3 : decode cX12_grants 3 = .ok (.istore_n 2, 1) := by decide +kernel
theorem dX12_grants_4 : decode cX12_grants 4 = .ok (.iload_n 2, 1) := by decide +kernel
theorem dX12_grants_5 : decode cX12_grants 5 = .ok (.aload_n 0, 1) := by decide +kernel
theorem dX12_grants_6 : decode cX12_grants 6 = .ok (.getfield 20, 3) := by decide +kernel
theorem dX12_grants_9 : decode cX12_grants 9 = .ok (.sipush 314, 3) := by decide +kernel
theorem dX12_grants_12 : decode cX12_grants 12 = .ok (.iaload, 1) := by decide +kernel
theorem dX12_grants_13 : decode cX12_grants 13 = .ok (.if_icmp .ge 80, 3) := by decide +kernel
theorem dX12_grants_16 : decode cX12_grants 16 = .ok (.iload_n 1, 1) := by decide +kernel
theorem dX12_grants_17 : decode cX12_grants 17 = .ok (.aload_n 0, 1) := by decide +kernel
theorem dX12_grants_18 : decode cX12_grants 18 = .ok (.aload_n 0, 1) := by decide +kernel
theorem dX12_grants_19 : decode cX12_grants 19 = .ok (.getfield 20, 3) := by decide +kernel
theorem dX12_grants_22 : decode cX12_grants 22 = .ok (.sipush 282, 3) := by decide +kernel
theorem dX12_grants_25 : decode cX12_grants 25 = .ok (.iconst 4, 1) := by decide +kernel
theorem dX12_grants_26 : decode cX12_grants 26 = .ok (.iload_n 2, 1) := by decide +kernel
theorem dX12_grants_27 : decode cX12_grants 27 = .ok (.imul, 1) := by decide +kernel
theorem dX12_grants_28 : decode cX12_grants 28 = .ok (.iadd, 1) := by decide +kernel
theorem dX12_grants_29 : decode cX12_grants 29 = .ok (.iaload, 1) := by decide +kernel
theorem dX12_grants_30 : decode cX12_grants 30 = .ok (.aload_n 0, 1) := by decide +kernel
theorem dX12_grants_31 : decode cX12_grants 31 = .ok (.getfield 20, 3) := by decide +kernel
theorem dX12_grants_34 : decode cX12_grants 34 = .ok (.sipush 282, 3) := by decide +kernel
theorem dX12_grants_37 : decode cX12_grants 37 = .ok (.iconst 4, 1) := by decide +kernel
theorem dX12_grants_38 : decode cX12_grants 38 = .ok (.iload_n 2, 1) := by decide +kernel
theorem dX12_grants_39 : decode cX12_grants 39 = .ok (.imul, 1) := by decide +kernel
theorem dX12_grants_40 : decode cX12_grants 40 = .ok (.iadd, 1) := by decide +kernel
theorem dX12_grants_41 : decode cX12_grants 41 = .ok (.iconst 1, 1) := by decide +kernel
theorem dX12_grants_42 : decode cX12_grants 42 = .ok (.iadd, 1) := by decide +kernel
theorem dX12_grants_43 : decode cX12_grants 43 = .ok (.iaload, 1) := by decide +kernel
theorem dX12_grants_44 : decode cX12_grants 44 = .ok (.aload_n 0, 1) := by decide +kernel
theorem dX12_grants_45 : decode cX12_grants 45 = .ok (.getfield 20, 3) := by decide +kernel
theorem dX12_grants_48 : decode cX12_grants 48 = .ok (.sipush 282, 3) := by decide +kernel
theorem dX12_grants_51 : decode cX12_grants 51 = .ok (.iconst 4, 1) := by decide +kernel
theorem dX12_grants_52 : decode cX12_grants 52 = .ok (.iload_n 2, 1) := by decide +kernel
theorem dX12_grants_53 : decode cX12_grants 53 = .ok (.imul, 1) := by decide +kernel
theorem dX12_grants_54 : decode cX12_grants 54 = .ok (.iadd, 1) := by decide +kernel
theorem dX12_grants_55 : decode cX12_grants 55 = .ok (.iconst 3, 1) := by decide +kernel
theorem dX12_grants_56 : decode cX12_grants 56 = .ok (.iadd, 1) := by decide +kernel
theorem dX12_grants_57 : decode cX12_grants 57 = .ok (.iaload, 1) := by decide +kernel
theorem dX12_grants_58 : decode cX12_grants 58 = .ok (.invokevirtual 301, 3) := by decide +kernel
theorem dX12_grants_61 : decode cX12_grants 61 = .ok (.aload_n 0, 1) := by decide +kernel
theorem dX12_grants_62 : decode cX12_grants 62 = .ok (.getfield 20, 3) := by decide +kernel
theorem dX12_grants_65 : decode cX12_grants 65 = .ok (.sipush 282, 3) := by decide +kernel
theorem dX12_grants_68 : decode cX12_grants 68 = .ok (.iconst 4, 1) := by decide +kernel
theorem dX12_grants_69 : decode cX12_grants 69 = .ok (.iload_n 2, 1) := by decide +kernel
theorem dX12_grants_70 : decode cX12_grants 70 = .ok (.imul, 1) := by decide +kernel
theorem dX12_grants_71 : decode cX12_grants 71 = .ok (.iadd, 1) := by decide +kernel
theorem dX12_grants_72 : decode cX12_grants 72 = .ok (.iconst 2, 1) := by decide +kernel
theorem dX12_grants_73 : decode cX12_grants 73 = .ok (.iadd, 1) := by decide +kernel
theorem dX12_grants_74 : decode cX12_grants 74 = .ok (.iaload, 1) := by decide +kernel
theorem dX12_grants_75 : decode cX12_grants 75 = .ok (.if_icmp .ne 9, 3) := by decide +kernel
theorem dX12_grants_78 : decode cX12_grants 78 = .ok (.iconst 1, 1) := by decide +kernel
theorem dX12_grants_79 : decode cX12_grants 79 = .ok (.iload_n 2, 1) := by decide +kernel
theorem dX12_grants_80 : decode cX12_grants 80 = .ok (.ishl, 1) := by decide +kernel
theorem dX12_grants_81 : decode cX12_grants 81 = .ok (.goto 4, 3) := by decide +kernel
theorem dX12_grants_84 : decode cX12_grants 84 = .ok (.iconst 0, 1) := by decide +kernel
theorem dX12_grants_85 : decode cX12_grants 85 = .ok (.ior, 1) := by decide +kernel
theorem dX12_grants_86 : decode cX12_grants 86 = .ok (.istore_n 1, 1) := by decide +kernel
theorem dX12_grants_87 : decode cX12_grants 87 = .ok (.iinc 2 1, 3) := by decide +kernel
theorem dX12_grants_90 : decode cX12_grants 90 = .ok (.goto (-86), 3) := by decide +kernel
theorem dX12_grants_93 : decode cX12_grants 93 = .ok (.iload_n 1, 1) := by decide +kernel
theorem dX12_grants_94 : decode cX12_grants 94 = .ok (.ireturn, 1) := by decide +kernel
set_option maxHeartbeats 4000000 in
set_option maxRecDepth 100000 in
theorem c_X12_grants (l : Launch) (E : Nat → Nat) (D : va_G) (G : th_G) (H0 : Heap) (h0 : Nat) (hG0 : G h0 = some (10, 0)) : Met l yX12_grants (tb (.code yX12_grants cX12_grants 3 (some .int))) (rm 1) (va_Pc [.ref h0] (PR E D G H0)) (QS H0 (fun r => True)) 0 0 (fun _ => False) := by
  refine Met.ofW (cc := cX12_grants) (maxL := 3) (ret := (some .int)) (by decide) rfl ?_
  intro p e s m args below meth c s₁ B hml hv
  obtain ⟨hav, rfl, hI, hN, hK⟩ := hv
  have hx := B.exec
  have hb := B.bytes
  have hr := B.returns
  have hts := atoms_spec (ws := tb (.code yX12_grants cX12_grants 3 (some .int))) B.pre
  have hown : s.vm.findClass RX12 = some m.cls := findClass_of_methodNamed B.named
  have hlocks := B.notSynchronized
  have hS : va_S (fun _ => False) s.heap s.heap [] := va_S.rf
  have hl := lv_entry ([.ref h0]) (n := 3) (Nat.le_of_ble_eq_true rfl)
  rw [show entryFrame m args 3 = entryFrame m ([.ref h0] : List Value).toArray 3 from by rw [hav], lg_entry_eq]
  generalize (lg_sl ([.ref h0]) ++ List.replicate (3 - (lg_sl ([.ref h0])).length) Slot.unset).toArray = ls at hl ⊢
  have hl : lv_has ls 3 [(0, .ref h0)] := hl
  generalize hR : (headSpec (tb (.code yX12_grants cX12_grants 3 (some .int))) (rm 1)).room = R
  have hR := hR.symm
  generalize hQ : MQ below (QS s.heap (fun r => True)) args s 0 0 (fun _ => False) = QF
  have hQ := hQ.symm
  obtain ⟨q_3, hq_3, hf_3⟩ := fr_of hI hG0 3 (by decide) (kd := (1, 5123)) rfl
  obtain ⟨F_3, hA_3, hP_3⟩ := om_1 hI hq_3 List.not_mem_nil
  have J_4 : ∀ (nn : Nat) (locs : List Loc) (ls : Array Slot) (v875 : Int32) (v876 : Int32) , (Int.toNat (6 - v875.toInt) = nn) → lv_has ls 3 [(2, .int v875), (1, .int v876), (0, .ref h0)] → ((0 : Int) ≤ v875.toInt ∧ v875.toInt ≤ 6) → ((0 : Int) ≤ v876.toInt ∧ v876.toInt ≤ 1023) → va_S (fun _ => False) s.heap s.heap locs → W p l e R s m args below meth c s.heap locs 0 0 QF (F0 m 4 ls []) := by
    intro nn
    induction nn using Nat.strongRecOn with
    | ind nn ih_4 =>
      intro locs ls v875 v876  hm hl k877 k878 hS
      refine lv_iload_n hx hb dX12_grants_4 rfl (lv_at hl 0 rfl) ?_
      refine lv_aload_n hx hb dX12_grants_5 rfl (lv_at hl 2 rfl) ?_
      refine gmA hx hb hts inT12 hown hK hI List.not_mem_nil hG0 3 (by decide) (hts _ (tb_c wd_1236)) rfl rfl dX12_grants_6 (fun a879 hq880 hf881 => ?_)
      obtain rfl := fr.uniq (by decide) hf_3 hf881
      refine lv_sipush (v := 314) hx hb dX12_grants_9 (by decide) ?_
      refine th_iald hx hb hK hA_3 0 rfl (iv_in (X := (314)) (by decide) (by omega) (by omega)) dX12_grants_12 (fun v882 e883 => ?_)
      have k884 := kg_m314 (kOk.get (i := 314) hP_3 e883 (X := (314)) (by decide) (by omega) (by omega)) (by omega) (by omega) (by omega)
      refine lv_icmp_ge (tgt := 93) hx hb dX12_grants_13 (by decide) (fun c885 => ?_) (fun c885 => ?_)
      · skip
        have k886 := iv_le (X := v882.toInt) (Y := v875.toInt) rfl rfl c885
        refine lv_iload_n hx hb dX12_grants_93 rfl (lv_at hl 1 rfl) ?_
        have hpost : True := trivial
        rw [hQ]
        exact W.iret (v := v876) hx hb hr (fun t ht hW => ⟨⟨v876, (), rfl, hpost, ht⟩, hS.F ht⟩) hS.2.2 dX12_grants_94
      · skip
        have k887 := iv_nle (X := v882.toInt) (Y := v875.toInt) rfl rfl c885
        refine lv_iload_n hx hb dX12_grants_16 rfl (lv_at hl 1 rfl) ?_
        refine lv_aload_n hx hb dX12_grants_17 rfl (lv_at hl 2 rfl) ?_
        refine lv_aload_n hx hb dX12_grants_18 rfl (lv_at hl 2 rfl) ?_
        refine gmA hx hb hts inT12 hown hK hI List.not_mem_nil hG0 3 (by decide) (hts _ (tb_c wd_1236)) rfl rfl dX12_grants_19 (fun a888 hq889 hf890 => ?_)
        obtain rfl := fr.uniq (by decide) hf_3 hf890
        refine lv_sipush (v := 282) hx hb dX12_grants_22 (by decide) ?_
        refine lv_iconst (v := 4) hx hb dX12_grants_25 (by decide) ?_
        refine lv_iload_n hx hb dX12_grants_26 rfl (lv_at hl 0 rfl) ?_
        refine lv_imul hx hb dX12_grants_27 ?_
        refine lv_topi (fun v891 e892 => ?_)
        have tv891 : v891.toInt = (4) * v875.toInt := iv_mul (by decide) rfl e892 (by omega) (by omega)
        refine lv_iadd hx hb dX12_grants_28 ?_
        refine lv_topi (fun v893 e894 => ?_)
        have tv893 : v893.toInt = (282) + v891.toInt := iv_add (by decide) rfl e894 (by omega) (by omega)
        refine th_iald hx hb hK hA_3 0 rfl (iv_in (X := v893.toInt) rfl (by omega) (by omega)) dX12_grants_29 (fun v895 e896 => ?_)
        have k897 := kg_wish0 (kOk.get (i := v893) hP_3 e896 (X := v893.toInt) rfl (by omega) (by omega)) (by omega) (by omega) (by omega)
        refine lv_aload_n hx hb dX12_grants_30 rfl (lv_at hl 2 rfl) ?_
        refine gmA hx hb hts inT12 hown hK hI List.not_mem_nil hG0 3 (by decide) (hts _ (tb_c wd_1236)) rfl rfl dX12_grants_31 (fun a898 hq899 hf900 => ?_)
        obtain rfl := fr.uniq (by decide) hf_3 hf900
        refine lv_sipush (v := 282) hx hb dX12_grants_34 (by decide) ?_
        refine lv_iconst (v := 4) hx hb dX12_grants_37 (by decide) ?_
        refine lv_iload_n hx hb dX12_grants_38 rfl (lv_at hl 0 rfl) ?_
        refine lv_imul hx hb dX12_grants_39 ?_
        refine lv_topi (fun v901 e902 => ?_)
        have tv901 : v901.toInt = (4) * v875.toInt := iv_mul (by decide) rfl e902 (by omega) (by omega)
        refine lv_iadd hx hb dX12_grants_40 ?_
        refine lv_topi (fun v903 e904 => ?_)
        have tv903 : v903.toInt = (282) + v901.toInt := iv_add (by decide) rfl e904 (by omega) (by omega)
        refine lv_iconst (v := 1) hx hb dX12_grants_41 (by decide) ?_
        refine lv_iadd hx hb dX12_grants_42 ?_
        refine lv_topi (fun v905 e906 => ?_)
        have tv905 : v905.toInt = v903.toInt + (1) := iv_add rfl (by decide) e906 (by omega) (by omega)
        refine th_iald hx hb hK hA_3 0 rfl (iv_in (X := v905.toInt) rfl (by omega) (by omega)) dX12_grants_43 (fun v907 e908 => ?_)
        have k909 := kg_wish1 (kOk.get (i := v905) hP_3 e908 (X := v905.toInt) rfl (by omega) (by omega)) (by omega) (by omega) (by omega)
        refine lv_aload_n hx hb dX12_grants_44 rfl (lv_at hl 2 rfl) ?_
        refine gmA hx hb hts inT12 hown hK hI List.not_mem_nil hG0 3 (by decide) (hts _ (tb_c wd_1236)) rfl rfl dX12_grants_45 (fun a910 hq911 hf912 => ?_)
        obtain rfl := fr.uniq (by decide) hf_3 hf912
        refine lv_sipush (v := 282) hx hb dX12_grants_48 (by decide) ?_
        refine lv_iconst (v := 4) hx hb dX12_grants_51 (by decide) ?_
        refine lv_iload_n hx hb dX12_grants_52 rfl (lv_at hl 0 rfl) ?_
        refine lv_imul hx hb dX12_grants_53 ?_
        refine lv_topi (fun v913 e914 => ?_)
        have tv913 : v913.toInt = (4) * v875.toInt := iv_mul (by decide) rfl e914 (by omega) (by omega)
        refine lv_iadd hx hb dX12_grants_54 ?_
        refine lv_topi (fun v915 e916 => ?_)
        have tv915 : v915.toInt = (282) + v913.toInt := iv_add (by decide) rfl e916 (by omega) (by omega)
        refine lv_iconst (v := 3) hx hb dX12_grants_55 (by decide) ?_
        refine lv_iadd hx hb dX12_grants_56 ?_
        refine lv_topi (fun v917 e918 => ?_)
        have tv917 : v917.toInt = v915.toInt + (3) := iv_add rfl (by decide) e918 (by omega) (by omega)
        refine th_iald hx hb hK hA_3 0 rfl (iv_in (X := v917.toInt) rfl (by omega) (by omega)) dX12_grants_57 (fun v919 e920 => ?_)
        have k921 := kg_wish3 (kOk.get (i := v917) hP_3 e920 (X := v917.toInt) rfl (by omega) (by omega)) (by omega) (by omega) (by omega)
        refine mr_i (As := [.int v895, .int v907, .int v919]) (rest := [.int v876]) (n := 3) (d := 0) ⟨hx, hb, hml, hown, hts⟩ (c_X12_floats l E D G s.heap h0 hG0 v895 v907 v919 ⟨by omega, by omega⟩ (by omega) (by omega)) wd_1658 wd_1660 wp_77 wd_13 wd_1661 (by decide +kernel) ⟨by rw [hR]; exact Nat.le_of_ble_eq_true rfl, by rw [hR]; exact Nat.le_of_ble_eq_true rfl⟩ hI hN hK hS hG0 rfl hl.1 rfl (Nat.le_of_ble_eq_true rfl) dX12_grants_58 ⟨Nat.zero_le _, Nat.zero_le _⟩ (fun r922 locs hp hS => ?_)
        have hp923 := hp
        refine lv_aload_n hx hb dX12_grants_61 rfl (lv_at hl 2 rfl) ?_
        refine gmA hx hb hts inT12 hown hK hI List.not_mem_nil hG0 3 (by decide) (hts _ (tb_c wd_1236)) rfl rfl dX12_grants_62 (fun a924 hq925 hf926 => ?_)
        obtain rfl := fr.uniq (by decide) hf_3 hf926
        refine lv_sipush (v := 282) hx hb dX12_grants_65 (by decide) ?_
        refine lv_iconst (v := 4) hx hb dX12_grants_68 (by decide) ?_
        refine lv_iload_n hx hb dX12_grants_69 rfl (lv_at hl 0 rfl) ?_
        refine lv_imul hx hb dX12_grants_70 ?_
        refine lv_topi (fun v927 e928 => ?_)
        have tv927 : v927.toInt = (4) * v875.toInt := iv_mul (by decide) rfl e928 (by omega) (by omega)
        refine lv_iadd hx hb dX12_grants_71 ?_
        refine lv_topi (fun v929 e930 => ?_)
        have tv929 : v929.toInt = (282) + v927.toInt := iv_add (by decide) rfl e930 (by omega) (by omega)
        refine lv_iconst (v := 2) hx hb dX12_grants_72 (by decide) ?_
        refine lv_iadd hx hb dX12_grants_73 ?_
        refine lv_topi (fun v931 e932 => ?_)
        have tv931 : v931.toInt = v929.toInt + (2) := iv_add rfl (by decide) e932 (by omega) (by omega)
        refine th_iald hx hb hK hA_3 0 rfl (iv_in (X := v931.toInt) rfl (by omega) (by omega)) dX12_grants_74 (fun v933 e934 => ?_)
        have k935 := iv_lo v933
        have k936 := iv_hi v933
        refine lv_icmp_ne (tgt := 84) hx hb dX12_grants_75 (by decide) (fun c937 => ?_) (fun c937 => ?_)
        · skip
          have k938 := iv_ne (X := r922.toInt) (Y := v933.toInt) rfl rfl c937
          refine lv_iconst (v := 0) hx hb dX12_grants_84 (by decide) ?_
          refine lv_ior hx hb dX12_grants_85 ?_
          refine lv_topi (fun v939 e940 => ?_)
          have tv939 := iv_or (X := v876.toInt) (Y := (0)) rfl (by decide) e940 (by omega) (by omega) (by omega) (by omega)
          refine lv_istore_n (lv' := [(1, .int v939), (2, .int v875), (0, .ref h0)]) hx hb dX12_grants_86 rfl hl (by decide) rfl (fun ls hl => ?_)
          obtain ⟨v941, e942⟩ : ∃ y : Int32, y = v875 + (1) := ⟨_, rfl⟩
          have tv941 : v941.toInt = v875.toInt + (1) := iv_add rfl (by decide) e942 (by omega) (by omega)
          refine lv_iinc (v := v941) (lv' := [(2, .int v941), (1, .int v939), (0, .ref h0)]) hx hb dX12_grants_87 hl (k := 1) rfl (by rw [e942]; rfl) (by decide) rfl (fun ls hl => ?_)
          refine lv_goto (tgt := 4) hx hb dX12_grants_90 (by decide) ?_
          exact ih_4 _ (by omega) locs ls v941 v939  rfl (lv_sub hl [0, 1, 2] rfl) ⟨by omega, by omega⟩ ⟨by omega, by omega⟩ hS
        · skip
          have k943 := iv_eq (X := r922.toInt) (Y := v933.toInt) rfl rfl c937
          refine lv_iconst (v := 1) hx hb dX12_grants_78 (by decide) ?_
          refine lv_iload_n hx hb dX12_grants_79 rfl (lv_at hl 0 rfl) ?_
          refine lv_ishl hx hb dX12_grants_80 ?_
          refine lv_topi (fun v944 e945 => ?_)
          have tv944 := iv_1sh (X := v875.toInt) rfl e945 (by omega) (by omega)
          refine lv_goto (tgt := 85) hx hb dX12_grants_81 (by decide) ?_
          refine lv_ior hx hb dX12_grants_85 ?_
          refine lv_topi (fun v946 e947 => ?_)
          have tv946 := iv_or (X := v876.toInt) (Y := v944.toInt) rfl rfl e947 (by omega) (by omega) (by omega) (by omega)
          refine lv_istore_n (lv' := [(1, .int v946), (2, .int v875), (0, .ref h0)]) hx hb dX12_grants_86 rfl hl (by decide) rfl (fun ls hl => ?_)
          obtain ⟨v948, e949⟩ : ∃ y : Int32, y = v875 + (1) := ⟨_, rfl⟩
          have tv948 : v948.toInt = v875.toInt + (1) := iv_add rfl (by decide) e949 (by omega) (by omega)
          refine lv_iinc (v := v948) (lv' := [(2, .int v948), (1, .int v946), (0, .ref h0)]) hx hb dX12_grants_87 hl (k := 1) rfl (by rw [e949]; rfl) (by decide) rfl (fun ls hl => ?_)
          refine lv_goto (tgt := 4) hx hb dX12_grants_90 (by decide) ?_
          exact ih_4 _ (by omega) locs ls v948 v946  rfl (lv_sub hl [0, 1, 2] rfl) ⟨by omega, by omega⟩ ⟨by omega, by omega⟩ hS
  refine lv_iconst (v := 0) hx hb dX12_grants_0 (by decide) ?_
  refine lv_istore_n (lv' := [(1, .int 0), (0, .ref h0)]) hx hb dX12_grants_1 rfl hl (by decide) rfl (fun ls hl => ?_)
  refine lv_iconst (v := 0) hx hb dX12_grants_2 (by decide) ?_
  refine lv_istore_n (lv' := [(2, .int 0), (1, .int 0), (0, .ref h0)]) hx hb dX12_grants_3 rfl hl (by decide) rfl (fun ls hl => ?_)
  have zl : (0 : Int32).toInt = 0 := by decide
  exact J_4 _ [] ls 0 0  rfl (lv_sub hl [0, 1, 2] rfl) ⟨by decide, by decide⟩ ⟨by decide, by decide⟩ hS
theorem dX12_granted_0 : decode cX12_granted 0 = .ok (.aload_n 0, 1) := by decide +kernel
theorem dX12_granted_1 : decode cX12_granted 1 = .ok (.invokevirtual 138, 3) := by decide +kernel
theorem dX12_granted_4 : decode cX12_granted 4 = .ok (.aload_n 0, 1) := by decide +kernel
theorem dX12_granted_5 : decode cX12_granted 5 = .ok (.invokevirtual 373, 3) := by decide +kernel
theorem dX12_granted_8 : decode cX12_granted 8 = .ok (.ireturn, 1) := by decide +kernel
set_option maxHeartbeats 4000000 in
set_option maxRecDepth 100000 in
theorem c_X12_granted (l : Launch) (E : Nat → Nat) (D : va_G) (G : th_G) (h0 : Nat) (hG0 : G h0 = some (10, 0)) : Met l yX12_granted (tb (.code yX12_granted cX12_granted 1 (some .int))) (rm 69) (va_Pc [.ref h0] (PX E D G (fun H => True))) (QXi E D G (fun r H => True)) 0 0 (th_A G) := by
  refine Met.ofW (cc := cX12_granted) (maxL := 1) (ret := (some .int)) (by decide) rfl ?_
  intro p e s m args below meth c s₁ B hml hv
  obtain ⟨hav, ⟨hI, hN, hK⟩, hX⟩ := hv
  have hx := B.exec
  have hb := B.bytes
  have hr := B.returns
  have hts := atoms_spec (ws := tb (.code yX12_granted cX12_granted 1 (some .int))) B.pre
  have hown : s.vm.findClass RX12 = some m.cls := findClass_of_methodNamed B.named
  have hlocks := B.notSynchronized
  have hS : va_S (th_A G) s.heap s.heap [] := va_S.rf
  have hl := lv_entry ([.ref h0]) (n := 1) (Nat.le_of_ble_eq_true rfl)
  rw [show entryFrame m args 1 = entryFrame m ([.ref h0] : List Value).toArray 1 from by rw [hav], lg_entry_eq]
  generalize (lg_sl ([.ref h0]) ++ List.replicate (1 - (lg_sl ([.ref h0])).length) Slot.unset).toArray = ls at hl ⊢
  have hl : lv_has ls 1 [(0, .ref h0)] := hl
  generalize hR : (headSpec (tb (.code yX12_granted cX12_granted 1 (some .int))) (rm 69)).room = R
  have hR := hR.symm
  generalize hQ : MQ below (QXi E D G (fun r H => True)) args s 0 0 (th_A G) = QF
  have hQ := hQ.symm
  refine lv_aload_n hx hb dX12_granted_0 rfl (lv_at hl 0 rfl) ?_
  refine mx_v (As := []) (rest := []) (n := 0) (d := 68) ⟨hx, hb, hml, hown, hts⟩ (c_X12_looks l E D G h0 hG0 ) wd_1455 wd_1457 wp_43 wd_13 wd_1458 (by decide +kernel) ⟨by rw [hR]; exact Nat.le_of_ble_eq_true rfl, by rw [hR]; exact Nat.le_of_ble_eq_true rfl⟩ hI hN hK hS hG0 (trivial) rfl hl.1 rfl (Nat.le_of_ble_eq_true rfl) dX12_granted_1 ⟨Nat.zero_le _, Nat.zero_le _⟩ (fun H locs hI hp hS => ?_)
  refine lv_aload_n hx hb dX12_granted_4 rfl (lv_at hl 0 rfl) ?_
  refine mr_i (As := []) (rest := []) (n := 0) (d := 1) ⟨hx, hb, hml, hown, hts⟩ (c_X12_grants l E D G H h0 hG0 ) wd_1824 wd_1826 wp_91 wd_13 wd_1827 (by decide +kernel) ⟨by rw [hR]; exact Nat.le_of_ble_eq_true rfl, by rw [hR]; exact Nat.le_of_ble_eq_true rfl⟩ hI hN hK hS hG0 rfl hl.1 rfl (Nat.le_of_ble_eq_true rfl) dX12_granted_5 ⟨Nat.zero_le _, Nat.zero_le _⟩ (fun r2 locs hp hS => ?_)
  have hpost : True := trivial
  rw [hQ]
  exact W.iret (v := r2) hx hb hr (fun t ht hW => ⟨⟨r2, r2, rfl, rfl, ⟨by rw [ht]; exact hI, hN.warm hW, va_K.moved hW.alike hK⟩, by first | (rw [ht]; exact hpost) | exact hpost⟩, hS.F ht⟩) hS.2.2 dX12_granted_8
theorem dX12_laysFlows_0 : decode cX12_laysFlows 0 = .ok (.iconst 0, 1) := by decide +kernel
theorem dX12_laysFlows_1 : decode cX12_laysFlows 1 = .ok (.istore_n 1, 1) := by decide +kernel
theorem dX12_laysFlows_2 : decode cX12_laysFlows 2 = .ok (.iload_n 1, 1) := by decide +kernel
theorem dX12_laysFlows_3 : decode cX12_laysFlows 3 = .ok (.sipush 2304, 3) := by decide +kernel
theorem dX12_laysFlows_6 : decode cX12_laysFlows 6 = .ok (.if_icmp .ge 48, 3) := by decide +kernel
theorem dX12_laysFlows_9 : decode cX12_laysFlows 9 = .ok (.aload_n 0, 1) := by decide +kernel
theorem dX12_laysFlows_10 : decode cX12_laysFlows 10 = .ok (.getfield 55, 3) := by decide +kernel
theorem dX12_laysFlows_13 : decode cX12_laysFlows 13 = .ok (.iload_n 1, 1) := by decide +kernel
theorem dX12_laysFlows_14 : decode cX12_laysFlows 14 = .ok (.aload_n 0, 1) := by decide +kernel
theorem dX12_laysFlows_15 : decode cX12_laysFlows 15 = .ok (.iload_n 1, 1) := by decide +kernel
theorem dX12_laysFlows_16 : decode cX12_laysFlows 16 = .ok (.bipush 24, 2) := by decide +kernel
theorem dX12_laysFlows_18 : decode cX12_laysFlows 18 = .ok (.irem, 1) := by decide +kernel
theorem dX12_laysFlows_19 : decode cX12_laysFlows 19 = .ok (.iload_n 1, 1) := by decide +kernel
theorem dX12_laysFlows_20 : decode cX12_laysFlows 20 = .ok (.bipush 24, 2) := by decide +kernel
theorem dX12_laysFlows_22 : decode cX12_laysFlows 22 = .ok (.idiv, 1) := by decide +kernel
theorem dX12_laysFlows_23 : decode cX12_laysFlows 23 = .ok (.aload_n 0, 1) := by decide +kernel
theorem dX12_laysFlows_24 : decode cX12_laysFlows 24 = .ok (.getfield 20, 3) := by decide +kernel
theorem dX12_laysFlows_27 : decode cX12_laysFlows 27 = .ok (.bipush 10, 2) := by decide +kernel
theorem dX12_laysFlows_29 : decode cX12_laysFlows 29 = .ok (.iload_n 1, 1) := by decide +kernel
theorem dX12_laysFlows_30 : decode cX12_laysFlows 30 = .ok (.bipush 24, 2) := by decide +kernel
theorem dX12_laysFlows_32 : decode cX12_laysFlows 32 = .ok (.idiv, 1) := by decide +kernel
theorem dX12_laysFlows_33 : decode cX12_laysFlows 33 = .ok (.iadd, 1) := by decide +kernel
theorem dX12_laysFlows_34 : decode cX12_laysFlows 34 = .ok (.iaload, 1) := by decide +kernel
theorem dX12_laysFlows_35 : decode cX12_laysFlows 35 = .ok (.iconst 1, 1) := by decide +kernel
theorem dX12_laysFlows_36 : decode cX12_laysFlows 36 = .ok (.if_icmp .ne 7, 3) := by decide +kernel
theorem dX12_laysFlows_39 : decode cX12_laysFlows 39 = .ok (.iconst 1, 1) := by decide +kernel
theorem dX12_laysFlows_40 : decode cX12_laysFlows 40 = .ok (.goto 4, 3) := by decide +kernel
theorem dX12_laysFlows_43 : decode cX12_laysFlows 43 = .ok (.iconst 0, 1) := by decide +kernel
theorem dX12_laysFlows_44 : decode cX12_laysFlows 44 = .ok (.invokevirtual 282, 3) := by decide +kernel
theorem dX12_laysFlows_47 : decode cX12_laysFlows 47 = .ok (.iastore, 1) := by decide +kernel
theorem dX12_laysFlows_48 : decode cX12_laysFlows 48 = .ok (.iinc 1 1, 3) := by decide +kernel
theorem dX12_laysFlows_51 : decode cX12_laysFlows 51 = .ok (.goto (-49), 3) := by decide +kernel
theorem dX12_laysFlows_54 : decode cX12_laysFlows 54 = .ok (.aload_n 0, 1) := by decide +kernel
theorem dX12_laysFlows_55 : decode cX12_laysFlows 55 = .ok (.invokevirtual 285, 3) := by decide +kernel
theorem dX12_laysFlows_58 : decode cX12_laysFlows 58 = .ok (.return_, 1) := by decide +kernel
set_option maxHeartbeats 4000000 in
set_option maxRecDepth 100000 in
theorem c_X12_laysFlows (l : Launch) (E : Nat → Nat) (D : va_G) (G : th_G) (h0 : Nat) (hG0 : G h0 = some (10, 0)) : Met l yX12_laysFlows (tb (.code yX12_laysFlows cX12_laysFlows 2 none)) (rm 68) (va_Pc [.ref h0] (PX E D G (fun H => True))) (QXv E D G (fun H => True)) 0 0 (th_A G) := by
  refine Met.ofW (cc := cX12_laysFlows) (maxL := 2) (ret := none) (by decide) rfl ?_
  intro p e s m args below meth c s₁ B hml hv
  obtain ⟨hav, ⟨hI, hN, hK⟩, hX⟩ := hv
  have hx := B.exec
  have hb := B.bytes
  have hr := B.returns
  have hts := atoms_spec (ws := tb (.code yX12_laysFlows cX12_laysFlows 2 none)) B.pre
  have hown : s.vm.findClass RX12 = some m.cls := findClass_of_methodNamed B.named
  have hlocks := B.notSynchronized
  have hS : va_S (th_A G) s.heap s.heap [] := va_S.rf
  have hl := lv_entry ([.ref h0]) (n := 2) (Nat.le_of_ble_eq_true rfl)
  rw [show entryFrame m args 2 = entryFrame m ([.ref h0] : List Value).toArray 2 from by rw [hav], lg_entry_eq]
  generalize (lg_sl ([.ref h0]) ++ List.replicate (2 - (lg_sl ([.ref h0])).length) Slot.unset).toArray = ls at hl ⊢
  have hl : lv_has ls 2 [(0, .ref h0)] := hl
  generalize hR : (headSpec (tb (.code yX12_laysFlows cX12_laysFlows 2 none)) (rm 68)).room = R
  have hR := hR.symm
  generalize hQ : MQ below (QXv E D G (fun H => True)) args s 0 0 (th_A G) = QF
  have hQ := hQ.symm
  have J_2 : ∀ (nn : Nat) (H : Heap) (locs : List Loc) (ls : Array Slot) (v1309 : Int32) , (Int.toNat (2304 - v1309.toInt) = nn) → lv_has ls 2 [(1, .int v1309), (0, .ref h0)] → ((0 : Int) ≤ v1309.toInt ∧ v1309.toInt ≤ 2304) → th_I (okM E) D G [] H → va_S (th_A G) s.heap H locs → W p l e R s m args below meth c H locs 0 0 QF (F0 m 2 ls []) := by
    intro nn
    induction nn using Nat.strongRecOn with
    | ind nn ih_2 =>
      intro H locs ls v1309  hm hl k1310 hI hS
      refine lv_iload_n hx hb dX12_laysFlows_2 rfl (lv_at hl 0 rfl) ?_
      refine lv_sipush (v := 2304) hx hb dX12_laysFlows_3 (by decide) ?_
      refine lv_icmp_ge (tgt := 54) hx hb dX12_laysFlows_6 (by decide) (fun c1311 => ?_) (fun c1311 => ?_)
      · skip
        have k1312 := iv_le (X := (2304)) (Y := v1309.toInt) (by decide) rfl c1311
        refine lv_aload_n hx hb dX12_laysFlows_54 rfl (lv_at hl 1 rfl) ?_
        refine mx_v (As := []) (rest := []) (n := 0) (d := 3) ⟨hx, hb, hml, hown, hts⟩ (c_X12_laysNext l E D G h0 hG0 ) wd_1527 wd_1529 wp_59 wd_13 wd_1530 (by decide +kernel) ⟨by rw [hR]; exact Nat.le_of_ble_eq_true rfl, by rw [hR]; exact Nat.le_of_ble_eq_true rfl⟩ hI hN hK hS hG0 (trivial) rfl hl.1 rfl (Nat.le_of_ble_eq_true rfl) dX12_laysFlows_55 ⟨Nat.zero_le _, Nat.zero_le _⟩ (fun H locs hI hp hS => ?_)
        have hpost : True := trivial
        rw [hQ]
        exact W.vret hx hb hr (fun t ht hW => ⟨⟨(), rfl, trivial, ⟨by rw [ht]; exact hI, hN.warm hW, va_K.moved hW.alike hK⟩, by first | (rw [ht]; exact hpost) | exact hpost⟩, hS.F ht⟩) hS.2.2 dX12_laysFlows_58
      · skip
        have k1314 := iv_nle (X := (2304)) (Y := v1309.toInt) (by decide) rfl c1311
        refine lv_aload_n hx hb dX12_laysFlows_9 rfl (lv_at hl 1 rfl) ?_
        refine gmA hx hb hts inT12 hown hK hI List.not_mem_nil hG0 23 (by decide) (hts _ (tb_c wd_1256)) rfl rfl dX12_laysFlows_10 (fun a1315 hq1316 hf1317 => ?_)
        refine lv_iload_n hx hb dX12_laysFlows_13 rfl (lv_at hl 0 rfl) ?_
        refine lv_aload_n hx hb dX12_laysFlows_14 rfl (lv_at hl 1 rfl) ?_
        refine lv_iload_n hx hb dX12_laysFlows_15 rfl (lv_at hl 0 rfl) ?_
        refine lv_bipush (v := 24) hx hb dX12_laysFlows_16 (by decide) ?_
        refine lv_irem hx hb dX12_laysFlows_18 (by decide) ?_
        refine lv_topi (fun v1318 e1319 => ?_)
        have tv1318 := iv_remp (X := v1309.toInt) (Y := 24) rfl (by decide) e1319 (by decide) (by omega)
        refine lv_iload_n hx hb dX12_laysFlows_19 rfl (lv_at hl 0 rfl) ?_
        refine lv_bipush (v := 24) hx hb dX12_laysFlows_20 (by decide) ?_
        refine lv_idiv hx hb dX12_laysFlows_22 (by decide) ?_
        refine lv_topi (fun v1320 e1321 => ?_)
        have tv1320 := iv_divp (X := v1309.toInt) (Y := 24) rfl (by decide) e1321 (by decide) (by omega)
        refine lv_aload_n hx hb dX12_laysFlows_23 rfl (lv_at hl 1 rfl) ?_
        refine gmA hx hb hts inT12 hown hK hI List.not_mem_nil hG0 3 (by decide) (hts _ (tb_c wd_1236)) rfl rfl dX12_laysFlows_24 (fun a1322 hq1323 hf1324 => ?_)
        refine lv_bipush (v := 10) hx hb dX12_laysFlows_27 (by decide) ?_
        refine lv_iload_n hx hb dX12_laysFlows_29 rfl (lv_at hl 0 rfl) ?_
        refine lv_bipush (v := 24) hx hb dX12_laysFlows_30 (by decide) ?_
        refine lv_idiv hx hb dX12_laysFlows_32 (by decide) ?_
        refine lv_topi (fun v1325 e1326 => ?_)
        have tv1325 := iv_divp (X := v1309.toInt) (Y := 24) rfl (by decide) e1326 (by decide) (by omega)
        refine lv_iadd hx hb dX12_laysFlows_33 ?_
        refine lv_topi (fun v1327 e1328 => ?_)
        have tv1327 : v1327.toInt = (10) + v1325.toInt := iv_add (by decide) rfl e1328 (by omega) (by omega)
        obtain ⟨F1329, hA1330, hP1331⟩ := om_1 hI hq1323 List.not_mem_nil
        refine th_iald hx hb hK hA1330 0 rfl (iv_in (X := v1327.toInt) rfl (by omega) (by omega)) dX12_laysFlows_34 (fun v1332 e1333 => ?_)
        refine lv_iconst (v := 1) hx hb dX12_laysFlows_35 (by decide) ?_
        have k1334 := iv_lo v1332
        have k1335 := iv_hi v1332
        refine lv_icmp_ne (tgt := 43) hx hb dX12_laysFlows_36 (by decide) (fun c1336 => ?_) (fun c1336 => ?_)
        · skip
          have k1337 := iv_ne (X := v1332.toInt) (Y := (1)) rfl (by decide) c1336
          refine lv_iconst (v := 0) hx hb dX12_laysFlows_43 (by decide) ?_
          refine mx_i (As := [.int v1318, .int v1320, .int 0]) (rest := [.int v1309, .ref a1315]) (n := 3) (d := 67) ⟨hx, hb, hml, hown, hts⟩ (c_X12_flowOf l E D G h0 hG0 v1318 v1320 0 ⟨by decide, by decide⟩) wd_1459 wd_1461 wp_44 wd_13 wd_1462 (by decide +kernel) ⟨by rw [hR]; exact Nat.le_of_ble_eq_true rfl, by rw [hR]; exact Nat.le_of_ble_eq_true rfl⟩ hI hN hK hS hG0 (trivial) rfl hl.1 rfl (Nat.le_of_ble_eq_true rfl) dX12_laysFlows_44 ⟨Nat.zero_le _, Nat.zero_le _⟩ (fun r1338 H locs hI hp hS => ?_)
          obtain ⟨F1339, hA1340⟩ := om_0 hI hq1316 List.not_mem_nil
          refine th_iast hx hb hK hA1340 0 rfl hS ⟨_, hq1316⟩ (iv_in (X := v1309.toInt) rfl (by omega) (by omega)) dX12_laysFlows_47 (fun H locs hA1341 oq hS => ?_)
          have hI := th_I.put hI hq1316 hA1341 ok_m0 oq
          have e1342 : r1338 = (upd F1339 (v1309 : Int32).toNatClampNeg r1338) (v1309 : Int32).toNatClampNeg := rd_us
          obtain ⟨v1343, e1344⟩ : ∃ y : Int32, y = v1309 + (1) := ⟨_, rfl⟩
          have tv1343 : v1343.toInt = v1309.toInt + (1) := iv_add rfl (by decide) e1344 (by omega) (by omega)
          refine lv_iinc (v := v1343) (lv' := [(1, .int v1343), (0, .ref h0)]) hx hb dX12_laysFlows_48 hl (k := 0) rfl (by rw [e1344]; rfl) (by decide) rfl (fun ls hl => ?_)
          refine lv_goto (tgt := 2) hx hb dX12_laysFlows_51 (by decide) ?_
          exact ih_2 _ (by omega) H locs ls v1343  rfl (lv_sub hl [0, 1] rfl) ⟨by omega, by omega⟩ hI hS
        · skip
          have k1345 := iv_eq (X := v1332.toInt) (Y := (1)) rfl (by decide) c1336
          refine lv_iconst (v := 1) hx hb dX12_laysFlows_39 (by decide) ?_
          refine lv_goto (tgt := 44) hx hb dX12_laysFlows_40 (by decide) ?_
          refine mx_i (As := [.int v1318, .int v1320, .int 1]) (rest := [.int v1309, .ref a1315]) (n := 3) (d := 67) ⟨hx, hb, hml, hown, hts⟩ (c_X12_flowOf l E D G h0 hG0 v1318 v1320 1 ⟨by decide, by decide⟩) wd_1459 wd_1461 wp_44 wd_13 wd_1462 (by decide +kernel) ⟨by rw [hR]; exact Nat.le_of_ble_eq_true rfl, by rw [hR]; exact Nat.le_of_ble_eq_true rfl⟩ hI hN hK hS hG0 (trivial) rfl hl.1 rfl (Nat.le_of_ble_eq_true rfl) dX12_laysFlows_44 ⟨Nat.zero_le _, Nat.zero_le _⟩ (fun r1346 H locs hI hp hS => ?_)
          obtain ⟨F1347, hA1348⟩ := om_0 hI hq1316 List.not_mem_nil
          refine th_iast hx hb hK hA1348 0 rfl hS ⟨_, hq1316⟩ (iv_in (X := v1309.toInt) rfl (by omega) (by omega)) dX12_laysFlows_47 (fun H locs hA1349 oq hS => ?_)
          have hI := th_I.put hI hq1316 hA1349 ok_m0 oq
          have e1350 : r1346 = (upd F1347 (v1309 : Int32).toNatClampNeg r1346) (v1309 : Int32).toNatClampNeg := rd_us
          obtain ⟨v1351, e1352⟩ : ∃ y : Int32, y = v1309 + (1) := ⟨_, rfl⟩
          have tv1351 : v1351.toInt = v1309.toInt + (1) := iv_add rfl (by decide) e1352 (by omega) (by omega)
          refine lv_iinc (v := v1351) (lv' := [(1, .int v1351), (0, .ref h0)]) hx hb dX12_laysFlows_48 hl (k := 0) rfl (by rw [e1352]; rfl) (by decide) rfl (fun ls hl => ?_)
          refine lv_goto (tgt := 2) hx hb dX12_laysFlows_51 (by decide) ?_
          exact ih_2 _ (by omega) H locs ls v1351  rfl (lv_sub hl [0, 1] rfl) ⟨by omega, by omega⟩ hI hS
  refine lv_iconst (v := 0) hx hb dX12_laysFlows_0 (by decide) ?_
  refine lv_istore_n (lv' := [(1, .int 0), (0, .ref h0)]) hx hb dX12_laysFlows_1 rfl hl (by decide) rfl (fun ls hl => ?_)
  have zl : (0 : Int32).toInt = 0 := by decide
  exact J_2 _ s.heap [] ls 0  rfl (lv_sub hl [0, 1] rfl) ⟨by decide, by decide⟩ hI hS
theorem dX12_findsBest_0 : decode cX12_findsBest 0 = .ok (.aload_n 0, 1) := by decide +kernel
theorem dX12_findsBest_1 : decode cX12_findsBest 1 = .ok (.getfield 97, 3) := by decide +kernel
theorem dX12_findsBest_4 : decode cX12_findsBest 4 = .ok (.aload_n 0, 1) := by decide +kernel
theorem dX12_findsBest_5 : decode cX12_findsBest 5 = .ok (.getfield 11, 3) := by decide +kernel
theorem dX12_findsBest_8 : decode cX12_findsBest 8 = .ok (.if_icmp .ne 12, 3) := by decide +kernel
theorem dX12_findsBest_11 : decode cX12_findsBest 11 = .ok (.aload_n 0, 1) := by decide +kernel
theorem dX12_findsBest_12 : decode cX12_findsBest 12 = .ok (.getfield 377, 3) := by decide +kernel
theorem dX12_findsBest_15 : decode cX12_findsBest 15 = .ok (.iload_n 1, 1) := by decide +kernel
theorem dX12_findsBest_16 : decode cX12_findsBest 16 = .ok (.if_icmp .ne 4, 3) := by decide +kernel
theorem dX12_findsBest_19 : decode cX12_findsBest 19 = .ok (.return_, 1) := by decide +kernel
theorem dX12_findsBest_20 : decode cX12_findsBest 20 = .ok (.aload_n 0, 1) := by decide +kernel
theorem dX12_findsBest_21 : decode cX12_findsBest 21 = .ok (.invokevirtual 138, 3) := by decide +kernel
theorem dX12_findsBest_24 : decode cX12_findsBest 24 = .ok (.aload_n 0, 1) := by decide +kernel
theorem dX12_findsBest_25 : decode cX12_findsBest 25 = .ok (.aload_n 0, 1) := by decide +kernel
theorem dX12_findsBest_26 : decode cX12_findsBest 26 = .ok (.getfield 11, 3) := by decide +kernel
theorem dX12_findsBest_29 : decode cX12_findsBest 29 = .ok (.putfield 97, 3) := by decide +kernel
theorem dX12_findsBest_32 : decode cX12_findsBest 32 = .ok (.aload_n 0, 1) := by decide +kernel
theorem dX12_findsBest_33 : decode cX12_findsBest 33 = .ok (.iload_n 1, 1) := by decide +kernel
theorem dX12_findsBest_34 : decode cX12_findsBest 34 = .ok (.putfield 377, 3) := by decide +kernel
theorem dX12_findsBest_37 : decode cX12_findsBest 37 = .ok (.aload_n 0, 1) := by decide +kernel
theorem dX12_findsBest_38 : decode cX12_findsBest 38 = .ok (.getfield 20, 3) := by decide +kernel
theorem dX12_findsBest_41 : decode cX12_findsBest 41 = .ok (.iconst 0, 1) := by decide +kernel
theorem dX12_findsBest_42 : decode cX12_findsBest 42 = .ok (.iconst 5, 1) := by decide +kernel
theorem dX12_findsBest_43 : decode cX12_findsBest 43 = .ok (.iload_n 1, 1) := by decide +kernel
theorem dX12_findsBest_44 : decode cX12_findsBest 44 = .ok (.imul, 1) := by decide +kernel
theorem dX12_findsBest_45 : decode cX12_findsBest 45 = .ok (.iadd, 1) := by decide +kernel
theorem dX12_findsBest_46 : decode cX12_findsBest 46 = .ok (.iconst 2, 1) := by decide +kernel
theorem dX12_findsBest_47 : decode cX12_findsBest 47 = .ok (.iadd, 1) := by decide +kernel
theorem dX12_findsBest_48 : decode cX12_findsBest 48 = .ok (.iaload, 1) := by decide +kernel
theorem dX12_findsBest_49 : decode cX12_findsBest 49 = .ok (.istore_n 2, 1) := by decide +kernel
theorem dX12_findsBest_50 : decode cX12_findsBest 50 = .ok (.aload_n 0, 1) := by decide +kernel
theorem dX12_findsBest_51 : decode cX12_findsBest 51 = .ok (.getfield 20, 3) := by decide +kernel
theorem dX12_findsBest_54 : decode cX12_findsBest 54 = .ok (.iconst 0, 1) := by decide +kernel
theorem dX12_findsBest_55 : decode cX12_findsBest 55 = .ok (.iconst 5, 1) := by decide +kernel
theorem dX12_findsBest_56 : decode cX12_findsBest 56 = .ok (.iload_n 1, 1) := by decide +kernel
theorem dX12_findsBest_57 : decode cX12_findsBest 57 = .ok (.imul, 1) := by decide +kernel
theorem dX12_findsBest_58 : decode cX12_findsBest 58 = .ok (.iadd, 1) := by decide +kernel
theorem dX12_findsBest_59 : decode cX12_findsBest 59 = .ok (.iconst 3, 1) := by decide +kernel
theorem dX12_findsBest_60 : decode cX12_findsBest 60 = .ok (.iadd, 1) := by decide +kernel
theorem dX12_findsBest_61 : decode cX12_findsBest 61 = .ok (.iaload, 1) := by decide +kernel
theorem dX12_findsBest_62 : decode cX12_findsBest 62 = .ok (.istore_n 3, 1) := by decide +kernel
theorem dX12_findsBest_63 : decode cX12_findsBest 63 = .ok (.aload_n 0, 1) := by decide +kernel
theorem dX12_findsBest_64 : decode cX12_findsBest 64 = .ok (.iconst (-1), 1) := by decide +kernel
theorem dX12_findsBest_65 : decode cX12_findsBest 65 = .ok (.putfield 380, 3) := by decide +kernel
theorem dX12_findsBest_68 : decode cX12_findsBest 68 = .ok (.iconst 1, 1) := by decide +kernel
theorem dX12_findsBest_69 : decode cX12_findsBest 69 = .ok (.istore 4, 2) := by decide +kernel
theorem dX12_findsBest_71 : decode cX12_findsBest 71 = .ok (.iload 4, 2) := by decide +kernel
theorem dX12_findsBest_73 : decode cX12_findsBest 73 = .ok (.bipush 6, 2) := by decide +kernel
theorem dX12_findsBest_75 : decode cX12_findsBest 75 = .ok (.if_icmp .gt 102, 3) := by decide +kernel
theorem dX12_findsBest_78 : decode cX12_findsBest 78 = .ok (.iconst 0, 1) := by decide +kernel
theorem dX12_findsBest_79 : decode cX12_findsBest 79 = .ok (.istore 5, 2) := by decide +kernel
theorem dX12_findsBest_81 : decode cX12_findsBest 81 = .ok (.iload 5, 2) := by decide +kernel
theorem dX12_findsBest_83 : decode cX12_findsBest 83 = .ok (.bipush 24, 2) := by decide +kernel
theorem dX12_findsBest_85 : decode cX12_findsBest 85 = .ok (.if_icmp .ge 86, 3) := by decide +kernel
theorem dX12_findsBest_88 : decode cX12_findsBest 88 = .ok (.aload_n 0, 1) := by decide +kernel
theorem dX12_findsBest_89 : decode cX12_findsBest 89 = .ok (.getfield 20, 3) := by decide +kernel
theorem dX12_findsBest_92 : decode cX12_findsBest 92 = .ok (.iconst 0, 1) := by decide +kernel
theorem dX12_findsBest_93 : decode cX12_findsBest 93 = .ok (.iconst 5, 1) := by decide +kernel
theorem dX12_findsBest_94 : decode cX12_findsBest 94 = .ok (.iload_n 1, 1) := by decide +kernel
theorem dX12_findsBest_95 : decode cX12_findsBest 95 = .ok (.imul, 1) := by decide +kernel
theorem dX12_findsBest_96 : decode cX12_findsBest 96 = .ok (.iadd, 1) := by decide +kernel
theorem dX12_findsBest_97 : decode cX12_findsBest 97 = .ok (.iconst 2, 1) := by decide +kernel
theorem dX12_findsBest_98 : decode cX12_findsBest 98 = .ok (.iadd, 1) := by decide +kernel
theorem dX12_findsBest_99 : decode cX12_findsBest 99 = .ok (.iload 5, 2) := by decide +kernel
theorem dX12_findsBest_101 : decode cX12_findsBest 101 = .ok (.iastore, 1) := by decide +kernel
theorem dX12_findsBest_102 : decode cX12_findsBest 102 = .ok (.aload_n 0, 1) := by decide +kernel
theorem dX12_findsBest_103 : decode cX12_findsBest 103 = .ok (.getfield 20, 3) := by decide +kernel
theorem dX12_findsBest_106 : decode cX12_findsBest 106 = .ok (.iconst 0, 1) := by decide +kernel
theorem dX12_findsBest_107 : decode cX12_findsBest 107 = .ok (.iconst 5, 1) := by decide +kernel
theorem dX12_findsBest_108 : decode cX12_findsBest 108 = .ok (.iload_n 1, 1) := by decide +kernel
theorem dX12_findsBest_109 : decode cX12_findsBest 109 = .ok (.imul, 1) := by decide +kernel
theorem dX12_findsBest_110 : decode cX12_findsBest 110 = .ok (.iadd, 1) := by decide +kernel
theorem dX12_findsBest_111 : decode cX12_findsBest 111 = .ok (.iconst 3, 1) := by decide +kernel
theorem dX12_findsBest_112 : decode cX12_findsBest 112 = .ok (.iadd, 1) := by decide +kernel
theorem dX12_findsBest_113 : decode cX12_findsBest 113 = .ok (.iload 5, 2) := by decide +kernel
theorem dX12_findsBest_115 : decode cX12_findsBest 115 = .ok (.iload 4, 2) := by decide +kernel
theorem dX12_findsBest_117 : decode cX12_findsBest 117 = .ok (.iadd, 1) := by decide +kernel
theorem dX12_findsBest_118 : decode cX12_findsBest 118 = .ok (.bipush 24, 2) := by decide +kernel
theorem dX12_findsBest_120 : decode cX12_findsBest 120 = .ok (.irem, 1) := by decide +kernel
theorem dX12_findsBest_121 : decode cX12_findsBest 121 = .ok (.iastore, 1) := by decide +kernel
theorem dX12_findsBest_122 : decode cX12_findsBest 122 = .ok (.aload_n 0, 1) := by decide +kernel
theorem dX12_findsBest_123 : decode cX12_findsBest 123 = .ok (.invokevirtual 383, 3) := by decide +kernel
theorem dX12_findsBest_126 : decode cX12_findsBest 126 = .ok (.aload_n 0, 1) := by decide +kernel
theorem dX12_findsBest_127 : decode cX12_findsBest 127 = .ok (.invokevirtual 373, 3) := by decide +kernel
theorem dX12_findsBest_130 : decode cX12_findsBest 130 = .ok (.invokestatic 386, 3) := by decide +kernel
theorem dX12_findsBest_133 : decode cX12_findsBest 133 = .ok (.istore 6, 2) := by decide +kernel
theorem dX12_findsBest_135 : decode cX12_findsBest 135 = .ok (.iload 6, 2) := by decide +kernel
theorem dX12_findsBest_137 : decode cX12_findsBest 137 = .ok (.aload_n 0, 1) := by decide +kernel
theorem dX12_findsBest_138 : decode cX12_findsBest 138 = .ok (.getfield 380, 3) := by decide +kernel
theorem dX12_findsBest_141 : decode cX12_findsBest 141 = .ok (.if_icmp .gt 6, 3) := by decide +kernel
theorem dX12_findsBest_144 : decode cX12_findsBest 144 = .ok (.goto 21, 3) := by decide +kernel
theorem dX12_findsBest_147 : decode cX12_findsBest 147 = .ok (.aload_n 0, 1) := by decide +kernel
theorem dX12_findsBest_148 : decode cX12_findsBest 148 = .ok (.iload 6, 2) := by decide +kernel
theorem dX12_findsBest_150 : decode cX12_findsBest 150 = .ok (.putfield 380, 3) := by decide +kernel
theorem dX12_findsBest_153 : decode cX12_findsBest 153 = .ok (.aload_n 0, 1) := by decide +kernel
theorem dX12_findsBest_154 : decode cX12_findsBest 154 = .ok (.iload 5, 2) := by decide +kernel
theorem dX12_findsBest_156 : decode cX12_findsBest 156 = .ok (.putfield 389, 3) := by decide +kernel
theorem dX12_findsBest_159 : decode cX12_findsBest 159 = .ok (.aload_n 0, 1) := by decide +kernel
theorem dX12_findsBest_160 : decode cX12_findsBest 160 = .ok (.iload 4, 2) := by decide +kernel
theorem dX12_findsBest_162 : decode cX12_findsBest 162 = .ok (.putfield 392, 3) := by decide +kernel
theorem dX12_findsBest_165 : decode cX12_findsBest 165 = .ok (.iinc 5 1, 3) := by decide +kernel
theorem dX12_findsBest_168 : decode cX12_findsBest 168 = .ok (.goto (-87), 3) := by decide +kernel
theorem dX12_findsBest_171 : decode cX12_findsBest 171 = .ok (.iinc 4 1, 3) := by decide +kernel
theorem dX12_findsBest_174 : decode cX12_findsBest 174 = .ok (.goto (-103), 3) := by decide +kernel
theorem dX12_findsBest_177 : decode cX12_findsBest 177 = .ok (.aload_n 0, 1) := by decide +kernel
theorem dX12_findsBest_178 : decode cX12_findsBest 178 = .ok (.getfield 20, 3) := by decide +kernel
theorem dX12_findsBest_181 : decode cX12_findsBest 181 = .ok (.iconst 0, 1) := by decide +kernel
theorem dX12_findsBest_182 : decode cX12_findsBest 182 = .ok (.iconst 5, 1) := by decide +kernel
theorem dX12_findsBest_183 : decode cX12_findsBest 183 = .ok (.iload_n 1, 1) := by decide +kernel
theorem dX12_findsBest_184 : decode cX12_findsBest 184 = .ok (.imul, 1) := by decide +kernel
theorem dX12_findsBest_185 : decode cX12_findsBest 185 = .ok (.iadd, 1) := by decide +kernel
theorem dX12_findsBest_186 : decode cX12_findsBest 186 = .ok (.iconst 2, 1) := by decide +kernel
theorem dX12_findsBest_187 : decode cX12_findsBest 187 = .ok (.iadd, 1) := by decide +kernel
theorem dX12_findsBest_188 : decode cX12_findsBest 188 = .ok (.iload_n 2, 1) := by decide +kernel
theorem dX12_findsBest_189 : decode cX12_findsBest 189 = .ok (.iastore, 1) := by decide +kernel
theorem dX12_findsBest_190 : decode cX12_findsBest 190 = .ok (.aload_n 0, 1) := by decide +kernel
theorem dX12_findsBest_191 : decode cX12_findsBest 191 = .ok (.getfield 20, 3) := by decide +kernel
theorem dX12_findsBest_194 : decode cX12_findsBest 194 = .ok (.iconst 0, 1) := by decide +kernel
theorem dX12_findsBest_195 : decode cX12_findsBest 195 = .ok (.iconst 5, 1) := by decide +kernel
theorem dX12_findsBest_196 : decode cX12_findsBest 196 = .ok (.iload_n 1, 1) := by decide +kernel
theorem dX12_findsBest_197 : decode cX12_findsBest 197 = .ok (.imul, 1) := by decide +kernel
theorem dX12_findsBest_198 : decode cX12_findsBest 198 = .ok (.iadd, 1) := by decide +kernel
theorem dX12_findsBest_199 : decode cX12_findsBest 199 = .ok (.iconst 3, 1) := by decide +kernel
theorem dX12_findsBest_200 : decode cX12_findsBest 200 = .ok (.iadd, 1) := by decide +kernel
theorem dX12_findsBest_201 : decode cX12_findsBest 201 = .ok (.iload_n 3, 1) := by decide +kernel
theorem dX12_findsBest_202 : decode cX12_findsBest 202 = .ok (.iastore, 1) := by decide +kernel
theorem dX12_findsBest_203 : decode cX12_findsBest 203 = .ok (.aload_n 0, 1) := by decide +kernel
theorem dX12_findsBest_204 : decode cX12_findsBest 204 = .ok (.invokevirtual 383, 3) := by decide +kernel
theorem dX12_findsBest_207 : decode cX12_findsBest 207 = .ok (.return_, 1) := by decide +kernel
set_option maxHeartbeats 4000000 in
set_option maxRecDepth 100000 in
theorem c_X12_findsBest (l : Launch) (E : Nat → Nat) (D : va_G) (G : th_G) (h0 : Nat) (hG0 : G h0 = some (10, 0)) (x1 : Int32) (hx1 : (0 : Int) ≤ x1.toInt ∧ x1.toInt ≤ 1) : Met l yX12_findsBest (tb (.code yX12_findsBest cX12_findsBest 7 none)) (rm 69) (va_Pc [.ref h0, .int x1] (PX E D G (fun H => True))) (QXv E D G (fun H => True)) 0 0 (th_A G) := by
  refine Met.ofW (cc := cX12_findsBest) (maxL := 7) (ret := none) (by decide) rfl ?_
  intro p e s m args below meth c s₁ B hml hv
  obtain ⟨hav, ⟨hI, hN, hK⟩, hX⟩ := hv
  have hx := B.exec
  have hb := B.bytes
  have hr := B.returns
  have hts := atoms_spec (ws := tb (.code yX12_findsBest cX12_findsBest 7 none)) B.pre
  have hown : s.vm.findClass RX12 = some m.cls := findClass_of_methodNamed B.named
  have hlocks := B.notSynchronized
  have hS : va_S (th_A G) s.heap s.heap [] := va_S.rf
  have hl := lv_entry ([.ref h0, .int x1]) (n := 7) (Nat.le_of_ble_eq_true rfl)
  rw [show entryFrame m args 7 = entryFrame m ([.ref h0, .int x1] : List Value).toArray 7 from by rw [hav], lg_entry_eq]
  generalize (lg_sl ([.ref h0, .int x1]) ++ List.replicate (7 - (lg_sl ([.ref h0, .int x1])).length) Slot.unset).toArray = ls at hl ⊢
  have hl : lv_has ls 7 [(0, .ref h0), (1, .int x1)] := hl
  generalize hR : (headSpec (tb (.code yX12_findsBest cX12_findsBest 7 none)) (rm 69)).room = R
  have hR := hR.symm
  generalize hQ : MQ below (QXv E D G (fun H => True)) args s 0 0 (th_A G) = QF
  have hQ := hQ.symm
  have J_71 : ∀ (nn : Nat) (H : Heap) (locs : List Loc) (ls : Array Slot) (v5251 : Int32) (v5252 : Int32) (v5253 : Int32) , (Int.toNat (7 - v5251.toInt) = nn) → lv_has ls 7 [(4, .int v5251), (3, .int v5252), (2, .int v5253), (0, .ref h0), (1, .int x1)] → ((1 : Int) ≤ v5251.toInt ∧ v5251.toInt ≤ 7) → ((0 : Int) ≤ x1.toInt ∧ x1.toInt ≤ 1) → th_I (okM E) D G [] H → va_S (th_A G) s.heap H locs → W p l e R s m args below meth c H locs 0 0 QF (F0 m 71 ls []) := by
    intro nn
    induction nn using Nat.strongRecOn with
    | ind nn ih_71 =>
      intro H locs ls v5251 v5252 v5253  hm hl k5254 k5255 hI hS
      have J_81 : ∀ (nn : Nat) (H : Heap) (locs : List Loc) (ls : Array Slot) (v5256 : Int32) , (Int.toNat (24 - v5256.toInt) = nn) → lv_has ls 7 [(5, .int v5256), (4, .int v5251), (3, .int v5252), (2, .int v5253), (0, .ref h0), (1, .int x1)] → ((0 : Int) ≤ v5256.toInt ∧ v5256.toInt ≤ 24) → ((1 : Int) ≤ v5251.toInt ∧ v5251.toInt ≤ 6) → th_I (okM E) D G [] H → va_S (th_A G) s.heap H locs → W p l e R s m args below meth c H locs 0 0 QF (F0 m 81 ls []) := by
        intro nn
        induction nn using Nat.strongRecOn with
        | ind nn ih_81 =>
          intro H locs ls v5256  hm hl k5260 k5261 hI hS
          have J_165 : ∀ (H : Heap) (locs : List Loc) (ls : Array Slot) (v5262 : Int32) , lv_has ls 7 [(6, .int v5262), (5, .int v5256), (4, .int v5251), (3, .int v5252), (2, .int v5253), (0, .ref h0), (1, .int x1)] → ((0 : Int) ≤ v5256.toInt ∧ v5256.toInt ≤ 23) → th_I (okM E) D G [] H → va_S (th_A G) s.heap H locs → W p l e R s m args below meth c H locs 0 0 QF (F0 m 165 ls []) := by
            intro H locs ls v5262  hl k5267 hI hS
            obtain ⟨v5268, e5269⟩ : ∃ y : Int32, y = v5256 + (1) := ⟨_, rfl⟩
            have tv5268 : v5268.toInt = v5256.toInt + (1) := iv_add rfl (by decide) e5269 (by omega) (by omega)
            refine lv_iinc (v := v5268) (lv' := [(5, .int v5268), (6, .int v5262), (4, .int v5251), (3, .int v5252), (2, .int v5253), (0, .ref h0), (1, .int x1)]) hx hb dX12_findsBest_165 hl (k := 1) rfl (by rw [e5269]; rfl) (by decide) rfl (fun ls hl => ?_)
            refine lv_goto (tgt := 81) hx hb dX12_findsBest_168 (by decide) ?_
            exact ih_81 _ (by omega) H locs ls v5268  rfl (lv_sub hl [0, 2, 3, 4, 5, 6] rfl) ⟨by omega, by omega⟩ ⟨by omega, by omega⟩ hI hS
          refine lv_iload hx hb dX12_findsBest_81 (lv_at hl 0 rfl) ?_
          refine lv_bipush (v := 24) hx hb dX12_findsBest_83 (by decide) ?_
          refine lv_icmp_ge (tgt := 171) hx hb dX12_findsBest_85 (by decide) (fun c5270 => ?_) (fun c5270 => ?_)
          · skip
            have k5271 := iv_le (X := (24)) (Y := v5256.toInt) (by decide) rfl c5270
            obtain ⟨v5272, e5273⟩ : ∃ y : Int32, y = v5251 + (1) := ⟨_, rfl⟩
            have tv5272 : v5272.toInt = v5251.toInt + (1) := iv_add rfl (by decide) e5273 (by omega) (by omega)
            refine lv_iinc (v := v5272) (lv' := [(4, .int v5272), (5, .int v5256), (3, .int v5252), (2, .int v5253), (0, .ref h0), (1, .int x1)]) hx hb dX12_findsBest_171 hl (k := 1) rfl (by rw [e5273]; rfl) (by decide) rfl (fun ls hl => ?_)
            refine lv_goto (tgt := 71) hx hb dX12_findsBest_174 (by decide) ?_
            exact ih_71 _ (by omega) H locs ls v5272 v5252 v5253  rfl (lv_sub hl [0, 2, 3, 4, 5] rfl) ⟨by omega, by omega⟩ ⟨by omega, by omega⟩ hI hS
          · skip
            have k5274 := iv_nle (X := (24)) (Y := v5256.toInt) (by decide) rfl c5270
            refine lv_aload_n hx hb dX12_findsBest_88 rfl (lv_at hl 4 rfl) ?_
            refine gmA hx hb hts inT12 hown hK hI List.not_mem_nil hG0 3 (by decide) (hts _ (tb_c wd_1236)) rfl rfl dX12_findsBest_89 (fun a5275 hq5276 hf5277 => ?_)
            refine lv_iconst (v := 0) hx hb dX12_findsBest_92 (by decide) ?_
            refine lv_iconst (v := 5) hx hb dX12_findsBest_93 (by decide) ?_
            refine lv_iload_n hx hb dX12_findsBest_94 rfl (lv_at hl 5 rfl) ?_
            refine lv_imul hx hb dX12_findsBest_95 ?_
            refine lv_topi (fun v5278 e5279 => ?_)
            have tv5278 : v5278.toInt = (5) * x1.toInt := iv_mul (by decide) rfl e5279 (by omega) (by omega)
            refine lv_iadd hx hb dX12_findsBest_96 ?_
            refine lv_topi (fun v5280 e5281 => ?_)
            have tv5280 : v5280.toInt = (0) + v5278.toInt := iv_add (by decide) rfl e5281 (by omega) (by omega)
            refine lv_iconst (v := 2) hx hb dX12_findsBest_97 (by decide) ?_
            refine lv_iadd hx hb dX12_findsBest_98 ?_
            refine lv_topi (fun v5282 e5283 => ?_)
            have tv5282 : v5282.toInt = v5280.toInt + (2) := iv_add rfl (by decide) e5283 (by omega) (by omega)
            refine lv_iload hx hb dX12_findsBest_99 (lv_at hl 0 rfl) ?_
            obtain ⟨F5284, hA5285, hP5286⟩ := om_1 hI hq5276 List.not_mem_nil
            refine th_iast hx hb hK hA5285 0 rfl hS ⟨_, hq5276⟩ (iv_in (X := v5282.toInt) rfl (by omega) (by omega)) dX12_findsBest_101 (fun H locs hA5287 oq hS => ?_)
            have hP5288 := kOk.set (i := v5282) (v := v5256) hP5286 (X := v5282.toInt) (V := v5256.toInt) rfl rfl (by omega) (by omega) (ks_pumps (by omega) (by omega) (by omega))
            have hI := th_I.put hI hq5276 hA5287 (ok_m1 hP5288) oq
            have hf5277 := fr.arr hG0 hq5276 (by decide) oq hf5277
            have e5289 : v5256 = (upd F5284 (v5282 : Int32).toNatClampNeg v5256) (v5282 : Int32).toNatClampNeg := rd_us
            refine lv_aload_n hx hb dX12_findsBest_102 rfl (lv_at hl 4 rfl) ?_
            refine gmA hx hb hts inT12 hown hK hI List.not_mem_nil hG0 3 (by decide) (hts _ (tb_c wd_1236)) rfl rfl dX12_findsBest_103 (fun a5290 hq5291 hf5292 => ?_)
            obtain rfl := fr.uniq (by decide) hf5277 hf5292
            refine lv_iconst (v := 0) hx hb dX12_findsBest_106 (by decide) ?_
            refine lv_iconst (v := 5) hx hb dX12_findsBest_107 (by decide) ?_
            refine lv_iload_n hx hb dX12_findsBest_108 rfl (lv_at hl 5 rfl) ?_
            refine lv_imul hx hb dX12_findsBest_109 ?_
            refine lv_topi (fun v5293 e5294 => ?_)
            have tv5293 : v5293.toInt = (5) * x1.toInt := iv_mul (by decide) rfl e5294 (by omega) (by omega)
            refine lv_iadd hx hb dX12_findsBest_110 ?_
            refine lv_topi (fun v5295 e5296 => ?_)
            have tv5295 : v5295.toInt = (0) + v5293.toInt := iv_add (by decide) rfl e5296 (by omega) (by omega)
            refine lv_iconst (v := 3) hx hb dX12_findsBest_111 (by decide) ?_
            refine lv_iadd hx hb dX12_findsBest_112 ?_
            refine lv_topi (fun v5297 e5298 => ?_)
            have tv5297 : v5297.toInt = v5295.toInt + (3) := iv_add rfl (by decide) e5298 (by omega) (by omega)
            refine lv_iload hx hb dX12_findsBest_113 (lv_at hl 0 rfl) ?_
            refine lv_iload hx hb dX12_findsBest_115 (lv_at hl 1 rfl) ?_
            refine lv_iadd hx hb dX12_findsBest_117 ?_
            refine lv_topi (fun v5299 e5300 => ?_)
            have tv5299 : v5299.toInt = v5256.toInt + v5251.toInt := iv_add rfl rfl e5300 (by omega) (by omega)
            refine lv_bipush (v := 24) hx hb dX12_findsBest_118 (by decide) ?_
            refine lv_irem hx hb dX12_findsBest_120 (by decide) ?_
            refine lv_topi (fun v5301 e5302 => ?_)
            have tv5301 := iv_remp (X := v5299.toInt) (Y := 24) rfl (by decide) e5302 (by decide) (by omega)
            refine th_iast hx hb hK hA5287 0 rfl hS ⟨_, hq5276⟩ (iv_in (X := v5297.toInt) rfl (by omega) (by omega)) dX12_findsBest_121 (fun H locs hA5303 oq hS => ?_)
            have hP5304 := kOk.set (i := v5297) (v := v5301) hP5288 (X := v5297.toInt) (V := v5301.toInt) rfl rfl (by omega) (by omega) (ks_pumps (by omega) (by omega) (by omega))
            have hI := th_I.put hI hq5276 hA5303 (ok_m1 hP5304) oq
            have hf5277 := fr.arr hG0 hq5276 (by decide) oq hf5277
            have e5305 := rd_un (i := v5282) (j := v5297) (v := v5301) e5289 (X := v5282.toInt) (Y := v5297.toInt) rfl rfl (by omega) (by omega) (by omega)
            have e5306 : v5301 = (upd (upd F5284 (v5282 : Int32).toNatClampNeg v5256) (v5297 : Int32).toNatClampNeg v5301) (v5297 : Int32).toNatClampNeg := rd_us
            refine lv_aload_n hx hb dX12_findsBest_122 rfl (lv_at hl 4 rfl) ?_
            refine mx_v (As := []) (rest := []) (n := 0) (d := 68) ⟨hx, hb, hml, hown, hts⟩ (c_X12_laysFlows l E D G h0 hG0 ) wd_1836 wd_1838 wp_93 wd_13 wd_1839 (by decide +kernel) ⟨by rw [hR]; exact Nat.le_of_ble_eq_true rfl, by rw [hR]; exact Nat.le_of_ble_eq_true rfl⟩ hI hN hK hS hG0 (trivial) rfl hl.1 rfl (Nat.le_of_ble_eq_true rfl) dX12_findsBest_123 ⟨Nat.zero_le _, Nat.zero_le _⟩ (fun H locs hI hp hS => ?_)
            refine lv_aload_n hx hb dX12_findsBest_126 rfl (lv_at hl 4 rfl) ?_
            refine mr_i (As := []) (rest := []) (n := 0) (d := 1) ⟨hx, hb, hml, hown, hts⟩ (c_X12_grants l E D G H h0 hG0 ) wd_1824 wd_1826 wp_91 wd_13 wd_1827 (by decide +kernel) ⟨by rw [hR]; exact Nat.le_of_ble_eq_true rfl, by rw [hR]; exact Nat.le_of_ble_eq_true rfl⟩ hI hN hK hS hG0 rfl hl.1 rfl (Nat.le_of_ble_eq_true rfl) dX12_findsBest_127 ⟨Nat.zero_le _, Nat.zero_le _⟩ (fun r5308 locs hp hS => ?_)
            refine th_cSs (As := [.int r5308]) (rest := []) (n := 1) (d := 0) ⟨hx, hb, hml, hown, hts⟩ (c_X12_ones l H r5308) wd_1840 wd_1841 wd_13 wd_1842 (by decide +kernel) ⟨by rw [hR]; exact Nat.le_of_ble_eq_true rfl, by rw [hR]; exact Nat.le_of_ble_eq_true rfl⟩ hN hS rfl hl.1 rfl (Nat.le_of_ble_eq_true rfl) dX12_findsBest_130 ⟨Nat.zero_le _, Nat.zero_le _⟩ (fun r5309 locs hp hS => ?_)
            refine lv_istore (lv' := [(6, .int r5309), (5, .int v5256), (4, .int v5251), (3, .int v5252), (2, .int v5253), (0, .ref h0), (1, .int x1)]) hx hb dX12_findsBest_133 hl (by decide) rfl (fun ls hl => ?_)
            refine lv_iload hx hb dX12_findsBest_135 (lv_at hl 0 rfl) ?_
            refine lv_aload_n hx hb dX12_findsBest_137 rfl (lv_at hl 5 rfl) ?_
            refine gmI hx hb hts inT12 hown hK hI List.not_mem_nil hG0 44 (by decide) (hts _ (tb_c wd_1277)) rfl rfl dX12_findsBest_138 (fun w5310 hg5311 k5312 k5313 => ?_)
            have k5314 := iv_lo r5309
            have k5315 := iv_hi r5309
            refine lv_icmp_gt (tgt := 147) hx hb dX12_findsBest_141 (by decide) (fun c5316 => ?_) (fun c5316 => ?_)
            · skip
              have k5317 := iv_lt (X := w5310.toInt) (Y := r5309.toInt) rfl rfl c5316
              refine lv_aload_n hx hb dX12_findsBest_147 rfl (lv_at hl 5 rfl) ?_
              refine lv_iload hx hb dX12_findsBest_148 (lv_at hl 0 rfl) ?_
              refine pmI (ty := .int) hx hb hts inT12 hown hK hI List.not_mem_nil hG0 hS ⟨_, hG0⟩ 44 (by decide) (hts _ (tb_c wd_1277)) rfl rfl (by decide +kernel) rfl rfl rfl (by omega) (by omega) dX12_findsBest_150 (fun H locs hI hgP hS => ?_)
              have hg5318 := hgP.2.1
              refine lv_aload_n hx hb dX12_findsBest_153 rfl (lv_at hl 5 rfl) ?_
              refine lv_iload hx hb dX12_findsBest_154 (lv_at hl 1 rfl) ?_
              refine pmI (ty := .int) hx hb hts inT12 hown hK hI List.not_mem_nil hG0 hS ⟨_, hG0⟩ 45 (by decide) (hts _ (tb_c wd_1278)) rfl rfl (by decide +kernel) rfl rfl rfl (by omega) (by omega) dX12_findsBest_156 (fun H locs hI hgP hS => ?_)
              have hg5318 := hgP.2.2.1 44 _ (by decide) (by decide) hg5318
              have hg5319 := hgP.2.1
              refine lv_aload_n hx hb dX12_findsBest_159 rfl (lv_at hl 5 rfl) ?_
              refine lv_iload hx hb dX12_findsBest_160 (lv_at hl 2 rfl) ?_
              refine pmI (ty := .int) hx hb hts inT12 hown hK hI List.not_mem_nil hG0 hS ⟨_, hG0⟩ 46 (by decide) (hts _ (tb_c wd_1279)) rfl rfl (by decide +kernel) rfl rfl rfl (by omega) (by omega) dX12_findsBest_162 (fun H locs hI hgP hS => ?_)
              have hg5318 := hgP.2.2.1 44 _ (by decide) (by decide) hg5318
              have hg5319 := hgP.2.2.1 45 _ (by decide) (by decide) hg5319
              have hg5320 := hgP.2.1
              exact J_165 H locs ls r5309  (lv_sub hl [0, 1, 2, 3, 4, 5, 6] rfl) ⟨by omega, by omega⟩ hI hS
            · skip
              have k5321 := iv_nlt (X := w5310.toInt) (Y := r5309.toInt) rfl rfl c5316
              refine lv_goto (tgt := 165) hx hb dX12_findsBest_144 (by decide) ?_
              exact J_165 H locs ls r5309  (lv_sub hl [0, 1, 2, 3, 4, 5, 6] rfl) ⟨by omega, by omega⟩ hI hS
      refine lv_iload hx hb dX12_findsBest_71 (lv_at hl 0 rfl) ?_
      refine lv_bipush (v := 6) hx hb dX12_findsBest_73 (by decide) ?_
      refine lv_icmp_gt (tgt := 177) hx hb dX12_findsBest_75 (by decide) (fun c5322 => ?_) (fun c5322 => ?_)
      · skip
        have k5323 := iv_lt (X := (6)) (Y := v5251.toInt) (by decide) rfl c5322
        refine lv_aload_n hx hb dX12_findsBest_177 rfl (lv_at hl 3 rfl) ?_
        refine gmA hx hb hts inT12 hown hK hI List.not_mem_nil hG0 3 (by decide) (hts _ (tb_c wd_1236)) rfl rfl dX12_findsBest_178 (fun a5324 hq5325 hf5326 => ?_)
        refine lv_iconst (v := 0) hx hb dX12_findsBest_181 (by decide) ?_
        refine lv_iconst (v := 5) hx hb dX12_findsBest_182 (by decide) ?_
        refine lv_iload_n hx hb dX12_findsBest_183 rfl (lv_at hl 4 rfl) ?_
        refine lv_imul hx hb dX12_findsBest_184 ?_
        refine lv_topi (fun v5327 e5328 => ?_)
        have tv5327 : v5327.toInt = (5) * x1.toInt := iv_mul (by decide) rfl e5328 (by omega) (by omega)
        refine lv_iadd hx hb dX12_findsBest_185 ?_
        refine lv_topi (fun v5329 e5330 => ?_)
        have tv5329 : v5329.toInt = (0) + v5327.toInt := iv_add (by decide) rfl e5330 (by omega) (by omega)
        refine lv_iconst (v := 2) hx hb dX12_findsBest_186 (by decide) ?_
        refine lv_iadd hx hb dX12_findsBest_187 ?_
        refine lv_topi (fun v5331 e5332 => ?_)
        have tv5331 : v5331.toInt = v5329.toInt + (2) := iv_add rfl (by decide) e5332 (by omega) (by omega)
        refine lv_iload_n hx hb dX12_findsBest_188 rfl (lv_at hl 2 rfl) ?_
        obtain ⟨F5333, hA5334, hP5335⟩ := om_1 hI hq5325 List.not_mem_nil
        refine th_iast hx hb hK hA5334 0 rfl hS ⟨_, hq5325⟩ (iv_in (X := v5331.toInt) rfl (by omega) (by omega)) dX12_findsBest_189 (fun H locs hA5336 oq hS => ?_)
        have k5337 := iv_lo v5253
        have k5338 := iv_hi v5253
        have hP5339 := kOk.set (i := v5331) (v := v5253) hP5335 (X := v5331.toInt) (V := v5253.toInt) rfl rfl (by omega) (by omega) (ks_pumps (by omega) (by omega) (by omega))
        have hI := th_I.put hI hq5325 hA5336 (ok_m1 hP5339) oq
        have hf5326 := fr.arr hG0 hq5325 (by decide) oq hf5326
        have e5340 : v5253 = (upd F5333 (v5331 : Int32).toNatClampNeg v5253) (v5331 : Int32).toNatClampNeg := rd_us
        refine lv_aload_n hx hb dX12_findsBest_190 rfl (lv_at hl 3 rfl) ?_
        refine gmA hx hb hts inT12 hown hK hI List.not_mem_nil hG0 3 (by decide) (hts _ (tb_c wd_1236)) rfl rfl dX12_findsBest_191 (fun a5341 hq5342 hf5343 => ?_)
        obtain rfl := fr.uniq (by decide) hf5326 hf5343
        refine lv_iconst (v := 0) hx hb dX12_findsBest_194 (by decide) ?_
        refine lv_iconst (v := 5) hx hb dX12_findsBest_195 (by decide) ?_
        refine lv_iload_n hx hb dX12_findsBest_196 rfl (lv_at hl 4 rfl) ?_
        refine lv_imul hx hb dX12_findsBest_197 ?_
        refine lv_topi (fun v5344 e5345 => ?_)
        have tv5344 : v5344.toInt = (5) * x1.toInt := iv_mul (by decide) rfl e5345 (by omega) (by omega)
        refine lv_iadd hx hb dX12_findsBest_198 ?_
        refine lv_topi (fun v5346 e5347 => ?_)
        have tv5346 : v5346.toInt = (0) + v5344.toInt := iv_add (by decide) rfl e5347 (by omega) (by omega)
        refine lv_iconst (v := 3) hx hb dX12_findsBest_199 (by decide) ?_
        refine lv_iadd hx hb dX12_findsBest_200 ?_
        refine lv_topi (fun v5348 e5349 => ?_)
        have tv5348 : v5348.toInt = v5346.toInt + (3) := iv_add rfl (by decide) e5349 (by omega) (by omega)
        refine lv_iload_n hx hb dX12_findsBest_201 rfl (lv_at hl 1 rfl) ?_
        refine th_iast hx hb hK hA5336 0 rfl hS ⟨_, hq5325⟩ (iv_in (X := v5348.toInt) rfl (by omega) (by omega)) dX12_findsBest_202 (fun H locs hA5350 oq hS => ?_)
        have k5351 := iv_lo v5252
        have k5352 := iv_hi v5252
        have hP5353 := kOk.set (i := v5348) (v := v5252) hP5339 (X := v5348.toInt) (V := v5252.toInt) rfl rfl (by omega) (by omega) (ks_pumps (by omega) (by omega) (by omega))
        have hI := th_I.put hI hq5325 hA5350 (ok_m1 hP5353) oq
        have hf5326 := fr.arr hG0 hq5325 (by decide) oq hf5326
        have e5354 := rd_un (i := v5331) (j := v5348) (v := v5252) e5340 (X := v5331.toInt) (Y := v5348.toInt) rfl rfl (by omega) (by omega) (by omega)
        have e5355 : v5252 = (upd (upd F5333 (v5331 : Int32).toNatClampNeg v5253) (v5348 : Int32).toNatClampNeg v5252) (v5348 : Int32).toNatClampNeg := rd_us
        refine lv_aload_n hx hb dX12_findsBest_203 rfl (lv_at hl 3 rfl) ?_
        refine mx_v (As := []) (rest := []) (n := 0) (d := 68) ⟨hx, hb, hml, hown, hts⟩ (c_X12_laysFlows l E D G h0 hG0 ) wd_1836 wd_1838 wp_93 wd_13 wd_1839 (by decide +kernel) ⟨by rw [hR]; exact Nat.le_of_ble_eq_true rfl, by rw [hR]; exact Nat.le_of_ble_eq_true rfl⟩ hI hN hK hS hG0 (trivial) rfl hl.1 rfl (Nat.le_of_ble_eq_true rfl) dX12_findsBest_204 ⟨Nat.zero_le _, Nat.zero_le _⟩ (fun H locs hI hp hS => ?_)
        have hpost : True := trivial
        rw [hQ]
        exact W.vret hx hb hr (fun t ht hW => ⟨⟨(), rfl, trivial, ⟨by rw [ht]; exact hI, hN.warm hW, va_K.moved hW.alike hK⟩, by first | (rw [ht]; exact hpost) | exact hpost⟩, hS.F ht⟩) hS.2.2 dX12_findsBest_207
      · skip
        have k5357 := iv_nlt (X := (6)) (Y := v5251.toInt) (by decide) rfl c5322
        refine lv_iconst (v := 0) hx hb dX12_findsBest_78 (by decide) ?_
        refine lv_istore (lv' := [(5, .int 0), (4, .int v5251), (3, .int v5252), (2, .int v5253), (0, .ref h0), (1, .int x1)]) hx hb dX12_findsBest_79 hl (by decide) rfl (fun ls hl => ?_)
        have zl : (0 : Int32).toInt = 0 := by decide
        exact J_81 _ H locs ls 0  rfl (lv_sub hl [0, 1, 2, 3, 4, 5] rfl) ⟨by decide, by decide⟩ ⟨by omega, by omega⟩ hI hS
  have J_20 : ∀ (H : Heap) (locs : List Loc) (ls : Array Slot)  , lv_has ls 7 [(0, .ref h0), (1, .int x1)] → ((0 : Int) ≤ x1.toInt ∧ x1.toInt ≤ 1) → th_I (okM E) D G [] H → va_S (th_A G) s.heap H locs → W p l e R s m args below meth c H locs 0 0 QF (F0 m 20 ls []) := by
    intro H locs ls   hl k5358 hI hS
    refine lv_aload_n hx hb dX12_findsBest_20 rfl (lv_at hl 0 rfl) ?_
    refine mx_v (As := []) (rest := []) (n := 0) (d := 68) ⟨hx, hb, hml, hown, hts⟩ (c_X12_looks l E D G h0 hG0 ) wd_1455 wd_1457 wp_43 wd_13 wd_1458 (by decide +kernel) ⟨by rw [hR]; exact Nat.le_of_ble_eq_true rfl, by rw [hR]; exact Nat.le_of_ble_eq_true rfl⟩ hI hN hK hS hG0 (trivial) rfl hl.1 rfl (Nat.le_of_ble_eq_true rfl) dX12_findsBest_21 ⟨Nat.zero_le _, Nat.zero_le _⟩ (fun H locs hI hp hS => ?_)
    refine lv_aload_n hx hb dX12_findsBest_24 rfl (lv_at hl 0 rfl) ?_
    refine lv_aload_n hx hb dX12_findsBest_25 rfl (lv_at hl 0 rfl) ?_
    refine gmI hx hb hts inT12 hown hK hI List.not_mem_nil hG0 1 (by decide) (hts _ (tb_c wd_1234)) rfl rfl dX12_findsBest_26 (fun w5360 hg5361 k5362 k5363 => ?_)
    refine pmI (ty := .int) hx hb hts inT12 hown hK hI List.not_mem_nil hG0 hS ⟨_, hG0⟩ 47 (by decide) (hts _ (tb_c wd_1280)) rfl rfl (by decide +kernel) rfl rfl rfl (by omega) (by omega) dX12_findsBest_29 (fun H locs hI hgP hS => ?_)
    have hg5361 := hgP.2.2.1 1 _ (by decide) (by decide) hg5361
    have hg5364 := hgP.2.1
    refine lv_aload_n hx hb dX12_findsBest_32 rfl (lv_at hl 0 rfl) ?_
    refine lv_iload_n hx hb dX12_findsBest_33 rfl (lv_at hl 1 rfl) ?_
    refine pmI (ty := .int) hx hb hts inT12 hown hK hI List.not_mem_nil hG0 hS ⟨_, hG0⟩ 48 (by decide) (hts _ (tb_c wd_1281)) rfl rfl (by decide +kernel) rfl rfl rfl (by omega) (by omega) dX12_findsBest_34 (fun H locs hI hgP hS => ?_)
    have hg5361 := hgP.2.2.1 1 _ (by decide) (by decide) hg5361
    have hg5364 := hgP.2.2.1 47 _ (by decide) (by decide) hg5364
    have hg5365 := hgP.2.1
    refine lv_aload_n hx hb dX12_findsBest_37 rfl (lv_at hl 0 rfl) ?_
    refine gmA hx hb hts inT12 hown hK hI List.not_mem_nil hG0 3 (by decide) (hts _ (tb_c wd_1236)) rfl rfl dX12_findsBest_38 (fun a5366 hq5367 hf5368 => ?_)
    refine lv_iconst (v := 0) hx hb dX12_findsBest_41 (by decide) ?_
    refine lv_iconst (v := 5) hx hb dX12_findsBest_42 (by decide) ?_
    refine lv_iload_n hx hb dX12_findsBest_43 rfl (lv_at hl 1 rfl) ?_
    refine lv_imul hx hb dX12_findsBest_44 ?_
    refine lv_topi (fun v5369 e5370 => ?_)
    have tv5369 : v5369.toInt = (5) * x1.toInt := iv_mul (by decide) rfl e5370 (by omega) (by omega)
    refine lv_iadd hx hb dX12_findsBest_45 ?_
    refine lv_topi (fun v5371 e5372 => ?_)
    have tv5371 : v5371.toInt = (0) + v5369.toInt := iv_add (by decide) rfl e5372 (by omega) (by omega)
    refine lv_iconst (v := 2) hx hb dX12_findsBest_46 (by decide) ?_
    refine lv_iadd hx hb dX12_findsBest_47 ?_
    refine lv_topi (fun v5373 e5374 => ?_)
    have tv5373 : v5373.toInt = v5371.toInt + (2) := iv_add rfl (by decide) e5374 (by omega) (by omega)
    obtain ⟨F5375, hA5376, hP5377⟩ := om_1 hI hq5367 List.not_mem_nil
    refine th_iald hx hb hK hA5376 0 rfl (iv_in (X := v5373.toInt) rfl (by omega) (by omega)) dX12_findsBest_48 (fun v5378 e5379 => ?_)
    refine lv_istore_n (lv' := [(2, .int v5378), (0, .ref h0), (1, .int x1)]) hx hb dX12_findsBest_49 rfl hl (by decide) rfl (fun ls hl => ?_)
    refine lv_aload_n hx hb dX12_findsBest_50 rfl (lv_at hl 1 rfl) ?_
    refine gmA hx hb hts inT12 hown hK hI List.not_mem_nil hG0 3 (by decide) (hts _ (tb_c wd_1236)) rfl rfl dX12_findsBest_51 (fun a5380 hq5381 hf5382 => ?_)
    obtain rfl := fr.uniq (by decide) hf5368 hf5382
    refine lv_iconst (v := 0) hx hb dX12_findsBest_54 (by decide) ?_
    refine lv_iconst (v := 5) hx hb dX12_findsBest_55 (by decide) ?_
    refine lv_iload_n hx hb dX12_findsBest_56 rfl (lv_at hl 2 rfl) ?_
    refine lv_imul hx hb dX12_findsBest_57 ?_
    refine lv_topi (fun v5383 e5384 => ?_)
    have tv5383 : v5383.toInt = (5) * x1.toInt := iv_mul (by decide) rfl e5384 (by omega) (by omega)
    refine lv_iadd hx hb dX12_findsBest_58 ?_
    refine lv_topi (fun v5385 e5386 => ?_)
    have tv5385 : v5385.toInt = (0) + v5383.toInt := iv_add (by decide) rfl e5386 (by omega) (by omega)
    refine lv_iconst (v := 3) hx hb dX12_findsBest_59 (by decide) ?_
    refine lv_iadd hx hb dX12_findsBest_60 ?_
    refine lv_topi (fun v5387 e5388 => ?_)
    have tv5387 : v5387.toInt = v5385.toInt + (3) := iv_add rfl (by decide) e5388 (by omega) (by omega)
    refine th_iald hx hb hK hA5376 0 rfl (iv_in (X := v5387.toInt) rfl (by omega) (by omega)) dX12_findsBest_61 (fun v5389 e5390 => ?_)
    refine lv_istore_n (lv' := [(3, .int v5389), (2, .int v5378), (0, .ref h0), (1, .int x1)]) hx hb dX12_findsBest_62 rfl hl (by decide) rfl (fun ls hl => ?_)
    refine lv_aload_n hx hb dX12_findsBest_63 rfl (lv_at hl 2 rfl) ?_
    refine lv_iconst (v := (-1)) hx hb dX12_findsBest_64 (by decide) ?_
    refine pmI (ty := .int) hx hb hts inT12 hown hK hI List.not_mem_nil hG0 hS ⟨_, hG0⟩ 44 (by decide) (hts _ (tb_c wd_1277)) rfl rfl (by decide +kernel) rfl rfl rfl (by decide) (by decide) dX12_findsBest_65 (fun H locs hI hgP hS => ?_)
    have hg5361 := hgP.2.2.1 1 _ (by decide) (by decide) hg5361
    have hg5364 := hgP.2.2.1 47 _ (by decide) (by decide) hg5364
    have hg5365 := hgP.2.2.1 48 _ (by decide) (by decide) hg5365
    have hg5391 := hgP.2.1
    have hf5368 := hgP.2.2.2 3 _ (by decide) (by decide) hf5368
    have hA5376 := va_at.kept hA5376 (hgP.1 _ (m_ne hq5367 hG0 (by first | decide | (dsimp only; decide))))
    refine lv_iconst (v := 1) hx hb dX12_findsBest_68 (by decide) ?_
    refine lv_istore (lv' := [(4, .int 1), (3, .int v5389), (2, .int v5378), (0, .ref h0), (1, .int x1)]) hx hb dX12_findsBest_69 hl (by decide) rfl (fun ls hl => ?_)
    have zl : (1 : Int32).toInt = 1 := by decide
    exact J_71 _ H locs ls 1 v5389 v5378  rfl (lv_sub hl [0, 1, 2, 3, 4] rfl) ⟨by decide, by decide⟩ ⟨by omega, by omega⟩ hI hS
  refine lv_aload_n hx hb dX12_findsBest_0 rfl (lv_at hl 0 rfl) ?_
  refine gmI hx hb hts inT12 hown hK hI List.not_mem_nil hG0 47 (by decide) (hts _ (tb_c wd_1280)) rfl rfl dX12_findsBest_1 (fun w5392 hg5393 k5394 k5395 => ?_)
  refine lv_aload_n hx hb dX12_findsBest_4 rfl (lv_at hl 0 rfl) ?_
  refine gmI hx hb hts inT12 hown hK hI List.not_mem_nil hG0 1 (by decide) (hts _ (tb_c wd_1234)) rfl rfl dX12_findsBest_5 (fun w5396 hg5397 k5398 k5399 => ?_)
  refine lv_icmp_ne (tgt := 20) hx hb dX12_findsBest_8 (by decide) (fun c5400 => ?_) (fun c5400 => ?_)
  · skip
    have k5401 := iv_ne (X := w5392.toInt) (Y := w5396.toInt) rfl rfl c5400
    exact J_20 s.heap [] ls   (lv_sub hl [0, 1] rfl) ⟨by omega, by omega⟩ hI hS
  · skip
    have k5402 := iv_eq (X := w5392.toInt) (Y := w5396.toInt) rfl rfl c5400
    refine lv_aload_n hx hb dX12_findsBest_11 rfl (lv_at hl 0 rfl) ?_
    refine gmI hx hb hts inT12 hown hK hI List.not_mem_nil hG0 48 (by decide) (hts _ (tb_c wd_1281)) rfl rfl dX12_findsBest_12 (fun w5403 hg5404 k5405 k5406 => ?_)
    refine lv_iload_n hx hb dX12_findsBest_15 rfl (lv_at hl 1 rfl) ?_
    refine lv_icmp_ne (tgt := 20) hx hb dX12_findsBest_16 (by decide) (fun c5407 => ?_) (fun c5407 => ?_)
    · skip
      have k5408 := iv_ne (X := w5403.toInt) (Y := x1.toInt) rfl rfl c5407
      exact J_20 s.heap [] ls   (lv_sub hl [0, 1] rfl) ⟨by omega, by omega⟩ hI hS
    · skip
      have k5409 := iv_eq (X := w5403.toInt) (Y := x1.toInt) rfl rfl c5407
      have hpost : True := trivial
      rw [hQ]
      exact W.vret hx hb hr (fun t ht hW => ⟨⟨(), rfl, trivial, ⟨by rw [ht]; exact hI, hN.warm hW, va_K.moved hW.alike hK⟩, by first | (rw [ht]; exact hpost) | exact hpost⟩, hS.F ht⟩) hS.2.2 dX12_findsBest_19
theorem dX12_best_0 : decode cX12_best 0 = .ok (.iload_n 1, 1) := by decide +kernel
theorem dX12_best_1 : decode cX12_best 1 = .ok (.iconst 0, 1) := by decide +kernel
theorem dX12_best_2 : decode cX12_best 2 = .ok (.iconst 1, 1) := by decide +kernel
theorem dX12_best_3 : decode cX12_best 3 = .ok (.invokestatic 103, 3) := by decide +kernel
theorem dX12_best_6 : decode cX12_best 6 = .ok (.ifCond .eq 12, 3) := by decide +kernel
theorem dX12_best_9 : decode cX12_best 9 = .ok (.iload_n 2, 1) := by decide +kernel
theorem dX12_best_10 : decode cX12_best 10 = .ok (.iconst 0, 1) := by decide +kernel
theorem dX12_best_11 : decode cX12_best 11 = .ok (.iconst 2, 1) := by decide +kernel
theorem dX12_best_12 : decode cX12_best 12 = .ok (.invokestatic 103, 3) := by decide +kernel
theorem dX12_best_15 : decode cX12_best 15 = .ok (.ifCond .ne 5, 3) := by decide +kernel
theorem dX12_best_18 : decode cX12_best 18 = .ok (.iconst (-1), 1) := by decide +kernel
theorem dX12_best_19 : decode cX12_best 19 = .ok (.ireturn, 1) := by decide +kernel
theorem dX12_best_20 : decode cX12_best 20 = .ok (.aload_n 0, 1) := by decide +kernel
theorem dX12_best_21 : decode cX12_best 21 = .ok (.iload_n 1, 1) := by decide +kernel
theorem dX12_best_22 : decode cX12_best 22 = .ok (.invokevirtual 395, 3) := by decide +kernel
theorem dX12_best_25 : decode cX12_best 25 = .ok (.iload_n 2, 1) := by decide +kernel
theorem dX12_best_26 : decode cX12_best 26 = .ok (.ifCond .ne 10, 3) := by decide +kernel
theorem dX12_best_29 : decode cX12_best 29 = .ok (.aload_n 0, 1) := by decide +kernel
theorem dX12_best_30 : decode cX12_best 30 = .ok (.getfield 380, 3) := by decide +kernel
theorem dX12_best_33 : decode cX12_best 33 = .ok (.goto 19, 3) := by decide +kernel
theorem dX12_best_36 : decode cX12_best 36 = .ok (.iload_n 2, 1) := by decide +kernel
theorem dX12_best_37 : decode cX12_best 37 = .ok (.iconst 1, 1) := by decide +kernel
theorem dX12_best_38 : decode cX12_best 38 = .ok (.if_icmp .ne 10, 3) := by decide +kernel
theorem dX12_best_41 : decode cX12_best 41 = .ok (.aload_n 0, 1) := by decide +kernel
theorem dX12_best_42 : decode cX12_best 42 = .ok (.getfield 389, 3) := by decide +kernel
theorem dX12_best_45 : decode cX12_best 45 = .ok (.goto 7, 3) := by decide +kernel
theorem dX12_best_48 : decode cX12_best 48 = .ok (.aload_n 0, 1) := by decide +kernel
theorem dX12_best_49 : decode cX12_best 49 = .ok (.getfield 392, 3) := by decide +kernel
theorem dX12_best_52 : decode cX12_best 52 = .ok (.ireturn, 1) := by decide +kernel
set_option maxHeartbeats 4000000 in
set_option maxRecDepth 100000 in
theorem c_X12_best (l : Launch) (E : Nat → Nat) (D : va_G) (G : th_G) (h0 : Nat) (hG0 : G h0 = some (10, 0)) (x1 : Int32) (x2 : Int32) : Met l yX12_best (tb (.code yX12_best cX12_best 3 (some .int))) (rm 70) (va_Pc [.ref h0, .int x1, .int x2] (PX E D G (fun H => True))) (QXi E D G (fun r H => True)) 0 0 (th_A G) := by
  refine Met.ofW (cc := cX12_best) (maxL := 3) (ret := (some .int)) (by decide) rfl ?_
  intro p e s m args below meth c s₁ B hml hv
  obtain ⟨hav, ⟨hI, hN, hK⟩, hX⟩ := hv
  have hx := B.exec
  have hb := B.bytes
  have hr := B.returns
  have hts := atoms_spec (ws := tb (.code yX12_best cX12_best 3 (some .int))) B.pre
  have hown : s.vm.findClass RX12 = some m.cls := findClass_of_methodNamed B.named
  have hlocks := B.notSynchronized
  have hS : va_S (th_A G) s.heap s.heap [] := va_S.rf
  have hl := lv_entry ([.ref h0, .int x1, .int x2]) (n := 3) (Nat.le_of_ble_eq_true rfl)
  rw [show entryFrame m args 3 = entryFrame m ([.ref h0, .int x1, .int x2] : List Value).toArray 3 from by rw [hav], lg_entry_eq]
  generalize (lg_sl ([.ref h0, .int x1, .int x2]) ++ List.replicate (3 - (lg_sl ([.ref h0, .int x1, .int x2])).length) Slot.unset).toArray = ls at hl ⊢
  have hl : lv_has ls 3 [(0, .ref h0), (1, .int x1), (2, .int x2)] := hl
  generalize hR : (headSpec (tb (.code yX12_best cX12_best 3 (some .int))) (rm 70)).room = R
  have hR := hR.symm
  generalize hQ : MQ below (QXi E D G (fun r H => True)) args s 0 0 (th_A G) = QF
  have hQ := hQ.symm
  have J_18 : ∀ (H : Heap) (locs : List Loc) (ls : Array Slot)  , lv_has ls 3 [(0, .ref h0), (1, .int x1), (2, .int x2)] → th_I (okM E) D G [] H → va_S (th_A G) s.heap H locs → W p l e R s m args below meth c H locs 0 0 QF (F0 m 18 ls []) := by
    intro H locs ls   hl  hI hS
    refine lv_iconst (v := (-1)) hx hb dX12_best_18 (by decide) ?_
    have hpost : True := trivial
    rw [hQ]
    exact W.iret (v := (-1)) hx hb hr (fun t ht hW => ⟨⟨(-1), (-1), rfl, rfl, ⟨by rw [ht]; exact hI, hN.warm hW, va_K.moved hW.alike hK⟩, by first | (rw [ht]; exact hpost) | exact hpost⟩, hS.F ht⟩) hS.2.2 dX12_best_19
  refine lv_iload_n hx hb dX12_best_0 rfl (lv_at hl 1 rfl) ?_
  refine lv_iconst (v := 0) hx hb dX12_best_1 (by decide) ?_
  refine lv_iconst (v := 1) hx hb dX12_best_2 (by decide) ?_
  refine th_cSs (As := [.int x1, .int 0, .int 1]) (rest := []) (n := 3) (d := 0) ⟨hx, hb, hml, hown, hts⟩ (c_X12_lies l s.heap x1 0 1) wd_1395 wd_1396 wd_13 wd_1397 (by decide +kernel) ⟨by rw [hR]; exact Nat.le_of_ble_eq_true rfl, by rw [hR]; exact Nat.le_of_ble_eq_true rfl⟩ hN hS rfl hl.1 rfl (Nat.le_of_ble_eq_true rfl) dX12_best_3 ⟨Nat.zero_le _, Nat.zero_le _⟩ (fun r201 locs hp hS => ?_)
  rcases hp with ⟨rfl, hp⟩ | ⟨rfl, hp⟩
  · skip
    try simp only [rg, not_and, Int.not_le] at hp
    have hp202 := hp
    try rw [show (0 : Int32).toInt = 0 from by decide] at hp202
    try rw [show (1 : Int32).toInt = 1 from by decide] at hp202
    refine lv_if_eq (tgt := 18) hx hb dX12_best_6 (by decide) (fun c => absurd c (by decide)) (fun _ => ?_)
    refine lv_iload_n hx hb dX12_best_9 rfl (lv_at hl 2 rfl) ?_
    refine lv_iconst (v := 0) hx hb dX12_best_10 (by decide) ?_
    refine lv_iconst (v := 2) hx hb dX12_best_11 (by decide) ?_
    refine th_cSs (As := [.int x2, .int 0, .int 2]) (rest := []) (n := 3) (d := 0) ⟨hx, hb, hml, hown, hts⟩ (c_X12_lies l s.heap x2 0 2) wd_1395 wd_1396 wd_13 wd_1397 (by decide +kernel) ⟨by rw [hR]; exact Nat.le_of_ble_eq_true rfl, by rw [hR]; exact Nat.le_of_ble_eq_true rfl⟩ hN hS rfl hl.1 rfl (Nat.le_of_ble_eq_true rfl) dX12_best_12 ⟨Nat.zero_le _, Nat.zero_le _⟩ (fun r203 locs hp hS => ?_)
    rcases hp with ⟨rfl, hp⟩ | ⟨rfl, hp⟩
    · skip
      try simp only [rg, not_and, Int.not_le] at hp
      have hp204 := hp
      try rw [show (0 : Int32).toInt = 0 from by decide] at hp204
      try rw [show (2 : Int32).toInt = 2 from by decide] at hp204
      refine lv_if_ne (tgt := 20) hx hb dX12_best_15 (by decide) (fun _ => ?_) (fun c => absurd c (by decide))
      refine lv_aload_n hx hb dX12_best_20 rfl (lv_at hl 0 rfl) ?_
      refine lv_iload_n hx hb dX12_best_21 rfl (lv_at hl 1 rfl) ?_
      refine mx_v (As := [.int x1]) (rest := []) (n := 1) (d := 69) ⟨hx, hb, hml, hown, hts⟩ (c_X12_findsBest l E D G h0 hG0 x1 ⟨by omega, by omega⟩) wd_1832 wd_1834 wp_92 wd_13 wd_1835 (by decide +kernel) ⟨by rw [hR]; exact Nat.le_of_ble_eq_true rfl, by rw [hR]; exact Nat.le_of_ble_eq_true rfl⟩ hI hN hK hS hG0 (trivial) rfl hl.1 rfl (Nat.le_of_ble_eq_true rfl) dX12_best_22 ⟨Nat.zero_le _, Nat.zero_le _⟩ (fun H locs hI hp hS => ?_)
      refine lv_iload_n hx hb dX12_best_25 rfl (lv_at hl 2 rfl) ?_
      refine lv_if_ne (tgt := 36) hx hb dX12_best_26 (by decide) (fun c206 => ?_) (fun c206 => ?_)
      · skip
        have k207 := iv_ne (X := x2.toInt) (Y := (0)) rfl (by decide) c206
        refine lv_iload_n hx hb dX12_best_36 rfl (lv_at hl 2 rfl) ?_
        refine lv_iconst (v := 1) hx hb dX12_best_37 (by decide) ?_
        refine lv_icmp_ne (tgt := 48) hx hb dX12_best_38 (by decide) (fun c208 => ?_) (fun c208 => ?_)
        · skip
          have k209 := iv_ne (X := x2.toInt) (Y := (1)) rfl (by decide) c208
          refine lv_aload_n hx hb dX12_best_48 rfl (lv_at hl 0 rfl) ?_
          refine gmI hx hb hts inT12 hown hK hI List.not_mem_nil hG0 46 (by decide) (hts _ (tb_c wd_1279)) rfl rfl dX12_best_49 (fun w210 hg211 k212 k213 => ?_)
          have hpost : True := trivial
          rw [hQ]
          exact W.iret (v := w210) hx hb hr (fun t ht hW => ⟨⟨w210, w210, rfl, rfl, ⟨by rw [ht]; exact hI, hN.warm hW, va_K.moved hW.alike hK⟩, by first | (rw [ht]; exact hpost) | exact hpost⟩, hS.F ht⟩) hS.2.2 dX12_best_52
        · skip
          have k214 := iv_eq (X := x2.toInt) (Y := (1)) rfl (by decide) c208
          refine lv_aload_n hx hb dX12_best_41 rfl (lv_at hl 0 rfl) ?_
          refine gmI hx hb hts inT12 hown hK hI List.not_mem_nil hG0 45 (by decide) (hts _ (tb_c wd_1278)) rfl rfl dX12_best_42 (fun w215 hg216 k217 k218 => ?_)
          refine lv_goto (tgt := 52) hx hb dX12_best_45 (by decide) ?_
          have hpost : True := trivial
          rw [hQ]
          exact W.iret (v := w215) hx hb hr (fun t ht hW => ⟨⟨w215, w215, rfl, rfl, ⟨by rw [ht]; exact hI, hN.warm hW, va_K.moved hW.alike hK⟩, by first | (rw [ht]; exact hpost) | exact hpost⟩, hS.F ht⟩) hS.2.2 dX12_best_52
      · skip
        have k219 := iv_eq (X := x2.toInt) (Y := (0)) rfl (by decide) c206
        refine lv_aload_n hx hb dX12_best_29 rfl (lv_at hl 0 rfl) ?_
        refine gmI hx hb hts inT12 hown hK hI List.not_mem_nil hG0 44 (by decide) (hts _ (tb_c wd_1277)) rfl rfl dX12_best_30 (fun w220 hg221 k222 k223 => ?_)
        refine lv_goto (tgt := 52) hx hb dX12_best_33 (by decide) ?_
        have hpost : True := trivial
        rw [hQ]
        exact W.iret (v := w220) hx hb hr (fun t ht hW => ⟨⟨w220, w220, rfl, rfl, ⟨by rw [ht]; exact hI, hN.warm hW, va_K.moved hW.alike hK⟩, by first | (rw [ht]; exact hpost) | exact hpost⟩, hS.F ht⟩) hS.2.2 dX12_best_52
    · skip
      try simp only [rg, not_and, Int.not_le] at hp
      have hp224 := hp
      try rw [show (0 : Int32).toInt = 0 from by decide] at hp224
      try rw [show (2 : Int32).toInt = 2 from by decide] at hp224
      refine lv_if_ne (tgt := 20) hx hb dX12_best_15 (by decide) (fun c => absurd c (by decide)) (fun _ => ?_)
      exact J_18 s.heap locs ls   (lv_sub hl [0, 1, 2] rfl)  hI hS
  · skip
    try simp only [rg, not_and, Int.not_le] at hp
    have hp225 := hp
    try rw [show (0 : Int32).toInt = 0 from by decide] at hp225
    try rw [show (1 : Int32).toInt = 1 from by decide] at hp225
    refine lv_if_eq (tgt := 18) hx hb dX12_best_6 (by decide) (fun _ => ?_) (fun c => absurd c (by decide))
    exact J_18 s.heap locs ls   (lv_sub hl [0, 1, 2] rfl)  hI hS
theorem dX12_set_0 : decode cX12_set 0 = .ok (.iload_n 1, 1) := by decide +kernel
theorem dX12_set_1 : decode cX12_set 1 = .ok (.iconst 0, 1) := by decide +kernel
theorem dX12_set_2 : decode cX12_set 2 = .ok (.iconst 1, 1) := by decide +kernel
theorem dX12_set_3 : decode cX12_set 3 = .ok (.invokestatic 103, 3) := by decide +kernel
theorem dX12_set_6 : decode cX12_set 6 = .ok (.ifCond .ne 10, 3) := by decide +kernel
theorem dX12_set_9 : decode cX12_set 9 = .ok (.aload_n 0, 1) := by decide +kernel
theorem dX12_set_10 : decode cX12_set 10 = .ok (.bipush (-2), 2) := by decide +kernel
theorem dX12_set_12 : decode cX12_set 12 = .ok (.invokevirtual 107, 3) := by decide +kernel
theorem dX12_set_15 : decode cX12_set 15 = .ok (.ireturn, 1) := by decide +kernel
theorem dX12_set_16 : decode cX12_set 16 = .ok (.aload_n 0, 1) := by decide +kernel
theorem dX12_set_17 : decode cX12_set 17 = .ok (.iload_n 1, 1) := by decide +kernel
theorem dX12_set_18 : decode cX12_set 18 = .ok (.invokevirtual 395, 3) := by decide +kernel
theorem dX12_set_21 : decode cX12_set 21 = .ok (.aload_n 0, 1) := by decide +kernel
theorem dX12_set_22 : decode cX12_set 22 = .ok (.getfield 20, 3) := by decide +kernel
theorem dX12_set_25 : decode cX12_set 25 = .ok (.iconst 0, 1) := by decide +kernel
theorem dX12_set_26 : decode cX12_set 26 = .ok (.iconst 5, 1) := by decide +kernel
theorem dX12_set_27 : decode cX12_set 27 = .ok (.iload_n 1, 1) := by decide +kernel
theorem dX12_set_28 : decode cX12_set 28 = .ok (.imul, 1) := by decide +kernel
theorem dX12_set_29 : decode cX12_set 29 = .ok (.iadd, 1) := by decide +kernel
theorem dX12_set_30 : decode cX12_set 30 = .ok (.iconst 2, 1) := by decide +kernel
theorem dX12_set_31 : decode cX12_set 31 = .ok (.iadd, 1) := by decide +kernel
theorem dX12_set_32 : decode cX12_set 32 = .ok (.aload_n 0, 1) := by decide +kernel
theorem dX12_set_33 : decode cX12_set 33 = .ok (.getfield 389, 3) := by decide +kernel
theorem dX12_set_36 : decode cX12_set 36 = .ok (.iastore, 1) := by decide +kernel
theorem dX12_set_37 : decode cX12_set 37 = .ok (.aload_n 0, 1) := by decide +kernel
theorem dX12_set_38 : decode cX12_set 38 = .ok (.getfield 20, 3) := by decide +kernel
theorem dX12_set_41 : decode cX12_set 41 = .ok (.iconst 0, 1) := by decide +kernel
theorem dX12_set_42 : decode cX12_set 42 = .ok (.iconst 5, 1) := by decide +kernel
theorem dX12_set_43 : decode cX12_set 43 = .ok (.iload_n 1, 1) := by decide +kernel
theorem dX12_set_44 : decode cX12_set 44 = .ok (.imul, 1) := by decide +kernel
theorem dX12_set_45 : decode cX12_set 45 = .ok (.iadd, 1) := by decide +kernel
theorem dX12_set_46 : decode cX12_set 46 = .ok (.iconst 3, 1) := by decide +kernel
theorem dX12_set_47 : decode cX12_set 47 = .ok (.iadd, 1) := by decide +kernel
theorem dX12_set_48 : decode cX12_set 48 = .ok (.aload_n 0, 1) := by decide +kernel
theorem dX12_set_49 : decode cX12_set 49 = .ok (.getfield 389, 3) := by decide +kernel
theorem dX12_set_52 : decode cX12_set 52 = .ok (.aload_n 0, 1) := by decide +kernel
theorem dX12_set_53 : decode cX12_set 53 = .ok (.getfield 392, 3) := by decide +kernel
theorem dX12_set_56 : decode cX12_set 56 = .ok (.iadd, 1) := by decide +kernel
theorem dX12_set_57 : decode cX12_set 57 = .ok (.bipush 24, 2) := by decide +kernel
theorem dX12_set_59 : decode cX12_set 59 = .ok (.irem, 1) := by decide +kernel
theorem dX12_set_60 : decode cX12_set 60 = .ok (.iastore, 1) := by decide +kernel
theorem dX12_set_61 : decode cX12_set 61 = .ok (.aload_n 0, 1) := by decide +kernel
theorem dX12_set_62 : decode cX12_set 62 = .ok (.aload_n 0, 1) := by decide +kernel
theorem dX12_set_63 : decode cX12_set 63 = .ok (.getfield 380, 3) := by decide +kernel
theorem dX12_set_66 : decode cX12_set 66 = .ok (.invokevirtual 111, 3) := by decide +kernel
theorem dX12_set_69 : decode cX12_set 69 = .ok (.ireturn, 1) := by decide +kernel
set_option maxHeartbeats 4000000 in
set_option maxRecDepth 100000 in
theorem c_X12_set (l : Launch) (E : Nat → Nat) (D : va_G) (G : th_G) (h0 : Nat) (hG0 : G h0 = some (10, 0)) (x1 : Int32) : Met l yX12_set (tb (.code yX12_set cX12_set 2 (some .int))) (rm 70) (va_Pc [.ref h0, .int x1] (PX E D G (fun H => True))) (QXi E D G (fun r H => True)) 0 0 (th_A G) := by
  refine Met.ofW (cc := cX12_set) (maxL := 2) (ret := (some .int)) (by decide) rfl ?_
  intro p e s m args below meth c s₁ B hml hv
  obtain ⟨hav, ⟨hI, hN, hK⟩, hX⟩ := hv
  have hx := B.exec
  have hb := B.bytes
  have hr := B.returns
  have hts := atoms_spec (ws := tb (.code yX12_set cX12_set 2 (some .int))) B.pre
  have hown : s.vm.findClass RX12 = some m.cls := findClass_of_methodNamed B.named
  have hlocks := B.notSynchronized
  have hS : va_S (th_A G) s.heap s.heap [] := va_S.rf
  have hl := lv_entry ([.ref h0, .int x1]) (n := 2) (Nat.le_of_ble_eq_true rfl)
  rw [show entryFrame m args 2 = entryFrame m ([.ref h0, .int x1] : List Value).toArray 2 from by rw [hav], lg_entry_eq]
  generalize (lg_sl ([.ref h0, .int x1]) ++ List.replicate (2 - (lg_sl ([.ref h0, .int x1])).length) Slot.unset).toArray = ls at hl ⊢
  have hl : lv_has ls 2 [(0, .ref h0), (1, .int x1)] := hl
  generalize hR : (headSpec (tb (.code yX12_set cX12_set 2 (some .int))) (rm 70)).room = R
  have hR := hR.symm
  generalize hQ : MQ below (QXi E D G (fun r H => True)) args s 0 0 (th_A G) = QF
  have hQ := hQ.symm
  refine lv_iload_n hx hb dX12_set_0 rfl (lv_at hl 1 rfl) ?_
  refine lv_iconst (v := 0) hx hb dX12_set_1 (by decide) ?_
  refine lv_iconst (v := 1) hx hb dX12_set_2 (by decide) ?_
  refine th_cSs (As := [.int x1, .int 0, .int 1]) (rest := []) (n := 3) (d := 0) ⟨hx, hb, hml, hown, hts⟩ (c_X12_lies l s.heap x1 0 1) wd_1395 wd_1396 wd_13 wd_1397 (by decide +kernel) ⟨by rw [hR]; exact Nat.le_of_ble_eq_true rfl, by rw [hR]; exact Nat.le_of_ble_eq_true rfl⟩ hN hS rfl hl.1 rfl (Nat.le_of_ble_eq_true rfl) dX12_set_3 ⟨Nat.zero_le _, Nat.zero_le _⟩ (fun r1 locs hp hS => ?_)
  rcases hp with ⟨rfl, hp⟩ | ⟨rfl, hp⟩
  · skip
    try simp only [rg, not_and, Int.not_le] at hp
    have hp2 := hp
    try rw [show (0 : Int32).toInt = 0 from by decide] at hp2
    try rw [show (1 : Int32).toInt = 1 from by decide] at hp2
    refine lv_if_ne (tgt := 16) hx hb dX12_set_6 (by decide) (fun _ => ?_) (fun c => absurd c (by decide))
    refine lv_aload_n hx hb dX12_set_16 rfl (lv_at hl 0 rfl) ?_
    refine lv_iload_n hx hb dX12_set_17 rfl (lv_at hl 1 rfl) ?_
    refine mx_v (As := [.int x1]) (rest := []) (n := 1) (d := 69) ⟨hx, hb, hml, hown, hts⟩ (c_X12_findsBest l E D G h0 hG0 x1 ⟨by omega, by omega⟩) wd_1832 wd_1834 wp_92 wd_13 wd_1835 (by decide +kernel) ⟨by rw [hR]; exact Nat.le_of_ble_eq_true rfl, by rw [hR]; exact Nat.le_of_ble_eq_true rfl⟩ hI hN hK hS hG0 (trivial) rfl hl.1 rfl (Nat.le_of_ble_eq_true rfl) dX12_set_18 ⟨Nat.zero_le _, Nat.zero_le _⟩ (fun H locs hI hp hS => ?_)
    refine lv_aload_n hx hb dX12_set_21 rfl (lv_at hl 0 rfl) ?_
    refine gmA hx hb hts inT12 hown hK hI List.not_mem_nil hG0 3 (by decide) (hts _ (tb_c wd_1236)) rfl rfl dX12_set_22 (fun a4 hq5 hf6 => ?_)
    refine lv_iconst (v := 0) hx hb dX12_set_25 (by decide) ?_
    refine lv_iconst (v := 5) hx hb dX12_set_26 (by decide) ?_
    refine lv_iload_n hx hb dX12_set_27 rfl (lv_at hl 1 rfl) ?_
    refine lv_imul hx hb dX12_set_28 ?_
    refine lv_topi (fun v7 e8 => ?_)
    have tv7 : v7.toInt = (5) * x1.toInt := iv_mul (by decide) rfl e8 (by omega) (by omega)
    refine lv_iadd hx hb dX12_set_29 ?_
    refine lv_topi (fun v9 e10 => ?_)
    have tv9 : v9.toInt = (0) + v7.toInt := iv_add (by decide) rfl e10 (by omega) (by omega)
    refine lv_iconst (v := 2) hx hb dX12_set_30 (by decide) ?_
    refine lv_iadd hx hb dX12_set_31 ?_
    refine lv_topi (fun v11 e12 => ?_)
    have tv11 : v11.toInt = v9.toInt + (2) := iv_add rfl (by decide) e12 (by omega) (by omega)
    refine lv_aload_n hx hb dX12_set_32 rfl (lv_at hl 0 rfl) ?_
    refine gmI hx hb hts inT12 hown hK hI List.not_mem_nil hG0 45 (by decide) (hts _ (tb_c wd_1278)) rfl rfl dX12_set_33 (fun w13 hg14 k15 k16 => ?_)
    obtain ⟨F17, hA18, hP19⟩ := om_1 hI hq5 List.not_mem_nil
    refine th_iast hx hb hK hA18 0 rfl hS ⟨_, hq5⟩ (iv_in (X := v11.toInt) rfl (by omega) (by omega)) dX12_set_36 (fun H locs hA20 oq hS => ?_)
    have hP21 := kOk.set (i := v11) (v := w13) hP19 (X := v11.toInt) (V := w13.toInt) rfl rfl (by omega) (by omega) (ks_pumps (by omega) (by omega) (by omega))
    have hI := th_I.put hI hq5 hA20 (ok_m1 hP21) oq
    have hg14 := gf.arr hG0 hq5 (by decide) oq hg14
    have hf6 := fr.arr hG0 hq5 (by decide) oq hf6
    have e22 : w13 = (upd F17 (v11 : Int32).toNatClampNeg w13) (v11 : Int32).toNatClampNeg := rd_us
    refine lv_aload_n hx hb dX12_set_37 rfl (lv_at hl 0 rfl) ?_
    refine gmA hx hb hts inT12 hown hK hI List.not_mem_nil hG0 3 (by decide) (hts _ (tb_c wd_1236)) rfl rfl dX12_set_38 (fun a23 hq24 hf25 => ?_)
    obtain rfl := fr.uniq (by decide) hf6 hf25
    refine lv_iconst (v := 0) hx hb dX12_set_41 (by decide) ?_
    refine lv_iconst (v := 5) hx hb dX12_set_42 (by decide) ?_
    refine lv_iload_n hx hb dX12_set_43 rfl (lv_at hl 1 rfl) ?_
    refine lv_imul hx hb dX12_set_44 ?_
    refine lv_topi (fun v26 e27 => ?_)
    have tv26 : v26.toInt = (5) * x1.toInt := iv_mul (by decide) rfl e27 (by omega) (by omega)
    refine lv_iadd hx hb dX12_set_45 ?_
    refine lv_topi (fun v28 e29 => ?_)
    have tv28 : v28.toInt = (0) + v26.toInt := iv_add (by decide) rfl e29 (by omega) (by omega)
    refine lv_iconst (v := 3) hx hb dX12_set_46 (by decide) ?_
    refine lv_iadd hx hb dX12_set_47 ?_
    refine lv_topi (fun v30 e31 => ?_)
    have tv30 : v30.toInt = v28.toInt + (3) := iv_add rfl (by decide) e31 (by omega) (by omega)
    refine lv_aload_n hx hb dX12_set_48 rfl (lv_at hl 0 rfl) ?_
    refine gmI hx hb hts inT12 hown hK hI List.not_mem_nil hG0 45 (by decide) (hts _ (tb_c wd_1278)) rfl rfl dX12_set_49 (fun w32 hg33 k34 k35 => ?_)
    obtain rfl := gf.uniq (by decide) hg14 hg33
    refine lv_aload_n hx hb dX12_set_52 rfl (lv_at hl 0 rfl) ?_
    refine gmI hx hb hts inT12 hown hK hI List.not_mem_nil hG0 46 (by decide) (hts _ (tb_c wd_1279)) rfl rfl dX12_set_53 (fun w36 hg37 k38 k39 => ?_)
    refine lv_iadd hx hb dX12_set_56 ?_
    refine lv_topi (fun v40 e41 => ?_)
    try have tv40 : v40.toInt = w13.toInt + w36.toInt := iv_add rfl rfl e41 (by omega) (by omega)
    refine lv_bipush (v := 24) hx hb dX12_set_57 (by decide) ?_
    refine lv_irem hx hb dX12_set_59 (by decide) ?_
    refine lv_topi (fun v42 e43 => ?_)
    refine th_iast hx hb hK hA20 0 rfl hS ⟨_, hq5⟩ (iv_in (X := v30.toInt) rfl (by omega) (by omega)) dX12_set_60 (fun H locs hA44 oq hS => ?_)
    have k45 := iv_lo v42
    have k46 := iv_hi v42
    have hP47 := kOk.set (i := v30) (v := v42) hP21 (X := v30.toInt) (V := v42.toInt) rfl rfl (by omega) (by omega) (ks_pumps (by omega) (by omega) (by omega))
    have hI := th_I.put hI hq5 hA44 (ok_m1 hP47) oq
    have hg14 := gf.arr hG0 hq5 (by decide) oq hg14
    have hg37 := gf.arr hG0 hq5 (by decide) oq hg37
    have hf6 := fr.arr hG0 hq5 (by decide) oq hf6
    have e48 := rd_un (i := v11) (j := v30) (v := v42) e22 (X := v11.toInt) (Y := v30.toInt) rfl rfl (by omega) (by omega) (by omega)
    have e49 : v42 = (upd (upd F17 (v11 : Int32).toNatClampNeg w13) (v30 : Int32).toNatClampNeg v42) (v30 : Int32).toNatClampNeg := rd_us
    refine lv_aload_n hx hb dX12_set_61 rfl (lv_at hl 0 rfl) ?_
    refine lv_aload_n hx hb dX12_set_62 rfl (lv_at hl 0 rfl) ?_
    refine gmI hx hb hts inT12 hown hK hI List.not_mem_nil hG0 44 (by decide) (hts _ (tb_c wd_1277)) rfl rfl dX12_set_63 (fun w50 hg51 k52 k53 => ?_)
    refine mx_i (As := [.int w50]) (rest := []) (n := 1) (d := 0) ⟨hx, hb, hml, hown, hts⟩ (c_X12_good l E D G h0 hG0 w50) wd_1402 wd_1404 wp_41 wd_13 wd_1405 (by decide +kernel) ⟨by rw [hR]; exact Nat.le_of_ble_eq_true rfl, by rw [hR]; exact Nat.le_of_ble_eq_true rfl⟩ hI hN hK hS hG0 (trivial) rfl hl.1 rfl (Nat.le_of_ble_eq_true rfl) dX12_set_66 ⟨Nat.zero_le _, Nat.zero_le _⟩ (fun r54 H locs hI hp hS => ?_)
    obtain rfl := hp.symm
    have hpost : True := trivial
    rw [hQ]
    exact W.iret (v := w50) hx hb hr (fun t ht hW => ⟨⟨w50, w50, rfl, rfl, ⟨by rw [ht]; exact hI, hN.warm hW, va_K.moved hW.alike hK⟩, by first | (rw [ht]; exact hpost) | exact hpost⟩, hS.F ht⟩) hS.2.2 dX12_set_69
  · skip
    try simp only [rg, not_and, Int.not_le] at hp
    have hp55 := hp
    try rw [show (0 : Int32).toInt = 0 from by decide] at hp55
    try rw [show (1 : Int32).toInt = 1 from by decide] at hp55
    refine lv_if_ne (tgt := 16) hx hb dX12_set_6 (by decide) (fun c => absurd c (by decide)) (fun _ => ?_)
    refine lv_aload_n hx hb dX12_set_9 rfl (lv_at hl 0 rfl) ?_
    refine lv_bipush (v := (-2)) hx hb dX12_set_10 (by decide) ?_
    refine mx_i (As := [.int (-2)]) (rest := []) (n := 1) (d := 0) ⟨hx, hb, hml, hown, hts⟩ (c_X12_refuses l E D G h0 hG0 (-2) ⟨by decide, by decide⟩) wd_1398 wd_1400 wp_40 wd_13 wd_1401 (by decide +kernel) ⟨by rw [hR]; exact Nat.le_of_ble_eq_true rfl, by rw [hR]; exact Nat.le_of_ble_eq_true rfl⟩ hI hN hK hS hG0 (trivial) rfl hl.1 rfl (Nat.le_of_ble_eq_true rfl) dX12_set_12 ⟨Nat.zero_le _, Nat.zero_le _⟩ (fun r56 H locs hI hp hS => ?_)
    obtain rfl := hp.symm
    have hpost : True := trivial
    rw [hQ]
    exact W.iret (v := (-2)) hx hb hr (fun t ht hW => ⟨⟨(-2), (-2), rfl, rfl, ⟨by rw [ht]; exact hI, hN.warm hW, va_K.moved hW.alike hK⟩, by first | (rw [ht]; exact hpost) | exact hpost⟩, hS.F ht⟩) hS.2.2 dX12_set_15
theorem dX12_draws_0 : decode cX12_draws 0 = .ok (.aload_n 0, 1) := by decide +kernel
theorem dX12_draws_1 : decode cX12_draws 1 = .ok (.ldc2_w 398, 3) := by decide +kernel
theorem dX12_draws_4 : decode cX12_draws 4 = .ok (.aload_n 0, 1) := by decide +kernel
theorem dX12_draws_5 : decode cX12_draws 5 = .ok (.getfield 400, 3) := by decide +kernel
theorem dX12_draws_8 : decode cX12_draws 8 = .ok (.i2l, 1) := by decide +kernel
theorem dX12_draws_9 : decode cX12_draws 9 = .ok (.lmul, 1) := by decide +kernel
theorem dX12_draws_10 : decode cX12_draws 10 = .ok (.ldc2_w 403, 3) := by decide +kernel
theorem dX12_draws_13 : decode cX12_draws 13 = .ok (.ladd, 1) := by decide +kernel
theorem dX12_draws_14 : decode cX12_draws 14 = .ok (.ldc2_w 405, 3) := by decide +kernel
theorem dX12_draws_17 : decode cX12_draws 17 = .ok (.lrem, 1) := by decide +kernel
theorem dX12_draws_18 : decode cX12_draws 18 = .ok (.l2i, 1) := by decide +kernel
theorem dX12_draws_19 : decode cX12_draws 19 = .ok (.putfield 400, 3) := by decide +kernel
theorem dX12_draws_22 : decode cX12_draws 22 = .ok (.aload_n 0, 1) := by decide +kernel
theorem dX12_draws_23 : decode cX12_draws 23 = .ok (.getfield 400, 3) := by decide +kernel
theorem dX12_draws_26 : decode cX12_draws 26 = .ok (.iload_n 1, 1) := by decide +kernel
theorem dX12_draws_27 : decode cX12_draws 27 = .ok (.irem, 1) := by decide +kernel
theorem dX12_draws_28 : decode cX12_draws 28 = .ok (.ireturn, 1) := by decide +kernel
set_option maxHeartbeats 4000000 in
set_option maxRecDepth 100000 in
theorem c_X12_draws_100 (l : Launch) (E : Nat → Nat) (D : va_G) (G : th_G) (h0 : Nat) (hG0 : G h0 = some (10, 0)) : Met l yX12_draws (tb (.code yX12_draws cX12_draws 2 (some .int))) (rm 0) (va_Pc [.ref h0, .int 100] (PX E D G (fun H => True))) (QXi E D G (fun r H => True)) 0 0 (th_A G) := by
  refine Met.ofW (cc := cX12_draws) (maxL := 2) (ret := (some .int)) (by decide) rfl ?_
  intro p e s m args below meth c s₁ B hml hv
  obtain ⟨hav, ⟨hI, hN, hK⟩, hX⟩ := hv
  have hx := B.exec
  have hb := B.bytes
  have hr := B.returns
  have hts := atoms_spec (ws := tb (.code yX12_draws cX12_draws 2 (some .int))) B.pre
  have hown : s.vm.findClass RX12 = some m.cls := findClass_of_methodNamed B.named
  have hlocks := B.notSynchronized
  have hS : va_S (th_A G) s.heap s.heap [] := va_S.rf
  have hl := lv_entry ([.ref h0, .int 100]) (n := 2) (Nat.le_of_ble_eq_true rfl)
  rw [show entryFrame m args 2 = entryFrame m ([.ref h0, .int 100] : List Value).toArray 2 from by rw [hav], lg_entry_eq]
  generalize (lg_sl ([.ref h0, .int 100]) ++ List.replicate (2 - (lg_sl ([.ref h0, .int 100])).length) Slot.unset).toArray = ls at hl ⊢
  have hl : lv_has ls 2 [(0, .ref h0), (1, .int 100)] := hl
  generalize hR : (headSpec (tb (.code yX12_draws cX12_draws 2 (some .int))) (rm 0)).room = R
  have hR := hR.symm
  generalize hQ : MQ below (QXi E D G (fun r H => True)) args s 0 0 (th_A G) = QF
  have hQ := hQ.symm
  refine lv_aload_n hx hb dX12_draws_0 rfl (lv_at hl 0 rfl) ?_
  refine lv_ldc2 hx hb hown (hts _ (tb_c wd_1855)) dX12_draws_1 ?_
  refine lv_topl (fun l1 e2 => ?_)
  refine lv_aload_n hx hb dX12_draws_4 rfl (lv_at hl 0 rfl) ?_
  refine gmI hx hb hts inT12 hown hK hI List.not_mem_nil hG0 51 (by decide) (hts _ (tb_c wd_1284)) rfl rfl dX12_draws_5 (fun w3 hg4 k5 k6 => ?_)
  refine lv_i2l hx hb dX12_draws_8 rfl ?_
  refine lv_topl (fun l7 e8 => ?_)
  refine lv_lmul hx hb dX12_draws_9 ?_
  refine lv_topl (fun l9 e10 => ?_)
  refine lv_ldc2 hx hb hown (hts _ (tb_c wd_1856)) dX12_draws_10 ?_
  refine lv_topl (fun l11 e12 => ?_)
  refine lv_ladd hx hb dX12_draws_13 ?_
  refine lv_topl (fun l13 e14 => ?_)
  refine lv_ldc2 hx hb hown (hts _ (tb_c wd_1857)) dX12_draws_14 ?_
  refine lv_topl (fun l15 e16 => ?_)
  refine lv_lrem hx hb dX12_draws_17 (by rw [e16]; decide) ?_
  refine lv_topl (fun l17 e18 => ?_)
  refine lv_l2i hx hb dX12_draws_18 rfl ?_
  refine lv_topi (fun v19 e20 => ?_)
  have k21 := iv_lo v19
  have k22 := iv_hi v19
  refine pmI (ty := .int) hx hb hts inT12 hown hK hI List.not_mem_nil hG0 hS ⟨_, hG0⟩ 51 (by decide) (hts _ (tb_c wd_1284)) rfl rfl (by decide +kernel) rfl rfl rfl (by omega) (by omega) dX12_draws_19 (fun H locs hI hgP hS => ?_)
  have hg23 := hgP.2.1
  refine lv_aload_n hx hb dX12_draws_22 rfl (lv_at hl 0 rfl) ?_
  refine gmI hx hb hts inT12 hown hK hI List.not_mem_nil hG0 51 (by decide) (hts _ (tb_c wd_1284)) rfl rfl dX12_draws_23 (fun w24 hg25 k26 k27 => ?_)
  obtain rfl := gf.uniq (by decide) hg23 hg25
  refine lv_iload_n hx hb dX12_draws_26 rfl (lv_at hl 1 rfl) ?_
  refine lv_irem hx hb dX12_draws_27 (by decide) ?_
  refine lv_topi (fun v28 e29 => ?_)
  have hpost : True := trivial
  rw [hQ]
  exact W.iret (v := v28) hx hb hr (fun t ht hW => ⟨⟨v28, v28, rfl, rfl, ⟨by rw [ht]; exact hI, hN.warm hW, va_K.moved hW.alike hK⟩, by first | (rw [ht]; exact hpost) | exact hpost⟩, hS.F ht⟩) hS.2.2 dX12_draws_28
theorem dX12_week_0 : decode cX12_week 0 = .ok (.iload_n 1, 1) := by decide +kernel
theorem dX12_week_1 : decode cX12_week 1 = .ok (.iconst 0, 1) := by decide +kernel
theorem dX12_week_2 : decode cX12_week 2 = .ok (.ldc 158, 2) := by decide +kernel
theorem dX12_week_4 : decode cX12_week 4 = .ok (.invokestatic 103, 3) := by decide +kernel
theorem dX12_week_7 : decode cX12_week 7 = .ok (.ifCond .eq 13, 3) := by decide +kernel
theorem dX12_week_10 : decode cX12_week 10 = .ok (.iload_n 2, 1) := by decide +kernel
theorem dX12_week_11 : decode cX12_week 11 = .ok (.iconst 0, 1) := by decide +kernel
theorem dX12_week_12 : decode cX12_week 12 = .ok (.bipush 100, 2) := by decide +kernel
theorem dX12_week_14 : decode cX12_week 14 = .ok (.invokestatic 103, 3) := by decide +kernel
theorem dX12_week_17 : decode cX12_week 17 = .ok (.ifCond .ne 9, 3) := by decide +kernel
theorem dX12_week_20 : decode cX12_week 20 = .ok (.aload_n 0, 1) := by decide +kernel
theorem dX12_week_21 : decode cX12_week 21 = .ok (.iconst (-1), 1) := by decide +kernel
theorem dX12_week_22 : decode cX12_week 22 = .ok (.invokevirtual 107, 3) := by decide +kernel
theorem dX12_week_25 : decode cX12_week 25 = .ok (.ireturn, 1) := by decide +kernel
theorem dX12_week_26 : decode cX12_week 26 = .ok (.aload_n 0, 1) := by decide +kernel
theorem dX12_week_27 : decode cX12_week 27 = .ok (.iload_n 1, 1) := by decide +kernel
theorem dX12_week_28 : decode cX12_week 28 = .ok (.putfield 400, 3) := by decide +kernel
theorem dX12_week_31 : decode cX12_week 31 = .ok (.aload_n 0, 1) := by decide +kernel
theorem dX12_week_32 : decode cX12_week 32 = .ok (.iconst 1, 1) := by decide +kernel
theorem dX12_week_33 : decode cX12_week 33 = .ok (.putfield 407, 3) := by decide +kernel
theorem dX12_week_36 : decode cX12_week 36 = .ok (.iconst 0, 1) := by decide +kernel
theorem dX12_week_37 : decode cX12_week 37 = .ok (.istore_n 3, 1) := by decide +kernel
theorem dX12_week_38 : decode cX12_week 38 = .ok (.iconst 0, 1) := by decide +kernel
theorem dX12_week_39 : decode cX12_week 39 = .ok (.istore 4, 2) := by decide +kernel
theorem dX12_week_41 : decode cX12_week 41 = .ok (.iload 4, 2) := by decide +kernel
theorem dX12_week_43 : decode cX12_week 43 = .ok (.bipush 24, 2) := by decide +kernel
theorem dX12_week_45 : decode cX12_week 45 = .ok (.if_icmp .ge 18, 3) := by decide +kernel
theorem dX12_week_48 : decode cX12_week 48 = .ok (.aload_n 0, 1) := by decide +kernel
theorem dX12_week_49 : decode cX12_week 49 = .ok (.getfield 100, 3) := by decide +kernel
theorem dX12_week_52 : decode cX12_week 52 = .ok (.iload 4, 2) := by decide +kernel
theorem dX12_week_54 : decode cX12_week 54 = .ok (.iload 4, 2) := by decide +kernel
theorem dX12_week_56 : decode cX12_week 56 = .ok (.iastore, 1) := by decide +kernel
theorem dX12_week_57 : decode cX12_week 57 = .ok (.iinc 4 1, 3) := by decide +kernel
theorem dX12_week_60 : decode cX12_week 60 = .ok (.goto (-19), 3) := by decide +kernel
theorem dX12_week_63 : decode cX12_week 63 = .ok (.iconst 0, 1) := by decide +kernel
theorem dX12_week_64 : decode cX12_week 64 = .ok (.istore 4, 2) := by decide +kernel
theorem dX12_week_66 : decode cX12_week 66 = .ok (.iload 4, 2) := by decide +kernel
theorem dX12_week_68 : decode cX12_week 68 = .ok (.bipush 96, 2) := by decide +kernel
theorem dX12_week_70 : decode cX12_week 70 = .ok (.if_icmp .ge 102, 3) := by decide +kernel
theorem dX12_week_73 : decode cX12_week 73 = .ok (.aload_n 0, 1) := by decide +kernel
theorem dX12_week_74 : decode cX12_week 74 = .ok (.bipush 100, 2) := by decide +kernel
theorem dX12_week_76 : decode cX12_week 76 = .ok (.invokevirtual 410, 3) := by decide +kernel
theorem dX12_week_79 : decode cX12_week 79 = .ok (.iload_n 2, 1) := by decide +kernel
theorem dX12_week_80 : decode cX12_week 80 = .ok (.if_icmp .ge 7, 3) := by decide +kernel
theorem dX12_week_83 : decode cX12_week 83 = .ok (.iconst 1, 1) := by decide +kernel
theorem dX12_week_84 : decode cX12_week 84 = .ok (.goto 4, 3) := by decide +kernel
theorem dX12_week_87 : decode cX12_week 87 = .ok (.iconst 0, 1) := by decide +kernel
theorem dX12_week_88 : decode cX12_week 88 = .ok (.istore 5, 2) := by decide +kernel
theorem dX12_week_90 : decode cX12_week 90 = .ok (.iload_n 3, 1) := by decide +kernel
theorem dX12_week_91 : decode cX12_week 91 = .ok (.iload 5, 2) := by decide +kernel
theorem dX12_week_93 : decode cX12_week 93 = .ok (.ifCond .eq 7, 3) := by decide +kernel
theorem dX12_week_96 : decode cX12_week 96 = .ok (.iconst 1, 1) := by decide +kernel
theorem dX12_week_97 : decode cX12_week 97 = .ok (.goto 4, 3) := by decide +kernel
theorem dX12_week_100 : decode cX12_week 100 = .ok (.iconst 0, 1) := by decide +kernel
theorem dX12_week_101 : decode cX12_week 101 = .ok (.iadd, 1) := by decide +kernel
theorem dX12_week_102 : decode cX12_week 102 = .ok (.istore_n 3, 1) := by decide +kernel
theorem dX12_week_103 : decode cX12_week 103 = .ok (.iconst 0, 1) := by decide +kernel
theorem dX12_week_104 : decode cX12_week 104 = .ok (.istore 6, 2) := by decide +kernel
theorem dX12_week_106 : decode cX12_week 106 = .ok (.iload 6, 2) := by decide +kernel
theorem dX12_week_108 : decode cX12_week 108 = .ok (.bipush 24, 2) := by decide +kernel
theorem dX12_week_110 : decode cX12_week 110 = .ok (.if_icmp .ge 56, 3) := by decide +kernel
theorem dX12_week_113 : decode cX12_week 113 = .ok (.aload_n 0, 1) := by decide +kernel
theorem dX12_week_114 : decode cX12_week 114 = .ok (.getfield 100, 3) := by decide +kernel
theorem dX12_week_117 : decode cX12_week 117 = .ok (.iload 6, 2) := by decide +kernel
theorem dX12_week_119 : decode cX12_week 119 = .ok (.iaload, 1) := by decide +kernel
theorem dX12_week_120 : decode cX12_week 120 = .ok (.bipush 24, 2) := by decide +kernel
theorem dX12_week_122 : decode cX12_week 122 = .ok (.if_icmp .eq 38, 3) := by decide +kernel
theorem dX12_week_125 : decode cX12_week 125 = .ok (.aload_n 0, 1) := by decide +kernel
theorem dX12_week_126 : decode cX12_week 126 = .ok (.getfield 100, 3) := by decide +kernel
theorem dX12_week_129 : decode cX12_week 129 = .ok (.iload 6, 2) := by decide +kernel
theorem dX12_week_131 : decode cX12_week 131 = .ok (.aload_n 0, 1) := by decide +kernel
theorem dX12_week_132 : decode cX12_week 132 = .ok (.aload_n 0, 1) := by decide +kernel
theorem dX12_week_133 : decode cX12_week 133 = .ok (.getfield 100, 3) := by decide +kernel
theorem dX12_week_136 : decode cX12_week 136 = .ok (.iload 6, 2) := by decide +kernel
theorem dX12_week_138 : decode cX12_week 138 = .ok (.iaload, 1) := by decide +kernel
theorem dX12_week_139 : decode cX12_week 139 = .ok (.iload 4, 2) := by decide +kernel
theorem dX12_week_141 : decode cX12_week 141 = .ok (.aload_n 0, 1) := by decide +kernel
theorem dX12_week_142 : decode cX12_week 142 = .ok (.aload_n 0, 1) := by decide +kernel
theorem dX12_week_143 : decode cX12_week 143 = .ok (.getfield 100, 3) := by decide +kernel
theorem dX12_week_146 : decode cX12_week 146 = .ok (.iload 6, 2) := by decide +kernel
theorem dX12_week_148 : decode cX12_week 148 = .ok (.iaload, 1) := by decide +kernel
theorem dX12_week_149 : decode cX12_week 149 = .ok (.iload 4, 2) := by decide +kernel
theorem dX12_week_151 : decode cX12_week 151 = .ok (.iload 5, 2) := by decide +kernel
theorem dX12_week_153 : decode cX12_week 153 = .ok (.invokevirtual 282, 3) := by decide +kernel
theorem dX12_week_156 : decode cX12_week 156 = .ok (.invokevirtual 288, 3) := by decide +kernel
theorem dX12_week_159 : decode cX12_week 159 = .ok (.iastore, 1) := by decide +kernel
theorem dX12_week_160 : decode cX12_week 160 = .ok (.iinc 6 1, 3) := by decide +kernel
theorem dX12_week_163 : decode cX12_week 163 = .ok (.goto (-57), 3) := by decide +kernel
theorem dX12_week_166 : decode cX12_week 166 = .ok (.iinc 4 1, 3) := by decide +kernel
theorem dX12_week_169 : decode cX12_week 169 = .ok (.goto (-103), 3) := by decide +kernel
theorem dX12_week_172 : decode cX12_week 172 = .ok (.aload_n 0, 1) := by decide +kernel
theorem dX12_week_173 : decode cX12_week 173 = .ok (.iload_n 3, 1) := by decide +kernel
theorem dX12_week_174 : decode cX12_week 174 = .ok (.invokevirtual 111, 3) := by decide +kernel
theorem dX12_week_177 : decode cX12_week 177 = .ok (.ireturn, 1) := by decide +kernel
set_option maxHeartbeats 4000000 in
set_option maxRecDepth 100000 in
theorem c_X12_week (l : Launch) (E : Nat → Nat) (D : va_G) (G : th_G) (h0 : Nat) (hG0 : G h0 = some (10, 0)) (x1 : Int32) (x2 : Int32) : Met l yX12_week (tb (.code yX12_week cX12_week 7 (some .int))) (rm 68) (va_Pc [.ref h0, .int x1, .int x2] (PX E D G (fun H => True))) (QXi E D G (fun r H => True)) 0 0 (th_A G) := by
  refine Met.ofW (cc := cX12_week) (maxL := 7) (ret := (some .int)) (by decide) rfl ?_
  intro p e s m args below meth c s₁ B hml hv
  obtain ⟨hav, ⟨hI, hN, hK⟩, hX⟩ := hv
  have hx := B.exec
  have hb := B.bytes
  have hr := B.returns
  have hts := atoms_spec (ws := tb (.code yX12_week cX12_week 7 (some .int))) B.pre
  have hown : s.vm.findClass RX12 = some m.cls := findClass_of_methodNamed B.named
  have hlocks := B.notSynchronized
  have hS : va_S (th_A G) s.heap s.heap [] := va_S.rf
  have hl := lv_entry ([.ref h0, .int x1, .int x2]) (n := 7) (Nat.le_of_ble_eq_true rfl)
  rw [show entryFrame m args 7 = entryFrame m ([.ref h0, .int x1, .int x2] : List Value).toArray 7 from by rw [hav], lg_entry_eq]
  generalize (lg_sl ([.ref h0, .int x1, .int x2]) ++ List.replicate (7 - (lg_sl ([.ref h0, .int x1, .int x2])).length) Slot.unset).toArray = ls at hl ⊢
  have hl : lv_has ls 7 [(0, .ref h0), (1, .int x1), (2, .int x2)] := hl
  generalize hR : (headSpec (tb (.code yX12_week cX12_week 7 (some .int))) (rm 68)).room = R
  have hR := hR.symm
  generalize hQ : MQ below (QXi E D G (fun r H => True)) args s 0 0 (th_A G) = QF
  have hQ := hQ.symm
  have J_66 : ∀ (nn : Nat) (H : Heap) (locs : List Loc) (ls : Array Slot) (v12031 : Int32) (v12032 : Int32) , (Int.toNat (96 - v12031.toInt) = nn) → lv_has ls 7 [(4, .int v12031), (3, .int v12032), (0, .ref h0), (1, .int x1), (2, .int x2)] → ((0 : Int) ≤ v12031.toInt ∧ v12031.toInt ≤ 96) → ((0 : Int) ≤ x1.toInt ∧ x1.toInt ≤ 1000000) → ((0 : Int) ≤ x2.toInt ∧ x2.toInt ≤ 100) → th_I (okM E) D G [] H → va_S (th_A G) s.heap H locs → W p l e R s m args below meth c H locs 0 0 QF (F0 m 66 ls []) := by
    intro nn
    induction nn using Nat.strongRecOn with
    | ind nn ih_66 =>
      intro H locs ls v12031 v12032  hm hl k12033 k12034 k12035 hI hS
      have J_106 : ∀ (nn : Nat) (H : Heap) (locs : List Loc) (ls : Array Slot) (v12036 : Int32) (v12037 : Int32) (v12038 : Int32) , (Int.toNat (24 - v12036.toInt) = nn) → lv_has ls 7 [(6, .int v12036), (3, .int v12037), (5, .int v12038), (4, .int v12031), (0, .ref h0), (1, .int x1), (2, .int x2)] → ((0 : Int) ≤ v12036.toInt ∧ v12036.toInt ≤ 24) → ((0 : Int) ≤ v12038.toInt ∧ v12038.toInt ≤ 1) → ((0 : Int) ≤ v12031.toInt ∧ v12031.toInt ≤ 95) → th_I (okM E) D G [] H → va_S (th_A G) s.heap H locs → W p l e R s m args below meth c H locs 0 0 QF (F0 m 106 ls []) := by
        intro nn
        induction nn using Nat.strongRecOn with
        | ind nn ih_106 =>
          intro H locs ls v12036 v12037 v12038  hm hl k12040 k12041 k12042 hI hS
          refine lv_iload hx hb dX12_week_106 (lv_at hl 0 rfl) ?_
          refine lv_bipush (v := 24) hx hb dX12_week_108 (by decide) ?_
          refine lv_icmp_ge (tgt := 166) hx hb dX12_week_110 (by decide) (fun c12043 => ?_) (fun c12043 => ?_)
          · skip
            have k12044 := iv_le (X := (24)) (Y := v12036.toInt) (by decide) rfl c12043
            obtain ⟨v12045, e12046⟩ : ∃ y : Int32, y = v12031 + (1) := ⟨_, rfl⟩
            have tv12045 : v12045.toInt = v12031.toInt + (1) := iv_add rfl (by decide) e12046 (by omega) (by omega)
            refine lv_iinc (v := v12045) (lv' := [(4, .int v12045), (6, .int v12036), (3, .int v12037), (5, .int v12038), (0, .ref h0), (1, .int x1), (2, .int x2)]) hx hb dX12_week_166 hl (k := 3) rfl (by rw [e12046]; rfl) (by decide) rfl (fun ls hl => ?_)
            refine lv_goto (tgt := 66) hx hb dX12_week_169 (by decide) ?_
            exact ih_66 _ (by omega) H locs ls v12045 v12037  rfl (lv_sub hl [0, 2, 4, 5, 6] rfl) ⟨by omega, by omega⟩ ⟨by omega, by omega⟩ ⟨by omega, by omega⟩ hI hS
          · skip
            have k12047 := iv_nle (X := (24)) (Y := v12036.toInt) (by decide) rfl c12043
            refine lv_aload_n hx hb dX12_week_113 rfl (lv_at hl 4 rfl) ?_
            refine gmA hx hb hts inT12 hown hK hI List.not_mem_nil hG0 49 (by decide) (hts _ (tb_c wd_1282)) rfl rfl dX12_week_114 (fun a12048 hq12049 hf12050 => ?_)
            refine lv_iload hx hb dX12_week_117 (lv_at hl 0 rfl) ?_
            obtain ⟨F12051, hA12052, hP12053⟩ := om_3 hI hq12049 List.not_mem_nil
            refine th_iald hx hb hK hA12052 0 rfl (iv_in (X := v12036.toInt) rfl (by omega) (by omega)) dX12_week_119 (fun v12054 e12055 => ?_)
            have k12056 := rgs_get hP12053 e12055 (X := v12036.toInt) rfl (by omega) (by omega)
            refine lv_bipush (v := 24) hx hb dX12_week_120 (by decide) ?_
            refine lv_icmp_eq (tgt := 160) hx hb dX12_week_122 (by decide) (fun c12057 => ?_) (fun c12057 => ?_)
            · skip
              have k12058 := iv_eq (X := v12054.toInt) (Y := (24)) rfl (by decide) c12057
              obtain ⟨v12059, e12060⟩ : ∃ y : Int32, y = v12036 + (1) := ⟨_, rfl⟩
              have tv12059 : v12059.toInt = v12036.toInt + (1) := iv_add rfl (by decide) e12060 (by omega) (by omega)
              refine lv_iinc (v := v12059) (lv' := [(6, .int v12059), (3, .int v12037), (5, .int v12038), (4, .int v12031), (0, .ref h0), (1, .int x1), (2, .int x2)]) hx hb dX12_week_160 hl (k := 0) rfl (by rw [e12060]; rfl) (by decide) rfl (fun ls hl => ?_)
              refine lv_goto (tgt := 106) hx hb dX12_week_163 (by decide) ?_
              exact ih_106 _ (by omega) H locs ls v12059 v12037 v12038  rfl (lv_sub hl [0, 1, 2, 3, 4, 5, 6] rfl) ⟨by omega, by omega⟩ ⟨by omega, by omega⟩ ⟨by omega, by omega⟩ hI hS
            · skip
              have k12061 := iv_ne (X := v12054.toInt) (Y := (24)) rfl (by decide) c12057
              refine lv_aload_n hx hb dX12_week_125 rfl (lv_at hl 4 rfl) ?_
              refine gmA hx hb hts inT12 hown hK hI List.not_mem_nil hG0 49 (by decide) (hts _ (tb_c wd_1282)) rfl rfl dX12_week_126 (fun a12062 hq12063 hf12064 => ?_)
              obtain rfl := fr.uniq (by decide) hf12050 hf12064
              refine lv_iload hx hb dX12_week_129 (lv_at hl 0 rfl) ?_
              refine lv_aload_n hx hb dX12_week_131 rfl (lv_at hl 4 rfl) ?_
              refine lv_aload_n hx hb dX12_week_132 rfl (lv_at hl 4 rfl) ?_
              refine gmA hx hb hts inT12 hown hK hI List.not_mem_nil hG0 49 (by decide) (hts _ (tb_c wd_1282)) rfl rfl dX12_week_133 (fun a12065 hq12066 hf12067 => ?_)
              obtain rfl := fr.uniq (by decide) hf12050 hf12067
              refine lv_iload hx hb dX12_week_136 (lv_at hl 0 rfl) ?_
              refine th_iald hx hb hK hA12052 0 rfl (iv_in (X := v12036.toInt) rfl (by omega) (by omega)) dX12_week_138 (fun v12068 e12069 => ?_)
              obtain rfl := (rd_same (i := v12036) (j := v12036) e12055 e12069 (X := v12036.toInt) (Y := v12036.toInt) rfl rfl (by omega)).symm
              refine lv_iload hx hb dX12_week_139 (lv_at hl 3 rfl) ?_
              refine lv_aload_n hx hb dX12_week_141 rfl (lv_at hl 4 rfl) ?_
              refine lv_aload_n hx hb dX12_week_142 rfl (lv_at hl 4 rfl) ?_
              refine gmA hx hb hts inT12 hown hK hI List.not_mem_nil hG0 49 (by decide) (hts _ (tb_c wd_1282)) rfl rfl dX12_week_143 (fun a12070 hq12071 hf12072 => ?_)
              obtain rfl := fr.uniq (by decide) hf12050 hf12072
              refine lv_iload hx hb dX12_week_146 (lv_at hl 0 rfl) ?_
              refine th_iald hx hb hK hA12052 0 rfl (iv_in (X := v12036.toInt) rfl (by omega) (by omega)) dX12_week_148 (fun v12073 e12074 => ?_)
              obtain rfl := (rd_same (i := v12036) (j := v12036) e12055 e12074 (X := v12036.toInt) (Y := v12036.toInt) rfl rfl (by omega)).symm
              refine lv_iload hx hb dX12_week_149 (lv_at hl 3 rfl) ?_
              refine lv_iload hx hb dX12_week_151 (lv_at hl 2 rfl) ?_
              refine mx_i (As := [.int v12054, .int v12031, .int v12038]) (rest := [.int v12031, .int v12054, .ref h0, .int v12036, .ref a12048]) (n := 3) (d := 67) ⟨hx, hb, hml, hown, hts⟩ (c_X12_flowOf l E D G h0 hG0 v12054 v12031 v12038 ⟨by omega, by omega⟩) wd_1459 wd_1461 wp_44 wd_13 wd_1462 (by decide +kernel) ⟨by rw [hR]; exact Nat.le_of_ble_eq_true rfl, by rw [hR]; exact Nat.le_of_ble_eq_true rfl⟩ hI hN hK hS hG0 (trivial) rfl hl.1 rfl (Nat.le_of_ble_eq_true rfl) dX12_week_153 ⟨Nat.zero_le _, Nat.zero_le _⟩ (fun r12075 H locs hI hp hS => ?_)
              refine mr_i (As := [.int v12054, .int v12031, .int r12075]) (rest := [.int v12036, .ref a12048]) (n := 3) (d := 2) ⟨hx, hb, hml, hown, hts⟩ (c_X12_floatsTo l E D G H h0 hG0 v12054 v12031 r12075 ⟨by omega, by omega⟩) wd_1531 wd_1533 wp_60 wd_13 wd_1534 (by decide +kernel) ⟨by rw [hR]; exact Nat.le_of_ble_eq_true rfl, by rw [hR]; exact Nat.le_of_ble_eq_true rfl⟩ hI hN hK hS hG0 rfl hl.1 rfl (Nat.le_of_ble_eq_true rfl) dX12_week_156 ⟨Nat.zero_le _, Nat.zero_le _⟩ (fun r12076 locs hp hS => ?_)
              have hp12077 := hp
              obtain ⟨F12078, hA12079, hP12080⟩ := om_3 hI hq12049 List.not_mem_nil
              refine th_iast hx hb hK hA12079 0 rfl hS ⟨_, hq12049⟩ (iv_in (X := v12036.toInt) rfl (by omega) (by omega)) dX12_week_159 (fun H locs hA12081 oq hS => ?_)
              have hP12082 := rgs_set (k := v12036.toNatClampNeg) (v := r12076) hP12080 (by omega) (by omega)
              have hI := th_I.put hI hq12049 hA12081 (ok_m3 hP12082) oq
              have e12083 : r12076 = (upd F12078 (v12036 : Int32).toNatClampNeg r12076) (v12036 : Int32).toNatClampNeg := rd_us
              obtain ⟨v12084, e12085⟩ : ∃ y : Int32, y = v12036 + (1) := ⟨_, rfl⟩
              have tv12084 : v12084.toInt = v12036.toInt + (1) := iv_add rfl (by decide) e12085 (by omega) (by omega)
              refine lv_iinc (v := v12084) (lv' := [(6, .int v12084), (3, .int v12037), (5, .int v12038), (4, .int v12031), (0, .ref h0), (1, .int x1), (2, .int x2)]) hx hb dX12_week_160 hl (k := 0) rfl (by rw [e12085]; rfl) (by decide) rfl (fun ls hl => ?_)
              refine lv_goto (tgt := 106) hx hb dX12_week_163 (by decide) ?_
              exact ih_106 _ (by omega) H locs ls v12084 v12037 v12038  rfl (lv_sub hl [0, 1, 2, 3, 4, 5, 6] rfl) ⟨by omega, by omega⟩ ⟨by omega, by omega⟩ ⟨by omega, by omega⟩ hI hS
      have J_101 : ∀ (H : Heap) (locs : List Loc) (ls : Array Slot) (v12086 : Int32) (v12089 : Int32) (v12090 : Int32) , lv_has ls 7 [(5, .int v12086), (4, .int v12031), (3, .int v12032), (0, .ref h0), (1, .int x1), (2, .int x2)] → ((0 : Int) ≤ v12086.toInt ∧ v12086.toInt ≤ 1) → ((0 : Int) ≤ v12031.toInt ∧ v12031.toInt ≤ 95) → ((0 : Int) ≤ v12089.toInt ∧ v12089.toInt ≤ 1) → th_I (okM E) D G [] H → va_S (th_A G) s.heap H locs → W p l e R s m args below meth c H locs 0 0 QF (F0 m 101 ls [.int v12089, .int v12090]) := by
        intro H locs ls v12086 v12089 v12090  hl k12091 k12092 k12093 hI hS
        refine lv_iadd hx hb dX12_week_101 ?_
        refine lv_topi (fun v12094 e12095 => ?_)
        try have tv12094 : v12094.toInt = v12090.toInt + v12089.toInt := iv_add rfl rfl e12095 (by omega) (by omega)
        refine lv_istore_n (lv' := [(3, .int v12094), (5, .int v12086), (4, .int v12031), (0, .ref h0), (1, .int x1), (2, .int x2)]) hx hb dX12_week_102 rfl hl (by decide) rfl (fun ls hl => ?_)
        refine lv_iconst (v := 0) hx hb dX12_week_103 (by decide) ?_
        refine lv_istore (lv' := [(6, .int 0), (3, .int v12094), (5, .int v12086), (4, .int v12031), (0, .ref h0), (1, .int x1), (2, .int x2)]) hx hb dX12_week_104 hl (by decide) rfl (fun ls hl => ?_)
        have zl : (0 : Int32).toInt = 0 := by decide
        exact J_106 _ H locs ls 0 v12094 v12086  rfl (lv_sub hl [0, 1, 2, 3, 4, 5, 6] rfl) ⟨by decide, by decide⟩ ⟨by omega, by omega⟩ ⟨by omega, by omega⟩ hI hS
      have J_88 : ∀ (H : Heap) (locs : List Loc) (ls : Array Slot) (v12098 : Int32) , lv_has ls 7 [(4, .int v12031), (3, .int v12032), (0, .ref h0), (1, .int x1), (2, .int x2)] → ((0 : Int) ≤ v12031.toInt ∧ v12031.toInt ≤ 95) → ((0 : Int) ≤ v12098.toInt ∧ v12098.toInt ≤ 1) → th_I (okM E) D G [] H → va_S (th_A G) s.heap H locs → W p l e R s m args below meth c H locs 0 0 QF (F0 m 88 ls [.int v12098]) := by
        intro H locs ls v12098  hl k12099 k12100 hI hS
        refine lv_istore (lv' := [(5, .int v12098), (4, .int v12031), (3, .int v12032), (0, .ref h0), (1, .int x1), (2, .int x2)]) hx hb dX12_week_88 hl (by decide) rfl (fun ls hl => ?_)
        refine lv_iload_n hx hb dX12_week_90 rfl (lv_at hl 2 rfl) ?_
        refine lv_iload hx hb dX12_week_91 (lv_at hl 0 rfl) ?_
        refine lv_if_eq (tgt := 100) hx hb dX12_week_93 (by decide) (fun c12101 => ?_) (fun c12101 => ?_)
        · skip
          have k12102 := iv_eq (X := v12098.toInt) (Y := (0)) rfl (by decide) c12101
          refine lv_iconst (v := 0) hx hb dX12_week_100 (by decide) ?_
          exact J_101 H locs ls v12098 0 v12032  (lv_sub hl [0, 1, 2, 3, 4, 5] rfl) ⟨by omega, by omega⟩ ⟨by omega, by omega⟩ ⟨by decide, by decide⟩ hI hS
        · skip
          have k12103 := iv_ne (X := v12098.toInt) (Y := (0)) rfl (by decide) c12101
          refine lv_iconst (v := 1) hx hb dX12_week_96 (by decide) ?_
          refine lv_goto (tgt := 101) hx hb dX12_week_97 (by decide) ?_
          exact J_101 H locs ls v12098 1 v12032  (lv_sub hl [0, 1, 2, 3, 4, 5] rfl) ⟨by omega, by omega⟩ ⟨by omega, by omega⟩ ⟨by decide, by decide⟩ hI hS
      refine lv_iload hx hb dX12_week_66 (lv_at hl 0 rfl) ?_
      refine lv_bipush (v := 96) hx hb dX12_week_68 (by decide) ?_
      refine lv_icmp_ge (tgt := 172) hx hb dX12_week_70 (by decide) (fun c12104 => ?_) (fun c12104 => ?_)
      · skip
        have k12105 := iv_le (X := (96)) (Y := v12031.toInt) (by decide) rfl c12104
        refine lv_aload_n hx hb dX12_week_172 rfl (lv_at hl 2 rfl) ?_
        refine lv_iload_n hx hb dX12_week_173 rfl (lv_at hl 1 rfl) ?_
        refine mx_i (As := [.int v12032]) (rest := []) (n := 1) (d := 0) ⟨hx, hb, hml, hown, hts⟩ (c_X12_good l E D G h0 hG0 v12032) wd_1402 wd_1404 wp_41 wd_13 wd_1405 (by decide +kernel) ⟨by rw [hR]; exact Nat.le_of_ble_eq_true rfl, by rw [hR]; exact Nat.le_of_ble_eq_true rfl⟩ hI hN hK hS hG0 (trivial) rfl hl.1 rfl (Nat.le_of_ble_eq_true rfl) dX12_week_174 ⟨Nat.zero_le _, Nat.zero_le _⟩ (fun r12106 H locs hI hp hS => ?_)
        obtain rfl := hp.symm
        have hpost : True := trivial
        rw [hQ]
        exact W.iret (v := v12032) hx hb hr (fun t ht hW => ⟨⟨v12032, v12032, rfl, rfl, ⟨by rw [ht]; exact hI, hN.warm hW, va_K.moved hW.alike hK⟩, by first | (rw [ht]; exact hpost) | exact hpost⟩, hS.F ht⟩) hS.2.2 dX12_week_177
      · skip
        have k12107 := iv_nle (X := (96)) (Y := v12031.toInt) (by decide) rfl c12104
        refine lv_aload_n hx hb dX12_week_73 rfl (lv_at hl 2 rfl) ?_
        refine lv_bipush (v := 100) hx hb dX12_week_74 (by decide) ?_
        refine mx_i (As := [.int 100]) (rest := []) (n := 1) (d := 0) ⟨hx, hb, hml, hown, hts⟩ (c_X12_draws_100 l E D G h0 hG0 ) wd_1851 wd_1853 wp_94 wd_13 wd_1854 (by decide +kernel) ⟨by rw [hR]; exact Nat.le_of_ble_eq_true rfl, by rw [hR]; exact Nat.le_of_ble_eq_true rfl⟩ hI hN hK hS hG0 (trivial) rfl hl.1 rfl (Nat.le_of_ble_eq_true rfl) dX12_week_76 ⟨Nat.zero_le _, Nat.zero_le _⟩ (fun r12108 H locs hI hp hS => ?_)
        refine lv_iload_n hx hb dX12_week_79 rfl (lv_at hl 4 rfl) ?_
        have k12109 := iv_lo r12108
        have k12110 := iv_hi r12108
        refine lv_icmp_ge (tgt := 87) hx hb dX12_week_80 (by decide) (fun c12111 => ?_) (fun c12111 => ?_)
        · skip
          have k12112 := iv_le (X := x2.toInt) (Y := r12108.toInt) rfl rfl c12111
          refine lv_iconst (v := 0) hx hb dX12_week_87 (by decide) ?_
          exact J_88 H locs ls 0  (lv_sub hl [0, 1, 2, 3, 4] rfl) ⟨by omega, by omega⟩ ⟨by decide, by decide⟩ hI hS
        · skip
          have k12113 := iv_nle (X := x2.toInt) (Y := r12108.toInt) rfl rfl c12111
          refine lv_iconst (v := 1) hx hb dX12_week_83 (by decide) ?_
          refine lv_goto (tgt := 88) hx hb dX12_week_84 (by decide) ?_
          exact J_88 H locs ls 1  (lv_sub hl [0, 1, 2, 3, 4] rfl) ⟨by omega, by omega⟩ ⟨by decide, by decide⟩ hI hS
  have J_41 : ∀ (nn : Nat) (H : Heap) (locs : List Loc) (ls : Array Slot) (v12114 : Int32) , (Int.toNat (24 - v12114.toInt) = nn) → lv_has ls 7 [(4, .int v12114), (3, .int 0), (0, .ref h0), (1, .int x1), (2, .int x2)] → ((0 : Int) ≤ v12114.toInt ∧ v12114.toInt ≤ 24) → ((0 : Int) ≤ x1.toInt ∧ x1.toInt ≤ 1000000) → ((0 : Int) ≤ x2.toInt ∧ x2.toInt ≤ 100) → th_I (okM E) D G [] H → va_S (th_A G) s.heap H locs → W p l e R s m args below meth c H locs 0 0 QF (F0 m 41 ls []) := by
    intro nn
    induction nn using Nat.strongRecOn with
    | ind nn ih_41 =>
      intro H locs ls v12114  hm hl k12115 k12116 k12117 hI hS
      refine lv_iload hx hb dX12_week_41 (lv_at hl 0 rfl) ?_
      refine lv_bipush (v := 24) hx hb dX12_week_43 (by decide) ?_
      refine lv_icmp_ge (tgt := 63) hx hb dX12_week_45 (by decide) (fun c12118 => ?_) (fun c12118 => ?_)
      · skip
        have k12119 := iv_le (X := (24)) (Y := v12114.toInt) (by decide) rfl c12118
        refine lv_iconst (v := 0) hx hb dX12_week_63 (by decide) ?_
        refine lv_istore (lv' := [(4, .int 0), (3, .int 0), (0, .ref h0), (1, .int x1), (2, .int x2)]) hx hb dX12_week_64 hl (by decide) rfl (fun ls hl => ?_)
        have zl : (0 : Int32).toInt = 0 := by decide
        exact J_66 _ H locs ls 0 0  rfl (lv_sub hl [0, 1, 2, 3, 4] rfl) ⟨by decide, by decide⟩ ⟨by omega, by omega⟩ ⟨by omega, by omega⟩ hI hS
      · skip
        have k12120 := iv_nle (X := (24)) (Y := v12114.toInt) (by decide) rfl c12118
        refine lv_aload_n hx hb dX12_week_48 rfl (lv_at hl 2 rfl) ?_
        refine gmA hx hb hts inT12 hown hK hI List.not_mem_nil hG0 49 (by decide) (hts _ (tb_c wd_1282)) rfl rfl dX12_week_49 (fun a12121 hq12122 hf12123 => ?_)
        refine lv_iload hx hb dX12_week_52 (lv_at hl 0 rfl) ?_
        refine lv_iload hx hb dX12_week_54 (lv_at hl 0 rfl) ?_
        obtain ⟨F12124, hA12125, hP12126⟩ := om_3 hI hq12122 List.not_mem_nil
        refine th_iast hx hb hK hA12125 0 rfl hS ⟨_, hq12122⟩ (iv_in (X := v12114.toInt) rfl (by omega) (by omega)) dX12_week_56 (fun H locs hA12127 oq hS => ?_)
        have hP12128 := rgs_set (k := v12114.toNatClampNeg) (v := v12114) hP12126 (by omega) (by omega)
        have hI := th_I.put hI hq12122 hA12127 (ok_m3 hP12128) oq
        have hf12123 := fr.arr hG0 hq12122 (by decide) oq hf12123
        have e12129 : v12114 = (upd F12124 (v12114 : Int32).toNatClampNeg v12114) (v12114 : Int32).toNatClampNeg := rd_us
        obtain ⟨v12130, e12131⟩ : ∃ y : Int32, y = v12114 + (1) := ⟨_, rfl⟩
        have tv12130 : v12130.toInt = v12114.toInt + (1) := iv_add rfl (by decide) e12131 (by omega) (by omega)
        refine lv_iinc (v := v12130) (lv' := [(4, .int v12130), (3, .int 0), (0, .ref h0), (1, .int x1), (2, .int x2)]) hx hb dX12_week_57 hl (k := 0) rfl (by rw [e12131]; rfl) (by decide) rfl (fun ls hl => ?_)
        refine lv_goto (tgt := 41) hx hb dX12_week_60 (by decide) ?_
        exact ih_41 _ (by omega) H locs ls v12130  rfl (lv_sub hl [0, 1, 2, 3, 4] rfl) ⟨by omega, by omega⟩ ⟨by omega, by omega⟩ ⟨by omega, by omega⟩ hI hS
  have J_20 : ∀ (H : Heap) (locs : List Loc) (ls : Array Slot)  , lv_has ls 7 [(0, .ref h0), (1, .int x1), (2, .int x2)] → th_I (okM E) D G [] H → va_S (th_A G) s.heap H locs → W p l e R s m args below meth c H locs 0 0 QF (F0 m 20 ls []) := by
    intro H locs ls   hl  hI hS
    refine lv_aload_n hx hb dX12_week_20 rfl (lv_at hl 0 rfl) ?_
    refine lv_iconst (v := (-1)) hx hb dX12_week_21 (by decide) ?_
    refine mx_i (As := [.int (-1)]) (rest := []) (n := 1) (d := 0) ⟨hx, hb, hml, hown, hts⟩ (c_X12_refuses l E D G h0 hG0 (-1) ⟨by decide, by decide⟩) wd_1398 wd_1400 wp_40 wd_13 wd_1401 (by decide +kernel) ⟨by rw [hR]; exact Nat.le_of_ble_eq_true rfl, by rw [hR]; exact Nat.le_of_ble_eq_true rfl⟩ hI hN hK hS hG0 (trivial) rfl hl.1 rfl (Nat.le_of_ble_eq_true rfl) dX12_week_22 ⟨Nat.zero_le _, Nat.zero_le _⟩ (fun r12132 H locs hI hp hS => ?_)
    obtain rfl := hp.symm
    have hpost : True := trivial
    rw [hQ]
    exact W.iret (v := (-1)) hx hb hr (fun t ht hW => ⟨⟨(-1), (-1), rfl, rfl, ⟨by rw [ht]; exact hI, hN.warm hW, va_K.moved hW.alike hK⟩, by first | (rw [ht]; exact hpost) | exact hpost⟩, hS.F ht⟩) hS.2.2 dX12_week_25
  refine lv_iload_n hx hb dX12_week_0 rfl (lv_at hl 1 rfl) ?_
  refine lv_iconst (v := 0) hx hb dX12_week_1 (by decide) ?_
  refine lv_ldc hx hb hown (hts _ (tb_c wd_1582)) dX12_week_2 ?_
  refine th_cSs (As := [.int x1, .int 0, .int 1000000]) (rest := []) (n := 3) (d := 0) ⟨hx, hb, hml, hown, hts⟩ (c_X12_lies l s.heap x1 0 1000000) wd_1395 wd_1396 wd_13 wd_1397 (by decide +kernel) ⟨by rw [hR]; exact Nat.le_of_ble_eq_true rfl, by rw [hR]; exact Nat.le_of_ble_eq_true rfl⟩ hN hS rfl hl.1 rfl (Nat.le_of_ble_eq_true rfl) dX12_week_4 ⟨Nat.zero_le _, Nat.zero_le _⟩ (fun r12133 locs hp hS => ?_)
  rcases hp with ⟨rfl, hp⟩ | ⟨rfl, hp⟩
  · skip
    try simp only [rg, not_and, Int.not_le] at hp
    have hp12134 := hp
    try rw [show (0 : Int32).toInt = 0 from by decide] at hp12134
    try rw [show (1000000 : Int32).toInt = 1000000 from by decide] at hp12134
    refine lv_if_eq (tgt := 20) hx hb dX12_week_7 (by decide) (fun c => absurd c (by decide)) (fun _ => ?_)
    refine lv_iload_n hx hb dX12_week_10 rfl (lv_at hl 2 rfl) ?_
    refine lv_iconst (v := 0) hx hb dX12_week_11 (by decide) ?_
    refine lv_bipush (v := 100) hx hb dX12_week_12 (by decide) ?_
    refine th_cSs (As := [.int x2, .int 0, .int 100]) (rest := []) (n := 3) (d := 0) ⟨hx, hb, hml, hown, hts⟩ (c_X12_lies l s.heap x2 0 100) wd_1395 wd_1396 wd_13 wd_1397 (by decide +kernel) ⟨by rw [hR]; exact Nat.le_of_ble_eq_true rfl, by rw [hR]; exact Nat.le_of_ble_eq_true rfl⟩ hN hS rfl hl.1 rfl (Nat.le_of_ble_eq_true rfl) dX12_week_14 ⟨Nat.zero_le _, Nat.zero_le _⟩ (fun r12135 locs hp hS => ?_)
    rcases hp with ⟨rfl, hp⟩ | ⟨rfl, hp⟩
    · skip
      try simp only [rg, not_and, Int.not_le] at hp
      have hp12136 := hp
      try rw [show (0 : Int32).toInt = 0 from by decide] at hp12136
      try rw [show (100 : Int32).toInt = 100 from by decide] at hp12136
      refine lv_if_ne (tgt := 26) hx hb dX12_week_17 (by decide) (fun _ => ?_) (fun c => absurd c (by decide))
      refine lv_aload_n hx hb dX12_week_26 rfl (lv_at hl 0 rfl) ?_
      refine lv_iload_n hx hb dX12_week_27 rfl (lv_at hl 1 rfl) ?_
      refine pmI (ty := .int) hx hb hts inT12 hown hK hI List.not_mem_nil hG0 hS ⟨_, hG0⟩ 51 (by decide) (hts _ (tb_c wd_1284)) rfl rfl (by decide +kernel) rfl rfl rfl (by omega) (by omega) dX12_week_28 (fun H locs hI hgP hS => ?_)
      have hg12137 := hgP.2.1
      refine lv_aload_n hx hb dX12_week_31 rfl (lv_at hl 0 rfl) ?_
      refine lv_iconst (v := 1) hx hb dX12_week_32 (by decide) ?_
      refine pmI (ty := .boolean) hx hb hts inT12 hown hK hI List.not_mem_nil hG0 hS ⟨_, hG0⟩ 50 (by decide) (hts _ (tb_c wd_1283)) rfl rfl (by decide +kernel) (by decide) rfl rfl (by decide) (by decide) dX12_week_33 (fun H locs hI hgP hS => ?_)
      have hg12137 := hgP.2.2.1 51 _ (by decide) (by decide) hg12137
      have hg12138 := hgP.2.1
      refine lv_iconst (v := 0) hx hb dX12_week_36 (by decide) ?_
      refine lv_istore_n (lv' := [(3, .int 0), (0, .ref h0), (1, .int x1), (2, .int x2)]) hx hb dX12_week_37 rfl hl (by decide) rfl (fun ls hl => ?_)
      refine lv_iconst (v := 0) hx hb dX12_week_38 (by decide) ?_
      refine lv_istore (lv' := [(4, .int 0), (3, .int 0), (0, .ref h0), (1, .int x1), (2, .int x2)]) hx hb dX12_week_39 hl (by decide) rfl (fun ls hl => ?_)
      have zl : (0 : Int32).toInt = 0 := by decide
      exact J_41 _ H locs ls 0  rfl (lv_sub hl [0, 1, 2, 3, 4] rfl) ⟨by decide, by decide⟩ ⟨by omega, by omega⟩ ⟨by omega, by omega⟩ hI hS
    · skip
      try simp only [rg, not_and, Int.not_le] at hp
      have hp12139 := hp
      try rw [show (0 : Int32).toInt = 0 from by decide] at hp12139
      try rw [show (100 : Int32).toInt = 100 from by decide] at hp12139
      refine lv_if_ne (tgt := 26) hx hb dX12_week_17 (by decide) (fun c => absurd c (by decide)) (fun _ => ?_)
      exact J_20 s.heap locs ls   (lv_sub hl [0, 1, 2] rfl)  hI hS
  · skip
    try simp only [rg, not_and, Int.not_le] at hp
    have hp12140 := hp
    try rw [show (0 : Int32).toInt = 0 from by decide] at hp12140
    try rw [show (1000000 : Int32).toInt = 1000000 from by decide] at hp12140
    refine lv_if_eq (tgt := 20) hx hb dX12_week_7 (by decide) (fun _ => ?_) (fun c => absurd c (by decide))
    exact J_20 s.heap locs ls   (lv_sub hl [0, 1, 2] rfl)  hI hS
theorem dX12_drawn_0 : decode cX12_drawn 0 = .ok (.aload_n 0, 1) := by decide +kernel
theorem dX12_drawn_1 : decode cX12_drawn 1 = .ok (.getfield 407, 3) := by decide +kernel
theorem dX12_drawn_4 : decode cX12_drawn 4 = .ok (.ifCond .eq 19, 3) := by decide +kernel
theorem dX12_drawn_7 : decode cX12_drawn 7 = .ok (.iload_n 1, 1) := by decide +kernel
theorem dX12_drawn_8 : decode cX12_drawn 8 = .ok (.invokestatic 118, 3) := by decide +kernel
theorem dX12_drawn_11 : decode cX12_drawn 11 = .ok (.ifCond .eq 12, 3) := by decide +kernel
theorem dX12_drawn_14 : decode cX12_drawn 14 = .ok (.aload_n 0, 1) := by decide +kernel
theorem dX12_drawn_15 : decode cX12_drawn 15 = .ok (.getfield 100, 3) := by decide +kernel
theorem dX12_drawn_18 : decode cX12_drawn 18 = .ok (.iload_n 1, 1) := by decide +kernel
theorem dX12_drawn_19 : decode cX12_drawn 19 = .ok (.iaload, 1) := by decide +kernel
theorem dX12_drawn_20 : decode cX12_drawn 20 = .ok (.goto 4, 3) := by decide +kernel
theorem dX12_drawn_23 : decode cX12_drawn 23 = .ok (.iconst (-1), 1) := by decide +kernel
theorem dX12_drawn_24 : decode cX12_drawn 24 = .ok (.ireturn, 1) := by decide +kernel
set_option maxHeartbeats 4000000 in
set_option maxRecDepth 100000 in
theorem c_X12_drawn (l : Launch) (E : Nat → Nat) (D : va_G) (G : th_G) (h0 : Nat) (hG0 : G h0 = some (10, 0)) (x1 : Int32) : Met l yX12_drawn (tb (.code yX12_drawn cX12_drawn 2 (some .int))) (rm 2) (va_Pc [.ref h0, .int x1] (PX E D G (fun H => True))) (QXi E D G (fun r H => True)) 0 0 (th_A G) := by
  refine Met.ofW (cc := cX12_drawn) (maxL := 2) (ret := (some .int)) (by decide) rfl ?_
  intro p e s m args below meth c s₁ B hml hv
  obtain ⟨hav, ⟨hI, hN, hK⟩, hX⟩ := hv
  have hx := B.exec
  have hb := B.bytes
  have hr := B.returns
  have hts := atoms_spec (ws := tb (.code yX12_drawn cX12_drawn 2 (some .int))) B.pre
  have hown : s.vm.findClass RX12 = some m.cls := findClass_of_methodNamed B.named
  have hlocks := B.notSynchronized
  have hS : va_S (th_A G) s.heap s.heap [] := va_S.rf
  have hl := lv_entry ([.ref h0, .int x1]) (n := 2) (Nat.le_of_ble_eq_true rfl)
  rw [show entryFrame m args 2 = entryFrame m ([.ref h0, .int x1] : List Value).toArray 2 from by rw [hav], lg_entry_eq]
  generalize (lg_sl ([.ref h0, .int x1]) ++ List.replicate (2 - (lg_sl ([.ref h0, .int x1])).length) Slot.unset).toArray = ls at hl ⊢
  have hl : lv_has ls 2 [(0, .ref h0), (1, .int x1)] := hl
  generalize hR : (headSpec (tb (.code yX12_drawn cX12_drawn 2 (some .int))) (rm 2)).room = R
  have hR := hR.symm
  generalize hQ : MQ below (QXi E D G (fun r H => True)) args s 0 0 (th_A G) = QF
  have hQ := hQ.symm
  refine lv_aload_n hx hb dX12_drawn_0 rfl (lv_at hl 0 rfl) ?_
  refine gmI hx hb hts inT12 hown hK hI List.not_mem_nil hG0 50 (by decide) (hts _ (tb_c wd_1283)) rfl rfl dX12_drawn_1 (fun w1 hg2 k3 k4 => ?_)
  refine lv_if_eq (tgt := 23) hx hb dX12_drawn_4 (by decide) (fun c5 => ?_) (fun c5 => ?_)
  · skip
    have k6 := iv_eq (X := w1.toInt) (Y := (0)) rfl (by decide) c5
    refine lv_iconst (v := (-1)) hx hb dX12_drawn_23 (by decide) ?_
    have hpost : True := trivial
    rw [hQ]
    exact W.iret (v := (-1)) hx hb hr (fun t ht hW => ⟨⟨(-1), (-1), rfl, rfl, ⟨by rw [ht]; exact hI, hN.warm hW, va_K.moved hW.alike hK⟩, by first | (rw [ht]; exact hpost) | exact hpost⟩, hS.F ht⟩) hS.2.2 dX12_drawn_24
  · skip
    have k7 := iv_ne (X := w1.toInt) (Y := (0)) rfl (by decide) c5
    refine lv_iload_n hx hb dX12_drawn_7 rfl (lv_at hl 1 rfl) ?_
    refine th_cSs (As := [.int x1]) (rest := []) (n := 1) (d := 1) ⟨hx, hb, hml, hown, hts⟩ (c_X12_isCell l s.heap x1) wd_1414 wd_1415 wd_13 wd_1416 (by decide +kernel) ⟨by rw [hR]; exact Nat.le_of_ble_eq_true rfl, by rw [hR]; exact Nat.le_of_ble_eq_true rfl⟩ hN hS rfl hl.1 rfl (Nat.le_of_ble_eq_true rfl) dX12_drawn_8 ⟨Nat.zero_le _, Nat.zero_le _⟩ (fun r8 locs hp hS => ?_)
    rcases hp with ⟨rfl, hp⟩ | ⟨rfl, hp⟩
    · skip
      try simp only [rg, not_and, Int.not_le] at hp
      have hp9 := hp
      refine lv_if_eq (tgt := 23) hx hb dX12_drawn_11 (by decide) (fun c => absurd c (by decide)) (fun _ => ?_)
      refine lv_aload_n hx hb dX12_drawn_14 rfl (lv_at hl 0 rfl) ?_
      refine gmA hx hb hts inT12 hown hK hI List.not_mem_nil hG0 49 (by decide) (hts _ (tb_c wd_1282)) rfl rfl dX12_drawn_15 (fun a10 hq11 hf12 => ?_)
      refine lv_iload_n hx hb dX12_drawn_18 rfl (lv_at hl 1 rfl) ?_
      obtain ⟨F13, hA14, hP15⟩ := om_3 hI hq11 List.not_mem_nil
      refine th_iald hx hb hK hA14 0 rfl (iv_in (X := x1.toInt) rfl (by omega) (by omega)) dX12_drawn_19 (fun v16 e17 => ?_)
      have k18 := rgs_get hP15 e17 (X := x1.toInt) rfl (by omega) (by omega)
      refine lv_goto (tgt := 24) hx hb dX12_drawn_20 (by decide) ?_
      have hpost : True := trivial
      rw [hQ]
      exact W.iret (v := v16) hx hb hr (fun t ht hW => ⟨⟨v16, v16, rfl, rfl, ⟨by rw [ht]; exact hI, hN.warm hW, va_K.moved hW.alike hK⟩, by first | (rw [ht]; exact hpost) | exact hpost⟩, hS.F ht⟩) hS.2.2 dX12_drawn_24
    · skip
      try simp only [rg, not_and, Int.not_le] at hp
      have hp19 := hp
      refine lv_if_eq (tgt := 23) hx hb dX12_drawn_11 (by decide) (fun _ => ?_) (fun c => absurd c (by decide))
      refine lv_iconst (v := (-1)) hx hb dX12_drawn_23 (by decide) ?_
      have hpost : True := trivial
      rw [hQ]
      exact W.iret (v := (-1)) hx hb hr (fun t ht hW => ⟨⟨(-1), (-1), rfl, rfl, ⟨by rw [ht]; exact hI, hN.warm hW, va_K.moved hW.alike hK⟩, by first | (rw [ht]; exact hpost) | exact hpost⟩, hS.F ht⟩) hS.2.2 dX12_drawn_24
theorem dX12_count_0 : decode cX12_count 0 = .ok (.iconst 0, 1) := by decide +kernel
theorem dX12_count_1 : decode cX12_count 1 = .ok (.istore_n 2, 1) := by decide +kernel
theorem dX12_count_2 : decode cX12_count 2 = .ok (.iconst 0, 1) := by decide +kernel
theorem dX12_count_3 : decode cX12_count 3 = .ok (.istore_n 3, 1) := by decide +kernel
theorem dX12_count_4 : decode cX12_count 4 = .ok (.iload_n 3, 1) := by decide +kernel
theorem dX12_count_5 : decode cX12_count 5 = .ok (.bipush 96, 2) := by decide +kernel
theorem dX12_count_7 : decode cX12_count 7 = .ok (.if_icmp .ge 21, 3) := by decide +kernel
theorem dX12_count_10 : decode cX12_count 10 = .ok (.iload_n 2, 1) := by decide +kernel
theorem dX12_count_11 : decode cX12_count 11 = .ok (.aload_n 0, 1) := by decide +kernel
theorem dX12_count_12 : decode cX12_count 12 = .ok (.getfield 20, 3) := by decide +kernel
theorem dX12_count_15 : decode cX12_count 15 = .ok (.bipush 10, 2) := by decide +kernel
theorem dX12_count_17 : decode cX12_count 17 = .ok (.iload_n 3, 1) := by decide +kernel
theorem dX12_count_18 : decode cX12_count 18 = .ok (.iadd, 1) := by decide +kernel
theorem dX12_count_19 : decode cX12_count 19 = .ok (.iaload, 1) := by decide +kernel
theorem dX12_count_20 : decode cX12_count 20 = .ok (.iadd, 1) := by decide +kernel
theorem dX12_count_21 : decode cX12_count 21 = .ok (.istore_n 2, 1) := by decide +kernel
theorem dX12_count_22 : decode cX12_count 22 = .ok (.iinc 3 1, 3) := by decide +kernel
theorem dX12_count_25 : decode cX12_count 25 = .ok (.goto (-21), 3) := by decide +kernel
theorem dX12_count_28 : decode cX12_count 28 = .ok (.iload_n 1, 1) := by decide +kernel
theorem dX12_count_29 : decode cX12_count 29 = .ok (.tableswitch 192 0 15 #[79, 88, 90, 99, 108, 117, 126, 135, 144, 153, 158, 158, 158, 168, 175, 183], 79) := by decide +kernel
theorem dX12_count_108 : decode cX12_count 108 = .ok (.aload_n 0, 1) := by decide +kernel
theorem dX12_count_109 : decode cX12_count 109 = .ok (.getfield 20, 3) := by decide +kernel
theorem dX12_count_112 : decode cX12_count 112 = .ok (.sipush 315, 3) := by decide +kernel
theorem dX12_count_115 : decode cX12_count 115 = .ok (.iaload, 1) := by decide +kernel
theorem dX12_count_116 : decode cX12_count 116 = .ok (.ireturn, 1) := by decide +kernel
theorem dX12_count_117 : decode cX12_count 117 = .ok (.iload_n 2, 1) := by decide +kernel
theorem dX12_count_118 : decode cX12_count 118 = .ok (.ireturn, 1) := by decide +kernel
theorem dX12_count_119 : decode cX12_count 119 = .ok (.aload_n 0, 1) := by decide +kernel
theorem dX12_count_120 : decode cX12_count 120 = .ok (.getfield 20, 3) := by decide +kernel
theorem dX12_count_123 : decode cX12_count 123 = .ok (.sipush 308, 3) := by decide +kernel
theorem dX12_count_126 : decode cX12_count 126 = .ok (.iaload, 1) := by decide +kernel
theorem dX12_count_127 : decode cX12_count 127 = .ok (.ireturn, 1) := by decide +kernel
theorem dX12_count_128 : decode cX12_count 128 = .ok (.aload_n 0, 1) := by decide +kernel
theorem dX12_count_129 : decode cX12_count 129 = .ok (.getfield 20, 3) := by decide +kernel
theorem dX12_count_132 : decode cX12_count 132 = .ok (.sipush 309, 3) := by decide +kernel
theorem dX12_count_135 : decode cX12_count 135 = .ok (.iaload, 1) := by decide +kernel
theorem dX12_count_136 : decode cX12_count 136 = .ok (.ireturn, 1) := by decide +kernel
theorem dX12_count_137 : decode cX12_count 137 = .ok (.aload_n 0, 1) := by decide +kernel
theorem dX12_count_138 : decode cX12_count 138 = .ok (.getfield 20, 3) := by decide +kernel
theorem dX12_count_141 : decode cX12_count 141 = .ok (.sipush 310, 3) := by decide +kernel
theorem dX12_count_144 : decode cX12_count 144 = .ok (.iaload, 1) := by decide +kernel
theorem dX12_count_145 : decode cX12_count 145 = .ok (.ireturn, 1) := by decide +kernel
theorem dX12_count_146 : decode cX12_count 146 = .ok (.aload_n 0, 1) := by decide +kernel
theorem dX12_count_147 : decode cX12_count 147 = .ok (.getfield 20, 3) := by decide +kernel
theorem dX12_count_150 : decode cX12_count 150 = .ok (.sipush 311, 3) := by decide +kernel
theorem dX12_count_153 : decode cX12_count 153 = .ok (.iaload, 1) := by decide +kernel
theorem dX12_count_154 : decode cX12_count 154 = .ok (.ireturn, 1) := by decide +kernel
theorem dX12_count_155 : decode cX12_count 155 = .ok (.aload_n 0, 1) := by decide +kernel
theorem dX12_count_156 : decode cX12_count 156 = .ok (.getfield 20, 3) := by decide +kernel
theorem dX12_count_159 : decode cX12_count 159 = .ok (.sipush 312, 3) := by decide +kernel
theorem dX12_count_162 : decode cX12_count 162 = .ok (.iaload, 1) := by decide +kernel
theorem dX12_count_163 : decode cX12_count 163 = .ok (.ireturn, 1) := by decide +kernel
theorem dX12_count_164 : decode cX12_count 164 = .ok (.aload_n 0, 1) := by decide +kernel
theorem dX12_count_165 : decode cX12_count 165 = .ok (.getfield 20, 3) := by decide +kernel
theorem dX12_count_168 : decode cX12_count 168 = .ok (.sipush 313, 3) := by decide +kernel
theorem dX12_count_171 : decode cX12_count 171 = .ok (.iaload, 1) := by decide +kernel
theorem dX12_count_172 : decode cX12_count 172 = .ok (.ireturn, 1) := by decide +kernel
theorem dX12_count_173 : decode cX12_count 173 = .ok (.aload_n 0, 1) := by decide +kernel
theorem dX12_count_174 : decode cX12_count 174 = .ok (.getfield 20, 3) := by decide +kernel
theorem dX12_count_177 : decode cX12_count 177 = .ok (.sipush 314, 3) := by decide +kernel
theorem dX12_count_180 : decode cX12_count 180 = .ok (.iaload, 1) := by decide +kernel
theorem dX12_count_181 : decode cX12_count 181 = .ok (.ireturn, 1) := by decide +kernel
theorem dX12_count_182 : decode cX12_count 182 = .ok (.aload_n 0, 1) := by decide +kernel
theorem dX12_count_183 : decode cX12_count 183 = .ok (.getfield 132, 3) := by decide +kernel
theorem dX12_count_186 : decode cX12_count 186 = .ok (.ireturn, 1) := by decide +kernel
theorem dX12_count_187 : decode cX12_count 187 = .ok (.aload_n 0, 1) := by decide +kernel
theorem dX12_count_188 : decode cX12_count 188 = .ok (.getfield 7, 3) := by decide +kernel
theorem dX12_count_191 : decode cX12_count 191 = .ok (.iload_n 1, 1) := by decide +kernel
theorem dX12_count_192 : decode cX12_count 192 = .ok (.bipush 9, 2) := by decide +kernel
theorem dX12_count_194 : decode cX12_count 194 = .ok (.isub, 1) := by decide +kernel
theorem dX12_count_195 : decode cX12_count 195 = .ok (.iaload, 1) := by decide +kernel
theorem dX12_count_196 : decode cX12_count 196 = .ok (.ireturn, 1) := by decide +kernel
theorem dX12_count_197 : decode cX12_count 197 = .ok (.aload_n 0, 1) := by decide +kernel
theorem dX12_count_198 : decode cX12_count 198 = .ok (.getfield 7, 3) := by decide +kernel
theorem dX12_count_201 : decode cX12_count 201 = .ok (.iconst 5, 1) := by decide +kernel
theorem dX12_count_202 : decode cX12_count 202 = .ok (.iaload, 1) := by decide +kernel
theorem dX12_count_203 : decode cX12_count 203 = .ok (.ireturn, 1) := by decide +kernel
theorem dX12_count_204 : decode cX12_count 204 = .ok (.aload_n 0, 1) := by decide +kernel
theorem dX12_count_205 : decode cX12_count 205 = .ok (.getfield 7, 3) := by decide +kernel
theorem dX12_count_208 : decode cX12_count 208 = .ok (.bipush 6, 2) := by decide +kernel
theorem dX12_count_210 : decode cX12_count 210 = .ok (.iaload, 1) := by decide +kernel
theorem dX12_count_211 : decode cX12_count 211 = .ok (.ireturn, 1) := by decide +kernel
theorem dX12_count_212 : decode cX12_count 212 = .ok (.aload_n 0, 1) := by decide +kernel
theorem dX12_count_213 : decode cX12_count 213 = .ok (.getfield 20, 3) := by decide +kernel
theorem dX12_count_216 : decode cX12_count 216 = .ok (.sipush 316, 3) := by decide +kernel
theorem dX12_count_219 : decode cX12_count 219 = .ok (.iaload, 1) := by decide +kernel
theorem dX12_count_220 : decode cX12_count 220 = .ok (.ireturn, 1) := by decide +kernel
theorem dX12_count_221 : decode cX12_count 221 = .ok (.iconst (-1), 1) := by decide +kernel
theorem dX12_count_222 : decode cX12_count 222 = .ok (.ireturn, 1) := by decide +kernel
set_option maxHeartbeats 4000000 in
set_option maxRecDepth 100000 in
theorem c_X12_count (l : Launch) (E : Nat → Nat) (D : va_G) (G : th_G) (h0 : Nat) (hG0 : G h0 = some (10, 0)) (x1 : Int32) : Met l yX12_count (tb (.code yX12_count cX12_count 4 (some .int))) (rm 0) (va_Pc [.ref h0, .int x1] (PX E D G (fun H => True))) (QXi E D G (fun r H => True)) 0 0 (th_A G) := by
  refine Met.ofW (cc := cX12_count) (maxL := 4) (ret := (some .int)) (by decide) rfl ?_
  intro p e s m args below meth c s₁ B hml hv
  obtain ⟨hav, ⟨hI, hN, hK⟩, hX⟩ := hv
  have hx := B.exec
  have hb := B.bytes
  have hr := B.returns
  have hts := atoms_spec (ws := tb (.code yX12_count cX12_count 4 (some .int))) B.pre
  have hown : s.vm.findClass RX12 = some m.cls := findClass_of_methodNamed B.named
  have hlocks := B.notSynchronized
  have hS : va_S (th_A G) s.heap s.heap [] := va_S.rf
  have hl := lv_entry ([.ref h0, .int x1]) (n := 4) (Nat.le_of_ble_eq_true rfl)
  rw [show entryFrame m args 4 = entryFrame m ([.ref h0, .int x1] : List Value).toArray 4 from by rw [hav], lg_entry_eq]
  generalize (lg_sl ([.ref h0, .int x1]) ++ List.replicate (4 - (lg_sl ([.ref h0, .int x1])).length) Slot.unset).toArray = ls at hl ⊢
  have hl : lv_has ls 4 [(0, .ref h0), (1, .int x1)] := hl
  generalize hR : (headSpec (tb (.code yX12_count cX12_count 4 (some .int))) (rm 0)).room = R
  have hR := hR.symm
  generalize hQ : MQ below (QXi E D G (fun r H => True)) args s 0 0 (th_A G) = QF
  have hQ := hQ.symm
  have J_4 : ∀ (nn : Nat) (H : Heap) (locs : List Loc) (ls : Array Slot) (v1708 : Int32) (v1709 : Int32) , (Int.toNat (96 - v1708.toInt) = nn) → lv_has ls 4 [(3, .int v1708), (2, .int v1709), (0, .ref h0), (1, .int x1)] → ((0 : Int) ≤ v1708.toInt ∧ v1708.toInt ≤ 96) → th_I (okM E) D G [] H → va_S (th_A G) s.heap H locs → W p l e R s m args below meth c H locs 0 0 QF (F0 m 4 ls []) := by
    intro nn
    induction nn using Nat.strongRecOn with
    | ind nn ih_4 =>
      intro H locs ls v1708 v1709  hm hl k1710 hI hS
      refine lv_iload_n hx hb dX12_count_4 rfl (lv_at hl 0 rfl) ?_
      refine lv_bipush (v := 96) hx hb dX12_count_5 (by decide) ?_
      refine lv_icmp_ge (tgt := 28) hx hb dX12_count_7 (by decide) (fun c1711 => ?_) (fun c1711 => ?_)
      · skip
        have k1712 := iv_le (X := (96)) (Y := v1708.toInt) (by decide) rfl c1711
        refine lv_iload_n hx hb dX12_count_28 rfl (lv_at hl 3 rfl) ?_
        have k1713 := iv_lo x1
        have k1714 := iv_hi x1
        by_cases c1715 : x1 = 0
        · skip
          have k1716 := iv_eq (X := x1.toInt) (Y := 0) rfl (by decide) c1715
          refine lv_tableIn (tgt := 108) (off := 79) hx hb dX12_count_29 (by omega) (by omega) (by rw [k1716]; rfl) (by decide) ?_
          refine lv_aload_n hx hb dX12_count_108 rfl (lv_at hl 2 rfl) ?_
          refine gmA hx hb hts inT12 hown hK hI List.not_mem_nil hG0 3 (by decide) (hts _ (tb_c wd_1236)) rfl rfl dX12_count_109 (fun a1717 hq1718 hf1719 => ?_)
          refine lv_sipush (v := 315) hx hb dX12_count_112 (by decide) ?_
          obtain ⟨F1720, hA1721, hP1722⟩ := om_1 hI hq1718 List.not_mem_nil
          refine th_iald hx hb hK hA1721 0 rfl (iv_in (X := (315)) (by decide) (by omega) (by omega)) dX12_count_115 (fun v1723 e1724 => ?_)
          have k1725 := kg_m315 (kOk.get (i := 315) hP1722 e1724 (X := (315)) (by decide) (by omega) (by omega)) (by omega) (by omega) (by omega)
          have hpost : True := trivial
          rw [hQ]
          exact W.iret (v := v1723) hx hb hr (fun t ht hW => ⟨⟨v1723, v1723, rfl, rfl, ⟨by rw [ht]; exact hI, hN.warm hW, va_K.moved hW.alike hK⟩, by first | (rw [ht]; exact hpost) | exact hpost⟩, hS.F ht⟩) hS.2.2 dX12_count_116
        have k1726 := iv_ne (X := x1.toInt) (Y := 0) rfl (by decide) c1715
        by_cases c1727 : x1 = 1
        · skip
          have k1728 := iv_eq (X := x1.toInt) (Y := 1) rfl (by decide) c1727
          refine lv_tableIn (tgt := 117) (off := 88) hx hb dX12_count_29 (by omega) (by omega) (by rw [k1728]; rfl) (by decide) ?_
          refine lv_iload_n hx hb dX12_count_117 rfl (lv_at hl 1 rfl) ?_
          have hpost : True := trivial
          rw [hQ]
          exact W.iret (v := v1709) hx hb hr (fun t ht hW => ⟨⟨v1709, v1709, rfl, rfl, ⟨by rw [ht]; exact hI, hN.warm hW, va_K.moved hW.alike hK⟩, by first | (rw [ht]; exact hpost) | exact hpost⟩, hS.F ht⟩) hS.2.2 dX12_count_118
        have k1729 := iv_ne (X := x1.toInt) (Y := 1) rfl (by decide) c1727
        by_cases c1730 : x1 = 2
        · skip
          have k1731 := iv_eq (X := x1.toInt) (Y := 2) rfl (by decide) c1730
          refine lv_tableIn (tgt := 119) (off := 90) hx hb dX12_count_29 (by omega) (by omega) (by rw [k1731]; rfl) (by decide) ?_
          refine lv_aload_n hx hb dX12_count_119 rfl (lv_at hl 2 rfl) ?_
          refine gmA hx hb hts inT12 hown hK hI List.not_mem_nil hG0 3 (by decide) (hts _ (tb_c wd_1236)) rfl rfl dX12_count_120 (fun a1732 hq1733 hf1734 => ?_)
          refine lv_sipush (v := 308) hx hb dX12_count_123 (by decide) ?_
          obtain ⟨F1735, hA1736, hP1737⟩ := om_1 hI hq1733 List.not_mem_nil
          refine th_iald hx hb hK hA1736 0 rfl (iv_in (X := (308)) (by decide) (by omega) (by omega)) dX12_count_126 (fun v1738 e1739 => ?_)
          have k1740 := kg_m308 (kOk.get (i := 308) hP1737 e1739 (X := (308)) (by decide) (by omega) (by omega)) (by omega) (by omega) (by omega)
          have hpost : True := trivial
          rw [hQ]
          exact W.iret (v := v1738) hx hb hr (fun t ht hW => ⟨⟨v1738, v1738, rfl, rfl, ⟨by rw [ht]; exact hI, hN.warm hW, va_K.moved hW.alike hK⟩, by first | (rw [ht]; exact hpost) | exact hpost⟩, hS.F ht⟩) hS.2.2 dX12_count_127
        have k1741 := iv_ne (X := x1.toInt) (Y := 2) rfl (by decide) c1730
        by_cases c1742 : x1 = 3
        · skip
          have k1743 := iv_eq (X := x1.toInt) (Y := 3) rfl (by decide) c1742
          refine lv_tableIn (tgt := 128) (off := 99) hx hb dX12_count_29 (by omega) (by omega) (by rw [k1743]; rfl) (by decide) ?_
          refine lv_aload_n hx hb dX12_count_128 rfl (lv_at hl 2 rfl) ?_
          refine gmA hx hb hts inT12 hown hK hI List.not_mem_nil hG0 3 (by decide) (hts _ (tb_c wd_1236)) rfl rfl dX12_count_129 (fun a1744 hq1745 hf1746 => ?_)
          refine lv_sipush (v := 309) hx hb dX12_count_132 (by decide) ?_
          obtain ⟨F1747, hA1748, hP1749⟩ := om_1 hI hq1745 List.not_mem_nil
          refine th_iald hx hb hK hA1748 0 rfl (iv_in (X := (309)) (by decide) (by omega) (by omega)) dX12_count_135 (fun v1750 e1751 => ?_)
          have k1752 := kg_m309 (kOk.get (i := 309) hP1749 e1751 (X := (309)) (by decide) (by omega) (by omega)) (by omega) (by omega) (by omega)
          have hpost : True := trivial
          rw [hQ]
          exact W.iret (v := v1750) hx hb hr (fun t ht hW => ⟨⟨v1750, v1750, rfl, rfl, ⟨by rw [ht]; exact hI, hN.warm hW, va_K.moved hW.alike hK⟩, by first | (rw [ht]; exact hpost) | exact hpost⟩, hS.F ht⟩) hS.2.2 dX12_count_136
        have k1753 := iv_ne (X := x1.toInt) (Y := 3) rfl (by decide) c1742
        by_cases c1754 : x1 = 4
        · skip
          have k1755 := iv_eq (X := x1.toInt) (Y := 4) rfl (by decide) c1754
          refine lv_tableIn (tgt := 137) (off := 108) hx hb dX12_count_29 (by omega) (by omega) (by rw [k1755]; rfl) (by decide) ?_
          refine lv_aload_n hx hb dX12_count_137 rfl (lv_at hl 2 rfl) ?_
          refine gmA hx hb hts inT12 hown hK hI List.not_mem_nil hG0 3 (by decide) (hts _ (tb_c wd_1236)) rfl rfl dX12_count_138 (fun a1756 hq1757 hf1758 => ?_)
          refine lv_sipush (v := 310) hx hb dX12_count_141 (by decide) ?_
          obtain ⟨F1759, hA1760, hP1761⟩ := om_1 hI hq1757 List.not_mem_nil
          refine th_iald hx hb hK hA1760 0 rfl (iv_in (X := (310)) (by decide) (by omega) (by omega)) dX12_count_144 (fun v1762 e1763 => ?_)
          have k1764 := kg_m310 (kOk.get (i := 310) hP1761 e1763 (X := (310)) (by decide) (by omega) (by omega)) (by omega) (by omega) (by omega)
          have hpost : True := trivial
          rw [hQ]
          exact W.iret (v := v1762) hx hb hr (fun t ht hW => ⟨⟨v1762, v1762, rfl, rfl, ⟨by rw [ht]; exact hI, hN.warm hW, va_K.moved hW.alike hK⟩, by first | (rw [ht]; exact hpost) | exact hpost⟩, hS.F ht⟩) hS.2.2 dX12_count_145
        have k1765 := iv_ne (X := x1.toInt) (Y := 4) rfl (by decide) c1754
        by_cases c1766 : x1 = 5
        · skip
          have k1767 := iv_eq (X := x1.toInt) (Y := 5) rfl (by decide) c1766
          refine lv_tableIn (tgt := 146) (off := 117) hx hb dX12_count_29 (by omega) (by omega) (by rw [k1767]; rfl) (by decide) ?_
          refine lv_aload_n hx hb dX12_count_146 rfl (lv_at hl 2 rfl) ?_
          refine gmA hx hb hts inT12 hown hK hI List.not_mem_nil hG0 3 (by decide) (hts _ (tb_c wd_1236)) rfl rfl dX12_count_147 (fun a1768 hq1769 hf1770 => ?_)
          refine lv_sipush (v := 311) hx hb dX12_count_150 (by decide) ?_
          obtain ⟨F1771, hA1772, hP1773⟩ := om_1 hI hq1769 List.not_mem_nil
          refine th_iald hx hb hK hA1772 0 rfl (iv_in (X := (311)) (by decide) (by omega) (by omega)) dX12_count_153 (fun v1774 e1775 => ?_)
          have k1776 := kg_m311 (kOk.get (i := 311) hP1773 e1775 (X := (311)) (by decide) (by omega) (by omega)) (by omega) (by omega) (by omega)
          have hpost : True := trivial
          rw [hQ]
          exact W.iret (v := v1774) hx hb hr (fun t ht hW => ⟨⟨v1774, v1774, rfl, rfl, ⟨by rw [ht]; exact hI, hN.warm hW, va_K.moved hW.alike hK⟩, by first | (rw [ht]; exact hpost) | exact hpost⟩, hS.F ht⟩) hS.2.2 dX12_count_154
        have k1777 := iv_ne (X := x1.toInt) (Y := 5) rfl (by decide) c1766
        by_cases c1778 : x1 = 6
        · skip
          have k1779 := iv_eq (X := x1.toInt) (Y := 6) rfl (by decide) c1778
          refine lv_tableIn (tgt := 155) (off := 126) hx hb dX12_count_29 (by omega) (by omega) (by rw [k1779]; rfl) (by decide) ?_
          refine lv_aload_n hx hb dX12_count_155 rfl (lv_at hl 2 rfl) ?_
          refine gmA hx hb hts inT12 hown hK hI List.not_mem_nil hG0 3 (by decide) (hts _ (tb_c wd_1236)) rfl rfl dX12_count_156 (fun a1780 hq1781 hf1782 => ?_)
          refine lv_sipush (v := 312) hx hb dX12_count_159 (by decide) ?_
          obtain ⟨F1783, hA1784, hP1785⟩ := om_1 hI hq1781 List.not_mem_nil
          refine th_iald hx hb hK hA1784 0 rfl (iv_in (X := (312)) (by decide) (by omega) (by omega)) dX12_count_162 (fun v1786 e1787 => ?_)
          have k1788 := kg_m312 (kOk.get (i := 312) hP1785 e1787 (X := (312)) (by decide) (by omega) (by omega)) (by omega) (by omega) (by omega)
          have hpost : True := trivial
          rw [hQ]
          exact W.iret (v := v1786) hx hb hr (fun t ht hW => ⟨⟨v1786, v1786, rfl, rfl, ⟨by rw [ht]; exact hI, hN.warm hW, va_K.moved hW.alike hK⟩, by first | (rw [ht]; exact hpost) | exact hpost⟩, hS.F ht⟩) hS.2.2 dX12_count_163
        have k1789 := iv_ne (X := x1.toInt) (Y := 6) rfl (by decide) c1778
        by_cases c1790 : x1 = 7
        · skip
          have k1791 := iv_eq (X := x1.toInt) (Y := 7) rfl (by decide) c1790
          refine lv_tableIn (tgt := 164) (off := 135) hx hb dX12_count_29 (by omega) (by omega) (by rw [k1791]; rfl) (by decide) ?_
          refine lv_aload_n hx hb dX12_count_164 rfl (lv_at hl 2 rfl) ?_
          refine gmA hx hb hts inT12 hown hK hI List.not_mem_nil hG0 3 (by decide) (hts _ (tb_c wd_1236)) rfl rfl dX12_count_165 (fun a1792 hq1793 hf1794 => ?_)
          refine lv_sipush (v := 313) hx hb dX12_count_168 (by decide) ?_
          obtain ⟨F1795, hA1796, hP1797⟩ := om_1 hI hq1793 List.not_mem_nil
          refine th_iald hx hb hK hA1796 0 rfl (iv_in (X := (313)) (by decide) (by omega) (by omega)) dX12_count_171 (fun v1798 e1799 => ?_)
          have k1800 := kg_m313 (kOk.get (i := 313) hP1797 e1799 (X := (313)) (by decide) (by omega) (by omega)) (by omega) (by omega) (by omega)
          have hpost : True := trivial
          rw [hQ]
          exact W.iret (v := v1798) hx hb hr (fun t ht hW => ⟨⟨v1798, v1798, rfl, rfl, ⟨by rw [ht]; exact hI, hN.warm hW, va_K.moved hW.alike hK⟩, by first | (rw [ht]; exact hpost) | exact hpost⟩, hS.F ht⟩) hS.2.2 dX12_count_172
        have k1801 := iv_ne (X := x1.toInt) (Y := 7) rfl (by decide) c1790
        by_cases c1802 : x1 = 8
        · skip
          have k1803 := iv_eq (X := x1.toInt) (Y := 8) rfl (by decide) c1802
          refine lv_tableIn (tgt := 173) (off := 144) hx hb dX12_count_29 (by omega) (by omega) (by rw [k1803]; rfl) (by decide) ?_
          refine lv_aload_n hx hb dX12_count_173 rfl (lv_at hl 2 rfl) ?_
          refine gmA hx hb hts inT12 hown hK hI List.not_mem_nil hG0 3 (by decide) (hts _ (tb_c wd_1236)) rfl rfl dX12_count_174 (fun a1804 hq1805 hf1806 => ?_)
          refine lv_sipush (v := 314) hx hb dX12_count_177 (by decide) ?_
          obtain ⟨F1807, hA1808, hP1809⟩ := om_1 hI hq1805 List.not_mem_nil
          refine th_iald hx hb hK hA1808 0 rfl (iv_in (X := (314)) (by decide) (by omega) (by omega)) dX12_count_180 (fun v1810 e1811 => ?_)
          have k1812 := kg_m314 (kOk.get (i := 314) hP1809 e1811 (X := (314)) (by decide) (by omega) (by omega)) (by omega) (by omega) (by omega)
          have hpost : True := trivial
          rw [hQ]
          exact W.iret (v := v1810) hx hb hr (fun t ht hW => ⟨⟨v1810, v1810, rfl, rfl, ⟨by rw [ht]; exact hI, hN.warm hW, va_K.moved hW.alike hK⟩, by first | (rw [ht]; exact hpost) | exact hpost⟩, hS.F ht⟩) hS.2.2 dX12_count_181
        have k1813 := iv_ne (X := x1.toInt) (Y := 8) rfl (by decide) c1802
        by_cases c1814 : x1 = 9
        · skip
          have k1815 := iv_eq (X := x1.toInt) (Y := 9) rfl (by decide) c1814
          refine lv_tableIn (tgt := 182) (off := 153) hx hb dX12_count_29 (by omega) (by omega) (by rw [k1815]; rfl) (by decide) ?_
          refine lv_aload_n hx hb dX12_count_182 rfl (lv_at hl 2 rfl) ?_
          refine gmI hx hb hts inT12 hown hK hI List.not_mem_nil hG0 10 (by decide) (hts _ (tb_c wd_1243)) rfl rfl dX12_count_183 (fun w1816 hg1817 k1818 k1819 => ?_)
          have hpost : True := trivial
          rw [hQ]
          exact W.iret (v := w1816) hx hb hr (fun t ht hW => ⟨⟨w1816, w1816, rfl, rfl, ⟨by rw [ht]; exact hI, hN.warm hW, va_K.moved hW.alike hK⟩, by first | (rw [ht]; exact hpost) | exact hpost⟩, hS.F ht⟩) hS.2.2 dX12_count_186
        have k1820 := iv_ne (X := x1.toInt) (Y := 9) rfl (by decide) c1814
        by_cases c1821 : x1 = 10
        · skip
          have k1822 := iv_eq (X := x1.toInt) (Y := 10) rfl (by decide) c1821
          refine lv_tableIn (tgt := 187) (off := 158) hx hb dX12_count_29 (by omega) (by omega) (by rw [k1822]; rfl) (by decide) ?_
          refine lv_aload_n hx hb dX12_count_187 rfl (lv_at hl 2 rfl) ?_
          refine gmA hx hb hts inT12 hown hK hI List.not_mem_nil hG0 2 (by decide) (hts _ (tb_c wd_1235)) rfl rfl dX12_count_188 (fun a1823 hq1824 hf1825 => ?_)
          refine lv_iload_n hx hb dX12_count_191 rfl (lv_at hl 3 rfl) ?_
          refine lv_bipush (v := 9) hx hb dX12_count_192 (by decide) ?_
          refine lv_isub hx hb dX12_count_194 ?_
          refine lv_topi (fun v1826 e1827 => ?_)
          have tv1826 : v1826.toInt = x1.toInt - (9) := iv_sub rfl (by decide) e1827 (by omega) (by omega)
          obtain ⟨F1828, hA1829⟩ := om_0 hI hq1824 List.not_mem_nil
          refine th_iald hx hb hK hA1829 0 rfl (iv_in (X := v1826.toInt) rfl (by omega) (by omega)) dX12_count_195 (fun v1830 e1831 => ?_)
          have hpost : True := trivial
          rw [hQ]
          exact W.iret (v := v1830) hx hb hr (fun t ht hW => ⟨⟨v1830, v1830, rfl, rfl, ⟨by rw [ht]; exact hI, hN.warm hW, va_K.moved hW.alike hK⟩, by first | (rw [ht]; exact hpost) | exact hpost⟩, hS.F ht⟩) hS.2.2 dX12_count_196
        have k1832 := iv_ne (X := x1.toInt) (Y := 10) rfl (by decide) c1821
        by_cases c1833 : x1 = 11
        · skip
          have k1834 := iv_eq (X := x1.toInt) (Y := 11) rfl (by decide) c1833
          refine lv_tableIn (tgt := 187) (off := 158) hx hb dX12_count_29 (by omega) (by omega) (by rw [k1834]; rfl) (by decide) ?_
          refine lv_aload_n hx hb dX12_count_187 rfl (lv_at hl 2 rfl) ?_
          refine gmA hx hb hts inT12 hown hK hI List.not_mem_nil hG0 2 (by decide) (hts _ (tb_c wd_1235)) rfl rfl dX12_count_188 (fun a1835 hq1836 hf1837 => ?_)
          refine lv_iload_n hx hb dX12_count_191 rfl (lv_at hl 3 rfl) ?_
          refine lv_bipush (v := 9) hx hb dX12_count_192 (by decide) ?_
          refine lv_isub hx hb dX12_count_194 ?_
          refine lv_topi (fun v1838 e1839 => ?_)
          have tv1838 : v1838.toInt = x1.toInt - (9) := iv_sub rfl (by decide) e1839 (by omega) (by omega)
          obtain ⟨F1840, hA1841⟩ := om_0 hI hq1836 List.not_mem_nil
          refine th_iald hx hb hK hA1841 0 rfl (iv_in (X := v1838.toInt) rfl (by omega) (by omega)) dX12_count_195 (fun v1842 e1843 => ?_)
          have hpost : True := trivial
          rw [hQ]
          exact W.iret (v := v1842) hx hb hr (fun t ht hW => ⟨⟨v1842, v1842, rfl, rfl, ⟨by rw [ht]; exact hI, hN.warm hW, va_K.moved hW.alike hK⟩, by first | (rw [ht]; exact hpost) | exact hpost⟩, hS.F ht⟩) hS.2.2 dX12_count_196
        have k1844 := iv_ne (X := x1.toInt) (Y := 11) rfl (by decide) c1833
        by_cases c1845 : x1 = 12
        · skip
          have k1846 := iv_eq (X := x1.toInt) (Y := 12) rfl (by decide) c1845
          refine lv_tableIn (tgt := 187) (off := 158) hx hb dX12_count_29 (by omega) (by omega) (by rw [k1846]; rfl) (by decide) ?_
          refine lv_aload_n hx hb dX12_count_187 rfl (lv_at hl 2 rfl) ?_
          refine gmA hx hb hts inT12 hown hK hI List.not_mem_nil hG0 2 (by decide) (hts _ (tb_c wd_1235)) rfl rfl dX12_count_188 (fun a1847 hq1848 hf1849 => ?_)
          refine lv_iload_n hx hb dX12_count_191 rfl (lv_at hl 3 rfl) ?_
          refine lv_bipush (v := 9) hx hb dX12_count_192 (by decide) ?_
          refine lv_isub hx hb dX12_count_194 ?_
          refine lv_topi (fun v1850 e1851 => ?_)
          have tv1850 : v1850.toInt = x1.toInt - (9) := iv_sub rfl (by decide) e1851 (by omega) (by omega)
          obtain ⟨F1852, hA1853⟩ := om_0 hI hq1848 List.not_mem_nil
          refine th_iald hx hb hK hA1853 0 rfl (iv_in (X := v1850.toInt) rfl (by omega) (by omega)) dX12_count_195 (fun v1854 e1855 => ?_)
          have hpost : True := trivial
          rw [hQ]
          exact W.iret (v := v1854) hx hb hr (fun t ht hW => ⟨⟨v1854, v1854, rfl, rfl, ⟨by rw [ht]; exact hI, hN.warm hW, va_K.moved hW.alike hK⟩, by first | (rw [ht]; exact hpost) | exact hpost⟩, hS.F ht⟩) hS.2.2 dX12_count_196
        have k1856 := iv_ne (X := x1.toInt) (Y := 12) rfl (by decide) c1845
        by_cases c1857 : x1 = 13
        · skip
          have k1858 := iv_eq (X := x1.toInt) (Y := 13) rfl (by decide) c1857
          refine lv_tableIn (tgt := 197) (off := 168) hx hb dX12_count_29 (by omega) (by omega) (by rw [k1858]; rfl) (by decide) ?_
          refine lv_aload_n hx hb dX12_count_197 rfl (lv_at hl 2 rfl) ?_
          refine gmA hx hb hts inT12 hown hK hI List.not_mem_nil hG0 2 (by decide) (hts _ (tb_c wd_1235)) rfl rfl dX12_count_198 (fun a1859 hq1860 hf1861 => ?_)
          refine lv_iconst (v := 5) hx hb dX12_count_201 (by decide) ?_
          obtain ⟨F1862, hA1863⟩ := om_0 hI hq1860 List.not_mem_nil
          refine th_iald hx hb hK hA1863 0 rfl (iv_in (X := (5)) (by decide) (by omega) (by omega)) dX12_count_202 (fun v1864 e1865 => ?_)
          have hpost : True := trivial
          rw [hQ]
          exact W.iret (v := v1864) hx hb hr (fun t ht hW => ⟨⟨v1864, v1864, rfl, rfl, ⟨by rw [ht]; exact hI, hN.warm hW, va_K.moved hW.alike hK⟩, by first | (rw [ht]; exact hpost) | exact hpost⟩, hS.F ht⟩) hS.2.2 dX12_count_203
        have k1866 := iv_ne (X := x1.toInt) (Y := 13) rfl (by decide) c1857
        by_cases c1867 : x1 = 14
        · skip
          have k1868 := iv_eq (X := x1.toInt) (Y := 14) rfl (by decide) c1867
          refine lv_tableIn (tgt := 204) (off := 175) hx hb dX12_count_29 (by omega) (by omega) (by rw [k1868]; rfl) (by decide) ?_
          refine lv_aload_n hx hb dX12_count_204 rfl (lv_at hl 2 rfl) ?_
          refine gmA hx hb hts inT12 hown hK hI List.not_mem_nil hG0 2 (by decide) (hts _ (tb_c wd_1235)) rfl rfl dX12_count_205 (fun a1869 hq1870 hf1871 => ?_)
          refine lv_bipush (v := 6) hx hb dX12_count_208 (by decide) ?_
          obtain ⟨F1872, hA1873⟩ := om_0 hI hq1870 List.not_mem_nil
          refine th_iald hx hb hK hA1873 0 rfl (iv_in (X := (6)) (by decide) (by omega) (by omega)) dX12_count_210 (fun v1874 e1875 => ?_)
          have hpost : True := trivial
          rw [hQ]
          exact W.iret (v := v1874) hx hb hr (fun t ht hW => ⟨⟨v1874, v1874, rfl, rfl, ⟨by rw [ht]; exact hI, hN.warm hW, va_K.moved hW.alike hK⟩, by first | (rw [ht]; exact hpost) | exact hpost⟩, hS.F ht⟩) hS.2.2 dX12_count_211
        have k1876 := iv_ne (X := x1.toInt) (Y := 14) rfl (by decide) c1867
        by_cases c1877 : x1 = 15
        · skip
          have k1878 := iv_eq (X := x1.toInt) (Y := 15) rfl (by decide) c1877
          refine lv_tableIn (tgt := 212) (off := 183) hx hb dX12_count_29 (by omega) (by omega) (by rw [k1878]; rfl) (by decide) ?_
          refine lv_aload_n hx hb dX12_count_212 rfl (lv_at hl 2 rfl) ?_
          refine gmA hx hb hts inT12 hown hK hI List.not_mem_nil hG0 3 (by decide) (hts _ (tb_c wd_1236)) rfl rfl dX12_count_213 (fun a1879 hq1880 hf1881 => ?_)
          refine lv_sipush (v := 316) hx hb dX12_count_216 (by decide) ?_
          obtain ⟨F1882, hA1883, hP1884⟩ := om_1 hI hq1880 List.not_mem_nil
          refine th_iald hx hb hK hA1883 0 rfl (iv_in (X := (316)) (by decide) (by omega) (by omega)) dX12_count_219 (fun v1885 e1886 => ?_)
          have k1887 := kg_force (kOk.get (i := 316) hP1884 e1886 (X := (316)) (by decide) (by omega) (by omega)) (by omega) (by omega) (by omega)
          have hpost : True := trivial
          rw [hQ]
          exact W.iret (v := v1885) hx hb hr (fun t ht hW => ⟨⟨v1885, v1885, rfl, rfl, ⟨by rw [ht]; exact hI, hN.warm hW, va_K.moved hW.alike hK⟩, by first | (rw [ht]; exact hpost) | exact hpost⟩, hS.F ht⟩) hS.2.2 dX12_count_220
        have k1888 := iv_ne (X := x1.toInt) (Y := 15) rfl (by decide) c1877
        refine lv_tableOut (tgt := 221) hx hb dX12_count_29 (by omega) (by decide) ?_
        refine lv_iconst (v := (-1)) hx hb dX12_count_221 (by decide) ?_
        have hpost : True := trivial
        rw [hQ]
        exact W.iret (v := (-1)) hx hb hr (fun t ht hW => ⟨⟨(-1), (-1), rfl, rfl, ⟨by rw [ht]; exact hI, hN.warm hW, va_K.moved hW.alike hK⟩, by first | (rw [ht]; exact hpost) | exact hpost⟩, hS.F ht⟩) hS.2.2 dX12_count_222
      · skip
        have k1889 := iv_nle (X := (96)) (Y := v1708.toInt) (by decide) rfl c1711
        refine lv_iload_n hx hb dX12_count_10 rfl (lv_at hl 1 rfl) ?_
        refine lv_aload_n hx hb dX12_count_11 rfl (lv_at hl 2 rfl) ?_
        refine gmA hx hb hts inT12 hown hK hI List.not_mem_nil hG0 3 (by decide) (hts _ (tb_c wd_1236)) rfl rfl dX12_count_12 (fun a1890 hq1891 hf1892 => ?_)
        refine lv_bipush (v := 10) hx hb dX12_count_15 (by decide) ?_
        refine lv_iload_n hx hb dX12_count_17 rfl (lv_at hl 0 rfl) ?_
        refine lv_iadd hx hb dX12_count_18 ?_
        refine lv_topi (fun v1893 e1894 => ?_)
        have tv1893 : v1893.toInt = (10) + v1708.toInt := iv_add (by decide) rfl e1894 (by omega) (by omega)
        obtain ⟨F1895, hA1896, hP1897⟩ := om_1 hI hq1891 List.not_mem_nil
        refine th_iald hx hb hK hA1896 0 rfl (iv_in (X := v1893.toInt) rfl (by omega) (by omega)) dX12_count_19 (fun v1898 e1899 => ?_)
        refine lv_iadd hx hb dX12_count_20 ?_
        refine lv_topi (fun v1900 e1901 => ?_)
        try have tv1900 : v1900.toInt = v1709.toInt + v1898.toInt := iv_add rfl rfl e1901 (by omega) (by omega)
        refine lv_istore_n (lv' := [(2, .int v1900), (3, .int v1708), (0, .ref h0), (1, .int x1)]) hx hb dX12_count_21 rfl hl (by decide) rfl (fun ls hl => ?_)
        obtain ⟨v1902, e1903⟩ : ∃ y : Int32, y = v1708 + (1) := ⟨_, rfl⟩
        have tv1902 : v1902.toInt = v1708.toInt + (1) := iv_add rfl (by decide) e1903 (by omega) (by omega)
        refine lv_iinc (v := v1902) (lv' := [(3, .int v1902), (2, .int v1900), (0, .ref h0), (1, .int x1)]) hx hb dX12_count_22 hl (k := 1) rfl (by rw [e1903]; rfl) (by decide) rfl (fun ls hl => ?_)
        refine lv_goto (tgt := 4) hx hb dX12_count_25 (by decide) ?_
        exact ih_4 _ (by omega) H locs ls v1902 v1900  rfl (lv_sub hl [0, 1, 2, 3] rfl) ⟨by omega, by omega⟩ hI hS
  refine lv_iconst (v := 0) hx hb dX12_count_0 (by decide) ?_
  refine lv_istore_n (lv' := [(2, .int 0), (0, .ref h0), (1, .int x1)]) hx hb dX12_count_1 rfl hl (by decide) rfl (fun ls hl => ?_)
  refine lv_iconst (v := 0) hx hb dX12_count_2 (by decide) ?_
  refine lv_istore_n (lv' := [(3, .int 0), (2, .int 0), (0, .ref h0), (1, .int x1)]) hx hb dX12_count_3 rfl hl (by decide) rfl (fun ls hl => ?_)
  have zl : (0 : Int32).toInt = 0 := by decide
  exact J_4 _ s.heap [] ls 0 0  rfl (lv_sub hl [0, 1, 2, 3] rfl) ⟨by decide, by decide⟩ hI hS
theorem dX12_status_0 : decode cX12_status 0 = .ok (.aload_n 0, 1) := by decide +kernel
theorem dX12_status_1 : decode cX12_status 1 = .ok (.getfield 3, 3) := by decide +kernel
theorem dX12_status_4 : decode cX12_status 4 = .ok (.ireturn, 1) := by decide +kernel
set_option maxHeartbeats 4000000 in
set_option maxRecDepth 100000 in
theorem c_X12_status (l : Launch) (E : Nat → Nat) (D : va_G) (G : th_G) (h0 : Nat) (hG0 : G h0 = some (10, 0)) : Met l yX12_status (tb (.code yX12_status cX12_status 1 (some .int))) (rm 0) (va_Pc [.ref h0] (PX E D G (fun H => True))) (QXi E D G (fun r H => True)) 0 0 (th_A G) := by
  refine Met.ofW (cc := cX12_status) (maxL := 1) (ret := (some .int)) (by decide) rfl ?_
  intro p e s m args below meth c s₁ B hml hv
  obtain ⟨hav, ⟨hI, hN, hK⟩, hX⟩ := hv
  have hx := B.exec
  have hb := B.bytes
  have hr := B.returns
  have hts := atoms_spec (ws := tb (.code yX12_status cX12_status 1 (some .int))) B.pre
  have hown : s.vm.findClass RX12 = some m.cls := findClass_of_methodNamed B.named
  have hlocks := B.notSynchronized
  have hS : va_S (th_A G) s.heap s.heap [] := va_S.rf
  have hl := lv_entry ([.ref h0]) (n := 1) (Nat.le_of_ble_eq_true rfl)
  rw [show entryFrame m args 1 = entryFrame m ([.ref h0] : List Value).toArray 1 from by rw [hav], lg_entry_eq]
  generalize (lg_sl ([.ref h0]) ++ List.replicate (1 - (lg_sl ([.ref h0])).length) Slot.unset).toArray = ls at hl ⊢
  have hl : lv_has ls 1 [(0, .ref h0)] := hl
  generalize hR : (headSpec (tb (.code yX12_status cX12_status 1 (some .int))) (rm 0)).room = R
  have hR := hR.symm
  generalize hQ : MQ below (QXi E D G (fun r H => True)) args s 0 0 (th_A G) = QF
  have hQ := hQ.symm
  refine lv_aload_n hx hb dX12_status_0 rfl (lv_at hl 0 rfl) ?_
  refine gmI hx hb hts inT12 hown hK hI List.not_mem_nil hG0 0 (by decide) (hts _ (tb_c wd_1233)) rfl rfl dX12_status_1 (fun w1 hg2 k3 k4 => ?_)
  have hpost : True := trivial
  rw [hQ]
  exact W.iret (v := w1) hx hb hr (fun t ht hW => ⟨⟨w1, w1, rfl, rfl, ⟨by rw [ht]; exact hI, hN.warm hW, va_K.moved hW.alike hK⟩, by first | (rw [ht]; exact hpost) | exact hpost⟩, hS.F ht⟩) hS.2.2 dX12_status_4
theorem dX12_row_0 : decode cX12_row 0 = .ok (.aload_n 0, 1) := by decide +kernel
theorem dX12_row_1 : decode cX12_row 1 = .ok (.getfield 132, 3) := by decide +kernel
theorem dX12_row_4 : decode cX12_row 4 = .ok (.istore_n 1, 1) := by decide +kernel
theorem dX12_row_5 : decode cX12_row 5 = .ok (.aload_n 0, 1) := by decide +kernel
theorem dX12_row_6 : decode cX12_row 6 = .ok (.iconst 0, 1) := by decide +kernel
theorem dX12_row_7 : decode cX12_row 7 = .ok (.putfield 132, 3) := by decide +kernel
theorem dX12_row_10 : decode cX12_row 10 = .ok (.iload_n 1, 1) := by decide +kernel
theorem dX12_row_11 : decode cX12_row 11 = .ok (.ifCond .ne 10, 3) := by decide +kernel
theorem dX12_row_14 : decode cX12_row 14 = .ok (.aload_n 0, 1) := by decide +kernel
theorem dX12_row_15 : decode cX12_row 15 = .ok (.bipush (-6), 2) := by decide +kernel
theorem dX12_row_17 : decode cX12_row 17 = .ok (.invokevirtual 107, 3) := by decide +kernel
theorem dX12_row_20 : decode cX12_row 20 = .ok (.ireturn, 1) := by decide +kernel
theorem dX12_row_21 : decode cX12_row 21 = .ok (.iconst 0, 1) := by decide +kernel
theorem dX12_row_22 : decode cX12_row 22 = .ok (.istore_n 2, 1) := by decide +kernel
theorem dX12_row_23 : decode cX12_row 23 = .ok (.aload_n 0, 1) := by decide +kernel
theorem dX12_row_24 : decode cX12_row 24 = .ok (.iload_n 1, 1) := by decide +kernel
theorem dX12_row_25 : decode cX12_row 25 = .ok (.iconst 4, 1) := by decide +kernel
theorem dX12_row_26 : decode cX12_row 26 = .ok (.irem, 1) := by decide +kernel
theorem dX12_row_27 : decode cX12_row 27 = .ok (.ifCond .ne 7, 3) := by decide +kernel
theorem dX12_row_30 : decode cX12_row 30 = .ok (.iconst 0, 1) := by decide +kernel
theorem dX12_row_31 : decode cX12_row 31 = .ok (.goto 4, 3) := by decide +kernel
theorem dX12_row_34 : decode cX12_row 34 = .ok (.iconst 1, 1) := by decide +kernel
theorem dX12_row_35 : decode cX12_row 35 = .ok (.putfield 135, 3) := by decide +kernel
theorem dX12_row_38 : decode cX12_row 38 = .ok (.aload_n 0, 1) := by decide +kernel
theorem dX12_row_39 : decode cX12_row 39 = .ok (.invokevirtual 138, 3) := by decide +kernel
theorem dX12_row_42 : decode cX12_row 42 = .ok (.iconst 0, 1) := by decide +kernel
theorem dX12_row_43 : decode cX12_row 43 = .ok (.istore_n 3, 1) := by decide +kernel
theorem dX12_row_44 : decode cX12_row 44 = .ok (.iload_n 3, 1) := by decide +kernel
theorem dX12_row_45 : decode cX12_row 45 = .ok (.iconst 4, 1) := by decide +kernel
theorem dX12_row_46 : decode cX12_row 46 = .ok (.iadd, 1) := by decide +kernel
theorem dX12_row_47 : decode cX12_row 47 = .ok (.iload_n 1, 1) := by decide +kernel
theorem dX12_row_48 : decode cX12_row 48 = .ok (.if_icmp .gt 182, 3) := by decide +kernel
theorem dX12_row_51 : decode cX12_row 51 = .ok (.aload_n 0, 1) := by decide +kernel
theorem dX12_row_52 : decode cX12_row 52 = .ok (.getfield 20, 3) := by decide +kernel
theorem dX12_row_55 : decode cX12_row 55 = .ok (.sipush 311, 3) := by decide +kernel
theorem dX12_row_58 : decode cX12_row 58 = .ok (.iaload, 1) := by decide +kernel
theorem dX12_row_59 : decode cX12_row 59 = .ok (.bipush 16, 2) := by decide +kernel
theorem dX12_row_61 : decode cX12_row 61 = .ok (.if_icmp .ge 43, 3) := by decide +kernel
theorem dX12_row_64 : decode cX12_row 64 = .ok (.aload_n 0, 1) := by decide +kernel
theorem dX12_row_65 : decode cX12_row 65 = .ok (.getfield 34, 3) := by decide +kernel
theorem dX12_row_68 : decode cX12_row 68 = .ok (.iload_n 3, 1) := by decide +kernel
theorem dX12_row_69 : decode cX12_row 69 = .ok (.baload, 1) := by decide +kernel
theorem dX12_row_70 : decode cX12_row 70 = .ok (.aload_n 0, 1) := by decide +kernel
theorem dX12_row_71 : decode cX12_row 71 = .ok (.getfield 34, 3) := by decide +kernel
theorem dX12_row_74 : decode cX12_row 74 = .ok (.iload_n 3, 1) := by decide +kernel
theorem dX12_row_75 : decode cX12_row 75 = .ok (.iconst 1, 1) := by decide +kernel
theorem dX12_row_76 : decode cX12_row 76 = .ok (.iadd, 1) := by decide +kernel
theorem dX12_row_77 : decode cX12_row 77 = .ok (.baload, 1) := by decide +kernel
theorem dX12_row_78 : decode cX12_row 78 = .ok (.aload_n 0, 1) := by decide +kernel
theorem dX12_row_79 : decode cX12_row 79 = .ok (.getfield 34, 3) := by decide +kernel
theorem dX12_row_82 : decode cX12_row 82 = .ok (.iload_n 3, 1) := by decide +kernel
theorem dX12_row_83 : decode cX12_row 83 = .ok (.iconst 2, 1) := by decide +kernel
theorem dX12_row_84 : decode cX12_row 84 = .ok (.iadd, 1) := by decide +kernel
theorem dX12_row_85 : decode cX12_row 85 = .ok (.baload, 1) := by decide +kernel
theorem dX12_row_86 : decode cX12_row 86 = .ok (.aload_n 0, 1) := by decide +kernel
theorem dX12_row_87 : decode cX12_row 87 = .ok (.getfield 34, 3) := by decide +kernel
theorem dX12_row_90 : decode cX12_row 90 = .ok (.iload_n 3, 1) := by decide +kernel
theorem dX12_row_91 : decode cX12_row 91 = .ok (.iconst 3, 1) := by decide +kernel
theorem dX12_row_92 : decode cX12_row 92 = .ok (.iadd, 1) := by decide +kernel
theorem dX12_row_93 : decode cX12_row 93 = .ok (.baload, 1) := by decide +kernel
theorem dX12_row_94 : decode cX12_row 94 = .ok (.invokestatic 141, 3) := by decide +kernel
theorem dX12_row_97 : decode cX12_row 97 = .ok (.ifCond .eq 7, 3) := by decide +kernel
theorem dX12_row_100 : decode cX12_row 100 = .ok (.iconst 1, 1) := by decide +kernel
theorem dX12_row_101 : decode cX12_row 101 = .ok (.goto 4, 3) := by decide +kernel
theorem dX12_row_104 : decode cX12_row 104 = .ok (.iconst 0, 1) := by decide +kernel
theorem dX12_row_105 : decode cX12_row 105 = .ok (.istore 4, 2) := by decide +kernel
theorem dX12_row_107 : decode cX12_row 107 = .ok (.iload 4, 2) := by decide +kernel
theorem dX12_row_109 : decode cX12_row 109 = .ok (.ifCond .eq 33, 3) := by decide +kernel
theorem dX12_row_112 : decode cX12_row 112 = .ok (.aload_n 0, 1) := by decide +kernel
theorem dX12_row_113 : decode cX12_row 113 = .ok (.getfield 64, 3) := by decide +kernel
theorem dX12_row_116 : decode cX12_row 116 = .ok (.bipush 24, 2) := by decide +kernel
theorem dX12_row_118 : decode cX12_row 118 = .ok (.aload_n 0, 1) := by decide +kernel
theorem dX12_row_119 : decode cX12_row 119 = .ok (.getfield 34, 3) := by decide +kernel
theorem dX12_row_122 : decode cX12_row 122 = .ok (.iload_n 3, 1) := by decide +kernel
theorem dX12_row_123 : decode cX12_row 123 = .ok (.iconst 1, 1) := by decide +kernel
theorem dX12_row_124 : decode cX12_row 124 = .ok (.iadd, 1) := by decide +kernel
theorem dX12_row_125 : decode cX12_row 125 = .ok (.baload, 1) := by decide +kernel
theorem dX12_row_126 : decode cX12_row 126 = .ok (.imul, 1) := by decide +kernel
theorem dX12_row_127 : decode cX12_row 127 = .ok (.aload_n 0, 1) := by decide +kernel
theorem dX12_row_128 : decode cX12_row 128 = .ok (.getfield 34, 3) := by decide +kernel
theorem dX12_row_131 : decode cX12_row 131 = .ok (.iload_n 3, 1) := by decide +kernel
theorem dX12_row_132 : decode cX12_row 132 = .ok (.baload, 1) := by decide +kernel
theorem dX12_row_133 : decode cX12_row 133 = .ok (.iadd, 1) := by decide +kernel
theorem dX12_row_134 : decode cX12_row 134 = .ok (.baload, 1) := by decide +kernel
theorem dX12_row_135 : decode cX12_row 135 = .ok (.ifCond .ne 7, 3) := by decide +kernel
theorem dX12_row_138 : decode cX12_row 138 = .ok (.iconst 1, 1) := by decide +kernel
theorem dX12_row_139 : decode cX12_row 139 = .ok (.goto 4, 3) := by decide +kernel
theorem dX12_row_142 : decode cX12_row 142 = .ok (.iconst 0, 1) := by decide +kernel
theorem dX12_row_143 : decode cX12_row 143 = .ok (.istore 4, 2) := by decide +kernel
theorem dX12_row_145 : decode cX12_row 145 = .ok (.iload 4, 2) := by decide +kernel
theorem dX12_row_147 : decode cX12_row 147 = .ok (.ifCond .eq 45, 3) := by decide +kernel
theorem dX12_row_150 : decode cX12_row 150 = .ok (.aload_n 0, 1) := by decide +kernel
theorem dX12_row_151 : decode cX12_row 151 = .ok (.sipush 160, 3) := by decide +kernel
theorem dX12_row_154 : decode cX12_row 154 = .ok (.sipush 311, 3) := by decide +kernel
theorem dX12_row_157 : decode cX12_row 157 = .ok (.iconst 4, 1) := by decide +kernel
theorem dX12_row_158 : decode cX12_row 158 = .ok (.aload_n 0, 1) := by decide +kernel
theorem dX12_row_159 : decode cX12_row 159 = .ok (.getfield 34, 3) := by decide +kernel
theorem dX12_row_162 : decode cX12_row 162 = .ok (.iload_n 3, 1) := by decide +kernel
theorem dX12_row_163 : decode cX12_row 163 = .ok (.baload, 1) := by decide +kernel
theorem dX12_row_164 : decode cX12_row 164 = .ok (.aload_n 0, 1) := by decide +kernel
theorem dX12_row_165 : decode cX12_row 165 = .ok (.getfield 34, 3) := by decide +kernel
theorem dX12_row_168 : decode cX12_row 168 = .ok (.iload_n 3, 1) := by decide +kernel
theorem dX12_row_169 : decode cX12_row 169 = .ok (.iconst 1, 1) := by decide +kernel
theorem dX12_row_170 : decode cX12_row 170 = .ok (.iadd, 1) := by decide +kernel
theorem dX12_row_171 : decode cX12_row 171 = .ok (.baload, 1) := by decide +kernel
theorem dX12_row_172 : decode cX12_row 172 = .ok (.aload_n 0, 1) := by decide +kernel
theorem dX12_row_173 : decode cX12_row 173 = .ok (.getfield 34, 3) := by decide +kernel
theorem dX12_row_176 : decode cX12_row 176 = .ok (.iload_n 3, 1) := by decide +kernel
theorem dX12_row_177 : decode cX12_row 177 = .ok (.iconst 2, 1) := by decide +kernel
theorem dX12_row_178 : decode cX12_row 178 = .ok (.iadd, 1) := by decide +kernel
theorem dX12_row_179 : decode cX12_row 179 = .ok (.baload, 1) := by decide +kernel
theorem dX12_row_180 : decode cX12_row 180 = .ok (.aload_n 0, 1) := by decide +kernel
theorem dX12_row_181 : decode cX12_row 181 = .ok (.getfield 34, 3) := by decide +kernel
theorem dX12_row_184 : decode cX12_row 184 = .ok (.iload_n 3, 1) := by decide +kernel
theorem dX12_row_185 : decode cX12_row 185 = .ok (.iconst 3, 1) := by decide +kernel
theorem dX12_row_186 : decode cX12_row 186 = .ok (.iadd, 1) := by decide +kernel
theorem dX12_row_187 : decode cX12_row 187 = .ok (.baload, 1) := by decide +kernel
theorem dX12_row_188 : decode cX12_row 188 = .ok (.invokevirtual 125, 3) := by decide +kernel
theorem dX12_row_191 : decode cX12_row 191 = .ok (.pop, 1) := by decide +kernel
theorem dX12_row_192 : decode cX12_row 192 = .ok (.iload_n 2, 1) := by decide +kernel
theorem dX12_row_193 : decode cX12_row 193 = .ok (.iload 4, 2) := by decide +kernel
theorem dX12_row_195 : decode cX12_row 195 = .ok (.ifCond .eq 7, 3) := by decide +kernel
theorem dX12_row_198 : decode cX12_row 198 = .ok (.iconst 1, 1) := by decide +kernel
theorem dX12_row_199 : decode cX12_row 199 = .ok (.goto 4, 3) := by decide +kernel
theorem dX12_row_202 : decode cX12_row 202 = .ok (.iconst 0, 1) := by decide +kernel
theorem dX12_row_203 : decode cX12_row 203 = .ok (.iadd, 1) := by decide +kernel
theorem dX12_row_204 : decode cX12_row 204 = .ok (.istore_n 2, 1) := by decide +kernel
theorem dX12_row_205 : decode cX12_row 205 = .ok (.aload_n 0, 1) := by decide +kernel
theorem dX12_row_206 : decode cX12_row 206 = .ok (.dup, 1) := by decide +kernel
theorem dX12_row_207 : decode cX12_row 207 = .ok (.getfield 135, 3) := by decide +kernel
theorem dX12_row_210 : decode cX12_row 210 = .ok (.iload 4, 2) := by decide +kernel
theorem dX12_row_212 : decode cX12_row 212 = .ok (.ifCond .eq 7, 3) := by decide +kernel
theorem dX12_row_215 : decode cX12_row 215 = .ok (.iconst 0, 1) := by decide +kernel
theorem dX12_row_216 : decode cX12_row 216 = .ok (.goto 4, 3) := by decide +kernel
theorem dX12_row_219 : decode cX12_row 219 = .ok (.iconst 1, 1) := by decide +kernel
theorem dX12_row_220 : decode cX12_row 220 = .ok (.iadd, 1) := by decide +kernel
theorem dX12_row_221 : decode cX12_row 221 = .ok (.putfield 135, 3) := by decide +kernel
theorem dX12_row_224 : decode cX12_row 224 = .ok (.iinc 3 4, 3) := by decide +kernel
theorem dX12_row_227 : decode cX12_row 227 = .ok (.goto (-183), 3) := by decide +kernel
theorem dX12_row_230 : decode cX12_row 230 = .ok (.aload_n 0, 1) := by decide +kernel
theorem dX12_row_231 : decode cX12_row 231 = .ok (.iload_n 2, 1) := by decide +kernel
theorem dX12_row_232 : decode cX12_row 232 = .ok (.invokevirtual 111, 3) := by decide +kernel
theorem dX12_row_235 : decode cX12_row 235 = .ok (.ireturn, 1) := by decide +kernel
set_option maxHeartbeats 4000000 in
set_option maxRecDepth 100000 in
theorem c_X12_row (l : Launch) (E : Nat → Nat) (D : va_G) (G : th_G) (h0 : Nat) (hG0 : G h0 = some (10, 0)) : Met l yX12_row (tb (.code yX12_row cX12_row 5 (some .int))) (rm 69) (va_Pc [.ref h0] (PX E D G (fun H => True))) (QXi E D G (fun r H => True)) 0 0 (th_A G) := by
  refine Met.ofW (cc := cX12_row) (maxL := 5) (ret := (some .int)) (by decide) rfl ?_
  intro p e s m args below meth c s₁ B hml hv
  obtain ⟨hav, ⟨hI, hN, hK⟩, hX⟩ := hv
  have hx := B.exec
  have hb := B.bytes
  have hr := B.returns
  have hts := atoms_spec (ws := tb (.code yX12_row cX12_row 5 (some .int))) B.pre
  have hown : s.vm.findClass RX12 = some m.cls := findClass_of_methodNamed B.named
  have hlocks := B.notSynchronized
  have hS : va_S (th_A G) s.heap s.heap [] := va_S.rf
  have hl := lv_entry ([.ref h0]) (n := 5) (Nat.le_of_ble_eq_true rfl)
  rw [show entryFrame m args 5 = entryFrame m ([.ref h0] : List Value).toArray 5 from by rw [hav], lg_entry_eq]
  generalize (lg_sl ([.ref h0]) ++ List.replicate (5 - (lg_sl ([.ref h0])).length) Slot.unset).toArray = ls at hl ⊢
  have hl : lv_has ls 5 [(0, .ref h0)] := hl
  generalize hR : (headSpec (tb (.code yX12_row cX12_row 5 (some .int))) (rm 69)).room = R
  have hR := hR.symm
  generalize hQ : MQ below (QXi E D G (fun r H => True)) args s 0 0 (th_A G) = QF
  have hQ := hQ.symm
  have J_44 : ∀ (nn : Nat) (H : Heap) (locs : List Loc) (ls : Array Slot) (v5907 : Int32) (v5908 : Int32) (v5909 : Int32) , (Int.toNat (400 - v5907.toInt) = nn) → lv_has ls 5 [(3, .int v5907), (2, .int v5908), (1, .int v5909), (0, .ref h0)] → ((0 : Int) ≤ v5907.toInt ∧ v5907.toInt ≤ 400) → ((1 : Int) ≤ v5909.toInt ∧ v5909.toInt ≤ 400) → th_I (okM E) D G [] H → va_S (th_A G) s.heap H locs → W p l e R s m args below meth c H locs 0 0 QF (F0 m 44 ls []) := by
    intro nn
    induction nn using Nat.strongRecOn with
    | ind nn ih_44 =>
      intro H locs ls v5907 v5908 v5909  hm hl k5910 k5911 hI hS
      refine lv_iload_n hx hb dX12_row_44 rfl (lv_at hl 0 rfl) ?_
      refine lv_iconst (v := 4) hx hb dX12_row_45 (by decide) ?_
      refine lv_iadd hx hb dX12_row_46 ?_
      refine lv_topi (fun v5912 e5913 => ?_)
      have tv5912 : v5912.toInt = v5907.toInt + (4) := iv_add rfl (by decide) e5913 (by omega) (by omega)
      refine lv_iload_n hx hb dX12_row_47 rfl (lv_at hl 2 rfl) ?_
      refine lv_icmp_gt (tgt := 230) hx hb dX12_row_48 (by decide) (fun c5914 => ?_) (fun c5914 => ?_)
      · skip
        have k5915 := iv_lt (X := v5909.toInt) (Y := v5912.toInt) rfl rfl c5914
        refine lv_aload_n hx hb dX12_row_230 rfl (lv_at hl 3 rfl) ?_
        refine lv_iload_n hx hb dX12_row_231 rfl (lv_at hl 1 rfl) ?_
        refine mx_i (As := [.int v5908]) (rest := []) (n := 1) (d := 0) ⟨hx, hb, hml, hown, hts⟩ (c_X12_good l E D G h0 hG0 v5908) wd_1402 wd_1404 wp_41 wd_13 wd_1405 (by decide +kernel) ⟨by rw [hR]; exact Nat.le_of_ble_eq_true rfl, by rw [hR]; exact Nat.le_of_ble_eq_true rfl⟩ hI hN hK hS hG0 (trivial) rfl hl.1 rfl (Nat.le_of_ble_eq_true rfl) dX12_row_232 ⟨Nat.zero_le _, Nat.zero_le _⟩ (fun r5916 H locs hI hp hS => ?_)
        obtain rfl := hp.symm
        have hpost : True := trivial
        rw [hQ]
        exact W.iret (v := v5908) hx hb hr (fun t ht hW => ⟨⟨v5908, v5908, rfl, rfl, ⟨by rw [ht]; exact hI, hN.warm hW, va_K.moved hW.alike hK⟩, by first | (rw [ht]; exact hpost) | exact hpost⟩, hS.F ht⟩) hS.2.2 dX12_row_235
      · skip
        have k5917 := iv_nlt (X := v5909.toInt) (Y := v5912.toInt) rfl rfl c5914
        refine lv_aload_n hx hb dX12_row_51 rfl (lv_at hl 3 rfl) ?_
        refine gmA hx hb hts inT12 hown hK hI List.not_mem_nil hG0 3 (by decide) (hts _ (tb_c wd_1236)) rfl rfl dX12_row_52 (fun a5918 hq5919 hf5920 => ?_)
        refine lv_sipush (v := 311) hx hb dX12_row_55 (by decide) ?_
        obtain ⟨F5921, hA5922, hP5923⟩ := om_1 hI hq5919 List.not_mem_nil
        refine th_iald hx hb hK hA5922 0 rfl (iv_in (X := (311)) (by decide) (by omega) (by omega)) dX12_row_58 (fun v5924 e5925 => ?_)
        have k5926 := kg_m311 (kOk.get (i := 311) hP5923 e5925 (X := (311)) (by decide) (by omega) (by omega)) (by omega) (by omega) (by omega)
        refine lv_bipush (v := 16) hx hb dX12_row_59 (by decide) ?_
        refine lv_icmp_ge (tgt := 104) hx hb dX12_row_61 (by decide) (fun c5927 => ?_) (fun c5927 => ?_)
        · skip
          have k5928 := iv_le (X := (16)) (Y := v5924.toInt) (by decide) rfl c5927
          refine lv_iconst (v := 0) hx hb dX12_row_104 (by decide) ?_
          refine lv_istore (lv' := [(4, .int 0), (3, .int v5907), (2, .int v5908), (1, .int v5909), (0, .ref h0)]) hx hb dX12_row_105 hl (by decide) rfl (fun ls hl => ?_)
          refine lv_iload hx hb dX12_row_107 (lv_at hl 0 rfl) ?_
          refine lv_if_eq (tgt := 142) hx hb dX12_row_109 (by decide) (fun _ => ?_) (fun c => absurd c (by decide))
          refine lv_iconst (v := 0) hx hb dX12_row_142 (by decide) ?_
          refine lv_istore (lv' := [(4, .int 0), (3, .int v5907), (2, .int v5908), (1, .int v5909), (0, .ref h0)]) hx hb dX12_row_143 hl (by decide) rfl (fun ls hl => ?_)
          refine lv_iload hx hb dX12_row_145 (lv_at hl 0 rfl) ?_
          refine lv_if_eq (tgt := 192) hx hb dX12_row_147 (by decide) (fun _ => ?_) (fun c => absurd c (by decide))
          refine lv_iload_n hx hb dX12_row_192 rfl (lv_at hl 2 rfl) ?_
          refine lv_iload hx hb dX12_row_193 (lv_at hl 0 rfl) ?_
          refine lv_if_eq (tgt := 202) hx hb dX12_row_195 (by decide) (fun _ => ?_) (fun c => absurd c (by decide))
          refine lv_iconst (v := 0) hx hb dX12_row_202 (by decide) ?_
          refine lv_iadd hx hb dX12_row_203 ?_
          refine lv_topi (fun v5929 e5930 => ?_)
          have k5931 := iv_lo v5908
          have k5932 := iv_hi v5908
          have tv5929 : v5929.toInt = v5908.toInt + (0) := iv_add rfl (by decide) e5930 (by omega) (by omega)
          refine lv_istore_n (lv' := [(2, .int v5929), (4, .int 0), (3, .int v5907), (1, .int v5909), (0, .ref h0)]) hx hb dX12_row_204 rfl hl (by decide) rfl (fun ls hl => ?_)
          refine lv_aload_n hx hb dX12_row_205 rfl (lv_at hl 4 rfl) ?_
          refine lv_dup hx hb dX12_row_206 rfl ?_
          refine gmI hx hb hts inT12 hown hK hI List.not_mem_nil hG0 6 (by decide) (hts _ (tb_c wd_1239)) rfl rfl dX12_row_207 (fun w5933 hg5934 k5935 k5936 => ?_)
          refine lv_iload hx hb dX12_row_210 (lv_at hl 1 rfl) ?_
          refine lv_if_eq (tgt := 219) hx hb dX12_row_212 (by decide) (fun _ => ?_) (fun c => absurd c (by decide))
          refine lv_iconst (v := 1) hx hb dX12_row_219 (by decide) ?_
          refine lv_iadd hx hb dX12_row_220 ?_
          refine lv_topi (fun v5937 e5938 => ?_)
          try have tv5937 : v5937.toInt = w5933.toInt + (1) := iv_add rfl (by decide) e5938 (by omega) (by omega)
          have k5939 := iv_lo v5937
          have k5940 := iv_hi v5937
          refine pmI (ty := .int) hx hb hts inT12 hown hK hI List.not_mem_nil hG0 hS ⟨_, hG0⟩ 6 (by decide) (hts _ (tb_c wd_1239)) rfl rfl (by decide +kernel) rfl rfl rfl (by omega) (by omega) dX12_row_221 (fun H locs hI hgP hS => ?_)
          have hg5941 := hgP.2.1
          have hf5920 := hgP.2.2.2 3 _ (by decide) (by decide) hf5920
          have hA5922 := va_at.kept hA5922 (hgP.1 _ (m_ne hq5919 hG0 (by first | decide | (dsimp only; decide))))
          obtain ⟨v5942, e5943⟩ : ∃ y : Int32, y = v5907 + (4) := ⟨_, rfl⟩
          have tv5942 : v5942.toInt = v5907.toInt + (4) := iv_add rfl (by decide) e5943 (by omega) (by omega)
          refine lv_iinc (v := v5942) (lv' := [(3, .int v5942), (2, .int v5929), (4, .int 0), (1, .int v5909), (0, .ref h0)]) hx hb dX12_row_224 hl (k := 2) rfl (by rw [e5943]; rfl) (by decide) rfl (fun ls hl => ?_)
          refine lv_goto (tgt := 44) hx hb dX12_row_227 (by decide) ?_
          exact ih_44 _ (by omega) H locs ls v5942 v5929 v5909  rfl (lv_sub hl [0, 1, 3, 4] rfl) ⟨by omega, by omega⟩ ⟨by omega, by omega⟩ hI hS
        · skip
          have k5944 := iv_nle (X := (16)) (Y := v5924.toInt) (by decide) rfl c5927
          refine lv_aload_n hx hb dX12_row_64 rfl (lv_at hl 3 rfl) ?_
          refine gmA hx hb hts inT12 hown hK hI List.not_mem_nil hG0 8 (by decide) (hts _ (tb_c wd_1241)) rfl rfl dX12_row_65 (fun a5945 hq5946 hf5947 => ?_)
          refine lv_iload_n hx hb dX12_row_68 rfl (lv_at hl 0 rfl) ?_
          obtain ⟨F5948, hA5949⟩ := om_4 hI hq5946 List.not_mem_nil
          refine va_bald hx hb hK (th_one hA5949) 0 3 rfl rfl (iv_in (X := v5907.toInt) rfl (by omega) (by omega)) dX12_row_69 ?_
          refine lv_topi (fun v5950 e5951 => ?_)
          refine lv_aload_n hx hb dX12_row_70 rfl (lv_at hl 3 rfl) ?_
          refine gmA hx hb hts inT12 hown hK hI List.not_mem_nil hG0 8 (by decide) (hts _ (tb_c wd_1241)) rfl rfl dX12_row_71 (fun a5952 hq5953 hf5954 => ?_)
          obtain rfl := fr.uniq (by decide) hf5947 hf5954
          refine lv_iload_n hx hb dX12_row_74 rfl (lv_at hl 0 rfl) ?_
          refine lv_iconst (v := 1) hx hb dX12_row_75 (by decide) ?_
          refine lv_iadd hx hb dX12_row_76 ?_
          refine lv_topi (fun v5955 e5956 => ?_)
          have tv5955 : v5955.toInt = v5907.toInt + (1) := iv_add rfl (by decide) e5956 (by omega) (by omega)
          refine va_bald hx hb hK (th_one hA5949) 0 3 rfl rfl (iv_in (X := v5955.toInt) rfl (by omega) (by omega)) dX12_row_77 ?_
          refine lv_topi (fun v5957 e5958 => ?_)
          refine lv_aload_n hx hb dX12_row_78 rfl (lv_at hl 3 rfl) ?_
          refine gmA hx hb hts inT12 hown hK hI List.not_mem_nil hG0 8 (by decide) (hts _ (tb_c wd_1241)) rfl rfl dX12_row_79 (fun a5959 hq5960 hf5961 => ?_)
          obtain rfl := fr.uniq (by decide) hf5947 hf5961
          refine lv_iload_n hx hb dX12_row_82 rfl (lv_at hl 0 rfl) ?_
          refine lv_iconst (v := 2) hx hb dX12_row_83 (by decide) ?_
          refine lv_iadd hx hb dX12_row_84 ?_
          refine lv_topi (fun v5962 e5963 => ?_)
          have tv5962 : v5962.toInt = v5907.toInt + (2) := iv_add rfl (by decide) e5963 (by omega) (by omega)
          refine va_bald hx hb hK (th_one hA5949) 0 3 rfl rfl (iv_in (X := v5962.toInt) rfl (by omega) (by omega)) dX12_row_85 ?_
          refine lv_topi (fun v5964 e5965 => ?_)
          refine lv_aload_n hx hb dX12_row_86 rfl (lv_at hl 3 rfl) ?_
          refine gmA hx hb hts inT12 hown hK hI List.not_mem_nil hG0 8 (by decide) (hts _ (tb_c wd_1241)) rfl rfl dX12_row_87 (fun a5966 hq5967 hf5968 => ?_)
          obtain rfl := fr.uniq (by decide) hf5947 hf5968
          refine lv_iload_n hx hb dX12_row_90 rfl (lv_at hl 0 rfl) ?_
          refine lv_iconst (v := 3) hx hb dX12_row_91 (by decide) ?_
          refine lv_iadd hx hb dX12_row_92 ?_
          refine lv_topi (fun v5969 e5970 => ?_)
          have tv5969 : v5969.toInt = v5907.toInt + (3) := iv_add rfl (by decide) e5970 (by omega) (by omega)
          refine va_bald hx hb hK (th_one hA5949) 0 3 rfl rfl (iv_in (X := v5969.toInt) rfl (by omega) (by omega)) dX12_row_93 ?_
          refine lv_topi (fun v5971 e5972 => ?_)
          refine th_cSs (As := [.int v5950, .int v5957, .int v5964, .int v5971]) (rest := []) (n := 4) (d := 2) ⟨hx, hb, hml, hown, hts⟩ (c_X12_isPour l H v5950 v5957 v5964 v5971) wd_1542 wd_1543 wd_13 wd_1544 (by decide +kernel) ⟨by rw [hR]; exact Nat.le_of_ble_eq_true rfl, by rw [hR]; exact Nat.le_of_ble_eq_true rfl⟩ hN hS rfl hl.1 rfl (Nat.le_of_ble_eq_true rfl) dX12_row_94 ⟨Nat.zero_le _, Nat.zero_le _⟩ (fun r5973 locs hp hS => ?_)
          rcases hp with ⟨rfl, hp⟩ | ⟨rfl, hp⟩
          · skip
            try simp only [rg, not_and, Int.not_le] at hp
            have hp5974 := hp
            refine lv_if_eq (tgt := 104) hx hb dX12_row_97 (by decide) (fun c => absurd c (by decide)) (fun _ => ?_)
            refine lv_iconst (v := 1) hx hb dX12_row_100 (by decide) ?_
            refine lv_goto (tgt := 105) hx hb dX12_row_101 (by decide) ?_
            refine lv_istore (lv' := [(4, .int 1), (3, .int v5907), (2, .int v5908), (1, .int v5909), (0, .ref h0)]) hx hb dX12_row_105 hl (by decide) rfl (fun ls hl => ?_)
            refine lv_iload hx hb dX12_row_107 (lv_at hl 0 rfl) ?_
            refine lv_if_eq (tgt := 142) hx hb dX12_row_109 (by decide) (fun c => absurd c (by decide)) (fun _ => ?_)
            refine lv_aload_n hx hb dX12_row_112 rfl (lv_at hl 4 rfl) ?_
            refine gmA hx hb hts inT12 hown hK hI List.not_mem_nil hG0 26 (by decide) (hts _ (tb_c wd_1259)) rfl rfl dX12_row_113 (fun a5975 hq5976 hf5977 => ?_)
            refine lv_bipush (v := 24) hx hb dX12_row_116 (by decide) ?_
            refine lv_aload_n hx hb dX12_row_118 rfl (lv_at hl 4 rfl) ?_
            refine gmA hx hb hts inT12 hown hK hI List.not_mem_nil hG0 8 (by decide) (hts _ (tb_c wd_1241)) rfl rfl dX12_row_119 (fun a5978 hq5979 hf5980 => ?_)
            obtain rfl := fr.uniq (by decide) hf5947 hf5980
            refine lv_iload_n hx hb dX12_row_122 rfl (lv_at hl 1 rfl) ?_
            refine lv_iconst (v := 1) hx hb dX12_row_123 (by decide) ?_
            refine lv_iadd hx hb dX12_row_124 ?_
            refine lv_topi (fun v5981 e5982 => ?_)
            have tv5981 : v5981.toInt = v5907.toInt + (1) := iv_add rfl (by decide) e5982 (by omega) (by omega)
            refine va_bald hx hb hK (th_one hA5949) 0 3 rfl rfl (iv_in (X := v5981.toInt) rfl (by omega) (by omega)) dX12_row_125 ?_
            refine lv_topi (fun v5983 e5984 => ?_)
            obtain rfl := (rd_same (i := v5955) (j := v5981) e5958 e5984 (X := v5955.toInt) (Y := v5981.toInt) rfl rfl (by omega)).symm
            refine lv_imul hx hb dX12_row_126 ?_
            refine lv_topi (fun v5985 e5986 => ?_)
            have tv5985 : v5985.toInt = (24) * v5957.toInt := iv_mul (by decide) rfl e5986 (by omega) (by omega)
            refine lv_aload_n hx hb dX12_row_127 rfl (lv_at hl 4 rfl) ?_
            refine gmA hx hb hts inT12 hown hK hI List.not_mem_nil hG0 8 (by decide) (hts _ (tb_c wd_1241)) rfl rfl dX12_row_128 (fun a5987 hq5988 hf5989 => ?_)
            obtain rfl := fr.uniq (by decide) hf5947 hf5989
            refine lv_iload_n hx hb dX12_row_131 rfl (lv_at hl 1 rfl) ?_
            refine va_bald hx hb hK (th_one hA5949) 0 3 rfl rfl (iv_in (X := v5907.toInt) rfl (by omega) (by omega)) dX12_row_132 ?_
            refine lv_topi (fun v5990 e5991 => ?_)
            obtain rfl := (rd_same (i := v5907) (j := v5907) e5951 e5991 (X := v5907.toInt) (Y := v5907.toInt) rfl rfl (by omega)).symm
            refine lv_iadd hx hb dX12_row_133 ?_
            refine lv_topi (fun v5992 e5993 => ?_)
            have tv5992 : v5992.toInt = v5985.toInt + v5950.toInt := iv_add rfl rfl e5993 (by omega) (by omega)
            obtain ⟨F5994, hA5995⟩ := om_5 hI hq5976 List.not_mem_nil
            refine va_zald hx hb hK (th_one hA5995) 0 2 rfl rfl (iv_in (X := v5992.toInt) rfl (by omega) (by omega)) dX12_row_134 ?_
            refine lv_topi (fun v5996 e5997 => ?_)
            have k5998 := iv_lo v5996
            have k5999 := iv_hi v5996
            refine lv_if_ne (tgt := 142) hx hb dX12_row_135 (by decide) (fun c6000 => ?_) (fun c6000 => ?_)
            · skip
              have k6001 := iv_ne (X := v5996.toInt) (Y := (0)) rfl (by decide) c6000
              refine lv_iconst (v := 0) hx hb dX12_row_142 (by decide) ?_
              refine lv_istore (lv' := [(4, .int 0), (3, .int v5907), (2, .int v5908), (1, .int v5909), (0, .ref h0)]) hx hb dX12_row_143 hl (by decide) rfl (fun ls hl => ?_)
              refine lv_iload hx hb dX12_row_145 (lv_at hl 0 rfl) ?_
              refine lv_if_eq (tgt := 192) hx hb dX12_row_147 (by decide) (fun _ => ?_) (fun c => absurd c (by decide))
              refine lv_iload_n hx hb dX12_row_192 rfl (lv_at hl 2 rfl) ?_
              refine lv_iload hx hb dX12_row_193 (lv_at hl 0 rfl) ?_
              refine lv_if_eq (tgt := 202) hx hb dX12_row_195 (by decide) (fun _ => ?_) (fun c => absurd c (by decide))
              refine lv_iconst (v := 0) hx hb dX12_row_202 (by decide) ?_
              refine lv_iadd hx hb dX12_row_203 ?_
              refine lv_topi (fun v6002 e6003 => ?_)
              have k6004 := iv_lo v5908
              have k6005 := iv_hi v5908
              have tv6002 : v6002.toInt = v5908.toInt + (0) := iv_add rfl (by decide) e6003 (by omega) (by omega)
              refine lv_istore_n (lv' := [(2, .int v6002), (4, .int 0), (3, .int v5907), (1, .int v5909), (0, .ref h0)]) hx hb dX12_row_204 rfl hl (by decide) rfl (fun ls hl => ?_)
              refine lv_aload_n hx hb dX12_row_205 rfl (lv_at hl 4 rfl) ?_
              refine lv_dup hx hb dX12_row_206 rfl ?_
              refine gmI hx hb hts inT12 hown hK hI List.not_mem_nil hG0 6 (by decide) (hts _ (tb_c wd_1239)) rfl rfl dX12_row_207 (fun w6006 hg6007 k6008 k6009 => ?_)
              refine lv_iload hx hb dX12_row_210 (lv_at hl 1 rfl) ?_
              refine lv_if_eq (tgt := 219) hx hb dX12_row_212 (by decide) (fun _ => ?_) (fun c => absurd c (by decide))
              refine lv_iconst (v := 1) hx hb dX12_row_219 (by decide) ?_
              refine lv_iadd hx hb dX12_row_220 ?_
              refine lv_topi (fun v6010 e6011 => ?_)
              try have tv6010 : v6010.toInt = w6006.toInt + (1) := iv_add rfl (by decide) e6011 (by omega) (by omega)
              have k6012 := iv_lo v6010
              have k6013 := iv_hi v6010
              refine pmI (ty := .int) hx hb hts inT12 hown hK hI List.not_mem_nil hG0 hS ⟨_, hG0⟩ 6 (by decide) (hts _ (tb_c wd_1239)) rfl rfl (by decide +kernel) rfl rfl rfl (by omega) (by omega) dX12_row_221 (fun H locs hI hgP hS => ?_)
              have hg6014 := hgP.2.1
              have hf5920 := hgP.2.2.2 3 _ (by decide) (by decide) hf5920
              have hf5947 := hgP.2.2.2 8 _ (by decide) (by decide) hf5947
              have hf5977 := hgP.2.2.2 26 _ (by decide) (by decide) hf5977
              have hA5922 := va_at.kept hA5922 (hgP.1 _ (m_ne hq5919 hG0 (by first | decide | (dsimp only; decide))))
              have hA5949 := va_at.kept hA5949 (hgP.1 _ (m_ne hq5946 hG0 (by first | decide | (dsimp only; decide))))
              have hA5995 := va_at.kept hA5995 (hgP.1 _ (m_ne hq5976 hG0 (by first | decide | (dsimp only; decide))))
              obtain ⟨v6015, e6016⟩ : ∃ y : Int32, y = v5907 + (4) := ⟨_, rfl⟩
              have tv6015 : v6015.toInt = v5907.toInt + (4) := iv_add rfl (by decide) e6016 (by omega) (by omega)
              refine lv_iinc (v := v6015) (lv' := [(3, .int v6015), (2, .int v6002), (4, .int 0), (1, .int v5909), (0, .ref h0)]) hx hb dX12_row_224 hl (k := 2) rfl (by rw [e6016]; rfl) (by decide) rfl (fun ls hl => ?_)
              refine lv_goto (tgt := 44) hx hb dX12_row_227 (by decide) ?_
              exact ih_44 _ (by omega) H locs ls v6015 v6002 v5909  rfl (lv_sub hl [0, 1, 3, 4] rfl) ⟨by omega, by omega⟩ ⟨by omega, by omega⟩ hI hS
            · skip
              have k6017 := iv_eq (X := v5996.toInt) (Y := (0)) rfl (by decide) c6000
              refine lv_iconst (v := 1) hx hb dX12_row_138 (by decide) ?_
              refine lv_goto (tgt := 143) hx hb dX12_row_139 (by decide) ?_
              refine lv_istore (lv' := [(4, .int 1), (3, .int v5907), (2, .int v5908), (1, .int v5909), (0, .ref h0)]) hx hb dX12_row_143 hl (by decide) rfl (fun ls hl => ?_)
              refine lv_iload hx hb dX12_row_145 (lv_at hl 0 rfl) ?_
              refine lv_if_eq (tgt := 192) hx hb dX12_row_147 (by decide) (fun c => absurd c (by decide)) (fun _ => ?_)
              refine lv_aload_n hx hb dX12_row_150 rfl (lv_at hl 4 rfl) ?_
              refine lv_sipush (v := 160) hx hb dX12_row_151 (by decide) ?_
              refine lv_sipush (v := 311) hx hb dX12_row_154 (by decide) ?_
              refine lv_iconst (v := 4) hx hb dX12_row_157 (by decide) ?_
              refine lv_aload_n hx hb dX12_row_158 rfl (lv_at hl 4 rfl) ?_
              refine gmA hx hb hts inT12 hown hK hI List.not_mem_nil hG0 8 (by decide) (hts _ (tb_c wd_1241)) rfl rfl dX12_row_159 (fun a6018 hq6019 hf6020 => ?_)
              obtain rfl := fr.uniq (by decide) hf5947 hf6020
              refine lv_iload_n hx hb dX12_row_162 rfl (lv_at hl 1 rfl) ?_
              refine va_bald hx hb hK (th_one hA5949) 0 3 rfl rfl (iv_in (X := v5907.toInt) rfl (by omega) (by omega)) dX12_row_163 ?_
              refine lv_topi (fun v6021 e6022 => ?_)
              obtain rfl := (rd_same (i := v5907) (j := v5907) e5951 e6022 (X := v5907.toInt) (Y := v5907.toInt) rfl rfl (by omega)).symm
              refine lv_aload_n hx hb dX12_row_164 rfl (lv_at hl 4 rfl) ?_
              refine gmA hx hb hts inT12 hown hK hI List.not_mem_nil hG0 8 (by decide) (hts _ (tb_c wd_1241)) rfl rfl dX12_row_165 (fun a6023 hq6024 hf6025 => ?_)
              obtain rfl := fr.uniq (by decide) hf5947 hf6025
              refine lv_iload_n hx hb dX12_row_168 rfl (lv_at hl 1 rfl) ?_
              refine lv_iconst (v := 1) hx hb dX12_row_169 (by decide) ?_
              refine lv_iadd hx hb dX12_row_170 ?_
              refine lv_topi (fun v6026 e6027 => ?_)
              have tv6026 : v6026.toInt = v5907.toInt + (1) := iv_add rfl (by decide) e6027 (by omega) (by omega)
              refine va_bald hx hb hK (th_one hA5949) 0 3 rfl rfl (iv_in (X := v6026.toInt) rfl (by omega) (by omega)) dX12_row_171 ?_
              refine lv_topi (fun v6028 e6029 => ?_)
              obtain rfl := (rd_same (i := v5955) (j := v6026) e5958 e6029 (X := v5955.toInt) (Y := v6026.toInt) rfl rfl (by omega)).symm
              refine lv_aload_n hx hb dX12_row_172 rfl (lv_at hl 4 rfl) ?_
              refine gmA hx hb hts inT12 hown hK hI List.not_mem_nil hG0 8 (by decide) (hts _ (tb_c wd_1241)) rfl rfl dX12_row_173 (fun a6030 hq6031 hf6032 => ?_)
              obtain rfl := fr.uniq (by decide) hf5947 hf6032
              refine lv_iload_n hx hb dX12_row_176 rfl (lv_at hl 1 rfl) ?_
              refine lv_iconst (v := 2) hx hb dX12_row_177 (by decide) ?_
              refine lv_iadd hx hb dX12_row_178 ?_
              refine lv_topi (fun v6033 e6034 => ?_)
              have tv6033 : v6033.toInt = v5907.toInt + (2) := iv_add rfl (by decide) e6034 (by omega) (by omega)
              refine va_bald hx hb hK (th_one hA5949) 0 3 rfl rfl (iv_in (X := v6033.toInt) rfl (by omega) (by omega)) dX12_row_179 ?_
              refine lv_topi (fun v6035 e6036 => ?_)
              obtain rfl := (rd_same (i := v5962) (j := v6033) e5965 e6036 (X := v5962.toInt) (Y := v6033.toInt) rfl rfl (by omega)).symm
              refine lv_aload_n hx hb dX12_row_180 rfl (lv_at hl 4 rfl) ?_
              refine gmA hx hb hts inT12 hown hK hI List.not_mem_nil hG0 8 (by decide) (hts _ (tb_c wd_1241)) rfl rfl dX12_row_181 (fun a6037 hq6038 hf6039 => ?_)
              obtain rfl := fr.uniq (by decide) hf5947 hf6039
              refine lv_iload_n hx hb dX12_row_184 rfl (lv_at hl 1 rfl) ?_
              refine lv_iconst (v := 3) hx hb dX12_row_185 (by decide) ?_
              refine lv_iadd hx hb dX12_row_186 ?_
              refine lv_topi (fun v6040 e6041 => ?_)
              have tv6040 : v6040.toInt = v5907.toInt + (3) := iv_add rfl (by decide) e6041 (by omega) (by omega)
              refine va_bald hx hb hK (th_one hA5949) 0 3 rfl rfl (iv_in (X := v6040.toInt) rfl (by omega) (by omega)) dX12_row_187 ?_
              refine lv_topi (fun v6042 e6043 => ?_)
              obtain rfl := (rd_same (i := v5969) (j := v6040) e5972 e6043 (X := v5969.toInt) (Y := v6040.toInt) rfl rfl (by omega)).symm
              refine mx_i (As := [.int 160, .int 311, .int 4, .int v5950, .int v5957, .int v5964, .int v5971]) (rest := []) (n := 7) (d := 0) ⟨hx, hb, hml, hown, hts⟩ (c_X12_comesBehind_311 l E D G h0 hG0 v5950 v5957 v5964 v5971 ⟨by omega, by omega⟩ ⟨by omega, by omega⟩ F5921 hP5923 (lt_of_rd e5925 rfl (by omega))) wd_1435 wd_1437 wp_42 wd_13 wd_1438 (by decide +kernel) ⟨by rw [hR]; exact Nat.le_of_ble_eq_true rfl, by rw [hR]; exact Nat.le_of_ble_eq_true rfl⟩ hI hN hK hS hG0 (⟨a5918, hf5920, hq5919, hA5922⟩) rfl hl.1 rfl (Nat.le_of_ble_eq_true rfl) dX12_row_188 ⟨Nat.zero_le _, Nat.zero_le _⟩ (fun r6044 H locs hI hp hS => ?_)
              refine lv_pop hx hb dX12_row_191 rfl ?_
              refine lv_iload_n hx hb dX12_row_192 rfl (lv_at hl 2 rfl) ?_
              refine lv_iload hx hb dX12_row_193 (lv_at hl 0 rfl) ?_
              refine lv_if_eq (tgt := 202) hx hb dX12_row_195 (by decide) (fun c => absurd c (by decide)) (fun _ => ?_)
              refine lv_iconst (v := 1) hx hb dX12_row_198 (by decide) ?_
              refine lv_goto (tgt := 203) hx hb dX12_row_199 (by decide) ?_
              refine lv_iadd hx hb dX12_row_203 ?_
              refine lv_topi (fun v6045 e6046 => ?_)
              try have tv6045 : v6045.toInt = v5908.toInt + (1) := iv_add rfl (by decide) e6046 (by omega) (by omega)
              refine lv_istore_n (lv' := [(2, .int v6045), (4, .int 1), (3, .int v5907), (1, .int v5909), (0, .ref h0)]) hx hb dX12_row_204 rfl hl (by decide) rfl (fun ls hl => ?_)
              refine lv_aload_n hx hb dX12_row_205 rfl (lv_at hl 4 rfl) ?_
              refine lv_dup hx hb dX12_row_206 rfl ?_
              refine gmI hx hb hts inT12 hown hK hI List.not_mem_nil hG0 6 (by decide) (hts _ (tb_c wd_1239)) rfl rfl dX12_row_207 (fun w6047 hg6048 k6049 k6050 => ?_)
              refine lv_iload hx hb dX12_row_210 (lv_at hl 1 rfl) ?_
              refine lv_if_eq (tgt := 219) hx hb dX12_row_212 (by decide) (fun c => absurd c (by decide)) (fun _ => ?_)
              refine lv_iconst (v := 0) hx hb dX12_row_215 (by decide) ?_
              refine lv_goto (tgt := 220) hx hb dX12_row_216 (by decide) ?_
              refine lv_iadd hx hb dX12_row_220 ?_
              refine lv_topi (fun v6051 e6052 => ?_)
              have tv6051 : v6051.toInt = w6047.toInt + (0) := iv_add rfl (by decide) e6052 (by omega) (by omega)
              have k6053 := iv_lo v6051
              have k6054 := iv_hi v6051
              refine pmI (ty := .int) hx hb hts inT12 hown hK hI List.not_mem_nil hG0 hS ⟨_, hG0⟩ 6 (by decide) (hts _ (tb_c wd_1239)) rfl rfl (by decide +kernel) rfl rfl rfl (by omega) (by omega) dX12_row_221 (fun H locs hI hgP hS => ?_)
              have hg6055 := hgP.2.1
              obtain ⟨v6056, e6057⟩ : ∃ y : Int32, y = v5907 + (4) := ⟨_, rfl⟩
              have tv6056 : v6056.toInt = v5907.toInt + (4) := iv_add rfl (by decide) e6057 (by omega) (by omega)
              refine lv_iinc (v := v6056) (lv' := [(3, .int v6056), (2, .int v6045), (4, .int 1), (1, .int v5909), (0, .ref h0)]) hx hb dX12_row_224 hl (k := 2) rfl (by rw [e6057]; rfl) (by decide) rfl (fun ls hl => ?_)
              refine lv_goto (tgt := 44) hx hb dX12_row_227 (by decide) ?_
              exact ih_44 _ (by omega) H locs ls v6056 v6045 v5909  rfl (lv_sub hl [0, 1, 3, 4] rfl) ⟨by omega, by omega⟩ ⟨by omega, by omega⟩ hI hS
          · skip
            try simp only [rg, not_and, Int.not_le] at hp
            have hp6058 := hp
            refine lv_if_eq (tgt := 104) hx hb dX12_row_97 (by decide) (fun _ => ?_) (fun c => absurd c (by decide))
            refine lv_iconst (v := 0) hx hb dX12_row_104 (by decide) ?_
            refine lv_istore (lv' := [(4, .int 0), (3, .int v5907), (2, .int v5908), (1, .int v5909), (0, .ref h0)]) hx hb dX12_row_105 hl (by decide) rfl (fun ls hl => ?_)
            refine lv_iload hx hb dX12_row_107 (lv_at hl 0 rfl) ?_
            refine lv_if_eq (tgt := 142) hx hb dX12_row_109 (by decide) (fun _ => ?_) (fun c => absurd c (by decide))
            refine lv_iconst (v := 0) hx hb dX12_row_142 (by decide) ?_
            refine lv_istore (lv' := [(4, .int 0), (3, .int v5907), (2, .int v5908), (1, .int v5909), (0, .ref h0)]) hx hb dX12_row_143 hl (by decide) rfl (fun ls hl => ?_)
            refine lv_iload hx hb dX12_row_145 (lv_at hl 0 rfl) ?_
            refine lv_if_eq (tgt := 192) hx hb dX12_row_147 (by decide) (fun _ => ?_) (fun c => absurd c (by decide))
            refine lv_iload_n hx hb dX12_row_192 rfl (lv_at hl 2 rfl) ?_
            refine lv_iload hx hb dX12_row_193 (lv_at hl 0 rfl) ?_
            refine lv_if_eq (tgt := 202) hx hb dX12_row_195 (by decide) (fun _ => ?_) (fun c => absurd c (by decide))
            refine lv_iconst (v := 0) hx hb dX12_row_202 (by decide) ?_
            refine lv_iadd hx hb dX12_row_203 ?_
            refine lv_topi (fun v6059 e6060 => ?_)
            have k6061 := iv_lo v5908
            have k6062 := iv_hi v5908
            have tv6059 : v6059.toInt = v5908.toInt + (0) := iv_add rfl (by decide) e6060 (by omega) (by omega)
            refine lv_istore_n (lv' := [(2, .int v6059), (4, .int 0), (3, .int v5907), (1, .int v5909), (0, .ref h0)]) hx hb dX12_row_204 rfl hl (by decide) rfl (fun ls hl => ?_)
            refine lv_aload_n hx hb dX12_row_205 rfl (lv_at hl 4 rfl) ?_
            refine lv_dup hx hb dX12_row_206 rfl ?_
            refine gmI hx hb hts inT12 hown hK hI List.not_mem_nil hG0 6 (by decide) (hts _ (tb_c wd_1239)) rfl rfl dX12_row_207 (fun w6063 hg6064 k6065 k6066 => ?_)
            refine lv_iload hx hb dX12_row_210 (lv_at hl 1 rfl) ?_
            refine lv_if_eq (tgt := 219) hx hb dX12_row_212 (by decide) (fun _ => ?_) (fun c => absurd c (by decide))
            refine lv_iconst (v := 1) hx hb dX12_row_219 (by decide) ?_
            refine lv_iadd hx hb dX12_row_220 ?_
            refine lv_topi (fun v6067 e6068 => ?_)
            try have tv6067 : v6067.toInt = w6063.toInt + (1) := iv_add rfl (by decide) e6068 (by omega) (by omega)
            have k6069 := iv_lo v6067
            have k6070 := iv_hi v6067
            refine pmI (ty := .int) hx hb hts inT12 hown hK hI List.not_mem_nil hG0 hS ⟨_, hG0⟩ 6 (by decide) (hts _ (tb_c wd_1239)) rfl rfl (by decide +kernel) rfl rfl rfl (by omega) (by omega) dX12_row_221 (fun H locs hI hgP hS => ?_)
            have hg6071 := hgP.2.1
            have hf5920 := hgP.2.2.2 3 _ (by decide) (by decide) hf5920
            have hf5947 := hgP.2.2.2 8 _ (by decide) (by decide) hf5947
            have hA5922 := va_at.kept hA5922 (hgP.1 _ (m_ne hq5919 hG0 (by first | decide | (dsimp only; decide))))
            have hA5949 := va_at.kept hA5949 (hgP.1 _ (m_ne hq5946 hG0 (by first | decide | (dsimp only; decide))))
            obtain ⟨v6072, e6073⟩ : ∃ y : Int32, y = v5907 + (4) := ⟨_, rfl⟩
            have tv6072 : v6072.toInt = v5907.toInt + (4) := iv_add rfl (by decide) e6073 (by omega) (by omega)
            refine lv_iinc (v := v6072) (lv' := [(3, .int v6072), (2, .int v6059), (4, .int 0), (1, .int v5909), (0, .ref h0)]) hx hb dX12_row_224 hl (k := 2) rfl (by rw [e6073]; rfl) (by decide) rfl (fun ls hl => ?_)
            refine lv_goto (tgt := 44) hx hb dX12_row_227 (by decide) ?_
            exact ih_44 _ (by omega) H locs ls v6072 v6059 v5909  rfl (lv_sub hl [0, 1, 3, 4] rfl) ⟨by omega, by omega⟩ ⟨by omega, by omega⟩ hI hS
  refine lv_aload_n hx hb dX12_row_0 rfl (lv_at hl 0 rfl) ?_
  refine gmI hx hb hts inT12 hown hK hI List.not_mem_nil hG0 10 (by decide) (hts _ (tb_c wd_1243)) rfl rfl dX12_row_1 (fun w6074 hg6075 k6076 k6077 => ?_)
  refine lv_istore_n (lv' := [(1, .int w6074), (0, .ref h0)]) hx hb dX12_row_4 rfl hl (by decide) rfl (fun ls hl => ?_)
  refine lv_aload_n hx hb dX12_row_5 rfl (lv_at hl 1 rfl) ?_
  refine lv_iconst (v := 0) hx hb dX12_row_6 (by decide) ?_
  refine pmI (ty := .int) hx hb hts inT12 hown hK hI List.not_mem_nil hG0 hS ⟨_, hG0⟩ 10 (by decide) (hts _ (tb_c wd_1243)) rfl rfl (by decide +kernel) rfl rfl rfl (by decide) (by decide) dX12_row_7 (fun H locs hI hgP hS => ?_)
  have hg6078 := hgP.2.1
  refine lv_iload_n hx hb dX12_row_10 rfl (lv_at hl 0 rfl) ?_
  refine lv_if_ne (tgt := 21) hx hb dX12_row_11 (by decide) (fun c6079 => ?_) (fun c6079 => ?_)
  · skip
    have k6080 := iv_ne (X := w6074.toInt) (Y := (0)) rfl (by decide) c6079
    refine lv_iconst (v := 0) hx hb dX12_row_21 (by decide) ?_
    refine lv_istore_n (lv' := [(2, .int 0), (1, .int w6074), (0, .ref h0)]) hx hb dX12_row_22 rfl hl (by decide) rfl (fun ls hl => ?_)
    refine lv_aload_n hx hb dX12_row_23 rfl (lv_at hl 2 rfl) ?_
    refine lv_iload_n hx hb dX12_row_24 rfl (lv_at hl 1 rfl) ?_
    refine lv_iconst (v := 4) hx hb dX12_row_25 (by decide) ?_
    refine lv_irem hx hb dX12_row_26 (by decide) ?_
    refine lv_topi (fun v6081 e6082 => ?_)
    have tv6081 := iv_remp (X := w6074.toInt) (Y := 4) rfl (by decide) e6082 (by decide) (by omega)
    refine lv_if_ne (tgt := 34) hx hb dX12_row_27 (by decide) (fun c6083 => ?_) (fun c6083 => ?_)
    · skip
      have k6084 := iv_ne (X := v6081.toInt) (Y := (0)) rfl (by decide) c6083
      refine lv_iconst (v := 1) hx hb dX12_row_34 (by decide) ?_
      refine pmI (ty := .int) hx hb hts inT12 hown hK hI List.not_mem_nil hG0 hS ⟨_, hG0⟩ 6 (by decide) (hts _ (tb_c wd_1239)) rfl rfl (by decide +kernel) rfl rfl rfl (by decide) (by decide) dX12_row_35 (fun H locs hI hgP hS => ?_)
      have hg6078 := hgP.2.2.1 10 _ (by decide) (by decide) hg6078
      have hg6085 := hgP.2.1
      refine lv_aload_n hx hb dX12_row_38 rfl (lv_at hl 2 rfl) ?_
      refine mx_v (As := []) (rest := []) (n := 0) (d := 68) ⟨hx, hb, hml, hown, hts⟩ (c_X12_looks l E D G h0 hG0 ) wd_1455 wd_1457 wp_43 wd_13 wd_1458 (by decide +kernel) ⟨by rw [hR]; exact Nat.le_of_ble_eq_true rfl, by rw [hR]; exact Nat.le_of_ble_eq_true rfl⟩ hI hN hK hS hG0 (trivial) rfl hl.1 rfl (Nat.le_of_ble_eq_true rfl) dX12_row_39 ⟨Nat.zero_le _, Nat.zero_le _⟩ (fun H locs hI hp hS => ?_)
      refine lv_iconst (v := 0) hx hb dX12_row_42 (by decide) ?_
      refine lv_istore_n (lv' := [(3, .int 0), (2, .int 0), (1, .int w6074), (0, .ref h0)]) hx hb dX12_row_43 rfl hl (by decide) rfl (fun ls hl => ?_)
      have zl : (0 : Int32).toInt = 0 := by decide
      exact J_44 _ H locs ls 0 0 w6074  rfl (lv_sub hl [0, 1, 2, 3] rfl) ⟨by decide, by decide⟩ ⟨by omega, by omega⟩ hI hS
    · skip
      have k6087 := iv_eq (X := v6081.toInt) (Y := (0)) rfl (by decide) c6083
      refine lv_iconst (v := 0) hx hb dX12_row_30 (by decide) ?_
      refine lv_goto (tgt := 35) hx hb dX12_row_31 (by decide) ?_
      refine pmI (ty := .int) hx hb hts inT12 hown hK hI List.not_mem_nil hG0 hS ⟨_, hG0⟩ 6 (by decide) (hts _ (tb_c wd_1239)) rfl rfl (by decide +kernel) rfl rfl rfl (by decide) (by decide) dX12_row_35 (fun H locs hI hgP hS => ?_)
      have hg6078 := hgP.2.2.1 10 _ (by decide) (by decide) hg6078
      have hg6088 := hgP.2.1
      refine lv_aload_n hx hb dX12_row_38 rfl (lv_at hl 2 rfl) ?_
      refine mx_v (As := []) (rest := []) (n := 0) (d := 68) ⟨hx, hb, hml, hown, hts⟩ (c_X12_looks l E D G h0 hG0 ) wd_1455 wd_1457 wp_43 wd_13 wd_1458 (by decide +kernel) ⟨by rw [hR]; exact Nat.le_of_ble_eq_true rfl, by rw [hR]; exact Nat.le_of_ble_eq_true rfl⟩ hI hN hK hS hG0 (trivial) rfl hl.1 rfl (Nat.le_of_ble_eq_true rfl) dX12_row_39 ⟨Nat.zero_le _, Nat.zero_le _⟩ (fun H locs hI hp hS => ?_)
      refine lv_iconst (v := 0) hx hb dX12_row_42 (by decide) ?_
      refine lv_istore_n (lv' := [(3, .int 0), (2, .int 0), (1, .int w6074), (0, .ref h0)]) hx hb dX12_row_43 rfl hl (by decide) rfl (fun ls hl => ?_)
      have zl : (0 : Int32).toInt = 0 := by decide
      exact J_44 _ H locs ls 0 0 w6074  rfl (lv_sub hl [0, 1, 2, 3] rfl) ⟨by decide, by decide⟩ ⟨by omega, by omega⟩ hI hS
  · skip
    have k6090 := iv_eq (X := w6074.toInt) (Y := (0)) rfl (by decide) c6079
    refine lv_aload_n hx hb dX12_row_14 rfl (lv_at hl 1 rfl) ?_
    refine lv_bipush (v := (-6)) hx hb dX12_row_15 (by decide) ?_
    refine mx_i (As := [.int (-6)]) (rest := []) (n := 1) (d := 0) ⟨hx, hb, hml, hown, hts⟩ (c_X12_refuses l E D G h0 hG0 (-6) ⟨by decide, by decide⟩) wd_1398 wd_1400 wp_40 wd_13 wd_1401 (by decide +kernel) ⟨by rw [hR]; exact Nat.le_of_ble_eq_true rfl, by rw [hR]; exact Nat.le_of_ble_eq_true rfl⟩ hI hN hK hS hG0 (trivial) rfl hl.1 rfl (Nat.le_of_ble_eq_true rfl) dX12_row_17 ⟨Nat.zero_le _, Nat.zero_le _⟩ (fun r6091 H locs hI hp hS => ?_)
    obtain rfl := hp.symm
    have hpost : True := trivial
    rw [hQ]
    exact W.iret (v := (-6)) hx hb hr (fun t ht hW => ⟨⟨(-6), (-6), rfl, rfl, ⟨by rw [ht]; exact hI, hN.warm hW, va_K.moved hW.alike hK⟩, by first | (rw [ht]; exact hpost) | exact hpost⟩, hS.F ht⟩) hS.2.2 dX12_row_20
