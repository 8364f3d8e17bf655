theorem wp_66 : Cond.selects RX12 yX12_takes0 yX12_takes0 ∈ TB := tv 66 (by decide +kernel) (by decide +kernel)
theorem wp_67 : Cond.selects RX12 yX12_fine yX12_fine ∈ TB := tv 67 (by decide +kernel) (by decide +kernel)
theorem wp_69 : Cond.selects RX12 yX12_readTerm yX12_readTerm ∈ TB := tv 69 (by decide +kernel) (by decide +kernel)
theorem wp_70 : Cond.selects RX12 yX12_readPart yX12_readPart ∈ TB := tv 70 (by decide +kernel) (by decide +kernel)
theorem wp_71 : Cond.selects RX12 yX12_faults yX12_faults ∈ TB := tv 71 (by decide +kernel) (by decide +kernel)
theorem wp_92 : Cond.selects RX12 yX12_findsBest yX12_findsBest ∈ TB := tv 92 (by decide +kernel) (by decide +kernel)
theorem wp_94 : Cond.selects RX12 yX12_draws yX12_draws ∈ TB := tv 94 (by decide +kernel) (by decide +kernel)
theorem wd_1245 : (Cond.fieldLink RX12 (43 : Nat) "NineRiverModel" "code" "[I") ∈ TB := tw 1245 (by decide +kernel) (by decide +kernel)
theorem wd_1247 : (Cond.fieldLink RX12 (49 : Nat) "NineRiverModel" "placed" "[I") ∈ TB := tw 1247 (by decide +kernel) (by decide +kernel)
theorem wd_1249 : (Cond.fieldLink RX12 (166 : Nat) "NineRiverModel" "token" "I") ∈ TB := tw 1249 (by decide +kernel) (by decide +kernel)
theorem wd_1250 : (Cond.fieldLink RX12 (175 : Nat) "NineRiverModel" "leaves" "I") ∈ TB := tw 1250 (by decide +kernel) (by decide +kernel)
theorem wd_1251 : (Cond.fieldLink RX12 (159 : Nat) "NineRiverModel" "bad" "I") ∈ TB := tw 1251 (by decide +kernel) (by decide +kernel)
theorem wd_1272 : (Cond.fieldLink RX12 (88 : Nat) "NineRiverModel" "clean" "[Z") ∈ TB := tw 1272 (by decide +kernel) (by decide +kernel)
theorem wd_1282 : (Cond.fieldLink RX12 (100 : Nat) "NineRiverModel" "drawnCells" "[I") ∈ TB := tw 1282 (by decide +kernel) (by decide +kernel)
theorem wd_1283 : (Cond.fieldLink RX12 (407 : Nat) "NineRiverModel" "isDrawn" "Z") ∈ TB := tw 1283 (by decide +kernel) (by decide +kernel)
theorem wd_1284 : (Cond.fieldLink RX12 (400 : Nat) "NineRiverModel" "latest" "I") ∈ TB := tw 1284 (by decide +kernel) (by decide +kernel)
theorem wd_1587 : (Cond.methodLink RX12 (169 : Nat) yX12_takes0) ∈ TB := tw 1587 (by decide +kernel) (by decide +kernel)
theorem wd_1589 : (Jvm.Cond.instanceMethod yX12_takes0) ∈ TB := tw 1589 (by decide +kernel) (by decide +kernel)
theorem wd_1590 : (Cond.code yX12_takes0 cX12_takes0 3 (Option.some Jvm.ClassFile.FieldType.boolean)) ∈ TB := tw 1590 (by decide +kernel) (by decide +kernel)
theorem wd_1591 : (Cond.methodLink RX12 (162 : Nat) yX12_fine) ∈ TB := tw 1591 (by decide +kernel) (by decide +kernel)
theorem wd_1593 : (Jvm.Cond.instanceMethod yX12_fine) ∈ TB := tw 1593 (by decide +kernel) (by decide +kernel)
theorem wd_1594 : (Cond.code yX12_fine cX12_fine 1 (Option.some Jvm.ClassFile.FieldType.boolean)) ∈ TB := tw 1594 (by decide +kernel) (by decide +kernel)
theorem wd_1599 : (Cond.methodLink RX12 (198 : Nat) yX12_readTerm) ∈ TB := tw 1599 (by decide +kernel) (by decide +kernel)
theorem wd_1601 : (Jvm.Cond.instanceMethod yX12_readTerm) ∈ TB := tw 1601 (by decide +kernel) (by decide +kernel)
theorem wd_1602 : (Cond.code yX12_readTerm cX12_readTerm 2 (Option.none : Option Jvm.ClassFile.FieldType)) ∈ TB := tw 1602 (by decide +kernel) (by decide +kernel)
theorem wd_1603 : (Cond.methodLink RX12 (201 : Nat) yX12_readPart) ∈ TB := tw 1603 (by decide +kernel) (by decide +kernel)
theorem wd_1605 : (Jvm.Cond.instanceMethod yX12_readPart) ∈ TB := tw 1605 (by decide +kernel) (by decide +kernel)
theorem wd_1606 : (Cond.code yX12_readPart cX12_readPart 3 (Option.none : Option Jvm.ClassFile.FieldType)) ∈ TB := tw 1606 (by decide +kernel) (by decide +kernel)
theorem wd_1607 : (Cond.methodLink RX12 (172 : Nat) yX12_faults) ∈ TB := tw 1607 (by decide +kernel) (by decide +kernel)
theorem wd_1609 : (Jvm.Cond.instanceMethod yX12_faults) ∈ TB := tw 1609 (by decide +kernel) (by decide +kernel)
theorem wd_1610 : (Cond.code yX12_faults cX12_faults 1 (Option.none : Option Jvm.ClassFile.FieldType)) ∈ TB := tw 1610 (by decide +kernel) (by decide +kernel)
theorem wd_1832 : (Cond.methodLink RX12 (395 : Nat) yX12_findsBest) ∈ TB := tw 1832 (by decide +kernel) (by decide +kernel)
theorem wd_1834 : (Jvm.Cond.instanceMethod yX12_findsBest) ∈ TB := tw 1834 (by decide +kernel) (by decide +kernel)
theorem wd_1835 : (Cond.code yX12_findsBest cX12_findsBest 7 (Option.none : Option Jvm.ClassFile.FieldType)) ∈ TB := tw 1835 (by decide +kernel) (by decide +kernel)
theorem wd_1851 : (Cond.methodLink RX12 (410 : Nat) yX12_draws) ∈ TB := tw 1851 (by decide +kernel) (by decide +kernel)
theorem wd_1853 : (Jvm.Cond.instanceMethod yX12_draws) ∈ TB := tw 1853 (by decide +kernel) (by decide +kernel)
theorem wd_1854 : (Cond.code yX12_draws cX12_draws 2 (Option.some Jvm.ClassFile.FieldType.int)) ∈ TB := tw 1854 (by decide +kernel) (by decide +kernel)
theorem wd_1855 : (Cond.constantLong RX12 (398 : Nat) (1103 : Int64)) ∈ TB := tw 1855 (by decide +kernel) (by decide +kernel)
theorem wd_1856 : (Cond.constantLong RX12 (403 : Nat) (12345 : Int64)) ∈ TB := tw 1856 (by decide +kernel) (by decide +kernel)
theorem wd_1857 : (Cond.constantLong RX12 (405 : Nat) (1000003 : Int64)) ∈ TB := tw 1857 (by decide +kernel) (by decide +kernel)
theorem dX12_best_0g : (decode cX12_best 0 = .ok (.iload_n 1, 1)) ∧ (decode cX12_best 1 = .ok (.iconst 0, 1)) ∧ (decode cX12_best 2 = .ok (.iconst 1, 1)) ∧ (decode cX12_best 3 = .ok (.invokestatic 103, 3)) ∧ (decode cX12_best 6 = .ok (.ifCond .eq 12, 3)) ∧ (decode cX12_best 9 = .ok (.iload_n 2, 1)) ∧ (decode cX12_best 10 = .ok (.iconst 0, 1)) ∧ (decode cX12_best 11 = .ok (.iconst 2, 1)) ∧ (decode cX12_best 12 = .ok (.invokestatic 103, 3)) ∧ (decode cX12_best 15 = .ok (.ifCond .ne 5, 3)) := by decide +kernel
theorem dX12_best_0 : decode cX12_best 0 = .ok (.iload_n 1, 1) := dX12_best_0g.1
theorem dX12_best_1 : decode cX12_best 1 = .ok (.iconst 0, 1) := dX12_best_0g.2.1
theorem dX12_best_2 : decode cX12_best 2 = .ok (.iconst 1, 1) := dX12_best_0g.2.2.1
theorem dX12_best_3 : decode cX12_best 3 = .ok (.invokestatic 103, 3) := dX12_best_0g.2.2.2.1
theorem dX12_best_6 : decode cX12_best 6 = .ok (.ifCond .eq 12, 3) := dX12_best_0g.2.2.2.2.1
theorem dX12_best_9 : decode cX12_best 9 = .ok (.iload_n 2, 1) := dX12_best_0g.2.2.2.2.2.1
theorem dX12_best_10 : decode cX12_best 10 = .ok (.iconst 0, 1) := dX12_best_0g.2.2.2.2.2.2.1
theorem dX12_best_11 : decode cX12_best 11 = .ok (.iconst 2, 1) := dX12_best_0g.2.2.2.2.2.2.2.1
theorem dX12_best_12 : decode cX12_best 12 = .ok (.invokestatic 103, 3) := dX12_best_0g.2.2.2.2.2.2.2.2.1
theorem dX12_best_15 : decode cX12_best 15 = .ok (.ifCond .ne 5, 3) := dX12_best_0g.2.2.2.2.2.2.2.2.2
theorem dX12_best_18g : (decode cX12_best 18 = .ok (.iconst (-1), 1)) ∧ (decode cX12_best 19 = .ok (.ireturn, 1)) ∧ (decode cX12_best 20 = .ok (.aload_n 0, 1)) ∧ (decode cX12_best 21 = .ok (.iload_n 1, 1)) ∧ (decode cX12_best 22 = .ok (.invokevirtual 395, 3)) ∧ (decode cX12_best 25 = .ok (.iload_n 2, 1)) ∧ (decode cX12_best 26 = .ok (.ifCond .ne 10, 3)) ∧ (decode cX12_best 29 = .ok (.aload_n 0, 1)) ∧ (decode cX12_best 30 = .ok (.getfield 380, 3)) ∧ (decode cX12_best 33 = .ok (.goto 19, 3)) := by decide +kernel
theorem dX12_best_18 : decode cX12_best 18 = .ok (.iconst (-1), 1) := dX12_best_18g.1
theorem dX12_best_19 : decode cX12_best 19 = .ok (.ireturn, 1) := dX12_best_18g.2.1
theorem dX12_best_20 : decode cX12_best 20 = .ok (.aload_n 0, 1) := dX12_best_18g.2.2.1
theorem dX12_best_21 : decode cX12_best 21 = .ok (.iload_n 1, 1) := dX12_best_18g.2.2.2.1
theorem dX12_best_22 : decode cX12_best 22 = .ok (.invokevirtual 395, 3) := dX12_best_18g.2.2.2.2.1
theorem dX12_best_25 : decode cX12_best 25 = .ok (.iload_n 2, 1) := dX12_best_18g.2.2.2.2.2.1
theorem dX12_best_26 : decode cX12_best 26 = .ok (.ifCond .ne 10, 3) := dX12_best_18g.2.2.2.2.2.2.1
theorem dX12_best_29 : decode cX12_best 29 = .ok (.aload_n 0, 1) := dX12_best_18g.2.2.2.2.2.2.2.1
theorem dX12_best_30 : decode cX12_best 30 = .ok (.getfield 380, 3) := dX12_best_18g.2.2.2.2.2.2.2.2.1
theorem dX12_best_33 : decode cX12_best 33 = .ok (.goto 19, 3) := dX12_best_18g.2.2.2.2.2.2.2.2.2
theorem dX12_best_36g : (decode cX12_best 36 = .ok (.iload_n 2, 1)) ∧ (decode cX12_best 37 = .ok (.iconst 1, 1)) ∧ (decode cX12_best 38 = .ok (.if_icmp .ne 10, 3)) ∧ (decode cX12_best 41 = .ok (.aload_n 0, 1)) ∧ (decode cX12_best 42 = .ok (.getfield 389, 3)) ∧ (decode cX12_best 45 = .ok (.goto 7, 3)) ∧ (decode cX12_best 48 = .ok (.aload_n 0, 1)) ∧ (decode cX12_best 49 = .ok (.getfield 392, 3)) ∧ (decode cX12_best 52 = .ok (.ireturn, 1)) := by decide +kernel
theorem dX12_best_36 : decode cX12_best 36 = .ok (.iload_n 2, 1) := dX12_best_36g.1
theorem dX12_best_37 : decode cX12_best 37 = .ok (.iconst 1, 1) := dX12_best_36g.2.1
theorem dX12_best_38 : decode cX12_best 38 = .ok (.if_icmp .ne 10, 3) := dX12_best_36g.2.2.1
theorem dX12_best_41 : decode cX12_best 41 = .ok (.aload_n 0, 1) := dX12_best_36g.2.2.2.1
theorem dX12_best_42 : decode cX12_best 42 = .ok (.getfield 389, 3) := dX12_best_36g.2.2.2.2.1
theorem dX12_best_45 : decode cX12_best 45 = .ok (.goto 7, 3) := dX12_best_36g.2.2.2.2.2.1
theorem dX12_best_48 : decode cX12_best 48 = .ok (.aload_n 0, 1) := dX12_best_36g.2.2.2.2.2.2.1
theorem dX12_best_49 : decode cX12_best 49 = .ok (.getfield 392, 3) := dX12_best_36g.2.2.2.2.2.2.2.1
theorem dX12_best_52 : decode cX12_best 52 = .ok (.ireturn, 1) := dX12_best_36g.2.2.2.2.2.2.2.2
set_option maxHeartbeats 4000000 in
set_option maxRecDepth 100000 in
theorem c_X12_best (l : Launch) (E : Nat → Nat) (D : va_G) (G : th_G) (h0 : Nat) (hG0 : G h0 = some (10, 0)) (x1 : Int32) (x2 : Int32) : Met l yX12_best (tb (.code yX12_best cX12_best 3 (some .int))) (rm 70) (va_Pc [.ref h0, .int x1, .int x2] (PX E D G (fun H => True))) (QXi E D G (fun r H => True)) 0 0 (th_A G) := by
  refine Met.ofW (cc := cX12_best) (maxL := 3) (ret := (some .int)) (by decide) rfl ?_
  intro p e s m args below meth c s₁ B hml hv
  obtain ⟨hav, ⟨hI, hN, hK⟩, hX⟩ := hv
  have hx := B.exec
  have hb := B.bytes
  have hr := B.returns
  have hts := atoms_spec (ws := tb (.code yX12_best cX12_best 3 (some .int))) B.pre
  have hown : s.vm.findClass RX12 = some m.cls := findClass_of_methodNamed B.named
  have hlocks := B.notSynchronized
  have hS : va_S (th_A G) s.heap s.heap [] := va_S.rf
  have hl := lv_entry ([.ref h0, .int x1, .int x2]) (n := 3) (Nat.le_of_ble_eq_true rfl)
  rw [show entryFrame m args 3 = entryFrame m ([.ref h0, .int x1, .int x2] : List Value).toArray 3 from by rw [hav], lg_entry_eq]
  generalize (lg_sl ([.ref h0, .int x1, .int x2]) ++ List.replicate (3 - (lg_sl ([.ref h0, .int x1, .int x2])).length) Slot.unset).toArray = ls at hl ⊢
  have hl : lv_has ls 3 [(0, .ref h0), (1, .int x1), (2, .int x2)] := hl
  generalize hR : (headSpec (tb (.code yX12_best cX12_best 3 (some .int))) (rm 70)).room = R
  have hR := hR.symm
  generalize hQ : MQ below (QXi E D G (fun r H => True)) args s 0 0 (th_A G) = QF
  have hQ := hQ.symm
  have J_18 : ∀ (H : Heap) (locs : List Loc) (ls : Array Slot)  , lv_has ls 3 [(0, .ref h0), (1, .int x1), (2, .int x2)] → th_I (okM E) D G [] H → va_S (th_A G) s.heap H locs → W p l e R s m args below meth c H locs 0 0 QF (F0 m 18 ls []) := by
    intro H locs ls   hl  hI hS
    refine lv_iconst (v := (-1)) hx hb dX12_best_18 (by decide) ?_
    have hpost : True := trivial
    rw [hQ]
    exact W.iret (v := (-1)) hx hb hr (fun t ht hW => ⟨⟨(-1), (-1), rfl, rfl, ⟨by rw [ht]; exact hI, hN.warm hW, va_K.moved hW.alike hK⟩, by first | (rw [ht]; exact hpost) | exact hpost⟩, hS.F ht⟩) hS.2.2 dX12_best_19
  refine lv_iload_n hx hb dX12_best_0 rfl (lv_at hl 1 rfl) ?_
  refine lv_iconst (v := 0) hx hb dX12_best_1 (by decide) ?_
  refine lv_iconst (v := 1) hx hb dX12_best_2 (by decide) ?_
  refine th_cSs (As := [.int x1, .int 0, .int 1]) (rest := []) (n := 3) (d := 0) ⟨hx, hb, hml, hown, hts⟩ (c_X12_lies l s.heap x1 0 1) wd_1395 wd_1396 wd_13 wd_1397 (by decide +kernel) ⟨by rw [hR]; exact Nat.le_of_ble_eq_true rfl, by rw [hR]; exact Nat.le_of_ble_eq_true rfl⟩ hN hS rfl hl.1 rfl (Nat.le_of_ble_eq_true rfl) dX12_best_3 ⟨Nat.zero_le _, Nat.zero_le _⟩ (fun r201 locs hp hS => ?_)
  rcases hp with ⟨rfl, hp⟩ | ⟨rfl, hp⟩
  · skip
    try simp only [rg, not_and, Int.not_le] at hp
    have hp202 := hp
    try rw [show (0 : Int32).toInt = 0 from by decide] at hp202
    try rw [show (1 : Int32).toInt = 1 from by decide] at hp202
    refine lv_if_eq (tgt := 18) hx hb dX12_best_6 (by decide) (fun c => absurd c (by decide)) (fun _ => ?_)
    refine lv_iload_n hx hb dX12_best_9 rfl (lv_at hl 2 rfl) ?_
    refine lv_iconst (v := 0) hx hb dX12_best_10 (by decide) ?_
    refine lv_iconst (v := 2) hx hb dX12_best_11 (by decide) ?_
    refine th_cSs (As := [.int x2, .int 0, .int 2]) (rest := []) (n := 3) (d := 0) ⟨hx, hb, hml, hown, hts⟩ (c_X12_lies l s.heap x2 0 2) wd_1395 wd_1396 wd_13 wd_1397 (by decide +kernel) ⟨by rw [hR]; exact Nat.le_of_ble_eq_true rfl, by rw [hR]; exact Nat.le_of_ble_eq_true rfl⟩ hN hS rfl hl.1 rfl (Nat.le_of_ble_eq_true rfl) dX12_best_12 ⟨Nat.zero_le _, Nat.zero_le _⟩ (fun r203 locs hp hS => ?_)
    rcases hp with ⟨rfl, hp⟩ | ⟨rfl, hp⟩
    · skip
      try simp only [rg, not_and, Int.not_le] at hp
      have hp204 := hp
      try rw [show (0 : Int32).toInt = 0 from by decide] at hp204
      try rw [show (2 : Int32).toInt = 2 from by decide] at hp204
      refine lv_if_ne (tgt := 20) hx hb dX12_best_15 (by decide) (fun _ => ?_) (fun c => absurd c (by decide))
      refine lv_aload_n hx hb dX12_best_20 rfl (lv_at hl 0 rfl) ?_
      refine lv_iload_n hx hb dX12_best_21 rfl (lv_at hl 1 rfl) ?_
      refine mx_v (As := [.int x1]) (rest := []) (n := 1) (d := 69) ⟨hx, hb, hml, hown, hts⟩ (c_X12_findsBest l E D G h0 hG0 x1 ⟨by omega, by omega⟩) wd_1832 wd_1834 wp_92 wd_13 wd_1835 (by decide +kernel) ⟨by rw [hR]; exact Nat.le_of_ble_eq_true rfl, by rw [hR]; exact Nat.le_of_ble_eq_true rfl⟩ hI hN hK hS hG0 (trivial) rfl hl.1 rfl (Nat.le_of_ble_eq_true rfl) dX12_best_22 ⟨Nat.zero_le _, Nat.zero_le _⟩ (fun H locs hI hp hS => ?_)
      refine lv_iload_n hx hb dX12_best_25 rfl (lv_at hl 2 rfl) ?_
      refine lv_if_ne (tgt := 36) hx hb dX12_best_26 (by decide) (fun c206 => ?_) (fun c206 => ?_)
      · skip
        have k207 := iv_ne (X := x2.toInt) (Y := (0)) rfl (by decide) c206
        refine lv_iload_n hx hb dX12_best_36 rfl (lv_at hl 2 rfl) ?_
        refine lv_iconst (v := 1) hx hb dX12_best_37 (by decide) ?_
        refine lv_icmp_ne (tgt := 48) hx hb dX12_best_38 (by decide) (fun c208 => ?_) (fun c208 => ?_)
        · skip
          have k209 := iv_ne (X := x2.toInt) (Y := (1)) rfl (by decide) c208
          refine lv_aload_n hx hb dX12_best_48 rfl (lv_at hl 0 rfl) ?_
          refine gmI hx hb hts inT12 hown hK hI List.not_mem_nil hG0 46 (by decide) (hts _ (tb_c wd_1279)) rfl rfl dX12_best_49 (fun w210 hg211 k212 k213 => ?_)
          have hpost : True := trivial
          rw [hQ]
          exact W.iret (v := w210) hx hb hr (fun t ht hW => ⟨⟨w210, w210, rfl, rfl, ⟨by rw [ht]; exact hI, hN.warm hW, va_K.moved hW.alike hK⟩, by first | (rw [ht]; exact hpost) | exact hpost⟩, hS.F ht⟩) hS.2.2 dX12_best_52
        · skip
          have k214 := iv_eq (X := x2.toInt) (Y := (1)) rfl (by decide) c208
          refine lv_aload_n hx hb dX12_best_41 rfl (lv_at hl 0 rfl) ?_
          refine gmI hx hb hts inT12 hown hK hI List.not_mem_nil hG0 45 (by decide) (hts _ (tb_c wd_1278)) rfl rfl dX12_best_42 (fun w215 hg216 k217 k218 => ?_)
          refine lv_goto (tgt := 52) hx hb dX12_best_45 (by decide) ?_
          have hpost : True := trivial
          rw [hQ]
          exact W.iret (v := w215) hx hb hr (fun t ht hW => ⟨⟨w215, w215, rfl, rfl, ⟨by rw [ht]; exact hI, hN.warm hW, va_K.moved hW.alike hK⟩, by first | (rw [ht]; exact hpost) | exact hpost⟩, hS.F ht⟩) hS.2.2 dX12_best_52
      · skip
        have k219 := iv_eq (X := x2.toInt) (Y := (0)) rfl (by decide) c206
        refine lv_aload_n hx hb dX12_best_29 rfl (lv_at hl 0 rfl) ?_
        refine gmI hx hb hts inT12 hown hK hI List.not_mem_nil hG0 44 (by decide) (hts _ (tb_c wd_1277)) rfl rfl dX12_best_30 (fun w220 hg221 k222 k223 => ?_)
        refine lv_goto (tgt := 52) hx hb dX12_best_33 (by decide) ?_
        have hpost : True := trivial
        rw [hQ]
        exact W.iret (v := w220) hx hb hr (fun t ht hW => ⟨⟨w220, w220, rfl, rfl, ⟨by rw [ht]; exact hI, hN.warm hW, va_K.moved hW.alike hK⟩, by first | (rw [ht]; exact hpost) | exact hpost⟩, hS.F ht⟩) hS.2.2 dX12_best_52
    · skip
      try simp only [rg, not_and, Int.not_le] at hp
      have hp224 := hp
      try rw [show (0 : Int32).toInt = 0 from by decide] at hp224
      try rw [show (2 : Int32).toInt = 2 from by decide] at hp224
      refine lv_if_ne (tgt := 20) hx hb dX12_best_15 (by decide) (fun c => absurd c (by decide)) (fun _ => ?_)
      exact J_18 s.heap locs ls   (lv_sub hl [0, 1, 2] rfl)  hI hS
  · skip
    try simp only [rg, not_and, Int.not_le] at hp
    have hp225 := hp
    try rw [show (0 : Int32).toInt = 0 from by decide] at hp225
    try rw [show (1 : Int32).toInt = 1 from by decide] at hp225
    refine lv_if_eq (tgt := 18) hx hb dX12_best_6 (by decide) (fun _ => ?_) (fun c => absurd c (by decide))
    exact J_18 s.heap locs ls   (lv_sub hl [0, 1, 2] rfl)  hI hS
theorem dX12_set_0g : (decode cX12_set 0 = .ok (.iload_n 1, 1)) ∧ (decode cX12_set 1 = .ok (.iconst 0, 1)) ∧ (decode cX12_set 2 = .ok (.iconst 1, 1)) ∧ (decode cX12_set 3 = .ok (.invokestatic 103, 3)) ∧ (decode cX12_set 6 = .ok (.ifCond .ne 10, 3)) ∧ (decode cX12_set 9 = .ok (.aload_n 0, 1)) ∧ (decode cX12_set 10 = .ok (.bipush (-2), 2)) ∧ (decode cX12_set 12 = .ok (.invokevirtual 107, 3)) ∧ (decode cX12_set 15 = .ok (.ireturn, 1)) ∧ (decode cX12_set 16 = .ok (.aload_n 0, 1)) := by decide +kernel
theorem dX12_set_0 : decode cX12_set 0 = .ok (.iload_n 1, 1) := dX12_set_0g.1
theorem dX12_set_1 : decode cX12_set 1 = .ok (.iconst 0, 1) := dX12_set_0g.2.1
theorem dX12_set_2 : decode cX12_set 2 = .ok (.iconst 1, 1) := dX12_set_0g.2.2.1
theorem dX12_set_3 : decode cX12_set 3 = .ok (.invokestatic 103, 3) := dX12_set_0g.2.2.2.1
theorem dX12_set_6 : decode cX12_set 6 = .ok (.ifCond .ne 10, 3) := dX12_set_0g.2.2.2.2.1
theorem dX12_set_9 : decode cX12_set 9 = .ok (.aload_n 0, 1) := dX12_set_0g.2.2.2.2.2.1
theorem dX12_set_10 : decode cX12_set 10 = .ok (.bipush (-2), 2) := dX12_set_0g.2.2.2.2.2.2.1
theorem dX12_set_12 : decode cX12_set 12 = .ok (.invokevirtual 107, 3) := dX12_set_0g.2.2.2.2.2.2.2.1
theorem dX12_set_15 : decode cX12_set 15 = .ok (.ireturn, 1) := dX12_set_0g.2.2.2.2.2.2.2.2.1
theorem dX12_set_16 : decode cX12_set 16 = .ok (.aload_n 0, 1) := dX12_set_0g.2.2.2.2.2.2.2.2.2
theorem dX12_set_17g : (decode cX12_set 17 = .ok (.iload_n 1, 1)) ∧ (decode cX12_set 18 = .ok (.invokevirtual 395, 3)) ∧ (decode cX12_set 21 = .ok (.aload_n 0, 1)) ∧ (decode cX12_set 22 = .ok (.getfield 20, 3)) ∧ (decode cX12_set 25 = .ok (.iconst 0, 1)) ∧ (decode cX12_set 26 = .ok (.iconst 5, 1)) ∧ (decode cX12_set 27 = .ok (.iload_n 1, 1)) ∧ (decode cX12_set 28 = .ok (.imul, 1)) ∧ (decode cX12_set 29 = .ok (.iadd, 1)) ∧ (decode cX12_set 30 = .ok (.iconst 2, 1)) := by decide +kernel
theorem dX12_set_17 : decode cX12_set 17 = .ok (.iload_n 1, 1) := dX12_set_17g.1
theorem dX12_set_18 : decode cX12_set 18 = .ok (.invokevirtual 395, 3) := dX12_set_17g.2.1
theorem dX12_set_21 : decode cX12_set 21 = .ok (.aload_n 0, 1) := dX12_set_17g.2.2.1
theorem dX12_set_22 : decode cX12_set 22 = .ok (.getfield 20, 3) := dX12_set_17g.2.2.2.1
theorem dX12_set_25 : decode cX12_set 25 = .ok (.iconst 0, 1) := dX12_set_17g.2.2.2.2.1
theorem dX12_set_26 : decode cX12_set 26 = .ok (.iconst 5, 1) := dX12_set_17g.2.2.2.2.2.1
theorem dX12_set_27 : decode cX12_set 27 = .ok (.iload_n 1, 1) := dX12_set_17g.2.2.2.2.2.2.1
theorem dX12_set_28 : decode cX12_set 28 = .ok (.imul, 1) := dX12_set_17g.2.2.2.2.2.2.2.1
theorem dX12_set_29 : decode cX12_set 29 = .ok (.iadd, 1) := dX12_set_17g.2.2.2.2.2.2.2.2.1
theorem dX12_set_30 : decode cX12_set 30 = .ok (.iconst 2, 1) := dX12_set_17g.2.2.2.2.2.2.2.2.2
theorem dX12_set_31g : (decode cX12_set 31 = .ok (.iadd, 1)) ∧ (decode cX12_set 32 = .ok (.aload_n 0, 1)) ∧ (decode cX12_set 33 = .ok (.getfield 389, 3)) ∧ (decode cX12_set 36 = .ok (.iastore, 1)) ∧ (decode cX12_set 37 = .ok (.aload_n 0, 1)) ∧ (decode cX12_set 38 = .ok (.getfield 20, 3)) ∧ (decode cX12_set 41 = .ok (.iconst 0, 1)) ∧ (decode cX12_set 42 = .ok (.iconst 5, 1)) ∧ (decode cX12_set 43 = .ok (.iload_n 1, 1)) ∧ (decode cX12_set 44 = .ok (.imul, 1)) := by decide +kernel
theorem dX12_set_31 : decode cX12_set 31 = .ok (.iadd, 1) := dX12_set_31g.1
theorem dX12_set_32 : decode cX12_set 32 = .ok (.aload_n 0, 1) := dX12_set_31g.2.1
theorem dX12_set_33 : decode cX12_set 33 = .ok (.getfield 389, 3) := dX12_set_31g.2.2.1
theorem dX12_set_36 : decode cX12_set 36 = .ok (.iastore, 1) := dX12_set_31g.2.2.2.1
theorem dX12_set_37 : decode cX12_set 37 = .ok (.aload_n 0, 1) := dX12_set_31g.2.2.2.2.1
theorem dX12_set_38 : decode cX12_set 38 = .ok (.getfield 20, 3) := dX12_set_31g.2.2.2.2.2.1
theorem dX12_set_41 : decode cX12_set 41 = .ok (.iconst 0, 1) := dX12_set_31g.2.2.2.2.2.2.1
theorem dX12_set_42 : decode cX12_set 42 = .ok (.iconst 5, 1) := dX12_set_31g.2.2.2.2.2.2.2.1
theorem dX12_set_43 : decode cX12_set 43 = .ok (.iload_n 1, 1) := dX12_set_31g.2.2.2.2.2.2.2.2.1
theorem dX12_set_44 : decode cX12_set 44 = .ok (.imul, 1) := dX12_set_31g.2.2.2.2.2.2.2.2.2
theorem dX12_set_45g : (decode cX12_set 45 = .ok (.iadd, 1)) ∧ (decode cX12_set 46 = .ok (.iconst 3, 1)) ∧ (decode cX12_set 47 = .ok (.iadd, 1)) ∧ (decode cX12_set 48 = .ok (.aload_n 0, 1)) ∧ (decode cX12_set 49 = .ok (.getfield 389, 3)) ∧ (decode cX12_set 52 = .ok (.aload_n 0, 1)) ∧ (decode cX12_set 53 = .ok (.getfield 392, 3)) ∧ (decode cX12_set 56 = .ok (.iadd, 1)) ∧ (decode cX12_set 57 = .ok (.bipush 24, 2)) ∧ (decode cX12_set 59 = .ok (.irem, 1)) := by decide +kernel
theorem dX12_set_45 : decode cX12_set 45 = .ok (.iadd, 1) := dX12_set_45g.1
theorem dX12_set_46 : decode cX12_set 46 = .ok (.iconst 3, 1) := dX12_set_45g.2.1
theorem dX12_set_47 : decode cX12_set 47 = .ok (.iadd, 1) := dX12_set_45g.2.2.1
theorem dX12_set_48 : decode cX12_set 48 = .ok (.aload_n 0, 1) := dX12_set_45g.2.2.2.1
theorem dX12_set_49 : decode cX12_set 49 = .ok (.getfield 389, 3) := dX12_set_45g.2.2.2.2.1
theorem dX12_set_52 : decode cX12_set 52 = .ok (.aload_n 0, 1) := dX12_set_45g.2.2.2.2.2.1
theorem dX12_set_53 : decode cX12_set 53 = .ok (.getfield 392, 3) := dX12_set_45g.2.2.2.2.2.2.1
theorem dX12_set_56 : decode cX12_set 56 = .ok (.iadd, 1) := dX12_set_45g.2.2.2.2.2.2.2.1
theorem dX12_set_57 : decode cX12_set 57 = .ok (.bipush 24, 2) := dX12_set_45g.2.2.2.2.2.2.2.2.1
theorem dX12_set_59 : decode cX12_set 59 = .ok (.irem, 1) := dX12_set_45g.2.2.2.2.2.2.2.2.2
theorem dX12_set_60g : (decode cX12_set 60 = .ok (.iastore, 1)) ∧ (decode cX12_set 61 = .ok (.aload_n 0, 1)) ∧ (decode cX12_set 62 = .ok (.aload_n 0, 1)) ∧ (decode cX12_set 63 = .ok (.getfield 380, 3)) ∧ (decode cX12_set 66 = .ok (.invokevirtual 111, 3)) ∧ (decode cX12_set 69 = .ok (.ireturn, 1)) := by decide +kernel
theorem dX12_set_60 : decode cX12_set 60 = .ok (.iastore, 1) := dX12_set_60g.1
theorem dX12_set_61 : decode cX12_set 61 = .ok (.aload_n 0, 1) := dX12_set_60g.2.1
theorem dX12_set_62 : decode cX12_set 62 = .ok (.aload_n 0, 1) := dX12_set_60g.2.2.1
theorem dX12_set_63 : decode cX12_set 63 = .ok (.getfield 380, 3) := dX12_set_60g.2.2.2.1
theorem dX12_set_66 : decode cX12_set 66 = .ok (.invokevirtual 111, 3) := dX12_set_60g.2.2.2.2.1
theorem dX12_set_69 : decode cX12_set 69 = .ok (.ireturn, 1) := dX12_set_60g.2.2.2.2.2
set_option maxHeartbeats 4000000 in
set_option maxRecDepth 100000 in
theorem c_X12_set (l : Launch) (E : Nat → Nat) (D : va_G) (G : th_G) (h0 : Nat) (hG0 : G h0 = some (10, 0)) (x1 : Int32) : Met l yX12_set (tb (.code yX12_set cX12_set 2 (some .int))) (rm 70) (va_Pc [.ref h0, .int x1] (PX E D G (fun H => True))) (QXi E D G (fun r H => True)) 0 0 (th_A G) := by
  refine Met.ofW (cc := cX12_set) (maxL := 2) (ret := (some .int)) (by decide) rfl ?_
  intro p e s m args below meth c s₁ B hml hv
  obtain ⟨hav, ⟨hI, hN, hK⟩, hX⟩ := hv
  have hx := B.exec
  have hb := B.bytes
  have hr := B.returns
  have hts := atoms_spec (ws := tb (.code yX12_set cX12_set 2 (some .int))) B.pre
  have hown : s.vm.findClass RX12 = some m.cls := findClass_of_methodNamed B.named
  have hlocks := B.notSynchronized
  have hS : va_S (th_A G) s.heap s.heap [] := va_S.rf
  have hl := lv_entry ([.ref h0, .int x1]) (n := 2) (Nat.le_of_ble_eq_true rfl)
  rw [show entryFrame m args 2 = entryFrame m ([.ref h0, .int x1] : List Value).toArray 2 from by rw [hav], lg_entry_eq]
  generalize (lg_sl ([.ref h0, .int x1]) ++ List.replicate (2 - (lg_sl ([.ref h0, .int x1])).length) Slot.unset).toArray = ls at hl ⊢
  have hl : lv_has ls 2 [(0, .ref h0), (1, .int x1)] := hl
  generalize hR : (headSpec (tb (.code yX12_set cX12_set 2 (some .int))) (rm 70)).room = R
  have hR := hR.symm
  generalize hQ : MQ below (QXi E D G (fun r H => True)) args s 0 0 (th_A G) = QF
  have hQ := hQ.symm
  refine lv_iload_n hx hb dX12_set_0 rfl (lv_at hl 1 rfl) ?_
  refine lv_iconst (v := 0) hx hb dX12_set_1 (by decide) ?_
  refine lv_iconst (v := 1) hx hb dX12_set_2 (by decide) ?_
  refine th_cSs (As := [.int x1, .int 0, .int 1]) (rest := []) (n := 3) (d := 0) ⟨hx, hb, hml, hown, hts⟩ (c_X12_lies l s.heap x1 0 1) wd_1395 wd_1396 wd_13 wd_1397 (by decide +kernel) ⟨by rw [hR]; exact Nat.le_of_ble_eq_true rfl, by rw [hR]; exact Nat.le_of_ble_eq_true rfl⟩ hN hS rfl hl.1 rfl (Nat.le_of_ble_eq_true rfl) dX12_set_3 ⟨Nat.zero_le _, Nat.zero_le _⟩ (fun r1 locs hp hS => ?_)
  rcases hp with ⟨rfl, hp⟩ | ⟨rfl, hp⟩
  · skip
    try simp only [rg, not_and, Int.not_le] at hp
    have hp2 := hp
    try rw [show (0 : Int32).toInt = 0 from by decide] at hp2
    try rw [show (1 : Int32).toInt = 1 from by decide] at hp2
    refine lv_if_ne (tgt := 16) hx hb dX12_set_6 (by decide) (fun _ => ?_) (fun c => absurd c (by decide))
    refine lv_aload_n hx hb dX12_set_16 rfl (lv_at hl 0 rfl) ?_
    refine lv_iload_n hx hb dX12_set_17 rfl (lv_at hl 1 rfl) ?_
    refine mx_v (As := [.int x1]) (rest := []) (n := 1) (d := 69) ⟨hx, hb, hml, hown, hts⟩ (c_X12_findsBest l E D G h0 hG0 x1 ⟨by omega, by omega⟩) wd_1832 wd_1834 wp_92 wd_13 wd_1835 (by decide +kernel) ⟨by rw [hR]; exact Nat.le_of_ble_eq_true rfl, by rw [hR]; exact Nat.le_of_ble_eq_true rfl⟩ hI hN hK hS hG0 (trivial) rfl hl.1 rfl (Nat.le_of_ble_eq_true rfl) dX12_set_18 ⟨Nat.zero_le _, Nat.zero_le _⟩ (fun H locs hI hp hS => ?_)
    refine lv_aload_n hx hb dX12_set_21 rfl (lv_at hl 0 rfl) ?_
    refine gmA hx hb hts inT12 hown hK hI List.not_mem_nil hG0 3 (by decide) (hts _ (tb_c wd_1236)) rfl rfl dX12_set_22 (fun a4 hq5 hf6 => ?_)
    refine lv_iconst (v := 0) hx hb dX12_set_25 (by decide) ?_
    refine lv_iconst (v := 5) hx hb dX12_set_26 (by decide) ?_
    refine lv_iload_n hx hb dX12_set_27 rfl (lv_at hl 1 rfl) ?_
    refine lv_imul hx hb dX12_set_28 ?_
    refine lv_topi (fun v7 e8 => ?_)
    have tv7 : v7.toInt = (5) * x1.toInt := iv_mul (by decide) rfl e8 (by omega) (by omega)
    refine lv_iadd hx hb dX12_set_29 ?_
    refine lv_topi (fun v9 e10 => ?_)
    have tv9 : v9.toInt = (0) + v7.toInt := iv_add (by decide) rfl e10 (by omega) (by omega)
    refine lv_iconst (v := 2) hx hb dX12_set_30 (by decide) ?_
    refine lv_iadd hx hb dX12_set_31 ?_
    refine lv_topi (fun v11 e12 => ?_)
    have tv11 : v11.toInt = v9.toInt + (2) := iv_add rfl (by decide) e12 (by omega) (by omega)
    refine lv_aload_n hx hb dX12_set_32 rfl (lv_at hl 0 rfl) ?_
    refine gmI hx hb hts inT12 hown hK hI List.not_mem_nil hG0 45 (by decide) (hts _ (tb_c wd_1278)) rfl rfl dX12_set_33 (fun w13 hg14 k15 k16 => ?_)
    obtain ⟨F17, hA18, hP19⟩ := om_1 hI hq5 List.not_mem_nil
    refine th_iast hx hb hK hA18 0 rfl hS ⟨_, hq5⟩ (iv_in (X := v11.toInt) rfl (by omega) (by omega)) dX12_set_36 (fun H locs hA20 oq hS => ?_)
    have hP21 := kOk.set (i := v11) (v := w13) hP19 (X := v11.toInt) (V := w13.toInt) rfl rfl (by omega) (by omega) (ks_pumps (by omega) (by omega) (by omega))
    have hI := th_I.put hI hq5 hA20 (ok_m1 hP21) oq
    have hg14 := gf.arr hG0 hq5 (by decide) oq hg14
    have hf6 := fr.arr hG0 hq5 (by decide) oq hf6
    have e22 : w13 = (upd F17 (v11 : Int32).toNatClampNeg w13) (v11 : Int32).toNatClampNeg := rd_us
    refine lv_aload_n hx hb dX12_set_37 rfl (lv_at hl 0 rfl) ?_
    refine gmA hx hb hts inT12 hown hK hI List.not_mem_nil hG0 3 (by decide) (hts _ (tb_c wd_1236)) rfl rfl dX12_set_38 (fun a23 hq24 hf25 => ?_)
    obtain rfl := fr.uniq (by decide) hf6 hf25
    refine lv_iconst (v := 0) hx hb dX12_set_41 (by decide) ?_
    refine lv_iconst (v := 5) hx hb dX12_set_42 (by decide) ?_
    refine lv_iload_n hx hb dX12_set_43 rfl (lv_at hl 1 rfl) ?_
    refine lv_imul hx hb dX12_set_44 ?_
    refine lv_topi (fun v26 e27 => ?_)
    have tv26 : v26.toInt = (5) * x1.toInt := iv_mul (by decide) rfl e27 (by omega) (by omega)
    refine lv_iadd hx hb dX12_set_45 ?_
    refine lv_topi (fun v28 e29 => ?_)
    have tv28 : v28.toInt = (0) + v26.toInt := iv_add (by decide) rfl e29 (by omega) (by omega)
    refine lv_iconst (v := 3) hx hb dX12_set_46 (by decide) ?_
    refine lv_iadd hx hb dX12_set_47 ?_
    refine lv_topi (fun v30 e31 => ?_)
    have tv30 : v30.toInt = v28.toInt + (3) := iv_add rfl (by decide) e31 (by omega) (by omega)
    refine lv_aload_n hx hb dX12_set_48 rfl (lv_at hl 0 rfl) ?_
    refine gmI hx hb hts inT12 hown hK hI List.not_mem_nil hG0 45 (by decide) (hts _ (tb_c wd_1278)) rfl rfl dX12_set_49 (fun w32 hg33 k34 k35 => ?_)
    obtain rfl := gf.uniq (by decide) hg14 hg33
    refine lv_aload_n hx hb dX12_set_52 rfl (lv_at hl 0 rfl) ?_
    refine gmI hx hb hts inT12 hown hK hI List.not_mem_nil hG0 46 (by decide) (hts _ (tb_c wd_1279)) rfl rfl dX12_set_53 (fun w36 hg37 k38 k39 => ?_)
    refine lv_iadd hx hb dX12_set_56 ?_
    refine lv_topi (fun v40 e41 => ?_)
    try have tv40 : v40.toInt = w13.toInt + w36.toInt := iv_add rfl rfl e41 (by omega) (by omega)
    refine lv_bipush (v := 24) hx hb dX12_set_57 (by decide) ?_
    refine lv_irem hx hb dX12_set_59 (by decide) ?_
    refine lv_topi (fun v42 e43 => ?_)
    refine th_iast hx hb hK hA20 0 rfl hS ⟨_, hq5⟩ (iv_in (X := v30.toInt) rfl (by omega) (by omega)) dX12_set_60 (fun H locs hA44 oq hS => ?_)
    have k45 := iv_lo v42
    have k46 := iv_hi v42
    have hP47 := kOk.set (i := v30) (v := v42) hP21 (X := v30.toInt) (V := v42.toInt) rfl rfl (by omega) (by omega) (ks_pumps (by omega) (by omega) (by omega))
    have hI := th_I.put hI hq5 hA44 (ok_m1 hP47) oq
    have hg14 := gf.arr hG0 hq5 (by decide) oq hg14
    have hg37 := gf.arr hG0 hq5 (by decide) oq hg37
    have hf6 := fr.arr hG0 hq5 (by decide) oq hf6
    have e48 := rd_un (i := v11) (j := v30) (v := v42) e22 (X := v11.toInt) (Y := v30.toInt) rfl rfl (by omega) (by omega) (by omega)
    have e49 : v42 = (upd (upd F17 (v11 : Int32).toNatClampNeg w13) (v30 : Int32).toNatClampNeg v42) (v30 : Int32).toNatClampNeg := rd_us
    refine lv_aload_n hx hb dX12_set_61 rfl (lv_at hl 0 rfl) ?_
    refine lv_aload_n hx hb dX12_set_62 rfl (lv_at hl 0 rfl) ?_
    refine gmI hx hb hts inT12 hown hK hI List.not_mem_nil hG0 44 (by decide) (hts _ (tb_c wd_1277)) rfl rfl dX12_set_63 (fun w50 hg51 k52 k53 => ?_)
    refine mx_i (As := [.int w50]) (rest := []) (n := 1) (d := 0) ⟨hx, hb, hml, hown, hts⟩ (c_X12_good l E D G h0 hG0 w50) wd_1402 wd_1404 wp_41 wd_13 wd_1405 (by decide +kernel) ⟨by rw [hR]; exact Nat.le_of_ble_eq_true rfl, by rw [hR]; exact Nat.le_of_ble_eq_true rfl⟩ hI hN hK hS hG0 (trivial) rfl hl.1 rfl (Nat.le_of_ble_eq_true rfl) dX12_set_66 ⟨Nat.zero_le _, Nat.zero_le _⟩ (fun r54 H locs hI hp hS => ?_)
    obtain rfl := hp.symm
    have hpost : True := trivial
    rw [hQ]
    exact W.iret (v := w50) hx hb hr (fun t ht hW => ⟨⟨w50, w50, rfl, rfl, ⟨by rw [ht]; exact hI, hN.warm hW, va_K.moved hW.alike hK⟩, by first | (rw [ht]; exact hpost) | exact hpost⟩, hS.F ht⟩) hS.2.2 dX12_set_69
  · skip
    try simp only [rg, not_and, Int.not_le] at hp
    have hp55 := hp
    try rw [show (0 : Int32).toInt = 0 from by decide] at hp55
    try rw [show (1 : Int32).toInt = 1 from by decide] at hp55
    refine lv_if_ne (tgt := 16) hx hb dX12_set_6 (by decide) (fun c => absurd c (by decide)) (fun _ => ?_)
    refine lv_aload_n hx hb dX12_set_9 rfl (lv_at hl 0 rfl) ?_
    refine lv_bipush (v := (-2)) hx hb dX12_set_10 (by decide) ?_
    refine mx_i (As := [.int (-2)]) (rest := []) (n := 1) (d := 0) ⟨hx, hb, hml, hown, hts⟩ (c_X12_refuses l E D G h0 hG0 (-2) ⟨by decide, by decide⟩) wd_1398 wd_1400 wp_40 wd_13 wd_1401 (by decide +kernel) ⟨by rw [hR]; exact Nat.le_of_ble_eq_true rfl, by rw [hR]; exact Nat.le_of_ble_eq_true rfl⟩ hI hN hK hS hG0 (trivial) rfl hl.1 rfl (Nat.le_of_ble_eq_true rfl) dX12_set_12 ⟨Nat.zero_le _, Nat.zero_le _⟩ (fun r56 H locs hI hp hS => ?_)
    obtain rfl := hp.symm
    have hpost : True := trivial
    rw [hQ]
    exact W.iret (v := (-2)) hx hb hr (fun t ht hW => ⟨⟨(-2), (-2), rfl, rfl, ⟨by rw [ht]; exact hI, hN.warm hW, va_K.moved hW.alike hK⟩, by first | (rw [ht]; exact hpost) | exact hpost⟩, hS.F ht⟩) hS.2.2 dX12_set_15
theorem dX12_draws_0g : (decode cX12_draws 0 = .ok (.aload_n 0, 1)) ∧ (decode cX12_draws 1 = .ok (.ldc2_w 398, 3)) ∧ (decode cX12_draws 4 = .ok (.aload_n 0, 1)) ∧ (decode cX12_draws 5 = .ok (.getfield 400, 3)) ∧ (decode cX12_draws 8 = .ok (.i2l, 1)) ∧ (decode cX12_draws 9 = .ok (.lmul, 1)) ∧ (decode cX12_draws 10 = .ok (.ldc2_w 403, 3)) ∧ (decode cX12_draws 13 = .ok (.ladd, 1)) ∧ (decode cX12_draws 14 = .ok (.ldc2_w 405, 3)) ∧ (decode cX12_draws 17 = .ok (.lrem, 1)) := by decide +kernel
theorem dX12_draws_0 : decode cX12_draws 0 = .ok (.aload_n 0, 1) := dX12_draws_0g.1
theorem dX12_draws_1 : decode cX12_draws 1 = .ok (.ldc2_w 398, 3) := dX12_draws_0g.2.1
theorem dX12_draws_4 : decode cX12_draws 4 = .ok (.aload_n 0, 1) := dX12_draws_0g.2.2.1
theorem dX12_draws_5 : decode cX12_draws 5 = .ok (.getfield 400, 3) := dX12_draws_0g.2.2.2.1
theorem dX12_draws_8 : decode cX12_draws 8 = .ok (.i2l, 1) := dX12_draws_0g.2.2.2.2.1
theorem dX12_draws_9 : decode cX12_draws 9 = .ok (.lmul, 1) := dX12_draws_0g.2.2.2.2.2.1
theorem dX12_draws_10 : decode cX12_draws 10 = .ok (.ldc2_w 403, 3) := dX12_draws_0g.2.2.2.2.2.2.1
theorem dX12_draws_13 : decode cX12_draws 13 = .ok (.ladd, 1) := dX12_draws_0g.2.2.2.2.2.2.2.1
theorem dX12_draws_14 : decode cX12_draws 14 = .ok (.ldc2_w 405, 3) := dX12_draws_0g.2.2.2.2.2.2.2.2.1
theorem dX12_draws_17 : decode cX12_draws 17 = .ok (.lrem, 1) := dX12_draws_0g.2.2.2.2.2.2.2.2.2
theorem dX12_draws_18g : (decode cX12_draws 18 = .ok (.l2i, 1)) ∧ (decode cX12_draws 19 = .ok (.putfield 400, 3)) ∧ (decode cX12_draws 22 = .ok (.aload_n 0, 1)) ∧ (decode cX12_draws 23 = .ok (.getfield 400, 3)) ∧ (decode cX12_draws 26 = .ok (.iload_n 1, 1)) ∧ (decode cX12_draws 27 = .ok (.irem, 1)) ∧ (decode cX12_draws 28 = .ok (.ireturn, 1)) := by decide +kernel
theorem dX12_draws_18 : decode cX12_draws 18 = .ok (.l2i, 1) := dX12_draws_18g.1
theorem dX12_draws_19 : decode cX12_draws 19 = .ok (.putfield 400, 3) := dX12_draws_18g.2.1
theorem dX12_draws_22 : decode cX12_draws 22 = .ok (.aload_n 0, 1) := dX12_draws_18g.2.2.1
theorem dX12_draws_23 : decode cX12_draws 23 = .ok (.getfield 400, 3) := dX12_draws_18g.2.2.2.1
theorem dX12_draws_26 : decode cX12_draws 26 = .ok (.iload_n 1, 1) := dX12_draws_18g.2.2.2.2.1
theorem dX12_draws_27 : decode cX12_draws 27 = .ok (.irem, 1) := dX12_draws_18g.2.2.2.2.2.1
theorem dX12_draws_28 : decode cX12_draws 28 = .ok (.ireturn, 1) := dX12_draws_18g.2.2.2.2.2.2
set_option maxHeartbeats 4000000 in
set_option maxRecDepth 100000 in
theorem c_X12_draws_100 (l : Launch) (E : Nat → Nat) (D : va_G) (G : th_G) (h0 : Nat) (hG0 : G h0 = some (10, 0)) : Met l yX12_draws (tb (.code yX12_draws cX12_draws 2 (some .int))) (rm 0) (va_Pc [.ref h0, .int 100] (PX E D G (fun H => True))) (QXi E D G (fun r H => True)) 0 0 (th_A G) := by
  refine Met.ofW (cc := cX12_draws) (maxL := 2) (ret := (some .int)) (by decide) rfl ?_
  intro p e s m args below meth c s₁ B hml hv
  obtain ⟨hav, ⟨hI, hN, hK⟩, hX⟩ := hv
  have hx := B.exec
  have hb := B.bytes
  have hr := B.returns
  have hts := atoms_spec (ws := tb (.code yX12_draws cX12_draws 2 (some .int))) B.pre
  have hown : s.vm.findClass RX12 = some m.cls := findClass_of_methodNamed B.named
  have hlocks := B.notSynchronized
  have hS : va_S (th_A G) s.heap s.heap [] := va_S.rf
  have hl := lv_entry ([.ref h0, .int 100]) (n := 2) (Nat.le_of_ble_eq_true rfl)
  rw [show entryFrame m args 2 = entryFrame m ([.ref h0, .int 100] : List Value).toArray 2 from by rw [hav], lg_entry_eq]
  generalize (lg_sl ([.ref h0, .int 100]) ++ List.replicate (2 - (lg_sl ([.ref h0, .int 100])).length) Slot.unset).toArray = ls at hl ⊢
  have hl : lv_has ls 2 [(0, .ref h0), (1, .int 100)] := hl
  generalize hR : (headSpec (tb (.code yX12_draws cX12_draws 2 (some .int))) (rm 0)).room = R
  have hR := hR.symm
  generalize hQ : MQ below (QXi E D G (fun r H => True)) args s 0 0 (th_A G) = QF
  have hQ := hQ.symm
  refine lv_aload_n hx hb dX12_draws_0 rfl (lv_at hl 0 rfl) ?_
  refine lv_ldc2 hx hb hown (hts _ (tb_c wd_1855)) dX12_draws_1 ?_
  refine lv_topl (fun l1 e2 => ?_)
  refine lv_aload_n hx hb dX12_draws_4 rfl (lv_at hl 0 rfl) ?_
  refine gmI hx hb hts inT12 hown hK hI List.not_mem_nil hG0 51 (by decide) (hts _ (tb_c wd_1284)) rfl rfl dX12_draws_5 (fun w3 hg4 k5 k6 => ?_)
  refine lv_i2l hx hb dX12_draws_8 rfl ?_
  refine lv_topl (fun l7 e8 => ?_)
  refine lv_lmul hx hb dX12_draws_9 ?_
  refine lv_topl (fun l9 e10 => ?_)
  refine lv_ldc2 hx hb hown (hts _ (tb_c wd_1856)) dX12_draws_10 ?_
  refine lv_topl (fun l11 e12 => ?_)
  refine lv_ladd hx hb dX12_draws_13 ?_
  refine lv_topl (fun l13 e14 => ?_)
  refine lv_ldc2 hx hb hown (hts _ (tb_c wd_1857)) dX12_draws_14 ?_
  refine lv_topl (fun l15 e16 => ?_)
  refine lv_lrem hx hb dX12_draws_17 (by rw [e16]; decide) ?_
  refine lv_topl (fun l17 e18 => ?_)
  refine lv_l2i hx hb dX12_draws_18 rfl ?_
  refine lv_topi (fun v19 e20 => ?_)
  have k21 := iv_lo v19
  have k22 := iv_hi v19
  refine pmI (ty := .int) hx hb hts inT12 hown hK hI List.not_mem_nil hG0 hS ⟨_, hG0⟩ 51 (by decide) (hts _ (tb_c wd_1284)) rfl rfl (by decide +kernel) rfl rfl rfl (by omega) (by omega) dX12_draws_19 (fun H locs hI hgP hS => ?_)
  have hg23 := hgP.2.1
  refine lv_aload_n hx hb dX12_draws_22 rfl (lv_at hl 0 rfl) ?_
  refine gmI hx hb hts inT12 hown hK hI List.not_mem_nil hG0 51 (by decide) (hts _ (tb_c wd_1284)) rfl rfl dX12_draws_23 (fun w24 hg25 k26 k27 => ?_)
  obtain rfl := gf.uniq (by decide) hg23 hg25
  refine lv_iload_n hx hb dX12_draws_26 rfl (lv_at hl 1 rfl) ?_
  refine lv_irem hx hb dX12_draws_27 (by decide) ?_
  refine lv_topi (fun v28 e29 => ?_)
  have hpost : True := trivial
  rw [hQ]
  exact W.iret (v := v28) hx hb hr (fun t ht hW => ⟨⟨v28, v28, rfl, rfl, ⟨by rw [ht]; exact hI, hN.warm hW, va_K.moved hW.alike hK⟩, by first | (rw [ht]; exact hpost) | exact hpost⟩, hS.F ht⟩) hS.2.2 dX12_draws_28
theorem dX12_week_0g : (decode cX12_week 0 = .ok (.iload_n 1, 1)) ∧ (decode cX12_week 1 = .ok (.iconst 0, 1)) ∧ (decode cX12_week 2 = .ok (.ldc 158, 2)) ∧ (decode cX12_week 4 = .ok (.invokestatic 103, 3)) ∧ (decode cX12_week 7 = .ok (.ifCond .eq 13, 3)) ∧ (decode cX12_week 10 = .ok (.iload_n 2, 1)) ∧ (decode cX12_week 11 = .ok (.iconst 0, 1)) ∧ (decode cX12_week 12 = .ok (.bipush 100, 2)) ∧ (decode cX12_week 14 = .ok (.invokestatic 103, 3)) ∧ (decode cX12_week 17 = .ok (.ifCond .ne 9, 3)) := by decide +kernel
theorem dX12_week_0 : decode cX12_week 0 = .ok (.iload_n 1, 1) := dX12_week_0g.1
theorem dX12_week_1 : decode cX12_week 1 = .ok (.iconst 0, 1) := dX12_week_0g.2.1
theorem dX12_week_2 : decode cX12_week 2 = .ok (.ldc 158, 2) := dX12_week_0g.2.2.1
theorem dX12_week_4 : decode cX12_week 4 = .ok (.invokestatic 103, 3) := dX12_week_0g.2.2.2.1
theorem dX12_week_7 : decode cX12_week 7 = .ok (.ifCond .eq 13, 3) := dX12_week_0g.2.2.2.2.1
theorem dX12_week_10 : decode cX12_week 10 = .ok (.iload_n 2, 1) := dX12_week_0g.2.2.2.2.2.1
theorem dX12_week_11 : decode cX12_week 11 = .ok (.iconst 0, 1) := dX12_week_0g.2.2.2.2.2.2.1
theorem dX12_week_12 : decode cX12_week 12 = .ok (.bipush 100, 2) := dX12_week_0g.2.2.2.2.2.2.2.1
theorem dX12_week_14 : decode cX12_week 14 = .ok (.invokestatic 103, 3) := dX12_week_0g.2.2.2.2.2.2.2.2.1
theorem dX12_week_17 : decode cX12_week 17 = .ok (.ifCond .ne 9, 3) := dX12_week_0g.2.2.2.2.2.2.2.2.2
theorem dX12_week_20g : (decode cX12_week 20 = .ok (.aload_n 0, 1)) ∧ (decode cX12_week 21 = .ok (.iconst (-1), 1)) ∧ (decode cX12_week 22 = .ok (.invokevirtual 107, 3)) ∧ (decode cX12_week 25 = .ok (.ireturn, 1)) ∧ (decode cX12_week 26 = .ok (.aload_n 0, 1)) ∧ (decode cX12_week 27 = .ok (.iload_n 1, 1)) ∧ (decode cX12_week 28 = .ok (.putfield 400, 3)) ∧ (decode cX12_week 31 = .ok (.aload_n 0, 1)) ∧ (decode cX12_week 32 = .ok (.iconst 1, 1)) ∧ (decode cX12_week 33 = .ok (.putfield 407, 3)) := by decide +kernel
theorem dX12_week_20 : decode cX12_week 20 = .ok (.aload_n 0, 1) := dX12_week_20g.1
theorem dX12_week_21 : decode cX12_week 21 = .ok (.iconst (-1), 1) := dX12_week_20g.2.1
theorem dX12_week_22 : decode cX12_week 22 = .ok (.invokevirtual 107, 3) := dX12_week_20g.2.2.1
theorem dX12_week_25 : decode cX12_week 25 = .ok (.ireturn, 1) := dX12_week_20g.2.2.2.1
theorem dX12_week_26 : decode cX12_week 26 = .ok (.aload_n 0, 1) := dX12_week_20g.2.2.2.2.1
theorem dX12_week_27 : decode cX12_week 27 = .ok (.iload_n 1, 1) := dX12_week_20g.2.2.2.2.2.1
theorem dX12_week_28 : decode cX12_week 28 = .ok (.putfield 400, 3) := dX12_week_20g.2.2.2.2.2.2.1
theorem dX12_week_31 : decode cX12_week 31 = .ok (.aload_n 0, 1) := dX12_week_20g.2.2.2.2.2.2.2.1
theorem dX12_week_32 : decode cX12_week 32 = .ok (.iconst 1, 1) := dX12_week_20g.2.2.2.2.2.2.2.2.1
theorem dX12_week_33 : decode cX12_week 33 = .ok (.putfield 407, 3) := dX12_week_20g.2.2.2.2.2.2.2.2.2
theorem dX12_week_36g : (decode cX12_week 36 = .ok (.iconst 0, 1)) ∧ (decode cX12_week 37 = .ok (.istore_n 3, 1)) ∧ (decode cX12_week 38 = .ok (.iconst 0, 1)) ∧ (decode cX12_week 39 = .ok (.istore 4, 2)) ∧ (decode cX12_week 41 = .ok (.iload 4, 2)) ∧ (decode cX12_week 43 = .ok (.bipush 24, 2)) ∧ (decode cX12_week 45 = .ok (.if_icmp .ge 18, 3)) ∧ (decode cX12_week 48 = .ok (.aload_n 0, 1)) ∧ (decode cX12_week 49 = .ok (.getfield 100, 3)) ∧ (decode cX12_week 52 = .ok (.iload 4, 2)) := by decide +kernel
theorem dX12_week_36 : decode cX12_week 36 = .ok (.iconst 0, 1) := dX12_week_36g.1
theorem dX12_week_37 : decode cX12_week 37 = .ok (.istore_n 3, 1) := dX12_week_36g.2.1
theorem dX12_week_38 : decode cX12_week 38 = .ok (.iconst 0, 1) := dX12_week_36g.2.2.1
theorem dX12_week_39 : decode cX12_week 39 = .ok (.istore 4, 2) := dX12_week_36g.2.2.2.1
theorem dX12_week_41 : decode cX12_week 41 = .ok (.iload 4, 2) := dX12_week_36g.2.2.2.2.1
theorem dX12_week_43 : decode cX12_week 43 = .ok (.bipush 24, 2) := dX12_week_36g.2.2.2.2.2.1
theorem dX12_week_45 : decode cX12_week 45 = .ok (.if_icmp .ge 18, 3) := dX12_week_36g.2.2.2.2.2.2.1
theorem dX12_week_48 : decode cX12_week 48 = .ok (.aload_n 0, 1) := dX12_week_36g.2.2.2.2.2.2.2.1
theorem dX12_week_49 : decode cX12_week 49 = .ok (.getfield 100, 3) := dX12_week_36g.2.2.2.2.2.2.2.2.1
theorem dX12_week_52 : decode cX12_week 52 = .ok (.iload 4, 2) := dX12_week_36g.2.2.2.2.2.2.2.2.2
theorem dX12_week_54g : (decode cX12_week 54 = .ok (.iload 4, 2)) ∧ (decode cX12_week 56 = .ok (.iastore, 1)) ∧ (decode cX12_week 57 = .ok (.iinc 4 1, 3)) ∧ (decode cX12_week 60 = .ok (.goto (-19), 3)) ∧ (decode cX12_week 63 = .ok (.iconst 0, 1)) ∧ (decode cX12_week 64 = .ok (.istore 4, 2)) ∧ (decode cX12_week 66 = .ok (.iload 4, 2)) ∧ (decode cX12_week 68 = .ok (.bipush 96, 2)) ∧ (decode cX12_week 70 = .ok (.if_icmp .ge 102, 3)) ∧ (decode cX12_week 73 = .ok (.aload_n 0, 1)) := by decide +kernel
theorem dX12_week_54 : decode cX12_week 54 = .ok (.iload 4, 2) := dX12_week_54g.1
theorem dX12_week_56 : decode cX12_week 56 = .ok (.iastore, 1) := dX12_week_54g.2.1
theorem dX12_week_57 : decode cX12_week 57 = .ok (.iinc 4 1, 3) := dX12_week_54g.2.2.1
theorem dX12_week_60 : decode cX12_week 60 = .ok (.goto (-19), 3) := dX12_week_54g.2.2.2.1
theorem dX12_week_63 : decode cX12_week 63 = .ok (.iconst 0, 1) := dX12_week_54g.2.2.2.2.1
theorem dX12_week_64 : decode cX12_week 64 = .ok (.istore 4, 2) := dX12_week_54g.2.2.2.2.2.1
theorem dX12_week_66 : decode cX12_week 66 = .ok (.iload 4, 2) := dX12_week_54g.2.2.2.2.2.2.1
theorem dX12_week_68 : decode cX12_week 68 = .ok (.bipush 96, 2) := dX12_week_54g.2.2.2.2.2.2.2.1
theorem dX12_week_70 : decode cX12_week 70 = .ok (.if_icmp .ge 102, 3) := dX12_week_54g.2.2.2.2.2.2.2.2.1
theorem dX12_week_73 : decode cX12_week 73 = .ok (.aload_n 0, 1) := dX12_week_54g.2.2.2.2.2.2.2.2.2
theorem dX12_week_74g : (decode cX12_week 74 = .ok (.bipush 100, 2)) ∧ (decode cX12_week 76 = .ok (.invokevirtual 410, 3)) ∧ (decode cX12_week 79 = .ok (.iload_n 2, 1)) ∧ (decode cX12_week 80 = .ok (.if_icmp .ge 7, 3)) ∧ (decode cX12_week 83 = .ok (.iconst 1, 1)) ∧ (decode cX12_week 84 = .ok (.goto 4, 3)) ∧ (decode cX12_week 87 = .ok (.iconst 0, 1)) ∧ (decode cX12_week 88 = .ok (.istore 5, 2)) ∧ (decode cX12_week 90 = .ok (.iload_n 3, 1)) ∧ (decode cX12_week 91 = .ok (.iload 5, 2)) := by decide +kernel
theorem dX12_week_74 : decode cX12_week 74 = .ok (.bipush 100, 2) := dX12_week_74g.1
theorem dX12_week_76 : decode cX12_week 76 = .ok (.invokevirtual 410, 3) := dX12_week_74g.2.1
theorem dX12_week_79 : decode cX12_week 79 = .ok (.iload_n 2, 1) := dX12_week_74g.2.2.1
theorem dX12_week_80 : decode cX12_week 80 = .ok (.if_icmp .ge 7, 3) := dX12_week_74g.2.2.2.1
theorem dX12_week_83 : decode cX12_week 83 = .ok (.iconst 1, 1) := dX12_week_74g.2.2.2.2.1
theorem dX12_week_84 : decode cX12_week 84 = .ok (.goto 4, 3) := dX12_week_74g.2.2.2.2.2.1
theorem dX12_week_87 : decode cX12_week 87 = .ok (.iconst 0, 1) := dX12_week_74g.2.2.2.2.2.2.1
theorem dX12_week_88 : decode cX12_week 88 = .ok (.istore 5, 2) := dX12_week_74g.2.2.2.2.2.2.2.1
theorem dX12_week_90 : decode cX12_week 90 = .ok (.iload_n 3, 1) := dX12_week_74g.2.2.2.2.2.2.2.2.1
theorem dX12_week_91 : decode cX12_week 91 = .ok (.iload 5, 2) := dX12_week_74g.2.2.2.2.2.2.2.2.2
theorem dX12_week_93g : (decode cX12_week 93 = .ok (.ifCond .eq 7, 3)) ∧ (decode cX12_week 96 = .ok (.iconst 1, 1)) ∧ (decode cX12_week 97 = .ok (.goto 4, 3)) ∧ (decode cX12_week 100 = .ok (.iconst 0, 1)) ∧ (decode cX12_week 101 = .ok (.iadd, 1)) ∧ (decode cX12_week 102 = .ok (.istore_n 3, 1)) ∧ (decode cX12_week 103 = .ok (.iconst 0, 1)) ∧ (decode cX12_week 104 = .ok (.istore 6, 2)) ∧ (decode cX12_week 106 = .ok (.iload 6, 2)) ∧ (decode cX12_week 108 = .ok (.bipush 24, 2)) := by decide +kernel
theorem dX12_week_93 : decode cX12_week 93 = .ok (.ifCond .eq 7, 3) := dX12_week_93g.1
theorem dX12_week_96 : decode cX12_week 96 = .ok (.iconst 1, 1) := dX12_week_93g.2.1
theorem dX12_week_97 : decode cX12_week 97 = .ok (.goto 4, 3) := dX12_week_93g.2.2.1
theorem dX12_week_100 : decode cX12_week 100 = .ok (.iconst 0, 1) := dX12_week_93g.2.2.2.1
theorem dX12_week_101 : decode cX12_week 101 = .ok (.iadd, 1) := dX12_week_93g.2.2.2.2.1
theorem dX12_week_102 : decode cX12_week 102 = .ok (.istore_n 3, 1) := dX12_week_93g.2.2.2.2.2.1
theorem dX12_week_103 : decode cX12_week 103 = .ok (.iconst 0, 1) := dX12_week_93g.2.2.2.2.2.2.1
theorem dX12_week_104 : decode cX12_week 104 = .ok (.istore 6, 2) := dX12_week_93g.2.2.2.2.2.2.2.1
theorem dX12_week_106 : decode cX12_week 106 = .ok (.iload 6, 2) := dX12_week_93g.2.2.2.2.2.2.2.2.1
theorem dX12_week_108 : decode cX12_week 108 = .ok (.bipush 24, 2) := dX12_week_93g.2.2.2.2.2.2.2.2.2
theorem dX12_week_110g : (decode cX12_week 110 = .ok (.if_icmp .ge 56, 3)) ∧ (decode cX12_week 113 = .ok (.aload_n 0, 1)) ∧ (decode cX12_week 114 = .ok (.getfield 100, 3)) ∧ (decode cX12_week 117 = .ok (.iload 6, 2)) ∧ (decode cX12_week 119 = .ok (.iaload, 1)) ∧ (decode cX12_week 120 = .ok (.bipush 24, 2)) ∧ (decode cX12_week 122 = .ok (.if_icmp .eq 38, 3)) ∧ (decode cX12_week 125 = .ok (.aload_n 0, 1)) ∧ (decode cX12_week 126 = .ok (.getfield 100, 3)) ∧ (decode cX12_week 129 = .ok (.iload 6, 2)) := by decide +kernel
theorem dX12_week_110 : decode cX12_week 110 = .ok (.if_icmp .ge 56, 3) := dX12_week_110g.1
theorem dX12_week_113 : decode cX12_week 113 = .ok (.aload_n 0, 1) := dX12_week_110g.2.1
theorem dX12_week_114 : decode cX12_week 114 = .ok (.getfield 100, 3) := dX12_week_110g.2.2.1
theorem dX12_week_117 : decode cX12_week 117 = .ok (.iload 6, 2) := dX12_week_110g.2.2.2.1
theorem dX12_week_119 : decode cX12_week 119 = .ok (.iaload, 1) := dX12_week_110g.2.2.2.2.1
theorem dX12_week_120 : decode cX12_week 120 = .ok (.bipush 24, 2) := dX12_week_110g.2.2.2.2.2.1
theorem dX12_week_122 : decode cX12_week 122 = .ok (.if_icmp .eq 38, 3) := dX12_week_110g.2.2.2.2.2.2.1
theorem dX12_week_125 : decode cX12_week 125 = .ok (.aload_n 0, 1) := dX12_week_110g.2.2.2.2.2.2.2.1
theorem dX12_week_126 : decode cX12_week 126 = .ok (.getfield 100, 3) := dX12_week_110g.2.2.2.2.2.2.2.2.1
theorem dX12_week_129 : decode cX12_week 129 = .ok (.iload 6, 2) := dX12_week_110g.2.2.2.2.2.2.2.2.2
theorem dX12_week_131g : (decode cX12_week 131 = .ok (.aload_n 0, 1)) ∧ (decode cX12_week 132 = .ok (.aload_n 0, 1)) ∧ (decode cX12_week 133 = .ok (.getfield 100, 3)) ∧ (decode cX12_week 136 = .ok (.iload 6, 2)) ∧ (decode cX12_week 138 = .ok (.iaload, 1)) ∧ (decode cX12_week 139 = .ok (.iload 4, 2)) ∧ (decode cX12_week 141 = .ok (.aload_n 0, 1)) ∧ (decode cX12_week 142 = .ok (.aload_n 0, 1)) ∧ (decode cX12_week 143 = .ok (.getfield 100, 3)) ∧ (decode cX12_week 146 = .ok (.iload 6, 2)) := by decide +kernel
theorem dX12_week_131 : decode cX12_week 131 = .ok (.aload_n 0, 1) := dX12_week_131g.1
theorem dX12_week_132 : decode cX12_week 132 = .ok (.aload_n 0, 1) := dX12_week_131g.2.1
theorem dX12_week_133 : decode cX12_week 133 = .ok (.getfield 100, 3) := dX12_week_131g.2.2.1
theorem dX12_week_136 : decode cX12_week 136 = .ok (.iload 6, 2) := dX12_week_131g.2.2.2.1
theorem dX12_week_138 : decode cX12_week 138 = .ok (.iaload, 1) := dX12_week_131g.2.2.2.2.1
theorem dX12_week_139 : decode cX12_week 139 = .ok (.iload 4, 2) := dX12_week_131g.2.2.2.2.2.1
theorem dX12_week_141 : decode cX12_week 141 = .ok (.aload_n 0, 1) := dX12_week_131g.2.2.2.2.2.2.1
theorem dX12_week_142 : decode cX12_week 142 = .ok (.aload_n 0, 1) := dX12_week_131g.2.2.2.2.2.2.2.1
theorem dX12_week_143 : decode cX12_week 143 = .ok (.getfield 100, 3) := dX12_week_131g.2.2.2.2.2.2.2.2.1
theorem dX12_week_146 : decode cX12_week 146 = .ok (.iload 6, 2) := dX12_week_131g.2.2.2.2.2.2.2.2.2
theorem dX12_week_148g : (decode cX12_week 148 = .ok (.iaload, 1)) ∧ (decode cX12_week 149 = .ok (.iload 4, 2)) ∧ (decode cX12_week 151 = .ok (.iload 5, 2)) ∧ (decode cX12_week 153 = .ok (.invokevirtual 282, 3)) ∧ (decode cX12_week 156 = .ok (.invokevirtual 288, 3)) ∧ (decode cX12_week 159 = .ok (.iastore, 1)) ∧ (decode cX12_week 160 = .ok (.iinc 6 1, 3)) ∧ (decode cX12_week 163 = .ok (.goto (-57), 3)) ∧ (decode cX12_week 166 = .ok (.iinc 4 1, 3)) ∧ (decode cX12_week 169 = .ok (.goto (-103), 3)) := by decide +kernel
theorem dX12_week_148 : decode cX12_week 148 = .ok (.iaload, 1) := dX12_week_148g.1
theorem dX12_week_149 : decode cX12_week 149 = .ok (.iload 4, 2) := dX12_week_148g.2.1
theorem dX12_week_151 : decode cX12_week 151 = .ok (.iload 5, 2) := dX12_week_148g.2.2.1
theorem dX12_week_153 : decode cX12_week 153 = .ok (.invokevirtual 282, 3) := dX12_week_148g.2.2.2.1
theorem dX12_week_156 : decode cX12_week 156 = .ok (.invokevirtual 288, 3) := dX12_week_148g.2.2.2.2.1
theorem dX12_week_159 : decode cX12_week 159 = .ok (.iastore, 1) := dX12_week_148g.2.2.2.2.2.1
theorem dX12_week_160 : decode cX12_week 160 = .ok (.iinc 6 1, 3) := dX12_week_148g.2.2.2.2.2.2.1
theorem dX12_week_163 : decode cX12_week 163 = .ok (.goto (-57), 3) := dX12_week_148g.2.2.2.2.2.2.2.1
theorem dX12_week_166 : decode cX12_week 166 = .ok (.iinc 4 1, 3) := dX12_week_148g.2.2.2.2.2.2.2.2.1
theorem dX12_week_169 : decode cX12_week 169 = .ok (.goto (-103), 3) := dX12_week_148g.2.2.2.2.2.2.2.2.2
theorem dX12_week_172g : (decode cX12_week 172 = .ok (.aload_n 0, 1)) ∧ (decode cX12_week 173 = .ok (.iload_n 3, 1)) ∧ (decode cX12_week 174 = .ok (.invokevirtual 111, 3)) ∧ (decode cX12_week 177 = .ok (.ireturn, 1)) := by decide +kernel
theorem dX12_week_172 : decode cX12_week 172 = .ok (.aload_n 0, 1) := dX12_week_172g.1
theorem dX12_week_173 : decode cX12_week 173 = .ok (.iload_n 3, 1) := dX12_week_172g.2.1
theorem dX12_week_174 : decode cX12_week 174 = .ok (.invokevirtual 111, 3) := dX12_week_172g.2.2.1
theorem dX12_week_177 : decode cX12_week 177 = .ok (.ireturn, 1) := dX12_week_172g.2.2.2
set_option maxHeartbeats 4000000 in
set_option maxRecDepth 100000 in
theorem c_X12_week (l : Launch) (E : Nat → Nat) (D : va_G) (G : th_G) (h0 : Nat) (hG0 : G h0 = some (10, 0)) (x1 : Int32) (x2 : Int32) : Met l yX12_week (tb (.code yX12_week cX12_week 7 (some .int))) (rm 68) (va_Pc [.ref h0, .int x1, .int x2] (PX E D G (fun H => True))) (QXi E D G (fun r H => True)) 0 0 (th_A G) := by
  refine Met.ofW (cc := cX12_week) (maxL := 7) (ret := (some .int)) (by decide) rfl ?_
  intro p e s m args below meth c s₁ B hml hv
  obtain ⟨hav, ⟨hI, hN, hK⟩, hX⟩ := hv
  have hx := B.exec
  have hb := B.bytes
  have hr := B.returns
  have hts := atoms_spec (ws := tb (.code yX12_week cX12_week 7 (some .int))) B.pre
  have hown : s.vm.findClass RX12 = some m.cls := findClass_of_methodNamed B.named
  have hlocks := B.notSynchronized
  have hS : va_S (th_A G) s.heap s.heap [] := va_S.rf
  have hl := lv_entry ([.ref h0, .int x1, .int x2]) (n := 7) (Nat.le_of_ble_eq_true rfl)
  rw [show entryFrame m args 7 = entryFrame m ([.ref h0, .int x1, .int x2] : List Value).toArray 7 from by rw [hav], lg_entry_eq]
  generalize (lg_sl ([.ref h0, .int x1, .int x2]) ++ List.replicate (7 - (lg_sl ([.ref h0, .int x1, .int x2])).length) Slot.unset).toArray = ls at hl ⊢
  have hl : lv_has ls 7 [(0, .ref h0), (1, .int x1), (2, .int x2)] := hl
  generalize hR : (headSpec (tb (.code yX12_week cX12_week 7 (some .int))) (rm 68)).room = R
  have hR := hR.symm
  generalize hQ : MQ below (QXi E D G (fun r H => True)) args s 0 0 (th_A G) = QF
  have hQ := hQ.symm
  have J_66 : ∀ (nn : Nat) (H : Heap) (locs : List Loc) (ls : Array Slot) (v12031 : Int32) (v12032 : Int32) , (Int.toNat (96 - v12031.toInt) = nn) → lv_has ls 7 [(4, .int v12031), (3, .int v12032), (0, .ref h0), (1, .int x1), (2, .int x2)] → ((0 : Int) ≤ v12031.toInt ∧ v12031.toInt ≤ 96) → ((0 : Int) ≤ x1.toInt ∧ x1.toInt ≤ 1000000) → ((0 : Int) ≤ x2.toInt ∧ x2.toInt ≤ 100) → th_I (okM E) D G [] H → va_S (th_A G) s.heap H locs → W p l e R s m args below meth c H locs 0 0 QF (F0 m 66 ls []) := by
    intro nn
    induction nn using Nat.strongRecOn with
    | ind nn ih_66 =>
      intro H locs ls v12031 v12032  hm hl k12033 k12034 k12035 hI hS
      have J_106 : ∀ (nn : Nat) (H : Heap) (locs : List Loc) (ls : Array Slot) (v12036 : Int32) (v12037 : Int32) (v12038 : Int32) , (Int.toNat (24 - v12036.toInt) = nn) → lv_has ls 7 [(6, .int v12036), (3, .int v12037), (5, .int v12038), (4, .int v12031), (0, .ref h0), (1, .int x1), (2, .int x2)] → ((0 : Int) ≤ v12036.toInt ∧ v12036.toInt ≤ 24) → ((0 : Int) ≤ v12038.toInt ∧ v12038.toInt ≤ 1) → ((0 : Int) ≤ v12031.toInt ∧ v12031.toInt ≤ 95) → th_I (okM E) D G [] H → va_S (th_A G) s.heap H locs → W p l e R s m args below meth c H locs 0 0 QF (F0 m 106 ls []) := by
        intro nn
        induction nn using Nat.strongRecOn with
        | ind nn ih_106 =>
          intro H locs ls v12036 v12037 v12038  hm hl k12040 k12041 k12042 hI hS
          refine lv_iload hx hb dX12_week_106 (lv_at hl 0 rfl) ?_
          refine lv_bipush (v := 24) hx hb dX12_week_108 (by decide) ?_
          refine lv_icmp_ge (tgt := 166) hx hb dX12_week_110 (by decide) (fun c12043 => ?_) (fun c12043 => ?_)
          · skip
            have k12044 := iv_le (X := (24)) (Y := v12036.toInt) (by decide) rfl c12043
            obtain ⟨v12045, e12046⟩ : ∃ y : Int32, y = v12031 + (1) := ⟨_, rfl⟩
            have tv12045 : v12045.toInt = v12031.toInt + (1) := iv_add rfl (by decide) e12046 (by omega) (by omega)
            refine lv_iinc (v := v12045) (lv' := [(4, .int v12045), (6, .int v12036), (3, .int v12037), (5, .int v12038), (0, .ref h0), (1, .int x1), (2, .int x2)]) hx hb dX12_week_166 hl (k := 3) rfl (by rw [e12046]; rfl) (by decide) rfl (fun ls hl => ?_)
            refine lv_goto (tgt := 66) hx hb dX12_week_169 (by decide) ?_
            exact ih_66 _ (by omega) H locs ls v12045 v12037  rfl (lv_sub hl [0, 2, 4, 5, 6] rfl) ⟨by omega, by omega⟩ ⟨by omega, by omega⟩ ⟨by omega, by omega⟩ hI hS
          · skip
            have k12047 := iv_nle (X := (24)) (Y := v12036.toInt) (by decide) rfl c12043
            refine lv_aload_n hx hb dX12_week_113 rfl (lv_at hl 4 rfl) ?_
            refine gmA hx hb hts inT12 hown hK hI List.not_mem_nil hG0 49 (by decide) (hts _ (tb_c wd_1282)) rfl rfl dX12_week_114 (fun a12048 hq12049 hf12050 => ?_)
            refine lv_iload hx hb dX12_week_117 (lv_at hl 0 rfl) ?_
            obtain ⟨F12051, hA12052, hP12053⟩ := om_3 hI hq12049 List.not_mem_nil
            refine th_iald hx hb hK hA12052 0 rfl (iv_in (X := v12036.toInt) rfl (by omega) (by omega)) dX12_week_119 (fun v12054 e12055 => ?_)
            have k12056 := rgs_get hP12053 e12055 (X := v12036.toInt) rfl (by omega) (by omega)
            refine lv_bipush (v := 24) hx hb dX12_week_120 (by decide) ?_
            refine lv_icmp_eq (tgt := 160) hx hb dX12_week_122 (by decide) (fun c12057 => ?_) (fun c12057 => ?_)
            · skip
              have k12058 := iv_eq (X := v12054.toInt) (Y := (24)) rfl (by decide) c12057
              obtain ⟨v12059, e12060⟩ : ∃ y : Int32, y = v12036 + (1) := ⟨_, rfl⟩
              have tv12059 : v12059.toInt = v12036.toInt + (1) := iv_add rfl (by decide) e12060 (by omega) (by omega)
              refine lv_iinc (v := v12059) (lv' := [(6, .int v12059), (3, .int v12037), (5, .int v12038), (4, .int v12031), (0, .ref h0), (1, .int x1), (2, .int x2)]) hx hb dX12_week_160 hl (k := 0) rfl (by rw [e12060]; rfl) (by decide) rfl (fun ls hl => ?_)
              refine lv_goto (tgt := 106) hx hb dX12_week_163 (by decide) ?_
              exact ih_106 _ (by omega) H locs ls v12059 v12037 v12038  rfl (lv_sub hl [0, 1, 2, 3, 4, 5, 6] rfl) ⟨by omega, by omega⟩ ⟨by omega, by omega⟩ ⟨by omega, by omega⟩ hI hS
            · skip
              have k12061 := iv_ne (X := v12054.toInt) (Y := (24)) rfl (by decide) c12057
              refine lv_aload_n hx hb dX12_week_125 rfl (lv_at hl 4 rfl) ?_
              refine gmA hx hb hts inT12 hown hK hI List.not_mem_nil hG0 49 (by decide) (hts _ (tb_c wd_1282)) rfl rfl dX12_week_126 (fun a12062 hq12063 hf12064 => ?_)
              obtain rfl := fr.uniq (by decide) hf12050 hf12064
              refine lv_iload hx hb dX12_week_129 (lv_at hl 0 rfl) ?_
              refine lv_aload_n hx hb dX12_week_131 rfl (lv_at hl 4 rfl) ?_
              refine lv_aload_n hx hb dX12_week_132 rfl (lv_at hl 4 rfl) ?_
              refine gmA hx hb hts inT12 hown hK hI List.not_mem_nil hG0 49 (by decide) (hts _ (tb_c wd_1282)) rfl rfl dX12_week_133 (fun a12065 hq12066 hf12067 => ?_)
              obtain rfl := fr.uniq (by decide) hf12050 hf12067
              refine lv_iload hx hb dX12_week_136 (lv_at hl 0 rfl) ?_
              refine th_iald hx hb hK hA12052 0 rfl (iv_in (X := v12036.toInt) rfl (by omega) (by omega)) dX12_week_138 (fun v12068 e12069 => ?_)
              obtain rfl := (rd_same (i := v12036) (j := v12036) e12055 e12069 (X := v12036.toInt) (Y := v12036.toInt) rfl rfl (by omega)).symm
              refine lv_iload hx hb dX12_week_139 (lv_at hl 3 rfl) ?_
              refine lv_aload_n hx hb dX12_week_141 rfl (lv_at hl 4 rfl) ?_
              refine lv_aload_n hx hb dX12_week_142 rfl (lv_at hl 4 rfl) ?_
              refine gmA hx hb hts inT12 hown hK hI List.not_mem_nil hG0 49 (by decide) (hts _ (tb_c wd_1282)) rfl rfl dX12_week_143 (fun a12070 hq12071 hf12072 => ?_)
              obtain rfl := fr.uniq (by decide) hf12050 hf12072
              refine lv_iload hx hb dX12_week_146 (lv_at hl 0 rfl) ?_
              refine th_iald hx hb hK hA12052 0 rfl (iv_in (X := v12036.toInt) rfl (by omega) (by omega)) dX12_week_148 (fun v12073 e12074 => ?_)
              obtain rfl := (rd_same (i := v12036) (j := v12036) e12055 e12074 (X := v12036.toInt) (Y := v12036.toInt) rfl rfl (by omega)).symm
              refine lv_iload hx hb dX12_week_149 (lv_at hl 3 rfl) ?_
              refine lv_iload hx hb dX12_week_151 (lv_at hl 2 rfl) ?_
              refine mx_i (As := [.int v12054, .int v12031, .int v12038]) (rest := [.int v12031, .int v12054, .ref h0, .int v12036, .ref a12048]) (n := 3) (d := 67) ⟨hx, hb, hml, hown, hts⟩ (c_X12_flowOf l E D G h0 hG0 v12054 v12031 v12038 ⟨by omega, by omega⟩) wd_1459 wd_1461 wp_44 wd_13 wd_1462 (by decide +kernel) ⟨by rw [hR]; exact Nat.le_of_ble_eq_true rfl, by rw [hR]; exact Nat.le_of_ble_eq_true rfl⟩ hI hN hK hS hG0 (trivial) rfl hl.1 rfl (Nat.le_of_ble_eq_true rfl) dX12_week_153 ⟨Nat.zero_le _, Nat.zero_le _⟩ (fun r12075 H locs hI hp hS => ?_)
              refine mr_i (As := [.int v12054, .int v12031, .int r12075]) (rest := [.int v12036, .ref a12048]) (n := 3) (d := 2) ⟨hx, hb, hml, hown, hts⟩ (c_X12_floatsTo l E D G H h0 hG0 v12054 v12031 r12075 ⟨by omega, by omega⟩) wd_1531 wd_1533 wp_60 wd_13 wd_1534 (by decide +kernel) ⟨by rw [hR]; exact Nat.le_of_ble_eq_true rfl, by rw [hR]; exact Nat.le_of_ble_eq_true rfl⟩ hI hN hK hS hG0 rfl hl.1 rfl (Nat.le_of_ble_eq_true rfl) dX12_week_156 ⟨Nat.zero_le _, Nat.zero_le _⟩ (fun r12076 locs hp hS => ?_)
              have hp12077 := hp
              obtain ⟨F12078, hA12079, hP12080⟩ := om_3 hI hq12049 List.not_mem_nil
              refine th_iast hx hb hK hA12079 0 rfl hS ⟨_, hq12049⟩ (iv_in (X := v12036.toInt) rfl (by omega) (by omega)) dX12_week_159 (fun H locs hA12081 oq hS => ?_)
              have hP12082 := rgs_set (k := v12036.toNatClampNeg) (v := r12076) hP12080 (by omega) (by omega)
              have hI := th_I.put hI hq12049 hA12081 (ok_m3 hP12082) oq
              have e12083 : r12076 = (upd F12078 (v12036 : Int32).toNatClampNeg r12076) (v12036 : Int32).toNatClampNeg := rd_us
              obtain ⟨v12084, e12085⟩ : ∃ y : Int32, y = v12036 + (1) := ⟨_, rfl⟩
              have tv12084 : v12084.toInt = v12036.toInt + (1) := iv_add rfl (by decide) e12085 (by omega) (by omega)
              refine lv_iinc (v := v12084) (lv' := [(6, .int v12084), (3, .int v12037), (5, .int v12038), (4, .int v12031), (0, .ref h0), (1, .int x1), (2, .int x2)]) hx hb dX12_week_160 hl (k := 0) rfl (by rw [e12085]; rfl) (by decide) rfl (fun ls hl => ?_)
              refine lv_goto (tgt := 106) hx hb dX12_week_163 (by decide) ?_
              exact ih_106 _ (by omega) H locs ls v12084 v12037 v12038  rfl (lv_sub hl [0, 1, 2, 3, 4, 5, 6] rfl) ⟨by omega, by omega⟩ ⟨by omega, by omega⟩ ⟨by omega, by omega⟩ hI hS
      have J_101 : ∀ (H : Heap) (locs : List Loc) (ls : Array Slot) (v12086 : Int32) (v12089 : Int32) (v12090 : Int32) , lv_has ls 7 [(5, .int v12086), (4, .int v12031), (3, .int v12032), (0, .ref h0), (1, .int x1), (2, .int x2)] → ((0 : Int) ≤ v12086.toInt ∧ v12086.toInt ≤ 1) → ((0 : Int) ≤ v12031.toInt ∧ v12031.toInt ≤ 95) → ((0 : Int) ≤ v12089.toInt ∧ v12089.toInt ≤ 1) → th_I (okM E) D G [] H → va_S (th_A G) s.heap H locs → W p l e R s m args below meth c H locs 0 0 QF (F0 m 101 ls [.int v12089, .int v12090]) := by
        intro H locs ls v12086 v12089 v12090  hl k12091 k12092 k12093 hI hS
        refine lv_iadd hx hb dX12_week_101 ?_
        refine lv_topi (fun v12094 e12095 => ?_)
        try have tv12094 : v12094.toInt = v12090.toInt + v12089.toInt := iv_add rfl rfl e12095 (by omega) (by omega)
        refine lv_istore_n (lv' := [(3, .int v12094), (5, .int v12086), (4, .int v12031), (0, .ref h0), (1, .int x1), (2, .int x2)]) hx hb dX12_week_102 rfl hl (by decide) rfl (fun ls hl => ?_)
        refine lv_iconst (v := 0) hx hb dX12_week_103 (by decide) ?_
        refine lv_istore (lv' := [(6, .int 0), (3, .int v12094), (5, .int v12086), (4, .int v12031), (0, .ref h0), (1, .int x1), (2, .int x2)]) hx hb dX12_week_104 hl (by decide) rfl (fun ls hl => ?_)
        have zl : (0 : Int32).toInt = 0 := by decide
        exact J_106 _ H locs ls 0 v12094 v12086  rfl (lv_sub hl [0, 1, 2, 3, 4, 5, 6] rfl) ⟨by decide, by decide⟩ ⟨by omega, by omega⟩ ⟨by omega, by omega⟩ hI hS
      have J_88 : ∀ (H : Heap) (locs : List Loc) (ls : Array Slot) (v12098 : Int32) , lv_has ls 7 [(4, .int v12031), (3, .int v12032), (0, .ref h0), (1, .int x1), (2, .int x2)] → ((0 : Int) ≤ v12031.toInt ∧ v12031.toInt ≤ 95) → ((0 : Int) ≤ v12098.toInt ∧ v12098.toInt ≤ 1) → th_I (okM E) D G [] H → va_S (th_A G) s.heap H locs → W p l e R s m args below meth c H locs 0 0 QF (F0 m 88 ls [.int v12098]) := by
        intro H locs ls v12098  hl k12099 k12100 hI hS
        refine lv_istore (lv' := [(5, .int v12098), (4, .int v12031), (3, .int v12032), (0, .ref h0), (1, .int x1), (2, .int x2)]) hx hb dX12_week_88 hl (by decide) rfl (fun ls hl => ?_)
        refine lv_iload_n hx hb dX12_week_90 rfl (lv_at hl 2 rfl) ?_
        refine lv_iload hx hb dX12_week_91 (lv_at hl 0 rfl) ?_
        refine lv_if_eq (tgt := 100) hx hb dX12_week_93 (by decide) (fun c12101 => ?_) (fun c12101 => ?_)
        · skip
          have k12102 := iv_eq (X := v12098.toInt) (Y := (0)) rfl (by decide) c12101
          refine lv_iconst (v := 0) hx hb dX12_week_100 (by decide) ?_
          exact J_101 H locs ls v12098 0 v12032  (lv_sub hl [0, 1, 2, 3, 4, 5] rfl) ⟨by omega, by omega⟩ ⟨by omega, by omega⟩ ⟨by decide, by decide⟩ hI hS
        · skip
          have k12103 := iv_ne (X := v12098.toInt) (Y := (0)) rfl (by decide) c12101
          refine lv_iconst (v := 1) hx hb dX12_week_96 (by decide) ?_
          refine lv_goto (tgt := 101) hx hb dX12_week_97 (by decide) ?_
          exact J_101 H locs ls v12098 1 v12032  (lv_sub hl [0, 1, 2, 3, 4, 5] rfl) ⟨by omega, by omega⟩ ⟨by omega, by omega⟩ ⟨by decide, by decide⟩ hI hS
      refine lv_iload hx hb dX12_week_66 (lv_at hl 0 rfl) ?_
      refine lv_bipush (v := 96) hx hb dX12_week_68 (by decide) ?_
      refine lv_icmp_ge (tgt := 172) hx hb dX12_week_70 (by decide) (fun c12104 => ?_) (fun c12104 => ?_)
      · skip
        have k12105 := iv_le (X := (96)) (Y := v12031.toInt) (by decide) rfl c12104
        refine lv_aload_n hx hb dX12_week_172 rfl (lv_at hl 2 rfl) ?_
        refine lv_iload_n hx hb dX12_week_173 rfl (lv_at hl 1 rfl) ?_
        refine mx_i (As := [.int v12032]) (rest := []) (n := 1) (d := 0) ⟨hx, hb, hml, hown, hts⟩ (c_X12_good l E D G h0 hG0 v12032) wd_1402 wd_1404 wp_41 wd_13 wd_1405 (by decide +kernel) ⟨by rw [hR]; exact Nat.le_of_ble_eq_true rfl, by rw [hR]; exact Nat.le_of_ble_eq_true rfl⟩ hI hN hK hS hG0 (trivial) rfl hl.1 rfl (Nat.le_of_ble_eq_true rfl) dX12_week_174 ⟨Nat.zero_le _, Nat.zero_le _⟩ (fun r12106 H locs hI hp hS => ?_)
        obtain rfl := hp.symm
        have hpost : True := trivial
        rw [hQ]
        exact W.iret (v := v12032) hx hb hr (fun t ht hW => ⟨⟨v12032, v12032, rfl, rfl, ⟨by rw [ht]; exact hI, hN.warm hW, va_K.moved hW.alike hK⟩, by first | (rw [ht]; exact hpost) | exact hpost⟩, hS.F ht⟩) hS.2.2 dX12_week_177
      · skip
        have k12107 := iv_nle (X := (96)) (Y := v12031.toInt) (by decide) rfl c12104
        refine lv_aload_n hx hb dX12_week_73 rfl (lv_at hl 2 rfl) ?_
        refine lv_bipush (v := 100) hx hb dX12_week_74 (by decide) ?_
        refine mx_i (As := [.int 100]) (rest := []) (n := 1) (d := 0) ⟨hx, hb, hml, hown, hts⟩ (c_X12_draws_100 l E D G h0 hG0 ) wd_1851 wd_1853 wp_94 wd_13 wd_1854 (by decide +kernel) ⟨by rw [hR]; exact Nat.le_of_ble_eq_true rfl, by rw [hR]; exact Nat.le_of_ble_eq_true rfl⟩ hI hN hK hS hG0 (trivial) rfl hl.1 rfl (Nat.le_of_ble_eq_true rfl) dX12_week_76 ⟨Nat.zero_le _, Nat.zero_le _⟩ (fun r12108 H locs hI hp hS => ?_)
        refine lv_iload_n hx hb dX12_week_79 rfl (lv_at hl 4 rfl) ?_
        have k12109 := iv_lo r12108
        have k12110 := iv_hi r12108
        refine lv_icmp_ge (tgt := 87) hx hb dX12_week_80 (by decide) (fun c12111 => ?_) (fun c12111 => ?_)
        · skip
          have k12112 := iv_le (X := x2.toInt) (Y := r12108.toInt) rfl rfl c12111
          refine lv_iconst (v := 0) hx hb dX12_week_87 (by decide) ?_
          exact J_88 H locs ls 0  (lv_sub hl [0, 1, 2, 3, 4] rfl) ⟨by omega, by omega⟩ ⟨by decide, by decide⟩ hI hS
        · skip
          have k12113 := iv_nle (X := x2.toInt) (Y := r12108.toInt) rfl rfl c12111
          refine lv_iconst (v := 1) hx hb dX12_week_83 (by decide) ?_
          refine lv_goto (tgt := 88) hx hb dX12_week_84 (by decide) ?_
          exact J_88 H locs ls 1  (lv_sub hl [0, 1, 2, 3, 4] rfl) ⟨by omega, by omega⟩ ⟨by decide, by decide⟩ hI hS
  have J_41 : ∀ (nn : Nat) (H : Heap) (locs : List Loc) (ls : Array Slot) (v12114 : Int32) , (Int.toNat (24 - v12114.toInt) = nn) → lv_has ls 7 [(4, .int v12114), (3, .int 0), (0, .ref h0), (1, .int x1), (2, .int x2)] → ((0 : Int) ≤ v12114.toInt ∧ v12114.toInt ≤ 24) → ((0 : Int) ≤ x1.toInt ∧ x1.toInt ≤ 1000000) → ((0 : Int) ≤ x2.toInt ∧ x2.toInt ≤ 100) → th_I (okM E) D G [] H → va_S (th_A G) s.heap H locs → W p l e R s m args below meth c H locs 0 0 QF (F0 m 41 ls []) := by
    intro nn
    induction nn using Nat.strongRecOn with
    | ind nn ih_41 =>
      intro H locs ls v12114  hm hl k12115 k12116 k12117 hI hS
      refine lv_iload hx hb dX12_week_41 (lv_at hl 0 rfl) ?_
      refine lv_bipush (v := 24) hx hb dX12_week_43 (by decide) ?_
      refine lv_icmp_ge (tgt := 63) hx hb dX12_week_45 (by decide) (fun c12118 => ?_) (fun c12118 => ?_)
      · skip
        have k12119 := iv_le (X := (24)) (Y := v12114.toInt) (by decide) rfl c12118
        refine lv_iconst (v := 0) hx hb dX12_week_63 (by decide) ?_
        refine lv_istore (lv' := [(4, .int 0), (3, .int 0), (0, .ref h0), (1, .int x1), (2, .int x2)]) hx hb dX12_week_64 hl (by decide) rfl (fun ls hl => ?_)
        have zl : (0 : Int32).toInt = 0 := by decide
        exact J_66 _ H locs ls 0 0  rfl (lv_sub hl [0, 1, 2, 3, 4] rfl) ⟨by decide, by decide⟩ ⟨by omega, by omega⟩ ⟨by omega, by omega⟩ hI hS
      · skip
        have k12120 := iv_nle (X := (24)) (Y := v12114.toInt) (by decide) rfl c12118
        refine lv_aload_n hx hb dX12_week_48 rfl (lv_at hl 2 rfl) ?_
        refine gmA hx hb hts inT12 hown hK hI List.not_mem_nil hG0 49 (by decide) (hts _ (tb_c wd_1282)) rfl rfl dX12_week_49 (fun a12121 hq12122 hf12123 => ?_)
        refine lv_iload hx hb dX12_week_52 (lv_at hl 0 rfl) ?_
        refine lv_iload hx hb dX12_week_54 (lv_at hl 0 rfl) ?_
        obtain ⟨F12124, hA12125, hP12126⟩ := om_3 hI hq12122 List.not_mem_nil
        refine th_iast hx hb hK hA12125 0 rfl hS ⟨_, hq12122⟩ (iv_in (X := v12114.toInt) rfl (by omega) (by omega)) dX12_week_56 (fun H locs hA12127 oq hS => ?_)
        have hP12128 := rgs_set (k := v12114.toNatClampNeg) (v := v12114) hP12126 (by omega) (by omega)
        have hI := th_I.put hI hq12122 hA12127 (ok_m3 hP12128) oq
        have hf12123 := fr.arr hG0 hq12122 (by decide) oq hf12123
        have e12129 : v12114 = (upd F12124 (v12114 : Int32).toNatClampNeg v12114) (v12114 : Int32).toNatClampNeg := rd_us
        obtain ⟨v12130, e12131⟩ : ∃ y : Int32, y = v12114 + (1) := ⟨_, rfl⟩
        have tv12130 : v12130.toInt = v12114.toInt + (1) := iv_add rfl (by decide) e12131 (by omega) (by omega)
        refine lv_iinc (v := v12130) (lv' := [(4, .int v12130), (3, .int 0), (0, .ref h0), (1, .int x1), (2, .int x2)]) hx hb dX12_week_57 hl (k := 0) rfl (by rw [e12131]; rfl) (by decide) rfl (fun ls hl => ?_)
        refine lv_goto (tgt := 41) hx hb dX12_week_60 (by decide) ?_
        exact ih_41 _ (by omega) H locs ls v12130  rfl (lv_sub hl [0, 1, 2, 3, 4] rfl) ⟨by omega, by omega⟩ ⟨by omega, by omega⟩ ⟨by omega, by omega⟩ hI hS
  have J_20 : ∀ (H : Heap) (locs : List Loc) (ls : Array Slot)  , lv_has ls 7 [(0, .ref h0), (1, .int x1), (2, .int x2)] → th_I (okM E) D G [] H → va_S (th_A G) s.heap H locs → W p l e R s m args below meth c H locs 0 0 QF (F0 m 20 ls []) := by
    intro H locs ls   hl  hI hS
    refine lv_aload_n hx hb dX12_week_20 rfl (lv_at hl 0 rfl) ?_
    refine lv_iconst (v := (-1)) hx hb dX12_week_21 (by decide) ?_
    refine mx_i (As := [.int (-1)]) (rest := []) (n := 1) (d := 0) ⟨hx, hb, hml, hown, hts⟩ (c_X12_refuses l E D G h0 hG0 (-1) ⟨by decide, by decide⟩) wd_1398 wd_1400 wp_40 wd_13 wd_1401 (by decide +kernel) ⟨by rw [hR]; exact Nat.le_of_ble_eq_true rfl, by rw [hR]; exact Nat.le_of_ble_eq_true rfl⟩ hI hN hK hS hG0 (trivial) rfl hl.1 rfl (Nat.le_of_ble_eq_true rfl) dX12_week_22 ⟨Nat.zero_le _, Nat.zero_le _⟩ (fun r12132 H locs hI hp hS => ?_)
    obtain rfl := hp.symm
    have hpost : True := trivial
    rw [hQ]
    exact W.iret (v := (-1)) hx hb hr (fun t ht hW => ⟨⟨(-1), (-1), rfl, rfl, ⟨by rw [ht]; exact hI, hN.warm hW, va_K.moved hW.alike hK⟩, by first | (rw [ht]; exact hpost) | exact hpost⟩, hS.F ht⟩) hS.2.2 dX12_week_25
  refine lv_iload_n hx hb dX12_week_0 rfl (lv_at hl 1 rfl) ?_
  refine lv_iconst (v := 0) hx hb dX12_week_1 (by decide) ?_
  refine lv_ldc hx hb hown (hts _ (tb_c wd_1582)) dX12_week_2 ?_
  refine th_cSs (As := [.int x1, .int 0, .int 1000000]) (rest := []) (n := 3) (d := 0) ⟨hx, hb, hml, hown, hts⟩ (c_X12_lies l s.heap x1 0 1000000) wd_1395 wd_1396 wd_13 wd_1397 (by decide +kernel) ⟨by rw [hR]; exact Nat.le_of_ble_eq_true rfl, by rw [hR]; exact Nat.le_of_ble_eq_true rfl⟩ hN hS rfl hl.1 rfl (Nat.le_of_ble_eq_true rfl) dX12_week_4 ⟨Nat.zero_le _, Nat.zero_le _⟩ (fun r12133 locs hp hS => ?_)
  rcases hp with ⟨rfl, hp⟩ | ⟨rfl, hp⟩
  · skip
    try simp only [rg, not_and, Int.not_le] at hp
    have hp12134 := hp
    try rw [show (0 : Int32).toInt = 0 from by decide] at hp12134
    try rw [show (1000000 : Int32).toInt = 1000000 from by decide] at hp12134
    refine lv_if_eq (tgt := 20) hx hb dX12_week_7 (by decide) (fun c => absurd c (by decide)) (fun _ => ?_)
    refine lv_iload_n hx hb dX12_week_10 rfl (lv_at hl 2 rfl) ?_
    refine lv_iconst (v := 0) hx hb dX12_week_11 (by decide) ?_
    refine lv_bipush (v := 100) hx hb dX12_week_12 (by decide) ?_
    refine th_cSs (As := [.int x2, .int 0, .int 100]) (rest := []) (n := 3) (d := 0) ⟨hx, hb, hml, hown, hts⟩ (c_X12_lies l s.heap x2 0 100) wd_1395 wd_1396 wd_13 wd_1397 (by decide +kernel) ⟨by rw [hR]; exact Nat.le_of_ble_eq_true rfl, by rw [hR]; exact Nat.le_of_ble_eq_true rfl⟩ hN hS rfl hl.1 rfl (Nat.le_of_ble_eq_true rfl) dX12_week_14 ⟨Nat.zero_le _, Nat.zero_le _⟩ (fun r12135 locs hp hS => ?_)
    rcases hp with ⟨rfl, hp⟩ | ⟨rfl, hp⟩
    · skip
      try simp only [rg, not_and, Int.not_le] at hp
      have hp12136 := hp
      try rw [show (0 : Int32).toInt = 0 from by decide] at hp12136
      try rw [show (100 : Int32).toInt = 100 from by decide] at hp12136
      refine lv_if_ne (tgt := 26) hx hb dX12_week_17 (by decide) (fun _ => ?_) (fun c => absurd c (by decide))
      refine lv_aload_n hx hb dX12_week_26 rfl (lv_at hl 0 rfl) ?_
      refine lv_iload_n hx hb dX12_week_27 rfl (lv_at hl 1 rfl) ?_
      refine pmI (ty := .int) hx hb hts inT12 hown hK hI List.not_mem_nil hG0 hS ⟨_, hG0⟩ 51 (by decide) (hts _ (tb_c wd_1284)) rfl rfl (by decide +kernel) rfl rfl rfl (by omega) (by omega) dX12_week_28 (fun H locs hI hgP hS => ?_)
      have hg12137 := hgP.2.1
      refine lv_aload_n hx hb dX12_week_31 rfl (lv_at hl 0 rfl) ?_
      refine lv_iconst (v := 1) hx hb dX12_week_32 (by decide) ?_
      refine pmI (ty := .boolean) hx hb hts inT12 hown hK hI List.not_mem_nil hG0 hS ⟨_, hG0⟩ 50 (by decide) (hts _ (tb_c wd_1283)) rfl rfl (by decide +kernel) (by decide) rfl rfl (by decide) (by decide) dX12_week_33 (fun H locs hI hgP hS => ?_)
      have hg12137 := hgP.2.2.1 51 _ (by decide) (by decide) hg12137
      have hg12138 := hgP.2.1
      refine lv_iconst (v := 0) hx hb dX12_week_36 (by decide) ?_
      refine lv_istore_n (lv' := [(3, .int 0), (0, .ref h0), (1, .int x1), (2, .int x2)]) hx hb dX12_week_37 rfl hl (by decide) rfl (fun ls hl => ?_)
      refine lv_iconst (v := 0) hx hb dX12_week_38 (by decide) ?_
      refine lv_istore (lv' := [(4, .int 0), (3, .int 0), (0, .ref h0), (1, .int x1), (2, .int x2)]) hx hb dX12_week_39 hl (by decide) rfl (fun ls hl => ?_)
      have zl : (0 : Int32).toInt = 0 := by decide
      exact J_41 _ H locs ls 0  rfl (lv_sub hl [0, 1, 2, 3, 4] rfl) ⟨by decide, by decide⟩ ⟨by omega, by omega⟩ ⟨by omega, by omega⟩ hI hS
    · skip
      try simp only [rg, not_and, Int.not_le] at hp
      have hp12139 := hp
      try rw [show (0 : Int32).toInt = 0 from by decide] at hp12139
      try rw [show (100 : Int32).toInt = 100 from by decide] at hp12139
      refine lv_if_ne (tgt := 26) hx hb dX12_week_17 (by decide) (fun c => absurd c (by decide)) (fun _ => ?_)
      exact J_20 s.heap locs ls   (lv_sub hl [0, 1, 2] rfl)  hI hS
  · skip
    try simp only [rg, not_and, Int.not_le] at hp
    have hp12140 := hp
    try rw [show (0 : Int32).toInt = 0 from by decide] at hp12140
    try rw [show (1000000 : Int32).toInt = 1000000 from by decide] at hp12140
    refine lv_if_eq (tgt := 20) hx hb dX12_week_7 (by decide) (fun _ => ?_) (fun c => absurd c (by decide))
    exact J_20 s.heap locs ls   (lv_sub hl [0, 1, 2] rfl)  hI hS
theorem dX12_drawn_0g : (decode cX12_drawn 0 = .ok (.aload_n 0, 1)) ∧ (decode cX12_drawn 1 = .ok (.getfield 407, 3)) ∧ (decode cX12_drawn 4 = .ok (.ifCond .eq 19, 3)) ∧ (decode cX12_drawn 7 = .ok (.iload_n 1, 1)) ∧ (decode cX12_drawn 8 = .ok (.invokestatic 118, 3)) ∧ (decode cX12_drawn 11 = .ok (.ifCond .eq 12, 3)) ∧ (decode cX12_drawn 14 = .ok (.aload_n 0, 1)) ∧ (decode cX12_drawn 15 = .ok (.getfield 100, 3)) ∧ (decode cX12_drawn 18 = .ok (.iload_n 1, 1)) ∧ (decode cX12_drawn 19 = .ok (.iaload, 1)) := by decide +kernel
theorem dX12_drawn_0 : decode cX12_drawn 0 = .ok (.aload_n 0, 1) := dX12_drawn_0g.1
theorem dX12_drawn_1 : decode cX12_drawn 1 = .ok (.getfield 407, 3) := dX12_drawn_0g.2.1
theorem dX12_drawn_4 : decode cX12_drawn 4 = .ok (.ifCond .eq 19, 3) := dX12_drawn_0g.2.2.1
theorem dX12_drawn_7 : decode cX12_drawn 7 = .ok (.iload_n 1, 1) := dX12_drawn_0g.2.2.2.1
theorem dX12_drawn_8 : decode cX12_drawn 8 = .ok (.invokestatic 118, 3) := dX12_drawn_0g.2.2.2.2.1
theorem dX12_drawn_11 : decode cX12_drawn 11 = .ok (.ifCond .eq 12, 3) := dX12_drawn_0g.2.2.2.2.2.1
theorem dX12_drawn_14 : decode cX12_drawn 14 = .ok (.aload_n 0, 1) := dX12_drawn_0g.2.2.2.2.2.2.1
theorem dX12_drawn_15 : decode cX12_drawn 15 = .ok (.getfield 100, 3) := dX12_drawn_0g.2.2.2.2.2.2.2.1
theorem dX12_drawn_18 : decode cX12_drawn 18 = .ok (.iload_n 1, 1) := dX12_drawn_0g.2.2.2.2.2.2.2.2.1
theorem dX12_drawn_19 : decode cX12_drawn 19 = .ok (.iaload, 1) := dX12_drawn_0g.2.2.2.2.2.2.2.2.2
theorem dX12_drawn_20g : (decode cX12_drawn 20 = .ok (.goto 4, 3)) ∧ (decode cX12_drawn 23 = .ok (.iconst (-1), 1)) ∧ (decode cX12_drawn 24 = .ok (.ireturn, 1)) := by decide +kernel
theorem dX12_drawn_20 : decode cX12_drawn 20 = .ok (.goto 4, 3) := dX12_drawn_20g.1
theorem dX12_drawn_23 : decode cX12_drawn 23 = .ok (.iconst (-1), 1) := dX12_drawn_20g.2.1
theorem dX12_drawn_24 : decode cX12_drawn 24 = .ok (.ireturn, 1) := dX12_drawn_20g.2.2
set_option maxHeartbeats 4000000 in
set_option maxRecDepth 100000 in
theorem c_X12_drawn (l : Launch) (E : Nat → Nat) (D : va_G) (G : th_G) (h0 : Nat) (hG0 : G h0 = some (10, 0)) (x1 : Int32) : Met l yX12_drawn (tb (.code yX12_drawn cX12_drawn 2 (some .int))) (rm 2) (va_Pc [.ref h0, .int x1] (PX E D G (fun H => True))) (QXi E D G (fun r H => True)) 0 0 (th_A G) := by
  refine Met.ofW (cc := cX12_drawn) (maxL := 2) (ret := (some .int)) (by decide) rfl ?_
  intro p e s m args below meth c s₁ B hml hv
  obtain ⟨hav, ⟨hI, hN, hK⟩, hX⟩ := hv
  have hx := B.exec
  have hb := B.bytes
  have hr := B.returns
  have hts := atoms_spec (ws := tb (.code yX12_drawn cX12_drawn 2 (some .int))) B.pre
  have hown : s.vm.findClass RX12 = some m.cls := findClass_of_methodNamed B.named
  have hlocks := B.notSynchronized
  have hS : va_S (th_A G) s.heap s.heap [] := va_S.rf
  have hl := lv_entry ([.ref h0, .int x1]) (n := 2) (Nat.le_of_ble_eq_true rfl)
  rw [show entryFrame m args 2 = entryFrame m ([.ref h0, .int x1] : List Value).toArray 2 from by rw [hav], lg_entry_eq]
  generalize (lg_sl ([.ref h0, .int x1]) ++ List.replicate (2 - (lg_sl ([.ref h0, .int x1])).length) Slot.unset).toArray = ls at hl ⊢
  have hl : lv_has ls 2 [(0, .ref h0), (1, .int x1)] := hl
  generalize hR : (headSpec (tb (.code yX12_drawn cX12_drawn 2 (some .int))) (rm 2)).room = R
  have hR := hR.symm
  generalize hQ : MQ below (QXi E D G (fun r H => True)) args s 0 0 (th_A G) = QF
  have hQ := hQ.symm
  refine lv_aload_n hx hb dX12_drawn_0 rfl (lv_at hl 0 rfl) ?_
  refine gmI hx hb hts inT12 hown hK hI List.not_mem_nil hG0 50 (by decide) (hts _ (tb_c wd_1283)) rfl rfl dX12_drawn_1 (fun w1 hg2 k3 k4 => ?_)
  refine lv_if_eq (tgt := 23) hx hb dX12_drawn_4 (by decide) (fun c5 => ?_) (fun c5 => ?_)
  · skip
    have k6 := iv_eq (X := w1.toInt) (Y := (0)) rfl (by decide) c5
    refine lv_iconst (v := (-1)) hx hb dX12_drawn_23 (by decide) ?_
    have hpost : True := trivial
    rw [hQ]
    exact W.iret (v := (-1)) hx hb hr (fun t ht hW => ⟨⟨(-1), (-1), rfl, rfl, ⟨by rw [ht]; exact hI, hN.warm hW, va_K.moved hW.alike hK⟩, by first | (rw [ht]; exact hpost) | exact hpost⟩, hS.F ht⟩) hS.2.2 dX12_drawn_24
  · skip
    have k7 := iv_ne (X := w1.toInt) (Y := (0)) rfl (by decide) c5
    refine lv_iload_n hx hb dX12_drawn_7 rfl (lv_at hl 1 rfl) ?_
    refine th_cSs (As := [.int x1]) (rest := []) (n := 1) (d := 1) ⟨hx, hb, hml, hown, hts⟩ (c_X12_isCell l s.heap x1) wd_1414 wd_1415 wd_13 wd_1416 (by decide +kernel) ⟨by rw [hR]; exact Nat.le_of_ble_eq_true rfl, by rw [hR]; exact Nat.le_of_ble_eq_true rfl⟩ hN hS rfl hl.1 rfl (Nat.le_of_ble_eq_true rfl) dX12_drawn_8 ⟨Nat.zero_le _, Nat.zero_le _⟩ (fun r8 locs hp hS => ?_)
    rcases hp with ⟨rfl, hp⟩ | ⟨rfl, hp⟩
    · skip
      try simp only [rg, not_and, Int.not_le] at hp
      have hp9 := hp
      refine lv_if_eq (tgt := 23) hx hb dX12_drawn_11 (by decide) (fun c => absurd c (by decide)) (fun _ => ?_)
      refine lv_aload_n hx hb dX12_drawn_14 rfl (lv_at hl 0 rfl) ?_
      refine gmA hx hb hts inT12 hown hK hI List.not_mem_nil hG0 49 (by decide) (hts _ (tb_c wd_1282)) rfl rfl dX12_drawn_15 (fun a10 hq11 hf12 => ?_)
      refine lv_iload_n hx hb dX12_drawn_18 rfl (lv_at hl 1 rfl) ?_
      obtain ⟨F13, hA14, hP15⟩ := om_3 hI hq11 List.not_mem_nil
      refine th_iald hx hb hK hA14 0 rfl (iv_in (X := x1.toInt) rfl (by omega) (by omega)) dX12_drawn_19 (fun v16 e17 => ?_)
      have k18 := rgs_get hP15 e17 (X := x1.toInt) rfl (by omega) (by omega)
      refine lv_goto (tgt := 24) hx hb dX12_drawn_20 (by decide) ?_
      have hpost : True := trivial
      rw [hQ]
      exact W.iret (v := v16) hx hb hr (fun t ht hW => ⟨⟨v16, v16, rfl, rfl, ⟨by rw [ht]; exact hI, hN.warm hW, va_K.moved hW.alike hK⟩, by first | (rw [ht]; exact hpost) | exact hpost⟩, hS.F ht⟩) hS.2.2 dX12_drawn_24
    · skip
      try simp only [rg, not_and, Int.not_le] at hp
      have hp19 := hp
      refine lv_if_eq (tgt := 23) hx hb dX12_drawn_11 (by decide) (fun _ => ?_) (fun c => absurd c (by decide))
      refine lv_iconst (v := (-1)) hx hb dX12_drawn_23 (by decide) ?_
      have hpost : True := trivial
      rw [hQ]
      exact W.iret (v := (-1)) hx hb hr (fun t ht hW => ⟨⟨(-1), (-1), rfl, rfl, ⟨by rw [ht]; exact hI, hN.warm hW, va_K.moved hW.alike hK⟩, by first | (rw [ht]; exact hpost) | exact hpost⟩, hS.F ht⟩) hS.2.2 dX12_drawn_24
theorem dX12_count_0g : (decode cX12_count 0 = .ok (.iconst 0, 1)) ∧ (decode cX12_count 1 = .ok (.istore_n 2, 1)) ∧ (decode cX12_count 2 = .ok (.iconst 0, 1)) ∧ (decode cX12_count 3 = .ok (.istore_n 3, 1)) ∧ (decode cX12_count 4 = .ok (.iload_n 3, 1)) ∧ (decode cX12_count 5 = .ok (.bipush 96, 2)) ∧ (decode cX12_count 7 = .ok (.if_icmp .ge 21, 3)) ∧ (decode cX12_count 10 = .ok (.iload_n 2, 1)) ∧ (decode cX12_count 11 = .ok (.aload_n 0, 1)) ∧ (decode cX12_count 12 = .ok (.getfield 20, 3)) := by decide +kernel
theorem dX12_count_0 : decode cX12_count 0 = .ok (.iconst 0, 1) := dX12_count_0g.1
theorem dX12_count_1 : decode cX12_count 1 = .ok (.istore_n 2, 1) := dX12_count_0g.2.1
theorem dX12_count_2 : decode cX12_count 2 = .ok (.iconst 0, 1) := dX12_count_0g.2.2.1
theorem dX12_count_3 : decode cX12_count 3 = .ok (.istore_n 3, 1) := dX12_count_0g.2.2.2.1
theorem dX12_count_4 : decode cX12_count 4 = .ok (.iload_n 3, 1) := dX12_count_0g.2.2.2.2.1
theorem dX12_count_5 : decode cX12_count 5 = .ok (.bipush 96, 2) := dX12_count_0g.2.2.2.2.2.1
theorem dX12_count_7 : decode cX12_count 7 = .ok (.if_icmp .ge 21, 3) := dX12_count_0g.2.2.2.2.2.2.1
theorem dX12_count_10 : decode cX12_count 10 = .ok (.iload_n 2, 1) := dX12_count_0g.2.2.2.2.2.2.2.1
theorem dX12_count_11 : decode cX12_count 11 = .ok (.aload_n 0, 1) := dX12_count_0g.2.2.2.2.2.2.2.2.1
theorem dX12_count_12 : decode cX12_count 12 = .ok (.getfield 20, 3) := dX12_count_0g.2.2.2.2.2.2.2.2.2
theorem dX12_count_15g : (decode cX12_count 15 = .ok (.bipush 10, 2)) ∧ (decode cX12_count 17 = .ok (.iload_n 3, 1)) ∧ (decode cX12_count 18 = .ok (.iadd, 1)) ∧ (decode cX12_count 19 = .ok (.iaload, 1)) ∧ (decode cX12_count 20 = .ok (.iadd, 1)) ∧ (decode cX12_count 21 = .ok (.istore_n 2, 1)) ∧ (decode cX12_count 22 = .ok (.iinc 3 1, 3)) ∧ (decode cX12_count 25 = .ok (.goto (-21), 3)) ∧ (decode cX12_count 28 = .ok (.iload_n 1, 1)) ∧ (decode cX12_count 29 = .ok (.tableswitch 192 0 15 #[79, 88, 90, 99, 108, 117, 126, 135, 144, 153, 158, 158, 158, 168, 175, 183], 79)) := by decide +kernel
theorem dX12_count_15 : decode cX12_count 15 = .ok (.bipush 10, 2) := dX12_count_15g.1
theorem dX12_count_17 : decode cX12_count 17 = .ok (.iload_n 3, 1) := dX12_count_15g.2.1
theorem dX12_count_18 : decode cX12_count 18 = .ok (.iadd, 1) := dX12_count_15g.2.2.1
theorem dX12_count_19 : decode cX12_count 19 = .ok (.iaload, 1) := dX12_count_15g.2.2.2.1
theorem dX12_count_20 : decode cX12_count 20 = .ok (.iadd, 1) := dX12_count_15g.2.2.2.2.1
theorem dX12_count_21 : decode cX12_count 21 = .ok (.istore_n 2, 1) := dX12_count_15g.2.2.2.2.2.1
theorem dX12_count_22 : decode cX12_count 22 = .ok (.iinc 3 1, 3) := dX12_count_15g.2.2.2.2.2.2.1
theorem dX12_count_25 : decode cX12_count 25 = .ok (.goto (-21), 3) := dX12_count_15g.2.2.2.2.2.2.2.1
theorem dX12_count_28 : decode cX12_count 28 = .ok (.iload_n 1, 1) := dX12_count_15g.2.2.2.2.2.2.2.2.1
theorem dX12_count_29 : decode cX12_count 29 = .ok (.tableswitch 192 0 15 #[79, 88, 90, 99, 108, 117, 126, 135, 144, 153, 158, 158, 158, 168, 175, 183], 79) := dX12_count_15g.2.2.2.2.2.2.2.2.2
theorem dX12_count_108g : (decode cX12_count 108 = .ok (.aload_n 0, 1)) ∧ (decode cX12_count 109 = .ok (.getfield 20, 3)) ∧ (decode cX12_count 112 = .ok (.sipush 315, 3)) ∧ (decode cX12_count 115 = .ok (.iaload, 1)) ∧ (decode cX12_count 116 = .ok (.ireturn, 1)) ∧ (decode cX12_count 117 = .ok (.iload_n 2, 1)) ∧ (decode cX12_count 118 = .ok (.ireturn, 1)) ∧ (decode cX12_count 119 = .ok (.aload_n 0, 1)) ∧ (decode cX12_count 120 = .ok (.getfield 20, 3)) ∧ (decode cX12_count 123 = .ok (.sipush 308, 3)) := by decide +kernel
theorem dX12_count_108 : decode cX12_count 108 = .ok (.aload_n 0, 1) := dX12_count_108g.1
theorem dX12_count_109 : decode cX12_count 109 = .ok (.getfield 20, 3) := dX12_count_108g.2.1
theorem dX12_count_112 : decode cX12_count 112 = .ok (.sipush 315, 3) := dX12_count_108g.2.2.1
theorem dX12_count_115 : decode cX12_count 115 = .ok (.iaload, 1) := dX12_count_108g.2.2.2.1
theorem dX12_count_116 : decode cX12_count 116 = .ok (.ireturn, 1) := dX12_count_108g.2.2.2.2.1
theorem dX12_count_117 : decode cX12_count 117 = .ok (.iload_n 2, 1) := dX12_count_108g.2.2.2.2.2.1
theorem dX12_count_118 : decode cX12_count 118 = .ok (.ireturn, 1) := dX12_count_108g.2.2.2.2.2.2.1
theorem dX12_count_119 : decode cX12_count 119 = .ok (.aload_n 0, 1) := dX12_count_108g.2.2.2.2.2.2.2.1
theorem dX12_count_120 : decode cX12_count 120 = .ok (.getfield 20, 3) := dX12_count_108g.2.2.2.2.2.2.2.2.1
theorem dX12_count_123 : decode cX12_count 123 = .ok (.sipush 308, 3) := dX12_count_108g.2.2.2.2.2.2.2.2.2
theorem dX12_count_126g : (decode cX12_count 126 = .ok (.iaload, 1)) ∧ (decode cX12_count 127 = .ok (.ireturn, 1)) ∧ (decode cX12_count 128 = .ok (.aload_n 0, 1)) ∧ (decode cX12_count 129 = .ok (.getfield 20, 3)) ∧ (decode cX12_count 132 = .ok (.sipush 309, 3)) ∧ (decode cX12_count 135 = .ok (.iaload, 1)) ∧ (decode cX12_count 136 = .ok (.ireturn, 1)) ∧ (decode cX12_count 137 = .ok (.aload_n 0, 1)) ∧ (decode cX12_count 138 = .ok (.getfield 20, 3)) ∧ (decode cX12_count 141 = .ok (.sipush 310, 3)) := by decide +kernel
theorem dX12_count_126 : decode cX12_count 126 = .ok (.iaload, 1) := dX12_count_126g.1
theorem dX12_count_127 : decode cX12_count 127 = .ok (.ireturn, 1) := dX12_count_126g.2.1
theorem dX12_count_128 : decode cX12_count 128 = .ok (.aload_n 0, 1) := dX12_count_126g.2.2.1
theorem dX12_count_129 : decode cX12_count 129 = .ok (.getfield 20, 3) := dX12_count_126g.2.2.2.1
theorem dX12_count_132 : decode cX12_count 132 = .ok (.sipush 309, 3) := dX12_count_126g.2.2.2.2.1
theorem dX12_count_135 : decode cX12_count 135 = .ok (.iaload, 1) := dX12_count_126g.2.2.2.2.2.1
theorem dX12_count_136 : decode cX12_count 136 = .ok (.ireturn, 1) := dX12_count_126g.2.2.2.2.2.2.1
theorem dX12_count_137 : decode cX12_count 137 = .ok (.aload_n 0, 1) := dX12_count_126g.2.2.2.2.2.2.2.1
theorem dX12_count_138 : decode cX12_count 138 = .ok (.getfield 20, 3) := dX12_count_126g.2.2.2.2.2.2.2.2.1
theorem dX12_count_141 : decode cX12_count 141 = .ok (.sipush 310, 3) := dX12_count_126g.2.2.2.2.2.2.2.2.2
theorem dX12_count_144g : (decode cX12_count 144 = .ok (.iaload, 1)) ∧ (decode cX12_count 145 = .ok (.ireturn, 1)) ∧ (decode cX12_count 146 = .ok (.aload_n 0, 1)) ∧ (decode cX12_count 147 = .ok (.getfield 20, 3)) ∧ (decode cX12_count 150 = .ok (.sipush 311, 3)) ∧ (decode cX12_count 153 = .ok (.iaload, 1)) ∧ (decode cX12_count 154 = .ok (.ireturn, 1)) ∧ (decode cX12_count 155 = .ok (.aload_n 0, 1)) ∧ (decode cX12_count 156 = .ok (.getfield 20, 3)) ∧ (decode cX12_count 159 = .ok (.sipush 312, 3)) := by decide +kernel
theorem dX12_count_144 : decode cX12_count 144 = .ok (.iaload, 1) := dX12_count_144g.1
theorem dX12_count_145 : decode cX12_count 145 = .ok (.ireturn, 1) := dX12_count_144g.2.1
theorem dX12_count_146 : decode cX12_count 146 = .ok (.aload_n 0, 1) := dX12_count_144g.2.2.1
theorem dX12_count_147 : decode cX12_count 147 = .ok (.getfield 20, 3) := dX12_count_144g.2.2.2.1
theorem dX12_count_150 : decode cX12_count 150 = .ok (.sipush 311, 3) := dX12_count_144g.2.2.2.2.1
theorem dX12_count_153 : decode cX12_count 153 = .ok (.iaload, 1) := dX12_count_144g.2.2.2.2.2.1
theorem dX12_count_154 : decode cX12_count 154 = .ok (.ireturn, 1) := dX12_count_144g.2.2.2.2.2.2.1
theorem dX12_count_155 : decode cX12_count 155 = .ok (.aload_n 0, 1) := dX12_count_144g.2.2.2.2.2.2.2.1
theorem dX12_count_156 : decode cX12_count 156 = .ok (.getfield 20, 3) := dX12_count_144g.2.2.2.2.2.2.2.2.1
theorem dX12_count_159 : decode cX12_count 159 = .ok (.sipush 312, 3) := dX12_count_144g.2.2.2.2.2.2.2.2.2
theorem dX12_count_162g : (decode cX12_count 162 = .ok (.iaload, 1)) ∧ (decode cX12_count 163 = .ok (.ireturn, 1)) ∧ (decode cX12_count 164 = .ok (.aload_n 0, 1)) ∧ (decode cX12_count 165 = .ok (.getfield 20, 3)) ∧ (decode cX12_count 168 = .ok (.sipush 313, 3)) ∧ (decode cX12_count 171 = .ok (.iaload, 1)) ∧ (decode cX12_count 172 = .ok (.ireturn, 1)) ∧ (decode cX12_count 173 = .ok (.aload_n 0, 1)) ∧ (decode cX12_count 174 = .ok (.getfield 20, 3)) ∧ (decode cX12_count 177 = .ok (.sipush 314, 3)) := by decide +kernel
theorem dX12_count_162 : decode cX12_count 162 = .ok (.iaload, 1) := dX12_count_162g.1
theorem dX12_count_163 : decode cX12_count 163 = .ok (.ireturn, 1) := dX12_count_162g.2.1
theorem dX12_count_164 : decode cX12_count 164 = .ok (.aload_n 0, 1) := dX12_count_162g.2.2.1
theorem dX12_count_165 : decode cX12_count 165 = .ok (.getfield 20, 3) := dX12_count_162g.2.2.2.1
theorem dX12_count_168 : decode cX12_count 168 = .ok (.sipush 313, 3) := dX12_count_162g.2.2.2.2.1
theorem dX12_count_171 : decode cX12_count 171 = .ok (.iaload, 1) := dX12_count_162g.2.2.2.2.2.1
theorem dX12_count_172 : decode cX12_count 172 = .ok (.ireturn, 1) := dX12_count_162g.2.2.2.2.2.2.1
theorem dX12_count_173 : decode cX12_count 173 = .ok (.aload_n 0, 1) := dX12_count_162g.2.2.2.2.2.2.2.1
theorem dX12_count_174 : decode cX12_count 174 = .ok (.getfield 20, 3) := dX12_count_162g.2.2.2.2.2.2.2.2.1
theorem dX12_count_177 : decode cX12_count 177 = .ok (.sipush 314, 3) := dX12_count_162g.2.2.2.2.2.2.2.2.2
theorem dX12_count_180g : (decode cX12_count 180 = .ok (.iaload, 1)) ∧ (decode cX12_count 181 = .ok (.ireturn, 1)) ∧ (decode cX12_count 182 = .ok (.aload_n 0, 1)) ∧ (decode cX12_count 183 = .ok (.getfield 132, 3)) ∧ (decode cX12_count 186 = .ok (.ireturn, 1)) ∧ (decode cX12_count 187 = .ok (.aload_n 0, 1)) ∧ (decode cX12_count 188 = .ok (.getfield 7, 3)) ∧ (decode cX12_count 191 = .ok (.iload_n 1, 1)) ∧ (decode cX12_count 192 = .ok (.bipush 9, 2)) ∧ (decode cX12_count 194 = .ok (.isub, 1)) := by decide +kernel
theorem dX12_count_180 : decode cX12_count 180 = .ok (.iaload, 1) := dX12_count_180g.1
theorem dX12_count_181 : decode cX12_count 181 = .ok (.ireturn, 1) := dX12_count_180g.2.1
theorem dX12_count_182 : decode cX12_count 182 = .ok (.aload_n 0, 1) := dX12_count_180g.2.2.1
theorem dX12_count_183 : decode cX12_count 183 = .ok (.getfield 132, 3) := dX12_count_180g.2.2.2.1
theorem dX12_count_186 : decode cX12_count 186 = .ok (.ireturn, 1) := dX12_count_180g.2.2.2.2.1
theorem dX12_count_187 : decode cX12_count 187 = .ok (.aload_n 0, 1) := dX12_count_180g.2.2.2.2.2.1
theorem dX12_count_188 : decode cX12_count 188 = .ok (.getfield 7, 3) := dX12_count_180g.2.2.2.2.2.2.1
theorem dX12_count_191 : decode cX12_count 191 = .ok (.iload_n 1, 1) := dX12_count_180g.2.2.2.2.2.2.2.1
theorem dX12_count_192 : decode cX12_count 192 = .ok (.bipush 9, 2) := dX12_count_180g.2.2.2.2.2.2.2.2.1
theorem dX12_count_194 : decode cX12_count 194 = .ok (.isub, 1) := dX12_count_180g.2.2.2.2.2.2.2.2.2
theorem dX12_count_195g : (decode cX12_count 195 = .ok (.iaload, 1)) ∧ (decode cX12_count 196 = .ok (.ireturn, 1)) ∧ (decode cX12_count 197 = .ok (.aload_n 0, 1)) ∧ (decode cX12_count 198 = .ok (.getfield 7, 3)) ∧ (decode cX12_count 201 = .ok (.iconst 5, 1)) ∧ (decode cX12_count 202 = .ok (.iaload, 1)) ∧ (decode cX12_count 203 = .ok (.ireturn, 1)) ∧ (decode cX12_count 204 = .ok (.aload_n 0, 1)) ∧ (decode cX12_count 205 = .ok (.getfield 7, 3)) ∧ (decode cX12_count 208 = .ok (.bipush 6, 2)) := by decide +kernel
theorem dX12_count_195 : decode cX12_count 195 = .ok (.iaload, 1) := dX12_count_195g.1
theorem dX12_count_196 : decode cX12_count 196 = .ok (.ireturn, 1) := dX12_count_195g.2.1
theorem dX12_count_197 : decode cX12_count 197 = .ok (.aload_n 0, 1) := dX12_count_195g.2.2.1
theorem dX12_count_198 : decode cX12_count 198 = .ok (.getfield 7, 3) := dX12_count_195g.2.2.2.1
theorem dX12_count_201 : decode cX12_count 201 = .ok (.iconst 5, 1) := dX12_count_195g.2.2.2.2.1
theorem dX12_count_202 : decode cX12_count 202 = .ok (.iaload, 1) := dX12_count_195g.2.2.2.2.2.1
theorem dX12_count_203 : decode cX12_count 203 = .ok (.ireturn, 1) := dX12_count_195g.2.2.2.2.2.2.1
theorem dX12_count_204 : decode cX12_count 204 = .ok (.aload_n 0, 1) := dX12_count_195g.2.2.2.2.2.2.2.1
theorem dX12_count_205 : decode cX12_count 205 = .ok (.getfield 7, 3) := dX12_count_195g.2.2.2.2.2.2.2.2.1
theorem dX12_count_208 : decode cX12_count 208 = .ok (.bipush 6, 2) := dX12_count_195g.2.2.2.2.2.2.2.2.2
theorem dX12_count_210g : (decode cX12_count 210 = .ok (.iaload, 1)) ∧ (decode cX12_count 211 = .ok (.ireturn, 1)) ∧ (decode cX12_count 212 = .ok (.aload_n 0, 1)) ∧ (decode cX12_count 213 = .ok (.getfield 20, 3)) ∧ (decode cX12_count 216 = .ok (.sipush 316, 3)) ∧ (decode cX12_count 219 = .ok (.iaload, 1)) ∧ (decode cX12_count 220 = .ok (.ireturn, 1)) ∧ (decode cX12_count 221 = .ok (.iconst (-1), 1)) ∧ (decode cX12_count 222 = .ok (.ireturn, 1)) := by decide +kernel
theorem dX12_count_210 : decode cX12_count 210 = .ok (.iaload, 1) := dX12_count_210g.1
theorem dX12_count_211 : decode cX12_count 211 = .ok (.ireturn, 1) := dX12_count_210g.2.1
theorem dX12_count_212 : decode cX12_count 212 = .ok (.aload_n 0, 1) := dX12_count_210g.2.2.1
theorem dX12_count_213 : decode cX12_count 213 = .ok (.getfield 20, 3) := dX12_count_210g.2.2.2.1
theorem dX12_count_216 : decode cX12_count 216 = .ok (.sipush 316, 3) := dX12_count_210g.2.2.2.2.1
theorem dX12_count_219 : decode cX12_count 219 = .ok (.iaload, 1) := dX12_count_210g.2.2.2.2.2.1
theorem dX12_count_220 : decode cX12_count 220 = .ok (.ireturn, 1) := dX12_count_210g.2.2.2.2.2.2.1
theorem dX12_count_221 : decode cX12_count 221 = .ok (.iconst (-1), 1) := dX12_count_210g.2.2.2.2.2.2.2.1
theorem dX12_count_222 : decode cX12_count 222 = .ok (.ireturn, 1) := dX12_count_210g.2.2.2.2.2.2.2.2
set_option maxHeartbeats 4000000 in
set_option maxRecDepth 100000 in
theorem c_X12_count (l : Launch) (E : Nat → Nat) (D : va_G) (G : th_G) (h0 : Nat) (hG0 : G h0 = some (10, 0)) (x1 : Int32) : Met l yX12_count (tb (.code yX12_count cX12_count 4 (some .int))) (rm 0) (va_Pc [.ref h0, .int x1] (PX E D G (fun H => True))) (QXi E D G (fun r H => True)) 0 0 (th_A G) := by
  refine Met.ofW (cc := cX12_count) (maxL := 4) (ret := (some .int)) (by decide) rfl ?_
  intro p e s m args below meth c s₁ B hml hv
  obtain ⟨hav, ⟨hI, hN, hK⟩, hX⟩ := hv
  have hx := B.exec
  have hb := B.bytes
  have hr := B.returns
  have hts := atoms_spec (ws := tb (.code yX12_count cX12_count 4 (some .int))) B.pre
  have hown : s.vm.findClass RX12 = some m.cls := findClass_of_methodNamed B.named
  have hlocks := B.notSynchronized
  have hS : va_S (th_A G) s.heap s.heap [] := va_S.rf
  have hl := lv_entry ([.ref h0, .int x1]) (n := 4) (Nat.le_of_ble_eq_true rfl)
  rw [show entryFrame m args 4 = entryFrame m ([.ref h0, .int x1] : List Value).toArray 4 from by rw [hav], lg_entry_eq]
  generalize (lg_sl ([.ref h0, .int x1]) ++ List.replicate (4 - (lg_sl ([.ref h0, .int x1])).length) Slot.unset).toArray = ls at hl ⊢
  have hl : lv_has ls 4 [(0, .ref h0), (1, .int x1)] := hl
  generalize hR : (headSpec (tb (.code yX12_count cX12_count 4 (some .int))) (rm 0)).room = R
  have hR := hR.symm
  generalize hQ : MQ below (QXi E D G (fun r H => True)) args s 0 0 (th_A G) = QF
  have hQ := hQ.symm
  have J_4 : ∀ (nn : Nat) (H : Heap) (locs : List Loc) (ls : Array Slot) (v1708 : Int32) (v1709 : Int32) , (Int.toNat (96 - v1708.toInt) = nn) → lv_has ls 4 [(3, .int v1708), (2, .int v1709), (0, .ref h0), (1, .int x1)] → ((0 : Int) ≤ v1708.toInt ∧ v1708.toInt ≤ 96) → th_I (okM E) D G [] H → va_S (th_A G) s.heap H locs → W p l e R s m args below meth c H locs 0 0 QF (F0 m 4 ls []) := by
    intro nn
    induction nn using Nat.strongRecOn with
    | ind nn ih_4 =>
      intro H locs ls v1708 v1709  hm hl k1710 hI hS
      refine lv_iload_n hx hb dX12_count_4 rfl (lv_at hl 0 rfl) ?_
      refine lv_bipush (v := 96) hx hb dX12_count_5 (by decide) ?_
      refine lv_icmp_ge (tgt := 28) hx hb dX12_count_7 (by decide) (fun c1711 => ?_) (fun c1711 => ?_)
      · skip
        have k1712 := iv_le (X := (96)) (Y := v1708.toInt) (by decide) rfl c1711
        refine lv_iload_n hx hb dX12_count_28 rfl (lv_at hl 3 rfl) ?_
        have k1713 := iv_lo x1
        have k1714 := iv_hi x1
        by_cases c1715 : x1 = 0
        · skip
          have k1716 := iv_eq (X := x1.toInt) (Y := 0) rfl (by decide) c1715
          refine lv_tableIn (tgt := 108) (off := 79) hx hb dX12_count_29 (by omega) (by omega) (by rw [k1716]; rfl) (by decide) ?_
          refine lv_aload_n hx hb dX12_count_108 rfl (lv_at hl 2 rfl) ?_
          refine gmA hx hb hts inT12 hown hK hI List.not_mem_nil hG0 3 (by decide) (hts _ (tb_c wd_1236)) rfl rfl dX12_count_109 (fun a1717 hq1718 hf1719 => ?_)
          refine lv_sipush (v := 315) hx hb dX12_count_112 (by decide) ?_
          obtain ⟨F1720, hA1721, hP1722⟩ := om_1 hI hq1718 List.not_mem_nil
          refine th_iald hx hb hK hA1721 0 rfl (iv_in (X := (315)) (by decide) (by omega) (by omega)) dX12_count_115 (fun v1723 e1724 => ?_)
          have k1725 := kg_m315 (kOk.get (i := 315) hP1722 e1724 (X := (315)) (by decide) (by omega) (by omega)) (by omega) (by omega) (by omega)
          have hpost : True := trivial
          rw [hQ]
          exact W.iret (v := v1723) hx hb hr (fun t ht hW => ⟨⟨v1723, v1723, rfl, rfl, ⟨by rw [ht]; exact hI, hN.warm hW, va_K.moved hW.alike hK⟩, by first | (rw [ht]; exact hpost) | exact hpost⟩, hS.F ht⟩) hS.2.2 dX12_count_116
        have k1726 := iv_ne (X := x1.toInt) (Y := 0) rfl (by decide) c1715
        by_cases c1727 : x1 = 1
        · skip
          have k1728 := iv_eq (X := x1.toInt) (Y := 1) rfl (by decide) c1727
          refine lv_tableIn (tgt := 117) (off := 88) hx hb dX12_count_29 (by omega) (by omega) (by rw [k1728]; rfl) (by decide) ?_
          refine lv_iload_n hx hb dX12_count_117 rfl (lv_at hl 1 rfl) ?_
          have hpost : True := trivial
          rw [hQ]
          exact W.iret (v := v1709) hx hb hr (fun t ht hW => ⟨⟨v1709, v1709, rfl, rfl, ⟨by rw [ht]; exact hI, hN.warm hW, va_K.moved hW.alike hK⟩, by first | (rw [ht]; exact hpost) | exact hpost⟩, hS.F ht⟩) hS.2.2 dX12_count_118
        have k1729 := iv_ne (X := x1.toInt) (Y := 1) rfl (by decide) c1727
        by_cases c1730 : x1 = 2
        · skip
          have k1731 := iv_eq (X := x1.toInt) (Y := 2) rfl (by decide) c1730
          refine lv_tableIn (tgt := 119) (off := 90) hx hb dX12_count_29 (by omega) (by omega) (by rw [k1731]; rfl) (by decide) ?_
          refine lv_aload_n hx hb dX12_count_119 rfl (lv_at hl 2 rfl) ?_
          refine gmA hx hb hts inT12 hown hK hI List.not_mem_nil hG0 3 (by decide) (hts _ (tb_c wd_1236)) rfl rfl dX12_count_120 (fun a1732 hq1733 hf1734 => ?_)
          refine lv_sipush (v := 308) hx hb dX12_count_123 (by decide) ?_
          obtain ⟨F1735, hA1736, hP1737⟩ := om_1 hI hq1733 List.not_mem_nil
          refine th_iald hx hb hK hA1736 0 rfl (iv_in (X := (308)) (by decide) (by omega) (by omega)) dX12_count_126 (fun v1738 e1739 => ?_)
          have k1740 := kg_m308 (kOk.get (i := 308) hP1737 e1739 (X := (308)) (by decide) (by omega) (by omega)) (by omega) (by omega) (by omega)
          have hpost : True := trivial
          rw [hQ]
          exact W.iret (v := v1738) hx hb hr (fun t ht hW => ⟨⟨v1738, v1738, rfl, rfl, ⟨by rw [ht]; exact hI, hN.warm hW, va_K.moved hW.alike hK⟩, by first | (rw [ht]; exact hpost) | exact hpost⟩, hS.F ht⟩) hS.2.2 dX12_count_127
        have k1741 := iv_ne (X := x1.toInt) (Y := 2) rfl (by decide) c1730
        by_cases c1742 : x1 = 3
        · skip
          have k1743 := iv_eq (X := x1.toInt) (Y := 3) rfl (by decide) c1742
          refine lv_tableIn (tgt := 128) (off := 99) hx hb dX12_count_29 (by omega) (by omega) (by rw [k1743]; rfl) (by decide) ?_
          refine lv_aload_n hx hb dX12_count_128 rfl (lv_at hl 2 rfl) ?_
          refine gmA hx hb hts inT12 hown hK hI List.not_mem_nil hG0 3 (by decide) (hts _ (tb_c wd_1236)) rfl rfl dX12_count_129 (fun a1744 hq1745 hf1746 => ?_)
          refine lv_sipush (v := 309) hx hb dX12_count_132 (by decide) ?_
          obtain ⟨F1747, hA1748, hP1749⟩ := om_1 hI hq1745 List.not_mem_nil
          refine th_iald hx hb hK hA1748 0 rfl (iv_in (X := (309)) (by decide) (by omega) (by omega)) dX12_count_135 (fun v1750 e1751 => ?_)
          have k1752 := kg_m309 (kOk.get (i := 309) hP1749 e1751 (X := (309)) (by decide) (by omega) (by omega)) (by omega) (by omega) (by omega)
          have hpost : True := trivial
          rw [hQ]
          exact W.iret (v := v1750) hx hb hr (fun t ht hW => ⟨⟨v1750, v1750, rfl, rfl, ⟨by rw [ht]; exact hI, hN.warm hW, va_K.moved hW.alike hK⟩, by first | (rw [ht]; exact hpost) | exact hpost⟩, hS.F ht⟩) hS.2.2 dX12_count_136
        have k1753 := iv_ne (X := x1.toInt) (Y := 3) rfl (by decide) c1742
        by_cases c1754 : x1 = 4
        · skip
          have k1755 := iv_eq (X := x1.toInt) (Y := 4) rfl (by decide) c1754
          refine lv_tableIn (tgt := 137) (off := 108) hx hb dX12_count_29 (by omega) (by omega) (by rw [k1755]; rfl) (by decide) ?_
          refine lv_aload_n hx hb dX12_count_137 rfl (lv_at hl 2 rfl) ?_
          refine gmA hx hb hts inT12 hown hK hI List.not_mem_nil hG0 3 (by decide) (hts _ (tb_c wd_1236)) rfl rfl dX12_count_138 (fun a1756 hq1757 hf1758 => ?_)
          refine lv_sipush (v := 310) hx hb dX12_count_141 (by decide) ?_
          obtain ⟨F1759, hA1760, hP1761⟩ := om_1 hI hq1757 List.not_mem_nil
          refine th_iald hx hb hK hA1760 0 rfl (iv_in (X := (310)) (by decide) (by omega) (by omega)) dX12_count_144 (fun v1762 e1763 => ?_)
          have k1764 := kg_m310 (kOk.get (i := 310) hP1761 e1763 (X := (310)) (by decide) (by omega) (by omega)) (by omega) (by omega) (by omega)
          have hpost : True := trivial
          rw [hQ]
          exact W.iret (v := v1762) hx hb hr (fun t ht hW => ⟨⟨v1762, v1762, rfl, rfl, ⟨by rw [ht]; exact hI, hN.warm hW, va_K.moved hW.alike hK⟩, by first | (rw [ht]; exact hpost) | exact hpost⟩, hS.F ht⟩) hS.2.2 dX12_count_145
        have k1765 := iv_ne (X := x1.toInt) (Y := 4) rfl (by decide) c1754
        by_cases c1766 : x1 = 5
        · skip
          have k1767 := iv_eq (X := x1.toInt) (Y := 5) rfl (by decide) c1766
          refine lv_tableIn (tgt := 146) (off := 117) hx hb dX12_count_29 (by omega) (by omega) (by rw [k1767]; rfl) (by decide) ?_
          refine lv_aload_n hx hb dX12_count_146 rfl (lv_at hl 2 rfl) ?_
          refine gmA hx hb hts inT12 hown hK hI List.not_mem_nil hG0 3 (by decide) (hts _ (tb_c wd_1236)) rfl rfl dX12_count_147 (fun a1768 hq1769 hf1770 => ?_)
          refine lv_sipush (v := 311) hx hb dX12_count_150 (by decide) ?_
          obtain ⟨F1771, hA1772, hP1773⟩ := om_1 hI hq1769 List.not_mem_nil
          refine th_iald hx hb hK hA1772 0 rfl (iv_in (X := (311)) (by decide) (by omega) (by omega)) dX12_count_153 (fun v1774 e1775 => ?_)
          have k1776 := kg_m311 (kOk.get (i := 311) hP1773 e1775 (X := (311)) (by decide) (by omega) (by omega)) (by omega) (by omega) (by omega)
          have hpost : True := trivial
          rw [hQ]
          exact W.iret (v := v1774) hx hb hr (fun t ht hW => ⟨⟨v1774, v1774, rfl, rfl, ⟨by rw [ht]; exact hI, hN.warm hW, va_K.moved hW.alike hK⟩, by first | (rw [ht]; exact hpost) | exact hpost⟩, hS.F ht⟩) hS.2.2 dX12_count_154
        have k1777 := iv_ne (X := x1.toInt) (Y := 5) rfl (by decide) c1766
        by_cases c1778 : x1 = 6
        · skip
          have k1779 := iv_eq (X := x1.toInt) (Y := 6) rfl (by decide) c1778
          refine lv_tableIn (tgt := 155) (off := 126) hx hb dX12_count_29 (by omega) (by omega) (by rw [k1779]; rfl) (by decide) ?_
          refine lv_aload_n hx hb dX12_count_155 rfl (lv_at hl 2 rfl) ?_
          refine gmA hx hb hts inT12 hown hK hI List.not_mem_nil hG0 3 (by decide) (hts _ (tb_c wd_1236)) rfl rfl dX12_count_156 (fun a1780 hq1781 hf1782 => ?_)
          refine lv_sipush (v := 312) hx hb dX12_count_159 (by decide) ?_
          obtain ⟨F1783, hA1784, hP1785⟩ := om_1 hI hq1781 List.not_mem_nil
          refine th_iald hx hb hK hA1784 0 rfl (iv_in (X := (312)) (by decide) (by omega) (by omega)) dX12_count_162 (fun v1786 e1787 => ?_)
          have k1788 := kg_m312 (kOk.get (i := 312) hP1785 e1787 (X := (312)) (by decide) (by omega) (by omega)) (by omega) (by omega) (by omega)
          have hpost : True := trivial
          rw [hQ]
          exact W.iret (v := v1786) hx hb hr (fun t ht hW => ⟨⟨v1786, v1786, rfl, rfl, ⟨by rw [ht]; exact hI, hN.warm hW, va_K.moved hW.alike hK⟩, by first | (rw [ht]; exact hpost) | exact hpost⟩, hS.F ht⟩) hS.2.2 dX12_count_163
        have k1789 := iv_ne (X := x1.toInt) (Y := 6) rfl (by decide) c1778
        by_cases c1790 : x1 = 7
        · skip
          have k1791 := iv_eq (X := x1.toInt) (Y := 7) rfl (by decide) c1790
          refine lv_tableIn (tgt := 164) (off := 135) hx hb dX12_count_29 (by omega) (by omega) (by rw [k1791]; rfl) (by decide) ?_
          refine lv_aload_n hx hb dX12_count_164 rfl (lv_at hl 2 rfl) ?_
          refine gmA hx hb hts inT12 hown hK hI List.not_mem_nil hG0 3 (by decide) (hts _ (tb_c wd_1236)) rfl rfl dX12_count_165 (fun a1792 hq1793 hf1794 => ?_)
          refine lv_sipush (v := 313) hx hb dX12_count_168 (by decide) ?_
          obtain ⟨F1795, hA1796, hP1797⟩ := om_1 hI hq1793 List.not_mem_nil
          refine th_iald hx hb hK hA1796 0 rfl (iv_in (X := (313)) (by decide) (by omega) (by omega)) dX12_count_171 (fun v1798 e1799 => ?_)
          have k1800 := kg_m313 (kOk.get (i := 313) hP1797 e1799 (X := (313)) (by decide) (by omega) (by omega)) (by omega) (by omega) (by omega)
          have hpost : True := trivial
          rw [hQ]
          exact W.iret (v := v1798) hx hb hr (fun t ht hW => ⟨⟨v1798, v1798, rfl, rfl, ⟨by rw [ht]; exact hI, hN.warm hW, va_K.moved hW.alike hK⟩, by first | (rw [ht]; exact hpost) | exact hpost⟩, hS.F ht⟩) hS.2.2 dX12_count_172
        have k1801 := iv_ne (X := x1.toInt) (Y := 7) rfl (by decide) c1790
        by_cases c1802 : x1 = 8
        · skip
          have k1803 := iv_eq (X := x1.toInt) (Y := 8) rfl (by decide) c1802
          refine lv_tableIn (tgt := 173) (off := 144) hx hb dX12_count_29 (by omega) (by omega) (by rw [k1803]; rfl) (by decide) ?_
          refine lv_aload_n hx hb dX12_count_173 rfl (lv_at hl 2 rfl) ?_
          refine gmA hx hb hts inT12 hown hK hI List.not_mem_nil hG0 3 (by decide) (hts _ (tb_c wd_1236)) rfl rfl dX12_count_174 (fun a1804 hq1805 hf1806 => ?_)
          refine lv_sipush (v := 314) hx hb dX12_count_177 (by decide) ?_
          obtain ⟨F1807, hA1808, hP1809⟩ := om_1 hI hq1805 List.not_mem_nil
          refine th_iald hx hb hK hA1808 0 rfl (iv_in (X := (314)) (by decide) (by omega) (by omega)) dX12_count_180 (fun v1810 e1811 => ?_)
          have k1812 := kg_m314 (kOk.get (i := 314) hP1809 e1811 (X := (314)) (by decide) (by omega) (by omega)) (by omega) (by omega) (by omega)
          have hpost : True := trivial
          rw [hQ]
          exact W.iret (v := v1810) hx hb hr (fun t ht hW => ⟨⟨v1810, v1810, rfl, rfl, ⟨by rw [ht]; exact hI, hN.warm hW, va_K.moved hW.alike hK⟩, by first | (rw [ht]; exact hpost) | exact hpost⟩, hS.F ht⟩) hS.2.2 dX12_count_181
        have k1813 := iv_ne (X := x1.toInt) (Y := 8) rfl (by decide) c1802
        by_cases c1814 : x1 = 9
        · skip
          have k1815 := iv_eq (X := x1.toInt) (Y := 9) rfl (by decide) c1814
          refine lv_tableIn (tgt := 182) (off := 153) hx hb dX12_count_29 (by omega) (by omega) (by rw [k1815]; rfl) (by decide) ?_
          refine lv_aload_n hx hb dX12_count_182 rfl (lv_at hl 2 rfl) ?_
          refine gmI hx hb hts inT12 hown hK hI List.not_mem_nil hG0 10 (by decide) (hts _ (tb_c wd_1243)) rfl rfl dX12_count_183 (fun w1816 hg1817 k1818 k1819 => ?_)
          have hpost : True := trivial
          rw [hQ]
          exact W.iret (v := w1816) hx hb hr (fun t ht hW => ⟨⟨w1816, w1816, rfl, rfl, ⟨by rw [ht]; exact hI, hN.warm hW, va_K.moved hW.alike hK⟩, by first | (rw [ht]; exact hpost) | exact hpost⟩, hS.F ht⟩) hS.2.2 dX12_count_186
        have k1820 := iv_ne (X := x1.toInt) (Y := 9) rfl (by decide) c1814
        by_cases c1821 : x1 = 10
        · skip
          have k1822 := iv_eq (X := x1.toInt) (Y := 10) rfl (by decide) c1821
          refine lv_tableIn (tgt := 187) (off := 158) hx hb dX12_count_29 (by omega) (by omega) (by rw [k1822]; rfl) (by decide) ?_
          refine lv_aload_n hx hb dX12_count_187 rfl (lv_at hl 2 rfl) ?_
          refine gmA hx hb hts inT12 hown hK hI List.not_mem_nil hG0 2 (by decide) (hts _ (tb_c wd_1235)) rfl rfl dX12_count_188 (fun a1823 hq1824 hf1825 => ?_)
          refine lv_iload_n hx hb dX12_count_191 rfl (lv_at hl 3 rfl) ?_
          refine lv_bipush (v := 9) hx hb dX12_count_192 (by decide) ?_
          refine lv_isub hx hb dX12_count_194 ?_
          refine lv_topi (fun v1826 e1827 => ?_)
          have tv1826 : v1826.toInt = x1.toInt - (9) := iv_sub rfl (by decide) e1827 (by omega) (by omega)
          obtain ⟨F1828, hA1829⟩ := om_0 hI hq1824 List.not_mem_nil
          refine th_iald hx hb hK hA1829 0 rfl (iv_in (X := v1826.toInt) rfl (by omega) (by omega)) dX12_count_195 (fun v1830 e1831 => ?_)
          have hpost : True := trivial
          rw [hQ]
          exact W.iret (v := v1830) hx hb hr (fun t ht hW => ⟨⟨v1830, v1830, rfl, rfl, ⟨by rw [ht]; exact hI, hN.warm hW, va_K.moved hW.alike hK⟩, by first | (rw [ht]; exact hpost) | exact hpost⟩, hS.F ht⟩) hS.2.2 dX12_count_196
        have k1832 := iv_ne (X := x1.toInt) (Y := 10) rfl (by decide) c1821
        by_cases c1833 : x1 = 11
        · skip
          have k1834 := iv_eq (X := x1.toInt) (Y := 11) rfl (by decide) c1833
          refine lv_tableIn (tgt := 187) (off := 158) hx hb dX12_count_29 (by omega) (by omega) (by rw [k1834]; rfl) (by decide) ?_
          refine lv_aload_n hx hb dX12_count_187 rfl (lv_at hl 2 rfl) ?_
          refine gmA hx hb hts inT12 hown hK hI List.not_mem_nil hG0 2 (by decide) (hts _ (tb_c wd_1235)) rfl rfl dX12_count_188 (fun a1835 hq1836 hf1837 => ?_)
          refine lv_iload_n hx hb dX12_count_191 rfl (lv_at hl 3 rfl) ?_
          refine lv_bipush (v := 9) hx hb dX12_count_192 (by decide) ?_
          refine lv_isub hx hb dX12_count_194 ?_
          refine lv_topi (fun v1838 e1839 => ?_)
          have tv1838 : v1838.toInt = x1.toInt - (9) := iv_sub rfl (by decide) e1839 (by omega) (by omega)
          obtain ⟨F1840, hA1841⟩ := om_0 hI hq1836 List.not_mem_nil
          refine th_iald hx hb hK hA1841 0 rfl (iv_in (X := v1838.toInt) rfl (by omega) (by omega)) dX12_count_195 (fun v1842 e1843 => ?_)
          have hpost : True := trivial
          rw [hQ]
          exact W.iret (v := v1842) hx hb hr (fun t ht hW => ⟨⟨v1842, v1842, rfl, rfl, ⟨by rw [ht]; exact hI, hN.warm hW, va_K.moved hW.alike hK⟩, by first | (rw [ht]; exact hpost) | exact hpost⟩, hS.F ht⟩) hS.2.2 dX12_count_196
        have k1844 := iv_ne (X := x1.toInt) (Y := 11) rfl (by decide) c1833
        by_cases c1845 : x1 = 12
        · skip
          have k1846 := iv_eq (X := x1.toInt) (Y := 12) rfl (by decide) c1845
          refine lv_tableIn (tgt := 187) (off := 158) hx hb dX12_count_29 (by omega) (by omega) (by rw [k1846]; rfl) (by decide) ?_
          refine lv_aload_n hx hb dX12_count_187 rfl (lv_at hl 2 rfl) ?_
          refine gmA hx hb hts inT12 hown hK hI List.not_mem_nil hG0 2 (by decide) (hts _ (tb_c wd_1235)) rfl rfl dX12_count_188 (fun a1847 hq1848 hf1849 => ?_)
          refine lv_iload_n hx hb dX12_count_191 rfl (lv_at hl 3 rfl) ?_
          refine lv_bipush (v := 9) hx hb dX12_count_192 (by decide) ?_
          refine lv_isub hx hb dX12_count_194 ?_
          refine lv_topi (fun v1850 e1851 => ?_)
          have tv1850 : v1850.toInt = x1.toInt - (9) := iv_sub rfl (by decide) e1851 (by omega) (by omega)
          obtain ⟨F1852, hA1853⟩ := om_0 hI hq1848 List.not_mem_nil
          refine th_iald hx hb hK hA1853 0 rfl (iv_in (X := v1850.toInt) rfl (by omega) (by omega)) dX12_count_195 (fun v1854 e1855 => ?_)
          have hpost : True := trivial
          rw [hQ]
          exact W.iret (v := v1854) hx hb hr (fun t ht hW => ⟨⟨v1854, v1854, rfl, rfl, ⟨by rw [ht]; exact hI, hN.warm hW, va_K.moved hW.alike hK⟩, by first | (rw [ht]; exact hpost) | exact hpost⟩, hS.F ht⟩) hS.2.2 dX12_count_196
        have k1856 := iv_ne (X := x1.toInt) (Y := 12) rfl (by decide) c1845
        by_cases c1857 : x1 = 13
        · skip
          have k1858 := iv_eq (X := x1.toInt) (Y := 13) rfl (by decide) c1857
          refine lv_tableIn (tgt := 197) (off := 168) hx hb dX12_count_29 (by omega) (by omega) (by rw [k1858]; rfl) (by decide) ?_
          refine lv_aload_n hx hb dX12_count_197 rfl (lv_at hl 2 rfl) ?_
          refine gmA hx hb hts inT12 hown hK hI List.not_mem_nil hG0 2 (by decide) (hts _ (tb_c wd_1235)) rfl rfl dX12_count_198 (fun a1859 hq1860 hf1861 => ?_)
          refine lv_iconst (v := 5) hx hb dX12_count_201 (by decide) ?_
          obtain ⟨F1862, hA1863⟩ := om_0 hI hq1860 List.not_mem_nil
          refine th_iald hx hb hK hA1863 0 rfl (iv_in (X := (5)) (by decide) (by omega) (by omega)) dX12_count_202 (fun v1864 e1865 => ?_)
          have hpost : True := trivial
          rw [hQ]
          exact W.iret (v := v1864) hx hb hr (fun t ht hW => ⟨⟨v1864, v1864, rfl, rfl, ⟨by rw [ht]; exact hI, hN.warm hW, va_K.moved hW.alike hK⟩, by first | (rw [ht]; exact hpost) | exact hpost⟩, hS.F ht⟩) hS.2.2 dX12_count_203
        have k1866 := iv_ne (X := x1.toInt) (Y := 13) rfl (by decide) c1857
        by_cases c1867 : x1 = 14
        · skip
          have k1868 := iv_eq (X := x1.toInt) (Y := 14) rfl (by decide) c1867
          refine lv_tableIn (tgt := 204) (off := 175) hx hb dX12_count_29 (by omega) (by omega) (by rw [k1868]; rfl) (by decide) ?_
          refine lv_aload_n hx hb dX12_count_204 rfl (lv_at hl 2 rfl) ?_
          refine gmA hx hb hts inT12 hown hK hI List.not_mem_nil hG0 2 (by decide) (hts _ (tb_c wd_1235)) rfl rfl dX12_count_205 (fun a1869 hq1870 hf1871 => ?_)
          refine lv_bipush (v := 6) hx hb dX12_count_208 (by decide) ?_
          obtain ⟨F1872, hA1873⟩ := om_0 hI hq1870 List.not_mem_nil
          refine th_iald hx hb hK hA1873 0 rfl (iv_in (X := (6)) (by decide) (by omega) (by omega)) dX12_count_210 (fun v1874 e1875 => ?_)
          have hpost : True := trivial
          rw [hQ]
          exact W.iret (v := v1874) hx hb hr (fun t ht hW => ⟨⟨v1874, v1874, rfl, rfl, ⟨by rw [ht]; exact hI, hN.warm hW, va_K.moved hW.alike hK⟩, by first | (rw [ht]; exact hpost) | exact hpost⟩, hS.F ht⟩) hS.2.2 dX12_count_211
        have k1876 := iv_ne (X := x1.toInt) (Y := 14) rfl (by decide) c1867
        by_cases c1877 : x1 = 15
        · skip
          have k1878 := iv_eq (X := x1.toInt) (Y := 15) rfl (by decide) c1877
          refine lv_tableIn (tgt := 212) (off := 183) hx hb dX12_count_29 (by omega) (by omega) (by rw [k1878]; rfl) (by decide) ?_
          refine lv_aload_n hx hb dX12_count_212 rfl (lv_at hl 2 rfl) ?_
          refine gmA hx hb hts inT12 hown hK hI List.not_mem_nil hG0 3 (by decide) (hts _ (tb_c wd_1236)) rfl rfl dX12_count_213 (fun a1879 hq1880 hf1881 => ?_)
          refine lv_sipush (v := 316) hx hb dX12_count_216 (by decide) ?_
          obtain ⟨F1882, hA1883, hP1884⟩ := om_1 hI hq1880 List.not_mem_nil
          refine th_iald hx hb hK hA1883 0 rfl (iv_in (X := (316)) (by decide) (by omega) (by omega)) dX12_count_219 (fun v1885 e1886 => ?_)
          have k1887 := kg_force (kOk.get (i := 316) hP1884 e1886 (X := (316)) (by decide) (by omega) (by omega)) (by omega) (by omega) (by omega)
          have hpost : True := trivial
          rw [hQ]
          exact W.iret (v := v1885) hx hb hr (fun t ht hW => ⟨⟨v1885, v1885, rfl, rfl, ⟨by rw [ht]; exact hI, hN.warm hW, va_K.moved hW.alike hK⟩, by first | (rw [ht]; exact hpost) | exact hpost⟩, hS.F ht⟩) hS.2.2 dX12_count_220
        have k1888 := iv_ne (X := x1.toInt) (Y := 15) rfl (by decide) c1877
        refine lv_tableOut (tgt := 221) hx hb dX12_count_29 (by omega) (by decide) ?_
        refine lv_iconst (v := (-1)) hx hb dX12_count_221 (by decide) ?_
        have hpost : True := trivial
        rw [hQ]
        exact W.iret (v := (-1)) hx hb hr (fun t ht hW => ⟨⟨(-1), (-1), rfl, rfl, ⟨by rw [ht]; exact hI, hN.warm hW, va_K.moved hW.alike hK⟩, by first | (rw [ht]; exact hpost) | exact hpost⟩, hS.F ht⟩) hS.2.2 dX12_count_222
      · skip
        have k1889 := iv_nle (X := (96)) (Y := v1708.toInt) (by decide) rfl c1711
        refine lv_iload_n hx hb dX12_count_10 rfl (lv_at hl 1 rfl) ?_
        refine lv_aload_n hx hb dX12_count_11 rfl (lv_at hl 2 rfl) ?_
        refine gmA hx hb hts inT12 hown hK hI List.not_mem_nil hG0 3 (by decide) (hts _ (tb_c wd_1236)) rfl rfl dX12_count_12 (fun a1890 hq1891 hf1892 => ?_)
        refine lv_bipush (v := 10) hx hb dX12_count_15 (by decide) ?_
        refine lv_iload_n hx hb dX12_count_17 rfl (lv_at hl 0 rfl) ?_
        refine lv_iadd hx hb dX12_count_18 ?_
        refine lv_topi (fun v1893 e1894 => ?_)
        have tv1893 : v1893.toInt = (10) + v1708.toInt := iv_add (by decide) rfl e1894 (by omega) (by omega)
        obtain ⟨F1895, hA1896, hP1897⟩ := om_1 hI hq1891 List.not_mem_nil
        refine th_iald hx hb hK hA1896 0 rfl (iv_in (X := v1893.toInt) rfl (by omega) (by omega)) dX12_count_19 (fun v1898 e1899 => ?_)
        refine lv_iadd hx hb dX12_count_20 ?_
        refine lv_topi (fun v1900 e1901 => ?_)
        try have tv1900 : v1900.toInt = v1709.toInt + v1898.toInt := iv_add rfl rfl e1901 (by omega) (by omega)
        refine lv_istore_n (lv' := [(2, .int v1900), (3, .int v1708), (0, .ref h0), (1, .int x1)]) hx hb dX12_count_21 rfl hl (by decide) rfl (fun ls hl => ?_)
        obtain ⟨v1902, e1903⟩ : ∃ y : Int32, y = v1708 + (1) := ⟨_, rfl⟩
        have tv1902 : v1902.toInt = v1708.toInt + (1) := iv_add rfl (by decide) e1903 (by omega) (by omega)
        refine lv_iinc (v := v1902) (lv' := [(3, .int v1902), (2, .int v1900), (0, .ref h0), (1, .int x1)]) hx hb dX12_count_22 hl (k := 1) rfl (by rw [e1903]; rfl) (by decide) rfl (fun ls hl => ?_)
        refine lv_goto (tgt := 4) hx hb dX12_count_25 (by decide) ?_
        exact ih_4 _ (by omega) H locs ls v1902 v1900  rfl (lv_sub hl [0, 1, 2, 3] rfl) ⟨by omega, by omega⟩ hI hS
  refine lv_iconst (v := 0) hx hb dX12_count_0 (by decide) ?_
  refine lv_istore_n (lv' := [(2, .int 0), (0, .ref h0), (1, .int x1)]) hx hb dX12_count_1 rfl hl (by decide) rfl (fun ls hl => ?_)
  refine lv_iconst (v := 0) hx hb dX12_count_2 (by decide) ?_
  refine lv_istore_n (lv' := [(3, .int 0), (2, .int 0), (0, .ref h0), (1, .int x1)]) hx hb dX12_count_3 rfl hl (by decide) rfl (fun ls hl => ?_)
  have zl : (0 : Int32).toInt = 0 := by decide
  exact J_4 _ s.heap [] ls 0 0  rfl (lv_sub hl [0, 1, 2, 3] rfl) ⟨by decide, by decide⟩ hI hS
theorem dX12_status_0g : (decode cX12_status 0 = .ok (.aload_n 0, 1)) ∧ (decode cX12_status 1 = .ok (.getfield 3, 3)) ∧ (decode cX12_status 4 = .ok (.ireturn, 1)) := by decide +kernel
theorem dX12_status_0 : decode cX12_status 0 = .ok (.aload_n 0, 1) := dX12_status_0g.1
theorem dX12_status_1 : decode cX12_status 1 = .ok (.getfield 3, 3) := dX12_status_0g.2.1
theorem dX12_status_4 : decode cX12_status 4 = .ok (.ireturn, 1) := dX12_status_0g.2.2
set_option maxHeartbeats 4000000 in
set_option maxRecDepth 100000 in
theorem c_X12_status (l : Launch) (E : Nat → Nat) (D : va_G) (G : th_G) (h0 : Nat) (hG0 : G h0 = some (10, 0)) : Met l yX12_status (tb (.code yX12_status cX12_status 1 (some .int))) (rm 0) (va_Pc [.ref h0] (PX E D G (fun H => True))) (QXi E D G (fun r H => True)) 0 0 (th_A G) := by
  refine Met.ofW (cc := cX12_status) (maxL := 1) (ret := (some .int)) (by decide) rfl ?_
  intro p e s m args below meth c s₁ B hml hv
  obtain ⟨hav, ⟨hI, hN, hK⟩, hX⟩ := hv
  have hx := B.exec
  have hb := B.bytes
  have hr := B.returns
  have hts := atoms_spec (ws := tb (.code yX12_status cX12_status 1 (some .int))) B.pre
  have hown : s.vm.findClass RX12 = some m.cls := findClass_of_methodNamed B.named
  have hlocks := B.notSynchronized
  have hS : va_S (th_A G) s.heap s.heap [] := va_S.rf
  have hl := lv_entry ([.ref h0]) (n := 1) (Nat.le_of_ble_eq_true rfl)
  rw [show entryFrame m args 1 = entryFrame m ([.ref h0] : List Value).toArray 1 from by rw [hav], lg_entry_eq]
  generalize (lg_sl ([.ref h0]) ++ List.replicate (1 - (lg_sl ([.ref h0])).length) Slot.unset).toArray = ls at hl ⊢
  have hl : lv_has ls 1 [(0, .ref h0)] := hl
  generalize hR : (headSpec (tb (.code yX12_status cX12_status 1 (some .int))) (rm 0)).room = R
  have hR := hR.symm
  generalize hQ : MQ below (QXi E D G (fun r H => True)) args s 0 0 (th_A G) = QF
  have hQ := hQ.symm
  refine lv_aload_n hx hb dX12_status_0 rfl (lv_at hl 0 rfl) ?_
  refine gmI hx hb hts inT12 hown hK hI List.not_mem_nil hG0 0 (by decide) (hts _ (tb_c wd_1233)) rfl rfl dX12_status_1 (fun w1 hg2 k3 k4 => ?_)
  have hpost : True := trivial
  rw [hQ]
  exact W.iret (v := w1) hx hb hr (fun t ht hW => ⟨⟨w1, w1, rfl, rfl, ⟨by rw [ht]; exact hI, hN.warm hW, va_K.moved hW.alike hK⟩, by first | (rw [ht]; exact hpost) | exact hpost⟩, hS.F ht⟩) hS.2.2 dX12_status_4
theorem dX12_row_0g : (decode cX12_row 0 = .ok (.aload_n 0, 1)) ∧ (decode cX12_row 1 = .ok (.getfield 132, 3)) ∧ (decode cX12_row 4 = .ok (.istore_n 1, 1)) ∧ (decode cX12_row 5 = .ok (.aload_n 0, 1)) ∧ (decode cX12_row 6 = .ok (.iconst 0, 1)) ∧ (decode cX12_row 7 = .ok (.putfield 132, 3)) ∧ (decode cX12_row 10 = .ok (.iload_n 1, 1)) ∧ (decode cX12_row 11 = .ok (.ifCond .ne 10, 3)) ∧ (decode cX12_row 14 = .ok (.aload_n 0, 1)) ∧ (decode cX12_row 15 = .ok (.bipush (-6), 2)) := by decide +kernel
theorem dX12_row_0 : decode cX12_row 0 = .ok (.aload_n 0, 1) := dX12_row_0g.1
theorem dX12_row_1 : decode cX12_row 1 = .ok (.getfield 132, 3) := dX12_row_0g.2.1
theorem dX12_row_4 : decode cX12_row 4 = .ok (.istore_n 1, 1) := dX12_row_0g.2.2.1
theorem dX12_row_5 : decode cX12_row 5 = .ok (.aload_n 0, 1) := dX12_row_0g.2.2.2.1
theorem dX12_row_6 : decode cX12_row 6 = .ok (.iconst 0, 1) := dX12_row_0g.2.2.2.2.1
theorem dX12_row_7 : decode cX12_row 7 = .ok (.putfield 132, 3) := dX12_row_0g.2.2.2.2.2.1
theorem dX12_row_10 : decode cX12_row 10 = .ok (.iload_n 1, 1) := dX12_row_0g.2.2.2.2.2.2.1
theorem dX12_row_11 : decode cX12_row 11 = .ok (.ifCond .ne 10, 3) := dX12_row_0g.2.2.2.2.2.2.2.1
theorem dX12_row_14 : decode cX12_row 14 = .ok (.aload_n 0, 1) := dX12_row_0g.2.2.2.2.2.2.2.2.1
theorem dX12_row_15 : decode cX12_row 15 = .ok (.bipush (-6), 2) := dX12_row_0g.2.2.2.2.2.2.2.2.2
theorem dX12_row_17g : (decode cX12_row 17 = .ok (.invokevirtual 107, 3)) ∧ (decode cX12_row 20 = .ok (.ireturn, 1)) ∧ (decode cX12_row 21 = .ok (.iconst 0, 1)) ∧ (decode cX12_row 22 = .ok (.istore_n 2, 1)) ∧ (decode cX12_row 23 = .ok (.aload_n 0, 1)) ∧ (decode cX12_row 24 = .ok (.iload_n 1, 1)) ∧ (decode cX12_row 25 = .ok (.iconst 4, 1)) ∧ (decode cX12_row 26 = .ok (.irem, 1)) ∧ (decode cX12_row 27 = .ok (.ifCond .ne 7, 3)) ∧ (decode cX12_row 30 = .ok (.iconst 0, 1)) := by decide +kernel
theorem dX12_row_17 : decode cX12_row 17 = .ok (.invokevirtual 107, 3) := dX12_row_17g.1
theorem dX12_row_20 : decode cX12_row 20 = .ok (.ireturn, 1) := dX12_row_17g.2.1
theorem dX12_row_21 : decode cX12_row 21 = .ok (.iconst 0, 1) := dX12_row_17g.2.2.1
theorem dX12_row_22 : decode cX12_row 22 = .ok (.istore_n 2, 1) := dX12_row_17g.2.2.2.1
theorem dX12_row_23 : decode cX12_row 23 = .ok (.aload_n 0, 1) := dX12_row_17g.2.2.2.2.1
theorem dX12_row_24 : decode cX12_row 24 = .ok (.iload_n 1, 1) := dX12_row_17g.2.2.2.2.2.1
theorem dX12_row_25 : decode cX12_row 25 = .ok (.iconst 4, 1) := dX12_row_17g.2.2.2.2.2.2.1
theorem dX12_row_26 : decode cX12_row 26 = .ok (.irem, 1) := dX12_row_17g.2.2.2.2.2.2.2.1
theorem dX12_row_27 : decode cX12_row 27 = .ok (.ifCond .ne 7, 3) := dX12_row_17g.2.2.2.2.2.2.2.2.1
theorem dX12_row_30 : decode cX12_row 30 = .ok (.iconst 0, 1) := dX12_row_17g.2.2.2.2.2.2.2.2.2
theorem dX12_row_31g : (decode cX12_row 31 = .ok (.goto 4, 3)) ∧ (decode cX12_row 34 = .ok (.iconst 1, 1)) ∧ (decode cX12_row 35 = .ok (.putfield 135, 3)) ∧ (decode cX12_row 38 = .ok (.aload_n 0, 1)) ∧ (decode cX12_row 39 = .ok (.invokevirtual 138, 3)) ∧ (decode cX12_row 42 = .ok (.iconst 0, 1)) ∧ (decode cX12_row 43 = .ok (.istore_n 3, 1)) ∧ (decode cX12_row 44 = .ok (.iload_n 3, 1)) ∧ (decode cX12_row 45 = .ok (.iconst 4, 1)) ∧ (decode cX12_row 46 = .ok (.iadd, 1)) := by decide +kernel
theorem dX12_row_31 : decode cX12_row 31 = .ok (.goto 4, 3) := dX12_row_31g.1
theorem dX12_row_34 : decode cX12_row 34 = .ok (.iconst 1, 1) := dX12_row_31g.2.1
theorem dX12_row_35 : decode cX12_row 35 = .ok (.putfield 135, 3) := dX12_row_31g.2.2.1
theorem dX12_row_38 : decode cX12_row 38 = .ok (.aload_n 0, 1) := dX12_row_31g.2.2.2.1
theorem dX12_row_39 : decode cX12_row 39 = .ok (.invokevirtual 138, 3) := dX12_row_31g.2.2.2.2.1
theorem dX12_row_42 : decode cX12_row 42 = .ok (.iconst 0, 1) := dX12_row_31g.2.2.2.2.2.1
theorem dX12_row_43 : decode cX12_row 43 = .ok (.istore_n 3, 1) := dX12_row_31g.2.2.2.2.2.2.1
theorem dX12_row_44 : decode cX12_row 44 = .ok (.iload_n 3, 1) := dX12_row_31g.2.2.2.2.2.2.2.1
theorem dX12_row_45 : decode cX12_row 45 = .ok (.iconst 4, 1) := dX12_row_31g.2.2.2.2.2.2.2.2.1
theorem dX12_row_46 : decode cX12_row 46 = .ok (.iadd, 1) := dX12_row_31g.2.2.2.2.2.2.2.2.2
theorem dX12_row_47g : (decode cX12_row 47 = .ok (.iload_n 1, 1)) ∧ (decode cX12_row 48 = .ok (.if_icmp .gt 182, 3)) ∧ (decode cX12_row 51 = .ok (.aload_n 0, 1)) ∧ (decode cX12_row 52 = .ok (.getfield 20, 3)) ∧ (decode cX12_row 55 = .ok (.sipush 311, 3)) ∧ (decode cX12_row 58 = .ok (.iaload, 1)) ∧ (decode cX12_row 59 = .ok (.bipush 16, 2)) ∧ (decode cX12_row 61 = .ok (.if_icmp .ge 43, 3)) ∧ (decode cX12_row 64 = .ok (.aload_n 0, 1)) ∧ (decode cX12_row 65 = .ok (.getfield 34, 3)) := by decide +kernel
theorem dX12_row_47 : decode cX12_row 47 = .ok (.iload_n 1, 1) := dX12_row_47g.1
theorem dX12_row_48 : decode cX12_row 48 = .ok (.if_icmp .gt 182, 3) := dX12_row_47g.2.1
theorem dX12_row_51 : decode cX12_row 51 = .ok (.aload_n 0, 1) := dX12_row_47g.2.2.1
theorem dX12_row_52 : decode cX12_row 52 = .ok (.getfield 20, 3) := dX12_row_47g.2.2.2.1
theorem dX12_row_55 : decode cX12_row 55 = .ok (.sipush 311, 3) := dX12_row_47g.2.2.2.2.1
theorem dX12_row_58 : decode cX12_row 58 = .ok (.iaload, 1) := dX12_row_47g.2.2.2.2.2.1
theorem dX12_row_59 : decode cX12_row 59 = .ok (.bipush 16, 2) := dX12_row_47g.2.2.2.2.2.2.1
theorem dX12_row_61 : decode cX12_row 61 = .ok (.if_icmp .ge 43, 3) := dX12_row_47g.2.2.2.2.2.2.2.1
theorem dX12_row_64 : decode cX12_row 64 = .ok (.aload_n 0, 1) := dX12_row_47g.2.2.2.2.2.2.2.2.1
theorem dX12_row_65 : decode cX12_row 65 = .ok (.getfield 34, 3) := dX12_row_47g.2.2.2.2.2.2.2.2.2
theorem dX12_row_68g : (decode cX12_row 68 = .ok (.iload_n 3, 1)) ∧ (decode cX12_row 69 = .ok (.baload, 1)) ∧ (decode cX12_row 70 = .ok (.aload_n 0, 1)) ∧ (decode cX12_row 71 = .ok (.getfield 34, 3)) ∧ (decode cX12_row 74 = .ok (.iload_n 3, 1)) ∧ (decode cX12_row 75 = .ok (.iconst 1, 1)) ∧ (decode cX12_row 76 = .ok (.iadd, 1)) ∧ (decode cX12_row 77 = .ok (.baload, 1)) ∧ (decode cX12_row 78 = .ok (.aload_n 0, 1)) ∧ (decode cX12_row 79 = .ok (.getfield 34, 3)) := by decide +kernel
theorem dX12_row_68 : decode cX12_row 68 = .ok (.iload_n 3, 1) := dX12_row_68g.1
theorem dX12_row_69 : decode cX12_row 69 = .ok (.baload, 1) := dX12_row_68g.2.1
theorem dX12_row_70 : decode cX12_row 70 = .ok (.aload_n 0, 1) := dX12_row_68g.2.2.1
theorem dX12_row_71 : decode cX12_row 71 = .ok (.getfield 34, 3) := dX12_row_68g.2.2.2.1
theorem dX12_row_74 : decode cX12_row 74 = .ok (.iload_n 3, 1) := dX12_row_68g.2.2.2.2.1
theorem dX12_row_75 : decode cX12_row 75 = .ok (.iconst 1, 1) := dX12_row_68g.2.2.2.2.2.1
theorem dX12_row_76 : decode cX12_row 76 = .ok (.iadd, 1) := dX12_row_68g.2.2.2.2.2.2.1
theorem dX12_row_77 : decode cX12_row 77 = .ok (.baload, 1) := dX12_row_68g.2.2.2.2.2.2.2.1
theorem dX12_row_78 : decode cX12_row 78 = .ok (.aload_n 0, 1) := dX12_row_68g.2.2.2.2.2.2.2.2.1
theorem dX12_row_79 : decode cX12_row 79 = .ok (.getfield 34, 3) := dX12_row_68g.2.2.2.2.2.2.2.2.2
theorem dX12_row_82g : (decode cX12_row 82 = .ok (.iload_n 3, 1)) ∧ (decode cX12_row 83 = .ok (.iconst 2, 1)) ∧ (decode cX12_row 84 = .ok (.iadd, 1)) ∧ (decode cX12_row 85 = .ok (.baload, 1)) ∧ (decode cX12_row 86 = .ok (.aload_n 0, 1)) ∧ (decode cX12_row 87 = .ok (.getfield 34, 3)) ∧ (decode cX12_row 90 = .ok (.iload_n 3, 1)) ∧ (decode cX12_row 91 = .ok (.iconst 3, 1)) ∧ (decode cX12_row 92 = .ok (.iadd, 1)) ∧ (decode cX12_row 93 = .ok (.baload, 1)) := by decide +kernel
theorem dX12_row_82 : decode cX12_row 82 = .ok (.iload_n 3, 1) := dX12_row_82g.1
theorem dX12_row_83 : decode cX12_row 83 = .ok (.iconst 2, 1) := dX12_row_82g.2.1
theorem dX12_row_84 : decode cX12_row 84 = .ok (.iadd, 1) := dX12_row_82g.2.2.1
theorem dX12_row_85 : decode cX12_row 85 = .ok (.baload, 1) := dX12_row_82g.2.2.2.1
theorem dX12_row_86 : decode cX12_row 86 = .ok (.aload_n 0, 1) := dX12_row_82g.2.2.2.2.1
theorem dX12_row_87 : decode cX12_row 87 = .ok (.getfield 34, 3) := dX12_row_82g.2.2.2.2.2.1
theorem dX12_row_90 : decode cX12_row 90 = .ok (.iload_n 3, 1) := dX12_row_82g.2.2.2.2.2.2.1
theorem dX12_row_91 : decode cX12_row 91 = .ok (.iconst 3, 1) := dX12_row_82g.2.2.2.2.2.2.2.1
theorem dX12_row_92 : decode cX12_row 92 = .ok (.iadd, 1) := dX12_row_82g.2.2.2.2.2.2.2.2.1
theorem dX12_row_93 : decode cX12_row 93 = .ok (.baload, 1) := dX12_row_82g.2.2.2.2.2.2.2.2.2
theorem dX12_row_94g : (decode cX12_row 94 = .ok (.invokestatic 141, 3)) ∧ (decode cX12_row 97 = .ok (.ifCond .eq 7, 3)) ∧ (decode cX12_row 100 = .ok (.iconst 1, 1)) ∧ (decode cX12_row 101 = .ok (.goto 4, 3)) ∧ (decode cX12_row 104 = .ok (.iconst 0, 1)) ∧ (decode cX12_row 105 = .ok (.istore 4, 2)) ∧ (decode cX12_row 107 = .ok (.iload 4, 2)) ∧ (decode cX12_row 109 = .ok (.ifCond .eq 33, 3)) ∧ (decode cX12_row 112 = .ok (.aload_n 0, 1)) ∧ (decode cX12_row 113 = .ok (.getfield 64, 3)) := by decide +kernel
theorem dX12_row_94 : decode cX12_row 94 = .ok (.invokestatic 141, 3) := dX12_row_94g.1
theorem dX12_row_97 : decode cX12_row 97 = .ok (.ifCond .eq 7, 3) := dX12_row_94g.2.1
theorem dX12_row_100 : decode cX12_row 100 = .ok (.iconst 1, 1) := dX12_row_94g.2.2.1
theorem dX12_row_101 : decode cX12_row 101 = .ok (.goto 4, 3) := dX12_row_94g.2.2.2.1
theorem dX12_row_104 : decode cX12_row 104 = .ok (.iconst 0, 1) := dX12_row_94g.2.2.2.2.1
theorem dX12_row_105 : decode cX12_row 105 = .ok (.istore 4, 2) := dX12_row_94g.2.2.2.2.2.1
theorem dX12_row_107 : decode cX12_row 107 = .ok (.iload 4, 2) := dX12_row_94g.2.2.2.2.2.2.1
theorem dX12_row_109 : decode cX12_row 109 = .ok (.ifCond .eq 33, 3) := dX12_row_94g.2.2.2.2.2.2.2.1
theorem dX12_row_112 : decode cX12_row 112 = .ok (.aload_n 0, 1) := dX12_row_94g.2.2.2.2.2.2.2.2.1
theorem dX12_row_113 : decode cX12_row 113 = .ok (.getfield 64, 3) := dX12_row_94g.2.2.2.2.2.2.2.2.2
theorem dX12_row_116g : (decode cX12_row 116 = .ok (.bipush 24, 2)) ∧ (decode cX12_row 118 = .ok (.aload_n 0, 1)) ∧ (decode cX12_row 119 = .ok (.getfield 34, 3)) ∧ (decode cX12_row 122 = .ok (.iload_n 3, 1)) ∧ (decode cX12_row 123 = .ok (.iconst 1, 1)) ∧ (decode cX12_row 124 = .ok (.iadd, 1)) ∧ (decode cX12_row 125 = .ok (.baload, 1)) ∧ (decode cX12_row 126 = .ok (.imul, 1)) ∧ (decode cX12_row 127 = .ok (.aload_n 0, 1)) ∧ (decode cX12_row 128 = .ok (.getfield 34, 3)) := by decide +kernel
theorem dX12_row_116 : decode cX12_row 116 = .ok (.bipush 24, 2) := dX12_row_116g.1
theorem dX12_row_118 : decode cX12_row 118 = .ok (.aload_n 0, 1) := dX12_row_116g.2.1
theorem dX12_row_119 : decode cX12_row 119 = .ok (.getfield 34, 3) := dX12_row_116g.2.2.1
theorem dX12_row_122 : decode cX12_row 122 = .ok (.iload_n 3, 1) := dX12_row_116g.2.2.2.1
theorem dX12_row_123 : decode cX12_row 123 = .ok (.iconst 1, 1) := dX12_row_116g.2.2.2.2.1
theorem dX12_row_124 : decode cX12_row 124 = .ok (.iadd, 1) := dX12_row_116g.2.2.2.2.2.1
theorem dX12_row_125 : decode cX12_row 125 = .ok (.baload, 1) := dX12_row_116g.2.2.2.2.2.2.1
theorem dX12_row_126 : decode cX12_row 126 = .ok (.imul, 1) := dX12_row_116g.2.2.2.2.2.2.2.1
theorem dX12_row_127 : decode cX12_row 127 = .ok (.aload_n 0, 1) := dX12_row_116g.2.2.2.2.2.2.2.2.1
theorem dX12_row_128 : decode cX12_row 128 = .ok (.getfield 34, 3) := dX12_row_116g.2.2.2.2.2.2.2.2.2
theorem dX12_row_131g : (decode cX12_row 131 = .ok (.iload_n 3, 1)) ∧ (decode cX12_row 132 = .ok (.baload, 1)) ∧ (decode cX12_row 133 = .ok (.iadd, 1)) ∧ (decode cX12_row 134 = .ok (.baload, 1)) ∧ (decode cX12_row 135 = .ok (.ifCond .ne 7, 3)) ∧ (decode cX12_row 138 = .ok (.iconst 1, 1)) ∧ (decode cX12_row 139 = .ok (.goto 4, 3)) ∧ (decode cX12_row 142 = .ok (.iconst 0, 1)) ∧ (decode cX12_row 143 = .ok (.istore 4, 2)) ∧ (decode cX12_row 145 = .ok (.iload 4, 2)) := by decide +kernel
theorem dX12_row_131 : decode cX12_row 131 = .ok (.iload_n 3, 1) := dX12_row_131g.1
theorem dX12_row_132 : decode cX12_row 132 = .ok (.baload, 1) := dX12_row_131g.2.1
theorem dX12_row_133 : decode cX12_row 133 = .ok (.iadd, 1) := dX12_row_131g.2.2.1
theorem dX12_row_134 : decode cX12_row 134 = .ok (.baload, 1) := dX12_row_131g.2.2.2.1
theorem dX12_row_135 : decode cX12_row 135 = .ok (.ifCond .ne 7, 3) := dX12_row_131g.2.2.2.2.1
theorem dX12_row_138 : decode cX12_row 138 = .ok (.iconst 1, 1) := dX12_row_131g.2.2.2.2.2.1
theorem dX12_row_139 : decode cX12_row 139 = .ok (.goto 4, 3) := dX12_row_131g.2.2.2.2.2.2.1
theorem dX12_row_142 : decode cX12_row 142 = .ok (.iconst 0, 1) := dX12_row_131g.2.2.2.2.2.2.2.1
theorem dX12_row_143 : decode cX12_row 143 = .ok (.istore 4, 2) := dX12_row_131g.2.2.2.2.2.2.2.2.1
theorem dX12_row_145 : decode cX12_row 145 = .ok (.iload 4, 2) := dX12_row_131g.2.2.2.2.2.2.2.2.2
theorem dX12_row_147g : (decode cX12_row 147 = .ok (.ifCond .eq 45, 3)) ∧ (decode cX12_row 150 = .ok (.aload_n 0, 1)) ∧ (decode cX12_row 151 = .ok (.sipush 160, 3)) ∧ (decode cX12_row 154 = .ok (.sipush 311, 3)) ∧ (decode cX12_row 157 = .ok (.iconst 4, 1)) ∧ (decode cX12_row 158 = .ok (.aload_n 0, 1)) ∧ (decode cX12_row 159 = .ok (.getfield 34, 3)) ∧ (decode cX12_row 162 = .ok (.iload_n 3, 1)) ∧ (decode cX12_row 163 = .ok (.baload, 1)) ∧ (decode cX12_row 164 = .ok (.aload_n 0, 1)) := by decide +kernel
theorem dX12_row_147 : decode cX12_row 147 = .ok (.ifCond .eq 45, 3) := dX12_row_147g.1
theorem dX12_row_150 : decode cX12_row 150 = .ok (.aload_n 0, 1) := dX12_row_147g.2.1
theorem dX12_row_151 : decode cX12_row 151 = .ok (.sipush 160, 3) := dX12_row_147g.2.2.1
theorem dX12_row_154 : decode cX12_row 154 = .ok (.sipush 311, 3) := dX12_row_147g.2.2.2.1
theorem dX12_row_157 : decode cX12_row 157 = .ok (.iconst 4, 1) := dX12_row_147g.2.2.2.2.1
theorem dX12_row_158 : decode cX12_row 158 = .ok (.aload_n 0, 1) := dX12_row_147g.2.2.2.2.2.1
theorem dX12_row_159 : decode cX12_row 159 = .ok (.getfield 34, 3) := dX12_row_147g.2.2.2.2.2.2.1
theorem dX12_row_162 : decode cX12_row 162 = .ok (.iload_n 3, 1) := dX12_row_147g.2.2.2.2.2.2.2.1
theorem dX12_row_163 : decode cX12_row 163 = .ok (.baload, 1) := dX12_row_147g.2.2.2.2.2.2.2.2.1
theorem dX12_row_164 : decode cX12_row 164 = .ok (.aload_n 0, 1) := dX12_row_147g.2.2.2.2.2.2.2.2.2
theorem dX12_row_165g : (decode cX12_row 165 = .ok (.getfield 34, 3)) ∧ (decode cX12_row 168 = .ok (.iload_n 3, 1)) ∧ (decode cX12_row 169 = .ok (.iconst 1, 1)) ∧ (decode cX12_row 170 = .ok (.iadd, 1)) ∧ (decode cX12_row 171 = .ok (.baload, 1)) ∧ (decode cX12_row 172 = .ok (.aload_n 0, 1)) ∧ (decode cX12_row 173 = .ok (.getfield 34, 3)) ∧ (decode cX12_row 176 = .ok (.iload_n 3, 1)) ∧ (decode cX12_row 177 = .ok (.iconst 2, 1)) ∧ (decode cX12_row 178 = .ok (.iadd, 1)) := by decide +kernel
theorem dX12_row_165 : decode cX12_row 165 = .ok (.getfield 34, 3) := dX12_row_165g.1
theorem dX12_row_168 : decode cX12_row 168 = .ok (.iload_n 3, 1) := dX12_row_165g.2.1
theorem dX12_row_169 : decode cX12_row 169 = .ok (.iconst 1, 1) := dX12_row_165g.2.2.1
theorem dX12_row_170 : decode cX12_row 170 = .ok (.iadd, 1) := dX12_row_165g.2.2.2.1
theorem dX12_row_171 : decode cX12_row 171 = .ok (.baload, 1) := dX12_row_165g.2.2.2.2.1
theorem dX12_row_172 : decode cX12_row 172 = .ok (.aload_n 0, 1) := dX12_row_165g.2.2.2.2.2.1
theorem dX12_row_173 : decode cX12_row 173 = .ok (.getfield 34, 3) := dX12_row_165g.2.2.2.2.2.2.1
theorem dX12_row_176 : decode cX12_row 176 = .ok (.iload_n 3, 1) := dX12_row_165g.2.2.2.2.2.2.2.1
theorem dX12_row_177 : decode cX12_row 177 = .ok (.iconst 2, 1) := dX12_row_165g.2.2.2.2.2.2.2.2.1
theorem dX12_row_178 : decode cX12_row 178 = .ok (.iadd, 1) := dX12_row_165g.2.2.2.2.2.2.2.2.2
theorem dX12_row_179g : (decode cX12_row 179 = .ok (.baload, 1)) ∧ (decode cX12_row 180 = .ok (.aload_n 0, 1)) ∧ (decode cX12_row 181 = .ok (.getfield 34, 3)) ∧ (decode cX12_row 184 = .ok (.iload_n 3, 1)) ∧ (decode cX12_row 185 = .ok (.iconst 3, 1)) ∧ (decode cX12_row 186 = .ok (.iadd, 1)) ∧ (decode cX12_row 187 = .ok (.baload, 1)) ∧ (decode cX12_row 188 = .ok (.invokevirtual 125, 3)) ∧ (decode cX12_row 191 = .ok (.pop, 1)) ∧ (decode cX12_row 192 = .ok (.iload_n 2, 1)) := by decide +kernel
theorem dX12_row_179 : decode cX12_row 179 = .ok (.baload, 1) := dX12_row_179g.1
theorem dX12_row_180 : decode cX12_row 180 = .ok (.aload_n 0, 1) := dX12_row_179g.2.1
theorem dX12_row_181 : decode cX12_row 181 = .ok (.getfield 34, 3) := dX12_row_179g.2.2.1
theorem dX12_row_184 : decode cX12_row 184 = .ok (.iload_n 3, 1) := dX12_row_179g.2.2.2.1
theorem dX12_row_185 : decode cX12_row 185 = .ok (.iconst 3, 1) := dX12_row_179g.2.2.2.2.1
theorem dX12_row_186 : decode cX12_row 186 = .ok (.iadd, 1) := dX12_row_179g.2.2.2.2.2.1
theorem dX12_row_187 : decode cX12_row 187 = .ok (.baload, 1) := dX12_row_179g.2.2.2.2.2.2.1
theorem dX12_row_188 : decode cX12_row 188 = .ok (.invokevirtual 125, 3) := dX12_row_179g.2.2.2.2.2.2.2.1
theorem dX12_row_191 : decode cX12_row 191 = .ok (.pop, 1) := dX12_row_179g.2.2.2.2.2.2.2.2.1
theorem dX12_row_192 : decode cX12_row 192 = .ok (.iload_n 2, 1) := dX12_row_179g.2.2.2.2.2.2.2.2.2
theorem dX12_row_193g : (decode cX12_row 193 = .ok (.iload 4, 2)) ∧ (decode cX12_row 195 = .ok (.ifCond .eq 7, 3)) ∧ (decode cX12_row 198 = .ok (.iconst 1, 1)) ∧ (decode cX12_row 199 = .ok (.goto 4, 3)) ∧ (decode cX12_row 202 = .ok (.iconst 0, 1)) ∧ (decode cX12_row 203 = .ok (.iadd, 1)) ∧ (decode cX12_row 204 = .ok (.istore_n 2, 1)) ∧ (decode cX12_row 205 = .ok (.aload_n 0, 1)) ∧ (decode cX12_row 206 = .ok (.dup, 1)) ∧ (decode cX12_row 207 = .ok (.getfield 135, 3)) := by decide +kernel
theorem dX12_row_193 : decode cX12_row 193 = .ok (.iload 4, 2) := dX12_row_193g.1
theorem dX12_row_195 : decode cX12_row 195 = .ok (.ifCond .eq 7, 3) := dX12_row_193g.2.1
theorem dX12_row_198 : decode cX12_row 198 = .ok (.iconst 1, 1) := dX12_row_193g.2.2.1
theorem dX12_row_199 : decode cX12_row 199 = .ok (.goto 4, 3) := dX12_row_193g.2.2.2.1
theorem dX12_row_202 : decode cX12_row 202 = .ok (.iconst 0, 1) := dX12_row_193g.2.2.2.2.1
theorem dX12_row_203 : decode cX12_row 203 = .ok (.iadd, 1) := dX12_row_193g.2.2.2.2.2.1
theorem dX12_row_204 : decode cX12_row 204 = .ok (.istore_n 2, 1) := dX12_row_193g.2.2.2.2.2.2.1
theorem dX12_row_205 : decode cX12_row 205 = .ok (.aload_n 0, 1) := dX12_row_193g.2.2.2.2.2.2.2.1
theorem dX12_row_206 : decode cX12_row 206 = .ok (.dup, 1) := dX12_row_193g.2.2.2.2.2.2.2.2.1
theorem dX12_row_207 : decode cX12_row 207 = .ok (.getfield 135, 3) := dX12_row_193g.2.2.2.2.2.2.2.2.2
theorem dX12_row_210g : (decode cX12_row 210 = .ok (.iload 4, 2)) ∧ (decode cX12_row 212 = .ok (.ifCond .eq 7, 3)) ∧ (decode cX12_row 215 = .ok (.iconst 0, 1)) ∧ (decode cX12_row 216 = .ok (.goto 4, 3)) ∧ (decode cX12_row 219 = .ok (.iconst 1, 1)) ∧ (decode cX12_row 220 = .ok (.iadd, 1)) ∧ (decode cX12_row 221 = .ok (.putfield 135, 3)) ∧ (decode cX12_row 224 = .ok (.iinc 3 4, 3)) ∧ (decode cX12_row 227 = .ok (.goto (-183), 3)) ∧ (decode cX12_row 230 = .ok (.aload_n 0, 1)) := by decide +kernel
theorem dX12_row_210 : decode cX12_row 210 = .ok (.iload 4, 2) := dX12_row_210g.1
theorem dX12_row_212 : decode cX12_row 212 = .ok (.ifCond .eq 7, 3) := dX12_row_210g.2.1
theorem dX12_row_215 : decode cX12_row 215 = .ok (.iconst 0, 1) := dX12_row_210g.2.2.1
theorem dX12_row_216 : decode cX12_row 216 = .ok (.goto 4, 3) := dX12_row_210g.2.2.2.1
theorem dX12_row_219 : decode cX12_row 219 = .ok (.iconst 1, 1) := dX12_row_210g.2.2.2.2.1
theorem dX12_row_220 : decode cX12_row 220 = .ok (.iadd, 1) := dX12_row_210g.2.2.2.2.2.1
theorem dX12_row_221 : decode cX12_row 221 = .ok (.putfield 135, 3) := dX12_row_210g.2.2.2.2.2.2.1
theorem dX12_row_224 : decode cX12_row 224 = .ok (.iinc 3 4, 3) := dX12_row_210g.2.2.2.2.2.2.2.1
theorem dX12_row_227 : decode cX12_row 227 = .ok (.goto (-183), 3) := dX12_row_210g.2.2.2.2.2.2.2.2.1
theorem dX12_row_230 : decode cX12_row 230 = .ok (.aload_n 0, 1) := dX12_row_210g.2.2.2.2.2.2.2.2.2
theorem dX12_row_231g : (decode cX12_row 231 = .ok (.iload_n 2, 1)) ∧ (decode cX12_row 232 = .ok (.invokevirtual 111, 3)) ∧ (decode cX12_row 235 = .ok (.ireturn, 1)) := by decide +kernel
theorem dX12_row_231 : decode cX12_row 231 = .ok (.iload_n 2, 1) := dX12_row_231g.1
theorem dX12_row_232 : decode cX12_row 232 = .ok (.invokevirtual 111, 3) := dX12_row_231g.2.1
theorem dX12_row_235 : decode cX12_row 235 = .ok (.ireturn, 1) := dX12_row_231g.2.2
set_option maxHeartbeats 4000000 in
set_option maxRecDepth 100000 in
theorem c_X12_row (l : Launch) (E : Nat → Nat) (D : va_G) (G : th_G) (h0 : Nat) (hG0 : G h0 = some (10, 0)) : Met l yX12_row (tb (.code yX12_row cX12_row 5 (some .int))) (rm 69) (va_Pc [.ref h0] (PX E D G (fun H => True))) (QXi E D G (fun r H => True)) 0 0 (th_A G) := by
  refine Met.ofW (cc := cX12_row) (maxL := 5) (ret := (some .int)) (by decide) rfl ?_
  intro p e s m args below meth c s₁ B hml hv
  obtain ⟨hav, ⟨hI, hN, hK⟩, hX⟩ := hv
  have hx := B.exec
  have hb := B.bytes
  have hr := B.returns
  have hts := atoms_spec (ws := tb (.code yX12_row cX12_row 5 (some .int))) B.pre
  have hown : s.vm.findClass RX12 = some m.cls := findClass_of_methodNamed B.named
  have hlocks := B.notSynchronized
  have hS : va_S (th_A G) s.heap s.heap [] := va_S.rf
  have hl := lv_entry ([.ref h0]) (n := 5) (Nat.le_of_ble_eq_true rfl)
  rw [show entryFrame m args 5 = entryFrame m ([.ref h0] : List Value).toArray 5 from by rw [hav], lg_entry_eq]
  generalize (lg_sl ([.ref h0]) ++ List.replicate (5 - (lg_sl ([.ref h0])).length) Slot.unset).toArray = ls at hl ⊢
  have hl : lv_has ls 5 [(0, .ref h0)] := hl
  generalize hR : (headSpec (tb (.code yX12_row cX12_row 5 (some .int))) (rm 69)).room = R
  have hR := hR.symm
  generalize hQ : MQ below (QXi E D G (fun r H => True)) args s 0 0 (th_A G) = QF
  have hQ := hQ.symm
  have J_44 : ∀ (nn : Nat) (H : Heap) (locs : List Loc) (ls : Array Slot) (v5907 : Int32) (v5908 : Int32) (v5909 : Int32) , (Int.toNat (400 - v5907.toInt) = nn) → lv_has ls 5 [(3, .int v5907), (2, .int v5908), (1, .int v5909), (0, .ref h0)] → ((0 : Int) ≤ v5907.toInt ∧ v5907.toInt ≤ 400) → ((1 : Int) ≤ v5909.toInt ∧ v5909.toInt ≤ 400) → th_I (okM E) D G [] H → va_S (th_A G) s.heap H locs → W p l e R s m args below meth c H locs 0 0 QF (F0 m 44 ls []) := by
    intro nn
    induction nn using Nat.strongRecOn with
    | ind nn ih_44 =>
      intro H locs ls v5907 v5908 v5909  hm hl k5910 k5911 hI hS
      refine lv_iload_n hx hb dX12_row_44 rfl (lv_at hl 0 rfl) ?_
      refine lv_iconst (v := 4) hx hb dX12_row_45 (by decide) ?_
      refine lv_iadd hx hb dX12_row_46 ?_
      refine lv_topi (fun v5912 e5913 => ?_)
      have tv5912 : v5912.toInt = v5907.toInt + (4) := iv_add rfl (by decide) e5913 (by omega) (by omega)
      refine lv_iload_n hx hb dX12_row_47 rfl (lv_at hl 2 rfl) ?_
      refine lv_icmp_gt (tgt := 230) hx hb dX12_row_48 (by decide) (fun c5914 => ?_) (fun c5914 => ?_)
      · skip
        have k5915 := iv_lt (X := v5909.toInt) (Y := v5912.toInt) rfl rfl c5914
        refine lv_aload_n hx hb dX12_row_230 rfl (lv_at hl 3 rfl) ?_
        refine lv_iload_n hx hb dX12_row_231 rfl (lv_at hl 1 rfl) ?_
        refine mx_i (As := [.int v5908]) (rest := []) (n := 1) (d := 0) ⟨hx, hb, hml, hown, hts⟩ (c_X12_good l E D G h0 hG0 v5908) wd_1402 wd_1404 wp_41 wd_13 wd_1405 (by decide +kernel) ⟨by rw [hR]; exact Nat.le_of_ble_eq_true rfl, by rw [hR]; exact Nat.le_of_ble_eq_true rfl⟩ hI hN hK hS hG0 (trivial) rfl hl.1 rfl (Nat.le_of_ble_eq_true rfl) dX12_row_232 ⟨Nat.zero_le _, Nat.zero_le _⟩ (fun r5916 H locs hI hp hS => ?_)
        obtain rfl := hp.symm
        have hpost : True := trivial
        rw [hQ]
        exact W.iret (v := v5908) hx hb hr (fun t ht hW => ⟨⟨v5908, v5908, rfl, rfl, ⟨by rw [ht]; exact hI, hN.warm hW, va_K.moved hW.alike hK⟩, by first | (rw [ht]; exact hpost) | exact hpost⟩, hS.F ht⟩) hS.2.2 dX12_row_235
      · skip
        have k5917 := iv_nlt (X := v5909.toInt) (Y := v5912.toInt) rfl rfl c5914
        refine lv_aload_n hx hb dX12_row_51 rfl (lv_at hl 3 rfl) ?_
        refine gmA hx hb hts inT12 hown hK hI List.not_mem_nil hG0 3 (by decide) (hts _ (tb_c wd_1236)) rfl rfl dX12_row_52 (fun a5918 hq5919 hf5920 => ?_)
        refine lv_sipush (v := 311) hx hb dX12_row_55 (by decide) ?_
        obtain ⟨F5921, hA5922, hP5923⟩ := om_1 hI hq5919 List.not_mem_nil
        refine th_iald hx hb hK hA5922 0 rfl (iv_in (X := (311)) (by decide) (by omega) (by omega)) dX12_row_58 (fun v5924 e5925 => ?_)
        have k5926 := kg_m311 (kOk.get (i := 311) hP5923 e5925 (X := (311)) (by decide) (by omega) (by omega)) (by omega) (by omega) (by omega)
        refine lv_bipush (v := 16) hx hb dX12_row_59 (by decide) ?_
        refine lv_icmp_ge (tgt := 104) hx hb dX12_row_61 (by decide) (fun c5927 => ?_) (fun c5927 => ?_)
        · skip
          have k5928 := iv_le (X := (16)) (Y := v5924.toInt) (by decide) rfl c5927
          refine lv_iconst (v := 0) hx hb dX12_row_104 (by decide) ?_
          refine lv_istore (lv' := [(4, .int 0), (3, .int v5907), (2, .int v5908), (1, .int v5909), (0, .ref h0)]) hx hb dX12_row_105 hl (by decide) rfl (fun ls hl => ?_)
          refine lv_iload hx hb dX12_row_107 (lv_at hl 0 rfl) ?_
          refine lv_if_eq (tgt := 142) hx hb dX12_row_109 (by decide) (fun _ => ?_) (fun c => absurd c (by decide))
          refine lv_iconst (v := 0) hx hb dX12_row_142 (by decide) ?_
          refine lv_istore (lv' := [(4, .int 0), (3, .int v5907), (2, .int v5908), (1, .int v5909), (0, .ref h0)]) hx hb dX12_row_143 hl (by decide) rfl (fun ls hl => ?_)
          refine lv_iload hx hb dX12_row_145 (lv_at hl 0 rfl) ?_
          refine lv_if_eq (tgt := 192) hx hb dX12_row_147 (by decide) (fun _ => ?_) (fun c => absurd c (by decide))
          refine lv_iload_n hx hb dX12_row_192 rfl (lv_at hl 2 rfl) ?_
          refine lv_iload hx hb dX12_row_193 (lv_at hl 0 rfl) ?_
          refine lv_if_eq (tgt := 202) hx hb dX12_row_195 (by decide) (fun _ => ?_) (fun c => absurd c (by decide))
          refine lv_iconst (v := 0) hx hb dX12_row_202 (by decide) ?_
          refine lv_iadd hx hb dX12_row_203 ?_
          refine lv_topi (fun v5929 e5930 => ?_)
          have k5931 := iv_lo v5908
          have k5932 := iv_hi v5908
          have tv5929 : v5929.toInt = v5908.toInt + (0) := iv_add rfl (by decide) e5930 (by omega) (by omega)
          refine lv_istore_n (lv' := [(2, .int v5929), (4, .int 0), (3, .int v5907), (1, .int v5909), (0, .ref h0)]) hx hb dX12_row_204 rfl hl (by decide) rfl (fun ls hl => ?_)
          refine lv_aload_n hx hb dX12_row_205 rfl (lv_at hl 4 rfl) ?_
          refine lv_dup hx hb dX12_row_206 rfl ?_
          refine gmI hx hb hts inT12 hown hK hI List.not_mem_nil hG0 6 (by decide) (hts _ (tb_c wd_1239)) rfl rfl dX12_row_207 (fun w5933 hg5934 k5935 k5936 => ?_)
          refine lv_iload hx hb dX12_row_210 (lv_at hl 1 rfl) ?_
          refine lv_if_eq (tgt := 219) hx hb dX12_row_212 (by decide) (fun _ => ?_) (fun c => absurd c (by decide))
          refine lv_iconst (v := 1) hx hb dX12_row_219 (by decide) ?_
          refine lv_iadd hx hb dX12_row_220 ?_
          refine lv_topi (fun v5937 e5938 => ?_)
          try have tv5937 : v5937.toInt = w5933.toInt + (1) := iv_add rfl (by decide) e5938 (by omega) (by omega)
          have k5939 := iv_lo v5937
          have k5940 := iv_hi v5937
          refine pmI (ty := .int) hx hb hts inT12 hown hK hI List.not_mem_nil hG0 hS ⟨_, hG0⟩ 6 (by decide) (hts _ (tb_c wd_1239)) rfl rfl (by decide +kernel) rfl rfl rfl (by omega) (by omega) dX12_row_221 (fun H locs hI hgP hS => ?_)
          have hg5941 := hgP.2.1
          have hf5920 := hgP.2.2.2 3 _ (by decide) (by decide) hf5920
          have hA5922 := va_at.kept hA5922 (hgP.1 _ (m_ne hq5919 hG0 (by first | decide | (dsimp only; decide))))
          obtain ⟨v5942, e5943⟩ : ∃ y : Int32, y = v5907 + (4) := ⟨_, rfl⟩
          have tv5942 : v5942.toInt = v5907.toInt + (4) := iv_add rfl (by decide) e5943 (by omega) (by omega)
          refine lv_iinc (v := v5942) (lv' := [(3, .int v5942), (2, .int v5929), (4, .int 0), (1, .int v5909), (0, .ref h0)]) hx hb dX12_row_224 hl (k := 2) rfl (by rw [e5943]; rfl) (by decide) rfl (fun ls hl => ?_)
          refine lv_goto (tgt := 44) hx hb dX12_row_227 (by decide) ?_
          exact ih_44 _ (by omega) H locs ls v5942 v5929 v5909  rfl (lv_sub hl [0, 1, 3, 4] rfl) ⟨by omega, by omega⟩ ⟨by omega, by omega⟩ hI hS
        · skip
          have k5944 := iv_nle (X := (16)) (Y := v5924.toInt) (by decide) rfl c5927
          refine lv_aload_n hx hb dX12_row_64 rfl (lv_at hl 3 rfl) ?_
          refine gmA hx hb hts inT12 hown hK hI List.not_mem_nil hG0 8 (by decide) (hts _ (tb_c wd_1241)) rfl rfl dX12_row_65 (fun a5945 hq5946 hf5947 => ?_)
          refine lv_iload_n hx hb dX12_row_68 rfl (lv_at hl 0 rfl) ?_
          obtain ⟨F5948, hA5949⟩ := om_4 hI hq5946 List.not_mem_nil
          refine va_bald hx hb hK (th_one hA5949) 0 3 rfl rfl (iv_in (X := v5907.toInt) rfl (by omega) (by omega)) dX12_row_69 ?_
          refine lv_topi (fun v5950 e5951 => ?_)
          refine lv_aload_n hx hb dX12_row_70 rfl (lv_at hl 3 rfl) ?_
          refine gmA hx hb hts inT12 hown hK hI List.not_mem_nil hG0 8 (by decide) (hts _ (tb_c wd_1241)) rfl rfl dX12_row_71 (fun a5952 hq5953 hf5954 => ?_)
          obtain rfl := fr.uniq (by decide) hf5947 hf5954
          refine lv_iload_n hx hb dX12_row_74 rfl (lv_at hl 0 rfl) ?_
          refine lv_iconst (v := 1) hx hb dX12_row_75 (by decide) ?_
          refine lv_iadd hx hb dX12_row_76 ?_
          refine lv_topi (fun v5955 e5956 => ?_)
          have tv5955 : v5955.toInt = v5907.toInt + (1) := iv_add rfl (by decide) e5956 (by omega) (by omega)
          refine va_bald hx hb hK (th_one hA5949) 0 3 rfl rfl (iv_in (X := v5955.toInt) rfl (by omega) (by omega)) dX12_row_77 ?_
          refine lv_topi (fun v5957 e5958 => ?_)
          refine lv_aload_n hx hb dX12_row_78 rfl (lv_at hl 3 rfl) ?_
          refine gmA hx hb hts inT12 hown hK hI List.not_mem_nil hG0 8 (by decide) (hts _ (tb_c wd_1241)) rfl rfl dX12_row_79 (fun a5959 hq5960 hf5961 => ?_)
          obtain rfl := fr.uniq (by decide) hf5947 hf5961
          refine lv_iload_n hx hb dX12_row_82 rfl (lv_at hl 0 rfl) ?_
          refine lv_iconst (v := 2) hx hb dX12_row_83 (by decide) ?_
          refine lv_iadd hx hb dX12_row_84 ?_
          refine lv_topi (fun v5962 e5963 => ?_)
          have tv5962 : v5962.toInt = v5907.toInt + (2) := iv_add rfl (by decide) e5963 (by omega) (by omega)
          refine va_bald hx hb hK (th_one hA5949) 0 3 rfl rfl (iv_in (X := v5962.toInt) rfl (by omega) (by omega)) dX12_row_85 ?_
          refine lv_topi (fun v5964 e5965 => ?_)
          refine lv_aload_n hx hb dX12_row_86 rfl (lv_at hl 3 rfl) ?_
          refine gmA hx hb hts inT12 hown hK hI List.not_mem_nil hG0 8 (by decide) (hts _ (tb_c wd_1241)) rfl rfl dX12_row_87 (fun a5966 hq5967 hf5968 => ?_)
          obtain rfl := fr.uniq (by decide) hf5947 hf5968
          refine lv_iload_n hx hb dX12_row_90 rfl (lv_at hl 0 rfl) ?_
          refine lv_iconst (v := 3) hx hb dX12_row_91 (by decide) ?_
          refine lv_iadd hx hb dX12_row_92 ?_
          refine lv_topi (fun v5969 e5970 => ?_)
          have tv5969 : v5969.toInt = v5907.toInt + (3) := iv_add rfl (by decide) e5970 (by omega) (by omega)
          refine va_bald hx hb hK (th_one hA5949) 0 3 rfl rfl (iv_in (X := v5969.toInt) rfl (by omega) (by omega)) dX12_row_93 ?_
          refine lv_topi (fun v5971 e5972 => ?_)
          refine th_cSs (As := [.int v5950, .int v5957, .int v5964, .int v5971]) (rest := []) (n := 4) (d := 2) ⟨hx, hb, hml, hown, hts⟩ (c_X12_isPour l H v5950 v5957 v5964 v5971) wd_1542 wd_1543 wd_13 wd_1544 (by decide +kernel) ⟨by rw [hR]; exact Nat.le_of_ble_eq_true rfl, by rw [hR]; exact Nat.le_of_ble_eq_true rfl⟩ hN hS rfl hl.1 rfl (Nat.le_of_ble_eq_true rfl) dX12_row_94 ⟨Nat.zero_le _, Nat.zero_le _⟩ (fun r5973 locs hp hS => ?_)
          rcases hp with ⟨rfl, hp⟩ | ⟨rfl, hp⟩
          · skip
            try simp only [rg, not_and, Int.not_le] at hp
            have hp5974 := hp
            refine lv_if_eq (tgt := 104) hx hb dX12_row_97 (by decide) (fun c => absurd c (by decide)) (fun _ => ?_)
            refine lv_iconst (v := 1) hx hb dX12_row_100 (by decide) ?_
            refine lv_goto (tgt := 105) hx hb dX12_row_101 (by decide) ?_
            refine lv_istore (lv' := [(4, .int 1), (3, .int v5907), (2, .int v5908), (1, .int v5909), (0, .ref h0)]) hx hb dX12_row_105 hl (by decide) rfl (fun ls hl => ?_)
            refine lv_iload hx hb dX12_row_107 (lv_at hl 0 rfl) ?_
            refine lv_if_eq (tgt := 142) hx hb dX12_row_109 (by decide) (fun c => absurd c (by decide)) (fun _ => ?_)
            refine lv_aload_n hx hb dX12_row_112 rfl (lv_at hl 4 rfl) ?_
            refine gmA hx hb hts inT12 hown hK hI List.not_mem_nil hG0 26 (by decide) (hts _ (tb_c wd_1259)) rfl rfl dX12_row_113 (fun a5975 hq5976 hf5977 => ?_)
            refine lv_bipush (v := 24) hx hb dX12_row_116 (by decide) ?_
            refine lv_aload_n hx hb dX12_row_118 rfl (lv_at hl 4 rfl) ?_
            refine gmA hx hb hts inT12 hown hK hI List.not_mem_nil hG0 8 (by decide) (hts _ (tb_c wd_1241)) rfl rfl dX12_row_119 (fun a5978 hq5979 hf5980 => ?_)
            obtain rfl := fr.uniq (by decide) hf5947 hf5980
            refine lv_iload_n hx hb dX12_row_122 rfl (lv_at hl 1 rfl) ?_
            refine lv_iconst (v := 1) hx hb dX12_row_123 (by decide) ?_
            refine lv_iadd hx hb dX12_row_124 ?_
            refine lv_topi (fun v5981 e5982 => ?_)
            have tv5981 : v5981.toInt = v5907.toInt + (1) := iv_add rfl (by decide) e5982 (by omega) (by omega)
            refine va_bald hx hb hK (th_one hA5949) 0 3 rfl rfl (iv_in (X := v5981.toInt) rfl (by omega) (by omega)) dX12_row_125 ?_
            refine lv_topi (fun v5983 e5984 => ?_)
            obtain rfl := (rd_same (i := v5955) (j := v5981) e5958 e5984 (X := v5955.toInt) (Y := v5981.toInt) rfl rfl (by omega)).symm
            refine lv_imul hx hb dX12_row_126 ?_
            refine lv_topi (fun v5985 e5986 => ?_)
            have tv5985 : v5985.toInt = (24) * v5957.toInt := iv_mul (by decide) rfl e5986 (by omega) (by omega)
            refine lv_aload_n hx hb dX12_row_127 rfl (lv_at hl 4 rfl) ?_
            refine gmA hx hb hts inT12 hown hK hI List.not_mem_nil hG0 8 (by decide) (hts _ (tb_c wd_1241)) rfl rfl dX12_row_128 (fun a5987 hq5988 hf5989 => ?_)
            obtain rfl := fr.uniq (by decide) hf5947 hf5989
            refine lv_iload_n hx hb dX12_row_131 rfl (lv_at hl 1 rfl) ?_
            refine va_bald hx hb hK (th_one hA5949) 0 3 rfl rfl (iv_in (X := v5907.toInt) rfl (by omega) (by omega)) dX12_row_132 ?_
            refine lv_topi (fun v5990 e5991 => ?_)
            obtain rfl := (rd_same (i := v5907) (j := v5907) e5951 e5991 (X := v5907.toInt) (Y := v5907.toInt) rfl rfl (by omega)).symm
            refine lv_iadd hx hb dX12_row_133 ?_
            refine lv_topi (fun v5992 e5993 => ?_)
            have tv5992 : v5992.toInt = v5985.toInt + v5950.toInt := iv_add rfl rfl e5993 (by omega) (by omega)
            obtain ⟨F5994, hA5995⟩ := om_5 hI hq5976 List.not_mem_nil
            refine va_zald hx hb hK (th_one hA5995) 0 2 rfl rfl (iv_in (X := v5992.toInt) rfl (by omega) (by omega)) dX12_row_134 ?_
            refine lv_topi (fun v5996 e5997 => ?_)
            have k5998 := iv_lo v5996
            have k5999 := iv_hi v5996
            refine lv_if_ne (tgt := 142) hx hb dX12_row_135 (by decide) (fun c6000 => ?_) (fun c6000 => ?_)
            · skip
              have k6001 := iv_ne (X := v5996.toInt) (Y := (0)) rfl (by decide) c6000
              refine lv_iconst (v := 0) hx hb dX12_row_142 (by decide) ?_
              refine lv_istore (lv' := [(4, .int 0), (3, .int v5907), (2, .int v5908), (1, .int v5909), (0, .ref h0)]) hx hb dX12_row_143 hl (by decide) rfl (fun ls hl => ?_)
              refine lv_iload hx hb dX12_row_145 (lv_at hl 0 rfl) ?_
              refine lv_if_eq (tgt := 192) hx hb dX12_row_147 (by decide) (fun _ => ?_) (fun c => absurd c (by decide))
              refine lv_iload_n hx hb dX12_row_192 rfl (lv_at hl 2 rfl) ?_
              refine lv_iload hx hb dX12_row_193 (lv_at hl 0 rfl) ?_
              refine lv_if_eq (tgt := 202) hx hb dX12_row_195 (by decide) (fun _ => ?_) (fun c => absurd c (by decide))
              refine lv_iconst (v := 0) hx hb dX12_row_202 (by decide) ?_
              refine lv_iadd hx hb dX12_row_203 ?_
              refine lv_topi (fun v6002 e6003 => ?_)
              have k6004 := iv_lo v5908
              have k6005 := iv_hi v5908
              have tv6002 : v6002.toInt = v5908.toInt + (0) := iv_add rfl (by decide) e6003 (by omega) (by omega)
              refine lv_istore_n (lv' := [(2, .int v6002), (4, .int 0), (3, .int v5907), (1, .int v5909), (0, .ref h0)]) hx hb dX12_row_204 rfl hl (by decide) rfl (fun ls hl => ?_)
              refine lv_aload_n hx hb dX12_row_205 rfl (lv_at hl 4 rfl) ?_
              refine lv_dup hx hb dX12_row_206 rfl ?_
              refine gmI hx hb hts inT12 hown hK hI List.not_mem_nil hG0 6 (by decide) (hts _ (tb_c wd_1239)) rfl rfl dX12_row_207 (fun w6006 hg6007 k6008 k6009 => ?_)
              refine lv_iload hx hb dX12_row_210 (lv_at hl 1 rfl) ?_
              refine lv_if_eq (tgt := 219) hx hb dX12_row_212 (by decide) (fun _ => ?_) (fun c => absurd c (by decide))
              refine lv_iconst (v := 1) hx hb dX12_row_219 (by decide) ?_
              refine lv_iadd hx hb dX12_row_220 ?_
              refine lv_topi (fun v6010 e6011 => ?_)
              try have tv6010 : v6010.toInt = w6006.toInt + (1) := iv_add rfl (by decide) e6011 (by omega) (by omega)
              have k6012 := iv_lo v6010
              have k6013 := iv_hi v6010
              refine pmI (ty := .int) hx hb hts inT12 hown hK hI List.not_mem_nil hG0 hS ⟨_, hG0⟩ 6 (by decide) (hts _ (tb_c wd_1239)) rfl rfl (by decide +kernel) rfl rfl rfl (by omega) (by omega) dX12_row_221 (fun H locs hI hgP hS => ?_)
              have hg6014 := hgP.2.1
              have hf5920 := hgP.2.2.2 3 _ (by decide) (by decide) hf5920
              have hf5947 := hgP.2.2.2 8 _ (by decide) (by decide) hf5947
              have hf5977 := hgP.2.2.2 26 _ (by decide) (by decide) hf5977
              have hA5922 := va_at.kept hA5922 (hgP.1 _ (m_ne hq5919 hG0 (by first | decide | (dsimp only; decide))))
              have hA5949 := va_at.kept hA5949 (hgP.1 _ (m_ne hq5946 hG0 (by first | decide | (dsimp only; decide))))
              have hA5995 := va_at.kept hA5995 (hgP.1 _ (m_ne hq5976 hG0 (by first | decide | (dsimp only; decide))))
              obtain ⟨v6015, e6016⟩ : ∃ y : Int32, y = v5907 + (4) := ⟨_, rfl⟩
              have tv6015 : v6015.toInt = v5907.toInt + (4) := iv_add rfl (by decide) e6016 (by omega) (by omega)
              refine lv_iinc (v := v6015) (lv' := [(3, .int v6015), (2, .int v6002), (4, .int 0), (1, .int v5909), (0, .ref h0)]) hx hb dX12_row_224 hl (k := 2) rfl (by rw [e6016]; rfl) (by decide) rfl (fun ls hl => ?_)
              refine lv_goto (tgt := 44) hx hb dX12_row_227 (by decide) ?_
              exact ih_44 _ (by omega) H locs ls v6015 v6002 v5909  rfl (lv_sub hl [0, 1, 3, 4] rfl) ⟨by omega, by omega⟩ ⟨by omega, by omega⟩ hI hS
            · skip
              have k6017 := iv_eq (X := v5996.toInt) (Y := (0)) rfl (by decide) c6000
              refine lv_iconst (v := 1) hx hb dX12_row_138 (by decide) ?_
              refine lv_goto (tgt := 143) hx hb dX12_row_139 (by decide) ?_
              refine lv_istore (lv' := [(4, .int 1), (3, .int v5907), (2, .int v5908), (1, .int v5909), (0, .ref h0)]) hx hb dX12_row_143 hl (by decide) rfl (fun ls hl => ?_)
              refine lv_iload hx hb dX12_row_145 (lv_at hl 0 rfl) ?_
              refine lv_if_eq (tgt := 192) hx hb dX12_row_147 (by decide) (fun c => absurd c (by decide)) (fun _ => ?_)
              refine lv_aload_n hx hb dX12_row_150 rfl (lv_at hl 4 rfl) ?_
              refine lv_sipush (v := 160) hx hb dX12_row_151 (by decide) ?_
              refine lv_sipush (v := 311) hx hb dX12_row_154 (by decide) ?_
              refine lv_iconst (v := 4) hx hb dX12_row_157 (by decide) ?_
              refine lv_aload_n hx hb dX12_row_158 rfl (lv_at hl 4 rfl) ?_
              refine gmA hx hb hts inT12 hown hK hI List.not_mem_nil hG0 8 (by decide) (hts _ (tb_c wd_1241)) rfl rfl dX12_row_159 (fun a6018 hq6019 hf6020 => ?_)
              obtain rfl := fr.uniq (by decide) hf5947 hf6020
              refine lv_iload_n hx hb dX12_row_162 rfl (lv_at hl 1 rfl) ?_
              refine va_bald hx hb hK (th_one hA5949) 0 3 rfl rfl (iv_in (X := v5907.toInt) rfl (by omega) (by omega)) dX12_row_163 ?_
              refine lv_topi (fun v6021 e6022 => ?_)
              obtain rfl := (rd_same (i := v5907) (j := v5907) e5951 e6022 (X := v5907.toInt) (Y := v5907.toInt) rfl rfl (by omega)).symm
              refine lv_aload_n hx hb dX12_row_164 rfl (lv_at hl 4 rfl) ?_
              refine gmA hx hb hts inT12 hown hK hI List.not_mem_nil hG0 8 (by decide) (hts _ (tb_c wd_1241)) rfl rfl dX12_row_165 (fun a6023 hq6024 hf6025 => ?_)
              obtain rfl := fr.uniq (by decide) hf5947 hf6025
              refine lv_iload_n hx hb dX12_row_168 rfl (lv_at hl 1 rfl) ?_
              refine lv_iconst (v := 1) hx hb dX12_row_169 (by decide) ?_
              refine lv_iadd hx hb dX12_row_170 ?_
              refine lv_topi (fun v6026 e6027 => ?_)
              have tv6026 : v6026.toInt = v5907.toInt + (1) := iv_add rfl (by decide) e6027 (by omega) (by omega)
              refine va_bald hx hb hK (th_one hA5949) 0 3 rfl rfl (iv_in (X := v6026.toInt) rfl (by omega) (by omega)) dX12_row_171 ?_
              refine lv_topi (fun v6028 e6029 => ?_)
              obtain rfl := (rd_same (i := v5955) (j := v6026) e5958 e6029 (X := v5955.toInt) (Y := v6026.toInt) rfl rfl (by omega)).symm
              refine lv_aload_n hx hb dX12_row_172 rfl (lv_at hl 4 rfl) ?_
              refine gmA hx hb hts inT12 hown hK hI List.not_mem_nil hG0 8 (by decide) (hts _ (tb_c wd_1241)) rfl rfl dX12_row_173 (fun a6030 hq6031 hf6032 => ?_)
              obtain rfl := fr.uniq (by decide) hf5947 hf6032
              refine lv_iload_n hx hb dX12_row_176 rfl (lv_at hl 1 rfl) ?_
              refine lv_iconst (v := 2) hx hb dX12_row_177 (by decide) ?_
              refine lv_iadd hx hb dX12_row_178 ?_
              refine lv_topi (fun v6033 e6034 => ?_)
              have tv6033 : v6033.toInt = v5907.toInt + (2) := iv_add rfl (by decide) e6034 (by omega) (by omega)
              refine va_bald hx hb hK (th_one hA5949) 0 3 rfl rfl (iv_in (X := v6033.toInt) rfl (by omega) (by omega)) dX12_row_179 ?_
              refine lv_topi (fun v6035 e6036 => ?_)
              obtain rfl := (rd_same (i := v5962) (j := v6033) e5965 e6036 (X := v5962.toInt) (Y := v6033.toInt) rfl rfl (by omega)).symm
              refine lv_aload_n hx hb dX12_row_180 rfl (lv_at hl 4 rfl) ?_
              refine gmA hx hb hts inT12 hown hK hI List.not_mem_nil hG0 8 (by decide) (hts _ (tb_c wd_1241)) rfl rfl dX12_row_181 (fun a6037 hq6038 hf6039 => ?_)
              obtain rfl := fr.uniq (by decide) hf5947 hf6039
              refine lv_iload_n hx hb dX12_row_184 rfl (lv_at hl 1 rfl) ?_
              refine lv_iconst (v := 3) hx hb dX12_row_185 (by decide) ?_
              refine lv_iadd hx hb dX12_row_186 ?_
              refine lv_topi (fun v6040 e6041 => ?_)
              have tv6040 : v6040.toInt = v5907.toInt + (3) := iv_add rfl (by decide) e6041 (by omega) (by omega)
              refine va_bald hx hb hK (th_one hA5949) 0 3 rfl rfl (iv_in (X := v6040.toInt) rfl (by omega) (by omega)) dX12_row_187 ?_
              refine lv_topi (fun v6042 e6043 => ?_)
              obtain rfl := (rd_same (i := v5969) (j := v6040) e5972 e6043 (X := v5969.toInt) (Y := v6040.toInt) rfl rfl (by omega)).symm
              refine mx_i (As := [.int 160, .int 311, .int 4, .int v5950, .int v5957, .int v5964, .int v5971]) (rest := []) (n := 7) (d := 0) ⟨hx, hb, hml, hown, hts⟩ (c_X12_comesBehind_311 l E D G h0 hG0 v5950 v5957 v5964 v5971 ⟨by omega, by omega⟩ ⟨by omega, by omega⟩ F5921 hP5923 (lt_of_rd e5925 rfl (by omega))) wd_1435 wd_1437 wp_42 wd_13 wd_1438 (by decide +kernel) ⟨by rw [hR]; exact Nat.le_of_ble_eq_true rfl, by rw [hR]; exact Nat.le_of_ble_eq_true rfl⟩ hI hN hK hS hG0 (⟨a5918, hf5920, hq5919, hA5922⟩) rfl hl.1 rfl (Nat.le_of_ble_eq_true rfl) dX12_row_188 ⟨Nat.zero_le _, Nat.zero_le _⟩ (fun r6044 H locs hI hp hS => ?_)
              refine lv_pop hx hb dX12_row_191 rfl ?_
              refine lv_iload_n hx hb dX12_row_192 rfl (lv_at hl 2 rfl) ?_
              refine lv_iload hx hb dX12_row_193 (lv_at hl 0 rfl) ?_
              refine lv_if_eq (tgt := 202) hx hb dX12_row_195 (by decide) (fun c => absurd c (by decide)) (fun _ => ?_)
              refine lv_iconst (v := 1) hx hb dX12_row_198 (by decide) ?_
              refine lv_goto (tgt := 203) hx hb dX12_row_199 (by decide) ?_
              refine lv_iadd hx hb dX12_row_203 ?_
              refine lv_topi (fun v6045 e6046 => ?_)
              try have tv6045 : v6045.toInt = v5908.toInt + (1) := iv_add rfl (by decide) e6046 (by omega) (by omega)
              refine lv_istore_n (lv' := [(2, .int v6045), (4, .int 1), (3, .int v5907), (1, .int v5909), (0, .ref h0)]) hx hb dX12_row_204 rfl hl (by decide) rfl (fun ls hl => ?_)
              refine lv_aload_n hx hb dX12_row_205 rfl (lv_at hl 4 rfl) ?_
              refine lv_dup hx hb dX12_row_206 rfl ?_
              refine gmI hx hb hts inT12 hown hK hI List.not_mem_nil hG0 6 (by decide) (hts _ (tb_c wd_1239)) rfl rfl dX12_row_207 (fun w6047 hg6048 k6049 k6050 => ?_)
              refine lv_iload hx hb dX12_row_210 (lv_at hl 1 rfl) ?_
              refine lv_if_eq (tgt := 219) hx hb dX12_row_212 (by decide) (fun c => absurd c (by decide)) (fun _ => ?_)
              refine lv_iconst (v := 0) hx hb dX12_row_215 (by decide) ?_
              refine lv_goto (tgt := 220) hx hb dX12_row_216 (by decide) ?_
              refine lv_iadd hx hb dX12_row_220 ?_
              refine lv_topi (fun v6051 e6052 => ?_)
              have tv6051 : v6051.toInt = w6047.toInt + (0) := iv_add rfl (by decide) e6052 (by omega) (by omega)
              have k6053 := iv_lo v6051
              have k6054 := iv_hi v6051
              refine pmI (ty := .int) hx hb hts inT12 hown hK hI List.not_mem_nil hG0 hS ⟨_, hG0⟩ 6 (by decide) (hts _ (tb_c wd_1239)) rfl rfl (by decide +kernel) rfl rfl rfl (by omega) (by omega) dX12_row_221 (fun H locs hI hgP hS => ?_)
              have hg6055 := hgP.2.1
              obtain ⟨v6056, e6057⟩ : ∃ y : Int32, y = v5907 + (4) := ⟨_, rfl⟩
              have tv6056 : v6056.toInt = v5907.toInt + (4) := iv_add rfl (by decide) e6057 (by omega) (by omega)
              refine lv_iinc (v := v6056) (lv' := [(3, .int v6056), (2, .int v6045), (4, .int 1), (1, .int v5909), (0, .ref h0)]) hx hb dX12_row_224 hl (k := 2) rfl (by rw [e6057]; rfl) (by decide) rfl (fun ls hl => ?_)
              refine lv_goto (tgt := 44) hx hb dX12_row_227 (by decide) ?_
              exact ih_44 _ (by omega) H locs ls v6056 v6045 v5909  rfl (lv_sub hl [0, 1, 3, 4] rfl) ⟨by omega, by omega⟩ ⟨by omega, by omega⟩ hI hS
          · skip
            try simp only [rg, not_and, Int.not_le] at hp
            have hp6058 := hp
            refine lv_if_eq (tgt := 104) hx hb dX12_row_97 (by decide) (fun _ => ?_) (fun c => absurd c (by decide))
            refine lv_iconst (v := 0) hx hb dX12_row_104 (by decide) ?_
            refine lv_istore (lv' := [(4, .int 0), (3, .int v5907), (2, .int v5908), (1, .int v5909), (0, .ref h0)]) hx hb dX12_row_105 hl (by decide) rfl (fun ls hl => ?_)
            refine lv_iload hx hb dX12_row_107 (lv_at hl 0 rfl) ?_
            refine lv_if_eq (tgt := 142) hx hb dX12_row_109 (by decide) (fun _ => ?_) (fun c => absurd c (by decide))
            refine lv_iconst (v := 0) hx hb dX12_row_142 (by decide) ?_
            refine lv_istore (lv' := [(4, .int 0), (3, .int v5907), (2, .int v5908), (1, .int v5909), (0, .ref h0)]) hx hb dX12_row_143 hl (by decide) rfl (fun ls hl => ?_)
            refine lv_iload hx hb dX12_row_145 (lv_at hl 0 rfl) ?_
            refine lv_if_eq (tgt := 192) hx hb dX12_row_147 (by decide) (fun _ => ?_) (fun c => absurd c (by decide))
            refine lv_iload_n hx hb dX12_row_192 rfl (lv_at hl 2 rfl) ?_
            refine lv_iload hx hb dX12_row_193 (lv_at hl 0 rfl) ?_
            refine lv_if_eq (tgt := 202) hx hb dX12_row_195 (by decide) (fun _ => ?_) (fun c => absurd c (by decide))
            refine lv_iconst (v := 0) hx hb dX12_row_202 (by decide) ?_
            refine lv_iadd hx hb dX12_row_203 ?_
            refine lv_topi (fun v6059 e6060 => ?_)
            have k6061 := iv_lo v5908
            have k6062 := iv_hi v5908
            have tv6059 : v6059.toInt = v5908.toInt + (0) := iv_add rfl (by decide) e6060 (by omega) (by omega)
            refine lv_istore_n (lv' := [(2, .int v6059), (4, .int 0), (3, .int v5907), (1, .int v5909), (0, .ref h0)]) hx hb dX12_row_204 rfl hl (by decide) rfl (fun ls hl => ?_)
            refine lv_aload_n hx hb dX12_row_205 rfl (lv_at hl 4 rfl) ?_
            refine lv_dup hx hb dX12_row_206 rfl ?_
            refine gmI hx hb hts inT12 hown hK hI List.not_mem_nil hG0 6 (by decide) (hts _ (tb_c wd_1239)) rfl rfl dX12_row_207 (fun w6063 hg6064 k6065 k6066 => ?_)
            refine lv_iload hx hb dX12_row_210 (lv_at hl 1 rfl) ?_
            refine lv_if_eq (tgt := 219) hx hb dX12_row_212 (by decide) (fun _ => ?_) (fun c => absurd c (by decide))
            refine lv_iconst (v := 1) hx hb dX12_row_219 (by decide) ?_
            refine lv_iadd hx hb dX12_row_220 ?_
            refine lv_topi (fun v6067 e6068 => ?_)
            try have tv6067 : v6067.toInt = w6063.toInt + (1) := iv_add rfl (by decide) e6068 (by omega) (by omega)
            have k6069 := iv_lo v6067
            have k6070 := iv_hi v6067
            refine pmI (ty := .int) hx hb hts inT12 hown hK hI List.not_mem_nil hG0 hS ⟨_, hG0⟩ 6 (by decide) (hts _ (tb_c wd_1239)) rfl rfl (by decide +kernel) rfl rfl rfl (by omega) (by omega) dX12_row_221 (fun H locs hI hgP hS => ?_)
            have hg6071 := hgP.2.1
            have hf5920 := hgP.2.2.2 3 _ (by decide) (by decide) hf5920
            have hf5947 := hgP.2.2.2 8 _ (by decide) (by decide) hf5947
            have hA5922 := va_at.kept hA5922 (hgP.1 _ (m_ne hq5919 hG0 (by first | decide | (dsimp only; decide))))
            have hA5949 := va_at.kept hA5949 (hgP.1 _ (m_ne hq5946 hG0 (by first | decide | (dsimp only; decide))))
            obtain ⟨v6072, e6073⟩ : ∃ y : Int32, y = v5907 + (4) := ⟨_, rfl⟩
            have tv6072 : v6072.toInt = v5907.toInt + (4) := iv_add rfl (by decide) e6073 (by omega) (by omega)
            refine lv_iinc (v := v6072) (lv' := [(3, .int v6072), (2, .int v6059), (4, .int 0), (1, .int v5909), (0, .ref h0)]) hx hb dX12_row_224 hl (k := 2) rfl (by rw [e6073]; rfl) (by decide) rfl (fun ls hl => ?_)
            refine lv_goto (tgt := 44) hx hb dX12_row_227 (by decide) ?_
            exact ih_44 _ (by omega) H locs ls v6072 v6059 v5909  rfl (lv_sub hl [0, 1, 3, 4] rfl) ⟨by omega, by omega⟩ ⟨by omega, by omega⟩ hI hS
  refine lv_aload_n hx hb dX12_row_0 rfl (lv_at hl 0 rfl) ?_
  refine gmI hx hb hts inT12 hown hK hI List.not_mem_nil hG0 10 (by decide) (hts _ (tb_c wd_1243)) rfl rfl dX12_row_1 (fun w6074 hg6075 k6076 k6077 => ?_)
  refine lv_istore_n (lv' := [(1, .int w6074), (0, .ref h0)]) hx hb dX12_row_4 rfl hl (by decide) rfl (fun ls hl => ?_)
  refine lv_aload_n hx hb dX12_row_5 rfl (lv_at hl 1 rfl) ?_
  refine lv_iconst (v := 0) hx hb dX12_row_6 (by decide) ?_
  refine pmI (ty := .int) hx hb hts inT12 hown hK hI List.not_mem_nil hG0 hS ⟨_, hG0⟩ 10 (by decide) (hts _ (tb_c wd_1243)) rfl rfl (by decide +kernel) rfl rfl rfl (by decide) (by decide) dX12_row_7 (fun H locs hI hgP hS => ?_)
  have hg6078 := hgP.2.1
  refine lv_iload_n hx hb dX12_row_10 rfl (lv_at hl 0 rfl) ?_
  refine lv_if_ne (tgt := 21) hx hb dX12_row_11 (by decide) (fun c6079 => ?_) (fun c6079 => ?_)
  · skip
    have k6080 := iv_ne (X := w6074.toInt) (Y := (0)) rfl (by decide) c6079
    refine lv_iconst (v := 0) hx hb dX12_row_21 (by decide) ?_
    refine lv_istore_n (lv' := [(2, .int 0), (1, .int w6074), (0, .ref h0)]) hx hb dX12_row_22 rfl hl (by decide) rfl (fun ls hl => ?_)
    refine lv_aload_n hx hb dX12_row_23 rfl (lv_at hl 2 rfl) ?_
    refine lv_iload_n hx hb dX12_row_24 rfl (lv_at hl 1 rfl) ?_
    refine lv_iconst (v := 4) hx hb dX12_row_25 (by decide) ?_
    refine lv_irem hx hb dX12_row_26 (by decide) ?_
    refine lv_topi (fun v6081 e6082 => ?_)
    have tv6081 := iv_remp (X := w6074.toInt) (Y := 4) rfl (by decide) e6082 (by decide) (by omega)
    refine lv_if_ne (tgt := 34) hx hb dX12_row_27 (by decide) (fun c6083 => ?_) (fun c6083 => ?_)
    · skip
      have k6084 := iv_ne (X := v6081.toInt) (Y := (0)) rfl (by decide) c6083
      refine lv_iconst (v := 1) hx hb dX12_row_34 (by decide) ?_
      refine pmI (ty := .int) hx hb hts inT12 hown hK hI List.not_mem_nil hG0 hS ⟨_, hG0⟩ 6 (by decide) (hts _ (tb_c wd_1239)) rfl rfl (by decide +kernel) rfl rfl rfl (by decide) (by decide) dX12_row_35 (fun H locs hI hgP hS => ?_)
      have hg6078 := hgP.2.2.1 10 _ (by decide) (by decide) hg6078
      have hg6085 := hgP.2.1
      refine lv_aload_n hx hb dX12_row_38 rfl (lv_at hl 2 rfl) ?_
      refine mx_v (As := []) (rest := []) (n := 0) (d := 68) ⟨hx, hb, hml, hown, hts⟩ (c_X12_looks l E D G h0 hG0 ) wd_1455 wd_1457 wp_43 wd_13 wd_1458 (by decide +kernel) ⟨by rw [hR]; exact Nat.le_of_ble_eq_true rfl, by rw [hR]; exact Nat.le_of_ble_eq_true rfl⟩ hI hN hK hS hG0 (trivial) rfl hl.1 rfl (Nat.le_of_ble_eq_true rfl) dX12_row_39 ⟨Nat.zero_le _, Nat.zero_le _⟩ (fun H locs hI hp hS => ?_)
      refine lv_iconst (v := 0) hx hb dX12_row_42 (by decide) ?_
      refine lv_istore_n (lv' := [(3, .int 0), (2, .int 0), (1, .int w6074), (0, .ref h0)]) hx hb dX12_row_43 rfl hl (by decide) rfl (fun ls hl => ?_)
      have zl : (0 : Int32).toInt = 0 := by decide
      exact J_44 _ H locs ls 0 0 w6074  rfl (lv_sub hl [0, 1, 2, 3] rfl) ⟨by decide, by decide⟩ ⟨by omega, by omega⟩ hI hS
    · skip
      have k6087 := iv_eq (X := v6081.toInt) (Y := (0)) rfl (by decide) c6083
      refine lv_iconst (v := 0) hx hb dX12_row_30 (by decide) ?_
      refine lv_goto (tgt := 35) hx hb dX12_row_31 (by decide) ?_
      refine pmI (ty := .int) hx hb hts inT12 hown hK hI List.not_mem_nil hG0 hS ⟨_, hG0⟩ 6 (by decide) (hts _ (tb_c wd_1239)) rfl rfl (by decide +kernel) rfl rfl rfl (by decide) (by decide) dX12_row_35 (fun H locs hI hgP hS => ?_)
      have hg6078 := hgP.2.2.1 10 _ (by decide) (by decide) hg6078
      have hg6088 := hgP.2.1
      refine lv_aload_n hx hb dX12_row_38 rfl (lv_at hl 2 rfl) ?_
      refine mx_v (As := []) (rest := []) (n := 0) (d := 68) ⟨hx, hb, hml, hown, hts⟩ (c_X12_looks l E D G h0 hG0 ) wd_1455 wd_1457 wp_43 wd_13 wd_1458 (by decide +kernel) ⟨by rw [hR]; exact Nat.le_of_ble_eq_true rfl, by rw [hR]; exact Nat.le_of_ble_eq_true rfl⟩ hI hN hK hS hG0 (trivial) rfl hl.1 rfl (Nat.le_of_ble_eq_true rfl) dX12_row_39 ⟨Nat.zero_le _, Nat.zero_le _⟩ (fun H locs hI hp hS => ?_)
      refine lv_iconst (v := 0) hx hb dX12_row_42 (by decide) ?_
      refine lv_istore_n (lv' := [(3, .int 0), (2, .int 0), (1, .int w6074), (0, .ref h0)]) hx hb dX12_row_43 rfl hl (by decide) rfl (fun ls hl => ?_)
      have zl : (0 : Int32).toInt = 0 := by decide
      exact J_44 _ H locs ls 0 0 w6074  rfl (lv_sub hl [0, 1, 2, 3] rfl) ⟨by decide, by decide⟩ ⟨by omega, by omega⟩ hI hS
  · skip
    have k6090 := iv_eq (X := w6074.toInt) (Y := (0)) rfl (by decide) c6079
    refine lv_aload_n hx hb dX12_row_14 rfl (lv_at hl 1 rfl) ?_
    refine lv_bipush (v := (-6)) hx hb dX12_row_15 (by decide) ?_
    refine mx_i (As := [.int (-6)]) (rest := []) (n := 1) (d := 0) ⟨hx, hb, hml, hown, hts⟩ (c_X12_refuses l E D G h0 hG0 (-6) ⟨by decide, by decide⟩) wd_1398 wd_1400 wp_40 wd_13 wd_1401 (by decide +kernel) ⟨by rw [hR]; exact Nat.le_of_ble_eq_true rfl, by rw [hR]; exact Nat.le_of_ble_eq_true rfl⟩ hI hN hK hS hG0 (trivial) rfl hl.1 rfl (Nat.le_of_ble_eq_true rfl) dX12_row_17 ⟨Nat.zero_le _, Nat.zero_le _⟩ (fun r6091 H locs hI hp hS => ?_)
    obtain rfl := hp.symm
    have hpost : True := trivial
    rw [hQ]
    exact W.iret (v := (-6)) hx hb hr (fun t ht hW => ⟨⟨(-6), (-6), rfl, rfl, ⟨by rw [ht]; exact hI, hN.warm hW, va_K.moved hW.alike hK⟩, by first | (rw [ht]; exact hpost) | exact hpost⟩, hS.F ht⟩) hS.2.2 dX12_row_20
theorem dX12_beginsAt_0g : (decode cX12_beginsAt 0 = .ok (.aload_n 0, 1)) ∧ (decode cX12_beginsAt 1 = .ok (.getfield 20, 3)) ∧ (decode cX12_beginsAt 4 = .ok (.sipush 264, 3)) ∧ (decode cX12_beginsAt 7 = .ok (.iconst 3, 1)) ∧ (decode cX12_beginsAt 8 = .ok (.iload_n 1, 1)) ∧ (decode cX12_beginsAt 9 = .ok (.imul, 1)) ∧ (decode cX12_beginsAt 10 = .ok (.iadd, 1)) ∧ (decode cX12_beginsAt 11 = .ok (.iaload, 1)) ∧ (decode cX12_beginsAt 12 = .ok (.istore_n 3, 1)) ∧ (decode cX12_beginsAt 13 = .ok (.aload_n 0, 1)) := by decide +kernel
theorem dX12_beginsAt_0 : decode cX12_beginsAt 0 = .ok (.aload_n 0, 1) := dX12_beginsAt_0g.1
theorem dX12_beginsAt_1 : decode cX12_beginsAt 1 = .ok (.getfield 20, 3) := dX12_beginsAt_0g.2.1
theorem dX12_beginsAt_4 : decode cX12_beginsAt 4 = .ok (.sipush 264, 3) := dX12_beginsAt_0g.2.2.1
theorem dX12_beginsAt_7 : decode cX12_beginsAt 7 = .ok (.iconst 3, 1) := dX12_beginsAt_0g.2.2.2.1
theorem dX12_beginsAt_8 : decode cX12_beginsAt 8 = .ok (.iload_n 1, 1) := dX12_beginsAt_0g.2.2.2.2.1
theorem dX12_beginsAt_9 : decode cX12_beginsAt 9 = .ok (.imul, 1) := dX12_beginsAt_0g.2.2.2.2.2.1
theorem dX12_beginsAt_10 : decode cX12_beginsAt 10 = .ok (.iadd, 1) := dX12_beginsAt_0g.2.2.2.2.2.2.1
theorem dX12_beginsAt_11 : decode cX12_beginsAt 11 = .ok (.iaload, 1) := dX12_beginsAt_0g.2.2.2.2.2.2.2.1
theorem dX12_beginsAt_12 : decode cX12_beginsAt 12 = .ok (.istore_n 3, 1) := dX12_beginsAt_0g.2.2.2.2.2.2.2.2.1
theorem dX12_beginsAt_13 : decode cX12_beginsAt 13 = .ok (.aload_n 0, 1) := dX12_beginsAt_0g.2.2.2.2.2.2.2.2.2
theorem dX12_beginsAt_14g : (decode cX12_beginsAt 14 = .ok (.getfield 20, 3)) ∧ (decode cX12_beginsAt 17 = .ok (.sipush 264, 3)) ∧ (decode cX12_beginsAt 20 = .ok (.iconst 3, 1)) ∧ (decode cX12_beginsAt 21 = .ok (.iload_n 1, 1)) ∧ (decode cX12_beginsAt 22 = .ok (.imul, 1)) ∧ (decode cX12_beginsAt 23 = .ok (.iadd, 1)) ∧ (decode cX12_beginsAt 24 = .ok (.iconst 1, 1)) ∧ (decode cX12_beginsAt 25 = .ok (.iadd, 1)) ∧ (decode cX12_beginsAt 26 = .ok (.iaload, 1)) ∧ (decode cX12_beginsAt 27 = .ok (.istore 4, 2)) := by decide +kernel
theorem dX12_beginsAt_14 : decode cX12_beginsAt 14 = .ok (.getfield 20, 3) := dX12_beginsAt_14g.1
theorem dX12_beginsAt_17 : decode cX12_beginsAt 17 = .ok (.sipush 264, 3) := dX12_beginsAt_14g.2.1
theorem dX12_beginsAt_20 : decode cX12_beginsAt 20 = .ok (.iconst 3, 1) := dX12_beginsAt_14g.2.2.1
theorem dX12_beginsAt_21 : decode cX12_beginsAt 21 = .ok (.iload_n 1, 1) := dX12_beginsAt_14g.2.2.2.1
theorem dX12_beginsAt_22 : decode cX12_beginsAt 22 = .ok (.imul, 1) := dX12_beginsAt_14g.2.2.2.2.1
theorem dX12_beginsAt_23 : decode cX12_beginsAt 23 = .ok (.iadd, 1) := dX12_beginsAt_14g.2.2.2.2.2.1
theorem dX12_beginsAt_24 : decode cX12_beginsAt 24 = .ok (.iconst 1, 1) := dX12_beginsAt_14g.2.2.2.2.2.2.1
theorem dX12_beginsAt_25 : decode cX12_beginsAt 25 = .ok (.iadd, 1) := dX12_beginsAt_14g.2.2.2.2.2.2.2.1
theorem dX12_beginsAt_26 : decode cX12_beginsAt 26 = .ok (.iaload, 1) := dX12_beginsAt_14g.2.2.2.2.2.2.2.2.1
theorem dX12_beginsAt_27 : decode cX12_beginsAt 27 = .ok (.istore 4, 2) := dX12_beginsAt_14g.2.2.2.2.2.2.2.2.2
theorem dX12_beginsAt_29g : (decode cX12_beginsAt 29 = .ok (.iconst 0, 1)) ∧ (decode cX12_beginsAt 30 = .ok (.istore 5, 2)) ∧ (decode cX12_beginsAt 32 = .ok (.iload_n 2, 1)) ∧ (decode cX12_beginsAt 33 = .ok (.aload_n 0, 1)) ∧ (decode cX12_beginsAt 34 = .ok (.getfield 20, 3)) ∧ (decode cX12_beginsAt 37 = .ok (.sipush 264, 3)) ∧ (decode cX12_beginsAt 40 = .ok (.iconst 3, 1)) ∧ (decode cX12_beginsAt 41 = .ok (.iload_n 1, 1)) ∧ (decode cX12_beginsAt 42 = .ok (.imul, 1)) ∧ (decode cX12_beginsAt 43 = .ok (.iadd, 1)) := by decide +kernel
theorem dX12_beginsAt_29 : decode cX12_beginsAt 29 = .ok (.iconst 0, 1) := dX12_beginsAt_29g.1
theorem dX12_beginsAt_30 : decode cX12_beginsAt 30 = .ok (.istore 5, 2) := dX12_beginsAt_29g.2.1
theorem dX12_beginsAt_32 : decode cX12_beginsAt 32 = .ok (.iload_n 2, 1) := dX12_beginsAt_29g.2.2.1
theorem dX12_beginsAt_33 : decode cX12_beginsAt 33 = .ok (.aload_n 0, 1) := dX12_beginsAt_29g.2.2.2.1
theorem dX12_beginsAt_34 : decode cX12_beginsAt 34 = .ok (.getfield 20, 3) := dX12_beginsAt_29g.2.2.2.2.1
theorem dX12_beginsAt_37 : decode cX12_beginsAt 37 = .ok (.sipush 264, 3) := dX12_beginsAt_29g.2.2.2.2.2.1
theorem dX12_beginsAt_40 : decode cX12_beginsAt 40 = .ok (.iconst 3, 1) := dX12_beginsAt_29g.2.2.2.2.2.2.1
theorem dX12_beginsAt_41 : decode cX12_beginsAt 41 = .ok (.iload_n 1, 1) := dX12_beginsAt_29g.2.2.2.2.2.2.2.1
theorem dX12_beginsAt_42 : decode cX12_beginsAt 42 = .ok (.imul, 1) := dX12_beginsAt_29g.2.2.2.2.2.2.2.2.1
theorem dX12_beginsAt_43 : decode cX12_beginsAt 43 = .ok (.iadd, 1) := dX12_beginsAt_29g.2.2.2.2.2.2.2.2.2
theorem dX12_beginsAt_44g : (decode cX12_beginsAt 44 = .ok (.iconst 2, 1)) ∧ (decode cX12_beginsAt 45 = .ok (.iadd, 1)) ∧ (decode cX12_beginsAt 46 = .ok (.iaload, 1)) ∧ (decode cX12_beginsAt 47 = .ok (.if_icmp .le 7, 3)) ∧ (decode cX12_beginsAt 50 = .ok (.iload_n 2, 1)) ∧ (decode cX12_beginsAt 51 = .ok (.goto 17, 3)) ∧ (decode cX12_beginsAt 54 = .ok (.aload_n 0, 1)) ∧ (decode cX12_beginsAt 55 = .ok (.getfield 20, 3)) ∧ (decode cX12_beginsAt 58 = .ok (.sipush 264, 3)) ∧ (decode cX12_beginsAt 61 = .ok (.iconst 3, 1)) := by decide +kernel
theorem dX12_beginsAt_44 : decode cX12_beginsAt 44 = .ok (.iconst 2, 1) := dX12_beginsAt_44g.1
theorem dX12_beginsAt_45 : decode cX12_beginsAt 45 = .ok (.iadd, 1) := dX12_beginsAt_44g.2.1
theorem dX12_beginsAt_46 : decode cX12_beginsAt 46 = .ok (.iaload, 1) := dX12_beginsAt_44g.2.2.1
theorem dX12_beginsAt_47 : decode cX12_beginsAt 47 = .ok (.if_icmp .le 7, 3) := dX12_beginsAt_44g.2.2.2.1
theorem dX12_beginsAt_50 : decode cX12_beginsAt 50 = .ok (.iload_n 2, 1) := dX12_beginsAt_44g.2.2.2.2.1
theorem dX12_beginsAt_51 : decode cX12_beginsAt 51 = .ok (.goto 17, 3) := dX12_beginsAt_44g.2.2.2.2.2.1
theorem dX12_beginsAt_54 : decode cX12_beginsAt 54 = .ok (.aload_n 0, 1) := dX12_beginsAt_44g.2.2.2.2.2.2.1
theorem dX12_beginsAt_55 : decode cX12_beginsAt 55 = .ok (.getfield 20, 3) := dX12_beginsAt_44g.2.2.2.2.2.2.2.1
theorem dX12_beginsAt_58 : decode cX12_beginsAt 58 = .ok (.sipush 264, 3) := dX12_beginsAt_44g.2.2.2.2.2.2.2.2.1
theorem dX12_beginsAt_61 : decode cX12_beginsAt 61 = .ok (.iconst 3, 1) := dX12_beginsAt_44g.2.2.2.2.2.2.2.2.2
theorem dX12_beginsAt_62g : (decode cX12_beginsAt 62 = .ok (.iload_n 1, 1)) ∧ (decode cX12_beginsAt 63 = .ok (.imul, 1)) ∧ (decode cX12_beginsAt 64 = .ok (.iadd, 1)) ∧ (decode cX12_beginsAt 65 = .ok (.iconst 2, 1)) ∧ (decode cX12_beginsAt 66 = .ok (.iadd, 1)) ∧ (decode cX12_beginsAt 67 = .ok (.iaload, 1)) ∧ (decode cX12_beginsAt 68 = .ok (.istore 6, 2)) ∧ (decode cX12_beginsAt 70 = .ok (.iload 6, 2)) ∧ (decode cX12_beginsAt 72 = .ok (.bipush 96, 2)) ∧ (decode cX12_beginsAt 74 = .ok (.if_icmp .ge 49, 3)) := by decide +kernel
theorem dX12_beginsAt_62 : decode cX12_beginsAt 62 = .ok (.iload_n 1, 1) := dX12_beginsAt_62g.1
theorem dX12_beginsAt_63 : decode cX12_beginsAt 63 = .ok (.imul, 1) := dX12_beginsAt_62g.2.1
theorem dX12_beginsAt_64 : decode cX12_beginsAt 64 = .ok (.iadd, 1) := dX12_beginsAt_62g.2.2.1
theorem dX12_beginsAt_65 : decode cX12_beginsAt 65 = .ok (.iconst 2, 1) := dX12_beginsAt_62g.2.2.2.1
theorem dX12_beginsAt_66 : decode cX12_beginsAt 66 = .ok (.iadd, 1) := dX12_beginsAt_62g.2.2.2.2.1
theorem dX12_beginsAt_67 : decode cX12_beginsAt 67 = .ok (.iaload, 1) := dX12_beginsAt_62g.2.2.2.2.2.1
theorem dX12_beginsAt_68 : decode cX12_beginsAt 68 = .ok (.istore 6, 2) := dX12_beginsAt_62g.2.2.2.2.2.2.1
theorem dX12_beginsAt_70 : decode cX12_beginsAt 70 = .ok (.iload 6, 2) := dX12_beginsAt_62g.2.2.2.2.2.2.2.1
theorem dX12_beginsAt_72 : decode cX12_beginsAt 72 = .ok (.bipush 96, 2) := dX12_beginsAt_62g.2.2.2.2.2.2.2.2.1
theorem dX12_beginsAt_74 : decode cX12_beginsAt 74 = .ok (.if_icmp .ge 49, 3) := dX12_beginsAt_62g.2.2.2.2.2.2.2.2.2
theorem dX12_beginsAt_77g : (decode cX12_beginsAt 77 = .ok (.aload_n 0, 1)) ∧ (decode cX12_beginsAt 78 = .ok (.getfield 88, 3)) ∧ (decode cX12_beginsAt 81 = .ok (.bipush 24, 2)) ∧ (decode cX12_beginsAt 83 = .ok (.iload 6, 2)) ∧ (decode cX12_beginsAt 85 = .ok (.imul, 1)) ∧ (decode cX12_beginsAt 86 = .ok (.iload_n 3, 1)) ∧ (decode cX12_beginsAt 87 = .ok (.iadd, 1)) ∧ (decode cX12_beginsAt 88 = .ok (.baload, 1)) ∧ (decode cX12_beginsAt 89 = .ok (.ifCond .eq 10, 3)) ∧ (decode cX12_beginsAt 92 = .ok (.iload 5, 2)) := by decide +kernel
theorem dX12_beginsAt_77 : decode cX12_beginsAt 77 = .ok (.aload_n 0, 1) := dX12_beginsAt_77g.1
theorem dX12_beginsAt_78 : decode cX12_beginsAt 78 = .ok (.getfield 88, 3) := dX12_beginsAt_77g.2.1
theorem dX12_beginsAt_81 : decode cX12_beginsAt 81 = .ok (.bipush 24, 2) := dX12_beginsAt_77g.2.2.1
theorem dX12_beginsAt_83 : decode cX12_beginsAt 83 = .ok (.iload 6, 2) := dX12_beginsAt_77g.2.2.2.1
theorem dX12_beginsAt_85 : decode cX12_beginsAt 85 = .ok (.imul, 1) := dX12_beginsAt_77g.2.2.2.2.1
theorem dX12_beginsAt_86 : decode cX12_beginsAt 86 = .ok (.iload_n 3, 1) := dX12_beginsAt_77g.2.2.2.2.2.1
theorem dX12_beginsAt_87 : decode cX12_beginsAt 87 = .ok (.iadd, 1) := dX12_beginsAt_77g.2.2.2.2.2.2.1
theorem dX12_beginsAt_88 : decode cX12_beginsAt 88 = .ok (.baload, 1) := dX12_beginsAt_77g.2.2.2.2.2.2.2.1
theorem dX12_beginsAt_89 : decode cX12_beginsAt 89 = .ok (.ifCond .eq 10, 3) := dX12_beginsAt_77g.2.2.2.2.2.2.2.2.1
theorem dX12_beginsAt_92 : decode cX12_beginsAt 92 = .ok (.iload 5, 2) := dX12_beginsAt_77g.2.2.2.2.2.2.2.2.2
theorem dX12_beginsAt_94g : (decode cX12_beginsAt 94 = .ok (.iconst 1, 1)) ∧ (decode cX12_beginsAt 95 = .ok (.iadd, 1)) ∧ (decode cX12_beginsAt 96 = .ok (.goto 4, 3)) ∧ (decode cX12_beginsAt 99 = .ok (.iconst 0, 1)) ∧ (decode cX12_beginsAt 100 = .ok (.istore 5, 2)) ∧ (decode cX12_beginsAt 102 = .ok (.iload 5, 2)) ∧ (decode cX12_beginsAt 104 = .ok (.iload 4, 2)) ∧ (decode cX12_beginsAt 106 = .ok (.if_icmp .ne 11, 3)) ∧ (decode cX12_beginsAt 109 = .ok (.iload 6, 2)) ∧ (decode cX12_beginsAt 111 = .ok (.iconst 1, 1)) := by decide +kernel
theorem dX12_beginsAt_94 : decode cX12_beginsAt 94 = .ok (.iconst 1, 1) := dX12_beginsAt_94g.1
theorem dX12_beginsAt_95 : decode cX12_beginsAt 95 = .ok (.iadd, 1) := dX12_beginsAt_94g.2.1
theorem dX12_beginsAt_96 : decode cX12_beginsAt 96 = .ok (.goto 4, 3) := dX12_beginsAt_94g.2.2.1
theorem dX12_beginsAt_99 : decode cX12_beginsAt 99 = .ok (.iconst 0, 1) := dX12_beginsAt_94g.2.2.2.1
theorem dX12_beginsAt_100 : decode cX12_beginsAt 100 = .ok (.istore 5, 2) := dX12_beginsAt_94g.2.2.2.2.1
theorem dX12_beginsAt_102 : decode cX12_beginsAt 102 = .ok (.iload 5, 2) := dX12_beginsAt_94g.2.2.2.2.2.1
theorem dX12_beginsAt_104 : decode cX12_beginsAt 104 = .ok (.iload 4, 2) := dX12_beginsAt_94g.2.2.2.2.2.2.1
theorem dX12_beginsAt_106 : decode cX12_beginsAt 106 = .ok (.if_icmp .ne 11, 3) := dX12_beginsAt_94g.2.2.2.2.2.2.2.1
theorem dX12_beginsAt_109 : decode cX12_beginsAt 109 = .ok (.iload 6, 2) := dX12_beginsAt_94g.2.2.2.2.2.2.2.2.1
theorem dX12_beginsAt_111 : decode cX12_beginsAt 111 = .ok (.iconst 1, 1) := dX12_beginsAt_94g.2.2.2.2.2.2.2.2.2
theorem dX12_beginsAt_112g : (decode cX12_beginsAt 112 = .ok (.iadd, 1)) ∧ (decode cX12_beginsAt 113 = .ok (.iload 4, 2)) ∧ (decode cX12_beginsAt 115 = .ok (.isub, 1)) ∧ (decode cX12_beginsAt 116 = .ok (.ireturn, 1)) ∧ (decode cX12_beginsAt 117 = .ok (.iinc 6 1, 3)) ∧ (decode cX12_beginsAt 120 = .ok (.goto (-50), 3)) ∧ (decode cX12_beginsAt 123 = .ok (.iconst (-1), 1)) ∧ (decode cX12_beginsAt 124 = .ok (.ireturn, 1)) := by decide +kernel
theorem dX12_beginsAt_112 : decode cX12_beginsAt 112 = .ok (.iadd, 1) := dX12_beginsAt_112g.1
theorem dX12_beginsAt_113 : decode cX12_beginsAt 113 = .ok (.iload 4, 2) := dX12_beginsAt_112g.2.1
theorem dX12_beginsAt_115 : decode cX12_beginsAt 115 = .ok (.isub, 1) := dX12_beginsAt_112g.2.2.1
theorem dX12_beginsAt_116 : decode cX12_beginsAt 116 = .ok (.ireturn, 1) := dX12_beginsAt_112g.2.2.2.1
theorem dX12_beginsAt_117 : decode cX12_beginsAt 117 = .ok (.iinc 6 1, 3) := dX12_beginsAt_112g.2.2.2.2.1
theorem dX12_beginsAt_120 : decode cX12_beginsAt 120 = .ok (.goto (-50), 3) := dX12_beginsAt_112g.2.2.2.2.2.1
theorem dX12_beginsAt_123 : decode cX12_beginsAt 123 = .ok (.iconst (-1), 1) := dX12_beginsAt_112g.2.2.2.2.2.2.1
theorem dX12_beginsAt_124 : decode cX12_beginsAt 124 = .ok (.ireturn, 1) := dX12_beginsAt_112g.2.2.2.2.2.2.2
set_option maxHeartbeats 4000000 in
set_option maxRecDepth 100000 in
theorem c_X12_beginsAt (l : Launch) (E : Nat → Nat) (D : va_G) (G : th_G) (H0 : Heap) (h0 : Nat) (hG0 : G h0 = some (10, 0)) (x1 : Int32) (x2 : Int32) (hx1 : (0 : Int) ≤ x1.toInt ∧ x1.toInt ≤ 5) : Met l yX12_beginsAt (tb (.code yX12_beginsAt cX12_beginsAt 7 (some .int))) (rm 0) (va_Pc [.ref h0, .int x1, .int x2] (PR E D G H0)) (QS H0 (fun r => True)) 0 0 (fun _ => False) := by
  refine Met.ofW (cc := cX12_beginsAt) (maxL := 7) (ret := (some .int)) (by decide) rfl ?_
  intro p e s m args below meth c s₁ B hml hv
  obtain ⟨hav, rfl, hI, hN, hK⟩ := hv
  have hx := B.exec
  have hb := B.bytes
  have hr := B.returns
  have hts := atoms_spec (ws := tb (.code yX12_beginsAt cX12_beginsAt 7 (some .int))) B.pre
  have hown : s.vm.findClass RX12 = some m.cls := findClass_of_methodNamed B.named
  have hlocks := B.notSynchronized
  have hS : va_S (fun _ => False) s.heap s.heap [] := va_S.rf
  have hl := lv_entry ([.ref h0, .int x1, .int x2]) (n := 7) (Nat.le_of_ble_eq_true rfl)
  rw [show entryFrame m args 7 = entryFrame m ([.ref h0, .int x1, .int x2] : List Value).toArray 7 from by rw [hav], lg_entry_eq]
  generalize (lg_sl ([.ref h0, .int x1, .int x2]) ++ List.replicate (7 - (lg_sl ([.ref h0, .int x1, .int x2])).length) Slot.unset).toArray = ls at hl ⊢
  have hl : lv_has ls 7 [(0, .ref h0), (1, .int x1), (2, .int x2)] := hl
  generalize hR : (headSpec (tb (.code yX12_beginsAt cX12_beginsAt 7 (some .int))) (rm 0)).room = R
  have hR := hR.symm
  generalize hQ : MQ below (QS s.heap (fun r => True)) args s 0 0 (fun _ => False) = QF
  have hQ := hQ.symm
  obtain ⟨q_3, hq_3, hf_3⟩ := fr_of hI hG0 3 (by decide) (kd := (1, 5123)) rfl
  obtain ⟨F_3, hA_3, hP_3⟩ := om_1 hI hq_3 List.not_mem_nil
  have J_70 : ∀ (nn : Nat) (locs : List Loc) (ls : Array Slot) (v5804 : Int32) (v5805 : Int32) (v5806 : Int32) (v5807 : Int32) , (Int.toNat (96 - v5804.toInt) = nn) → lv_has ls 7 [(6, .int v5804), (5, .int v5805), (4, .int v5806), (3, .int v5807), (0, .ref h0), (1, .int x1), (2, .int x2)] → ((0 : Int) ≤ v5804.toInt) → ((0 : Int) ≤ v5807.toInt ∧ v5807.toInt ≤ 23) → ((0 : Int) ≤ x1.toInt ∧ x1.toInt ≤ 5) → va_S (fun _ => False) s.heap s.heap locs → W p l e R s m args below meth c s.heap locs 0 0 QF (F0 m 70 ls []) := by
    intro nn
    induction nn using Nat.strongRecOn with
    | ind nn ih_70 =>
      intro locs ls v5804 v5805 v5806 v5807  hm hl k5808 k5809 k5810 hS
      have J_100 : ∀ (locs : List Loc) (ls : Array Slot) (v5815 : Int32) , lv_has ls 7 [(6, .int v5804), (5, .int v5805), (4, .int v5806), (3, .int v5807), (0, .ref h0), (1, .int x1), (2, .int x2)] → ((0 : Int) ≤ v5804.toInt ∧ v5804.toInt ≤ 95) → va_S (fun _ => False) s.heap s.heap locs → W p l e R s m args below meth c s.heap locs 0 0 QF (F0 m 100 ls [.int v5815]) := by
        intro locs ls v5815  hl k5816 hS
        refine lv_istore (lv' := [(5, .int v5815), (6, .int v5804), (4, .int v5806), (3, .int v5807), (0, .ref h0), (1, .int x1), (2, .int x2)]) hx hb dX12_beginsAt_100 hl (by decide) rfl (fun ls hl => ?_)
        refine lv_iload hx hb dX12_beginsAt_102 (lv_at hl 0 rfl) ?_
        refine lv_iload hx hb dX12_beginsAt_104 (lv_at hl 2 rfl) ?_
        have k5817 := iv_lo v5815
        have k5818 := iv_hi v5815
        have k5819 := iv_lo v5806
        have k5820 := iv_hi v5806
        refine lv_icmp_ne (tgt := 117) hx hb dX12_beginsAt_106 (by decide) (fun c5821 => ?_) (fun c5821 => ?_)
        · skip
          have k5822 := iv_ne (X := v5815.toInt) (Y := v5806.toInt) rfl rfl c5821
          obtain ⟨v5823, e5824⟩ : ∃ y : Int32, y = v5804 + (1) := ⟨_, rfl⟩
          have tv5823 : v5823.toInt = v5804.toInt + (1) := iv_add rfl (by decide) e5824 (by omega) (by omega)
          refine lv_iinc (v := v5823) (lv' := [(6, .int v5823), (5, .int v5815), (4, .int v5806), (3, .int v5807), (0, .ref h0), (1, .int x1), (2, .int x2)]) hx hb dX12_beginsAt_117 hl (k := 1) rfl (by rw [e5824]; rfl) (by decide) rfl (fun ls hl => ?_)
          refine lv_goto (tgt := 70) hx hb dX12_beginsAt_120 (by decide) ?_
          exact ih_70 _ (by omega) locs ls v5823 v5815 v5806 v5807  rfl (lv_sub hl [0, 1, 2, 3, 4, 5, 6] rfl) (by omega) ⟨by omega, by omega⟩ ⟨by omega, by omega⟩ hS
        · skip
          have k5825 := iv_eq (X := v5815.toInt) (Y := v5806.toInt) rfl rfl c5821
          refine lv_iload hx hb dX12_beginsAt_109 (lv_at hl 1 rfl) ?_
          refine lv_iconst (v := 1) hx hb dX12_beginsAt_111 (by decide) ?_
          refine lv_iadd hx hb dX12_beginsAt_112 ?_
          refine lv_topi (fun v5826 e5827 => ?_)
          have tv5826 : v5826.toInt = v5804.toInt + (1) := iv_add rfl (by decide) e5827 (by omega) (by omega)
          refine lv_iload hx hb dX12_beginsAt_113 (lv_at hl 2 rfl) ?_
          refine lv_isub hx hb dX12_beginsAt_115 ?_
          refine lv_topi (fun v5828 e5829 => ?_)
          try have tv5828 : v5828.toInt = v5826.toInt - v5806.toInt := iv_sub rfl rfl e5829 (by omega) (by omega)
          have hpost : True := trivial
          rw [hQ]
          exact W.iret (v := v5828) hx hb hr (fun t ht hW => ⟨⟨v5828, (), rfl, hpost, ht⟩, hS.F ht⟩) hS.2.2 dX12_beginsAt_116
      refine lv_iload hx hb dX12_beginsAt_70 (lv_at hl 0 rfl) ?_
      refine lv_bipush (v := 96) hx hb dX12_beginsAt_72 (by decide) ?_
      have k5830 := iv_lo v5804
      have k5831 := iv_hi v5804
      refine lv_icmp_ge (tgt := 123) hx hb dX12_beginsAt_74 (by decide) (fun c5832 => ?_) (fun c5832 => ?_)
      · skip
        have k5833 := iv_le (X := (96)) (Y := v5804.toInt) (by decide) rfl c5832
        refine lv_iconst (v := (-1)) hx hb dX12_beginsAt_123 (by decide) ?_
        have hpost : True := trivial
        rw [hQ]
        exact W.iret (v := (-1)) hx hb hr (fun t ht hW => ⟨⟨(-1), (), rfl, hpost, ht⟩, hS.F ht⟩) hS.2.2 dX12_beginsAt_124
      · skip
        have k5834 := iv_nle (X := (96)) (Y := v5804.toInt) (by decide) rfl c5832
        refine lv_aload_n hx hb dX12_beginsAt_77 rfl (lv_at hl 4 rfl) ?_
        refine gmA hx hb hts inT12 hown hK hI List.not_mem_nil hG0 39 (by decide) (hts _ (tb_c wd_1272)) rfl rfl dX12_beginsAt_78 (fun a5835 hq5836 hf5837 => ?_)
        refine lv_bipush (v := 24) hx hb dX12_beginsAt_81 (by decide) ?_
        refine lv_iload hx hb dX12_beginsAt_83 (lv_at hl 0 rfl) ?_
        refine lv_imul hx hb dX12_beginsAt_85 ?_
        refine lv_topi (fun v5838 e5839 => ?_)
        have tv5838 : v5838.toInt = (24) * v5804.toInt := iv_mul (by decide) rfl e5839 (by omega) (by omega)
        refine lv_iload_n hx hb dX12_beginsAt_86 rfl (lv_at hl 3 rfl) ?_
        refine lv_iadd hx hb dX12_beginsAt_87 ?_
        refine lv_topi (fun v5840 e5841 => ?_)
        have tv5840 : v5840.toInt = v5838.toInt + v5807.toInt := iv_add rfl rfl e5841 (by omega) (by omega)
        obtain ⟨F5842, hA5843⟩ := om_5 hI hq5836 List.not_mem_nil
        refine va_zald hx hb hK (th_one hA5843) 0 2 rfl rfl (iv_in (X := v5840.toInt) rfl (by omega) (by omega)) dX12_beginsAt_88 ?_
        refine lv_topi (fun v5844 e5845 => ?_)
        have k5846 := iv_lo v5844
        have k5847 := iv_hi v5844
        refine lv_if_eq (tgt := 99) hx hb dX12_beginsAt_89 (by decide) (fun c5848 => ?_) (fun c5848 => ?_)
        · skip
          have k5849 := iv_eq (X := v5844.toInt) (Y := (0)) rfl (by decide) c5848
          refine lv_iconst (v := 0) hx hb dX12_beginsAt_99 (by decide) ?_
          exact J_100 locs ls 0  (lv_sub hl [0, 1, 2, 3, 4, 5, 6] rfl) ⟨by omega, by omega⟩ hS
        · skip
          have k5850 := iv_ne (X := v5844.toInt) (Y := (0)) rfl (by decide) c5848
          refine lv_iload hx hb dX12_beginsAt_92 (lv_at hl 1 rfl) ?_
          refine lv_iconst (v := 1) hx hb dX12_beginsAt_94 (by decide) ?_
          refine lv_iadd hx hb dX12_beginsAt_95 ?_
          refine lv_topi (fun v5851 e5852 => ?_)
          try have tv5851 : v5851.toInt = v5805.toInt + (1) := iv_add rfl (by decide) e5852 (by omega) (by omega)
          refine lv_goto (tgt := 100) hx hb dX12_beginsAt_96 (by decide) ?_
          exact J_100 locs ls v5851  (lv_sub hl [0, 1, 2, 3, 4, 5, 6] rfl) ⟨by omega, by omega⟩ hS
  have J_68 : ∀ (locs : List Loc) (ls : Array Slot) (v5853 : Int32) (v5854 : Int32) (v5855 : Int32) , lv_has ls 7 [(5, .int 0), (4, .int v5853), (3, .int v5854), (0, .ref h0), (1, .int x1), (2, .int x2)] → ((0 : Int) ≤ v5854.toInt ∧ v5854.toInt ≤ 23) → ((0 : Int) ≤ x1.toInt ∧ x1.toInt ≤ 5) → ((0 : Int) ≤ v5855.toInt) → va_S (fun _ => False) s.heap s.heap locs → W p l e R s m args below meth c s.heap locs 0 0 QF (F0 m 68 ls [.int v5855]) := by
    intro locs ls v5853 v5854 v5855  hl k5856 k5857 k5858 hS
    refine lv_istore (lv' := [(6, .int v5855), (5, .int 0), (4, .int v5853), (3, .int v5854), (0, .ref h0), (1, .int x1), (2, .int x2)]) hx hb dX12_beginsAt_68 hl (by decide) rfl (fun ls hl => ?_)
    exact J_70 _ locs ls v5855 0 v5853 v5854  rfl (lv_sub hl [0, 1, 2, 3, 4, 5, 6] rfl) (by omega) ⟨by omega, by omega⟩ ⟨by omega, by omega⟩ hS
  refine lv_aload_n hx hb dX12_beginsAt_0 rfl (lv_at hl 0 rfl) ?_
  refine gmA hx hb hts inT12 hown hK hI List.not_mem_nil hG0 3 (by decide) (hts _ (tb_c wd_1236)) rfl rfl dX12_beginsAt_1 (fun a5859 hq5860 hf5861 => ?_)
  obtain rfl := fr.uniq (by decide) hf_3 hf5861
  refine lv_sipush (v := 264) hx hb dX12_beginsAt_4 (by decide) ?_
  refine lv_iconst (v := 3) hx hb dX12_beginsAt_7 (by decide) ?_
  refine lv_iload_n hx hb dX12_beginsAt_8 rfl (lv_at hl 1 rfl) ?_
  refine lv_imul hx hb dX12_beginsAt_9 ?_
  refine lv_topi (fun v5862 e5863 => ?_)
  have tv5862 : v5862.toInt = (3) * x1.toInt := iv_mul (by decide) rfl e5863 (by omega) (by omega)
  refine lv_iadd hx hb dX12_beginsAt_10 ?_
  refine lv_topi (fun v5864 e5865 => ?_)
  have tv5864 : v5864.toInt = (264) + v5862.toInt := iv_add (by decide) rfl e5865 (by omega) (by omega)
  refine th_iald hx hb hK hA_3 0 rfl (iv_in (X := v5864.toInt) rfl (by omega) (by omega)) dX12_beginsAt_11 (fun v5866 e5867 => ?_)
  have k5868 := kg_job0 (kOk.get (i := v5864) hP_3 e5867 (X := v5864.toInt) rfl (by omega) (by omega)) (by omega) (by omega) (by omega)
  refine lv_istore_n (lv' := [(3, .int v5866), (0, .ref h0), (1, .int x1), (2, .int x2)]) hx hb dX12_beginsAt_12 rfl hl (by decide) rfl (fun ls hl => ?_)
  refine lv_aload_n hx hb dX12_beginsAt_13 rfl (lv_at hl 1 rfl) ?_
  refine gmA hx hb hts inT12 hown hK hI List.not_mem_nil hG0 3 (by decide) (hts _ (tb_c wd_1236)) rfl rfl dX12_beginsAt_14 (fun a5869 hq5870 hf5871 => ?_)
  obtain rfl := fr.uniq (by decide) hf_3 hf5871
  refine lv_sipush (v := 264) hx hb dX12_beginsAt_17 (by decide) ?_
  refine lv_iconst (v := 3) hx hb dX12_beginsAt_20 (by decide) ?_
  refine lv_iload_n hx hb dX12_beginsAt_21 rfl (lv_at hl 2 rfl) ?_
  refine lv_imul hx hb dX12_beginsAt_22 ?_
  refine lv_topi (fun v5872 e5873 => ?_)
  have tv5872 : v5872.toInt = (3) * x1.toInt := iv_mul (by decide) rfl e5873 (by omega) (by omega)
  refine lv_iadd hx hb dX12_beginsAt_23 ?_
  refine lv_topi (fun v5874 e5875 => ?_)
  have tv5874 : v5874.toInt = (264) + v5872.toInt := iv_add (by decide) rfl e5875 (by omega) (by omega)
  refine lv_iconst (v := 1) hx hb dX12_beginsAt_24 (by decide) ?_
  refine lv_iadd hx hb dX12_beginsAt_25 ?_
  refine lv_topi (fun v5876 e5877 => ?_)
  have tv5876 : v5876.toInt = v5874.toInt + (1) := iv_add rfl (by decide) e5877 (by omega) (by omega)
  refine th_iald hx hb hK hA_3 0 rfl (iv_in (X := v5876.toInt) rfl (by omega) (by omega)) dX12_beginsAt_26 (fun v5878 e5879 => ?_)
  refine lv_istore (lv' := [(4, .int v5878), (3, .int v5866), (0, .ref h0), (1, .int x1), (2, .int x2)]) hx hb dX12_beginsAt_27 hl (by decide) rfl (fun ls hl => ?_)
  refine lv_iconst (v := 0) hx hb dX12_beginsAt_29 (by decide) ?_
  refine lv_istore (lv' := [(5, .int 0), (4, .int v5878), (3, .int v5866), (0, .ref h0), (1, .int x1), (2, .int x2)]) hx hb dX12_beginsAt_30 hl (by decide) rfl (fun ls hl => ?_)
  refine lv_iload_n hx hb dX12_beginsAt_32 rfl (lv_at hl 5 rfl) ?_
  refine lv_aload_n hx hb dX12_beginsAt_33 rfl (lv_at hl 3 rfl) ?_
  refine gmA hx hb hts inT12 hown hK hI List.not_mem_nil hG0 3 (by decide) (hts _ (tb_c wd_1236)) rfl rfl dX12_beginsAt_34 (fun a5880 hq5881 hf5882 => ?_)
  obtain rfl := fr.uniq (by decide) hf_3 hf5882
  refine lv_sipush (v := 264) hx hb dX12_beginsAt_37 (by decide) ?_
  refine lv_iconst (v := 3) hx hb dX12_beginsAt_40 (by decide) ?_
  refine lv_iload_n hx hb dX12_beginsAt_41 rfl (lv_at hl 4 rfl) ?_
  refine lv_imul hx hb dX12_beginsAt_42 ?_
  refine lv_topi (fun v5883 e5884 => ?_)
  have tv5883 : v5883.toInt = (3) * x1.toInt := iv_mul (by decide) rfl e5884 (by omega) (by omega)
  refine lv_iadd hx hb dX12_beginsAt_43 ?_
  refine lv_topi (fun v5885 e5886 => ?_)
  have tv5885 : v5885.toInt = (264) + v5883.toInt := iv_add (by decide) rfl e5886 (by omega) (by omega)
  refine lv_iconst (v := 2) hx hb dX12_beginsAt_44 (by decide) ?_
  refine lv_iadd hx hb dX12_beginsAt_45 ?_
  refine lv_topi (fun v5887 e5888 => ?_)
  have tv5887 : v5887.toInt = v5885.toInt + (2) := iv_add rfl (by decide) e5888 (by omega) (by omega)
  refine th_iald hx hb hK hA_3 0 rfl (iv_in (X := v5887.toInt) rfl (by omega) (by omega)) dX12_beginsAt_46 (fun v5889 e5890 => ?_)
  have k5891 := kg_job2 (kOk.get (i := v5887) hP_3 e5890 (X := v5887.toInt) rfl (by omega) (by omega)) (by omega) (by omega) (by omega)
  have k5892 := iv_lo x2
  have k5893 := iv_hi x2
  refine lv_icmp_le (tgt := 54) hx hb dX12_beginsAt_47 (by decide) (fun c5894 => ?_) (fun c5894 => ?_)
  · skip
    have k5895 := iv_le (X := x2.toInt) (Y := v5889.toInt) rfl rfl c5894
    refine lv_aload_n hx hb dX12_beginsAt_54 rfl (lv_at hl 3 rfl) ?_
    refine gmA hx hb hts inT12 hown hK hI List.not_mem_nil hG0 3 (by decide) (hts _ (tb_c wd_1236)) rfl rfl dX12_beginsAt_55 (fun a5896 hq5897 hf5898 => ?_)
    obtain rfl := fr.uniq (by decide) hf_3 hf5898
    refine lv_sipush (v := 264) hx hb dX12_beginsAt_58 (by decide) ?_
    refine lv_iconst (v := 3) hx hb dX12_beginsAt_61 (by decide) ?_
    refine lv_iload_n hx hb dX12_beginsAt_62 rfl (lv_at hl 4 rfl) ?_
    refine lv_imul hx hb dX12_beginsAt_63 ?_
    refine lv_topi (fun v5899 e5900 => ?_)
    have tv5899 : v5899.toInt = (3) * x1.toInt := iv_mul (by decide) rfl e5900 (by omega) (by omega)
    refine lv_iadd hx hb dX12_beginsAt_64 ?_
    refine lv_topi (fun v5901 e5902 => ?_)
    have tv5901 : v5901.toInt = (264) + v5899.toInt := iv_add (by decide) rfl e5902 (by omega) (by omega)
    refine lv_iconst (v := 2) hx hb dX12_beginsAt_65 (by decide) ?_
    refine lv_iadd hx hb dX12_beginsAt_66 ?_
    refine lv_topi (fun v5903 e5904 => ?_)
    have tv5903 : v5903.toInt = v5901.toInt + (2) := iv_add rfl (by decide) e5904 (by omega) (by omega)
    refine th_iald hx hb hK hA_3 0 rfl (iv_in (X := v5903.toInt) rfl (by omega) (by omega)) dX12_beginsAt_67 (fun v5905 e5906 => ?_)
    obtain rfl := (rd_same (i := v5887) (j := v5903) e5890 e5906 (X := v5887.toInt) (Y := v5903.toInt) rfl rfl (by omega)).symm
    exact J_68 [] ls v5878 v5866 v5889  (lv_sub hl [0, 1, 2, 3, 4, 5] rfl) ⟨by omega, by omega⟩ ⟨by omega, by omega⟩ (by omega) hS
  · skip
    have k5907 := iv_nle (X := x2.toInt) (Y := v5889.toInt) rfl rfl c5894
    refine lv_iload_n hx hb dX12_beginsAt_50 rfl (lv_at hl 5 rfl) ?_
    refine lv_goto (tgt := 68) hx hb dX12_beginsAt_51 (by decide) ?_
    exact J_68 [] ls v5878 v5866 x2  (lv_sub hl [0, 1, 2, 3, 4, 5] rfl) ⟨by omega, by omega⟩ ⟨by omega, by omega⟩ (by omega) hS
theorem dX12_fine_0g : (decode cX12_fine 0 = .ok (.aload_n 0, 1)) ∧ (decode cX12_fine 1 = .ok (.getfield 159, 3)) ∧ (decode cX12_fine 4 = .ok (.iconst (-1), 1)) ∧ (decode cX12_fine 5 = .ok (.if_icmp .ne 7, 3)) ∧ (decode cX12_fine 8 = .ok (.iconst 1, 1)) ∧ (decode cX12_fine 9 = .ok (.goto 4, 3)) ∧ (decode cX12_fine 12 = .ok (.iconst 0, 1)) ∧ (decode cX12_fine 13 = .ok (.ireturn, 1)) := by decide +kernel
theorem dX12_fine_0 : decode cX12_fine 0 = .ok (.aload_n 0, 1) := dX12_fine_0g.1
theorem dX12_fine_1 : decode cX12_fine 1 = .ok (.getfield 159, 3) := dX12_fine_0g.2.1
theorem dX12_fine_4 : decode cX12_fine 4 = .ok (.iconst (-1), 1) := dX12_fine_0g.2.2.1
theorem dX12_fine_5 : decode cX12_fine 5 = .ok (.if_icmp .ne 7, 3) := dX12_fine_0g.2.2.2.1
theorem dX12_fine_8 : decode cX12_fine 8 = .ok (.iconst 1, 1) := dX12_fine_0g.2.2.2.2.1
theorem dX12_fine_9 : decode cX12_fine 9 = .ok (.goto 4, 3) := dX12_fine_0g.2.2.2.2.2.1
theorem dX12_fine_12 : decode cX12_fine 12 = .ok (.iconst 0, 1) := dX12_fine_0g.2.2.2.2.2.2.1
theorem dX12_fine_13 : decode cX12_fine 13 = .ok (.ireturn, 1) := dX12_fine_0g.2.2.2.2.2.2.2
set_option maxHeartbeats 4000000 in
set_option maxRecDepth 100000 in
theorem c_X12_fine (l : Launch) (E : Nat → Nat) (D : va_G) (G : th_G) (H0 : Heap) (h0 : Nat) (hG0 : G h0 = some (10, 0)) (ff cd : Nat → Int32) (TT pp : Nat) (bb : Int32) (hE : RD E D G h0 ff cd TT pp bb H0) : Met l yX12_fine (tb (.code yX12_fine cX12_fine 1 (some .boolean))) (rm 0) (va_Pc [.ref h0] (PR E D G H0)) (QS H0 (fun r => ((r : Int32) = 1 ∧ bb.toInt = -1) ∨ ((r : Int32) = 0 ∧ bb.toInt ≠ -1))) 0 0 (fun _ => False) := by
  refine Met.ofW (cc := cX12_fine) (maxL := 1) (ret := (some .boolean)) (by decide) rfl ?_
  intro p e s m args below meth c s₁ B hml hv
  obtain ⟨hav, rfl, hI, hN, hK⟩ := hv
  have hx := B.exec
  have hb := B.bytes
  have hr := B.returns
  have hts := atoms_spec (ws := tb (.code yX12_fine cX12_fine 1 (some .boolean))) B.pre
  have hown : s.vm.findClass RX12 = some m.cls := findClass_of_methodNamed B.named
  have hlocks := B.notSynchronized
  have hS : va_S (fun _ => False) s.heap s.heap [] := va_S.rf
  have hl := lv_entry ([.ref h0]) (n := 1) (Nat.le_of_ble_eq_true rfl)
  rw [show entryFrame m args 1 = entryFrame m ([.ref h0] : List Value).toArray 1 from by rw [hav], lg_entry_eq]
  generalize (lg_sl ([.ref h0]) ++ List.replicate (1 - (lg_sl ([.ref h0])).length) Slot.unset).toArray = ls at hl ⊢
  have hl : lv_has ls 1 [(0, .ref h0)] := hl
  generalize hR : (headSpec (tb (.code yX12_fine cX12_fine 1 (some .boolean))) (rm 0)).room = R
  have hR := hR.symm
  generalize hQ : MQ below (QS s.heap (fun r => ((r : Int32) = 1 ∧ bb.toInt = -1) ∨ ((r : Int32) = 0 ∧ bb.toInt ≠ -1))) args s 0 0 (fun _ => False) = QF
  have hQ := hQ.symm
  obtain ⟨hkf, hT, hz0, k14, ⟨a1, hf2, hq3, hA4⟩, ⟨a5, hf6, hq7, hA8⟩, ⟨w9, hg10, k15⟩, ⟨w11, hg12, k16⟩, hg13⟩ := hE
  refine lv_aload_n hx hb dX12_fine_0 rfl (lv_at hl 0 rfl) ?_
  refine gmI hx hb hts inT12 hown hK hI List.not_mem_nil hG0 18 (by decide) (hts _ (tb_c wd_1251)) rfl rfl dX12_fine_1 (fun w17 hg18 k19 k20 => ?_)
  obtain rfl := gf.uniq (by decide) hg13 hg18
  refine lv_iconst (v := (-1)) hx hb dX12_fine_4 (by decide) ?_
  have k21 := iv_lo bb
  have k22 := iv_hi bb
  refine lv_icmp_ne (tgt := 12) hx hb dX12_fine_5 (by decide) (fun c23 => ?_) (fun c23 => ?_)
  · skip
    have k24 := iv_ne (X := bb.toInt) (Y := (-1)) rfl (by decide) c23
    refine lv_iconst (v := 0) hx hb dX12_fine_12 (by decide) ?_
    have hpost : ((0 : Int32) = 1 ∧ bb.toInt = -1) ∨ ((0 : Int32) = 0 ∧ bb.toInt ≠ -1) := by first | exact Or.inl ⟨rfl, by omega⟩ | exact Or.inr ⟨rfl, by omega⟩
    rw [hQ]
    exact W.zret (v := 0) hx hb hr (by decide) (fun t ht hW => ⟨⟨0, (), rfl, hpost, ht⟩, hS.F ht⟩) hS.2.2 dX12_fine_13
  · skip
    have k25 := iv_eq (X := bb.toInt) (Y := (-1)) rfl (by decide) c23
    refine lv_iconst (v := 1) hx hb dX12_fine_8 (by decide) ?_
    refine lv_goto (tgt := 13) hx hb dX12_fine_9 (by decide) ?_
    have hpost : ((1 : Int32) = 1 ∧ bb.toInt = -1) ∨ ((1 : Int32) = 0 ∧ bb.toInt ≠ -1) := by first | exact Or.inl ⟨rfl, by omega⟩ | exact Or.inr ⟨rfl, by omega⟩
    rw [hQ]
    exact W.zret (v := 1) hx hb hr (by decide) (fun t ht hW => ⟨⟨1, (), rfl, hpost, ht⟩, hS.F ht⟩) hS.2.2 dX12_fine_13
theorem dX12_faults_0g : (decode cX12_faults 0 = .ok (.aload_n 0, 1)) ∧ (decode cX12_faults 1 = .ok (.invokevirtual 162, 3)) ∧ (decode cX12_faults 4 = .ok (.ifCond .eq 16, 3)) ∧ (decode cX12_faults 7 = .ok (.aload_n 0, 1)) ∧ (decode cX12_faults 8 = .ok (.aload_n 0, 1)) ∧ (decode cX12_faults 9 = .ok (.getfield 49, 3)) ∧ (decode cX12_faults 12 = .ok (.aload_n 0, 1)) ∧ (decode cX12_faults 13 = .ok (.getfield 166, 3)) ∧ (decode cX12_faults 16 = .ok (.iaload, 1)) ∧ (decode cX12_faults 17 = .ok (.putfield 159, 3)) := by decide +kernel
theorem dX12_faults_0 : decode cX12_faults 0 = .ok (.aload_n 0, 1) := dX12_faults_0g.1
theorem dX12_faults_1 : decode cX12_faults 1 = .ok (.invokevirtual 162, 3) := dX12_faults_0g.2.1
theorem dX12_faults_4 : decode cX12_faults 4 = .ok (.ifCond .eq 16, 3) := dX12_faults_0g.2.2.1
theorem dX12_faults_7 : decode cX12_faults 7 = .ok (.aload_n 0, 1) := dX12_faults_0g.2.2.2.1
theorem dX12_faults_8 : decode cX12_faults 8 = .ok (.aload_n 0, 1) := dX12_faults_0g.2.2.2.2.1
theorem dX12_faults_9 : decode cX12_faults 9 = .ok (.getfield 49, 3) := dX12_faults_0g.2.2.2.2.2.1
theorem dX12_faults_12 : decode cX12_faults 12 = .ok (.aload_n 0, 1) := dX12_faults_0g.2.2.2.2.2.2.1
theorem dX12_faults_13 : decode cX12_faults 13 = .ok (.getfield 166, 3) := dX12_faults_0g.2.2.2.2.2.2.2.1
theorem dX12_faults_16 : decode cX12_faults 16 = .ok (.iaload, 1) := dX12_faults_0g.2.2.2.2.2.2.2.2.1
theorem dX12_faults_17 : decode cX12_faults 17 = .ok (.putfield 159, 3) := dX12_faults_0g.2.2.2.2.2.2.2.2.2
theorem dX12_faults_20 : decode cX12_faults 20 = .ok (.return_, 1) := by decide +kernel
set_option maxHeartbeats 4000000 in
set_option maxRecDepth 100000 in
theorem c_X12_faults (l : Launch) (E : Nat → Nat) (D : va_G) (G : th_G) (h0 : Nat) (hG0 : G h0 = some (10, 0)) (ff cd : Nat → Int32) (TT pp : Nat) (bb : Int32) : Met l yX12_faults (tb (.code yX12_faults cX12_faults 1 none)) (rm 1) (va_Pc [.ref h0] (PX E D G (fun H => RD E D G h0 ff cd TT pp bb H))) (QXv E D G (fun H => ∃ b2 : Int32, b2.toInt ≠ -1 ∧ RD E D G h0 ff cd TT pp b2 H)) 0 0 (th_A G) := by
  refine Met.ofW (cc := cX12_faults) (maxL := 1) (ret := none) (by decide) rfl ?_
  intro p e s m args below meth c s₁ B hml hv
  obtain ⟨hav, ⟨hI, hN, hK⟩, hX⟩ := hv
  have hx := B.exec
  have hb := B.bytes
  have hr := B.returns
  have hts := atoms_spec (ws := tb (.code yX12_faults cX12_faults 1 none)) B.pre
  have hown : s.vm.findClass RX12 = some m.cls := findClass_of_methodNamed B.named
  have hlocks := B.notSynchronized
  have hS : va_S (th_A G) s.heap s.heap [] := va_S.rf
  have hl := lv_entry ([.ref h0]) (n := 1) (Nat.le_of_ble_eq_true rfl)
  rw [show entryFrame m args 1 = entryFrame m ([.ref h0] : List Value).toArray 1 from by rw [hav], lg_entry_eq]
  generalize (lg_sl ([.ref h0]) ++ List.replicate (1 - (lg_sl ([.ref h0])).length) Slot.unset).toArray = ls at hl ⊢
  have hl : lv_has ls 1 [(0, .ref h0)] := hl
  generalize hR : (headSpec (tb (.code yX12_faults cX12_faults 1 none)) (rm 1)).room = R
  have hR := hR.symm
  generalize hQ : MQ below (QXv E D G (fun H => ∃ b2 : Int32, b2.toInt ≠ -1 ∧ RD E D G h0 ff cd TT pp b2 H)) args s 0 0 (th_A G) = QF
  have hQ := hQ.symm
  obtain ⟨hkf, hT, hz0, k14, ⟨a1, hf2, hq3, hA4⟩, ⟨a5, hf6, hq7, hA8⟩, ⟨w9, hg10, k15⟩, ⟨w11, hg12, k16⟩, hg13⟩ := hX
  refine lv_aload_n hx hb dX12_faults_0 rfl (lv_at hl 0 rfl) ?_
  refine mr_i (As := []) (rest := []) (n := 0) (d := 0) ⟨hx, hb, hml, hown, hts⟩ (c_X12_fine l E D G s.heap h0 hG0  ff cd TT pp bb ⟨hkf, hT, hz0, by omega, ⟨a1, hf2, hq3, hA4⟩, ⟨a5, hf6, hq7, hA8⟩, ⟨w9, hg10, by omega⟩, ⟨w11, hg12, by omega⟩, hg13⟩) wd_1591 wd_1593 wp_67 wd_13 wd_1594 (by decide +kernel) ⟨by rw [hR]; exact Nat.le_of_ble_eq_true rfl, by rw [hR]; exact Nat.le_of_ble_eq_true rfl⟩ hI hN hK hS hG0 rfl hl.1 rfl (Nat.le_of_ble_eq_true rfl) dX12_faults_1 ⟨Nat.zero_le _, Nat.zero_le _⟩ (fun r17 locs hp hS => ?_)
  rcases hp with ⟨rfl, hp⟩ | ⟨rfl, hp⟩
  · skip
    try simp only [rg, not_and, Int.not_le] at hp
    have hp18 := hp
    refine lv_if_eq (tgt := 20) hx hb dX12_faults_4 (by decide) (fun c => absurd c (by decide)) (fun _ => ?_)
    refine lv_aload_n hx hb dX12_faults_7 rfl (lv_at hl 0 rfl) ?_
    refine lv_aload_n hx hb dX12_faults_8 rfl (lv_at hl 0 rfl) ?_
    refine gmA hx hb hts inT12 hown hK hI List.not_mem_nil hG0 14 (by decide) (hts _ (tb_c wd_1247)) rfl rfl dX12_faults_9 (fun a19 hq20 hf21 => ?_)
    refine lv_aload_n hx hb dX12_faults_12 rfl (lv_at hl 0 rfl) ?_
    refine gmI hx hb hts inT12 hown hK hI List.not_mem_nil hG0 16 (by decide) (hts _ (tb_c wd_1249)) rfl rfl dX12_faults_13 (fun w22 hg23 k24 k25 => ?_)
    obtain rfl := gf.uniq (by decide) hg12 hg23
    obtain ⟨F26, hA27, hP28⟩ := om_6 hI hq20 List.not_mem_nil
    refine th_iald hx hb hK hA27 0 rfl (iv_in (X := w11.toInt) rfl (by omega) (by omega)) dX12_faults_16 (fun v29 e30 => ?_)
    have k31 := rgs_get hP28 e30 (X := w11.toInt) rfl (by omega) (by omega)
    refine pmI (ty := .int) hx hb hts inT12 hown hK hI List.not_mem_nil hG0 hS ⟨_, hG0⟩ 18 (by decide) (hts _ (tb_c wd_1251)) rfl rfl (by decide +kernel) rfl rfl rfl (by omega) (by omega) dX12_faults_17 (fun H locs hI hgP hS => ?_)
    have hg10 := hgP.2.2.1 15 _ (by decide) (by decide) hg10
    have hg12 := hgP.2.2.1 16 _ (by decide) (by decide) hg12
    have hg32 := hgP.2.1
    have hf2 := hgP.2.2.2 3 _ (by decide) (by decide) hf2
    have hf6 := hgP.2.2.2 12 _ (by decide) (by decide) hf6
    have hf21 := hgP.2.2.2 14 _ (by decide) (by decide) hf21
    have hA4 := va_at.kept hA4 (hgP.1 _ (m_ne hq3 hG0 (by first | decide | (dsimp only; decide))))
    have hA8 := va_at.kept hA8 (hgP.1 _ (m_ne hq7 hG0 (by first | decide | (dsimp only; decide))))
    have hA27 := va_at.kept hA27 (hgP.1 _ (m_ne hq20 hG0 (by first | decide | (dsimp only; decide))))
    have hpost : ∃ b2 : Int32, b2.toInt ≠ -1 ∧ RD E D G h0 ff cd TT pp b2 H := ⟨v29, by omega, ⟨hkf, hT, hz0, by omega, ⟨a1, hf2, hq3, hA4⟩, ⟨a5, hf6, hq7, hA8⟩, ⟨w9, hg10, by omega⟩, ⟨w11, hg12, by omega⟩, hg32⟩⟩
    rw [hQ]
    exact W.vret hx hb hr (fun t ht hW => ⟨⟨(), rfl, trivial, ⟨by rw [ht]; exact hI, hN.warm hW, va_K.moved hW.alike hK⟩, by first | (rw [ht]; exact hpost) | exact hpost⟩, hS.F ht⟩) hS.2.2 dX12_faults_20
  · skip
    try simp only [rg, not_and, Int.not_le] at hp
    have hp33 := hp
    refine lv_if_eq (tgt := 20) hx hb dX12_faults_4 (by decide) (fun _ => ?_) (fun c => absurd c (by decide))
    have hpost : ∃ b2 : Int32, b2.toInt ≠ -1 ∧ RD E D G h0 ff cd TT pp b2 s.heap := ⟨bb, by omega, ⟨hkf, hT, hz0, by omega, ⟨a1, hf2, hq3, hA4⟩, ⟨a5, hf6, hq7, hA8⟩, ⟨w9, hg10, by omega⟩, ⟨w11, hg12, by omega⟩, hg13⟩⟩
    rw [hQ]
    exact W.vret hx hb hr (fun t ht hW => ⟨⟨(), rfl, trivial, ⟨by rw [ht]; exact hI, hN.warm hW, va_K.moved hW.alike hK⟩, by first | (rw [ht]; exact hpost) | exact hpost⟩, hS.F ht⟩) hS.2.2 dX12_faults_20
theorem dX12_takes0_0g : (decode cX12_takes0 0 = .ok (.aload_n 0, 1)) ∧ (decode cX12_takes0 1 = .ok (.invokevirtual 162, 3)) ∧ (decode cX12_takes0 4 = .ok (.ifCond .eq 20, 3)) ∧ (decode cX12_takes0 7 = .ok (.aload_n 0, 1)) ∧ (decode cX12_takes0 8 = .ok (.getfield 43, 3)) ∧ (decode cX12_takes0 11 = .ok (.aload_n 0, 1)) ∧ (decode cX12_takes0 12 = .ok (.getfield 166, 3)) ∧ (decode cX12_takes0 15 = .ok (.iaload, 1)) ∧ (decode cX12_takes0 16 = .ok (.iload_n 1, 1)) ∧ (decode cX12_takes0 17 = .ok (.if_icmp .ne 7, 3)) := by decide +kernel
theorem dX12_takes0_0 : decode cX12_takes0 0 = .ok (.aload_n 0, 1) := dX12_takes0_0g.1
theorem dX12_takes0_1 : decode cX12_takes0 1 = .ok (.invokevirtual 162, 3) := dX12_takes0_0g.2.1
theorem dX12_takes0_4 : decode cX12_takes0 4 = .ok (.ifCond .eq 20, 3) := dX12_takes0_0g.2.2.1
theorem dX12_takes0_7 : decode cX12_takes0 7 = .ok (.aload_n 0, 1) := dX12_takes0_0g.2.2.2.1
theorem dX12_takes0_8 : decode cX12_takes0 8 = .ok (.getfield 43, 3) := dX12_takes0_0g.2.2.2.2.1
theorem dX12_takes0_11 : decode cX12_takes0 11 = .ok (.aload_n 0, 1) := dX12_takes0_0g.2.2.2.2.2.1
theorem dX12_takes0_12 : decode cX12_takes0 12 = .ok (.getfield 166, 3) := dX12_takes0_0g.2.2.2.2.2.2.1
theorem dX12_takes0_15 : decode cX12_takes0 15 = .ok (.iaload, 1) := dX12_takes0_0g.2.2.2.2.2.2.2.1
theorem dX12_takes0_16 : decode cX12_takes0 16 = .ok (.iload_n 1, 1) := dX12_takes0_0g.2.2.2.2.2.2.2.2.1
theorem dX12_takes0_17 : decode cX12_takes0 17 = .ok (.if_icmp .ne 7, 3) := dX12_takes0_0g.2.2.2.2.2.2.2.2.2
theorem dX12_takes0_20g : (decode cX12_takes0 20 = .ok (.iconst 1, 1)) ∧ (decode cX12_takes0 21 = .ok (.goto 4, 3)) ∧ (decode cX12_takes0 24 = .ok (.iconst 0, 1)) ∧ (decode cX12_takes0 25 = .ok (.istore_n 2, 1)) ∧ (decode cX12_takes0 26 = .ok (.iload_n 2, 1)) ∧ (decode cX12_takes0 27 = .ok (.ifCond .eq 13, 3)) ∧ (decode cX12_takes0 30 = .ok (.aload_n 0, 1)) ∧ (decode cX12_takes0 31 = .ok (.dup, 1)) ∧ (decode cX12_takes0 32 = .ok (.getfield 166, 3)) ∧ (decode cX12_takes0 35 = .ok (.iconst 1, 1)) := by decide +kernel
theorem dX12_takes0_20 : decode cX12_takes0 20 = .ok (.iconst 1, 1) := dX12_takes0_20g.1
theorem dX12_takes0_21 : decode cX12_takes0 21 = .ok (.goto 4, 3) := dX12_takes0_20g.2.1
theorem dX12_takes0_24 : decode cX12_takes0 24 = .ok (.iconst 0, 1) := dX12_takes0_20g.2.2.1
theorem dX12_takes0_25 : decode cX12_takes0 25 = .ok (.istore_n 2, 1) := dX12_takes0_20g.2.2.2.1
theorem dX12_takes0_26 : decode cX12_takes0 26 = .ok (.iload_n 2, 1) := dX12_takes0_20g.2.2.2.2.1
theorem dX12_takes0_27 : decode cX12_takes0 27 = .ok (.ifCond .eq 13, 3) := dX12_takes0_20g.2.2.2.2.2.1
theorem dX12_takes0_30 : decode cX12_takes0 30 = .ok (.aload_n 0, 1) := dX12_takes0_20g.2.2.2.2.2.2.1
theorem dX12_takes0_31 : decode cX12_takes0 31 = .ok (.dup, 1) := dX12_takes0_20g.2.2.2.2.2.2.2.1
theorem dX12_takes0_32 : decode cX12_takes0 32 = .ok (.getfield 166, 3) := dX12_takes0_20g.2.2.2.2.2.2.2.2.1
theorem dX12_takes0_35 : decode cX12_takes0 35 = .ok (.iconst 1, 1) := dX12_takes0_20g.2.2.2.2.2.2.2.2.2
theorem dX12_takes0_36g : (decode cX12_takes0 36 = .ok (.iadd, 1)) ∧ (decode cX12_takes0 37 = .ok (.putfield 166, 3)) ∧ (decode cX12_takes0 40 = .ok (.iload_n 2, 1)) ∧ (decode cX12_takes0 41 = .ok (.ireturn, 1)) := by decide +kernel
theorem dX12_takes0_36 : decode cX12_takes0 36 = .ok (.iadd, 1) := dX12_takes0_36g.1
theorem dX12_takes0_37 : decode cX12_takes0 37 = .ok (.putfield 166, 3) := dX12_takes0_36g.2.1
theorem dX12_takes0_40 : decode cX12_takes0 40 = .ok (.iload_n 2, 1) := dX12_takes0_36g.2.2.1
theorem dX12_takes0_41 : decode cX12_takes0 41 = .ok (.ireturn, 1) := dX12_takes0_36g.2.2.2
set_option maxHeartbeats 4000000 in
set_option maxRecDepth 100000 in
theorem c_X12_takes0 (l : Launch) (E : Nat → Nat) (D : va_G) (G : th_G) (h0 : Nat) (hG0 : G h0 = some (10, 0)) (x1 : Int32) (ff cd : Nat → Int32) (TT pp : Nat) (bb : Int32) (hx0 : x1.toInt ≠ 0) : Met l yX12_takes0 (tb (.code yX12_takes0 cX12_takes0 3 (some .boolean))) (rm 1) (va_Pc [.ref h0, .int x1] (PX E D G (fun H => RD E D G h0 ff cd TT pp bb H))) (QXi E D G (fun r H => ((r : Int32) = 1 ∧ (bb.toInt = -1 ∧ rC cd TT pp = x1.toInt ∧ pp < TT ∧ RD E D G h0 ff cd TT (pp + 1) bb H)) ∨ ((r : Int32) = 0 ∧ ((bb.toInt ≠ -1 ∨ rC cd TT pp ≠ x1.toInt) ∧ RD E D G h0 ff cd TT pp bb H)))) 0 0 (th_A G) := by
  refine Met.ofW (cc := cX12_takes0) (maxL := 3) (ret := (some .boolean)) (by decide) rfl ?_
  intro p e s m args below meth c s₁ B hml hv
  obtain ⟨hav, ⟨hI, hN, hK⟩, hX⟩ := hv
  have hx := B.exec
  have hb := B.bytes
  have hr := B.returns
  have hts := atoms_spec (ws := tb (.code yX12_takes0 cX12_takes0 3 (some .boolean))) B.pre
  have hown : s.vm.findClass RX12 = some m.cls := findClass_of_methodNamed B.named
  have hlocks := B.notSynchronized
  have hS : va_S (th_A G) s.heap s.heap [] := va_S.rf
  have hl := lv_entry ([.ref h0, .int x1]) (n := 3) (Nat.le_of_ble_eq_true rfl)
  rw [show entryFrame m args 3 = entryFrame m ([.ref h0, .int x1] : List Value).toArray 3 from by rw [hav], lg_entry_eq]
  generalize (lg_sl ([.ref h0, .int x1]) ++ List.replicate (3 - (lg_sl ([.ref h0, .int x1])).length) Slot.unset).toArray = ls at hl ⊢
  have hl : lv_has ls 3 [(0, .ref h0), (1, .int x1)] := hl
  generalize hR : (headSpec (tb (.code yX12_takes0 cX12_takes0 3 (some .boolean))) (rm 1)).room = R
  have hR := hR.symm
  generalize hQ : MQ below (QXi E D G (fun r H => ((r : Int32) = 1 ∧ (bb.toInt = -1 ∧ rC cd TT pp = x1.toInt ∧ pp < TT ∧ RD E D G h0 ff cd TT (pp + 1) bb H)) ∨ ((r : Int32) = 0 ∧ ((bb.toInt ≠ -1 ∨ rC cd TT pp ≠ x1.toInt) ∧ RD E D G h0 ff cd TT pp bb H)))) args s 0 0 (th_A G) = QF
  have hQ := hQ.symm
  obtain ⟨hkf, hT, hz0, k14, ⟨a1, hf2, hq3, hA4⟩, ⟨a5, hf6, hq7, hA8⟩, ⟨w9, hg10, k15⟩, ⟨w11, hg12, k16⟩, hg13⟩ := hX
  refine lv_aload_n hx hb dX12_takes0_0 rfl (lv_at hl 0 rfl) ?_
  refine mr_i (As := []) (rest := []) (n := 0) (d := 0) ⟨hx, hb, hml, hown, hts⟩ (c_X12_fine l E D G s.heap h0 hG0  ff cd TT pp bb ⟨hkf, hT, hz0, by omega, ⟨a1, hf2, hq3, hA4⟩, ⟨a5, hf6, hq7, hA8⟩, ⟨w9, hg10, by omega⟩, ⟨w11, hg12, by omega⟩, hg13⟩) wd_1591 wd_1593 wp_67 wd_13 wd_1594 (by decide +kernel) ⟨by rw [hR]; exact Nat.le_of_ble_eq_true rfl, by rw [hR]; exact Nat.le_of_ble_eq_true rfl⟩ hI hN hK hS hG0 rfl hl.1 rfl (Nat.le_of_ble_eq_true rfl) dX12_takes0_1 ⟨Nat.zero_le _, Nat.zero_le _⟩ (fun r17 locs hp hS => ?_)
  rcases hp with ⟨rfl, hp⟩ | ⟨rfl, hp⟩
  · skip
    try simp only [rg, not_and, Int.not_le] at hp
    have hp18 := hp
    refine lv_if_eq (tgt := 24) hx hb dX12_takes0_4 (by decide) (fun c => absurd c (by decide)) (fun _ => ?_)
    refine lv_aload_n hx hb dX12_takes0_7 rfl (lv_at hl 0 rfl) ?_
    refine gmA hx hb hts inT12 hown hK hI List.not_mem_nil hG0 12 (by decide) (hts _ (tb_c wd_1245)) rfl rfl dX12_takes0_8 (fun a19 hq20 hf21 => ?_)
    obtain rfl := fr.uniq (by decide) hf6 hf21
    refine lv_aload_n hx hb dX12_takes0_11 rfl (lv_at hl 0 rfl) ?_
    refine gmI hx hb hts inT12 hown hK hI List.not_mem_nil hG0 16 (by decide) (hts _ (tb_c wd_1249)) rfl rfl dX12_takes0_12 (fun w22 hg23 k24 k25 => ?_)
    obtain rfl := gf.uniq (by decide) hg12 hg23
    refine th_iald hx hb hK hA8 0 rfl (iv_in (X := w11.toInt) rfl (by omega) (by omega)) dX12_takes0_15 (fun v26 e27 => ?_)
    have hrc0 := rC_rd (TT := TT) e27 (j := pp) (by omega) (by omega) hz0
    refine lv_iload_n hx hb dX12_takes0_16 rfl (lv_at hl 1 rfl) ?_
    have k28 := iv_lo v26
    have k29 := iv_hi v26
    have k30 := iv_lo x1
    have k31 := iv_hi x1
    refine lv_icmp_ne (tgt := 24) hx hb dX12_takes0_17 (by decide) (fun c32 => ?_) (fun c32 => ?_)
    · skip
      have k33 := iv_ne (X := v26.toInt) (Y := x1.toInt) rfl rfl c32
      refine lv_iconst (v := 0) hx hb dX12_takes0_24 (by decide) ?_
      refine lv_istore_n (lv' := [(2, .int 0), (0, .ref h0), (1, .int x1)]) hx hb dX12_takes0_25 rfl hl (by decide) rfl (fun ls hl => ?_)
      refine lv_iload_n hx hb dX12_takes0_26 rfl (lv_at hl 0 rfl) ?_
      refine lv_if_eq (tgt := 40) hx hb dX12_takes0_27 (by decide) (fun _ => ?_) (fun c => absurd c (by decide))
      refine lv_iload_n hx hb dX12_takes0_40 rfl (lv_at hl 0 rfl) ?_
      have hpost : ((0 : Int32) = 1 ∧ (bb.toInt = -1 ∧ rC cd TT pp = x1.toInt ∧ pp < TT ∧ RD E D G h0 ff cd TT (pp + 1) bb s.heap)) ∨ ((0 : Int32) = 0 ∧ ((bb.toInt ≠ -1 ∨ rC cd TT pp ≠ x1.toInt) ∧ RD E D G h0 ff cd TT pp bb s.heap)) := Or.inr ⟨rfl, Or.inr (by omega), ⟨hkf, hT, hz0, by omega, ⟨a1, hf2, hq3, hA4⟩, ⟨a5, hf6, hq7, hA8⟩, ⟨w9, hg10, by omega⟩, ⟨w11, hg12, by omega⟩, hg13⟩⟩
      rw [hQ]
      exact W.zret (v := 0) hx hb hr (by decide) (fun t ht hW => ⟨⟨0, 0, rfl, rfl, ⟨by rw [ht]; exact hI, hN.warm hW, va_K.moved hW.alike hK⟩, by first | (rw [ht]; exact hpost) | exact hpost⟩, hS.F ht⟩) hS.2.2 dX12_takes0_41
    · skip
      have k34 := iv_eq (X := v26.toInt) (Y := x1.toInt) rfl rfl c32
      have hrc : rC cd TT pp = x1.toInt := by omega
      refine lv_iconst (v := 1) hx hb dX12_takes0_20 (by decide) ?_
      refine lv_goto (tgt := 25) hx hb dX12_takes0_21 (by decide) ?_
      refine lv_istore_n (lv' := [(2, .int 1), (0, .ref h0), (1, .int x1)]) hx hb dX12_takes0_25 rfl hl (by decide) rfl (fun ls hl => ?_)
      refine lv_iload_n hx hb dX12_takes0_26 rfl (lv_at hl 0 rfl) ?_
      refine lv_if_eq (tgt := 40) hx hb dX12_takes0_27 (by decide) (fun c => absurd c (by decide)) (fun _ => ?_)
      refine lv_aload_n hx hb dX12_takes0_30 rfl (lv_at hl 1 rfl) ?_
      refine lv_dup hx hb dX12_takes0_31 rfl ?_
      refine gmI hx hb hts inT12 hown hK hI List.not_mem_nil hG0 16 (by decide) (hts _ (tb_c wd_1249)) rfl rfl dX12_takes0_32 (fun w35 hg36 k37 k38 => ?_)
      obtain rfl := gf.uniq (by decide) hg12 hg36
      refine lv_iconst (v := 1) hx hb dX12_takes0_35 (by decide) ?_
      have hlt9 : pp < TT := rC_lt (cd := cd) (by omega)
      refine lv_iadd hx hb dX12_takes0_36 ?_
      refine lv_topi (fun v39 e40 => ?_)
      have tv39 : v39.toInt = w11.toInt + (1) := iv_add rfl (by decide) e40 (by omega) (by omega)
      refine pmI (ty := .int) hx hb hts inT12 hown hK hI List.not_mem_nil hG0 hS ⟨_, hG0⟩ 16 (by decide) (hts _ (tb_c wd_1249)) rfl rfl (by decide +kernel) rfl rfl rfl (by omega) (by omega) dX12_takes0_37 (fun H locs hI hgP hS => ?_)
      have hg10 := hgP.2.2.1 15 _ (by decide) (by decide) hg10
      have hg13 := hgP.2.2.1 18 _ (by decide) (by decide) hg13
      have hg41 := hgP.2.1
      have hf2 := hgP.2.2.2 3 _ (by decide) (by decide) hf2
      have hf6 := hgP.2.2.2 12 _ (by decide) (by decide) hf6
      have hA4 := va_at.kept hA4 (hgP.1 _ (m_ne hq3 hG0 (by first | decide | (dsimp only; decide))))
      have hA8 := va_at.kept hA8 (hgP.1 _ (m_ne hq7 hG0 (by first | decide | (dsimp only; decide))))
      refine lv_iload_n hx hb dX12_takes0_40 rfl (lv_at hl 0 rfl) ?_
      have hpost : ((1 : Int32) = 1 ∧ (bb.toInt = -1 ∧ rC cd TT pp = x1.toInt ∧ pp < TT ∧ RD E D G h0 ff cd TT (pp + 1) bb H)) ∨ ((1 : Int32) = 0 ∧ ((bb.toInt ≠ -1 ∨ rC cd TT pp ≠ x1.toInt) ∧ RD E D G h0 ff cd TT pp bb H)) := Or.inl ⟨rfl, by omega, hrc, rC_lt (cd := cd) (by omega), ⟨hkf, hT, hz0, by omega, ⟨a1, hf2, hq3, hA4⟩, ⟨a5, hf6, hq7, hA8⟩, ⟨w9, hg10, by omega⟩, ⟨v39, hg41, by omega⟩, hg13⟩⟩
      rw [hQ]
      exact W.zret (v := 1) hx hb hr (by decide) (fun t ht hW => ⟨⟨1, 1, rfl, rfl, ⟨by rw [ht]; exact hI, hN.warm hW, va_K.moved hW.alike hK⟩, by first | (rw [ht]; exact hpost) | exact hpost⟩, hS.F ht⟩) hS.2.2 dX12_takes0_41
  · skip
    try simp only [rg, not_and, Int.not_le] at hp
    have hp42 := hp
    refine lv_if_eq (tgt := 24) hx hb dX12_takes0_4 (by decide) (fun _ => ?_) (fun c => absurd c (by decide))
    refine lv_iconst (v := 0) hx hb dX12_takes0_24 (by decide) ?_
    refine lv_istore_n (lv' := [(2, .int 0), (0, .ref h0), (1, .int x1)]) hx hb dX12_takes0_25 rfl hl (by decide) rfl (fun ls hl => ?_)
    refine lv_iload_n hx hb dX12_takes0_26 rfl (lv_at hl 0 rfl) ?_
    refine lv_if_eq (tgt := 40) hx hb dX12_takes0_27 (by decide) (fun _ => ?_) (fun c => absurd c (by decide))
    refine lv_iload_n hx hb dX12_takes0_40 rfl (lv_at hl 0 rfl) ?_
    have hpost : ((0 : Int32) = 1 ∧ (bb.toInt = -1 ∧ rC cd TT pp = x1.toInt ∧ pp < TT ∧ RD E D G h0 ff cd TT (pp + 1) bb s.heap)) ∨ ((0 : Int32) = 0 ∧ ((bb.toInt ≠ -1 ∨ rC cd TT pp ≠ x1.toInt) ∧ RD E D G h0 ff cd TT pp bb s.heap)) := Or.inr ⟨rfl, Or.inl (by omega), ⟨hkf, hT, hz0, by omega, ⟨a1, hf2, hq3, hA4⟩, ⟨a5, hf6, hq7, hA8⟩, ⟨w9, hg10, by omega⟩, ⟨w11, hg12, by omega⟩, hg13⟩⟩
    rw [hQ]
    exact W.zret (v := 0) hx hb hr (by decide) (fun t ht hW => ⟨⟨0, 0, rfl, rfl, ⟨by rw [ht]; exact hI, hN.warm hW, va_K.moved hW.alike hK⟩, by first | (rw [ht]; exact hpost) | exact hpost⟩, hS.F ht⟩) hS.2.2 dX12_takes0_41
theorem dX12_must_0g : (decode cX12_must 0 = .ok (.aload_n 0, 1)) ∧ (decode cX12_must 1 = .ok (.iload_n 1, 1)) ∧ (decode cX12_must 2 = .ok (.invokevirtual 169, 3)) ∧ (decode cX12_must 5 = .ok (.ifCond .ne 7, 3)) ∧ (decode cX12_must 8 = .ok (.aload_n 0, 1)) ∧ (decode cX12_must 9 = .ok (.invokevirtual 172, 3)) ∧ (decode cX12_must 12 = .ok (.return_, 1)) := by decide +kernel
theorem dX12_must_0 : decode cX12_must 0 = .ok (.aload_n 0, 1) := dX12_must_0g.1
theorem dX12_must_1 : decode cX12_must 1 = .ok (.iload_n 1, 1) := dX12_must_0g.2.1
theorem dX12_must_2 : decode cX12_must 2 = .ok (.invokevirtual 169, 3) := dX12_must_0g.2.2.1
theorem dX12_must_5 : decode cX12_must 5 = .ok (.ifCond .ne 7, 3) := dX12_must_0g.2.2.2.1
theorem dX12_must_8 : decode cX12_must 8 = .ok (.aload_n 0, 1) := dX12_must_0g.2.2.2.2.1
theorem dX12_must_9 : decode cX12_must 9 = .ok (.invokevirtual 172, 3) := dX12_must_0g.2.2.2.2.2.1
theorem dX12_must_12 : decode cX12_must 12 = .ok (.return_, 1) := dX12_must_0g.2.2.2.2.2.2
set_option maxHeartbeats 4000000 in
set_option maxRecDepth 100000 in
theorem c_X12_must (l : Launch) (E : Nat → Nat) (D : va_G) (G : th_G) (h0 : Nat) (hG0 : G h0 = some (10, 0)) (x1 : Int32) (ff cd : Nat → Int32) (TT pp : Nat) (bb : Int32) (hx0 : x1.toInt ≠ 0) : Met l yX12_must (tb (.code yX12_must cX12_must 2 none)) (rm 2) (va_Pc [.ref h0, .int x1] (PX E D G (fun H => RD E D G h0 ff cd TT pp bb H))) (QXv E D G (fun H => ∃ (p2 : Nat) (b2 : Int32), RD E D G h0 ff cd TT p2 b2 H ∧ pp ≤ p2 ∧ (b2.toInt = -1 → bb.toInt = -1 ∧ rC cd TT pp = x1.toInt ∧ p2 = pp + 1))) 0 0 (th_A G) := by
  refine Met.ofW (cc := cX12_must) (maxL := 2) (ret := none) (by decide) rfl ?_
  intro p e s m args below meth c s₁ B hml hv
  obtain ⟨hav, ⟨hI, hN, hK⟩, hX⟩ := hv
  have hx := B.exec
  have hb := B.bytes
  have hr := B.returns
  have hts := atoms_spec (ws := tb (.code yX12_must cX12_must 2 none)) B.pre
  have hown : s.vm.findClass RX12 = some m.cls := findClass_of_methodNamed B.named
  have hlocks := B.notSynchronized
  have hS : va_S (th_A G) s.heap s.heap [] := va_S.rf
  have hl := lv_entry ([.ref h0, .int x1]) (n := 2) (Nat.le_of_ble_eq_true rfl)
  rw [show entryFrame m args 2 = entryFrame m ([.ref h0, .int x1] : List Value).toArray 2 from by rw [hav], lg_entry_eq]
  generalize (lg_sl ([.ref h0, .int x1]) ++ List.replicate (2 - (lg_sl ([.ref h0, .int x1])).length) Slot.unset).toArray = ls at hl ⊢
  have hl : lv_has ls 2 [(0, .ref h0), (1, .int x1)] := hl
  generalize hR : (headSpec (tb (.code yX12_must cX12_must 2 none)) (rm 2)).room = R
  have hR := hR.symm
  generalize hQ : MQ below (QXv E D G (fun H => ∃ (p2 : Nat) (b2 : Int32), RD E D G h0 ff cd TT p2 b2 H ∧ pp ≤ p2 ∧ (b2.toInt = -1 → bb.toInt = -1 ∧ rC cd TT pp = x1.toInt ∧ p2 = pp + 1))) args s 0 0 (th_A G) = QF
  have hQ := hQ.symm
  obtain ⟨hkf, hT, hz0, k14, ⟨a1, hf2, hq3, hA4⟩, ⟨a5, hf6, hq7, hA8⟩, ⟨w9, hg10, k15⟩, ⟨w11, hg12, k16⟩, hg13⟩ := hX
  refine lv_aload_n hx hb dX12_must_0 rfl (lv_at hl 0 rfl) ?_
  refine lv_iload_n hx hb dX12_must_1 rfl (lv_at hl 1 rfl) ?_
  refine mx_i (As := [.int x1]) (rest := []) (n := 1) (d := 1) ⟨hx, hb, hml, hown, hts⟩ (c_X12_takes0 l E D G h0 hG0 x1 ff cd TT pp bb (by first | decide | omega)) wd_1587 wd_1589 wp_66 wd_13 wd_1590 (by decide +kernel) ⟨by rw [hR]; exact Nat.le_of_ble_eq_true rfl, by rw [hR]; exact Nat.le_of_ble_eq_true rfl⟩ hI hN hK hS hG0 (⟨hkf, hT, hz0, by omega, ⟨a1, hf2, hq3, hA4⟩, ⟨a5, hf6, hq7, hA8⟩, ⟨w9, hg10, by omega⟩, ⟨w11, hg12, by omega⟩, hg13⟩) rfl hl.1 rfl (Nat.le_of_ble_eq_true rfl) dX12_must_2 ⟨Nat.zero_le _, Nat.zero_le _⟩ (fun r17 H locs hI hp hS => ?_)
  rcases hp with ⟨rfl, hp⟩ | ⟨rfl, hp⟩
  · skip
    try simp only [rg, not_and, Int.not_le] at hp
    have hp18 := hp
    obtain ⟨hb19, hc20, k21, hE⟩ := hp18
    have hp18 : True := trivial
    obtain ⟨hkf, hT, hz0, k35, ⟨a22, hf23, hq24, hA25⟩, ⟨a26, hf27, hq28, hA29⟩, ⟨w30, hg31, k36⟩, ⟨w32, hg33, k37⟩, hg34⟩ := hE
    refine lv_if_ne (tgt := 12) hx hb dX12_must_5 (by decide) (fun _ => ?_) (fun c => absurd c (by decide))
    have hpost : ∃ (p2 : Nat) (b2 : Int32), RD E D G h0 ff cd TT p2 b2 H ∧ pp ≤ p2 ∧ (b2.toInt = -1 → bb.toInt = -1 ∧ rC cd TT pp = x1.toInt ∧ p2 = pp + 1) := ⟨(pp + 1), bb, ⟨hkf, hT, hz0, by omega, ⟨a22, hf23, hq24, hA25⟩, ⟨a26, hf27, hq28, hA29⟩, ⟨w30, hg31, by omega⟩, ⟨w32, hg33, by omega⟩, hg34⟩, by omega, fun h => ⟨by omega, hc20, by omega⟩⟩
    rw [hQ]
    exact W.vret hx hb hr (fun t ht hW => ⟨⟨(), rfl, trivial, ⟨by rw [ht]; exact hI, hN.warm hW, va_K.moved hW.alike hK⟩, by first | (rw [ht]; exact hpost) | exact hpost⟩, hS.F ht⟩) hS.2.2 dX12_must_12
  · skip
    try simp only [rg, not_and, Int.not_le] at hp
    have hp38 := hp
    obtain ⟨hc39, hE⟩ := hp38
    have hp38 : True := trivial
    obtain ⟨hkf, hT, hz0, k53, ⟨a40, hf41, hq42, hA43⟩, ⟨a44, hf45, hq46, hA47⟩, ⟨w48, hg49, k54⟩, ⟨w50, hg51, k55⟩, hg52⟩ := hE
    refine lv_if_ne (tgt := 12) hx hb dX12_must_5 (by decide) (fun c => absurd c (by decide)) (fun _ => ?_)
    refine lv_aload_n hx hb dX12_must_8 rfl (lv_at hl 0 rfl) ?_
    refine mx_v (As := []) (rest := []) (n := 0) (d := 1) ⟨hx, hb, hml, hown, hts⟩ (c_X12_faults l E D G h0 hG0  ff cd TT pp bb) wd_1607 wd_1609 wp_71 wd_13 wd_1610 (by decide +kernel) ⟨by rw [hR]; exact Nat.le_of_ble_eq_true rfl, by rw [hR]; exact Nat.le_of_ble_eq_true rfl⟩ hI hN hK hS hG0 (⟨hkf, hT, hz0, by omega, ⟨a40, hf41, hq42, hA43⟩, ⟨a44, hf45, hq46, hA47⟩, ⟨w48, hg49, by omega⟩, ⟨w50, hg51, by omega⟩, hg52⟩) rfl hl.1 rfl (Nat.le_of_ble_eq_true rfl) dX12_must_9 ⟨Nat.zero_le _, Nat.zero_le _⟩ (fun H locs hI hp hS => ?_)
    obtain ⟨bn57, hb58, hE⟩ := hp
    obtain ⟨hkf, hT, hz0, k72, ⟨a59, hf60, hq61, hA62⟩, ⟨a63, hf64, hq65, hA66⟩, ⟨w67, hg68, k73⟩, ⟨w69, hg70, k74⟩, hg71⟩ := hE
    have hpost : ∃ (p2 : Nat) (b2 : Int32), RD E D G h0 ff cd TT p2 b2 H ∧ pp ≤ p2 ∧ (b2.toInt = -1 → bb.toInt = -1 ∧ rC cd TT pp = x1.toInt ∧ p2 = pp + 1) := ⟨pp, bn57, ⟨hkf, hT, hz0, by omega, ⟨a59, hf60, hq61, hA62⟩, ⟨a63, hf64, hq65, hA66⟩, ⟨w67, hg68, by omega⟩, ⟨w69, hg70, by omega⟩, hg71⟩, by omega, fun h => absurd h (by omega)⟩
    rw [hQ]
    exact W.vret hx hb hr (fun t ht hW => ⟨⟨(), rfl, trivial, ⟨by rw [ht]; exact hI, hN.warm hW, va_K.moved hW.alike hK⟩, by first | (rw [ht]; exact hpost) | exact hpost⟩, hS.F ht⟩) hS.2.2 dX12_must_12
theorem dX12_leaf_0g : (decode cX12_leaf 0 = .ok (.aload_n 0, 1)) ∧ (decode cX12_leaf 1 = .ok (.getfield 175, 3)) ∧ (decode cX12_leaf 4 = .ok (.bipush 50, 2)) ∧ (decode cX12_leaf 6 = .ok (.if_icmp .ne 7, 3)) ∧ (decode cX12_leaf 9 = .ok (.aload_n 0, 1)) ∧ (decode cX12_leaf 10 = .ok (.invokevirtual 172, 3)) ∧ (decode cX12_leaf 13 = .ok (.aload_n 0, 1)) ∧ (decode cX12_leaf 14 = .ok (.dup, 1)) ∧ (decode cX12_leaf 15 = .ok (.getfield 175, 3)) ∧ (decode cX12_leaf 18 = .ok (.iconst 1, 1)) := by decide +kernel
theorem dX12_leaf_0 : decode cX12_leaf 0 = .ok (.aload_n 0, 1) := dX12_leaf_0g.1
theorem dX12_leaf_1 : decode cX12_leaf 1 = .ok (.getfield 175, 3) := dX12_leaf_0g.2.1
theorem dX12_leaf_4 : decode cX12_leaf 4 = .ok (.bipush 50, 2) := dX12_leaf_0g.2.2.1
theorem dX12_leaf_6 : decode cX12_leaf 6 = .ok (.if_icmp .ne 7, 3) := dX12_leaf_0g.2.2.2.1
theorem dX12_leaf_9 : decode cX12_leaf 9 = .ok (.aload_n 0, 1) := dX12_leaf_0g.2.2.2.2.1
theorem dX12_leaf_10 : decode cX12_leaf 10 = .ok (.invokevirtual 172, 3) := dX12_leaf_0g.2.2.2.2.2.1
theorem dX12_leaf_13 : decode cX12_leaf 13 = .ok (.aload_n 0, 1) := dX12_leaf_0g.2.2.2.2.2.2.1
theorem dX12_leaf_14 : decode cX12_leaf 14 = .ok (.dup, 1) := dX12_leaf_0g.2.2.2.2.2.2.2.1
theorem dX12_leaf_15 : decode cX12_leaf 15 = .ok (.getfield 175, 3) := dX12_leaf_0g.2.2.2.2.2.2.2.2.1
theorem dX12_leaf_18 : decode cX12_leaf 18 = .ok (.iconst 1, 1) := dX12_leaf_0g.2.2.2.2.2.2.2.2.2
theorem dX12_leaf_19g : (decode cX12_leaf 19 = .ok (.iadd, 1)) ∧ (decode cX12_leaf 20 = .ok (.putfield 175, 3)) ∧ (decode cX12_leaf 23 = .ok (.aload_n 0, 1)) ∧ (decode cX12_leaf 24 = .ok (.invokevirtual 162, 3)) ∧ (decode cX12_leaf 27 = .ok (.ifCond .eq 13, 3)) ∧ (decode cX12_leaf 30 = .ok (.aload_n 0, 1)) ∧ (decode cX12_leaf 31 = .ok (.dup, 1)) ∧ (decode cX12_leaf 32 = .ok (.getfield 166, 3)) ∧ (decode cX12_leaf 35 = .ok (.iconst 1, 1)) ∧ (decode cX12_leaf 36 = .ok (.iadd, 1)) := by decide +kernel
theorem dX12_leaf_19 : decode cX12_leaf 19 = .ok (.iadd, 1) := dX12_leaf_19g.1
theorem dX12_leaf_20 : decode cX12_leaf 20 = .ok (.putfield 175, 3) := dX12_leaf_19g.2.1
theorem dX12_leaf_23 : decode cX12_leaf 23 = .ok (.aload_n 0, 1) := dX12_leaf_19g.2.2.1
theorem dX12_leaf_24 : decode cX12_leaf 24 = .ok (.invokevirtual 162, 3) := dX12_leaf_19g.2.2.2.1
theorem dX12_leaf_27 : decode cX12_leaf 27 = .ok (.ifCond .eq 13, 3) := dX12_leaf_19g.2.2.2.2.1
theorem dX12_leaf_30 : decode cX12_leaf 30 = .ok (.aload_n 0, 1) := dX12_leaf_19g.2.2.2.2.2.1
theorem dX12_leaf_31 : decode cX12_leaf 31 = .ok (.dup, 1) := dX12_leaf_19g.2.2.2.2.2.2.1
theorem dX12_leaf_32 : decode cX12_leaf 32 = .ok (.getfield 166, 3) := dX12_leaf_19g.2.2.2.2.2.2.2.1
theorem dX12_leaf_35 : decode cX12_leaf 35 = .ok (.iconst 1, 1) := dX12_leaf_19g.2.2.2.2.2.2.2.2.1
theorem dX12_leaf_36 : decode cX12_leaf 36 = .ok (.iadd, 1) := dX12_leaf_19g.2.2.2.2.2.2.2.2.2
theorem dX12_leaf_37g : (decode cX12_leaf 37 = .ok (.putfield 166, 3)) ∧ (decode cX12_leaf 40 = .ok (.return_, 1)) := by decide +kernel
theorem dX12_leaf_37 : decode cX12_leaf 37 = .ok (.putfield 166, 3) := dX12_leaf_37g.1
theorem dX12_leaf_40 : decode cX12_leaf 40 = .ok (.return_, 1) := dX12_leaf_37g.2
set_option maxHeartbeats 4000000 in
set_option maxRecDepth 100000 in
theorem c_X12_leaf (l : Launch) (E : Nat → Nat) (D : va_G) (G : th_G) (h0 : Nat) (hG0 : G h0 = some (10, 0)) (ff cd : Nat → Int32) (TT pp : Nat) (bb : Int32) (hlt : pp < TT) : Met l yX12_leaf (tb (.code yX12_leaf cX12_leaf 1 none)) (rm 2) (va_Pc [.ref h0] (PX E D G (fun H => RD E D G h0 ff cd TT pp bb H))) (QXv E D G (fun H => ∃ (p2 : Nat) (b2 : Int32), RD E D G h0 ff cd TT p2 b2 H ∧ pp ≤ p2 ∧ (b2.toInt = -1 → bb.toInt = -1 ∧ p2 = pp + 1))) 0 0 (th_A G) := by
  refine Met.ofW (cc := cX12_leaf) (maxL := 1) (ret := none) (by decide) rfl ?_
  intro p e s m args below meth c s₁ B hml hv
  obtain ⟨hav, ⟨hI, hN, hK⟩, hX⟩ := hv
  have hx := B.exec
  have hb := B.bytes
  have hr := B.returns
  have hts := atoms_spec (ws := tb (.code yX12_leaf cX12_leaf 1 none)) B.pre
  have hown : s.vm.findClass RX12 = some m.cls := findClass_of_methodNamed B.named
  have hlocks := B.notSynchronized
  have hS : va_S (th_A G) s.heap s.heap [] := va_S.rf
  have hl := lv_entry ([.ref h0]) (n := 1) (Nat.le_of_ble_eq_true rfl)
  rw [show entryFrame m args 1 = entryFrame m ([.ref h0] : List Value).toArray 1 from by rw [hav], lg_entry_eq]
  generalize (lg_sl ([.ref h0]) ++ List.replicate (1 - (lg_sl ([.ref h0])).length) Slot.unset).toArray = ls at hl ⊢
  have hl : lv_has ls 1 [(0, .ref h0)] := hl
  generalize hR : (headSpec (tb (.code yX12_leaf cX12_leaf 1 none)) (rm 2)).room = R
  have hR := hR.symm
  generalize hQ : MQ below (QXv E D G (fun H => ∃ (p2 : Nat) (b2 : Int32), RD E D G h0 ff cd TT p2 b2 H ∧ pp ≤ p2 ∧ (b2.toInt = -1 → bb.toInt = -1 ∧ p2 = pp + 1))) args s 0 0 (th_A G) = QF
  have hQ := hQ.symm
  obtain ⟨hkf, hT, hz0, k14, ⟨a1, hf2, hq3, hA4⟩, ⟨a5, hf6, hq7, hA8⟩, ⟨w9, hg10, k15⟩, ⟨w11, hg12, k16⟩, hg13⟩ := hX
  refine lv_aload_n hx hb dX12_leaf_0 rfl (lv_at hl 0 rfl) ?_
  refine gmI hx hb hts inT12 hown hK hI List.not_mem_nil hG0 17 (by decide) (hts _ (tb_c wd_1250)) rfl rfl dX12_leaf_1 (fun w17 hg18 k19 k20 => ?_)
  refine lv_bipush (v := 50) hx hb dX12_leaf_4 (by decide) ?_
  refine lv_icmp_ne (tgt := 13) hx hb dX12_leaf_6 (by decide) (fun c21 => ?_) (fun c21 => ?_)
  · skip
    have k22 := iv_ne (X := w17.toInt) (Y := (50)) rfl (by decide) c21
    refine lv_aload_n hx hb dX12_leaf_13 rfl (lv_at hl 0 rfl) ?_
    refine lv_dup hx hb dX12_leaf_14 rfl ?_
    refine gmI hx hb hts inT12 hown hK hI List.not_mem_nil hG0 17 (by decide) (hts _ (tb_c wd_1250)) rfl rfl dX12_leaf_15 (fun w23 hg24 k25 k26 => ?_)
    obtain rfl := gf.uniq (by decide) hg18 hg24
    refine lv_iconst (v := 1) hx hb dX12_leaf_18 (by decide) ?_
    refine lv_iadd hx hb dX12_leaf_19 ?_
    refine lv_topi (fun v27 e28 => ?_)
    try have tv27 : v27.toInt = w17.toInt + (1) := iv_add rfl (by decide) e28 (by omega) (by omega)
    have k29 := iv_lo v27
    have k30 := iv_hi v27
    refine pmI (ty := .int) hx hb hts inT12 hown hK hI List.not_mem_nil hG0 hS ⟨_, hG0⟩ 17 (by decide) (hts _ (tb_c wd_1250)) rfl rfl (by decide +kernel) rfl rfl rfl (by omega) (by omega) dX12_leaf_20 (fun H locs hI hgP hS => ?_)
    have hg10 := hgP.2.2.1 15 _ (by decide) (by decide) hg10
    have hg12 := hgP.2.2.1 16 _ (by decide) (by decide) hg12
    have hg13 := hgP.2.2.1 18 _ (by decide) (by decide) hg13
    have hg31 := hgP.2.1
    have hf2 := hgP.2.2.2 3 _ (by decide) (by decide) hf2
    have hf6 := hgP.2.2.2 12 _ (by decide) (by decide) hf6
    have hA4 := va_at.kept hA4 (hgP.1 _ (m_ne hq3 hG0 (by first | decide | (dsimp only; decide))))
    have hA8 := va_at.kept hA8 (hgP.1 _ (m_ne hq7 hG0 (by first | decide | (dsimp only; decide))))
    refine lv_aload_n hx hb dX12_leaf_23 rfl (lv_at hl 0 rfl) ?_
    refine mr_i (As := []) (rest := []) (n := 0) (d := 0) ⟨hx, hb, hml, hown, hts⟩ (c_X12_fine l E D G H h0 hG0  ff cd TT pp bb ⟨hkf, hT, hz0, by omega, ⟨a1, hf2, hq3, hA4⟩, ⟨a5, hf6, hq7, hA8⟩, ⟨w9, hg10, by omega⟩, ⟨w11, hg12, by omega⟩, hg13⟩) wd_1591 wd_1593 wp_67 wd_13 wd_1594 (by decide +kernel) ⟨by rw [hR]; exact Nat.le_of_ble_eq_true rfl, by rw [hR]; exact Nat.le_of_ble_eq_true rfl⟩ hI hN hK hS hG0 rfl hl.1 rfl (Nat.le_of_ble_eq_true rfl) dX12_leaf_24 ⟨Nat.zero_le _, Nat.zero_le _⟩ (fun r32 locs hp hS => ?_)
    rcases hp with ⟨rfl, hp⟩ | ⟨rfl, hp⟩
    · skip
      try simp only [rg, not_and, Int.not_le] at hp
      have hp33 := hp
      refine lv_if_eq (tgt := 40) hx hb dX12_leaf_27 (by decide) (fun c => absurd c (by decide)) (fun _ => ?_)
      refine lv_aload_n hx hb dX12_leaf_30 rfl (lv_at hl 0 rfl) ?_
      refine lv_dup hx hb dX12_leaf_31 rfl ?_
      refine gmI hx hb hts inT12 hown hK hI List.not_mem_nil hG0 16 (by decide) (hts _ (tb_c wd_1249)) rfl rfl dX12_leaf_32 (fun w34 hg35 k36 k37 => ?_)
      obtain rfl := gf.uniq (by decide) hg12 hg35
      refine lv_iconst (v := 1) hx hb dX12_leaf_35 (by decide) ?_
      refine lv_iadd hx hb dX12_leaf_36 ?_
      refine lv_topi (fun v38 e39 => ?_)
      have tv38 : v38.toInt = w11.toInt + (1) := iv_add rfl (by decide) e39 (by omega) (by omega)
      refine pmI (ty := .int) hx hb hts inT12 hown hK hI List.not_mem_nil hG0 hS ⟨_, hG0⟩ 16 (by decide) (hts _ (tb_c wd_1249)) rfl rfl (by decide +kernel) rfl rfl rfl (by omega) (by omega) dX12_leaf_37 (fun H locs hI hgP hS => ?_)
      have hg10 := hgP.2.2.1 15 _ (by decide) (by decide) hg10
      have hg13 := hgP.2.2.1 18 _ (by decide) (by decide) hg13
      have hg31 := hgP.2.2.1 17 _ (by decide) (by decide) hg31
      have hg40 := hgP.2.1
      have hf2 := hgP.2.2.2 3 _ (by decide) (by decide) hf2
      have hf6 := hgP.2.2.2 12 _ (by decide) (by decide) hf6
      have hA4 := va_at.kept hA4 (hgP.1 _ (m_ne hq3 hG0 (by first | decide | (dsimp only; decide))))
      have hA8 := va_at.kept hA8 (hgP.1 _ (m_ne hq7 hG0 (by first | decide | (dsimp only; decide))))
      have hpost : ∃ (p2 : Nat) (b2 : Int32), RD E D G h0 ff cd TT p2 b2 H ∧ pp ≤ p2 ∧ (b2.toInt = -1 → bb.toInt = -1 ∧ p2 = pp + 1) := ⟨(pp + 1), bb, ⟨hkf, hT, hz0, by omega, ⟨a1, hf2, hq3, hA4⟩, ⟨a5, hf6, hq7, hA8⟩, ⟨w9, hg10, by omega⟩, ⟨v38, hg40, by omega⟩, hg13⟩, by omega, fun h => by omega⟩
      rw [hQ]
      exact W.vret hx hb hr (fun t ht hW => ⟨⟨(), rfl, trivial, ⟨by rw [ht]; exact hI, hN.warm hW, va_K.moved hW.alike hK⟩, by first | (rw [ht]; exact hpost) | exact hpost⟩, hS.F ht⟩) hS.2.2 dX12_leaf_40
    · skip
      try simp only [rg, not_and, Int.not_le] at hp
      have hp41 := hp
      refine lv_if_eq (tgt := 40) hx hb dX12_leaf_27 (by decide) (fun _ => ?_) (fun c => absurd c (by decide))
      have hpost : ∃ (p2 : Nat) (b2 : Int32), RD E D G h0 ff cd TT p2 b2 H ∧ pp ≤ p2 ∧ (b2.toInt = -1 → bb.toInt = -1 ∧ p2 = pp + 1) := ⟨pp, bb, ⟨hkf, hT, hz0, by omega, ⟨a1, hf2, hq3, hA4⟩, ⟨a5, hf6, hq7, hA8⟩, ⟨w9, hg10, by omega⟩, ⟨w11, hg12, by omega⟩, hg13⟩, by omega, fun h => by omega⟩
      rw [hQ]
      exact W.vret hx hb hr (fun t ht hW => ⟨⟨(), rfl, trivial, ⟨by rw [ht]; exact hI, hN.warm hW, va_K.moved hW.alike hK⟩, by first | (rw [ht]; exact hpost) | exact hpost⟩, hS.F ht⟩) hS.2.2 dX12_leaf_40
  · skip
    have k42 := iv_eq (X := w17.toInt) (Y := (50)) rfl (by decide) c21
    refine lv_aload_n hx hb dX12_leaf_9 rfl (lv_at hl 0 rfl) ?_
    refine mx_v (As := []) (rest := []) (n := 0) (d := 1) ⟨hx, hb, hml, hown, hts⟩ (c_X12_faults l E D G h0 hG0  ff cd TT pp bb) wd_1607 wd_1609 wp_71 wd_13 wd_1610 (by decide +kernel) ⟨by rw [hR]; exact Nat.le_of_ble_eq_true rfl, by rw [hR]; exact Nat.le_of_ble_eq_true rfl⟩ hI hN hK hS hG0 (⟨hkf, hT, hz0, by omega, ⟨a1, hf2, hq3, hA4⟩, ⟨a5, hf6, hq7, hA8⟩, ⟨w9, hg10, by omega⟩, ⟨w11, hg12, by omega⟩, hg13⟩) rfl hl.1 rfl (Nat.le_of_ble_eq_true rfl) dX12_leaf_10 ⟨Nat.zero_le _, Nat.zero_le _⟩ (fun H locs hI hp hS => ?_)
    obtain ⟨bn44, hb45, hE⟩ := hp
    obtain ⟨hkf, hT, hz0, k59, ⟨a46, hf47, hq48, hA49⟩, ⟨a50, hf51, hq52, hA53⟩, ⟨w54, hg55, k60⟩, ⟨w56, hg57, k61⟩, hg58⟩ := hE
    refine lv_aload_n hx hb dX12_leaf_13 rfl (lv_at hl 0 rfl) ?_
    refine lv_dup hx hb dX12_leaf_14 rfl ?_
    refine gmI hx hb hts inT12 hown hK hI List.not_mem_nil hG0 17 (by decide) (hts _ (tb_c wd_1250)) rfl rfl dX12_leaf_15 (fun w62 hg63 k64 k65 => ?_)
    refine lv_iconst (v := 1) hx hb dX12_leaf_18 (by decide) ?_
    refine lv_iadd hx hb dX12_leaf_19 ?_
    refine lv_topi (fun v66 e67 => ?_)
    try have tv66 : v66.toInt = w62.toInt + (1) := iv_add rfl (by decide) e67 (by omega) (by omega)
    have k68 := iv_lo v66
    have k69 := iv_hi v66
    refine pmI (ty := .int) hx hb hts inT12 hown hK hI List.not_mem_nil hG0 hS ⟨_, hG0⟩ 17 (by decide) (hts _ (tb_c wd_1250)) rfl rfl (by decide +kernel) rfl rfl rfl (by omega) (by omega) dX12_leaf_20 (fun H locs hI hgP hS => ?_)
    have hg55 := hgP.2.2.1 15 _ (by decide) (by decide) hg55
    have hg57 := hgP.2.2.1 16 _ (by decide) (by decide) hg57
    have hg58 := hgP.2.2.1 18 _ (by decide) (by decide) hg58
    have hg70 := hgP.2.1
    have hf47 := hgP.2.2.2 3 _ (by decide) (by decide) hf47
    have hf51 := hgP.2.2.2 12 _ (by decide) (by decide) hf51
    have hA49 := va_at.kept hA49 (hgP.1 _ (m_ne hq48 hG0 (by first | decide | (dsimp only; decide))))
    have hA53 := va_at.kept hA53 (hgP.1 _ (m_ne hq52 hG0 (by first | decide | (dsimp only; decide))))
    refine lv_aload_n hx hb dX12_leaf_23 rfl (lv_at hl 0 rfl) ?_
    refine mr_i (As := []) (rest := []) (n := 0) (d := 0) ⟨hx, hb, hml, hown, hts⟩ (c_X12_fine l E D G H h0 hG0  ff cd TT pp bn44 ⟨hkf, hT, hz0, by omega, ⟨a46, hf47, hq48, hA49⟩, ⟨a50, hf51, hq52, hA53⟩, ⟨w54, hg55, by omega⟩, ⟨w56, hg57, by omega⟩, hg58⟩) wd_1591 wd_1593 wp_67 wd_13 wd_1594 (by decide +kernel) ⟨by rw [hR]; exact Nat.le_of_ble_eq_true rfl, by rw [hR]; exact Nat.le_of_ble_eq_true rfl⟩ hI hN hK hS hG0 rfl hl.1 rfl (Nat.le_of_ble_eq_true rfl) dX12_leaf_24 ⟨Nat.zero_le _, Nat.zero_le _⟩ (fun r71 locs hp hS => ?_)
    rcases hp with ⟨rfl, hp⟩ | ⟨rfl, hp⟩
    · skip
      try simp only [rg, not_and, Int.not_le] at hp
      have hp72 := hp
      refine lv_if_eq (tgt := 40) hx hb dX12_leaf_27 (by decide) (fun c => absurd c (by decide)) (fun _ => ?_)
      refine lv_aload_n hx hb dX12_leaf_30 rfl (lv_at hl 0 rfl) ?_
      refine lv_dup hx hb dX12_leaf_31 rfl ?_
      refine gmI hx hb hts inT12 hown hK hI List.not_mem_nil hG0 16 (by decide) (hts _ (tb_c wd_1249)) rfl rfl dX12_leaf_32 (fun w73 hg74 k75 k76 => ?_)
      obtain rfl := gf.uniq (by decide) hg57 hg74
      refine lv_iconst (v := 1) hx hb dX12_leaf_35 (by decide) ?_
      refine lv_iadd hx hb dX12_leaf_36 ?_
      refine lv_topi (fun v77 e78 => ?_)
      have tv77 : v77.toInt = w56.toInt + (1) := iv_add rfl (by decide) e78 (by omega) (by omega)
      refine pmI (ty := .int) hx hb hts inT12 hown hK hI List.not_mem_nil hG0 hS ⟨_, hG0⟩ 16 (by decide) (hts _ (tb_c wd_1249)) rfl rfl (by decide +kernel) rfl rfl rfl (by omega) (by omega) dX12_leaf_37 (fun H locs hI hgP hS => ?_)
      have hg55 := hgP.2.2.1 15 _ (by decide) (by decide) hg55
      have hg58 := hgP.2.2.1 18 _ (by decide) (by decide) hg58
      have hg70 := hgP.2.2.1 17 _ (by decide) (by decide) hg70
      have hg79 := hgP.2.1
      have hf47 := hgP.2.2.2 3 _ (by decide) (by decide) hf47
      have hf51 := hgP.2.2.2 12 _ (by decide) (by decide) hf51
      have hA49 := va_at.kept hA49 (hgP.1 _ (m_ne hq48 hG0 (by first | decide | (dsimp only; decide))))
      have hA53 := va_at.kept hA53 (hgP.1 _ (m_ne hq52 hG0 (by first | decide | (dsimp only; decide))))
      have hpost : ∃ (p2 : Nat) (b2 : Int32), RD E D G h0 ff cd TT p2 b2 H ∧ pp ≤ p2 ∧ (b2.toInt = -1 → bb.toInt = -1 ∧ p2 = pp + 1) := ⟨(pp + 1), bn44, ⟨hkf, hT, hz0, by omega, ⟨a46, hf47, hq48, hA49⟩, ⟨a50, hf51, hq52, hA53⟩, ⟨w54, hg55, by omega⟩, ⟨v77, hg79, by omega⟩, hg58⟩, by omega, fun h => by omega⟩
      rw [hQ]
      exact W.vret hx hb hr (fun t ht hW => ⟨⟨(), rfl, trivial, ⟨by rw [ht]; exact hI, hN.warm hW, va_K.moved hW.alike hK⟩, by first | (rw [ht]; exact hpost) | exact hpost⟩, hS.F ht⟩) hS.2.2 dX12_leaf_40
    · skip
      try simp only [rg, not_and, Int.not_le] at hp
      have hp80 := hp
      refine lv_if_eq (tgt := 40) hx hb dX12_leaf_27 (by decide) (fun _ => ?_) (fun c => absurd c (by decide))
      have hpost : ∃ (p2 : Nat) (b2 : Int32), RD E D G h0 ff cd TT p2 b2 H ∧ pp ≤ p2 ∧ (b2.toInt = -1 → bb.toInt = -1 ∧ p2 = pp + 1) := ⟨pp, bn44, ⟨hkf, hT, hz0, by omega, ⟨a46, hf47, hq48, hA49⟩, ⟨a50, hf51, hq52, hA53⟩, ⟨w54, hg55, by omega⟩, ⟨w56, hg57, by omega⟩, hg58⟩, by omega, fun h => by omega⟩
      rw [hQ]
      exact W.vret hx hb hr (fun t ht hW => ⟨⟨(), rfl, trivial, ⟨by rw [ht]; exact hI, hN.warm hW, va_K.moved hW.alike hK⟩, by first | (rw [ht]; exact hpost) | exact hpost⟩, hS.F ht⟩) hS.2.2 dX12_leaf_40
theorem dX12_readTerm_0g : (decode cX12_readTerm 0 = .ok (.aload_n 0, 1)) ∧ (decode cX12_readTerm 1 = .ok (.iload_n 1, 1)) ∧ (decode cX12_readTerm 2 = .ok (.invokevirtual 201, 3)) ∧ (decode cX12_readTerm 5 = .ok (.aload_n 0, 1)) ∧ (decode cX12_readTerm 6 = .ok (.bipush 42, 2)) ∧ (decode cX12_readTerm 8 = .ok (.invokestatic 194, 3)) ∧ (decode cX12_readTerm 11 = .ok (.invokevirtual 169, 3)) ∧ (decode cX12_readTerm 14 = .ok (.ifCond .ne 27, 3)) ∧ (decode cX12_readTerm 17 = .ok (.aload_n 0, 1)) ∧ (decode cX12_readTerm 18 = .ok (.bipush 47, 2)) := by decide +kernel
theorem dX12_readTerm_0 : decode cX12_readTerm 0 = .ok (.aload_n 0, 1) := dX12_readTerm_0g.1
theorem dX12_readTerm_1 : decode cX12_readTerm 1 = .ok (.iload_n 1, 1) := dX12_readTerm_0g.2.1
theorem dX12_readTerm_2 : decode cX12_readTerm 2 = .ok (.invokevirtual 201, 3) := dX12_readTerm_0g.2.2.1
theorem dX12_readTerm_5 : decode cX12_readTerm 5 = .ok (.aload_n 0, 1) := dX12_readTerm_0g.2.2.2.1
theorem dX12_readTerm_6 : decode cX12_readTerm 6 = .ok (.bipush 42, 2) := dX12_readTerm_0g.2.2.2.2.1
theorem dX12_readTerm_8 : decode cX12_readTerm 8 = .ok (.invokestatic 194, 3) := dX12_readTerm_0g.2.2.2.2.2.1
theorem dX12_readTerm_11 : decode cX12_readTerm 11 = .ok (.invokevirtual 169, 3) := dX12_readTerm_0g.2.2.2.2.2.2.1
theorem dX12_readTerm_14 : decode cX12_readTerm 14 = .ok (.ifCond .ne 27, 3) := dX12_readTerm_0g.2.2.2.2.2.2.2.1
theorem dX12_readTerm_17 : decode cX12_readTerm 17 = .ok (.aload_n 0, 1) := dX12_readTerm_0g.2.2.2.2.2.2.2.2.1
theorem dX12_readTerm_18 : decode cX12_readTerm 18 = .ok (.bipush 47, 2) := dX12_readTerm_0g.2.2.2.2.2.2.2.2.2
theorem dX12_readTerm_20g : (decode cX12_readTerm 20 = .ok (.invokestatic 194, 3)) ∧ (decode cX12_readTerm 23 = .ok (.invokevirtual 169, 3)) ∧ (decode cX12_readTerm 26 = .ok (.ifCond .ne 15, 3)) ∧ (decode cX12_readTerm 29 = .ok (.aload_n 0, 1)) ∧ (decode cX12_readTerm 30 = .ok (.bipush 37, 2)) ∧ (decode cX12_readTerm 32 = .ok (.invokestatic 194, 3)) ∧ (decode cX12_readTerm 35 = .ok (.invokevirtual 169, 3)) ∧ (decode cX12_readTerm 38 = .ok (.ifCond .eq 11, 3)) ∧ (decode cX12_readTerm 41 = .ok (.aload_n 0, 1)) ∧ (decode cX12_readTerm 42 = .ok (.iload_n 1, 1)) := by decide +kernel
theorem dX12_readTerm_20 : decode cX12_readTerm 20 = .ok (.invokestatic 194, 3) := dX12_readTerm_20g.1
theorem dX12_readTerm_23 : decode cX12_readTerm 23 = .ok (.invokevirtual 169, 3) := dX12_readTerm_20g.2.1
theorem dX12_readTerm_26 : decode cX12_readTerm 26 = .ok (.ifCond .ne 15, 3) := dX12_readTerm_20g.2.2.1
theorem dX12_readTerm_29 : decode cX12_readTerm 29 = .ok (.aload_n 0, 1) := dX12_readTerm_20g.2.2.2.1
theorem dX12_readTerm_30 : decode cX12_readTerm 30 = .ok (.bipush 37, 2) := dX12_readTerm_20g.2.2.2.2.1
theorem dX12_readTerm_32 : decode cX12_readTerm 32 = .ok (.invokestatic 194, 3) := dX12_readTerm_20g.2.2.2.2.2.1
theorem dX12_readTerm_35 : decode cX12_readTerm 35 = .ok (.invokevirtual 169, 3) := dX12_readTerm_20g.2.2.2.2.2.2.1
theorem dX12_readTerm_38 : decode cX12_readTerm 38 = .ok (.ifCond .eq 11, 3) := dX12_readTerm_20g.2.2.2.2.2.2.2.1
theorem dX12_readTerm_41 : decode cX12_readTerm 41 = .ok (.aload_n 0, 1) := dX12_readTerm_20g.2.2.2.2.2.2.2.2.1
theorem dX12_readTerm_42 : decode cX12_readTerm 42 = .ok (.iload_n 1, 1) := dX12_readTerm_20g.2.2.2.2.2.2.2.2.2
theorem dX12_readTerm_43g : (decode cX12_readTerm 43 = .ok (.invokevirtual 201, 3)) ∧ (decode cX12_readTerm 46 = .ok (.goto (-41), 3)) ∧ (decode cX12_readTerm 49 = .ok (.return_, 1)) := by decide +kernel
theorem dX12_readTerm_43 : decode cX12_readTerm 43 = .ok (.invokevirtual 201, 3) := dX12_readTerm_43g.1
theorem dX12_readTerm_46 : decode cX12_readTerm 46 = .ok (.goto (-41), 3) := dX12_readTerm_43g.2.1
theorem dX12_readTerm_49 : decode cX12_readTerm 49 = .ok (.return_, 1) := dX12_readTerm_43g.2.2
set_option maxHeartbeats 4000000 in
set_option maxRecDepth 100000 in
theorem c_X12_readTerm (l : Launch) (E : Nat → Nat) (D : va_G) (G : th_G) (k : Nat) (h0 : Nat) (hG0 : G h0 = some (10, 0)) (x1 : Int32) (ff cd : Nat → Int32) (TT pp : Nat) (bb : Int32) (dd : Nat) (hdd : x1.toInt = (dd : Int)) (hd8 : dd ≤ 8) (hk : 8 ≤ dd + k) (hpart : ∀ (h0 : Nat) (hG0 : G h0 = some (10, 0)) (x1 : Int32) (ff cd : Nat → Int32) (TT pp : Nat) (bb : Int32) (dd : Nat) (hdd : x1.toInt = (dd : Int)) (hd8 : dd ≤ 8) (hk : 8 ≤ dd + k), Met l yX12_readPart (tb (.code yX12_readPart cX12_readPart 3 none)) (rm (3 + 3 * k)) (va_Pc [.ref h0, .int x1] (PX E D G (fun H => RD E D G h0 ff cd TT pp bb H))) (QXv E D G (fun H => ∃ (p2 : Nat) (b2 : Int32), RD E D G h0 ff cd TT p2 b2 H ∧ pp ≤ p2 ∧ (b2.toInt = -1 → bb.toInt = -1 ∧ Gr (rC cd TT) 0 dd pp p2))) 0 0 (th_A G)) : Met l yX12_readTerm (tb (.code yX12_readTerm cX12_readTerm 2 none)) (rm (4 + 3 * k)) (va_Pc [.ref h0, .int x1] (PX E D G (fun H => RD E D G h0 ff cd TT pp bb H))) (QXv E D G (fun H => ∃ (p2 : Nat) (b2 : Int32), RD E D G h0 ff cd TT p2 b2 H ∧ pp ≤ p2 ∧ (b2.toInt = -1 → bb.toInt = -1 ∧ Gr (rC cd TT) 1 dd pp p2))) 0 0 (th_A G) := by
  refine Met.ofW (cc := cX12_readTerm) (maxL := 2) (ret := none) (by decide) rfl ?_
  intro p e s m args below meth c s₁ B hml hv
  obtain ⟨hav, ⟨hI, hN, hK⟩, hX⟩ := hv
  have hx := B.exec
  have hb := B.bytes
  have hr := B.returns
  have hts := atoms_spec (ws := tb (.code yX12_readTerm cX12_readTerm 2 none)) B.pre
  have hown : s.vm.findClass RX12 = some m.cls := findClass_of_methodNamed B.named
  have hlocks := B.notSynchronized
  have hS : va_S (th_A G) s.heap s.heap [] := va_S.rf
  have hl := lv_entry ([.ref h0, .int x1]) (n := 2) (Nat.le_of_ble_eq_true rfl)
  rw [show entryFrame m args 2 = entryFrame m ([.ref h0, .int x1] : List Value).toArray 2 from by rw [hav], lg_entry_eq]
  generalize (lg_sl ([.ref h0, .int x1]) ++ List.replicate (2 - (lg_sl ([.ref h0, .int x1])).length) Slot.unset).toArray = ls at hl ⊢
  have hl : lv_has ls 2 [(0, .ref h0), (1, .int x1)] := hl
  generalize hR : (headSpec (tb (.code yX12_readTerm cX12_readTerm 2 none)) (rm (4 + 3 * k))).room = R
  have hR := hR.symm
  generalize hQ : MQ below (QXv E D G (fun H => ∃ (p2 : Nat) (b2 : Int32), RD E D G h0 ff cd TT p2 b2 H ∧ pp ≤ p2 ∧ (b2.toInt = -1 → bb.toInt = -1 ∧ Gr (rC cd TT) 1 dd pp p2))) args s 0 0 (th_A G) = QF
  have hQ := hQ.symm
  obtain ⟨hkf, hT, hz0, k14, ⟨a1, hf2, hq3, hA4⟩, ⟨a5, hf6, hq7, hA8⟩, ⟨w9, hg10, k15⟩, ⟨w11, hg12, k16⟩, hg13⟩ := hX
  have J_5 : ∀ (nn : Nat) (H : Heap) (locs : List Loc) (ls : Array Slot)  (p1 : Nat) (b1 : Int32), (Int.toNat (((TT : Nat) : Int) - ((p1 : Nat) : Int)) = nn) → lv_has ls 2 [(0, .ref h0), (1, .int x1)] → ((0 : Int) ≤ x1.toInt ∧ x1.toInt ≤ 8) → (pp ≤ p1) → (b1.toInt = -1 → bb.toInt = -1 ∧ ∀ r, Gr (rC cd TT) 7 dd p1 r → Gr (rC cd TT) 1 dd pp r) → (RD E D G h0 ff cd TT p1 b1 H) → th_I (okM E) D G [] H → va_S (th_A G) s.heap H locs → W p l e R s m args below meth c H locs 0 0 QF (F0 m 5 ls []) := by
    intro nn
    induction nn using Nat.strongRecOn with
    | ind nn ih_5 =>
      intro H locs ls  p1 b1 hm hl k1578 hle1 hInv hE hI hS
      obtain ⟨hkf, hT, hz0, k1592, ⟨a1579, hf1580, hq1581, hA1582⟩, ⟨a1583, hf1584, hq1585, hA1586⟩, ⟨w1587, hg1588, k1593⟩, ⟨w1589, hg1590, k1594⟩, hg1591⟩ := hE
      refine lv_aload_n hx hb dX12_readTerm_5 rfl (lv_at hl 0 rfl) ?_
      refine lv_bipush (v := 42) hx hb dX12_readTerm_6 (by decide) ?_
      refine th_cSs (As := [.int 42]) (rest := [.ref h0]) (n := 1) (d := 0) ⟨hx, hb, hml, hown, hts⟩ (c_X12_sign l H 42) wd_1495 wd_1496 wd_13 wd_1497 (by decide +kernel) ⟨by rw [hR]; show 0 + 1 ≤ 4 + 3 * k; omega, by rw [hR]; show 8 + (1 + 11) + 40 * (0) ≤ 40 * (4 + 3 * k); omega⟩ hN hS rfl hl.1 rfl (Nat.le_of_ble_eq_true rfl) dX12_readTerm_8 ⟨Nat.zero_le _, Nat.zero_le _⟩ (fun r1595 locs hp hS => ?_)
      obtain rfl : r1595 = 142 := hp.trans (by decide)
      refine mx_i (As := [.int 142]) (rest := []) (n := 1) (d := 1) ⟨hx, hb, hml, hown, hts⟩ (c_X12_takes0 l E D G h0 hG0 142 ff cd TT p1 b1 (by first | decide | omega)) wd_1587 wd_1589 wp_66 wd_13 wd_1590 (by decide +kernel) ⟨by rw [hR]; show 1 + 1 ≤ 4 + 3 * k; omega, by rw [hR]; show 8 + (3 + 11) + 40 * (1) ≤ 40 * (4 + 3 * k); omega⟩ hI hN hK hS hG0 (⟨hkf, hT, hz0, by omega, ⟨a1579, hf1580, hq1581, hA1582⟩, ⟨a1583, hf1584, hq1585, hA1586⟩, ⟨w1587, hg1588, by omega⟩, ⟨w1589, hg1590, by omega⟩, hg1591⟩) rfl hl.1 rfl (Nat.le_of_ble_eq_true rfl) dX12_readTerm_11 ⟨Nat.zero_le _, Nat.zero_le _⟩ (fun r1596 H locs hI hp hS => ?_)
      rcases hp with ⟨rfl, hp⟩ | ⟨rfl, hp⟩
      · skip
        try simp only [rg, not_and, Int.not_le] at hp
        have hp1597 := hp
        obtain ⟨hb1598, hc1599, k1600, hE⟩ := hp1597
        have hp1597 : True := trivial
        rw [show (142 : Int32).toInt = 142 from by decide] at hc1599
        obtain ⟨hkf, hT, hz0, k1614, ⟨a1601, hf1602, hq1603, hA1604⟩, ⟨a1605, hf1606, hq1607, hA1608⟩, ⟨w1609, hg1610, k1615⟩, ⟨w1611, hg1612, k1616⟩, hg1613⟩ := hE
        try rw [show (142 : Int32).toInt = 142 from by decide] at hp1597
        refine lv_if_ne (tgt := 41) hx hb dX12_readTerm_14 (by decide) (fun _ => ?_) (fun c => absurd c (by decide))
        refine lv_aload_n hx hb dX12_readTerm_41 rfl (lv_at hl 0 rfl) ?_
        refine lv_iload_n hx hb dX12_readTerm_42 rfl (lv_at hl 1 rfl) ?_
        refine mx_v (As := [.int x1]) (rest := []) (n := 1) (d := (3 + 3 * k)) ⟨hx, hb, hml, hown, hts⟩ (hpart h0 hG0 x1 ff cd TT (p1 + 1) b1 dd (by first | decide | omega) (by omega) (by omega)) wd_1603 wd_1605 wp_70 wd_13 wd_1606 (by decide +kernel) ⟨by rw [hR]; show (3 + 3 * k) + 1 ≤ 4 + 3 * k; omega, by rw [hR]; show 8 + (3 + 11) + 40 * ((3 + 3 * k)) ≤ 40 * (4 + 3 * k); omega⟩ hI hN hK hS hG0 (⟨hkf, hT, hz0, by omega, ⟨a1601, hf1602, hq1603, hA1604⟩, ⟨a1605, hf1606, hq1607, hA1608⟩, ⟨w1609, hg1610, by omega⟩, ⟨w1611, hg1612, by omega⟩, hg1613⟩) rfl hl.1 rfl (Nat.le_of_ble_eq_true rfl) dX12_readTerm_43 ⟨Nat.zero_le _, Nat.zero_le _⟩ (fun H locs hI hp hS => ?_)
        obtain ⟨pn1618, bn1619, hE, k1621, hi1620⟩ := hp
        obtain ⟨hkf, hT, hz0, k1635, ⟨a1622, hf1623, hq1624, hA1625⟩, ⟨a1626, hf1627, hq1628, hA1629⟩, ⟨w1630, hg1631, k1636⟩, ⟨w1632, hg1633, k1637⟩, hg1634⟩ := hE
        have hInv2 : bn1619.toInt = -1 → bb.toInt = -1 ∧ ∀ r, Gr (rC cd TT) 7 dd pn1618 r → Gr (rC cd TT) 1 dd pp r := fun h => ⟨(hInv hb1598).1, r7_m (hInv hb1598).2 (by omega) (hi1620 h).2⟩
        refine lv_goto (tgt := 5) hx hb dX12_readTerm_46 (by decide) ?_
        exact ih_5 _ (by omega) H locs ls  pn1618 bn1619 rfl (lv_sub hl [0, 1] rfl) ⟨by omega, by omega⟩ (by omega) (hInv2) (⟨hkf, hT, hz0, by omega, ⟨a1622, hf1623, hq1624, hA1625⟩, ⟨a1626, hf1627, hq1628, hA1629⟩, ⟨w1630, hg1631, by omega⟩, ⟨w1632, hg1633, by omega⟩, hg1634⟩) hI hS
      · skip
        try simp only [rg, not_and, Int.not_le] at hp
        have hp1638 := hp
        obtain ⟨hc1639, hE⟩ := hp1638
        have hp1638 : True := trivial
        rw [show (142 : Int32).toInt = 142 from by decide] at hc1639
        obtain ⟨hkf, hT, hz0, k1653, ⟨a1640, hf1641, hq1642, hA1643⟩, ⟨a1644, hf1645, hq1646, hA1647⟩, ⟨w1648, hg1649, k1654⟩, ⟨w1650, hg1651, k1655⟩, hg1652⟩ := hE
        try rw [show (142 : Int32).toInt = 142 from by decide] at hp1638
        refine lv_if_ne (tgt := 41) hx hb dX12_readTerm_14 (by decide) (fun c => absurd c (by decide)) (fun _ => ?_)
        refine lv_aload_n hx hb dX12_readTerm_17 rfl (lv_at hl 0 rfl) ?_
        refine lv_bipush (v := 47) hx hb dX12_readTerm_18 (by decide) ?_
        refine th_cSs (As := [.int 47]) (rest := [.ref h0]) (n := 1) (d := 0) ⟨hx, hb, hml, hown, hts⟩ (c_X12_sign l H 47) wd_1495 wd_1496 wd_13 wd_1497 (by decide +kernel) ⟨by rw [hR]; show 0 + 1 ≤ 4 + 3 * k; omega, by rw [hR]; show 8 + (1 + 11) + 40 * (0) ≤ 40 * (4 + 3 * k); omega⟩ hN hS rfl hl.1 rfl (Nat.le_of_ble_eq_true rfl) dX12_readTerm_20 ⟨Nat.zero_le _, Nat.zero_le _⟩ (fun r1656 locs hp hS => ?_)
        obtain rfl : r1656 = 147 := hp.trans (by decide)
        refine mx_i (As := [.int 147]) (rest := []) (n := 1) (d := 1) ⟨hx, hb, hml, hown, hts⟩ (c_X12_takes0 l E D G h0 hG0 147 ff cd TT p1 b1 (by first | decide | omega)) wd_1587 wd_1589 wp_66 wd_13 wd_1590 (by decide +kernel) ⟨by rw [hR]; show 1 + 1 ≤ 4 + 3 * k; omega, by rw [hR]; show 8 + (3 + 11) + 40 * (1) ≤ 40 * (4 + 3 * k); omega⟩ hI hN hK hS hG0 (⟨hkf, hT, hz0, by omega, ⟨a1640, hf1641, hq1642, hA1643⟩, ⟨a1644, hf1645, hq1646, hA1647⟩, ⟨w1648, hg1649, by omega⟩, ⟨w1650, hg1651, by omega⟩, hg1652⟩) rfl hl.1 rfl (Nat.le_of_ble_eq_true rfl) dX12_readTerm_23 ⟨Nat.zero_le _, Nat.zero_le _⟩ (fun r1657 H locs hI hp hS => ?_)
        rcases hp with ⟨rfl, hp⟩ | ⟨rfl, hp⟩
        · skip
          try simp only [rg, not_and, Int.not_le] at hp
          have hp1658 := hp
          obtain ⟨hb1659, hc1660, k1661, hE⟩ := hp1658
          have hp1658 : True := trivial
          rw [show (147 : Int32).toInt = 147 from by decide] at hc1660
          obtain ⟨hkf, hT, hz0, k1675, ⟨a1662, hf1663, hq1664, hA1665⟩, ⟨a1666, hf1667, hq1668, hA1669⟩, ⟨w1670, hg1671, k1676⟩, ⟨w1672, hg1673, k1677⟩, hg1674⟩ := hE
          try rw [show (147 : Int32).toInt = 147 from by decide] at hp1658
          refine lv_if_ne (tgt := 41) hx hb dX12_readTerm_26 (by decide) (fun _ => ?_) (fun c => absurd c (by decide))
          refine lv_aload_n hx hb dX12_readTerm_41 rfl (lv_at hl 0 rfl) ?_
          refine lv_iload_n hx hb dX12_readTerm_42 rfl (lv_at hl 1 rfl) ?_
          refine mx_v (As := [.int x1]) (rest := []) (n := 1) (d := (3 + 3 * k)) ⟨hx, hb, hml, hown, hts⟩ (hpart h0 hG0 x1 ff cd TT (p1 + 1) b1 dd (by first | decide | omega) (by omega) (by omega)) wd_1603 wd_1605 wp_70 wd_13 wd_1606 (by decide +kernel) ⟨by rw [hR]; show (3 + 3 * k) + 1 ≤ 4 + 3 * k; omega, by rw [hR]; show 8 + (3 + 11) + 40 * ((3 + 3 * k)) ≤ 40 * (4 + 3 * k); omega⟩ hI hN hK hS hG0 (⟨hkf, hT, hz0, by omega, ⟨a1662, hf1663, hq1664, hA1665⟩, ⟨a1666, hf1667, hq1668, hA1669⟩, ⟨w1670, hg1671, by omega⟩, ⟨w1672, hg1673, by omega⟩, hg1674⟩) rfl hl.1 rfl (Nat.le_of_ble_eq_true rfl) dX12_readTerm_43 ⟨Nat.zero_le _, Nat.zero_le _⟩ (fun H locs hI hp hS => ?_)
          obtain ⟨pn1679, bn1680, hE, k1682, hi1681⟩ := hp
          obtain ⟨hkf, hT, hz0, k1696, ⟨a1683, hf1684, hq1685, hA1686⟩, ⟨a1687, hf1688, hq1689, hA1690⟩, ⟨w1691, hg1692, k1697⟩, ⟨w1693, hg1694, k1698⟩, hg1695⟩ := hE
          have hInv2 : bn1680.toInt = -1 → bb.toInt = -1 ∧ ∀ r, Gr (rC cd TT) 7 dd pn1679 r → Gr (rC cd TT) 1 dd pp r := fun h => ⟨(hInv hb1659).1, r7_m (hInv hb1659).2 (by omega) (hi1681 h).2⟩
          refine lv_goto (tgt := 5) hx hb dX12_readTerm_46 (by decide) ?_
          exact ih_5 _ (by omega) H locs ls  pn1679 bn1680 rfl (lv_sub hl [0, 1] rfl) ⟨by omega, by omega⟩ (by omega) (hInv2) (⟨hkf, hT, hz0, by omega, ⟨a1683, hf1684, hq1685, hA1686⟩, ⟨a1687, hf1688, hq1689, hA1690⟩, ⟨w1691, hg1692, by omega⟩, ⟨w1693, hg1694, by omega⟩, hg1695⟩) hI hS
        · skip
          try simp only [rg, not_and, Int.not_le] at hp
          have hp1699 := hp
          obtain ⟨hc1700, hE⟩ := hp1699
          have hp1699 : True := trivial
          rw [show (147 : Int32).toInt = 147 from by decide] at hc1700
          obtain ⟨hkf, hT, hz0, k1714, ⟨a1701, hf1702, hq1703, hA1704⟩, ⟨a1705, hf1706, hq1707, hA1708⟩, ⟨w1709, hg1710, k1715⟩, ⟨w1711, hg1712, k1716⟩, hg1713⟩ := hE
          try rw [show (147 : Int32).toInt = 147 from by decide] at hp1699
          refine lv_if_ne (tgt := 41) hx hb dX12_readTerm_26 (by decide) (fun c => absurd c (by decide)) (fun _ => ?_)
          refine lv_aload_n hx hb dX12_readTerm_29 rfl (lv_at hl 0 rfl) ?_
          refine lv_bipush (v := 37) hx hb dX12_readTerm_30 (by decide) ?_
          refine th_cSs (As := [.int 37]) (rest := [.ref h0]) (n := 1) (d := 0) ⟨hx, hb, hml, hown, hts⟩ (c_X12_sign l H 37) wd_1495 wd_1496 wd_13 wd_1497 (by decide +kernel) ⟨by rw [hR]; show 0 + 1 ≤ 4 + 3 * k; omega, by rw [hR]; show 8 + (1 + 11) + 40 * (0) ≤ 40 * (4 + 3 * k); omega⟩ hN hS rfl hl.1 rfl (Nat.le_of_ble_eq_true rfl) dX12_readTerm_32 ⟨Nat.zero_le _, Nat.zero_le _⟩ (fun r1717 locs hp hS => ?_)
          obtain rfl : r1717 = 137 := hp.trans (by decide)
          refine mx_i (As := [.int 137]) (rest := []) (n := 1) (d := 1) ⟨hx, hb, hml, hown, hts⟩ (c_X12_takes0 l E D G h0 hG0 137 ff cd TT p1 b1 (by first | decide | omega)) wd_1587 wd_1589 wp_66 wd_13 wd_1590 (by decide +kernel) ⟨by rw [hR]; show 1 + 1 ≤ 4 + 3 * k; omega, by rw [hR]; show 8 + (3 + 11) + 40 * (1) ≤ 40 * (4 + 3 * k); omega⟩ hI hN hK hS hG0 (⟨hkf, hT, hz0, by omega, ⟨a1701, hf1702, hq1703, hA1704⟩, ⟨a1705, hf1706, hq1707, hA1708⟩, ⟨w1709, hg1710, by omega⟩, ⟨w1711, hg1712, by omega⟩, hg1713⟩) rfl hl.1 rfl (Nat.le_of_ble_eq_true rfl) dX12_readTerm_35 ⟨Nat.zero_le _, Nat.zero_le _⟩ (fun r1718 H locs hI hp hS => ?_)
          rcases hp with ⟨rfl, hp⟩ | ⟨rfl, hp⟩
          · skip
            try simp only [rg, not_and, Int.not_le] at hp
            have hp1719 := hp
            obtain ⟨hb1720, hc1721, k1722, hE⟩ := hp1719
            have hp1719 : True := trivial
            rw [show (137 : Int32).toInt = 137 from by decide] at hc1721
            obtain ⟨hkf, hT, hz0, k1736, ⟨a1723, hf1724, hq1725, hA1726⟩, ⟨a1727, hf1728, hq1729, hA1730⟩, ⟨w1731, hg1732, k1737⟩, ⟨w1733, hg1734, k1738⟩, hg1735⟩ := hE
            try rw [show (137 : Int32).toInt = 137 from by decide] at hp1719
            refine lv_if_eq (tgt := 49) hx hb dX12_readTerm_38 (by decide) (fun c => absurd c (by decide)) (fun _ => ?_)
            refine lv_aload_n hx hb dX12_readTerm_41 rfl (lv_at hl 0 rfl) ?_
            refine lv_iload_n hx hb dX12_readTerm_42 rfl (lv_at hl 1 rfl) ?_
            refine mx_v (As := [.int x1]) (rest := []) (n := 1) (d := (3 + 3 * k)) ⟨hx, hb, hml, hown, hts⟩ (hpart h0 hG0 x1 ff cd TT (p1 + 1) b1 dd (by first | decide | omega) (by omega) (by omega)) wd_1603 wd_1605 wp_70 wd_13 wd_1606 (by decide +kernel) ⟨by rw [hR]; show (3 + 3 * k) + 1 ≤ 4 + 3 * k; omega, by rw [hR]; show 8 + (3 + 11) + 40 * ((3 + 3 * k)) ≤ 40 * (4 + 3 * k); omega⟩ hI hN hK hS hG0 (⟨hkf, hT, hz0, by omega, ⟨a1723, hf1724, hq1725, hA1726⟩, ⟨a1727, hf1728, hq1729, hA1730⟩, ⟨w1731, hg1732, by omega⟩, ⟨w1733, hg1734, by omega⟩, hg1735⟩) rfl hl.1 rfl (Nat.le_of_ble_eq_true rfl) dX12_readTerm_43 ⟨Nat.zero_le _, Nat.zero_le _⟩ (fun H locs hI hp hS => ?_)
            obtain ⟨pn1740, bn1741, hE, k1743, hi1742⟩ := hp
            obtain ⟨hkf, hT, hz0, k1757, ⟨a1744, hf1745, hq1746, hA1747⟩, ⟨a1748, hf1749, hq1750, hA1751⟩, ⟨w1752, hg1753, k1758⟩, ⟨w1754, hg1755, k1759⟩, hg1756⟩ := hE
            have hInv2 : bn1741.toInt = -1 → bb.toInt = -1 ∧ ∀ r, Gr (rC cd TT) 7 dd pn1740 r → Gr (rC cd TT) 1 dd pp r := fun h => ⟨(hInv hb1720).1, r7_m (hInv hb1720).2 (by omega) (hi1742 h).2⟩
            refine lv_goto (tgt := 5) hx hb dX12_readTerm_46 (by decide) ?_
            exact ih_5 _ (by omega) H locs ls  pn1740 bn1741 rfl (lv_sub hl [0, 1] rfl) ⟨by omega, by omega⟩ (by omega) (hInv2) (⟨hkf, hT, hz0, by omega, ⟨a1744, hf1745, hq1746, hA1747⟩, ⟨a1748, hf1749, hq1750, hA1751⟩, ⟨w1752, hg1753, by omega⟩, ⟨w1754, hg1755, by omega⟩, hg1756⟩) hI hS
          · skip
            try simp only [rg, not_and, Int.not_le] at hp
            have hp1760 := hp
            obtain ⟨hc1761, hE⟩ := hp1760
            have hp1760 : True := trivial
            rw [show (137 : Int32).toInt = 137 from by decide] at hc1761
            obtain ⟨hkf, hT, hz0, k1775, ⟨a1762, hf1763, hq1764, hA1765⟩, ⟨a1766, hf1767, hq1768, hA1769⟩, ⟨w1770, hg1771, k1776⟩, ⟨w1772, hg1773, k1777⟩, hg1774⟩ := hE
            try rw [show (137 : Int32).toInt = 137 from by decide] at hp1760
            refine lv_if_eq (tgt := 49) hx hb dX12_readTerm_38 (by decide) (fun _ => ?_) (fun c => absurd c (by decide))
            have hpost : ∃ (p2 : Nat) (b2 : Int32), RD E D G h0 ff cd TT p2 b2 H ∧ pp ≤ p2 ∧ (b2.toInt = -1 → bb.toInt = -1 ∧ Gr (rC cd TT) 1 dd pp p2) := ⟨p1, b1, ⟨hkf, hT, hz0, by omega, ⟨a1762, hf1763, hq1764, hA1765⟩, ⟨a1766, hf1767, hq1768, hA1769⟩, ⟨w1770, hg1771, by omega⟩, ⟨w1772, hg1773, by omega⟩, hg1774⟩, by omega, fun h => ⟨(hInv h).1, r7_x (hInv h).2 (by omega) (by omega) (by omega)⟩⟩
            rw [hQ]
            exact W.vret hx hb hr (fun t ht hW => ⟨⟨(), rfl, trivial, ⟨by rw [ht]; exact hI, hN.warm hW, va_K.moved hW.alike hK⟩, by first | (rw [ht]; exact hpost) | exact hpost⟩, hS.F ht⟩) hS.2.2 dX12_readTerm_49
  refine lv_aload_n hx hb dX12_readTerm_0 rfl (lv_at hl 0 rfl) ?_
  refine lv_iload_n hx hb dX12_readTerm_1 rfl (lv_at hl 1 rfl) ?_
  refine mx_v (As := [.int x1]) (rest := []) (n := 1) (d := (3 + 3 * k)) ⟨hx, hb, hml, hown, hts⟩ (hpart h0 hG0 x1 ff cd TT pp bb dd (by first | decide | omega) (by omega) (by omega)) wd_1603 wd_1605 wp_70 wd_13 wd_1606 (by decide +kernel) ⟨by rw [hR]; show (3 + 3 * k) + 1 ≤ 4 + 3 * k; omega, by rw [hR]; show 8 + (3 + 11) + 40 * ((3 + 3 * k)) ≤ 40 * (4 + 3 * k); omega⟩ hI hN hK hS hG0 (⟨hkf, hT, hz0, by omega, ⟨a1, hf2, hq3, hA4⟩, ⟨a5, hf6, hq7, hA8⟩, ⟨w9, hg10, by omega⟩, ⟨w11, hg12, by omega⟩, hg13⟩) rfl hl.1 rfl (Nat.le_of_ble_eq_true rfl) dX12_readTerm_2 ⟨Nat.zero_le _, Nat.zero_le _⟩ (fun H locs hI hp hS => ?_)
  obtain ⟨pn1779, bn1780, hE, k1782, hi1781⟩ := hp
  obtain ⟨hkf, hT, hz0, k1796, ⟨a1783, hf1784, hq1785, hA1786⟩, ⟨a1787, hf1788, hq1789, hA1790⟩, ⟨w1791, hg1792, k1797⟩, ⟨w1793, hg1794, k1798⟩, hg1795⟩ := hE
  have hInv0 : bn1780.toInt = -1 → bb.toInt = -1 ∧ ∀ r, Gr (rC cd TT) 7 dd pn1779 r → Gr (rC cd TT) 1 dd pp r := fun h => ⟨(hi1781 h).1, r7_i (hi1781 h).2⟩
  exact J_5 _ H locs ls  pn1779 bn1780 rfl (lv_sub hl [0, 1] rfl) ⟨by omega, by omega⟩ (by omega) (hInv0) (⟨hkf, hT, hz0, by omega, ⟨a1783, hf1784, hq1785, hA1786⟩, ⟨a1787, hf1788, hq1789, hA1790⟩, ⟨w1791, hg1792, by omega⟩, ⟨w1793, hg1794, by omega⟩, hg1795⟩) hI hS
theorem dX12_readSum_0g : (decode cX12_readSum 0 = .ok (.aload_n 0, 1)) ∧ (decode cX12_readSum 1 = .ok (.iload_n 1, 1)) ∧ (decode cX12_readSum 2 = .ok (.invokevirtual 198, 3)) ∧ (decode cX12_readSum 5 = .ok (.aload_n 0, 1)) ∧ (decode cX12_readSum 6 = .ok (.bipush 43, 2)) ∧ (decode cX12_readSum 8 = .ok (.invokestatic 194, 3)) ∧ (decode cX12_readSum 11 = .ok (.invokevirtual 169, 3)) ∧ (decode cX12_readSum 14 = .ok (.ifCond .ne 15, 3)) ∧ (decode cX12_readSum 17 = .ok (.aload_n 0, 1)) ∧ (decode cX12_readSum 18 = .ok (.bipush 45, 2)) := by decide +kernel
theorem dX12_readSum_0 : decode cX12_readSum 0 = .ok (.aload_n 0, 1) := dX12_readSum_0g.1
theorem dX12_readSum_1 : decode cX12_readSum 1 = .ok (.iload_n 1, 1) := dX12_readSum_0g.2.1
theorem dX12_readSum_2 : decode cX12_readSum 2 = .ok (.invokevirtual 198, 3) := dX12_readSum_0g.2.2.1
theorem dX12_readSum_5 : decode cX12_readSum 5 = .ok (.aload_n 0, 1) := dX12_readSum_0g.2.2.2.1
theorem dX12_readSum_6 : decode cX12_readSum 6 = .ok (.bipush 43, 2) := dX12_readSum_0g.2.2.2.2.1
theorem dX12_readSum_8 : decode cX12_readSum 8 = .ok (.invokestatic 194, 3) := dX12_readSum_0g.2.2.2.2.2.1
theorem dX12_readSum_11 : decode cX12_readSum 11 = .ok (.invokevirtual 169, 3) := dX12_readSum_0g.2.2.2.2.2.2.1
theorem dX12_readSum_14 : decode cX12_readSum 14 = .ok (.ifCond .ne 15, 3) := dX12_readSum_0g.2.2.2.2.2.2.2.1
theorem dX12_readSum_17 : decode cX12_readSum 17 = .ok (.aload_n 0, 1) := dX12_readSum_0g.2.2.2.2.2.2.2.2.1
theorem dX12_readSum_18 : decode cX12_readSum 18 = .ok (.bipush 45, 2) := dX12_readSum_0g.2.2.2.2.2.2.2.2.2
theorem dX12_readSum_20g : (decode cX12_readSum 20 = .ok (.invokestatic 194, 3)) ∧ (decode cX12_readSum 23 = .ok (.invokevirtual 169, 3)) ∧ (decode cX12_readSum 26 = .ok (.ifCond .eq 11, 3)) ∧ (decode cX12_readSum 29 = .ok (.aload_n 0, 1)) ∧ (decode cX12_readSum 30 = .ok (.iload_n 1, 1)) ∧ (decode cX12_readSum 31 = .ok (.invokevirtual 198, 3)) ∧ (decode cX12_readSum 34 = .ok (.goto (-29), 3)) ∧ (decode cX12_readSum 37 = .ok (.return_, 1)) := by decide +kernel
theorem dX12_readSum_20 : decode cX12_readSum 20 = .ok (.invokestatic 194, 3) := dX12_readSum_20g.1
theorem dX12_readSum_23 : decode cX12_readSum 23 = .ok (.invokevirtual 169, 3) := dX12_readSum_20g.2.1
theorem dX12_readSum_26 : decode cX12_readSum 26 = .ok (.ifCond .eq 11, 3) := dX12_readSum_20g.2.2.1
theorem dX12_readSum_29 : decode cX12_readSum 29 = .ok (.aload_n 0, 1) := dX12_readSum_20g.2.2.2.1
theorem dX12_readSum_30 : decode cX12_readSum 30 = .ok (.iload_n 1, 1) := dX12_readSum_20g.2.2.2.2.1
theorem dX12_readSum_31 : decode cX12_readSum 31 = .ok (.invokevirtual 198, 3) := dX12_readSum_20g.2.2.2.2.2.1
theorem dX12_readSum_34 : decode cX12_readSum 34 = .ok (.goto (-29), 3) := dX12_readSum_20g.2.2.2.2.2.2.1
theorem dX12_readSum_37 : decode cX12_readSum 37 = .ok (.return_, 1) := dX12_readSum_20g.2.2.2.2.2.2.2
set_option maxHeartbeats 4000000 in
set_option maxRecDepth 100000 in
theorem c_X12_readSum (l : Launch) (E : Nat → Nat) (D : va_G) (G : th_G) (k : Nat) (h0 : Nat) (hG0 : G h0 = some (10, 0)) (x1 : Int32) (ff cd : Nat → Int32) (TT pp : Nat) (bb : Int32) (dd : Nat) (hdd : x1.toInt = (dd : Int)) (hd8 : dd ≤ 8) (hk : 8 ≤ dd + k) (hpart : ∀ (h0 : Nat) (hG0 : G h0 = some (10, 0)) (x1 : Int32) (ff cd : Nat → Int32) (TT pp : Nat) (bb : Int32) (dd : Nat) (hdd : x1.toInt = (dd : Int)) (hd8 : dd ≤ 8) (hk : 8 ≤ dd + k), Met l yX12_readPart (tb (.code yX12_readPart cX12_readPart 3 none)) (rm (3 + 3 * k)) (va_Pc [.ref h0, .int x1] (PX E D G (fun H => RD E D G h0 ff cd TT pp bb H))) (QXv E D G (fun H => ∃ (p2 : Nat) (b2 : Int32), RD E D G h0 ff cd TT p2 b2 H ∧ pp ≤ p2 ∧ (b2.toInt = -1 → bb.toInt = -1 ∧ Gr (rC cd TT) 0 dd pp p2))) 0 0 (th_A G)) : Met l yX12_readSum (tb (.code yX12_readSum cX12_readSum 2 none)) (rm (5 + 3 * k)) (va_Pc [.ref h0, .int x1] (PX E D G (fun H => RD E D G h0 ff cd TT pp bb H))) (QXv E D G (fun H => ∃ (p2 : Nat) (b2 : Int32), RD E D G h0 ff cd TT p2 b2 H ∧ pp ≤ p2 ∧ (b2.toInt = -1 → bb.toInt = -1 ∧ Gr (rC cd TT) 2 dd pp p2))) 0 0 (th_A G) := by
  refine Met.ofW (cc := cX12_readSum) (maxL := 2) (ret := none) (by decide) rfl ?_
  intro p e s m args below meth c s₁ B hml hv
  obtain ⟨hav, ⟨hI, hN, hK⟩, hX⟩ := hv
  have hx := B.exec
  have hb := B.bytes
  have hr := B.returns
  have hts := atoms_spec (ws := tb (.code yX12_readSum cX12_readSum 2 none)) B.pre
  have hown : s.vm.findClass RX12 = some m.cls := findClass_of_methodNamed B.named
  have hlocks := B.notSynchronized
  have hS : va_S (th_A G) s.heap s.heap [] := va_S.rf
  have hl := lv_entry ([.ref h0, .int x1]) (n := 2) (Nat.le_of_ble_eq_true rfl)
  rw [show entryFrame m args 2 = entryFrame m ([.ref h0, .int x1] : List Value).toArray 2 from by rw [hav], lg_entry_eq]
  generalize (lg_sl ([.ref h0, .int x1]) ++ List.replicate (2 - (lg_sl ([.ref h0, .int x1])).length) Slot.unset).toArray = ls at hl ⊢
  have hl : lv_has ls 2 [(0, .ref h0), (1, .int x1)] := hl
  generalize hR : (headSpec (tb (.code yX12_readSum cX12_readSum 2 none)) (rm (5 + 3 * k))).room = R
  have hR := hR.symm
  generalize hQ : MQ below (QXv E D G (fun H => ∃ (p2 : Nat) (b2 : Int32), RD E D G h0 ff cd TT p2 b2 H ∧ pp ≤ p2 ∧ (b2.toInt = -1 → bb.toInt = -1 ∧ Gr (rC cd TT) 2 dd pp p2))) args s 0 0 (th_A G) = QF
  have hQ := hQ.symm
  obtain ⟨hkf, hT, hz0, k14, ⟨a1, hf2, hq3, hA4⟩, ⟨a5, hf6, hq7, hA8⟩, ⟨w9, hg10, k15⟩, ⟨w11, hg12, k16⟩, hg13⟩ := hX
  have J_5 : ∀ (nn : Nat) (H : Heap) (locs : List Loc) (ls : Array Slot)  (p1 : Nat) (b1 : Int32), (Int.toNat (((TT : Nat) : Int) - ((p1 : Nat) : Int)) = nn) → lv_has ls 2 [(0, .ref h0), (1, .int x1)] → ((0 : Int) ≤ x1.toInt ∧ x1.toInt ≤ 8) → (pp ≤ p1) → (b1.toInt = -1 → bb.toInt = -1 ∧ ∀ r, Gr (rC cd TT) 8 dd p1 r → Gr (rC cd TT) 2 dd pp r) → (RD E D G h0 ff cd TT p1 b1 H) → th_I (okM E) D G [] H → va_S (th_A G) s.heap H locs → W p l e R s m args below meth c H locs 0 0 QF (F0 m 5 ls []) := by
    intro nn
    induction nn using Nat.strongRecOn with
    | ind nn ih_5 =>
      intro H locs ls  p1 b1 hm hl k1151 hle1 hInv hE hI hS
      obtain ⟨hkf, hT, hz0, k1165, ⟨a1152, hf1153, hq1154, hA1155⟩, ⟨a1156, hf1157, hq1158, hA1159⟩, ⟨w1160, hg1161, k1166⟩, ⟨w1162, hg1163, k1167⟩, hg1164⟩ := hE
      refine lv_aload_n hx hb dX12_readSum_5 rfl (lv_at hl 0 rfl) ?_
      refine lv_bipush (v := 43) hx hb dX12_readSum_6 (by decide) ?_
      refine th_cSs (As := [.int 43]) (rest := [.ref h0]) (n := 1) (d := 0) ⟨hx, hb, hml, hown, hts⟩ (c_X12_sign l H 43) wd_1495 wd_1496 wd_13 wd_1497 (by decide +kernel) ⟨by rw [hR]; show 0 + 1 ≤ 5 + 3 * k; omega, by rw [hR]; show 8 + (1 + 11) + 40 * (0) ≤ 40 * (5 + 3 * k); omega⟩ hN hS rfl hl.1 rfl (Nat.le_of_ble_eq_true rfl) dX12_readSum_8 ⟨Nat.zero_le _, Nat.zero_le _⟩ (fun r1168 locs hp hS => ?_)
      obtain rfl : r1168 = 143 := hp.trans (by decide)
      refine mx_i (As := [.int 143]) (rest := []) (n := 1) (d := 1) ⟨hx, hb, hml, hown, hts⟩ (c_X12_takes0 l E D G h0 hG0 143 ff cd TT p1 b1 (by first | decide | omega)) wd_1587 wd_1589 wp_66 wd_13 wd_1590 (by decide +kernel) ⟨by rw [hR]; show 1 + 1 ≤ 5 + 3 * k; omega, by rw [hR]; show 8 + (3 + 11) + 40 * (1) ≤ 40 * (5 + 3 * k); omega⟩ hI hN hK hS hG0 (⟨hkf, hT, hz0, by omega, ⟨a1152, hf1153, hq1154, hA1155⟩, ⟨a1156, hf1157, hq1158, hA1159⟩, ⟨w1160, hg1161, by omega⟩, ⟨w1162, hg1163, by omega⟩, hg1164⟩) rfl hl.1 rfl (Nat.le_of_ble_eq_true rfl) dX12_readSum_11 ⟨Nat.zero_le _, Nat.zero_le _⟩ (fun r1169 H locs hI hp hS => ?_)
      rcases hp with ⟨rfl, hp⟩ | ⟨rfl, hp⟩
      · skip
        try simp only [rg, not_and, Int.not_le] at hp
        have hp1170 := hp
        obtain ⟨hb1171, hc1172, k1173, hE⟩ := hp1170
        have hp1170 : True := trivial
        rw [show (143 : Int32).toInt = 143 from by decide] at hc1172
        obtain ⟨hkf, hT, hz0, k1187, ⟨a1174, hf1175, hq1176, hA1177⟩, ⟨a1178, hf1179, hq1180, hA1181⟩, ⟨w1182, hg1183, k1188⟩, ⟨w1184, hg1185, k1189⟩, hg1186⟩ := hE
        try rw [show (143 : Int32).toInt = 143 from by decide] at hp1170
        refine lv_if_ne (tgt := 29) hx hb dX12_readSum_14 (by decide) (fun _ => ?_) (fun c => absurd c (by decide))
        refine lv_aload_n hx hb dX12_readSum_29 rfl (lv_at hl 0 rfl) ?_
        refine lv_iload_n hx hb dX12_readSum_30 rfl (lv_at hl 1 rfl) ?_
        refine mx_v (As := [.int x1]) (rest := []) (n := 1) (d := (4 + 3 * k)) ⟨hx, hb, hml, hown, hts⟩ (c_X12_readTerm l E D G k h0 hG0 x1 ff cd TT (p1 + 1) b1 dd (by first | decide | omega) (by omega) (by omega) hpart) wd_1599 wd_1601 wp_69 wd_13 wd_1602 (by decide +kernel) ⟨by rw [hR]; show (4 + 3 * k) + 1 ≤ 5 + 3 * k; omega, by rw [hR]; show 8 + (2 + 11) + 40 * ((4 + 3 * k)) ≤ 40 * (5 + 3 * k); omega⟩ hI hN hK hS hG0 (⟨hkf, hT, hz0, by omega, ⟨a1174, hf1175, hq1176, hA1177⟩, ⟨a1178, hf1179, hq1180, hA1181⟩, ⟨w1182, hg1183, by omega⟩, ⟨w1184, hg1185, by omega⟩, hg1186⟩) rfl hl.1 rfl (Nat.le_of_ble_eq_true rfl) dX12_readSum_31 ⟨Nat.zero_le _, Nat.zero_le _⟩ (fun H locs hI hp hS => ?_)
        obtain ⟨pn1191, bn1192, hE, k1194, hi1193⟩ := hp
        obtain ⟨hkf, hT, hz0, k1208, ⟨a1195, hf1196, hq1197, hA1198⟩, ⟨a1199, hf1200, hq1201, hA1202⟩, ⟨w1203, hg1204, k1209⟩, ⟨w1205, hg1206, k1210⟩, hg1207⟩ := hE
        have hInv2 : bn1192.toInt = -1 → bb.toInt = -1 ∧ ∀ r, Gr (rC cd TT) 8 dd pn1191 r → Gr (rC cd TT) 2 dd pp r := fun h => ⟨(hInv hb1171).1, r8_m (hInv hb1171).2 (by omega) (hi1193 h).2⟩
        refine lv_goto (tgt := 5) hx hb dX12_readSum_34 (by decide) ?_
        exact ih_5 _ (by omega) H locs ls  pn1191 bn1192 rfl (lv_sub hl [0, 1] rfl) ⟨by omega, by omega⟩ (by omega) (hInv2) (⟨hkf, hT, hz0, by omega, ⟨a1195, hf1196, hq1197, hA1198⟩, ⟨a1199, hf1200, hq1201, hA1202⟩, ⟨w1203, hg1204, by omega⟩, ⟨w1205, hg1206, by omega⟩, hg1207⟩) hI hS
      · skip
        try simp only [rg, not_and, Int.not_le] at hp
        have hp1211 := hp
        obtain ⟨hc1212, hE⟩ := hp1211
        have hp1211 : True := trivial
        rw [show (143 : Int32).toInt = 143 from by decide] at hc1212
        obtain ⟨hkf, hT, hz0, k1226, ⟨a1213, hf1214, hq1215, hA1216⟩, ⟨a1217, hf1218, hq1219, hA1220⟩, ⟨w1221, hg1222, k1227⟩, ⟨w1223, hg1224, k1228⟩, hg1225⟩ := hE
        try rw [show (143 : Int32).toInt = 143 from by decide] at hp1211
        refine lv_if_ne (tgt := 29) hx hb dX12_readSum_14 (by decide) (fun c => absurd c (by decide)) (fun _ => ?_)
        refine lv_aload_n hx hb dX12_readSum_17 rfl (lv_at hl 0 rfl) ?_
        refine lv_bipush (v := 45) hx hb dX12_readSum_18 (by decide) ?_
        refine th_cSs (As := [.int 45]) (rest := [.ref h0]) (n := 1) (d := 0) ⟨hx, hb, hml, hown, hts⟩ (c_X12_sign l H 45) wd_1495 wd_1496 wd_13 wd_1497 (by decide +kernel) ⟨by rw [hR]; show 0 + 1 ≤ 5 + 3 * k; omega, by rw [hR]; show 8 + (1 + 11) + 40 * (0) ≤ 40 * (5 + 3 * k); omega⟩ hN hS rfl hl.1 rfl (Nat.le_of_ble_eq_true rfl) dX12_readSum_20 ⟨Nat.zero_le _, Nat.zero_le _⟩ (fun r1229 locs hp hS => ?_)
        obtain rfl : r1229 = 145 := hp.trans (by decide)
        refine mx_i (As := [.int 145]) (rest := []) (n := 1) (d := 1) ⟨hx, hb, hml, hown, hts⟩ (c_X12_takes0 l E D G h0 hG0 145 ff cd TT p1 b1 (by first | decide | omega)) wd_1587 wd_1589 wp_66 wd_13 wd_1590 (by decide +kernel) ⟨by rw [hR]; show 1 + 1 ≤ 5 + 3 * k; omega, by rw [hR]; show 8 + (3 + 11) + 40 * (1) ≤ 40 * (5 + 3 * k); omega⟩ hI hN hK hS hG0 (⟨hkf, hT, hz0, by omega, ⟨a1213, hf1214, hq1215, hA1216⟩, ⟨a1217, hf1218, hq1219, hA1220⟩, ⟨w1221, hg1222, by omega⟩, ⟨w1223, hg1224, by omega⟩, hg1225⟩) rfl hl.1 rfl (Nat.le_of_ble_eq_true rfl) dX12_readSum_23 ⟨Nat.zero_le _, Nat.zero_le _⟩ (fun r1230 H locs hI hp hS => ?_)
        rcases hp with ⟨rfl, hp⟩ | ⟨rfl, hp⟩
        · skip
          try simp only [rg, not_and, Int.not_le] at hp
          have hp1231 := hp
          obtain ⟨hb1232, hc1233, k1234, hE⟩ := hp1231
          have hp1231 : True := trivial
          rw [show (145 : Int32).toInt = 145 from by decide] at hc1233
          obtain ⟨hkf, hT, hz0, k1248, ⟨a1235, hf1236, hq1237, hA1238⟩, ⟨a1239, hf1240, hq1241, hA1242⟩, ⟨w1243, hg1244, k1249⟩, ⟨w1245, hg1246, k1250⟩, hg1247⟩ := hE
          try rw [show (145 : Int32).toInt = 145 from by decide] at hp1231
          refine lv_if_eq (tgt := 37) hx hb dX12_readSum_26 (by decide) (fun c => absurd c (by decide)) (fun _ => ?_)
          refine lv_aload_n hx hb dX12_readSum_29 rfl (lv_at hl 0 rfl) ?_
          refine lv_iload_n hx hb dX12_readSum_30 rfl (lv_at hl 1 rfl) ?_
          refine mx_v (As := [.int x1]) (rest := []) (n := 1) (d := (4 + 3 * k)) ⟨hx, hb, hml, hown, hts⟩ (c_X12_readTerm l E D G k h0 hG0 x1 ff cd TT (p1 + 1) b1 dd (by first | decide | omega) (by omega) (by omega) hpart) wd_1599 wd_1601 wp_69 wd_13 wd_1602 (by decide +kernel) ⟨by rw [hR]; show (4 + 3 * k) + 1 ≤ 5 + 3 * k; omega, by rw [hR]; show 8 + (2 + 11) + 40 * ((4 + 3 * k)) ≤ 40 * (5 + 3 * k); omega⟩ hI hN hK hS hG0 (⟨hkf, hT, hz0, by omega, ⟨a1235, hf1236, hq1237, hA1238⟩, ⟨a1239, hf1240, hq1241, hA1242⟩, ⟨w1243, hg1244, by omega⟩, ⟨w1245, hg1246, by omega⟩, hg1247⟩) rfl hl.1 rfl (Nat.le_of_ble_eq_true rfl) dX12_readSum_31 ⟨Nat.zero_le _, Nat.zero_le _⟩ (fun H locs hI hp hS => ?_)
          obtain ⟨pn1252, bn1253, hE, k1255, hi1254⟩ := hp
          obtain ⟨hkf, hT, hz0, k1269, ⟨a1256, hf1257, hq1258, hA1259⟩, ⟨a1260, hf1261, hq1262, hA1263⟩, ⟨w1264, hg1265, k1270⟩, ⟨w1266, hg1267, k1271⟩, hg1268⟩ := hE
          have hInv2 : bn1253.toInt = -1 → bb.toInt = -1 ∧ ∀ r, Gr (rC cd TT) 8 dd pn1252 r → Gr (rC cd TT) 2 dd pp r := fun h => ⟨(hInv hb1232).1, r8_m (hInv hb1232).2 (by omega) (hi1254 h).2⟩
          refine lv_goto (tgt := 5) hx hb dX12_readSum_34 (by decide) ?_
          exact ih_5 _ (by omega) H locs ls  pn1252 bn1253 rfl (lv_sub hl [0, 1] rfl) ⟨by omega, by omega⟩ (by omega) (hInv2) (⟨hkf, hT, hz0, by omega, ⟨a1256, hf1257, hq1258, hA1259⟩, ⟨a1260, hf1261, hq1262, hA1263⟩, ⟨w1264, hg1265, by omega⟩, ⟨w1266, hg1267, by omega⟩, hg1268⟩) hI hS
        · skip
          try simp only [rg, not_and, Int.not_le] at hp
          have hp1272 := hp
          obtain ⟨hc1273, hE⟩ := hp1272
          have hp1272 : True := trivial
          rw [show (145 : Int32).toInt = 145 from by decide] at hc1273
          obtain ⟨hkf, hT, hz0, k1287, ⟨a1274, hf1275, hq1276, hA1277⟩, ⟨a1278, hf1279, hq1280, hA1281⟩, ⟨w1282, hg1283, k1288⟩, ⟨w1284, hg1285, k1289⟩, hg1286⟩ := hE
          try rw [show (145 : Int32).toInt = 145 from by decide] at hp1272
          refine lv_if_eq (tgt := 37) hx hb dX12_readSum_26 (by decide) (fun _ => ?_) (fun c => absurd c (by decide))
          have hpost : ∃ (p2 : Nat) (b2 : Int32), RD E D G h0 ff cd TT p2 b2 H ∧ pp ≤ p2 ∧ (b2.toInt = -1 → bb.toInt = -1 ∧ Gr (rC cd TT) 2 dd pp p2) := ⟨p1, b1, ⟨hkf, hT, hz0, by omega, ⟨a1274, hf1275, hq1276, hA1277⟩, ⟨a1278, hf1279, hq1280, hA1281⟩, ⟨w1282, hg1283, by omega⟩, ⟨w1284, hg1285, by omega⟩, hg1286⟩, by omega, fun h => ⟨(hInv h).1, r8_x (hInv h).2 (by omega) (by omega)⟩⟩
          rw [hQ]
          exact W.vret hx hb hr (fun t ht hW => ⟨⟨(), rfl, trivial, ⟨by rw [ht]; exact hI, hN.warm hW, va_K.moved hW.alike hK⟩, by first | (rw [ht]; exact hpost) | exact hpost⟩, hS.F ht⟩) hS.2.2 dX12_readSum_37
  refine lv_aload_n hx hb dX12_readSum_0 rfl (lv_at hl 0 rfl) ?_
  refine lv_iload_n hx hb dX12_readSum_1 rfl (lv_at hl 1 rfl) ?_
  refine mx_v (As := [.int x1]) (rest := []) (n := 1) (d := (4 + 3 * k)) ⟨hx, hb, hml, hown, hts⟩ (c_X12_readTerm l E D G k h0 hG0 x1 ff cd TT pp bb dd (by first | decide | omega) (by omega) (by omega) hpart) wd_1599 wd_1601 wp_69 wd_13 wd_1602 (by decide +kernel) ⟨by rw [hR]; show (4 + 3 * k) + 1 ≤ 5 + 3 * k; omega, by rw [hR]; show 8 + (2 + 11) + 40 * ((4 + 3 * k)) ≤ 40 * (5 + 3 * k); omega⟩ hI hN hK hS hG0 (⟨hkf, hT, hz0, by omega, ⟨a1, hf2, hq3, hA4⟩, ⟨a5, hf6, hq7, hA8⟩, ⟨w9, hg10, by omega⟩, ⟨w11, hg12, by omega⟩, hg13⟩) rfl hl.1 rfl (Nat.le_of_ble_eq_true rfl) dX12_readSum_2 ⟨Nat.zero_le _, Nat.zero_le _⟩ (fun H locs hI hp hS => ?_)
  obtain ⟨pn1291, bn1292, hE, k1294, hi1293⟩ := hp
  obtain ⟨hkf, hT, hz0, k1308, ⟨a1295, hf1296, hq1297, hA1298⟩, ⟨a1299, hf1300, hq1301, hA1302⟩, ⟨w1303, hg1304, k1309⟩, ⟨w1305, hg1306, k1310⟩, hg1307⟩ := hE
  have hInv0 : bn1292.toInt = -1 → bb.toInt = -1 ∧ ∀ r, Gr (rC cd TT) 8 dd pn1291 r → Gr (rC cd TT) 2 dd pp r := fun h => ⟨(hi1293 h).1, r8_i (hi1293 h).2⟩
  exact J_5 _ H locs ls  pn1291 bn1292 rfl (lv_sub hl [0, 1] rfl) ⟨by omega, by omega⟩ (by omega) (hInv0) (⟨hkf, hT, hz0, by omega, ⟨a1295, hf1296, hq1297, hA1298⟩, ⟨a1299, hf1300, hq1301, hA1302⟩, ⟨w1303, hg1304, by omega⟩, ⟨w1305, hg1306, by omega⟩, hg1307⟩) hI hS
