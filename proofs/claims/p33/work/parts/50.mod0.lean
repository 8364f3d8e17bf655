theorem wd_1233 : (Cond.fieldLink RX12 (3 : Nat) "NineRiverModel" "status" "I") ∈ TB := tw 1233 (by decide +kernel) (by decide +kernel)
theorem wd_1234 : (Cond.fieldLink RX12 (11 : Nat) "NineRiverModel" "version" "I") ∈ TB := tw 1234 (by decide +kernel) (by decide +kernel)
theorem wd_1235 : (Cond.fieldLink RX12 (7 : Nat) "NineRiverModel" "refused" "[I") ∈ TB := tw 1235 (by decide +kernel) (by decide +kernel)
theorem wd_1236 : (Cond.fieldLink RX12 (20 : Nat) "NineRiverModel" "kept" "[I") ∈ TB := tw 1236 (by decide +kernel) (by decide +kernel)
theorem wd_13 : (Cond.initialized RX12) ∈ TB := tw 13 (by decide +kernel) (by decide +kernel)
theorem wd_1395 : (Cond.methodLink RX12 (103 : Nat) yX12_lies) ∈ TB := tw 1395 (by decide +kernel) (by decide +kernel)
theorem wd_1396 : (Jvm.Cond.static yX12_lies) ∈ TB := tw 1396 (by decide +kernel) (by decide +kernel)
theorem wd_1397 : (Cond.code yX12_lies cX12_lies 3 (Option.some Jvm.ClassFile.FieldType.boolean)) ∈ TB := tw 1397 (by decide +kernel) (by decide +kernel)
theorem wd_1414 : (Cond.methodLink RX12 (118 : Nat) yX12_isCell) ∈ TB := tw 1414 (by decide +kernel) (by decide +kernel)
theorem wd_1415 : (Jvm.Cond.static yX12_isCell) ∈ TB := tw 1415 (by decide +kernel) (by decide +kernel)
theorem wd_1416 : (Cond.code yX12_isCell cX12_isCell 1 (Option.some Jvm.ClassFile.FieldType.boolean)) ∈ TB := tw 1416 (by decide +kernel) (by decide +kernel)
theorem wd_1428 : (Cond.methodLink RX12 (114 : Nat) yX12_isHour) ∈ TB := tw 1428 (by decide +kernel) (by decide +kernel)
theorem wd_1429 : (Jvm.Cond.static yX12_isHour) ∈ TB := tw 1429 (by decide +kernel) (by decide +kernel)
theorem wd_1430 : (Cond.code yX12_isHour cX12_isHour 1 (Option.some Jvm.ClassFile.FieldType.boolean)) ∈ TB := tw 1430 (by decide +kernel) (by decide +kernel)
theorem wd_1545 : (Cond.methodLink RX12 (129 : Nat) yX12_isColour) ∈ TB := tw 1545 (by decide +kernel) (by decide +kernel)
theorem wd_1546 : (Jvm.Cond.static yX12_isColour) ∈ TB := tw 1546 (by decide +kernel) (by decide +kernel)
theorem wd_1547 : (Cond.code yX12_isColour cX12_isColour 1 (Option.some Jvm.ClassFile.FieldType.boolean)) ∈ TB := tw 1547 (by decide +kernel) (by decide +kernel)
theorem dX12_lies_0g : (decode cX12_lies 0 = .ok (.iload_n 0, 1)) ∧ (decode cX12_lies 1 = .ok (.iload_n 1, 1)) ∧ (decode cX12_lies 2 = .ok (.if_icmp .lt 12, 3)) ∧ (decode cX12_lies 5 = .ok (.iload_n 0, 1)) ∧ (decode cX12_lies 6 = .ok (.iload_n 2, 1)) ∧ (decode cX12_lies 7 = .ok (.if_icmp .gt 7, 3)) ∧ (decode cX12_lies 10 = .ok (.iconst 1, 1)) ∧ (decode cX12_lies 11 = .ok (.goto 4, 3)) ∧ (decode cX12_lies 14 = .ok (.iconst 0, 1)) ∧ (decode cX12_lies 15 = .ok (.ireturn, 1)) := by decide +kernel
theorem dX12_lies_0 : decode cX12_lies 0 = .ok (.iload_n 0, 1) := dX12_lies_0g.1
theorem dX12_lies_1 : decode cX12_lies 1 = .ok (.iload_n 1, 1) := dX12_lies_0g.2.1
theorem dX12_lies_2 : decode cX12_lies 2 = .ok (.if_icmp .lt 12, 3) := dX12_lies_0g.2.2.1
theorem dX12_lies_5 : decode cX12_lies 5 = .ok (.iload_n 0, 1) := dX12_lies_0g.2.2.2.1
theorem dX12_lies_6 : decode cX12_lies 6 = .ok (.iload_n 2, 1) := dX12_lies_0g.2.2.2.2.1
theorem dX12_lies_7 : decode cX12_lies 7 = .ok (.if_icmp .gt 7, 3) := dX12_lies_0g.2.2.2.2.2.1
theorem dX12_lies_10 : decode cX12_lies 10 = .ok (.iconst 1, 1) := dX12_lies_0g.2.2.2.2.2.2.1
theorem dX12_lies_11 : decode cX12_lies 11 = .ok (.goto 4, 3) := dX12_lies_0g.2.2.2.2.2.2.2.1
theorem dX12_lies_14 : decode cX12_lies 14 = .ok (.iconst 0, 1) := dX12_lies_0g.2.2.2.2.2.2.2.2.1
theorem dX12_lies_15 : decode cX12_lies 15 = .ok (.ireturn, 1) := dX12_lies_0g.2.2.2.2.2.2.2.2.2
set_option maxHeartbeats 4000000 in
set_option maxRecDepth 100000 in
theorem c_X12_lies (l : Launch) (H0 : Heap) (x0 : Int32) (x1 : Int32) (x2 : Int32) : Met l yX12_lies (tb (.code yX12_lies cX12_lies 3 (some .boolean))) (rm 0) (va_Pc [.int x0, .int x1, .int x2] (PS H0)) (QS H0 (fun r => ((r : Int32) = 1 ∧ (x1.toInt ≤ x0.toInt ∧ x0.toInt ≤ x2.toInt)) ∨ ((r : Int32) = 0 ∧ ¬ (x1.toInt ≤ x0.toInt ∧ x0.toInt ≤ x2.toInt)))) 0 0 (fun _ => False) := by
  refine Met.ofW (cc := cX12_lies) (maxL := 3) (ret := (some .boolean)) (by decide) rfl ?_
  intro p e s m args below meth c s₁ B hml hv
  obtain ⟨hav, rfl, hN⟩ := hv
  have hx := B.exec
  have hb := B.bytes
  have hr := B.returns
  have hts := atoms_spec (ws := tb (.code yX12_lies cX12_lies 3 (some .boolean))) B.pre
  have hown : s.vm.findClass RX12 = some m.cls := findClass_of_methodNamed B.named
  have hlocks := B.notSynchronized
  have hS : va_S (fun _ => False) s.heap s.heap [] := va_S.rf
  have hl := lv_entry ([.int x0, .int x1, .int x2]) (n := 3) (Nat.le_of_ble_eq_true rfl)
  rw [show entryFrame m args 3 = entryFrame m ([.int x0, .int x1, .int x2] : List Value).toArray 3 from by rw [hav], lg_entry_eq]
  generalize (lg_sl ([.int x0, .int x1, .int x2]) ++ List.replicate (3 - (lg_sl ([.int x0, .int x1, .int x2])).length) Slot.unset).toArray = ls at hl ⊢
  have hl : lv_has ls 3 [(0, .int x0), (1, .int x1), (2, .int x2)] := hl
  generalize hR : (headSpec (tb (.code yX12_lies cX12_lies 3 (some .boolean))) (rm 0)).room = R
  have hR := hR.symm
  generalize hQ : MQ below (QS s.heap (fun r => ((r : Int32) = 1 ∧ (x1.toInt ≤ x0.toInt ∧ x0.toInt ≤ x2.toInt)) ∨ ((r : Int32) = 0 ∧ ¬ (x1.toInt ≤ x0.toInt ∧ x0.toInt ≤ x2.toInt)))) args s 0 0 (fun _ => False) = QF
  have hQ := hQ.symm
  refine lv_iload_n hx hb dX12_lies_0 rfl (lv_at hl 0 rfl) ?_
  refine lv_iload_n hx hb dX12_lies_1 rfl (lv_at hl 1 rfl) ?_
  have k1 := iv_lo x0
  have k2 := iv_hi x0
  have k3 := iv_lo x1
  have k4 := iv_hi x1
  refine lv_icmp_lt (tgt := 14) hx hb dX12_lies_2 (by decide) (fun c5 => ?_) (fun c5 => ?_)
  · skip
    have k6 := iv_lt (X := x0.toInt) (Y := x1.toInt) rfl rfl c5
    refine lv_iconst (v := 0) hx hb dX12_lies_14 (by decide) ?_
    have hpost : ((0 : Int32) = 1 ∧ (x1.toInt ≤ x0.toInt ∧ x0.toInt ≤ x2.toInt)) ∨ ((0 : Int32) = 0 ∧ ¬ (x1.toInt ≤ x0.toInt ∧ x0.toInt ≤ x2.toInt)) := by first | exact Or.inl ⟨rfl, by (try simp only [rg]); omega⟩ | exact Or.inr ⟨rfl, by (try simp only [rg]); omega⟩
    rw [hQ]
    exact W.zret (v := 0) hx hb hr (by decide) (fun t ht hW => ⟨⟨0, (), rfl, hpost, ht⟩, hS.F ht⟩) hS.2.2 dX12_lies_15
  · skip
    have k7 := iv_nlt (X := x0.toInt) (Y := x1.toInt) rfl rfl c5
    refine lv_iload_n hx hb dX12_lies_5 rfl (lv_at hl 0 rfl) ?_
    refine lv_iload_n hx hb dX12_lies_6 rfl (lv_at hl 2 rfl) ?_
    have k8 := iv_lo x2
    have k9 := iv_hi x2
    refine lv_icmp_gt (tgt := 14) hx hb dX12_lies_7 (by decide) (fun c10 => ?_) (fun c10 => ?_)
    · skip
      have k11 := iv_lt (X := x2.toInt) (Y := x0.toInt) rfl rfl c10
      refine lv_iconst (v := 0) hx hb dX12_lies_14 (by decide) ?_
      have hpost : ((0 : Int32) = 1 ∧ (x1.toInt ≤ x0.toInt ∧ x0.toInt ≤ x2.toInt)) ∨ ((0 : Int32) = 0 ∧ ¬ (x1.toInt ≤ x0.toInt ∧ x0.toInt ≤ x2.toInt)) := by first | exact Or.inl ⟨rfl, by (try simp only [rg]); omega⟩ | exact Or.inr ⟨rfl, by (try simp only [rg]); omega⟩
      rw [hQ]
      exact W.zret (v := 0) hx hb hr (by decide) (fun t ht hW => ⟨⟨0, (), rfl, hpost, ht⟩, hS.F ht⟩) hS.2.2 dX12_lies_15
    · skip
      have k12 := iv_nlt (X := x2.toInt) (Y := x0.toInt) rfl rfl c10
      refine lv_iconst (v := 1) hx hb dX12_lies_10 (by decide) ?_
      refine lv_goto (tgt := 15) hx hb dX12_lies_11 (by decide) ?_
      have hpost : ((1 : Int32) = 1 ∧ (x1.toInt ≤ x0.toInt ∧ x0.toInt ≤ x2.toInt)) ∨ ((1 : Int32) = 0 ∧ ¬ (x1.toInt ≤ x0.toInt ∧ x0.toInt ≤ x2.toInt)) := by first | exact Or.inl ⟨rfl, by (try simp only [rg]); omega⟩ | exact Or.inr ⟨rfl, by (try simp only [rg]); omega⟩
      rw [hQ]
      exact W.zret (v := 1) hx hb hr (by decide) (fun t ht hW => ⟨⟨1, (), rfl, hpost, ht⟩, hS.F ht⟩) hS.2.2 dX12_lies_15
theorem dX12_isIn_0g : (decode cX12_isIn 0 = .ok (.iload_n 0, 1)) ∧ (decode cX12_isIn 1 = .ok (.iload_n 1, 1)) ∧ (decode cX12_isIn 2 = .ok (.ishr, 1)) ∧ (decode cX12_isIn 3 = .ok (.iconst 1, 1)) ∧ (decode cX12_isIn 4 = .ok (.iand, 1)) ∧ (decode cX12_isIn 5 = .ok (.iconst 1, 1)) ∧ (decode cX12_isIn 6 = .ok (.if_icmp .ne 7, 3)) ∧ (decode cX12_isIn 9 = .ok (.iconst 1, 1)) ∧ (decode cX12_isIn 10 = .ok (.goto 4, 3)) ∧ (decode cX12_isIn 13 = .ok (.iconst 0, 1)) := by decide +kernel
theorem dX12_isIn_0 : decode cX12_isIn 0 = .ok (.iload_n 0, 1) := dX12_isIn_0g.1
theorem dX12_isIn_1 : decode cX12_isIn 1 = .ok (.iload_n 1, 1) := dX12_isIn_0g.2.1
theorem dX12_isIn_2 : decode cX12_isIn 2 = .ok (.ishr, 1) := dX12_isIn_0g.2.2.1
theorem dX12_isIn_3 : decode cX12_isIn 3 = .ok (.iconst 1, 1) := dX12_isIn_0g.2.2.2.1
theorem dX12_isIn_4 : decode cX12_isIn 4 = .ok (.iand, 1) := dX12_isIn_0g.2.2.2.2.1
theorem dX12_isIn_5 : decode cX12_isIn 5 = .ok (.iconst 1, 1) := dX12_isIn_0g.2.2.2.2.2.1
theorem dX12_isIn_6 : decode cX12_isIn 6 = .ok (.if_icmp .ne 7, 3) := dX12_isIn_0g.2.2.2.2.2.2.1
theorem dX12_isIn_9 : decode cX12_isIn 9 = .ok (.iconst 1, 1) := dX12_isIn_0g.2.2.2.2.2.2.2.1
theorem dX12_isIn_10 : decode cX12_isIn 10 = .ok (.goto 4, 3) := dX12_isIn_0g.2.2.2.2.2.2.2.2.1
theorem dX12_isIn_13 : decode cX12_isIn 13 = .ok (.iconst 0, 1) := dX12_isIn_0g.2.2.2.2.2.2.2.2.2
theorem dX12_isIn_14 : decode cX12_isIn 14 = .ok (.ireturn, 1) := by decide +kernel
set_option maxHeartbeats 4000000 in
set_option maxRecDepth 100000 in
theorem c_X12_isIn (l : Launch) (H0 : Heap) (x0 : Int32) (x1 : Int32) : Met l yX12_isIn (tb (.code yX12_isIn cX12_isIn 2 (some .boolean))) (rm 0) (va_Pc [.int x0, .int x1] (PS H0)) (QS H0 (fun r => 0 ≤ (r : Int32).toInt ∧ (r : Int32).toInt ≤ 1)) 0 0 (fun _ => False) := by
  refine Met.ofW (cc := cX12_isIn) (maxL := 2) (ret := (some .boolean)) (by decide) rfl ?_
  intro p e s m args below meth c s₁ B hml hv
  obtain ⟨hav, rfl, hN⟩ := hv
  have hx := B.exec
  have hb := B.bytes
  have hr := B.returns
  have hts := atoms_spec (ws := tb (.code yX12_isIn cX12_isIn 2 (some .boolean))) B.pre
  have hown : s.vm.findClass RX12 = some m.cls := findClass_of_methodNamed B.named
  have hlocks := B.notSynchronized
  have hS : va_S (fun _ => False) s.heap s.heap [] := va_S.rf
  have hl := lv_entry ([.int x0, .int x1]) (n := 2) (Nat.le_of_ble_eq_true rfl)
  rw [show entryFrame m args 2 = entryFrame m ([.int x0, .int x1] : List Value).toArray 2 from by rw [hav], lg_entry_eq]
  generalize (lg_sl ([.int x0, .int x1]) ++ List.replicate (2 - (lg_sl ([.int x0, .int x1])).length) Slot.unset).toArray = ls at hl ⊢
  have hl : lv_has ls 2 [(0, .int x0), (1, .int x1)] := hl
  generalize hR : (headSpec (tb (.code yX12_isIn cX12_isIn 2 (some .boolean))) (rm 0)).room = R
  have hR := hR.symm
  generalize hQ : MQ below (QS s.heap (fun r => 0 ≤ (r : Int32).toInt ∧ (r : Int32).toInt ≤ 1)) args s 0 0 (fun _ => False) = QF
  have hQ := hQ.symm
  refine lv_iload_n hx hb dX12_isIn_0 rfl (lv_at hl 0 rfl) ?_
  refine lv_iload_n hx hb dX12_isIn_1 rfl (lv_at hl 1 rfl) ?_
  refine lv_ishr hx hb dX12_isIn_2 ?_
  refine lv_topi (fun v1 e2 => ?_)
  refine lv_iconst (v := 1) hx hb dX12_isIn_3 (by decide) ?_
  refine lv_iand hx hb dX12_isIn_4 ?_
  refine lv_topi (fun v3 e4 => ?_)
  have tv3 := iv_andr (m := 1) (M := 1) e4 (by decide) (by decide)
  refine lv_iconst (v := 1) hx hb dX12_isIn_5 (by decide) ?_
  refine lv_icmp_ne (tgt := 13) hx hb dX12_isIn_6 (by decide) (fun c5 => ?_) (fun c5 => ?_)
  · skip
    have k6 := iv_ne (X := v3.toInt) (Y := (1)) rfl (by decide) c5
    refine lv_iconst (v := 0) hx hb dX12_isIn_13 (by decide) ?_
    have hpost : 0 ≤ (0 : Int32).toInt ∧ (0 : Int32).toInt ≤ 1 := by first | decide | omega
    rw [hQ]
    exact W.zret (v := 0) hx hb hr (by decide) (fun t ht hW => ⟨⟨0, (), rfl, hpost, ht⟩, hS.F ht⟩) hS.2.2 dX12_isIn_14
  · skip
    have k7 := iv_eq (X := v3.toInt) (Y := (1)) rfl (by decide) c5
    refine lv_iconst (v := 1) hx hb dX12_isIn_9 (by decide) ?_
    refine lv_goto (tgt := 14) hx hb dX12_isIn_10 (by decide) ?_
    have hpost : 0 ≤ (1 : Int32).toInt ∧ (1 : Int32).toInt ≤ 1 := by first | decide | omega
    rw [hQ]
    exact W.zret (v := 1) hx hb hr (by decide) (fun t ht hW => ⟨⟨1, (), rfl, hpost, ht⟩, hS.F ht⟩) hS.2.2 dX12_isIn_14
theorem dX12_either_0g : (decode cX12_either 0 = .ok (.iload_n 0, 1)) ∧ (decode cX12_either 1 = .ok (.ifCond .ge 8, 3)) ∧ (decode cX12_either 4 = .ok (.iload_n 0, 1)) ∧ (decode cX12_either 5 = .ok (.ineg, 1)) ∧ (decode cX12_either 6 = .ok (.goto 4, 3)) ∧ (decode cX12_either 9 = .ok (.iload_n 0, 1)) ∧ (decode cX12_either 10 = .ok (.ireturn, 1)) := by decide +kernel
theorem dX12_either_0 : decode cX12_either 0 = .ok (.iload_n 0, 1) := dX12_either_0g.1
theorem dX12_either_1 : decode cX12_either 1 = .ok (.ifCond .ge 8, 3) := dX12_either_0g.2.1
theorem dX12_either_4 : decode cX12_either 4 = .ok (.iload_n 0, 1) := dX12_either_0g.2.2.1
theorem dX12_either_5 : decode cX12_either 5 = .ok (.ineg, 1) := dX12_either_0g.2.2.2.1
theorem dX12_either_6 : decode cX12_either 6 = .ok (.goto 4, 3) := dX12_either_0g.2.2.2.2.1
theorem dX12_either_9 : decode cX12_either 9 = .ok (.iload_n 0, 1) := dX12_either_0g.2.2.2.2.2.1
theorem dX12_either_10 : decode cX12_either 10 = .ok (.ireturn, 1) := dX12_either_0g.2.2.2.2.2.2
set_option maxHeartbeats 4000000 in
set_option maxRecDepth 100000 in
theorem c_X12_either (l : Launch) (H0 : Heap) (x0 : Int32) : Met l yX12_either (tb (.code yX12_either cX12_either 1 (some .int))) (rm 0) (va_Pc [.int x0] (PS H0)) (QS H0 (fun r => True)) 0 0 (fun _ => False) := by
  refine Met.ofW (cc := cX12_either) (maxL := 1) (ret := (some .int)) (by decide) rfl ?_
  intro p e s m args below meth c s₁ B hml hv
  obtain ⟨hav, rfl, hN⟩ := hv
  have hx := B.exec
  have hb := B.bytes
  have hr := B.returns
  have hts := atoms_spec (ws := tb (.code yX12_either cX12_either 1 (some .int))) B.pre
  have hown : s.vm.findClass RX12 = some m.cls := findClass_of_methodNamed B.named
  have hlocks := B.notSynchronized
  have hS : va_S (fun _ => False) s.heap s.heap [] := va_S.rf
  have hl := lv_entry ([.int x0]) (n := 1) (Nat.le_of_ble_eq_true rfl)
  rw [show entryFrame m args 1 = entryFrame m ([.int x0] : List Value).toArray 1 from by rw [hav], lg_entry_eq]
  generalize (lg_sl ([.int x0]) ++ List.replicate (1 - (lg_sl ([.int x0])).length) Slot.unset).toArray = ls at hl ⊢
  have hl : lv_has ls 1 [(0, .int x0)] := hl
  generalize hR : (headSpec (tb (.code yX12_either cX12_either 1 (some .int))) (rm 0)).room = R
  have hR := hR.symm
  generalize hQ : MQ below (QS s.heap (fun r => True)) args s 0 0 (fun _ => False) = QF
  have hQ := hQ.symm
  refine lv_iload_n hx hb dX12_either_0 rfl (lv_at hl 0 rfl) ?_
  have k1 := iv_lo x0
  have k2 := iv_hi x0
  refine lv_if_ge (tgt := 9) hx hb dX12_either_1 (by decide) (fun c3 => ?_) (fun c3 => ?_)
  · skip
    have k4 := iv_le (X := (0)) (Y := x0.toInt) (by decide) rfl c3
    refine lv_iload_n hx hb dX12_either_9 rfl (lv_at hl 0 rfl) ?_
    have hpost : True := trivial
    rw [hQ]
    exact W.iret (v := x0) hx hb hr (fun t ht hW => ⟨⟨x0, (), rfl, hpost, ht⟩, hS.F ht⟩) hS.2.2 dX12_either_10
  · skip
    have k5 := iv_nle (X := (0)) (Y := x0.toInt) (by decide) rfl c3
    refine lv_iload_n hx hb dX12_either_4 rfl (lv_at hl 0 rfl) ?_
    refine lv_ineg hx hb dX12_either_5 ?_
    refine lv_topi (fun v6 e7 => ?_)
    refine lv_goto (tgt := 10) hx hb dX12_either_6 (by decide) ?_
    have hpost : True := trivial
    rw [hQ]
    exact W.iret (v := v6) hx hb hr (fun t ht hW => ⟨⟨v6, (), rfl, hpost, ht⟩, hS.F ht⟩) hS.2.2 dX12_either_10
theorem dX12_isCell_0g : (decode cX12_isCell 0 = .ok (.iload_n 0, 1)) ∧ (decode cX12_isCell 1 = .ok (.iconst 0, 1)) ∧ (decode cX12_isCell 2 = .ok (.bipush 23, 2)) ∧ (decode cX12_isCell 4 = .ok (.invokestatic 103, 3)) ∧ (decode cX12_isCell 7 = .ok (.ireturn, 1)) := by decide +kernel
theorem dX12_isCell_0 : decode cX12_isCell 0 = .ok (.iload_n 0, 1) := dX12_isCell_0g.1
theorem dX12_isCell_1 : decode cX12_isCell 1 = .ok (.iconst 0, 1) := dX12_isCell_0g.2.1
theorem dX12_isCell_2 : decode cX12_isCell 2 = .ok (.bipush 23, 2) := dX12_isCell_0g.2.2.1
theorem dX12_isCell_4 : decode cX12_isCell 4 = .ok (.invokestatic 103, 3) := dX12_isCell_0g.2.2.2.1
theorem dX12_isCell_7 : decode cX12_isCell 7 = .ok (.ireturn, 1) := dX12_isCell_0g.2.2.2.2
set_option maxHeartbeats 4000000 in
set_option maxRecDepth 100000 in
theorem c_X12_isCell (l : Launch) (H0 : Heap) (x0 : Int32) : Met l yX12_isCell (tb (.code yX12_isCell cX12_isCell 1 (some .boolean))) (rm 1) (va_Pc [.int x0] (PS H0)) (QS H0 (fun r => ((r : Int32) = 1 ∧ rg x0 0 23) ∨ ((r : Int32) = 0 ∧ ¬ rg x0 0 23))) 0 0 (fun _ => False) := by
  refine Met.ofW (cc := cX12_isCell) (maxL := 1) (ret := (some .boolean)) (by decide) rfl ?_
  intro p e s m args below meth c s₁ B hml hv
  obtain ⟨hav, rfl, hN⟩ := hv
  have hx := B.exec
  have hb := B.bytes
  have hr := B.returns
  have hts := atoms_spec (ws := tb (.code yX12_isCell cX12_isCell 1 (some .boolean))) B.pre
  have hown : s.vm.findClass RX12 = some m.cls := findClass_of_methodNamed B.named
  have hlocks := B.notSynchronized
  have hS : va_S (fun _ => False) s.heap s.heap [] := va_S.rf
  have hl := lv_entry ([.int x0]) (n := 1) (Nat.le_of_ble_eq_true rfl)
  rw [show entryFrame m args 1 = entryFrame m ([.int x0] : List Value).toArray 1 from by rw [hav], lg_entry_eq]
  generalize (lg_sl ([.int x0]) ++ List.replicate (1 - (lg_sl ([.int x0])).length) Slot.unset).toArray = ls at hl ⊢
  have hl : lv_has ls 1 [(0, .int x0)] := hl
  generalize hR : (headSpec (tb (.code yX12_isCell cX12_isCell 1 (some .boolean))) (rm 1)).room = R
  have hR := hR.symm
  generalize hQ : MQ below (QS s.heap (fun r => ((r : Int32) = 1 ∧ rg x0 0 23) ∨ ((r : Int32) = 0 ∧ ¬ rg x0 0 23))) args s 0 0 (fun _ => False) = QF
  have hQ := hQ.symm
  refine lv_iload_n hx hb dX12_isCell_0 rfl (lv_at hl 0 rfl) ?_
  refine lv_iconst (v := 0) hx hb dX12_isCell_1 (by decide) ?_
  refine lv_bipush (v := 23) hx hb dX12_isCell_2 (by decide) ?_
  refine th_cSs (As := [.int x0, .int 0, .int 23]) (rest := []) (n := 3) (d := 0) ⟨hx, hb, hml, hown, hts⟩ (c_X12_lies l s.heap x0 0 23) wd_1395 wd_1396 wd_13 wd_1397 (by decide +kernel) ⟨by rw [hR]; exact Nat.le_of_ble_eq_true rfl, by rw [hR]; exact Nat.le_of_ble_eq_true rfl⟩ hN hS rfl hl.1 rfl (Nat.le_of_ble_eq_true rfl) dX12_isCell_4 ⟨Nat.zero_le _, Nat.zero_le _⟩ (fun r1 locs hp hS => ?_)
  rcases hp with ⟨rfl, hp⟩ | ⟨rfl, hp⟩
  · skip
    try simp only [rg, not_and, Int.not_le] at hp
    have hp2 := hp
    try rw [show (0 : Int32).toInt = 0 from by decide] at hp2
    try rw [show (23 : Int32).toInt = 23 from by decide] at hp2
    have hpost : ((1 : Int32) = 1 ∧ rg x0 0 23) ∨ ((1 : Int32) = 0 ∧ ¬ rg x0 0 23) := by first | exact Or.inl ⟨rfl, by (try simp only [rg]); omega⟩ | exact Or.inr ⟨rfl, by (try simp only [rg]); omega⟩
    rw [hQ]
    exact W.zret (v := 1) hx hb hr (by decide) (fun t ht hW => ⟨⟨1, (), rfl, hpost, ht⟩, hS.F ht⟩) hS.2.2 dX12_isCell_7
  · skip
    try simp only [rg, not_and, Int.not_le] at hp
    have hp3 := hp
    try rw [show (0 : Int32).toInt = 0 from by decide] at hp3
    try rw [show (23 : Int32).toInt = 23 from by decide] at hp3
    have hpost : ((0 : Int32) = 1 ∧ rg x0 0 23) ∨ ((0 : Int32) = 0 ∧ ¬ rg x0 0 23) := by first | exact Or.inl ⟨rfl, by (try simp only [rg]); omega⟩ | exact Or.inr ⟨rfl, by (try simp only [rg]); omega⟩
    rw [hQ]
    exact W.zret (v := 0) hx hb hr (by decide) (fun t ht hW => ⟨⟨0, (), rfl, hpost, ht⟩, hS.F ht⟩) hS.2.2 dX12_isCell_7
theorem dX12_isPlace_0g : (decode cX12_isPlace 0 = .ok (.iload_n 0, 1)) ∧ (decode cX12_isPlace 1 = .ok (.iconst 0, 1)) ∧ (decode cX12_isPlace 2 = .ok (.bipush 24, 2)) ∧ (decode cX12_isPlace 4 = .ok (.invokestatic 103, 3)) ∧ (decode cX12_isPlace 7 = .ok (.ireturn, 1)) := by decide +kernel
theorem dX12_isPlace_0 : decode cX12_isPlace 0 = .ok (.iload_n 0, 1) := dX12_isPlace_0g.1
theorem dX12_isPlace_1 : decode cX12_isPlace 1 = .ok (.iconst 0, 1) := dX12_isPlace_0g.2.1
theorem dX12_isPlace_2 : decode cX12_isPlace 2 = .ok (.bipush 24, 2) := dX12_isPlace_0g.2.2.1
theorem dX12_isPlace_4 : decode cX12_isPlace 4 = .ok (.invokestatic 103, 3) := dX12_isPlace_0g.2.2.2.1
theorem dX12_isPlace_7 : decode cX12_isPlace 7 = .ok (.ireturn, 1) := dX12_isPlace_0g.2.2.2.2
set_option maxHeartbeats 4000000 in
set_option maxRecDepth 100000 in
theorem c_X12_isPlace (l : Launch) (H0 : Heap) (x0 : Int32) : Met l yX12_isPlace (tb (.code yX12_isPlace cX12_isPlace 1 (some .boolean))) (rm 1) (va_Pc [.int x0] (PS H0)) (QS H0 (fun r => ((r : Int32) = 1 ∧ rg x0 0 24) ∨ ((r : Int32) = 0 ∧ ¬ rg x0 0 24))) 0 0 (fun _ => False) := by
  refine Met.ofW (cc := cX12_isPlace) (maxL := 1) (ret := (some .boolean)) (by decide) rfl ?_
  intro p e s m args below meth c s₁ B hml hv
  obtain ⟨hav, rfl, hN⟩ := hv
  have hx := B.exec
  have hb := B.bytes
  have hr := B.returns
  have hts := atoms_spec (ws := tb (.code yX12_isPlace cX12_isPlace 1 (some .boolean))) B.pre
  have hown : s.vm.findClass RX12 = some m.cls := findClass_of_methodNamed B.named
  have hlocks := B.notSynchronized
  have hS : va_S (fun _ => False) s.heap s.heap [] := va_S.rf
  have hl := lv_entry ([.int x0]) (n := 1) (Nat.le_of_ble_eq_true rfl)
  rw [show entryFrame m args 1 = entryFrame m ([.int x0] : List Value).toArray 1 from by rw [hav], lg_entry_eq]
  generalize (lg_sl ([.int x0]) ++ List.replicate (1 - (lg_sl ([.int x0])).length) Slot.unset).toArray = ls at hl ⊢
  have hl : lv_has ls 1 [(0, .int x0)] := hl
  generalize hR : (headSpec (tb (.code yX12_isPlace cX12_isPlace 1 (some .boolean))) (rm 1)).room = R
  have hR := hR.symm
  generalize hQ : MQ below (QS s.heap (fun r => ((r : Int32) = 1 ∧ rg x0 0 24) ∨ ((r : Int32) = 0 ∧ ¬ rg x0 0 24))) args s 0 0 (fun _ => False) = QF
  have hQ := hQ.symm
  refine lv_iload_n hx hb dX12_isPlace_0 rfl (lv_at hl 0 rfl) ?_
  refine lv_iconst (v := 0) hx hb dX12_isPlace_1 (by decide) ?_
  refine lv_bipush (v := 24) hx hb dX12_isPlace_2 (by decide) ?_
  refine th_cSs (As := [.int x0, .int 0, .int 24]) (rest := []) (n := 3) (d := 0) ⟨hx, hb, hml, hown, hts⟩ (c_X12_lies l s.heap x0 0 24) wd_1395 wd_1396 wd_13 wd_1397 (by decide +kernel) ⟨by rw [hR]; exact Nat.le_of_ble_eq_true rfl, by rw [hR]; exact Nat.le_of_ble_eq_true rfl⟩ hN hS rfl hl.1 rfl (Nat.le_of_ble_eq_true rfl) dX12_isPlace_4 ⟨Nat.zero_le _, Nat.zero_le _⟩ (fun r1 locs hp hS => ?_)
  rcases hp with ⟨rfl, hp⟩ | ⟨rfl, hp⟩
  · skip
    try simp only [rg, not_and, Int.not_le] at hp
    have hp2 := hp
    try rw [show (0 : Int32).toInt = 0 from by decide] at hp2
    try rw [show (24 : Int32).toInt = 24 from by decide] at hp2
    have hpost : ((1 : Int32) = 1 ∧ rg x0 0 24) ∨ ((1 : Int32) = 0 ∧ ¬ rg x0 0 24) := by first | exact Or.inl ⟨rfl, by (try simp only [rg]); omega⟩ | exact Or.inr ⟨rfl, by (try simp only [rg]); omega⟩
    rw [hQ]
    exact W.zret (v := 1) hx hb hr (by decide) (fun t ht hW => ⟨⟨1, (), rfl, hpost, ht⟩, hS.F ht⟩) hS.2.2 dX12_isPlace_7
  · skip
    try simp only [rg, not_and, Int.not_le] at hp
    have hp3 := hp
    try rw [show (0 : Int32).toInt = 0 from by decide] at hp3
    try rw [show (24 : Int32).toInt = 24 from by decide] at hp3
    have hpost : ((0 : Int32) = 1 ∧ rg x0 0 24) ∨ ((0 : Int32) = 0 ∧ ¬ rg x0 0 24) := by first | exact Or.inl ⟨rfl, by (try simp only [rg]); omega⟩ | exact Or.inr ⟨rfl, by (try simp only [rg]); omega⟩
    rw [hQ]
    exact W.zret (v := 0) hx hb hr (by decide) (fun t ht hW => ⟨⟨0, (), rfl, hpost, ht⟩, hS.F ht⟩) hS.2.2 dX12_isPlace_7
theorem dX12_isHour_0g : (decode cX12_isHour 0 = .ok (.iload_n 0, 1)) ∧ (decode cX12_isHour 1 = .ok (.iconst 0, 1)) ∧ (decode cX12_isHour 2 = .ok (.bipush 95, 2)) ∧ (decode cX12_isHour 4 = .ok (.invokestatic 103, 3)) ∧ (decode cX12_isHour 7 = .ok (.ireturn, 1)) := by decide +kernel
theorem dX12_isHour_0 : decode cX12_isHour 0 = .ok (.iload_n 0, 1) := dX12_isHour_0g.1
theorem dX12_isHour_1 : decode cX12_isHour 1 = .ok (.iconst 0, 1) := dX12_isHour_0g.2.1
theorem dX12_isHour_2 : decode cX12_isHour 2 = .ok (.bipush 95, 2) := dX12_isHour_0g.2.2.1
theorem dX12_isHour_4 : decode cX12_isHour 4 = .ok (.invokestatic 103, 3) := dX12_isHour_0g.2.2.2.1
theorem dX12_isHour_7 : decode cX12_isHour 7 = .ok (.ireturn, 1) := dX12_isHour_0g.2.2.2.2
set_option maxHeartbeats 4000000 in
set_option maxRecDepth 100000 in
theorem c_X12_isHour (l : Launch) (H0 : Heap) (x0 : Int32) : Met l yX12_isHour (tb (.code yX12_isHour cX12_isHour 1 (some .boolean))) (rm 1) (va_Pc [.int x0] (PS H0)) (QS H0 (fun r => ((r : Int32) = 1 ∧ rg x0 0 95) ∨ ((r : Int32) = 0 ∧ ¬ rg x0 0 95))) 0 0 (fun _ => False) := by
  refine Met.ofW (cc := cX12_isHour) (maxL := 1) (ret := (some .boolean)) (by decide) rfl ?_
  intro p e s m args below meth c s₁ B hml hv
  obtain ⟨hav, rfl, hN⟩ := hv
  have hx := B.exec
  have hb := B.bytes
  have hr := B.returns
  have hts := atoms_spec (ws := tb (.code yX12_isHour cX12_isHour 1 (some .boolean))) B.pre
  have hown : s.vm.findClass RX12 = some m.cls := findClass_of_methodNamed B.named
  have hlocks := B.notSynchronized
  have hS : va_S (fun _ => False) s.heap s.heap [] := va_S.rf
  have hl := lv_entry ([.int x0]) (n := 1) (Nat.le_of_ble_eq_true rfl)
  rw [show entryFrame m args 1 = entryFrame m ([.int x0] : List Value).toArray 1 from by rw [hav], lg_entry_eq]
  generalize (lg_sl ([.int x0]) ++ List.replicate (1 - (lg_sl ([.int x0])).length) Slot.unset).toArray = ls at hl ⊢
  have hl : lv_has ls 1 [(0, .int x0)] := hl
  generalize hR : (headSpec (tb (.code yX12_isHour cX12_isHour 1 (some .boolean))) (rm 1)).room = R
  have hR := hR.symm
  generalize hQ : MQ below (QS s.heap (fun r => ((r : Int32) = 1 ∧ rg x0 0 95) ∨ ((r : Int32) = 0 ∧ ¬ rg x0 0 95))) args s 0 0 (fun _ => False) = QF
  have hQ := hQ.symm
  refine lv_iload_n hx hb dX12_isHour_0 rfl (lv_at hl 0 rfl) ?_
  refine lv_iconst (v := 0) hx hb dX12_isHour_1 (by decide) ?_
  refine lv_bipush (v := 95) hx hb dX12_isHour_2 (by decide) ?_
  refine th_cSs (As := [.int x0, .int 0, .int 95]) (rest := []) (n := 3) (d := 0) ⟨hx, hb, hml, hown, hts⟩ (c_X12_lies l s.heap x0 0 95) wd_1395 wd_1396 wd_13 wd_1397 (by decide +kernel) ⟨by rw [hR]; exact Nat.le_of_ble_eq_true rfl, by rw [hR]; exact Nat.le_of_ble_eq_true rfl⟩ hN hS rfl hl.1 rfl (Nat.le_of_ble_eq_true rfl) dX12_isHour_4 ⟨Nat.zero_le _, Nat.zero_le _⟩ (fun r1 locs hp hS => ?_)
  rcases hp with ⟨rfl, hp⟩ | ⟨rfl, hp⟩
  · skip
    try simp only [rg, not_and, Int.not_le] at hp
    have hp2 := hp
    try rw [show (0 : Int32).toInt = 0 from by decide] at hp2
    try rw [show (95 : Int32).toInt = 95 from by decide] at hp2
    have hpost : ((1 : Int32) = 1 ∧ rg x0 0 95) ∨ ((1 : Int32) = 0 ∧ ¬ rg x0 0 95) := by first | exact Or.inl ⟨rfl, by (try simp only [rg]); omega⟩ | exact Or.inr ⟨rfl, by (try simp only [rg]); omega⟩
    rw [hQ]
    exact W.zret (v := 1) hx hb hr (by decide) (fun t ht hW => ⟨⟨1, (), rfl, hpost, ht⟩, hS.F ht⟩) hS.2.2 dX12_isHour_7
  · skip
    try simp only [rg, not_and, Int.not_le] at hp
    have hp3 := hp
    try rw [show (0 : Int32).toInt = 0 from by decide] at hp3
    try rw [show (95 : Int32).toInt = 95 from by decide] at hp3
    have hpost : ((0 : Int32) = 1 ∧ rg x0 0 95) ∨ ((0 : Int32) = 0 ∧ ¬ rg x0 0 95) := by first | exact Or.inl ⟨rfl, by (try simp only [rg]); omega⟩ | exact Or.inr ⟨rfl, by (try simp only [rg]); omega⟩
    rw [hQ]
    exact W.zret (v := 0) hx hb hr (by decide) (fun t ht hW => ⟨⟨0, (), rfl, hpost, ht⟩, hS.F ht⟩) hS.2.2 dX12_isHour_7
theorem dX12_isTime_0g : (decode cX12_isTime 0 = .ok (.iload_n 0, 1)) ∧ (decode cX12_isTime 1 = .ok (.iconst 0, 1)) ∧ (decode cX12_isTime 2 = .ok (.bipush 96, 2)) ∧ (decode cX12_isTime 4 = .ok (.invokestatic 103, 3)) ∧ (decode cX12_isTime 7 = .ok (.ireturn, 1)) := by decide +kernel
theorem dX12_isTime_0 : decode cX12_isTime 0 = .ok (.iload_n 0, 1) := dX12_isTime_0g.1
theorem dX12_isTime_1 : decode cX12_isTime 1 = .ok (.iconst 0, 1) := dX12_isTime_0g.2.1
theorem dX12_isTime_2 : decode cX12_isTime 2 = .ok (.bipush 96, 2) := dX12_isTime_0g.2.2.1
theorem dX12_isTime_4 : decode cX12_isTime 4 = .ok (.invokestatic 103, 3) := dX12_isTime_0g.2.2.2.1
theorem dX12_isTime_7 : decode cX12_isTime 7 = .ok (.ireturn, 1) := dX12_isTime_0g.2.2.2.2
set_option maxHeartbeats 4000000 in
set_option maxRecDepth 100000 in
theorem c_X12_isTime (l : Launch) (H0 : Heap) (x0 : Int32) : Met l yX12_isTime (tb (.code yX12_isTime cX12_isTime 1 (some .boolean))) (rm 1) (va_Pc [.int x0] (PS H0)) (QS H0 (fun r => ((r : Int32) = 1 ∧ rg x0 0 96) ∨ ((r : Int32) = 0 ∧ ¬ rg x0 0 96))) 0 0 (fun _ => False) := by
  refine Met.ofW (cc := cX12_isTime) (maxL := 1) (ret := (some .boolean)) (by decide) rfl ?_
  intro p e s m args below meth c s₁ B hml hv
  obtain ⟨hav, rfl, hN⟩ := hv
  have hx := B.exec
  have hb := B.bytes
  have hr := B.returns
  have hts := atoms_spec (ws := tb (.code yX12_isTime cX12_isTime 1 (some .boolean))) B.pre
  have hown : s.vm.findClass RX12 = some m.cls := findClass_of_methodNamed B.named
  have hlocks := B.notSynchronized
  have hS : va_S (fun _ => False) s.heap s.heap [] := va_S.rf
  have hl := lv_entry ([.int x0]) (n := 1) (Nat.le_of_ble_eq_true rfl)
  rw [show entryFrame m args 1 = entryFrame m ([.int x0] : List Value).toArray 1 from by rw [hav], lg_entry_eq]
  generalize (lg_sl ([.int x0]) ++ List.replicate (1 - (lg_sl ([.int x0])).length) Slot.unset).toArray = ls at hl ⊢
  have hl : lv_has ls 1 [(0, .int x0)] := hl
  generalize hR : (headSpec (tb (.code yX12_isTime cX12_isTime 1 (some .boolean))) (rm 1)).room = R
  have hR := hR.symm
  generalize hQ : MQ below (QS s.heap (fun r => ((r : Int32) = 1 ∧ rg x0 0 96) ∨ ((r : Int32) = 0 ∧ ¬ rg x0 0 96))) args s 0 0 (fun _ => False) = QF
  have hQ := hQ.symm
  refine lv_iload_n hx hb dX12_isTime_0 rfl (lv_at hl 0 rfl) ?_
  refine lv_iconst (v := 0) hx hb dX12_isTime_1 (by decide) ?_
  refine lv_bipush (v := 96) hx hb dX12_isTime_2 (by decide) ?_
  refine th_cSs (As := [.int x0, .int 0, .int 96]) (rest := []) (n := 3) (d := 0) ⟨hx, hb, hml, hown, hts⟩ (c_X12_lies l s.heap x0 0 96) wd_1395 wd_1396 wd_13 wd_1397 (by decide +kernel) ⟨by rw [hR]; exact Nat.le_of_ble_eq_true rfl, by rw [hR]; exact Nat.le_of_ble_eq_true rfl⟩ hN hS rfl hl.1 rfl (Nat.le_of_ble_eq_true rfl) dX12_isTime_4 ⟨Nat.zero_le _, Nat.zero_le _⟩ (fun r1 locs hp hS => ?_)
  rcases hp with ⟨rfl, hp⟩ | ⟨rfl, hp⟩
  · skip
    try simp only [rg, not_and, Int.not_le] at hp
    have hp2 := hp
    try rw [show (0 : Int32).toInt = 0 from by decide] at hp2
    try rw [show (96 : Int32).toInt = 96 from by decide] at hp2
    have hpost : ((1 : Int32) = 1 ∧ rg x0 0 96) ∨ ((1 : Int32) = 0 ∧ ¬ rg x0 0 96) := by first | exact Or.inl ⟨rfl, by (try simp only [rg]); omega⟩ | exact Or.inr ⟨rfl, by (try simp only [rg]); omega⟩
    rw [hQ]
    exact W.zret (v := 1) hx hb hr (by decide) (fun t ht hW => ⟨⟨1, (), rfl, hpost, ht⟩, hS.F ht⟩) hS.2.2 dX12_isTime_7
  · skip
    try simp only [rg, not_and, Int.not_le] at hp
    have hp3 := hp
    try rw [show (0 : Int32).toInt = 0 from by decide] at hp3
    try rw [show (96 : Int32).toInt = 96 from by decide] at hp3
    have hpost : ((0 : Int32) = 1 ∧ rg x0 0 96) ∨ ((0 : Int32) = 0 ∧ ¬ rg x0 0 96) := by first | exact Or.inl ⟨rfl, by (try simp only [rg]); omega⟩ | exact Or.inr ⟨rfl, by (try simp only [rg]); omega⟩
    rw [hQ]
    exact W.zret (v := 0) hx hb hr (by decide) (fun t ht hW => ⟨⟨0, (), rfl, hpost, ht⟩, hS.F ht⟩) hS.2.2 dX12_isTime_7
theorem dX12_isColour_0g : (decode cX12_isColour 0 = .ok (.iload_n 0, 1)) ∧ (decode cX12_isColour 1 = .ok (.iconst 0, 1)) ∧ (decode cX12_isColour 2 = .ok (.iconst 3, 1)) ∧ (decode cX12_isColour 3 = .ok (.invokestatic 103, 3)) ∧ (decode cX12_isColour 6 = .ok (.ireturn, 1)) := by decide +kernel
theorem dX12_isColour_0 : decode cX12_isColour 0 = .ok (.iload_n 0, 1) := dX12_isColour_0g.1
theorem dX12_isColour_1 : decode cX12_isColour 1 = .ok (.iconst 0, 1) := dX12_isColour_0g.2.1
theorem dX12_isColour_2 : decode cX12_isColour 2 = .ok (.iconst 3, 1) := dX12_isColour_0g.2.2.1
theorem dX12_isColour_3 : decode cX12_isColour 3 = .ok (.invokestatic 103, 3) := dX12_isColour_0g.2.2.2.1
theorem dX12_isColour_6 : decode cX12_isColour 6 = .ok (.ireturn, 1) := dX12_isColour_0g.2.2.2.2
set_option maxHeartbeats 4000000 in
set_option maxRecDepth 100000 in
theorem c_X12_isColour (l : Launch) (H0 : Heap) (x0 : Int32) : Met l yX12_isColour (tb (.code yX12_isColour cX12_isColour 1 (some .boolean))) (rm 1) (va_Pc [.int x0] (PS H0)) (QS H0 (fun r => ((r : Int32) = 1 ∧ rg x0 0 3) ∨ ((r : Int32) = 0 ∧ ¬ rg x0 0 3))) 0 0 (fun _ => False) := by
  refine Met.ofW (cc := cX12_isColour) (maxL := 1) (ret := (some .boolean)) (by decide) rfl ?_
  intro p e s m args below meth c s₁ B hml hv
  obtain ⟨hav, rfl, hN⟩ := hv
  have hx := B.exec
  have hb := B.bytes
  have hr := B.returns
  have hts := atoms_spec (ws := tb (.code yX12_isColour cX12_isColour 1 (some .boolean))) B.pre
  have hown : s.vm.findClass RX12 = some m.cls := findClass_of_methodNamed B.named
  have hlocks := B.notSynchronized
  have hS : va_S (fun _ => False) s.heap s.heap [] := va_S.rf
  have hl := lv_entry ([.int x0]) (n := 1) (Nat.le_of_ble_eq_true rfl)
  rw [show entryFrame m args 1 = entryFrame m ([.int x0] : List Value).toArray 1 from by rw [hav], lg_entry_eq]
  generalize (lg_sl ([.int x0]) ++ List.replicate (1 - (lg_sl ([.int x0])).length) Slot.unset).toArray = ls at hl ⊢
  have hl : lv_has ls 1 [(0, .int x0)] := hl
  generalize hR : (headSpec (tb (.code yX12_isColour cX12_isColour 1 (some .boolean))) (rm 1)).room = R
  have hR := hR.symm
  generalize hQ : MQ below (QS s.heap (fun r => ((r : Int32) = 1 ∧ rg x0 0 3) ∨ ((r : Int32) = 0 ∧ ¬ rg x0 0 3))) args s 0 0 (fun _ => False) = QF
  have hQ := hQ.symm
  refine lv_iload_n hx hb dX12_isColour_0 rfl (lv_at hl 0 rfl) ?_
  refine lv_iconst (v := 0) hx hb dX12_isColour_1 (by decide) ?_
  refine lv_iconst (v := 3) hx hb dX12_isColour_2 (by decide) ?_
  refine th_cSs (As := [.int x0, .int 0, .int 3]) (rest := []) (n := 3) (d := 0) ⟨hx, hb, hml, hown, hts⟩ (c_X12_lies l s.heap x0 0 3) wd_1395 wd_1396 wd_13 wd_1397 (by decide +kernel) ⟨by rw [hR]; exact Nat.le_of_ble_eq_true rfl, by rw [hR]; exact Nat.le_of_ble_eq_true rfl⟩ hN hS rfl hl.1 rfl (Nat.le_of_ble_eq_true rfl) dX12_isColour_3 ⟨Nat.zero_le _, Nat.zero_le _⟩ (fun r1 locs hp hS => ?_)
  rcases hp with ⟨rfl, hp⟩ | ⟨rfl, hp⟩
  · skip
    try simp only [rg, not_and, Int.not_le] at hp
    have hp2 := hp
    try rw [show (0 : Int32).toInt = 0 from by decide] at hp2
    try rw [show (3 : Int32).toInt = 3 from by decide] at hp2
    have hpost : ((1 : Int32) = 1 ∧ rg x0 0 3) ∨ ((1 : Int32) = 0 ∧ ¬ rg x0 0 3) := by first | exact Or.inl ⟨rfl, by (try simp only [rg]); omega⟩ | exact Or.inr ⟨rfl, by (try simp only [rg]); omega⟩
    rw [hQ]
    exact W.zret (v := 1) hx hb hr (by decide) (fun t ht hW => ⟨⟨1, (), rfl, hpost, ht⟩, hS.F ht⟩) hS.2.2 dX12_isColour_6
  · skip
    try simp only [rg, not_and, Int.not_le] at hp
    have hp3 := hp
    try rw [show (0 : Int32).toInt = 0 from by decide] at hp3
    try rw [show (3 : Int32).toInt = 3 from by decide] at hp3
    have hpost : ((0 : Int32) = 1 ∧ rg x0 0 3) ∨ ((0 : Int32) = 0 ∧ ¬ rg x0 0 3) := by first | exact Or.inl ⟨rfl, by (try simp only [rg]); omega⟩ | exact Or.inr ⟨rfl, by (try simp only [rg]); omega⟩
    rw [hQ]
    exact W.zret (v := 0) hx hb hr (by decide) (fun t ht hW => ⟨⟨0, (), rfl, hpost, ht⟩, hS.F ht⟩) hS.2.2 dX12_isColour_6
theorem dX12_isSmall_0g : (decode cX12_isSmall 0 = .ok (.iload_n 0, 1)) ∧ (decode cX12_isSmall 1 = .ok (.bipush 97, 2)) ∧ (decode cX12_isSmall 3 = .ok (.if_icmp .lt 13, 3)) ∧ (decode cX12_isSmall 6 = .ok (.iload_n 0, 1)) ∧ (decode cX12_isSmall 7 = .ok (.bipush 122, 2)) ∧ (decode cX12_isSmall 9 = .ok (.if_icmp .gt 7, 3)) ∧ (decode cX12_isSmall 12 = .ok (.iconst 1, 1)) ∧ (decode cX12_isSmall 13 = .ok (.goto 4, 3)) ∧ (decode cX12_isSmall 16 = .ok (.iconst 0, 1)) ∧ (decode cX12_isSmall 17 = .ok (.ireturn, 1)) := by decide +kernel
theorem dX12_isSmall_0 : decode cX12_isSmall 0 = .ok (.iload_n 0, 1) := dX12_isSmall_0g.1
theorem dX12_isSmall_1 : decode cX12_isSmall 1 = .ok (.bipush 97, 2) := dX12_isSmall_0g.2.1
theorem dX12_isSmall_3 : decode cX12_isSmall 3 = .ok (.if_icmp .lt 13, 3) := dX12_isSmall_0g.2.2.1
theorem dX12_isSmall_6 : decode cX12_isSmall 6 = .ok (.iload_n 0, 1) := dX12_isSmall_0g.2.2.2.1
theorem dX12_isSmall_7 : decode cX12_isSmall 7 = .ok (.bipush 122, 2) := dX12_isSmall_0g.2.2.2.2.1
theorem dX12_isSmall_9 : decode cX12_isSmall 9 = .ok (.if_icmp .gt 7, 3) := dX12_isSmall_0g.2.2.2.2.2.1
theorem dX12_isSmall_12 : decode cX12_isSmall 12 = .ok (.iconst 1, 1) := dX12_isSmall_0g.2.2.2.2.2.2.1
theorem dX12_isSmall_13 : decode cX12_isSmall 13 = .ok (.goto 4, 3) := dX12_isSmall_0g.2.2.2.2.2.2.2.1
theorem dX12_isSmall_16 : decode cX12_isSmall 16 = .ok (.iconst 0, 1) := dX12_isSmall_0g.2.2.2.2.2.2.2.2.1
theorem dX12_isSmall_17 : decode cX12_isSmall 17 = .ok (.ireturn, 1) := dX12_isSmall_0g.2.2.2.2.2.2.2.2.2
set_option maxHeartbeats 4000000 in
set_option maxRecDepth 100000 in
theorem c_X12_isSmall (l : Launch) (H0 : Heap) (x0 : Int32) : Met l yX12_isSmall (tb (.code yX12_isSmall cX12_isSmall 1 (some .boolean))) (rm 1) (va_Pc [.int x0] (PS H0)) (QS H0 (fun r => ((r : Int32) = 1 ∧ rg x0 97 122) ∨ ((r : Int32) = 0 ∧ ¬ rg x0 97 122))) 0 0 (fun _ => False) := by
  refine Met.ofW (cc := cX12_isSmall) (maxL := 1) (ret := (some .boolean)) (by decide) rfl ?_
  intro p e s m args below meth c s₁ B hml hv
  obtain ⟨hav, rfl, hN⟩ := hv
  have hx := B.exec
  have hb := B.bytes
  have hr := B.returns
  have hts := atoms_spec (ws := tb (.code yX12_isSmall cX12_isSmall 1 (some .boolean))) B.pre
  have hown : s.vm.findClass RX12 = some m.cls := findClass_of_methodNamed B.named
  have hlocks := B.notSynchronized
  have hS : va_S (fun _ => False) s.heap s.heap [] := va_S.rf
  have hl := lv_entry ([.int x0]) (n := 1) (Nat.le_of_ble_eq_true rfl)
  rw [show entryFrame m args 1 = entryFrame m ([.int x0] : List Value).toArray 1 from by rw [hav], lg_entry_eq]
  generalize (lg_sl ([.int x0]) ++ List.replicate (1 - (lg_sl ([.int x0])).length) Slot.unset).toArray = ls at hl ⊢
  have hl : lv_has ls 1 [(0, .int x0)] := hl
  generalize hR : (headSpec (tb (.code yX12_isSmall cX12_isSmall 1 (some .boolean))) (rm 1)).room = R
  have hR := hR.symm
  generalize hQ : MQ below (QS s.heap (fun r => ((r : Int32) = 1 ∧ rg x0 97 122) ∨ ((r : Int32) = 0 ∧ ¬ rg x0 97 122))) args s 0 0 (fun _ => False) = QF
  have hQ := hQ.symm
  refine lv_iload_n hx hb dX12_isSmall_0 rfl (lv_at hl 0 rfl) ?_
  refine lv_bipush (v := 97) hx hb dX12_isSmall_1 (by decide) ?_
  have k1 := iv_lo x0
  have k2 := iv_hi x0
  refine lv_icmp_lt (tgt := 16) hx hb dX12_isSmall_3 (by decide) (fun c3 => ?_) (fun c3 => ?_)
  · skip
    have k4 := iv_lt (X := x0.toInt) (Y := (97)) rfl (by decide) c3
    refine lv_iconst (v := 0) hx hb dX12_isSmall_16 (by decide) ?_
    have hpost : ((0 : Int32) = 1 ∧ rg x0 97 122) ∨ ((0 : Int32) = 0 ∧ ¬ rg x0 97 122) := by first | exact Or.inl ⟨rfl, by (try simp only [rg]); omega⟩ | exact Or.inr ⟨rfl, by (try simp only [rg]); omega⟩
    rw [hQ]
    exact W.zret (v := 0) hx hb hr (by decide) (fun t ht hW => ⟨⟨0, (), rfl, hpost, ht⟩, hS.F ht⟩) hS.2.2 dX12_isSmall_17
  · skip
    have k5 := iv_nlt (X := x0.toInt) (Y := (97)) rfl (by decide) c3
    refine lv_iload_n hx hb dX12_isSmall_6 rfl (lv_at hl 0 rfl) ?_
    refine lv_bipush (v := 122) hx hb dX12_isSmall_7 (by decide) ?_
    refine lv_icmp_gt (tgt := 16) hx hb dX12_isSmall_9 (by decide) (fun c6 => ?_) (fun c6 => ?_)
    · skip
      have k7 := iv_lt (X := (122)) (Y := x0.toInt) (by decide) rfl c6
      refine lv_iconst (v := 0) hx hb dX12_isSmall_16 (by decide) ?_
      have hpost : ((0 : Int32) = 1 ∧ rg x0 97 122) ∨ ((0 : Int32) = 0 ∧ ¬ rg x0 97 122) := by first | exact Or.inl ⟨rfl, by (try simp only [rg]); omega⟩ | exact Or.inr ⟨rfl, by (try simp only [rg]); omega⟩
      rw [hQ]
      exact W.zret (v := 0) hx hb hr (by decide) (fun t ht hW => ⟨⟨0, (), rfl, hpost, ht⟩, hS.F ht⟩) hS.2.2 dX12_isSmall_17
    · skip
      have k8 := iv_nlt (X := (122)) (Y := x0.toInt) (by decide) rfl c6
      refine lv_iconst (v := 1) hx hb dX12_isSmall_12 (by decide) ?_
      refine lv_goto (tgt := 17) hx hb dX12_isSmall_13 (by decide) ?_
      have hpost : ((1 : Int32) = 1 ∧ rg x0 97 122) ∨ ((1 : Int32) = 0 ∧ ¬ rg x0 97 122) := by first | exact Or.inl ⟨rfl, by (try simp only [rg]); omega⟩ | exact Or.inr ⟨rfl, by (try simp only [rg]); omega⟩
      rw [hQ]
      exact W.zret (v := 1) hx hb hr (by decide) (fun t ht hW => ⟨⟨1, (), rfl, hpost, ht⟩, hS.F ht⟩) hS.2.2 dX12_isSmall_17
theorem dX12_isDigit_0g : (decode cX12_isDigit 0 = .ok (.iload_n 0, 1)) ∧ (decode cX12_isDigit 1 = .ok (.bipush 48, 2)) ∧ (decode cX12_isDigit 3 = .ok (.if_icmp .lt 13, 3)) ∧ (decode cX12_isDigit 6 = .ok (.iload_n 0, 1)) ∧ (decode cX12_isDigit 7 = .ok (.bipush 57, 2)) ∧ (decode cX12_isDigit 9 = .ok (.if_icmp .gt 7, 3)) ∧ (decode cX12_isDigit 12 = .ok (.iconst 1, 1)) ∧ (decode cX12_isDigit 13 = .ok (.goto 4, 3)) ∧ (decode cX12_isDigit 16 = .ok (.iconst 0, 1)) ∧ (decode cX12_isDigit 17 = .ok (.ireturn, 1)) := by decide +kernel
theorem dX12_isDigit_0 : decode cX12_isDigit 0 = .ok (.iload_n 0, 1) := dX12_isDigit_0g.1
theorem dX12_isDigit_1 : decode cX12_isDigit 1 = .ok (.bipush 48, 2) := dX12_isDigit_0g.2.1
theorem dX12_isDigit_3 : decode cX12_isDigit 3 = .ok (.if_icmp .lt 13, 3) := dX12_isDigit_0g.2.2.1
theorem dX12_isDigit_6 : decode cX12_isDigit 6 = .ok (.iload_n 0, 1) := dX12_isDigit_0g.2.2.2.1
theorem dX12_isDigit_7 : decode cX12_isDigit 7 = .ok (.bipush 57, 2) := dX12_isDigit_0g.2.2.2.2.1
theorem dX12_isDigit_9 : decode cX12_isDigit 9 = .ok (.if_icmp .gt 7, 3) := dX12_isDigit_0g.2.2.2.2.2.1
theorem dX12_isDigit_12 : decode cX12_isDigit 12 = .ok (.iconst 1, 1) := dX12_isDigit_0g.2.2.2.2.2.2.1
theorem dX12_isDigit_13 : decode cX12_isDigit 13 = .ok (.goto 4, 3) := dX12_isDigit_0g.2.2.2.2.2.2.2.1
theorem dX12_isDigit_16 : decode cX12_isDigit 16 = .ok (.iconst 0, 1) := dX12_isDigit_0g.2.2.2.2.2.2.2.2.1
theorem dX12_isDigit_17 : decode cX12_isDigit 17 = .ok (.ireturn, 1) := dX12_isDigit_0g.2.2.2.2.2.2.2.2.2
set_option maxHeartbeats 4000000 in
set_option maxRecDepth 100000 in
theorem c_X12_isDigit (l : Launch) (H0 : Heap) (x0 : Int32) : Met l yX12_isDigit (tb (.code yX12_isDigit cX12_isDigit 1 (some .boolean))) (rm 1) (va_Pc [.int x0] (PS H0)) (QS H0 (fun r => ((r : Int32) = 1 ∧ rg x0 48 57) ∨ ((r : Int32) = 0 ∧ ¬ rg x0 48 57))) 0 0 (fun _ => False) := by
  refine Met.ofW (cc := cX12_isDigit) (maxL := 1) (ret := (some .boolean)) (by decide) rfl ?_
  intro p e s m args below meth c s₁ B hml hv
  obtain ⟨hav, rfl, hN⟩ := hv
  have hx := B.exec
  have hb := B.bytes
  have hr := B.returns
  have hts := atoms_spec (ws := tb (.code yX12_isDigit cX12_isDigit 1 (some .boolean))) B.pre
  have hown : s.vm.findClass RX12 = some m.cls := findClass_of_methodNamed B.named
  have hlocks := B.notSynchronized
  have hS : va_S (fun _ => False) s.heap s.heap [] := va_S.rf
  have hl := lv_entry ([.int x0]) (n := 1) (Nat.le_of_ble_eq_true rfl)
  rw [show entryFrame m args 1 = entryFrame m ([.int x0] : List Value).toArray 1 from by rw [hav], lg_entry_eq]
  generalize (lg_sl ([.int x0]) ++ List.replicate (1 - (lg_sl ([.int x0])).length) Slot.unset).toArray = ls at hl ⊢
  have hl : lv_has ls 1 [(0, .int x0)] := hl
  generalize hR : (headSpec (tb (.code yX12_isDigit cX12_isDigit 1 (some .boolean))) (rm 1)).room = R
  have hR := hR.symm
  generalize hQ : MQ below (QS s.heap (fun r => ((r : Int32) = 1 ∧ rg x0 48 57) ∨ ((r : Int32) = 0 ∧ ¬ rg x0 48 57))) args s 0 0 (fun _ => False) = QF
  have hQ := hQ.symm
  refine lv_iload_n hx hb dX12_isDigit_0 rfl (lv_at hl 0 rfl) ?_
  refine lv_bipush (v := 48) hx hb dX12_isDigit_1 (by decide) ?_
  have k1 := iv_lo x0
  have k2 := iv_hi x0
  refine lv_icmp_lt (tgt := 16) hx hb dX12_isDigit_3 (by decide) (fun c3 => ?_) (fun c3 => ?_)
  · skip
    have k4 := iv_lt (X := x0.toInt) (Y := (48)) rfl (by decide) c3
    refine lv_iconst (v := 0) hx hb dX12_isDigit_16 (by decide) ?_
    have hpost : ((0 : Int32) = 1 ∧ rg x0 48 57) ∨ ((0 : Int32) = 0 ∧ ¬ rg x0 48 57) := by first | exact Or.inl ⟨rfl, by (try simp only [rg]); omega⟩ | exact Or.inr ⟨rfl, by (try simp only [rg]); omega⟩
    rw [hQ]
    exact W.zret (v := 0) hx hb hr (by decide) (fun t ht hW => ⟨⟨0, (), rfl, hpost, ht⟩, hS.F ht⟩) hS.2.2 dX12_isDigit_17
  · skip
    have k5 := iv_nlt (X := x0.toInt) (Y := (48)) rfl (by decide) c3
    refine lv_iload_n hx hb dX12_isDigit_6 rfl (lv_at hl 0 rfl) ?_
    refine lv_bipush (v := 57) hx hb dX12_isDigit_7 (by decide) ?_
    refine lv_icmp_gt (tgt := 16) hx hb dX12_isDigit_9 (by decide) (fun c6 => ?_) (fun c6 => ?_)
    · skip
      have k7 := iv_lt (X := (57)) (Y := x0.toInt) (by decide) rfl c6
      refine lv_iconst (v := 0) hx hb dX12_isDigit_16 (by decide) ?_
      have hpost : ((0 : Int32) = 1 ∧ rg x0 48 57) ∨ ((0 : Int32) = 0 ∧ ¬ rg x0 48 57) := by first | exact Or.inl ⟨rfl, by (try simp only [rg]); omega⟩ | exact Or.inr ⟨rfl, by (try simp only [rg]); omega⟩
      rw [hQ]
      exact W.zret (v := 0) hx hb hr (by decide) (fun t ht hW => ⟨⟨0, (), rfl, hpost, ht⟩, hS.F ht⟩) hS.2.2 dX12_isDigit_17
    · skip
      have k8 := iv_nlt (X := (57)) (Y := x0.toInt) (by decide) rfl c6
      refine lv_iconst (v := 1) hx hb dX12_isDigit_12 (by decide) ?_
      refine lv_goto (tgt := 17) hx hb dX12_isDigit_13 (by decide) ?_
      have hpost : ((1 : Int32) = 1 ∧ rg x0 48 57) ∨ ((1 : Int32) = 0 ∧ ¬ rg x0 48 57) := by first | exact Or.inl ⟨rfl, by (try simp only [rg]); omega⟩ | exact Or.inr ⟨rfl, by (try simp only [rg]); omega⟩
      rw [hQ]
      exact W.zret (v := 1) hx hb hr (by decide) (fun t ht hW => ⟨⟨1, (), rfl, hpost, ht⟩, hS.F ht⟩) hS.2.2 dX12_isDigit_17
theorem dX12_areHours_0g : (decode cX12_areHours 0 = .ok (.iload_n 0, 1)) ∧ (decode cX12_areHours 1 = .ok (.invokestatic 114, 3)) ∧ (decode cX12_areHours 4 = .ok (.ifCond .eq 17, 3)) ∧ (decode cX12_areHours 7 = .ok (.iload_n 1, 1)) ∧ (decode cX12_areHours 8 = .ok (.iload_n 0, 1)) ∧ (decode cX12_areHours 9 = .ok (.bipush 95, 2)) ∧ (decode cX12_areHours 11 = .ok (.invokestatic 103, 3)) ∧ (decode cX12_areHours 14 = .ok (.ifCond .eq 7, 3)) ∧ (decode cX12_areHours 17 = .ok (.iconst 1, 1)) ∧ (decode cX12_areHours 18 = .ok (.goto 4, 3)) := by decide +kernel
theorem dX12_areHours_0 : decode cX12_areHours 0 = .ok (.iload_n 0, 1) := dX12_areHours_0g.1
theorem dX12_areHours_1 : decode cX12_areHours 1 = .ok (.invokestatic 114, 3) := dX12_areHours_0g.2.1
theorem dX12_areHours_4 : decode cX12_areHours 4 = .ok (.ifCond .eq 17, 3) := dX12_areHours_0g.2.2.1
theorem dX12_areHours_7 : decode cX12_areHours 7 = .ok (.iload_n 1, 1) := dX12_areHours_0g.2.2.2.1
theorem dX12_areHours_8 : decode cX12_areHours 8 = .ok (.iload_n 0, 1) := dX12_areHours_0g.2.2.2.2.1
theorem dX12_areHours_9 : decode cX12_areHours 9 = .ok (.bipush 95, 2) := dX12_areHours_0g.2.2.2.2.2.1
theorem dX12_areHours_11 : decode cX12_areHours 11 = .ok (.invokestatic 103, 3) := dX12_areHours_0g.2.2.2.2.2.2.1
theorem dX12_areHours_14 : decode cX12_areHours 14 = .ok (.ifCond .eq 7, 3) := dX12_areHours_0g.2.2.2.2.2.2.2.1
theorem dX12_areHours_17 : decode cX12_areHours 17 = .ok (.iconst 1, 1) := dX12_areHours_0g.2.2.2.2.2.2.2.2.1
theorem dX12_areHours_18 : decode cX12_areHours 18 = .ok (.goto 4, 3) := dX12_areHours_0g.2.2.2.2.2.2.2.2.2
theorem dX12_areHours_21g : (decode cX12_areHours 21 = .ok (.iconst 0, 1)) ∧ (decode cX12_areHours 22 = .ok (.ireturn, 1)) := by decide +kernel
theorem dX12_areHours_21 : decode cX12_areHours 21 = .ok (.iconst 0, 1) := dX12_areHours_21g.1
theorem dX12_areHours_22 : decode cX12_areHours 22 = .ok (.ireturn, 1) := dX12_areHours_21g.2
set_option maxHeartbeats 4000000 in
set_option maxRecDepth 100000 in
theorem c_X12_areHours (l : Launch) (H0 : Heap) (x0 : Int32) (x1 : Int32) : Met l yX12_areHours (tb (.code yX12_areHours cX12_areHours 2 (some .boolean))) (rm 2) (va_Pc [.int x0, .int x1] (PS H0)) (QS H0 (fun r => ((r : Int32) = 1 ∧ rg x0 0 95 ∧ rg x1 0 95 ∧ x0.toInt ≤ x1.toInt) ∨ ((r : Int32) = 0 ∧ ¬ (rg x0 0 95 ∧ rg x1 0 95 ∧ x0.toInt ≤ x1.toInt)))) 0 0 (fun _ => False) := by
  refine Met.ofW (cc := cX12_areHours) (maxL := 2) (ret := (some .boolean)) (by decide) rfl ?_
  intro p e s m args below meth c s₁ B hml hv
  obtain ⟨hav, rfl, hN⟩ := hv
  have hx := B.exec
  have hb := B.bytes
  have hr := B.returns
  have hts := atoms_spec (ws := tb (.code yX12_areHours cX12_areHours 2 (some .boolean))) B.pre
  have hown : s.vm.findClass RX12 = some m.cls := findClass_of_methodNamed B.named
  have hlocks := B.notSynchronized
  have hS : va_S (fun _ => False) s.heap s.heap [] := va_S.rf
  have hl := lv_entry ([.int x0, .int x1]) (n := 2) (Nat.le_of_ble_eq_true rfl)
  rw [show entryFrame m args 2 = entryFrame m ([.int x0, .int x1] : List Value).toArray 2 from by rw [hav], lg_entry_eq]
  generalize (lg_sl ([.int x0, .int x1]) ++ List.replicate (2 - (lg_sl ([.int x0, .int x1])).length) Slot.unset).toArray = ls at hl ⊢
  have hl : lv_has ls 2 [(0, .int x0), (1, .int x1)] := hl
  generalize hR : (headSpec (tb (.code yX12_areHours cX12_areHours 2 (some .boolean))) (rm 2)).room = R
  have hR := hR.symm
  generalize hQ : MQ below (QS s.heap (fun r => ((r : Int32) = 1 ∧ rg x0 0 95 ∧ rg x1 0 95 ∧ x0.toInt ≤ x1.toInt) ∨ ((r : Int32) = 0 ∧ ¬ (rg x0 0 95 ∧ rg x1 0 95 ∧ x0.toInt ≤ x1.toInt)))) args s 0 0 (fun _ => False) = QF
  have hQ := hQ.symm
  refine lv_iload_n hx hb dX12_areHours_0 rfl (lv_at hl 0 rfl) ?_
  refine th_cSs (As := [.int x0]) (rest := []) (n := 1) (d := 1) ⟨hx, hb, hml, hown, hts⟩ (c_X12_isHour l s.heap x0) wd_1428 wd_1429 wd_13 wd_1430 (by decide +kernel) ⟨by rw [hR]; exact Nat.le_of_ble_eq_true rfl, by rw [hR]; exact Nat.le_of_ble_eq_true rfl⟩ hN hS rfl hl.1 rfl (Nat.le_of_ble_eq_true rfl) dX12_areHours_1 ⟨Nat.zero_le _, Nat.zero_le _⟩ (fun r1 locs hp hS => ?_)
  rcases hp with ⟨rfl, hp⟩ | ⟨rfl, hp⟩
  · skip
    try simp only [rg, not_and, Int.not_le] at hp
    have hp2 := hp
    refine lv_if_eq (tgt := 21) hx hb dX12_areHours_4 (by decide) (fun c => absurd c (by decide)) (fun _ => ?_)
    refine lv_iload_n hx hb dX12_areHours_7 rfl (lv_at hl 1 rfl) ?_
    refine lv_iload_n hx hb dX12_areHours_8 rfl (lv_at hl 0 rfl) ?_
    refine lv_bipush (v := 95) hx hb dX12_areHours_9 (by decide) ?_
    refine th_cSs (As := [.int x1, .int x0, .int 95]) (rest := []) (n := 3) (d := 0) ⟨hx, hb, hml, hown, hts⟩ (c_X12_lies l s.heap x1 x0 95) wd_1395 wd_1396 wd_13 wd_1397 (by decide +kernel) ⟨by rw [hR]; exact Nat.le_of_ble_eq_true rfl, by rw [hR]; exact Nat.le_of_ble_eq_true rfl⟩ hN hS rfl hl.1 rfl (Nat.le_of_ble_eq_true rfl) dX12_areHours_11 ⟨Nat.zero_le _, Nat.zero_le _⟩ (fun r3 locs hp hS => ?_)
    rcases hp with ⟨rfl, hp⟩ | ⟨rfl, hp⟩
    · skip
      try simp only [rg, not_and, Int.not_le] at hp
      have hp4 := hp
      try rw [show (95 : Int32).toInt = 95 from by decide] at hp4
      refine lv_if_eq (tgt := 21) hx hb dX12_areHours_14 (by decide) (fun c => absurd c (by decide)) (fun _ => ?_)
      refine lv_iconst (v := 1) hx hb dX12_areHours_17 (by decide) ?_
      refine lv_goto (tgt := 22) hx hb dX12_areHours_18 (by decide) ?_
      have hpost : ((1 : Int32) = 1 ∧ rg x0 0 95 ∧ rg x1 0 95 ∧ x0.toInt ≤ x1.toInt) ∨ ((1 : Int32) = 0 ∧ ¬ (rg x0 0 95 ∧ rg x1 0 95 ∧ x0.toInt ≤ x1.toInt)) := by first | exact Or.inl ⟨rfl, by (try simp only [rg]); omega⟩ | exact Or.inr ⟨rfl, by (try simp only [rg]); omega⟩
      rw [hQ]
      exact W.zret (v := 1) hx hb hr (by decide) (fun t ht hW => ⟨⟨1, (), rfl, hpost, ht⟩, hS.F ht⟩) hS.2.2 dX12_areHours_22
    · skip
      try simp only [rg, not_and, Int.not_le] at hp
      have hp5 := hp
      try rw [show (95 : Int32).toInt = 95 from by decide] at hp5
      refine lv_if_eq (tgt := 21) hx hb dX12_areHours_14 (by decide) (fun _ => ?_) (fun c => absurd c (by decide))
      refine lv_iconst (v := 0) hx hb dX12_areHours_21 (by decide) ?_
      have hpost : ((0 : Int32) = 1 ∧ rg x0 0 95 ∧ rg x1 0 95 ∧ x0.toInt ≤ x1.toInt) ∨ ((0 : Int32) = 0 ∧ ¬ (rg x0 0 95 ∧ rg x1 0 95 ∧ x0.toInt ≤ x1.toInt)) := by first | exact Or.inl ⟨rfl, by (try simp only [rg]); omega⟩ | exact Or.inr ⟨rfl, by (try simp only [rg]); omega⟩
      rw [hQ]
      exact W.zret (v := 0) hx hb hr (by decide) (fun t ht hW => ⟨⟨0, (), rfl, hpost, ht⟩, hS.F ht⟩) hS.2.2 dX12_areHours_22
  · skip
    try simp only [rg, not_and, Int.not_le] at hp
    have hp6 := hp
    refine lv_if_eq (tgt := 21) hx hb dX12_areHours_4 (by decide) (fun _ => ?_) (fun c => absurd c (by decide))
    refine lv_iconst (v := 0) hx hb dX12_areHours_21 (by decide) ?_
    have hpost : ((0 : Int32) = 1 ∧ rg x0 0 95 ∧ rg x1 0 95 ∧ x0.toInt ≤ x1.toInt) ∨ ((0 : Int32) = 0 ∧ ¬ (rg x0 0 95 ∧ rg x1 0 95 ∧ x0.toInt ≤ x1.toInt)) := by first | exact Or.inl ⟨rfl, by (try simp only [rg]); omega⟩ | exact Or.inr ⟨rfl, by (try simp only [rg]); omega⟩
    rw [hQ]
    exact W.zret (v := 0) hx hb hr (by decide) (fun t ht hW => ⟨⟨0, (), rfl, hpost, ht⟩, hS.F ht⟩) hS.2.2 dX12_areHours_22
theorem dX12_isPour_0g : (decode cX12_isPour 0 = .ok (.iload_n 0, 1)) ∧ (decode cX12_isPour 1 = .ok (.invokestatic 118, 3)) ∧ (decode cX12_isPour 4 = .ok (.ifCond .eq 31, 3)) ∧ (decode cX12_isPour 7 = .ok (.iload_n 1, 1)) ∧ (decode cX12_isPour 8 = .ok (.invokestatic 114, 3)) ∧ (decode cX12_isPour 11 = .ok (.ifCond .eq 24, 3)) ∧ (decode cX12_isPour 14 = .ok (.iload_n 2, 1)) ∧ (decode cX12_isPour 15 = .ok (.invokestatic 129, 3)) ∧ (decode cX12_isPour 18 = .ok (.ifCond .eq 17, 3)) ∧ (decode cX12_isPour 21 = .ok (.iload_n 3, 1)) := by decide +kernel
theorem dX12_isPour_0 : decode cX12_isPour 0 = .ok (.iload_n 0, 1) := dX12_isPour_0g.1
theorem dX12_isPour_1 : decode cX12_isPour 1 = .ok (.invokestatic 118, 3) := dX12_isPour_0g.2.1
theorem dX12_isPour_4 : decode cX12_isPour 4 = .ok (.ifCond .eq 31, 3) := dX12_isPour_0g.2.2.1
theorem dX12_isPour_7 : decode cX12_isPour 7 = .ok (.iload_n 1, 1) := dX12_isPour_0g.2.2.2.1
theorem dX12_isPour_8 : decode cX12_isPour 8 = .ok (.invokestatic 114, 3) := dX12_isPour_0g.2.2.2.2.1
theorem dX12_isPour_11 : decode cX12_isPour 11 = .ok (.ifCond .eq 24, 3) := dX12_isPour_0g.2.2.2.2.2.1
theorem dX12_isPour_14 : decode cX12_isPour 14 = .ok (.iload_n 2, 1) := dX12_isPour_0g.2.2.2.2.2.2.1
theorem dX12_isPour_15 : decode cX12_isPour 15 = .ok (.invokestatic 129, 3) := dX12_isPour_0g.2.2.2.2.2.2.2.1
theorem dX12_isPour_18 : decode cX12_isPour 18 = .ok (.ifCond .eq 17, 3) := dX12_isPour_0g.2.2.2.2.2.2.2.2.1
theorem dX12_isPour_21 : decode cX12_isPour 21 = .ok (.iload_n 3, 1) := dX12_isPour_0g.2.2.2.2.2.2.2.2.2
theorem dX12_isPour_22g : (decode cX12_isPour 22 = .ok (.iconst 1, 1)) ∧ (decode cX12_isPour 23 = .ok (.bipush 99, 2)) ∧ (decode cX12_isPour 25 = .ok (.invokestatic 103, 3)) ∧ (decode cX12_isPour 28 = .ok (.ifCond .eq 7, 3)) ∧ (decode cX12_isPour 31 = .ok (.iconst 1, 1)) ∧ (decode cX12_isPour 32 = .ok (.goto 4, 3)) ∧ (decode cX12_isPour 35 = .ok (.iconst 0, 1)) ∧ (decode cX12_isPour 36 = .ok (.ireturn, 1)) := by decide +kernel
theorem dX12_isPour_22 : decode cX12_isPour 22 = .ok (.iconst 1, 1) := dX12_isPour_22g.1
theorem dX12_isPour_23 : decode cX12_isPour 23 = .ok (.bipush 99, 2) := dX12_isPour_22g.2.1
theorem dX12_isPour_25 : decode cX12_isPour 25 = .ok (.invokestatic 103, 3) := dX12_isPour_22g.2.2.1
theorem dX12_isPour_28 : decode cX12_isPour 28 = .ok (.ifCond .eq 7, 3) := dX12_isPour_22g.2.2.2.1
theorem dX12_isPour_31 : decode cX12_isPour 31 = .ok (.iconst 1, 1) := dX12_isPour_22g.2.2.2.2.1
theorem dX12_isPour_32 : decode cX12_isPour 32 = .ok (.goto 4, 3) := dX12_isPour_22g.2.2.2.2.2.1
theorem dX12_isPour_35 : decode cX12_isPour 35 = .ok (.iconst 0, 1) := dX12_isPour_22g.2.2.2.2.2.2.1
theorem dX12_isPour_36 : decode cX12_isPour 36 = .ok (.ireturn, 1) := dX12_isPour_22g.2.2.2.2.2.2.2
set_option maxHeartbeats 4000000 in
set_option maxRecDepth 100000 in
theorem c_X12_isPour (l : Launch) (H0 : Heap) (x0 : Int32) (x1 : Int32) (x2 : Int32) (x3 : Int32) : Met l yX12_isPour (tb (.code yX12_isPour cX12_isPour 4 (some .boolean))) (rm 2) (va_Pc [.int x0, .int x1, .int x2, .int x3] (PS H0)) (QS H0 (fun r => ((r : Int32) = 1 ∧ rg x0 0 23 ∧ rg x1 0 95 ∧ rg x2 0 3 ∧ rg x3 1 99) ∨ ((r : Int32) = 0 ∧ ¬ (rg x0 0 23 ∧ rg x1 0 95 ∧ rg x2 0 3 ∧ rg x3 1 99)))) 0 0 (fun _ => False) := by
  refine Met.ofW (cc := cX12_isPour) (maxL := 4) (ret := (some .boolean)) (by decide) rfl ?_
  intro p e s m args below meth c s₁ B hml hv
  obtain ⟨hav, rfl, hN⟩ := hv
  have hx := B.exec
  have hb := B.bytes
  have hr := B.returns
  have hts := atoms_spec (ws := tb (.code yX12_isPour cX12_isPour 4 (some .boolean))) B.pre
  have hown : s.vm.findClass RX12 = some m.cls := findClass_of_methodNamed B.named
  have hlocks := B.notSynchronized
  have hS : va_S (fun _ => False) s.heap s.heap [] := va_S.rf
  have hl := lv_entry ([.int x0, .int x1, .int x2, .int x3]) (n := 4) (Nat.le_of_ble_eq_true rfl)
  rw [show entryFrame m args 4 = entryFrame m ([.int x0, .int x1, .int x2, .int x3] : List Value).toArray 4 from by rw [hav], lg_entry_eq]
  generalize (lg_sl ([.int x0, .int x1, .int x2, .int x3]) ++ List.replicate (4 - (lg_sl ([.int x0, .int x1, .int x2, .int x3])).length) Slot.unset).toArray = ls at hl ⊢
  have hl : lv_has ls 4 [(0, .int x0), (1, .int x1), (2, .int x2), (3, .int x3)] := hl
  generalize hR : (headSpec (tb (.code yX12_isPour cX12_isPour 4 (some .boolean))) (rm 2)).room = R
  have hR := hR.symm
  generalize hQ : MQ below (QS s.heap (fun r => ((r : Int32) = 1 ∧ rg x0 0 23 ∧ rg x1 0 95 ∧ rg x2 0 3 ∧ rg x3 1 99) ∨ ((r : Int32) = 0 ∧ ¬ (rg x0 0 23 ∧ rg x1 0 95 ∧ rg x2 0 3 ∧ rg x3 1 99)))) args s 0 0 (fun _ => False) = QF
  have hQ := hQ.symm
  refine lv_iload_n hx hb dX12_isPour_0 rfl (lv_at hl 0 rfl) ?_
  refine th_cSs (As := [.int x0]) (rest := []) (n := 1) (d := 1) ⟨hx, hb, hml, hown, hts⟩ (c_X12_isCell l s.heap x0) wd_1414 wd_1415 wd_13 wd_1416 (by decide +kernel) ⟨by rw [hR]; exact Nat.le_of_ble_eq_true rfl, by rw [hR]; exact Nat.le_of_ble_eq_true rfl⟩ hN hS rfl hl.1 rfl (Nat.le_of_ble_eq_true rfl) dX12_isPour_1 ⟨Nat.zero_le _, Nat.zero_le _⟩ (fun r1 locs hp hS => ?_)
  rcases hp with ⟨rfl, hp⟩ | ⟨rfl, hp⟩
  · skip
    try simp only [rg, not_and, Int.not_le] at hp
    have hp2 := hp
    refine lv_if_eq (tgt := 35) hx hb dX12_isPour_4 (by decide) (fun c => absurd c (by decide)) (fun _ => ?_)
    refine lv_iload_n hx hb dX12_isPour_7 rfl (lv_at hl 1 rfl) ?_
    refine th_cSs (As := [.int x1]) (rest := []) (n := 1) (d := 1) ⟨hx, hb, hml, hown, hts⟩ (c_X12_isHour l s.heap x1) wd_1428 wd_1429 wd_13 wd_1430 (by decide +kernel) ⟨by rw [hR]; exact Nat.le_of_ble_eq_true rfl, by rw [hR]; exact Nat.le_of_ble_eq_true rfl⟩ hN hS rfl hl.1 rfl (Nat.le_of_ble_eq_true rfl) dX12_isPour_8 ⟨Nat.zero_le _, Nat.zero_le _⟩ (fun r3 locs hp hS => ?_)
    rcases hp with ⟨rfl, hp⟩ | ⟨rfl, hp⟩
    · skip
      try simp only [rg, not_and, Int.not_le] at hp
      have hp4 := hp
      refine lv_if_eq (tgt := 35) hx hb dX12_isPour_11 (by decide) (fun c => absurd c (by decide)) (fun _ => ?_)
      refine lv_iload_n hx hb dX12_isPour_14 rfl (lv_at hl 2 rfl) ?_
      refine th_cSs (As := [.int x2]) (rest := []) (n := 1) (d := 1) ⟨hx, hb, hml, hown, hts⟩ (c_X12_isColour l s.heap x2) wd_1545 wd_1546 wd_13 wd_1547 (by decide +kernel) ⟨by rw [hR]; exact Nat.le_of_ble_eq_true rfl, by rw [hR]; exact Nat.le_of_ble_eq_true rfl⟩ hN hS rfl hl.1 rfl (Nat.le_of_ble_eq_true rfl) dX12_isPour_15 ⟨Nat.zero_le _, Nat.zero_le _⟩ (fun r5 locs hp hS => ?_)
      rcases hp with ⟨rfl, hp⟩ | ⟨rfl, hp⟩
      · skip
        try simp only [rg, not_and, Int.not_le] at hp
        have hp6 := hp
        refine lv_if_eq (tgt := 35) hx hb dX12_isPour_18 (by decide) (fun c => absurd c (by decide)) (fun _ => ?_)
        refine lv_iload_n hx hb dX12_isPour_21 rfl (lv_at hl 3 rfl) ?_
        refine lv_iconst (v := 1) hx hb dX12_isPour_22 (by decide) ?_
        refine lv_bipush (v := 99) hx hb dX12_isPour_23 (by decide) ?_
        refine th_cSs (As := [.int x3, .int 1, .int 99]) (rest := []) (n := 3) (d := 0) ⟨hx, hb, hml, hown, hts⟩ (c_X12_lies l s.heap x3 1 99) wd_1395 wd_1396 wd_13 wd_1397 (by decide +kernel) ⟨by rw [hR]; exact Nat.le_of_ble_eq_true rfl, by rw [hR]; exact Nat.le_of_ble_eq_true rfl⟩ hN hS rfl hl.1 rfl (Nat.le_of_ble_eq_true rfl) dX12_isPour_25 ⟨Nat.zero_le _, Nat.zero_le _⟩ (fun r7 locs hp hS => ?_)
        rcases hp with ⟨rfl, hp⟩ | ⟨rfl, hp⟩
        · skip
          try simp only [rg, not_and, Int.not_le] at hp
          have hp8 := hp
          try rw [show (1 : Int32).toInt = 1 from by decide] at hp8
          try rw [show (99 : Int32).toInt = 99 from by decide] at hp8
          refine lv_if_eq (tgt := 35) hx hb dX12_isPour_28 (by decide) (fun c => absurd c (by decide)) (fun _ => ?_)
          refine lv_iconst (v := 1) hx hb dX12_isPour_31 (by decide) ?_
          refine lv_goto (tgt := 36) hx hb dX12_isPour_32 (by decide) ?_
          have hpost : ((1 : Int32) = 1 ∧ rg x0 0 23 ∧ rg x1 0 95 ∧ rg x2 0 3 ∧ rg x3 1 99) ∨ ((1 : Int32) = 0 ∧ ¬ (rg x0 0 23 ∧ rg x1 0 95 ∧ rg x2 0 3 ∧ rg x3 1 99)) := by first | exact Or.inl ⟨rfl, by (try simp only [rg]); omega⟩ | exact Or.inr ⟨rfl, by (try simp only [rg]); omega⟩
          rw [hQ]
          exact W.zret (v := 1) hx hb hr (by decide) (fun t ht hW => ⟨⟨1, (), rfl, hpost, ht⟩, hS.F ht⟩) hS.2.2 dX12_isPour_36
        · skip
          try simp only [rg, not_and, Int.not_le] at hp
          have hp9 := hp
          try rw [show (1 : Int32).toInt = 1 from by decide] at hp9
          try rw [show (99 : Int32).toInt = 99 from by decide] at hp9
          refine lv_if_eq (tgt := 35) hx hb dX12_isPour_28 (by decide) (fun _ => ?_) (fun c => absurd c (by decide))
          refine lv_iconst (v := 0) hx hb dX12_isPour_35 (by decide) ?_
          have hpost : ((0 : Int32) = 1 ∧ rg x0 0 23 ∧ rg x1 0 95 ∧ rg x2 0 3 ∧ rg x3 1 99) ∨ ((0 : Int32) = 0 ∧ ¬ (rg x0 0 23 ∧ rg x1 0 95 ∧ rg x2 0 3 ∧ rg x3 1 99)) := by first | exact Or.inl ⟨rfl, by (try simp only [rg]); omega⟩ | exact Or.inr ⟨rfl, by (try simp only [rg]); omega⟩
          rw [hQ]
          exact W.zret (v := 0) hx hb hr (by decide) (fun t ht hW => ⟨⟨0, (), rfl, hpost, ht⟩, hS.F ht⟩) hS.2.2 dX12_isPour_36
      · skip
        try simp only [rg, not_and, Int.not_le] at hp
        have hp10 := hp
        refine lv_if_eq (tgt := 35) hx hb dX12_isPour_18 (by decide) (fun _ => ?_) (fun c => absurd c (by decide))
        refine lv_iconst (v := 0) hx hb dX12_isPour_35 (by decide) ?_
        have hpost : ((0 : Int32) = 1 ∧ rg x0 0 23 ∧ rg x1 0 95 ∧ rg x2 0 3 ∧ rg x3 1 99) ∨ ((0 : Int32) = 0 ∧ ¬ (rg x0 0 23 ∧ rg x1 0 95 ∧ rg x2 0 3 ∧ rg x3 1 99)) := by first | exact Or.inl ⟨rfl, by (try simp only [rg]); omega⟩ | exact Or.inr ⟨rfl, by (try simp only [rg]); omega⟩
        rw [hQ]
        exact W.zret (v := 0) hx hb hr (by decide) (fun t ht hW => ⟨⟨0, (), rfl, hpost, ht⟩, hS.F ht⟩) hS.2.2 dX12_isPour_36
    · skip
      try simp only [rg, not_and, Int.not_le] at hp
      have hp11 := hp
      refine lv_if_eq (tgt := 35) hx hb dX12_isPour_11 (by decide) (fun _ => ?_) (fun c => absurd c (by decide))
      refine lv_iconst (v := 0) hx hb dX12_isPour_35 (by decide) ?_
      have hpost : ((0 : Int32) = 1 ∧ rg x0 0 23 ∧ rg x1 0 95 ∧ rg x2 0 3 ∧ rg x3 1 99) ∨ ((0 : Int32) = 0 ∧ ¬ (rg x0 0 23 ∧ rg x1 0 95 ∧ rg x2 0 3 ∧ rg x3 1 99)) := by first | exact Or.inl ⟨rfl, by (try simp only [rg]); omega⟩ | exact Or.inr ⟨rfl, by (try simp only [rg]); omega⟩
      rw [hQ]
      exact W.zret (v := 0) hx hb hr (by decide) (fun t ht hW => ⟨⟨0, (), rfl, hpost, ht⟩, hS.F ht⟩) hS.2.2 dX12_isPour_36
  · skip
    try simp only [rg, not_and, Int.not_le] at hp
    have hp12 := hp
    refine lv_if_eq (tgt := 35) hx hb dX12_isPour_4 (by decide) (fun _ => ?_) (fun c => absurd c (by decide))
    refine lv_iconst (v := 0) hx hb dX12_isPour_35 (by decide) ?_
    have hpost : ((0 : Int32) = 1 ∧ rg x0 0 23 ∧ rg x1 0 95 ∧ rg x2 0 3 ∧ rg x3 1 99) ∨ ((0 : Int32) = 0 ∧ ¬ (rg x0 0 23 ∧ rg x1 0 95 ∧ rg x2 0 3 ∧ rg x3 1 99)) := by first | exact Or.inl ⟨rfl, by (try simp only [rg]); omega⟩ | exact Or.inr ⟨rfl, by (try simp only [rg]); omega⟩
    rw [hQ]
    exact W.zret (v := 0) hx hb hr (by decide) (fun t ht hW => ⟨⟨0, (), rfl, hpost, ht⟩, hS.F ht⟩) hS.2.2 dX12_isPour_36
theorem dX12_sign_0g : (decode cX12_sign 0 = .ok (.bipush 100, 2)) ∧ (decode cX12_sign 2 = .ok (.iload_n 0, 1)) ∧ (decode cX12_sign 3 = .ok (.iadd, 1)) ∧ (decode cX12_sign 4 = .ok (.ireturn, 1)) := by decide +kernel
theorem dX12_sign_0 : decode cX12_sign 0 = .ok (.bipush 100, 2) := dX12_sign_0g.1
theorem dX12_sign_2 : decode cX12_sign 2 = .ok (.iload_n 0, 1) := dX12_sign_0g.2.1
theorem dX12_sign_3 : decode cX12_sign 3 = .ok (.iadd, 1) := dX12_sign_0g.2.2.1
theorem dX12_sign_4 : decode cX12_sign 4 = .ok (.ireturn, 1) := dX12_sign_0g.2.2.2
set_option maxHeartbeats 4000000 in
set_option maxRecDepth 100000 in
theorem c_X12_sign (l : Launch) (H0 : Heap) (x0 : Int32) : Met l yX12_sign (tb (.code yX12_sign cX12_sign 1 (some .int))) (rm 0) (va_Pc [.int x0] (PS H0)) (QS H0 (fun r => (r : Int32) = 100 + x0)) 0 0 (fun _ => False) := by
  refine Met.ofW (cc := cX12_sign) (maxL := 1) (ret := (some .int)) (by decide) rfl ?_
  intro p e s m args below meth c s₁ B hml hv
  obtain ⟨hav, rfl, hN⟩ := hv
  have hx := B.exec
  have hb := B.bytes
  have hr := B.returns
  have hts := atoms_spec (ws := tb (.code yX12_sign cX12_sign 1 (some .int))) B.pre
  have hown : s.vm.findClass RX12 = some m.cls := findClass_of_methodNamed B.named
  have hlocks := B.notSynchronized
  have hS : va_S (fun _ => False) s.heap s.heap [] := va_S.rf
  have hl := lv_entry ([.int x0]) (n := 1) (Nat.le_of_ble_eq_true rfl)
  rw [show entryFrame m args 1 = entryFrame m ([.int x0] : List Value).toArray 1 from by rw [hav], lg_entry_eq]
  generalize (lg_sl ([.int x0]) ++ List.replicate (1 - (lg_sl ([.int x0])).length) Slot.unset).toArray = ls at hl ⊢
  have hl : lv_has ls 1 [(0, .int x0)] := hl
  generalize hR : (headSpec (tb (.code yX12_sign cX12_sign 1 (some .int))) (rm 0)).room = R
  have hR := hR.symm
  generalize hQ : MQ below (QS s.heap (fun r => (r : Int32) = 100 + x0)) args s 0 0 (fun _ => False) = QF
  have hQ := hQ.symm
  refine lv_bipush (v := 100) hx hb dX12_sign_0 (by decide) ?_
  refine lv_iload_n hx hb dX12_sign_2 rfl (lv_at hl 0 rfl) ?_
  refine lv_iadd hx hb dX12_sign_3 ?_
  refine lv_topi (fun v1 e2 => ?_)
  try have tv1 : v1.toInt = (100) + x0.toInt := iv_add (by decide) rfl e2 (by omega) (by omega)
  have hpost : (v1 : Int32) = 100 + x0 := by assumption
  rw [hQ]
  exact W.iret (v := v1) hx hb hr (fun t ht hW => ⟨⟨v1, (), rfl, hpost, ht⟩, hS.F ht⟩) hS.2.2 dX12_sign_4
theorem dX12_nearest_0g : (decode cX12_nearest 0 = .ok (.lload_n 0, 1)) ∧ (decode cX12_nearest 1 = .ok (.iload_n 2, 1)) ∧ (decode cX12_nearest 2 = .ok (.i2l, 1)) ∧ (decode cX12_nearest 3 = .ok (.lcmp, 1)) ∧ (decode cX12_nearest 4 = .ok (.ifCond .ge 8, 3)) ∧ (decode cX12_nearest 7 = .ok (.iload_n 2, 1)) ∧ (decode cX12_nearest 8 = .ok (.i2l, 1)) ∧ (decode cX12_nearest 9 = .ok (.goto 16, 3)) ∧ (decode cX12_nearest 12 = .ok (.lload_n 0, 1)) ∧ (decode cX12_nearest 13 = .ok (.iload_n 3, 1)) := by decide +kernel
theorem dX12_nearest_0 : decode cX12_nearest 0 = .ok (.lload_n 0, 1) := dX12_nearest_0g.1
theorem dX12_nearest_1 : decode cX12_nearest 1 = .ok (.iload_n 2, 1) := dX12_nearest_0g.2.1
theorem dX12_nearest_2 : decode cX12_nearest 2 = .ok (.i2l, 1) := dX12_nearest_0g.2.2.1
theorem dX12_nearest_3 : decode cX12_nearest 3 = .ok (.lcmp, 1) := dX12_nearest_0g.2.2.2.1
theorem dX12_nearest_4 : decode cX12_nearest 4 = .ok (.ifCond .ge 8, 3) := dX12_nearest_0g.2.2.2.2.1
theorem dX12_nearest_7 : decode cX12_nearest 7 = .ok (.iload_n 2, 1) := dX12_nearest_0g.2.2.2.2.2.1
theorem dX12_nearest_8 : decode cX12_nearest 8 = .ok (.i2l, 1) := dX12_nearest_0g.2.2.2.2.2.2.1
theorem dX12_nearest_9 : decode cX12_nearest 9 = .ok (.goto 16, 3) := dX12_nearest_0g.2.2.2.2.2.2.2.1
theorem dX12_nearest_12 : decode cX12_nearest 12 = .ok (.lload_n 0, 1) := dX12_nearest_0g.2.2.2.2.2.2.2.2.1
theorem dX12_nearest_13 : decode cX12_nearest 13 = .ok (.iload_n 3, 1) := dX12_nearest_0g.2.2.2.2.2.2.2.2.2
theorem dX12_nearest_14g : (decode cX12_nearest 14 = .ok (.i2l, 1)) ∧ (decode cX12_nearest 15 = .ok (.lcmp, 1)) ∧ (decode cX12_nearest 16 = .ok (.ifCond .le 8, 3)) ∧ (decode cX12_nearest 19 = .ok (.iload_n 3, 1)) ∧ (decode cX12_nearest 20 = .ok (.i2l, 1)) ∧ (decode cX12_nearest 21 = .ok (.goto 4, 3)) ∧ (decode cX12_nearest 24 = .ok (.lload_n 0, 1)) ∧ (decode cX12_nearest 25 = .ok (.lreturn, 1)) := by decide +kernel
theorem dX12_nearest_14 : decode cX12_nearest 14 = .ok (.i2l, 1) := dX12_nearest_14g.1
theorem dX12_nearest_15 : decode cX12_nearest 15 = .ok (.lcmp, 1) := dX12_nearest_14g.2.1
theorem dX12_nearest_16 : decode cX12_nearest 16 = .ok (.ifCond .le 8, 3) := dX12_nearest_14g.2.2.1
theorem dX12_nearest_19 : decode cX12_nearest 19 = .ok (.iload_n 3, 1) := dX12_nearest_14g.2.2.2.1
theorem dX12_nearest_20 : decode cX12_nearest 20 = .ok (.i2l, 1) := dX12_nearest_14g.2.2.2.2.1
theorem dX12_nearest_21 : decode cX12_nearest 21 = .ok (.goto 4, 3) := dX12_nearest_14g.2.2.2.2.2.1
theorem dX12_nearest_24 : decode cX12_nearest 24 = .ok (.lload_n 0, 1) := dX12_nearest_14g.2.2.2.2.2.2.1
theorem dX12_nearest_25 : decode cX12_nearest 25 = .ok (.lreturn, 1) := dX12_nearest_14g.2.2.2.2.2.2.2
set_option maxHeartbeats 4000000 in
set_option maxRecDepth 100000 in
theorem c_X12_nearest (l : Launch) (H0 : Heap) (x0 : Int64) (x1 : Int32) (x2 : Int32) : Met l yX12_nearest (tb (.code yX12_nearest cX12_nearest 4 (some .long))) (rm 0) (va_Pc [.long x0, .int x1, .int x2] (PS H0)) (QSl H0 (fun r => True)) 0 0 (fun _ => False) := by
  refine Met.ofW (cc := cX12_nearest) (maxL := 4) (ret := (some .long)) (by decide) rfl ?_
  intro p e s m args below meth c s₁ B hml hv
  obtain ⟨hav, rfl, hN⟩ := hv
  have hx := B.exec
  have hb := B.bytes
  have hr := B.returns
  have hts := atoms_spec (ws := tb (.code yX12_nearest cX12_nearest 4 (some .long))) B.pre
  have hown : s.vm.findClass RX12 = some m.cls := findClass_of_methodNamed B.named
  have hlocks := B.notSynchronized
  have hS : va_S (fun _ => False) s.heap s.heap [] := va_S.rf
  have hl := lv_entry ([.long x0, .int x1, .int x2]) (n := 4) (Nat.le_of_ble_eq_true rfl)
  rw [show entryFrame m args 4 = entryFrame m ([.long x0, .int x1, .int x2] : List Value).toArray 4 from by rw [hav], lg_entry_eq]
  generalize (lg_sl ([.long x0, .int x1, .int x2]) ++ List.replicate (4 - (lg_sl ([.long x0, .int x1, .int x2])).length) Slot.unset).toArray = ls at hl ⊢
  have hl : lv_has ls 4 [(0, .long x0), (2, .int x1), (3, .int x2)] := hl
  generalize hR : (headSpec (tb (.code yX12_nearest cX12_nearest 4 (some .long))) (rm 0)).room = R
  have hR := hR.symm
  generalize hQ : MQ below (QSl s.heap (fun r => True)) args s 0 0 (fun _ => False) = QF
  have hQ := hQ.symm
  refine lv_lload_n hx hb dX12_nearest_0 rfl (lv_at hl 0 rfl) ?_
  refine lv_iload_n hx hb dX12_nearest_1 rfl (lv_at hl 1 rfl) ?_
  refine lv_i2l hx hb dX12_nearest_2 rfl ?_
  refine lv_topl (fun l1 e2 => ?_)
  refine W.lcmp hx hb dX12_nearest_3 ?_
  refine lv_topi (fun v3 e4 => ?_)
  have tv3 := iv_cmp e4
  refine lv_if_ge (tgt := 12) hx hb dX12_nearest_4 (by decide) (fun c5 => ?_) (fun c5 => ?_)
  · skip
    have k6 := iv_le (X := (0)) (Y := v3.toInt) (by decide) rfl c5
    refine lv_lload_n hx hb dX12_nearest_12 rfl (lv_at hl 0 rfl) ?_
    refine lv_iload_n hx hb dX12_nearest_13 rfl (lv_at hl 2 rfl) ?_
    refine lv_i2l hx hb dX12_nearest_14 rfl ?_
    refine lv_topl (fun l7 e8 => ?_)
    refine W.lcmp hx hb dX12_nearest_15 ?_
    refine lv_topi (fun v9 e10 => ?_)
    have tv9 := iv_cmp e10
    refine lv_if_le (tgt := 24) hx hb dX12_nearest_16 (by decide) (fun c11 => ?_) (fun c11 => ?_)
    · skip
      have k12 := iv_le (X := v9.toInt) (Y := (0)) rfl (by decide) c11
      refine lv_lload_n hx hb dX12_nearest_24 rfl (lv_at hl 0 rfl) ?_
      have hpost : True := trivial
      rw [hQ]
      exact W.lret (v := x0) hx hb hr (fun t ht hW => ⟨⟨x0, (), rfl, hpost, ht⟩, hS.F ht⟩) hS.2.2 dX12_nearest_25
    · skip
      have k13 := iv_nle (X := v9.toInt) (Y := (0)) rfl (by decide) c11
      refine lv_iload_n hx hb dX12_nearest_19 rfl (lv_at hl 2 rfl) ?_
      refine lv_i2l hx hb dX12_nearest_20 rfl ?_
      refine lv_topl (fun l14 e15 => ?_)
      refine lv_goto (tgt := 25) hx hb dX12_nearest_21 (by decide) ?_
      have hpost : True := trivial
      rw [hQ]
      exact W.lret (v := l14) hx hb hr (fun t ht hW => ⟨⟨l14, (), rfl, hpost, ht⟩, hS.F ht⟩) hS.2.2 dX12_nearest_25
  · skip
    have k16 := iv_nle (X := (0)) (Y := v3.toInt) (by decide) rfl c5
    refine lv_iload_n hx hb dX12_nearest_7 rfl (lv_at hl 1 rfl) ?_
    refine lv_i2l hx hb dX12_nearest_8 rfl ?_
    refine lv_topl (fun l17 e18 => ?_)
    refine lv_goto (tgt := 25) hx hb dX12_nearest_9 (by decide) ?_
    have hpost : True := trivial
    rw [hQ]
    exact W.lret (v := l17) hx hb hr (fun t ht hW => ⟨⟨l17, (), rfl, hpost, ht⟩, hS.F ht⟩) hS.2.2 dX12_nearest_25
theorem dX12_ones_0g : (decode cX12_ones 0 = .ok (.iconst 0, 1)) ∧ (decode cX12_ones 1 = .ok (.istore_n 1, 1)) ∧ (decode cX12_ones 2 = .ok (.iconst 0, 1)) ∧ (decode cX12_ones 3 = .ok (.istore_n 2, 1)) ∧ (decode cX12_ones 4 = .ok (.iload_n 2, 1)) ∧ (decode cX12_ones 5 = .ok (.bipush 6, 2)) ∧ (decode cX12_ones 7 = .ok (.if_icmp .ge 17, 3)) ∧ (decode cX12_ones 10 = .ok (.iload_n 1, 1)) ∧ (decode cX12_ones 11 = .ok (.iload_n 0, 1)) ∧ (decode cX12_ones 12 = .ok (.iload_n 2, 1)) := by decide +kernel
theorem dX12_ones_0 : decode cX12_ones 0 = .ok (.iconst 0, 1) := dX12_ones_0g.1
theorem dX12_ones_1 : decode cX12_ones 1 = .ok (.istore_n 1, 1) := dX12_ones_0g.2.1
theorem dX12_ones_2 : decode cX12_ones 2 = .ok (.iconst 0, 1) := dX12_ones_0g.2.2.1
theorem dX12_ones_3 : decode cX12_ones 3 = .ok (.istore_n 2, 1) := dX12_ones_0g.2.2.2.1
theorem dX12_ones_4 : decode cX12_ones 4 = .ok (.iload_n 2, 1) := dX12_ones_0g.2.2.2.2.1
theorem dX12_ones_5 : decode cX12_ones 5 = .ok (.bipush 6, 2) := dX12_ones_0g.2.2.2.2.2.1
theorem dX12_ones_7 : decode cX12_ones 7 = .ok (.if_icmp .ge 17, 3) := dX12_ones_0g.2.2.2.2.2.2.1
theorem dX12_ones_10 : decode cX12_ones 10 = .ok (.iload_n 1, 1) := dX12_ones_0g.2.2.2.2.2.2.2.1
theorem dX12_ones_11 : decode cX12_ones 11 = .ok (.iload_n 0, 1) := dX12_ones_0g.2.2.2.2.2.2.2.2.1
theorem dX12_ones_12 : decode cX12_ones 12 = .ok (.iload_n 2, 1) := dX12_ones_0g.2.2.2.2.2.2.2.2.2
theorem dX12_ones_13g : (decode cX12_ones 13 = .ok (.ishr, 1)) ∧ (decode cX12_ones 14 = .ok (.iconst 1, 1)) ∧ (decode cX12_ones 15 = .ok (.iand, 1)) ∧ (decode cX12_ones 16 = .ok (.iadd, 1)) ∧ (decode cX12_ones 17 = .ok (.istore_n 1, 1)) ∧ (decode cX12_ones 18 = .ok (.iinc 2 1, 3)) ∧ (decode cX12_ones 21 = .ok (.goto (-17), 3)) ∧ (decode cX12_ones 24 = .ok (.iload_n 1, 1)) ∧ (decode cX12_ones 25 = .ok (.ireturn, 1)) := by decide +kernel
theorem dX12_ones_13 : decode cX12_ones 13 = .ok (.ishr, 1) := dX12_ones_13g.1
theorem dX12_ones_14 : decode cX12_ones 14 = .ok (.iconst 1, 1) := dX12_ones_13g.2.1
theorem dX12_ones_15 : decode cX12_ones 15 = .ok (.iand, 1) := dX12_ones_13g.2.2.1
theorem dX12_ones_16 : decode cX12_ones 16 = .ok (.iadd, 1) := dX12_ones_13g.2.2.2.1
theorem dX12_ones_17 : decode cX12_ones 17 = .ok (.istore_n 1, 1) := dX12_ones_13g.2.2.2.2.1
theorem dX12_ones_18 : decode cX12_ones 18 = .ok (.iinc 2 1, 3) := dX12_ones_13g.2.2.2.2.2.1
theorem dX12_ones_21 : decode cX12_ones 21 = .ok (.goto (-17), 3) := dX12_ones_13g.2.2.2.2.2.2.1
theorem dX12_ones_24 : decode cX12_ones 24 = .ok (.iload_n 1, 1) := dX12_ones_13g.2.2.2.2.2.2.2.1
theorem dX12_ones_25 : decode cX12_ones 25 = .ok (.ireturn, 1) := dX12_ones_13g.2.2.2.2.2.2.2.2
set_option maxHeartbeats 4000000 in
set_option maxRecDepth 100000 in
theorem c_X12_ones (l : Launch) (H0 : Heap) (x0 : Int32) : Met l yX12_ones (tb (.code yX12_ones cX12_ones 3 (some .int))) (rm 0) (va_Pc [.int x0] (PS H0)) (QS H0 (fun r => True)) 0 0 (fun _ => False) := by
  refine Met.ofW (cc := cX12_ones) (maxL := 3) (ret := (some .int)) (by decide) rfl ?_
  intro p e s m args below meth c s₁ B hml hv
  obtain ⟨hav, rfl, hN⟩ := hv
  have hx := B.exec
  have hb := B.bytes
  have hr := B.returns
  have hts := atoms_spec (ws := tb (.code yX12_ones cX12_ones 3 (some .int))) B.pre
  have hown : s.vm.findClass RX12 = some m.cls := findClass_of_methodNamed B.named
  have hlocks := B.notSynchronized
  have hS : va_S (fun _ => False) s.heap s.heap [] := va_S.rf
  have hl := lv_entry ([.int x0]) (n := 3) (Nat.le_of_ble_eq_true rfl)
  rw [show entryFrame m args 3 = entryFrame m ([.int x0] : List Value).toArray 3 from by rw [hav], lg_entry_eq]
  generalize (lg_sl ([.int x0]) ++ List.replicate (3 - (lg_sl ([.int x0])).length) Slot.unset).toArray = ls at hl ⊢
  have hl : lv_has ls 3 [(0, .int x0)] := hl
  generalize hR : (headSpec (tb (.code yX12_ones cX12_ones 3 (some .int))) (rm 0)).room = R
  have hR := hR.symm
  generalize hQ : MQ below (QS s.heap (fun r => True)) args s 0 0 (fun _ => False) = QF
  have hQ := hQ.symm
  have J_4 : ∀ (nn : Nat) (locs : List Loc) (ls : Array Slot) (v428 : Int32) (v429 : Int32) , (Int.toNat (6 - v428.toInt) = nn) → lv_has ls 3 [(2, .int v428), (1, .int v429), (0, .int x0)] → ((0 : Int) ≤ v428.toInt ∧ v428.toInt ≤ 6) → va_S (fun _ => False) s.heap s.heap locs → W p l e R s m args below meth c s.heap locs 0 0 QF (F0 m 4 ls []) := by
    intro nn
    induction nn using Nat.strongRecOn with
    | ind nn ih_4 =>
      intro locs ls v428 v429  hm hl k430 hS
      refine lv_iload_n hx hb dX12_ones_4 rfl (lv_at hl 0 rfl) ?_
      refine lv_bipush (v := 6) hx hb dX12_ones_5 (by decide) ?_
      refine lv_icmp_ge (tgt := 24) hx hb dX12_ones_7 (by decide) (fun c431 => ?_) (fun c431 => ?_)
      · skip
        have k432 := iv_le (X := (6)) (Y := v428.toInt) (by decide) rfl c431
        refine lv_iload_n hx hb dX12_ones_24 rfl (lv_at hl 1 rfl) ?_
        have hpost : True := trivial
        rw [hQ]
        exact W.iret (v := v429) hx hb hr (fun t ht hW => ⟨⟨v429, (), rfl, hpost, ht⟩, hS.F ht⟩) hS.2.2 dX12_ones_25
      · skip
        have k433 := iv_nle (X := (6)) (Y := v428.toInt) (by decide) rfl c431
        refine lv_iload_n hx hb dX12_ones_10 rfl (lv_at hl 1 rfl) ?_
        refine lv_iload_n hx hb dX12_ones_11 rfl (lv_at hl 2 rfl) ?_
        refine lv_iload_n hx hb dX12_ones_12 rfl (lv_at hl 0 rfl) ?_
        refine lv_ishr hx hb dX12_ones_13 ?_
        refine lv_topi (fun v434 e435 => ?_)
        refine lv_iconst (v := 1) hx hb dX12_ones_14 (by decide) ?_
        refine lv_iand hx hb dX12_ones_15 ?_
        refine lv_topi (fun v436 e437 => ?_)
        have tv436 := iv_andr (m := 1) (M := 1) e437 (by decide) (by decide)
        refine lv_iadd hx hb dX12_ones_16 ?_
        refine lv_topi (fun v438 e439 => ?_)
        try have tv438 : v438.toInt = v429.toInt + v436.toInt := iv_add rfl rfl e439 (by omega) (by omega)
        refine lv_istore_n (lv' := [(1, .int v438), (2, .int v428), (0, .int x0)]) hx hb dX12_ones_17 rfl hl (by decide) rfl (fun ls hl => ?_)
        obtain ⟨v440, e441⟩ : ∃ y : Int32, y = v428 + (1) := ⟨_, rfl⟩
        have tv440 : v440.toInt = v428.toInt + (1) := iv_add rfl (by decide) e441 (by omega) (by omega)
        refine lv_iinc (v := v440) (lv' := [(2, .int v440), (1, .int v438), (0, .int x0)]) hx hb dX12_ones_18 hl (k := 1) rfl (by rw [e441]; rfl) (by decide) rfl (fun ls hl => ?_)
        refine lv_goto (tgt := 4) hx hb dX12_ones_21 (by decide) ?_
        exact ih_4 _ (by omega) locs ls v440 v438  rfl (lv_sub hl [0, 1, 2] rfl) ⟨by omega, by omega⟩ hS
  refine lv_iconst (v := 0) hx hb dX12_ones_0 (by decide) ?_
  refine lv_istore_n (lv' := [(1, .int 0), (0, .int x0)]) hx hb dX12_ones_1 rfl hl (by decide) rfl (fun ls hl => ?_)
  refine lv_iconst (v := 0) hx hb dX12_ones_2 (by decide) ?_
  refine lv_istore_n (lv' := [(2, .int 0), (1, .int 0), (0, .int x0)]) hx hb dX12_ones_3 rfl hl (by decide) rfl (fun ls hl => ?_)
  have zl : (0 : Int32).toInt = 0 := by decide
  exact J_4 _ [] ls 0 0  rfl (lv_sub hl [0, 1, 2] rfl) ⟨by decide, by decide⟩ hS
theorem dX12_refuses_0g : (decode cX12_refuses 0 = .ok (.aload_n 0, 1)) ∧ (decode cX12_refuses 1 = .ok (.iload_n 1, 1)) ∧ (decode cX12_refuses 2 = .ok (.putfield 3, 3)) ∧ (decode cX12_refuses 5 = .ok (.aload_n 0, 1)) ∧ (decode cX12_refuses 6 = .ok (.getfield 7, 3)) ∧ (decode cX12_refuses 9 = .ok (.iload_n 1, 1)) ∧ (decode cX12_refuses 10 = .ok (.ineg, 1)) ∧ (decode cX12_refuses 11 = .ok (.dup2, 1)) ∧ (decode cX12_refuses 12 = .ok (.iaload, 1)) ∧ (decode cX12_refuses 13 = .ok (.iconst 1, 1)) := by decide +kernel
theorem dX12_refuses_0 : decode cX12_refuses 0 = .ok (.aload_n 0, 1) := dX12_refuses_0g.1
theorem dX12_refuses_1 : decode cX12_refuses 1 = .ok (.iload_n 1, 1) := dX12_refuses_0g.2.1
theorem dX12_refuses_2 : decode cX12_refuses 2 = .ok (.putfield 3, 3) := dX12_refuses_0g.2.2.1
theorem dX12_refuses_5 : decode cX12_refuses 5 = .ok (.aload_n 0, 1) := dX12_refuses_0g.2.2.2.1
theorem dX12_refuses_6 : decode cX12_refuses 6 = .ok (.getfield 7, 3) := dX12_refuses_0g.2.2.2.2.1
theorem dX12_refuses_9 : decode cX12_refuses 9 = .ok (.iload_n 1, 1) := dX12_refuses_0g.2.2.2.2.2.1
theorem dX12_refuses_10 : decode cX12_refuses 10 = .ok (.ineg, 1) := dX12_refuses_0g.2.2.2.2.2.2.1
theorem dX12_refuses_11 : decode cX12_refuses 11 = .ok (.dup2, 1) := dX12_refuses_0g.2.2.2.2.2.2.2.1
theorem dX12_refuses_12 : decode cX12_refuses 12 = .ok (.iaload, 1) := dX12_refuses_0g.2.2.2.2.2.2.2.2.1
theorem dX12_refuses_13 : decode cX12_refuses 13 = .ok (.iconst 1, 1) := dX12_refuses_0g.2.2.2.2.2.2.2.2.2
theorem dX12_refuses_14g : (decode cX12_refuses 14 = .ok (.iadd, 1)) ∧ (decode cX12_refuses 15 = .ok (.iastore, 1)) ∧ (decode cX12_refuses 16 = .ok (.iload_n 1, 1)) ∧ (decode cX12_refuses 17 = .ok (.ireturn, 1)) := by decide +kernel
theorem dX12_refuses_14 : decode cX12_refuses 14 = .ok (.iadd, 1) := dX12_refuses_14g.1
theorem dX12_refuses_15 : decode cX12_refuses 15 = .ok (.iastore, 1) := dX12_refuses_14g.2.1
theorem dX12_refuses_16 : decode cX12_refuses 16 = .ok (.iload_n 1, 1) := dX12_refuses_14g.2.2.1
theorem dX12_refuses_17 : decode cX12_refuses 17 = .ok (.ireturn, 1) := dX12_refuses_14g.2.2.2
set_option maxHeartbeats 4000000 in
set_option maxRecDepth 100000 in
theorem c_X12_refuses (l : Launch) (E : Nat → Nat) (D : va_G) (G : th_G) (h0 : Nat) (hG0 : G h0 = some (10, 0)) (x1 : Int32) (hx1 : (-6 : Int) ≤ x1.toInt ∧ x1.toInt ≤ -1) : Met l yX12_refuses (tb (.code yX12_refuses cX12_refuses 2 (some .int))) (rm 0) (va_Pc [.ref h0, .int x1] (PX E D G (fun H => True))) (QXi E D G (fun r H => (r : Int32) = x1)) 0 0 (th_A G) := by
  refine Met.ofW (cc := cX12_refuses) (maxL := 2) (ret := (some .int)) (by decide) rfl ?_
  intro p e s m args below meth c s₁ B hml hv
  obtain ⟨hav, ⟨hI, hN, hK⟩, hX⟩ := hv
  have hx := B.exec
  have hb := B.bytes
  have hr := B.returns
  have hts := atoms_spec (ws := tb (.code yX12_refuses cX12_refuses 2 (some .int))) B.pre
  have hown : s.vm.findClass RX12 = some m.cls := findClass_of_methodNamed B.named
  have hlocks := B.notSynchronized
  have hS : va_S (th_A G) s.heap s.heap [] := va_S.rf
  have hl := lv_entry ([.ref h0, .int x1]) (n := 2) (Nat.le_of_ble_eq_true rfl)
  rw [show entryFrame m args 2 = entryFrame m ([.ref h0, .int x1] : List Value).toArray 2 from by rw [hav], lg_entry_eq]
  generalize (lg_sl ([.ref h0, .int x1]) ++ List.replicate (2 - (lg_sl ([.ref h0, .int x1])).length) Slot.unset).toArray = ls at hl ⊢
  have hl : lv_has ls 2 [(0, .ref h0), (1, .int x1)] := hl
  generalize hR : (headSpec (tb (.code yX12_refuses cX12_refuses 2 (some .int))) (rm 0)).room = R
  have hR := hR.symm
  generalize hQ : MQ below (QXi E D G (fun r H => (r : Int32) = x1)) args s 0 0 (th_A G) = QF
  have hQ := hQ.symm
  refine lv_aload_n hx hb dX12_refuses_0 rfl (lv_at hl 0 rfl) ?_
  refine lv_iload_n hx hb dX12_refuses_1 rfl (lv_at hl 1 rfl) ?_
  refine pmI (ty := .int) hx hb hts inT12 hown hK hI List.not_mem_nil hG0 hS ⟨_, hG0⟩ 0 (by decide) (hts _ (tb_c wd_1233)) rfl rfl (by decide +kernel) rfl rfl rfl (by omega) (by omega) dX12_refuses_2 (fun H locs hI hgP hS => ?_)
  have hg1 := hgP.2.1
  refine lv_aload_n hx hb dX12_refuses_5 rfl (lv_at hl 0 rfl) ?_
  refine gmA hx hb hts inT12 hown hK hI List.not_mem_nil hG0 2 (by decide) (hts _ (tb_c wd_1235)) rfl rfl dX12_refuses_6 (fun a2 hq3 hf4 => ?_)
  refine lv_iload_n hx hb dX12_refuses_9 rfl (lv_at hl 1 rfl) ?_
  refine lv_ineg hx hb dX12_refuses_10 ?_
  refine lv_topi (fun v5 e6 => ?_)
  have tv5 := iv_neg (X := x1.toInt) rfl e6 (by omega)
  refine lv_dup2_11 hx hb dX12_refuses_11 rfl rfl ?_
  obtain ⟨F7, hA8⟩ := om_0 hI hq3 List.not_mem_nil
  refine th_iald hx hb hK hA8 0 rfl (iv_in (X := v5.toInt) rfl (by omega) (by omega)) dX12_refuses_12 (fun v9 e10 => ?_)
  refine lv_iconst (v := 1) hx hb dX12_refuses_13 (by decide) ?_
  refine lv_iadd hx hb dX12_refuses_14 ?_
  refine lv_topi (fun v11 e12 => ?_)
  try have tv11 : v11.toInt = v9.toInt + (1) := iv_add rfl (by decide) e12 (by omega) (by omega)
  refine th_iast hx hb hK hA8 0 rfl hS ⟨_, hq3⟩ (iv_in (X := v5.toInt) rfl (by omega) (by omega)) dX12_refuses_15 (fun H locs hA13 oq hS => ?_)
  have hI := th_I.put hI hq3 hA13 ok_m0 oq
  have hg1 := gf.arr hG0 hq3 (by decide) oq hg1
  have hf4 := fr.arr hG0 hq3 (by decide) oq hf4
  have e14 : v11 = (upd F7 (v5 : Int32).toNatClampNeg v11) (v5 : Int32).toNatClampNeg := rd_us
  refine lv_iload_n hx hb dX12_refuses_16 rfl (lv_at hl 1 rfl) ?_
  have hpost : (x1 : Int32) = x1 := rfl
  rw [hQ]
  exact W.iret (v := x1) hx hb hr (fun t ht hW => ⟨⟨x1, x1, rfl, rfl, ⟨by rw [ht]; exact hI, hN.warm hW, va_K.moved hW.alike hK⟩, by first | (rw [ht]; exact hpost) | exact hpost⟩, hS.F ht⟩) hS.2.2 dX12_refuses_17
theorem dX12_good_0g : (decode cX12_good 0 = .ok (.aload_n 0, 1)) ∧ (decode cX12_good 1 = .ok (.iconst 0, 1)) ∧ (decode cX12_good 2 = .ok (.putfield 3, 3)) ∧ (decode cX12_good 5 = .ok (.aload_n 0, 1)) ∧ (decode cX12_good 6 = .ok (.dup, 1)) ∧ (decode cX12_good 7 = .ok (.getfield 11, 3)) ∧ (decode cX12_good 10 = .ok (.iconst 1, 1)) ∧ (decode cX12_good 11 = .ok (.iadd, 1)) ∧ (decode cX12_good 12 = .ok (.putfield 11, 3)) ∧ (decode cX12_good 15 = .ok (.iload_n 1, 1)) := by decide +kernel
theorem dX12_good_0 : decode cX12_good 0 = .ok (.aload_n 0, 1) := dX12_good_0g.1
theorem dX12_good_1 : decode cX12_good 1 = .ok (.iconst 0, 1) := dX12_good_0g.2.1
theorem dX12_good_2 : decode cX12_good 2 = .ok (.putfield 3, 3) := dX12_good_0g.2.2.1
theorem dX12_good_5 : decode cX12_good 5 = .ok (.aload_n 0, 1) := dX12_good_0g.2.2.2.1
theorem dX12_good_6 : decode cX12_good 6 = .ok (.dup, 1) := dX12_good_0g.2.2.2.2.1
theorem dX12_good_7 : decode cX12_good 7 = .ok (.getfield 11, 3) := dX12_good_0g.2.2.2.2.2.1
theorem dX12_good_10 : decode cX12_good 10 = .ok (.iconst 1, 1) := dX12_good_0g.2.2.2.2.2.2.1
theorem dX12_good_11 : decode cX12_good 11 = .ok (.iadd, 1) := dX12_good_0g.2.2.2.2.2.2.2.1
theorem dX12_good_12 : decode cX12_good 12 = .ok (.putfield 11, 3) := dX12_good_0g.2.2.2.2.2.2.2.2.1
theorem dX12_good_15 : decode cX12_good 15 = .ok (.iload_n 1, 1) := dX12_good_0g.2.2.2.2.2.2.2.2.2
theorem dX12_good_16 : decode cX12_good 16 = .ok (.ireturn, 1) := by decide +kernel
set_option maxHeartbeats 4000000 in
set_option maxRecDepth 100000 in
theorem c_X12_good (l : Launch) (E : Nat → Nat) (D : va_G) (G : th_G) (h0 : Nat) (hG0 : G h0 = some (10, 0)) (x1 : Int32) : Met l yX12_good (tb (.code yX12_good cX12_good 2 (some .int))) (rm 0) (va_Pc [.ref h0, .int x1] (PX E D G (fun H => True))) (QXi E D G (fun r H => (r : Int32) = x1)) 0 0 (th_A G) := by
  refine Met.ofW (cc := cX12_good) (maxL := 2) (ret := (some .int)) (by decide) rfl ?_
  intro p e s m args below meth c s₁ B hml hv
  obtain ⟨hav, ⟨hI, hN, hK⟩, hX⟩ := hv
  have hx := B.exec
  have hb := B.bytes
  have hr := B.returns
  have hts := atoms_spec (ws := tb (.code yX12_good cX12_good 2 (some .int))) B.pre
  have hown : s.vm.findClass RX12 = some m.cls := findClass_of_methodNamed B.named
  have hlocks := B.notSynchronized
  have hS : va_S (th_A G) s.heap s.heap [] := va_S.rf
  have hl := lv_entry ([.ref h0, .int x1]) (n := 2) (Nat.le_of_ble_eq_true rfl)
  rw [show entryFrame m args 2 = entryFrame m ([.ref h0, .int x1] : List Value).toArray 2 from by rw [hav], lg_entry_eq]
  generalize (lg_sl ([.ref h0, .int x1]) ++ List.replicate (2 - (lg_sl ([.ref h0, .int x1])).length) Slot.unset).toArray = ls at hl ⊢
  have hl : lv_has ls 2 [(0, .ref h0), (1, .int x1)] := hl
  generalize hR : (headSpec (tb (.code yX12_good cX12_good 2 (some .int))) (rm 0)).room = R
  have hR := hR.symm
  generalize hQ : MQ below (QXi E D G (fun r H => (r : Int32) = x1)) args s 0 0 (th_A G) = QF
  have hQ := hQ.symm
  refine lv_aload_n hx hb dX12_good_0 rfl (lv_at hl 0 rfl) ?_
  refine lv_iconst (v := 0) hx hb dX12_good_1 (by decide) ?_
  refine pmI (ty := .int) hx hb hts inT12 hown hK hI List.not_mem_nil hG0 hS ⟨_, hG0⟩ 0 (by decide) (hts _ (tb_c wd_1233)) rfl rfl (by decide +kernel) rfl rfl rfl (by decide) (by decide) dX12_good_2 (fun H locs hI hgP hS => ?_)
  have hg1 := hgP.2.1
  refine lv_aload_n hx hb dX12_good_5 rfl (lv_at hl 0 rfl) ?_
  refine lv_dup hx hb dX12_good_6 rfl ?_
  refine gmI hx hb hts inT12 hown hK hI List.not_mem_nil hG0 1 (by decide) (hts _ (tb_c wd_1234)) rfl rfl dX12_good_7 (fun w2 hg3 k4 k5 => ?_)
  refine lv_iconst (v := 1) hx hb dX12_good_10 (by decide) ?_
  refine lv_iadd hx hb dX12_good_11 ?_
  refine lv_topi (fun v6 e7 => ?_)
  try have tv6 : v6.toInt = w2.toInt + (1) := iv_add rfl (by decide) e7 (by omega) (by omega)
  have k8 := iv_lo v6
  have k9 := iv_hi v6
  refine pmI (ty := .int) hx hb hts inT12 hown hK hI List.not_mem_nil hG0 hS ⟨_, hG0⟩ 1 (by decide) (hts _ (tb_c wd_1234)) rfl rfl (by decide +kernel) rfl rfl rfl (by omega) (by omega) dX12_good_12 (fun H locs hI hgP hS => ?_)
  have hg1 := hgP.2.2.1 0 _ (by decide) (by decide) hg1
  have hg10 := hgP.2.1
  refine lv_iload_n hx hb dX12_good_15 rfl (lv_at hl 1 rfl) ?_
  have hpost : (x1 : Int32) = x1 := rfl
  rw [hQ]
  exact W.iret (v := x1) hx hb hr (fun t ht hW => ⟨⟨x1, x1, rfl, rfl, ⟨by rw [ht]; exact hI, hN.warm hW, va_K.moved hW.alike hK⟩, by first | (rw [ht]; exact hpost) | exact hpost⟩, hS.F ht⟩) hS.2.2 dX12_good_16
theorem dX12_comesBehind_0g : (decode cX12_comesBehind 0 = .ok (.iload_n 1, 1)) ∧ (decode cX12_comesBehind 1 = .ok (.iload_n 3, 1)) ∧ (decode cX12_comesBehind 2 = .ok (.aload_n 0, 1)) ∧ (decode cX12_comesBehind 3 = .ok (.getfield 20, 3)) ∧ (decode cX12_comesBehind 6 = .ok (.iload_n 2, 1)) ∧ (decode cX12_comesBehind 7 = .ok (.iaload, 1)) ∧ (decode cX12_comesBehind 8 = .ok (.imul, 1)) ∧ (decode cX12_comesBehind 9 = .ok (.iadd, 1)) ∧ (decode cX12_comesBehind 10 = .ok (.istore 8, 2)) ∧ (decode cX12_comesBehind 12 = .ok (.aload_n 0, 1)) := by decide +kernel
theorem dX12_comesBehind_0 : decode cX12_comesBehind 0 = .ok (.iload_n 1, 1) := dX12_comesBehind_0g.1
theorem dX12_comesBehind_1 : decode cX12_comesBehind 1 = .ok (.iload_n 3, 1) := dX12_comesBehind_0g.2.1
theorem dX12_comesBehind_2 : decode cX12_comesBehind 2 = .ok (.aload_n 0, 1) := dX12_comesBehind_0g.2.2.1
theorem dX12_comesBehind_3 : decode cX12_comesBehind 3 = .ok (.getfield 20, 3) := dX12_comesBehind_0g.2.2.2.1
theorem dX12_comesBehind_6 : decode cX12_comesBehind 6 = .ok (.iload_n 2, 1) := dX12_comesBehind_0g.2.2.2.2.1
theorem dX12_comesBehind_7 : decode cX12_comesBehind 7 = .ok (.iaload, 1) := dX12_comesBehind_0g.2.2.2.2.2.1
theorem dX12_comesBehind_8 : decode cX12_comesBehind 8 = .ok (.imul, 1) := dX12_comesBehind_0g.2.2.2.2.2.2.1
theorem dX12_comesBehind_9 : decode cX12_comesBehind 9 = .ok (.iadd, 1) := dX12_comesBehind_0g.2.2.2.2.2.2.2.1
theorem dX12_comesBehind_10 : decode cX12_comesBehind 10 = .ok (.istore 8, 2) := dX12_comesBehind_0g.2.2.2.2.2.2.2.2.1
theorem dX12_comesBehind_12 : decode cX12_comesBehind 12 = .ok (.aload_n 0, 1) := dX12_comesBehind_0g.2.2.2.2.2.2.2.2.2
theorem dX12_comesBehind_13g : (decode cX12_comesBehind 13 = .ok (.getfield 20, 3)) ∧ (decode cX12_comesBehind 16 = .ok (.iload 8, 2)) ∧ (decode cX12_comesBehind 18 = .ok (.iload 4, 2)) ∧ (decode cX12_comesBehind 20 = .ok (.iastore, 1)) ∧ (decode cX12_comesBehind 21 = .ok (.iload_n 3, 1)) ∧ (decode cX12_comesBehind 22 = .ok (.iconst 1, 1)) ∧ (decode cX12_comesBehind 23 = .ok (.if_icmp .le 14, 3)) ∧ (decode cX12_comesBehind 26 = .ok (.aload_n 0, 1)) ∧ (decode cX12_comesBehind 27 = .ok (.getfield 20, 3)) ∧ (decode cX12_comesBehind 30 = .ok (.iload 8, 2)) := by decide +kernel
theorem dX12_comesBehind_13 : decode cX12_comesBehind 13 = .ok (.getfield 20, 3) := dX12_comesBehind_13g.1
theorem dX12_comesBehind_16 : decode cX12_comesBehind 16 = .ok (.iload 8, 2) := dX12_comesBehind_13g.2.1
theorem dX12_comesBehind_18 : decode cX12_comesBehind 18 = .ok (.iload 4, 2) := dX12_comesBehind_13g.2.2.1
theorem dX12_comesBehind_20 : decode cX12_comesBehind 20 = .ok (.iastore, 1) := dX12_comesBehind_13g.2.2.2.1
theorem dX12_comesBehind_21 : decode cX12_comesBehind 21 = .ok (.iload_n 3, 1) := dX12_comesBehind_13g.2.2.2.2.1
theorem dX12_comesBehind_22 : decode cX12_comesBehind 22 = .ok (.iconst 1, 1) := dX12_comesBehind_13g.2.2.2.2.2.1
theorem dX12_comesBehind_23 : decode cX12_comesBehind 23 = .ok (.if_icmp .le 14, 3) := dX12_comesBehind_13g.2.2.2.2.2.2.1
theorem dX12_comesBehind_26 : decode cX12_comesBehind 26 = .ok (.aload_n 0, 1) := dX12_comesBehind_13g.2.2.2.2.2.2.2.1
theorem dX12_comesBehind_27 : decode cX12_comesBehind 27 = .ok (.getfield 20, 3) := dX12_comesBehind_13g.2.2.2.2.2.2.2.2.1
theorem dX12_comesBehind_30 : decode cX12_comesBehind 30 = .ok (.iload 8, 2) := dX12_comesBehind_13g.2.2.2.2.2.2.2.2.2
theorem dX12_comesBehind_32g : (decode cX12_comesBehind 32 = .ok (.iconst 1, 1)) ∧ (decode cX12_comesBehind 33 = .ok (.iadd, 1)) ∧ (decode cX12_comesBehind 34 = .ok (.iload 5, 2)) ∧ (decode cX12_comesBehind 36 = .ok (.iastore, 1)) ∧ (decode cX12_comesBehind 37 = .ok (.iload_n 3, 1)) ∧ (decode cX12_comesBehind 38 = .ok (.iconst 2, 1)) ∧ (decode cX12_comesBehind 39 = .ok (.if_icmp .le 14, 3)) ∧ (decode cX12_comesBehind 42 = .ok (.aload_n 0, 1)) ∧ (decode cX12_comesBehind 43 = .ok (.getfield 20, 3)) ∧ (decode cX12_comesBehind 46 = .ok (.iload 8, 2)) := by decide +kernel
theorem dX12_comesBehind_32 : decode cX12_comesBehind 32 = .ok (.iconst 1, 1) := dX12_comesBehind_32g.1
theorem dX12_comesBehind_33 : decode cX12_comesBehind 33 = .ok (.iadd, 1) := dX12_comesBehind_32g.2.1
theorem dX12_comesBehind_34 : decode cX12_comesBehind 34 = .ok (.iload 5, 2) := dX12_comesBehind_32g.2.2.1
theorem dX12_comesBehind_36 : decode cX12_comesBehind 36 = .ok (.iastore, 1) := dX12_comesBehind_32g.2.2.2.1
theorem dX12_comesBehind_37 : decode cX12_comesBehind 37 = .ok (.iload_n 3, 1) := dX12_comesBehind_32g.2.2.2.2.1
theorem dX12_comesBehind_38 : decode cX12_comesBehind 38 = .ok (.iconst 2, 1) := dX12_comesBehind_32g.2.2.2.2.2.1
theorem dX12_comesBehind_39 : decode cX12_comesBehind 39 = .ok (.if_icmp .le 14, 3) := dX12_comesBehind_32g.2.2.2.2.2.2.1
theorem dX12_comesBehind_42 : decode cX12_comesBehind 42 = .ok (.aload_n 0, 1) := dX12_comesBehind_32g.2.2.2.2.2.2.2.1
theorem dX12_comesBehind_43 : decode cX12_comesBehind 43 = .ok (.getfield 20, 3) := dX12_comesBehind_32g.2.2.2.2.2.2.2.2.1
theorem dX12_comesBehind_46 : decode cX12_comesBehind 46 = .ok (.iload 8, 2) := dX12_comesBehind_32g.2.2.2.2.2.2.2.2.2
theorem dX12_comesBehind_48g : (decode cX12_comesBehind 48 = .ok (.iconst 2, 1)) ∧ (decode cX12_comesBehind 49 = .ok (.iadd, 1)) ∧ (decode cX12_comesBehind 50 = .ok (.iload 6, 2)) ∧ (decode cX12_comesBehind 52 = .ok (.iastore, 1)) ∧ (decode cX12_comesBehind 53 = .ok (.iload_n 3, 1)) ∧ (decode cX12_comesBehind 54 = .ok (.iconst 3, 1)) ∧ (decode cX12_comesBehind 55 = .ok (.if_icmp .le 14, 3)) ∧ (decode cX12_comesBehind 58 = .ok (.aload_n 0, 1)) ∧ (decode cX12_comesBehind 59 = .ok (.getfield 20, 3)) ∧ (decode cX12_comesBehind 62 = .ok (.iload 8, 2)) := by decide +kernel
theorem dX12_comesBehind_48 : decode cX12_comesBehind 48 = .ok (.iconst 2, 1) := dX12_comesBehind_48g.1
theorem dX12_comesBehind_49 : decode cX12_comesBehind 49 = .ok (.iadd, 1) := dX12_comesBehind_48g.2.1
theorem dX12_comesBehind_50 : decode cX12_comesBehind 50 = .ok (.iload 6, 2) := dX12_comesBehind_48g.2.2.1
theorem dX12_comesBehind_52 : decode cX12_comesBehind 52 = .ok (.iastore, 1) := dX12_comesBehind_48g.2.2.2.1
theorem dX12_comesBehind_53 : decode cX12_comesBehind 53 = .ok (.iload_n 3, 1) := dX12_comesBehind_48g.2.2.2.2.1
theorem dX12_comesBehind_54 : decode cX12_comesBehind 54 = .ok (.iconst 3, 1) := dX12_comesBehind_48g.2.2.2.2.2.1
theorem dX12_comesBehind_55 : decode cX12_comesBehind 55 = .ok (.if_icmp .le 14, 3) := dX12_comesBehind_48g.2.2.2.2.2.2.1
theorem dX12_comesBehind_58 : decode cX12_comesBehind 58 = .ok (.aload_n 0, 1) := dX12_comesBehind_48g.2.2.2.2.2.2.2.1
theorem dX12_comesBehind_59 : decode cX12_comesBehind 59 = .ok (.getfield 20, 3) := dX12_comesBehind_48g.2.2.2.2.2.2.2.2.1
theorem dX12_comesBehind_62 : decode cX12_comesBehind 62 = .ok (.iload 8, 2) := dX12_comesBehind_48g.2.2.2.2.2.2.2.2.2
theorem dX12_comesBehind_64g : (decode cX12_comesBehind 64 = .ok (.iconst 3, 1)) ∧ (decode cX12_comesBehind 65 = .ok (.iadd, 1)) ∧ (decode cX12_comesBehind 66 = .ok (.iload 7, 2)) ∧ (decode cX12_comesBehind 68 = .ok (.iastore, 1)) ∧ (decode cX12_comesBehind 69 = .ok (.aload_n 0, 1)) ∧ (decode cX12_comesBehind 70 = .ok (.getfield 20, 3)) ∧ (decode cX12_comesBehind 73 = .ok (.iload_n 2, 1)) ∧ (decode cX12_comesBehind 74 = .ok (.dup2, 1)) ∧ (decode cX12_comesBehind 75 = .ok (.iaload, 1)) ∧ (decode cX12_comesBehind 76 = .ok (.iconst 1, 1)) := by decide +kernel
theorem dX12_comesBehind_64 : decode cX12_comesBehind 64 = .ok (.iconst 3, 1) := dX12_comesBehind_64g.1
theorem dX12_comesBehind_65 : decode cX12_comesBehind 65 = .ok (.iadd, 1) := dX12_comesBehind_64g.2.1
theorem dX12_comesBehind_66 : decode cX12_comesBehind 66 = .ok (.iload 7, 2) := dX12_comesBehind_64g.2.2.1
theorem dX12_comesBehind_68 : decode cX12_comesBehind 68 = .ok (.iastore, 1) := dX12_comesBehind_64g.2.2.2.1
theorem dX12_comesBehind_69 : decode cX12_comesBehind 69 = .ok (.aload_n 0, 1) := dX12_comesBehind_64g.2.2.2.2.1
theorem dX12_comesBehind_70 : decode cX12_comesBehind 70 = .ok (.getfield 20, 3) := dX12_comesBehind_64g.2.2.2.2.2.1
theorem dX12_comesBehind_73 : decode cX12_comesBehind 73 = .ok (.iload_n 2, 1) := dX12_comesBehind_64g.2.2.2.2.2.2.1
theorem dX12_comesBehind_74 : decode cX12_comesBehind 74 = .ok (.dup2, 1) := dX12_comesBehind_64g.2.2.2.2.2.2.2.1
theorem dX12_comesBehind_75 : decode cX12_comesBehind 75 = .ok (.iaload, 1) := dX12_comesBehind_64g.2.2.2.2.2.2.2.2.1
theorem dX12_comesBehind_76 : decode cX12_comesBehind 76 = .ok (.iconst 1, 1) := dX12_comesBehind_64g.2.2.2.2.2.2.2.2.2
theorem dX12_comesBehind_77g : (decode cX12_comesBehind 77 = .ok (.iadd, 1)) ∧ (decode cX12_comesBehind 78 = .ok (.iastore, 1)) ∧ (decode cX12_comesBehind 79 = .ok (.aload_n 0, 1)) ∧ (decode cX12_comesBehind 80 = .ok (.getfield 20, 3)) ∧ (decode cX12_comesBehind 83 = .ok (.iload_n 2, 1)) ∧ (decode cX12_comesBehind 84 = .ok (.iaload, 1)) ∧ (decode cX12_comesBehind 85 = .ok (.ireturn, 1)) := by decide +kernel
theorem dX12_comesBehind_77 : decode cX12_comesBehind 77 = .ok (.iadd, 1) := dX12_comesBehind_77g.1
theorem dX12_comesBehind_78 : decode cX12_comesBehind 78 = .ok (.iastore, 1) := dX12_comesBehind_77g.2.1
theorem dX12_comesBehind_79 : decode cX12_comesBehind 79 = .ok (.aload_n 0, 1) := dX12_comesBehind_77g.2.2.1
theorem dX12_comesBehind_80 : decode cX12_comesBehind 80 = .ok (.getfield 20, 3) := dX12_comesBehind_77g.2.2.2.1
theorem dX12_comesBehind_83 : decode cX12_comesBehind 83 = .ok (.iload_n 2, 1) := dX12_comesBehind_77g.2.2.2.2.1
theorem dX12_comesBehind_84 : decode cX12_comesBehind 84 = .ok (.iaload, 1) := dX12_comesBehind_77g.2.2.2.2.2.1
theorem dX12_comesBehind_85 : decode cX12_comesBehind 85 = .ok (.ireturn, 1) := dX12_comesBehind_77g.2.2.2.2.2.2
set_option maxHeartbeats 4000000 in
set_option maxRecDepth 100000 in
theorem c_X12_comesBehind_308 (l : Launch) (E : Nat → Nat) (D : va_G) (G : th_G) (h0 : Nat) (hG0 : G h0 = some (10, 0)) (x4 : Int32) (x5 : Int32) (x6 : Int32) (x7 : Int32) (f : Nat → Int32) (hkf : kOk (E 10) f) (hlt : (f 308).toInt < 8) : Met l yX12_comesBehind (tb (.code yX12_comesBehind cX12_comesBehind 9 (some .int))) (rm 0) (va_Pc [.ref h0, .int 106, .int 308, .int 3, .int x4, .int x5, .int x6, .int x7] (PX E D G (fun H => ga E D G h0 3 (1, 5123) f H))) (QXi E D G (fun r H => True)) 0 0 (th_A G) := by
  refine Met.ofW (cc := cX12_comesBehind) (maxL := 9) (ret := (some .int)) (by decide) rfl ?_
  intro p e s m args below meth c s₁ B hml hv
  obtain ⟨hav, ⟨hI, hN, hK⟩, hX⟩ := hv
  have hx := B.exec
  have hb := B.bytes
  have hr := B.returns
  have hts := atoms_spec (ws := tb (.code yX12_comesBehind cX12_comesBehind 9 (some .int))) B.pre
  have hown : s.vm.findClass RX12 = some m.cls := findClass_of_methodNamed B.named
  have hlocks := B.notSynchronized
  have hS : va_S (th_A G) s.heap s.heap [] := va_S.rf
  have hl := lv_entry ([.ref h0, .int 106, .int 308, .int 3, .int x4, .int x5, .int x6, .int x7]) (n := 9) (Nat.le_of_ble_eq_true rfl)
  rw [show entryFrame m args 9 = entryFrame m ([.ref h0, .int 106, .int 308, .int 3, .int x4, .int x5, .int x6, .int x7] : List Value).toArray 9 from by rw [hav], lg_entry_eq]
  generalize (lg_sl ([.ref h0, .int 106, .int 308, .int 3, .int x4, .int x5, .int x6, .int x7]) ++ List.replicate (9 - (lg_sl ([.ref h0, .int 106, .int 308, .int 3, .int x4, .int x5, .int x6, .int x7])).length) Slot.unset).toArray = ls at hl ⊢
  have hl : lv_has ls 9 [(0, .ref h0), (1, .int 106), (2, .int 308), (3, .int 3), (4, .int x4), (5, .int x5), (6, .int x6), (7, .int x7)] := hl
  generalize hR : (headSpec (tb (.code yX12_comesBehind cX12_comesBehind 9 (some .int))) (rm 0)).room = R
  have hR := hR.symm
  generalize hQ : MQ below (QXi E D G (fun r H => True)) args s 0 0 (th_A G) = QF
  have hQ := hQ.symm
  obtain ⟨q_3, hf_3, hq_3, hA_3⟩ := hX
  refine lv_iload_n hx hb dX12_comesBehind_0 rfl (lv_at hl 1 rfl) ?_
  refine lv_iload_n hx hb dX12_comesBehind_1 rfl (lv_at hl 3 rfl) ?_
  refine lv_aload_n hx hb dX12_comesBehind_2 rfl (lv_at hl 0 rfl) ?_
  refine gmA hx hb hts inT12 hown hK hI List.not_mem_nil hG0 3 (by decide) (hts _ (tb_c wd_1236)) rfl rfl dX12_comesBehind_3 (fun a1 hq2 hf3 => ?_)
  obtain rfl := fr.uniq (by decide) hf_3 hf3
  refine lv_iload_n hx hb dX12_comesBehind_6 rfl (lv_at hl 2 rfl) ?_
  refine th_iald hx hb hK hA_3 0 rfl (iv_in (X := (308)) (by decide) (by omega) (by omega)) dX12_comesBehind_7 (fun v4 e5 => ?_)
  have k6 := kg_m308 (kOk.get (i := 308) hkf e5 (X := (308)) (by decide) (by omega) (by omega)) (by omega) (by omega) (by omega)
  have k7 : v4.toInt < 8 := by rw [e5]; exact hlt
  refine lv_imul hx hb dX12_comesBehind_8 ?_
  refine lv_topi (fun v8 e9 => ?_)
  have tv8 : v8.toInt = (3) * v4.toInt := iv_mul (by decide) rfl e9 (by omega) (by omega)
  refine lv_iadd hx hb dX12_comesBehind_9 ?_
  refine lv_topi (fun v10 e11 => ?_)
  have tv10 : v10.toInt = (106) + v8.toInt := iv_add (by decide) rfl e11 (by omega) (by omega)
  refine lv_istore (lv' := [(8, .int v10), (0, .ref h0), (1, .int 106), (2, .int 308), (3, .int 3), (4, .int x4), (5, .int x5), (6, .int x6), (7, .int x7)]) hx hb dX12_comesBehind_10 hl (by decide) rfl (fun ls hl => ?_)
  refine lv_aload_n hx hb dX12_comesBehind_12 rfl (lv_at hl 1 rfl) ?_
  refine gmA hx hb hts inT12 hown hK hI List.not_mem_nil hG0 3 (by decide) (hts _ (tb_c wd_1236)) rfl rfl dX12_comesBehind_13 (fun a12 hq13 hf14 => ?_)
  obtain rfl := fr.uniq (by decide) hf_3 hf14
  refine lv_iload hx hb dX12_comesBehind_16 (lv_at hl 0 rfl) ?_
  refine lv_iload hx hb dX12_comesBehind_18 (lv_at hl 5 rfl) ?_
  refine th_iast hx hb hK hA_3 0 rfl hS ⟨_, hq_3⟩ (iv_in (X := v10.toInt) rfl (by omega) (by omega)) dX12_comesBehind_20 (fun H locs hA15 oq hS => ?_)
  have k16 := iv_lo x4
  have k17 := iv_hi x4
  have hP18 := kOk.set (i := v10) (v := x4) hkf (X := v10.toInt) (V := x4.toInt) rfl rfl (by omega) (by omega) (ks_pumps (by omega) (by omega) (by omega))
  have hI := th_I.put hI hq_3 hA15 (ok_m1 hP18) oq
  have hf_3 := fr.arr hG0 hq_3 (by decide) oq hf_3
  have e19 := rd_un (i := 308) (j := v10) (v := x4) e5 (X := (308)) (Y := v10.toInt) (by decide) rfl (by omega) (by omega) (by omega)
  have e20 : x4 = (upd f (v10 : Int32).toNatClampNeg x4) (v10 : Int32).toNatClampNeg := rd_us
  refine lv_iload_n hx hb dX12_comesBehind_21 rfl (lv_at hl 4 rfl) ?_
  refine lv_iconst (v := 1) hx hb dX12_comesBehind_22 (by decide) ?_
  refine lv_icmp_le (tgt := 37) hx hb dX12_comesBehind_23 (by decide) (fun c21 => ?_) (fun c21 => ?_)
  · skip
    have k22 := iv_le (X := (3)) (Y := (1)) (by decide) (by decide) c21
    exfalso; omega
  · skip
    have k23 := iv_nle (X := (3)) (Y := (1)) (by decide) (by decide) c21
    refine lv_aload_n hx hb dX12_comesBehind_26 rfl (lv_at hl 1 rfl) ?_
    refine gmA hx hb hts inT12 hown hK hI List.not_mem_nil hG0 3 (by decide) (hts _ (tb_c wd_1236)) rfl rfl dX12_comesBehind_27 (fun a24 hq25 hf26 => ?_)
    obtain rfl := fr.uniq (by decide) hf_3 hf26
    refine lv_iload hx hb dX12_comesBehind_30 (lv_at hl 0 rfl) ?_
    refine lv_iconst (v := 1) hx hb dX12_comesBehind_32 (by decide) ?_
    refine lv_iadd hx hb dX12_comesBehind_33 ?_
    refine lv_topi (fun v27 e28 => ?_)
    have tv27 : v27.toInt = v10.toInt + (1) := iv_add rfl (by decide) e28 (by omega) (by omega)
    refine lv_iload hx hb dX12_comesBehind_34 (lv_at hl 6 rfl) ?_
    refine th_iast hx hb hK hA15 0 rfl hS ⟨_, hq_3⟩ (iv_in (X := v27.toInt) rfl (by omega) (by omega)) dX12_comesBehind_36 (fun H locs hA29 oq hS => ?_)
    have k30 := iv_lo x5
    have k31 := iv_hi x5
    have hP32 := kOk.set (i := v27) (v := x5) hP18 (X := v27.toInt) (V := x5.toInt) rfl rfl (by omega) (by omega) (ks_pumps (by omega) (by omega) (by omega))
    have hI := th_I.put hI hq_3 hA29 (ok_m1 hP32) oq
    have hf_3 := fr.arr hG0 hq_3 (by decide) oq hf_3
    have e33 := rd_un (i := 308) (j := v27) (v := x5) e19 (X := (308)) (Y := v27.toInt) (by decide) rfl (by omega) (by omega) (by omega)
    have e34 := rd_un (i := v10) (j := v27) (v := x5) e20 (X := v10.toInt) (Y := v27.toInt) rfl rfl (by omega) (by omega) (by omega)
    have e35 : x5 = (upd (upd f (v10 : Int32).toNatClampNeg x4) (v27 : Int32).toNatClampNeg x5) (v27 : Int32).toNatClampNeg := rd_us
    refine lv_iload_n hx hb dX12_comesBehind_37 rfl (lv_at hl 4 rfl) ?_
    refine lv_iconst (v := 2) hx hb dX12_comesBehind_38 (by decide) ?_
    refine lv_icmp_le (tgt := 53) hx hb dX12_comesBehind_39 (by decide) (fun c36 => ?_) (fun c36 => ?_)
    · skip
      have k37 := iv_le (X := (3)) (Y := (2)) (by decide) (by decide) c36
      exfalso; omega
    · skip
      have k38 := iv_nle (X := (3)) (Y := (2)) (by decide) (by decide) c36
      refine lv_aload_n hx hb dX12_comesBehind_42 rfl (lv_at hl 1 rfl) ?_
      refine gmA hx hb hts inT12 hown hK hI List.not_mem_nil hG0 3 (by decide) (hts _ (tb_c wd_1236)) rfl rfl dX12_comesBehind_43 (fun a39 hq40 hf41 => ?_)
      obtain rfl := fr.uniq (by decide) hf_3 hf41
      refine lv_iload hx hb dX12_comesBehind_46 (lv_at hl 0 rfl) ?_
      refine lv_iconst (v := 2) hx hb dX12_comesBehind_48 (by decide) ?_
      refine lv_iadd hx hb dX12_comesBehind_49 ?_
      refine lv_topi (fun v42 e43 => ?_)
      have tv42 : v42.toInt = v10.toInt + (2) := iv_add rfl (by decide) e43 (by omega) (by omega)
      refine lv_iload hx hb dX12_comesBehind_50 (lv_at hl 7 rfl) ?_
      refine th_iast hx hb hK hA29 0 rfl hS ⟨_, hq_3⟩ (iv_in (X := v42.toInt) rfl (by omega) (by omega)) dX12_comesBehind_52 (fun H locs hA44 oq hS => ?_)
      have k45 := iv_lo x6
      have k46 := iv_hi x6
      have hP47 := kOk.set (i := v42) (v := x6) hP32 (X := v42.toInt) (V := x6.toInt) rfl rfl (by omega) (by omega) (ks_pumps (by omega) (by omega) (by omega))
      have hI := th_I.put hI hq_3 hA44 (ok_m1 hP47) oq
      have hf_3 := fr.arr hG0 hq_3 (by decide) oq hf_3
      have e48 := rd_un (i := 308) (j := v42) (v := x6) e33 (X := (308)) (Y := v42.toInt) (by decide) rfl (by omega) (by omega) (by omega)
      have e49 := rd_un (i := v10) (j := v42) (v := x6) e34 (X := v10.toInt) (Y := v42.toInt) rfl rfl (by omega) (by omega) (by omega)
      have e50 := rd_un (i := v27) (j := v42) (v := x6) e35 (X := v27.toInt) (Y := v42.toInt) rfl rfl (by omega) (by omega) (by omega)
      have e51 : x6 = (upd (upd (upd f (v10 : Int32).toNatClampNeg x4) (v27 : Int32).toNatClampNeg x5) (v42 : Int32).toNatClampNeg x6) (v42 : Int32).toNatClampNeg := rd_us
      refine lv_iload_n hx hb dX12_comesBehind_53 rfl (lv_at hl 4 rfl) ?_
      refine lv_iconst (v := 3) hx hb dX12_comesBehind_54 (by decide) ?_
      refine lv_icmp_le (tgt := 69) hx hb dX12_comesBehind_55 (by decide) (fun c52 => ?_) (fun c52 => ?_)
      · skip
        have k53 := iv_le (X := (3)) (Y := (3)) (by decide) (by decide) c52
        refine lv_aload_n hx hb dX12_comesBehind_69 rfl (lv_at hl 1 rfl) ?_
        refine gmA hx hb hts inT12 hown hK hI List.not_mem_nil hG0 3 (by decide) (hts _ (tb_c wd_1236)) rfl rfl dX12_comesBehind_70 (fun a54 hq55 hf56 => ?_)
        obtain rfl := fr.uniq (by decide) hf_3 hf56
        refine lv_iload_n hx hb dX12_comesBehind_73 rfl (lv_at hl 3 rfl) ?_
        refine lv_dup2_11 hx hb dX12_comesBehind_74 rfl rfl ?_
        refine th_iald hx hb hK hA44 0 rfl (iv_in (X := (308)) (by decide) (by omega) (by omega)) dX12_comesBehind_75 (fun v57 e58 => ?_)
        obtain rfl := (rd_same (i := 308) (j := 308) e48 e58 (X := (308)) (Y := (308)) (by decide) (by decide) (by omega)).symm
        refine lv_iconst (v := 1) hx hb dX12_comesBehind_76 (by decide) ?_
        refine lv_iadd hx hb dX12_comesBehind_77 ?_
        refine lv_topi (fun v59 e60 => ?_)
        have tv59 : v59.toInt = v4.toInt + (1) := iv_add rfl (by decide) e60 (by omega) (by omega)
        refine th_iast hx hb hK hA44 0 rfl hS ⟨_, hq_3⟩ (iv_in (X := (308)) (by decide) (by omega) (by omega)) dX12_comesBehind_78 (fun H locs hA61 oq hS => ?_)
        have hP62 := kOk.set (i := 308) (v := v59) hP47 (X := (308)) (V := v59.toInt) (by decide) rfl (by omega) (by omega) (ks_m308 (by omega) (by omega) (by omega) ⟨by omega, by omega⟩)
        have hI := th_I.put hI hq_3 hA61 (ok_m1 hP62) oq
        have hf_3 := fr.arr hG0 hq_3 (by decide) oq hf_3
        have e63 := rd_un (i := v10) (j := 308) (v := v59) e49 (X := v10.toInt) (Y := (308)) rfl (by decide) (by omega) (by omega) (by omega)
        have e64 := rd_un (i := v27) (j := 308) (v := v59) e50 (X := v27.toInt) (Y := (308)) rfl (by decide) (by omega) (by omega) (by omega)
        have e65 := rd_un (i := v42) (j := 308) (v := v59) e51 (X := v42.toInt) (Y := (308)) rfl (by decide) (by omega) (by omega) (by omega)
        have e66 : v59 = (upd (upd (upd (upd f (v10 : Int32).toNatClampNeg x4) (v27 : Int32).toNatClampNeg x5) (v42 : Int32).toNatClampNeg x6) (308 : Int32).toNatClampNeg v59) (308 : Int32).toNatClampNeg := rd_us
        refine lv_aload_n hx hb dX12_comesBehind_79 rfl (lv_at hl 1 rfl) ?_
        refine gmA hx hb hts inT12 hown hK hI List.not_mem_nil hG0 3 (by decide) (hts _ (tb_c wd_1236)) rfl rfl dX12_comesBehind_80 (fun a67 hq68 hf69 => ?_)
        obtain rfl := fr.uniq (by decide) hf_3 hf69
        refine lv_iload_n hx hb dX12_comesBehind_83 rfl (lv_at hl 3 rfl) ?_
        refine th_iald hx hb hK hA61 0 rfl (iv_in (X := (308)) (by decide) (by omega) (by omega)) dX12_comesBehind_84 (fun v70 e71 => ?_)
        obtain rfl := (rd_same (i := 308) (j := 308) e66 e71 (X := (308)) (Y := (308)) (by decide) (by decide) (by omega)).symm
        have hpost : True := trivial
        rw [hQ]
        exact W.iret (v := v59) hx hb hr (fun t ht hW => ⟨⟨v59, v59, rfl, rfl, ⟨by rw [ht]; exact hI, hN.warm hW, va_K.moved hW.alike hK⟩, by first | (rw [ht]; exact hpost) | exact hpost⟩, hS.F ht⟩) hS.2.2 dX12_comesBehind_85
      · skip
        have k72 := iv_nle (X := (3)) (Y := (3)) (by decide) (by decide) c52
        exfalso; omega
set_option maxHeartbeats 4000000 in
set_option maxRecDepth 100000 in
theorem c_X12_comesBehind_309 (l : Launch) (E : Nat → Nat) (D : va_G) (G : th_G) (h0 : Nat) (hG0 : G h0 = some (10, 0)) (x4 : Int32) (x5 : Int32) (x6 : Int32) (x7 : Int32) (hx4 : (0 : Int) ≤ x4.toInt ∧ x4.toInt ≤ 23) (f : Nat → Int32) (hkf : kOk (E 10) f) (hlt : (f 309).toInt < 6) : Met l yX12_comesBehind (tb (.code yX12_comesBehind cX12_comesBehind 9 (some .int))) (rm 0) (va_Pc [.ref h0, .int 130, .int 309, .int 1, .int x4, .int x5, .int x6, .int x7] (PX E D G (fun H => ga E D G h0 3 (1, 5123) f H))) (QXi E D G (fun r H => True)) 0 0 (th_A G) := by
  refine Met.ofW (cc := cX12_comesBehind) (maxL := 9) (ret := (some .int)) (by decide) rfl ?_
  intro p e s m args below meth c s₁ B hml hv
  obtain ⟨hav, ⟨hI, hN, hK⟩, hX⟩ := hv
  have hx := B.exec
  have hb := B.bytes
  have hr := B.returns
  have hts := atoms_spec (ws := tb (.code yX12_comesBehind cX12_comesBehind 9 (some .int))) B.pre
  have hown : s.vm.findClass RX12 = some m.cls := findClass_of_methodNamed B.named
  have hlocks := B.notSynchronized
  have hS : va_S (th_A G) s.heap s.heap [] := va_S.rf
  have hl := lv_entry ([.ref h0, .int 130, .int 309, .int 1, .int x4, .int x5, .int x6, .int x7]) (n := 9) (Nat.le_of_ble_eq_true rfl)
  rw [show entryFrame m args 9 = entryFrame m ([.ref h0, .int 130, .int 309, .int 1, .int x4, .int x5, .int x6, .int x7] : List Value).toArray 9 from by rw [hav], lg_entry_eq]
  generalize (lg_sl ([.ref h0, .int 130, .int 309, .int 1, .int x4, .int x5, .int x6, .int x7]) ++ List.replicate (9 - (lg_sl ([.ref h0, .int 130, .int 309, .int 1, .int x4, .int x5, .int x6, .int x7])).length) Slot.unset).toArray = ls at hl ⊢
  have hl : lv_has ls 9 [(0, .ref h0), (1, .int 130), (2, .int 309), (3, .int 1), (4, .int x4), (5, .int x5), (6, .int x6), (7, .int x7)] := hl
  generalize hR : (headSpec (tb (.code yX12_comesBehind cX12_comesBehind 9 (some .int))) (rm 0)).room = R
  have hR := hR.symm
  generalize hQ : MQ below (QXi E D G (fun r H => True)) args s 0 0 (th_A G) = QF
  have hQ := hQ.symm
  obtain ⟨q_3, hf_3, hq_3, hA_3⟩ := hX
  refine lv_iload_n hx hb dX12_comesBehind_0 rfl (lv_at hl 1 rfl) ?_
  refine lv_iload_n hx hb dX12_comesBehind_1 rfl (lv_at hl 3 rfl) ?_
  refine lv_aload_n hx hb dX12_comesBehind_2 rfl (lv_at hl 0 rfl) ?_
  refine gmA hx hb hts inT12 hown hK hI List.not_mem_nil hG0 3 (by decide) (hts _ (tb_c wd_1236)) rfl rfl dX12_comesBehind_3 (fun a1 hq2 hf3 => ?_)
  obtain rfl := fr.uniq (by decide) hf_3 hf3
  refine lv_iload_n hx hb dX12_comesBehind_6 rfl (lv_at hl 2 rfl) ?_
  refine th_iald hx hb hK hA_3 0 rfl (iv_in (X := (309)) (by decide) (by omega) (by omega)) dX12_comesBehind_7 (fun v4 e5 => ?_)
  have k6 := kg_m309 (kOk.get (i := 309) hkf e5 (X := (309)) (by decide) (by omega) (by omega)) (by omega) (by omega) (by omega)
  have k7 : v4.toInt < 6 := by rw [e5]; exact hlt
  refine lv_imul hx hb dX12_comesBehind_8 ?_
  refine lv_topi (fun v8 e9 => ?_)
  have tv8 : v8.toInt = (1) * v4.toInt := iv_mul (by decide) rfl e9 (by omega) (by omega)
  refine lv_iadd hx hb dX12_comesBehind_9 ?_
  refine lv_topi (fun v10 e11 => ?_)
  have tv10 : v10.toInt = (130) + v8.toInt := iv_add (by decide) rfl e11 (by omega) (by omega)
  refine lv_istore (lv' := [(8, .int v10), (0, .ref h0), (1, .int 130), (2, .int 309), (3, .int 1), (4, .int x4), (5, .int x5), (6, .int x6), (7, .int x7)]) hx hb dX12_comesBehind_10 hl (by decide) rfl (fun ls hl => ?_)
  refine lv_aload_n hx hb dX12_comesBehind_12 rfl (lv_at hl 1 rfl) ?_
  refine gmA hx hb hts inT12 hown hK hI List.not_mem_nil hG0 3 (by decide) (hts _ (tb_c wd_1236)) rfl rfl dX12_comesBehind_13 (fun a12 hq13 hf14 => ?_)
  obtain rfl := fr.uniq (by decide) hf_3 hf14
  refine lv_iload hx hb dX12_comesBehind_16 (lv_at hl 0 rfl) ?_
  refine lv_iload hx hb dX12_comesBehind_18 (lv_at hl 5 rfl) ?_
  refine th_iast hx hb hK hA_3 0 rfl hS ⟨_, hq_3⟩ (iv_in (X := v10.toInt) rfl (by omega) (by omega)) dX12_comesBehind_20 (fun H locs hA15 oq hS => ?_)
  have hP16 := kOk.set (i := v10) (v := x4) hkf (X := v10.toInt) (V := x4.toInt) rfl rfl (by omega) (by omega) (ks_mill (by omega) (by omega) (by omega) ⟨by omega, by omega⟩)
  have hI := th_I.put hI hq_3 hA15 (ok_m1 hP16) oq
  have hf_3 := fr.arr hG0 hq_3 (by decide) oq hf_3
  have e17 := rd_un (i := 309) (j := v10) (v := x4) e5 (X := (309)) (Y := v10.toInt) (by decide) rfl (by omega) (by omega) (by omega)
  have e18 : x4 = (upd f (v10 : Int32).toNatClampNeg x4) (v10 : Int32).toNatClampNeg := rd_us
  refine lv_iload_n hx hb dX12_comesBehind_21 rfl (lv_at hl 4 rfl) ?_
  refine lv_iconst (v := 1) hx hb dX12_comesBehind_22 (by decide) ?_
  refine lv_icmp_le (tgt := 37) hx hb dX12_comesBehind_23 (by decide) (fun c19 => ?_) (fun c19 => ?_)
  · skip
    have k20 := iv_le (X := (1)) (Y := (1)) (by decide) (by decide) c19
    refine lv_iload_n hx hb dX12_comesBehind_37 rfl (lv_at hl 4 rfl) ?_
    refine lv_iconst (v := 2) hx hb dX12_comesBehind_38 (by decide) ?_
    refine lv_icmp_le (tgt := 53) hx hb dX12_comesBehind_39 (by decide) (fun c21 => ?_) (fun c21 => ?_)
    · skip
      have k22 := iv_le (X := (1)) (Y := (2)) (by decide) (by decide) c21
      refine lv_iload_n hx hb dX12_comesBehind_53 rfl (lv_at hl 4 rfl) ?_
      refine lv_iconst (v := 3) hx hb dX12_comesBehind_54 (by decide) ?_
      refine lv_icmp_le (tgt := 69) hx hb dX12_comesBehind_55 (by decide) (fun c23 => ?_) (fun c23 => ?_)
      · skip
        have k24 := iv_le (X := (1)) (Y := (3)) (by decide) (by decide) c23
        refine lv_aload_n hx hb dX12_comesBehind_69 rfl (lv_at hl 1 rfl) ?_
        refine gmA hx hb hts inT12 hown hK hI List.not_mem_nil hG0 3 (by decide) (hts _ (tb_c wd_1236)) rfl rfl dX12_comesBehind_70 (fun a25 hq26 hf27 => ?_)
        obtain rfl := fr.uniq (by decide) hf_3 hf27
        refine lv_iload_n hx hb dX12_comesBehind_73 rfl (lv_at hl 3 rfl) ?_
        refine lv_dup2_11 hx hb dX12_comesBehind_74 rfl rfl ?_
        refine th_iald hx hb hK hA15 0 rfl (iv_in (X := (309)) (by decide) (by omega) (by omega)) dX12_comesBehind_75 (fun v28 e29 => ?_)
        obtain rfl := (rd_same (i := 309) (j := 309) e17 e29 (X := (309)) (Y := (309)) (by decide) (by decide) (by omega)).symm
        refine lv_iconst (v := 1) hx hb dX12_comesBehind_76 (by decide) ?_
        refine lv_iadd hx hb dX12_comesBehind_77 ?_
        refine lv_topi (fun v30 e31 => ?_)
        have tv30 : v30.toInt = v4.toInt + (1) := iv_add rfl (by decide) e31 (by omega) (by omega)
        refine th_iast hx hb hK hA15 0 rfl hS ⟨_, hq_3⟩ (iv_in (X := (309)) (by decide) (by omega) (by omega)) dX12_comesBehind_78 (fun H locs hA32 oq hS => ?_)
        have hP33 := kOk.set (i := 309) (v := v30) hP16 (X := (309)) (V := v30.toInt) (by decide) rfl (by omega) (by omega) (ks_m309 (by omega) (by omega) (by omega) ⟨by omega, by omega⟩)
        have hI := th_I.put hI hq_3 hA32 (ok_m1 hP33) oq
        have hf_3 := fr.arr hG0 hq_3 (by decide) oq hf_3
        have e34 := rd_un (i := v10) (j := 309) (v := v30) e18 (X := v10.toInt) (Y := (309)) rfl (by decide) (by omega) (by omega) (by omega)
        have e35 : v30 = (upd (upd f (v10 : Int32).toNatClampNeg x4) (309 : Int32).toNatClampNeg v30) (309 : Int32).toNatClampNeg := rd_us
        refine lv_aload_n hx hb dX12_comesBehind_79 rfl (lv_at hl 1 rfl) ?_
        refine gmA hx hb hts inT12 hown hK hI List.not_mem_nil hG0 3 (by decide) (hts _ (tb_c wd_1236)) rfl rfl dX12_comesBehind_80 (fun a36 hq37 hf38 => ?_)
        obtain rfl := fr.uniq (by decide) hf_3 hf38
        refine lv_iload_n hx hb dX12_comesBehind_83 rfl (lv_at hl 3 rfl) ?_
        refine th_iald hx hb hK hA32 0 rfl (iv_in (X := (309)) (by decide) (by omega) (by omega)) dX12_comesBehind_84 (fun v39 e40 => ?_)
        obtain rfl := (rd_same (i := 309) (j := 309) e35 e40 (X := (309)) (Y := (309)) (by decide) (by decide) (by omega)).symm
        have hpost : True := trivial
        rw [hQ]
        exact W.iret (v := v30) hx hb hr (fun t ht hW => ⟨⟨v30, v30, rfl, rfl, ⟨by rw [ht]; exact hI, hN.warm hW, va_K.moved hW.alike hK⟩, by first | (rw [ht]; exact hpost) | exact hpost⟩, hS.F ht⟩) hS.2.2 dX12_comesBehind_85
      · skip
        have k41 := iv_nle (X := (1)) (Y := (3)) (by decide) (by decide) c23
        exfalso; omega
    · skip
      have k42 := iv_nle (X := (1)) (Y := (2)) (by decide) (by decide) c21
      exfalso; omega
  · skip
    have k43 := iv_nle (X := (1)) (Y := (1)) (by decide) (by decide) c19
    exfalso; omega
set_option maxHeartbeats 4000000 in
set_option maxRecDepth 100000 in
theorem c_X12_comesBehind_310 (l : Launch) (E : Nat → Nat) (D : va_G) (G : th_G) (h0 : Nat) (hG0 : G h0 = some (10, 0)) (x4 : Int32) (x5 : Int32) (x6 : Int32) (x7 : Int32) (hx4 : (0 : Int) ≤ x4.toInt ∧ x4.toInt ≤ 23) (hx5 : (0 : Int) ≤ x5.toInt ∧ x5.toInt ≤ 95) (f : Nat → Int32) (hkf : kOk (E 10) f) (hlt : (f 310).toInt < 6) : Met l yX12_comesBehind (tb (.code yX12_comesBehind cX12_comesBehind 9 (some .int))) (rm 0) (va_Pc [.ref h0, .int 136, .int 310, .int 4, .int x4, .int x5, .int x6, .int x7] (PX E D G (fun H => ga E D G h0 3 (1, 5123) f H))) (QXi E D G (fun r H => True)) 0 0 (th_A G) := by
  refine Met.ofW (cc := cX12_comesBehind) (maxL := 9) (ret := (some .int)) (by decide) rfl ?_
  intro p e s m args below meth c s₁ B hml hv
  obtain ⟨hav, ⟨hI, hN, hK⟩, hX⟩ := hv
  have hx := B.exec
  have hb := B.bytes
  have hr := B.returns
  have hts := atoms_spec (ws := tb (.code yX12_comesBehind cX12_comesBehind 9 (some .int))) B.pre
  have hown : s.vm.findClass RX12 = some m.cls := findClass_of_methodNamed B.named
  have hlocks := B.notSynchronized
  have hS : va_S (th_A G) s.heap s.heap [] := va_S.rf
  have hl := lv_entry ([.ref h0, .int 136, .int 310, .int 4, .int x4, .int x5, .int x6, .int x7]) (n := 9) (Nat.le_of_ble_eq_true rfl)
  rw [show entryFrame m args 9 = entryFrame m ([.ref h0, .int 136, .int 310, .int 4, .int x4, .int x5, .int x6, .int x7] : List Value).toArray 9 from by rw [hav], lg_entry_eq]
  generalize (lg_sl ([.ref h0, .int 136, .int 310, .int 4, .int x4, .int x5, .int x6, .int x7]) ++ List.replicate (9 - (lg_sl ([.ref h0, .int 136, .int 310, .int 4, .int x4, .int x5, .int x6, .int x7])).length) Slot.unset).toArray = ls at hl ⊢
  have hl : lv_has ls 9 [(0, .ref h0), (1, .int 136), (2, .int 310), (3, .int 4), (4, .int x4), (5, .int x5), (6, .int x6), (7, .int x7)] := hl
  generalize hR : (headSpec (tb (.code yX12_comesBehind cX12_comesBehind 9 (some .int))) (rm 0)).room = R
  have hR := hR.symm
  generalize hQ : MQ below (QXi E D G (fun r H => True)) args s 0 0 (th_A G) = QF
  have hQ := hQ.symm
  obtain ⟨q_3, hf_3, hq_3, hA_3⟩ := hX
  refine lv_iload_n hx hb dX12_comesBehind_0 rfl (lv_at hl 1 rfl) ?_
  refine lv_iload_n hx hb dX12_comesBehind_1 rfl (lv_at hl 3 rfl) ?_
  refine lv_aload_n hx hb dX12_comesBehind_2 rfl (lv_at hl 0 rfl) ?_
  refine gmA hx hb hts inT12 hown hK hI List.not_mem_nil hG0 3 (by decide) (hts _ (tb_c wd_1236)) rfl rfl dX12_comesBehind_3 (fun a1 hq2 hf3 => ?_)
  obtain rfl := fr.uniq (by decide) hf_3 hf3
  refine lv_iload_n hx hb dX12_comesBehind_6 rfl (lv_at hl 2 rfl) ?_
  refine th_iald hx hb hK hA_3 0 rfl (iv_in (X := (310)) (by decide) (by omega) (by omega)) dX12_comesBehind_7 (fun v4 e5 => ?_)
  have k6 := kg_m310 (kOk.get (i := 310) hkf e5 (X := (310)) (by decide) (by omega) (by omega)) (by omega) (by omega) (by omega)
  have k7 : v4.toInt < 6 := by rw [e5]; exact hlt
  refine lv_imul hx hb dX12_comesBehind_8 ?_
  refine lv_topi (fun v8 e9 => ?_)
  have tv8 : v8.toInt = (4) * v4.toInt := iv_mul (by decide) rfl e9 (by omega) (by omega)
  refine lv_iadd hx hb dX12_comesBehind_9 ?_
  refine lv_topi (fun v10 e11 => ?_)
  have tv10 : v10.toInt = (136) + v8.toInt := iv_add (by decide) rfl e11 (by omega) (by omega)
  refine lv_istore (lv' := [(8, .int v10), (0, .ref h0), (1, .int 136), (2, .int 310), (3, .int 4), (4, .int x4), (5, .int x5), (6, .int x6), (7, .int x7)]) hx hb dX12_comesBehind_10 hl (by decide) rfl (fun ls hl => ?_)
  refine lv_aload_n hx hb dX12_comesBehind_12 rfl (lv_at hl 1 rfl) ?_
  refine gmA hx hb hts inT12 hown hK hI List.not_mem_nil hG0 3 (by decide) (hts _ (tb_c wd_1236)) rfl rfl dX12_comesBehind_13 (fun a12 hq13 hf14 => ?_)
  obtain rfl := fr.uniq (by decide) hf_3 hf14
  refine lv_iload hx hb dX12_comesBehind_16 (lv_at hl 0 rfl) ?_
  refine lv_iload hx hb dX12_comesBehind_18 (lv_at hl 5 rfl) ?_
  refine th_iast hx hb hK hA_3 0 rfl hS ⟨_, hq_3⟩ (iv_in (X := v10.toInt) rfl (by omega) (by omega)) dX12_comesBehind_20 (fun H locs hA15 oq hS => ?_)
  have hP16 := kOk.set (i := v10) (v := x4) hkf (X := v10.toInt) (V := x4.toInt) rfl rfl (by omega) (by omega) (ks_boat0 (by omega) (by omega) (by omega) ⟨by omega, by omega⟩)
  have hI := th_I.put hI hq_3 hA15 (ok_m1 hP16) oq
  have hf_3 := fr.arr hG0 hq_3 (by decide) oq hf_3
  have e17 := rd_un (i := 310) (j := v10) (v := x4) e5 (X := (310)) (Y := v10.toInt) (by decide) rfl (by omega) (by omega) (by omega)
  have e18 : x4 = (upd f (v10 : Int32).toNatClampNeg x4) (v10 : Int32).toNatClampNeg := rd_us
  refine lv_iload_n hx hb dX12_comesBehind_21 rfl (lv_at hl 4 rfl) ?_
  refine lv_iconst (v := 1) hx hb dX12_comesBehind_22 (by decide) ?_
  refine lv_icmp_le (tgt := 37) hx hb dX12_comesBehind_23 (by decide) (fun c19 => ?_) (fun c19 => ?_)
  · skip
    have k20 := iv_le (X := (4)) (Y := (1)) (by decide) (by decide) c19
    exfalso; omega
  · skip
    have k21 := iv_nle (X := (4)) (Y := (1)) (by decide) (by decide) c19
    refine lv_aload_n hx hb dX12_comesBehind_26 rfl (lv_at hl 1 rfl) ?_
    refine gmA hx hb hts inT12 hown hK hI List.not_mem_nil hG0 3 (by decide) (hts _ (tb_c wd_1236)) rfl rfl dX12_comesBehind_27 (fun a22 hq23 hf24 => ?_)
    obtain rfl := fr.uniq (by decide) hf_3 hf24
    refine lv_iload hx hb dX12_comesBehind_30 (lv_at hl 0 rfl) ?_
    refine lv_iconst (v := 1) hx hb dX12_comesBehind_32 (by decide) ?_
    refine lv_iadd hx hb dX12_comesBehind_33 ?_
    refine lv_topi (fun v25 e26 => ?_)
    have tv25 : v25.toInt = v10.toInt + (1) := iv_add rfl (by decide) e26 (by omega) (by omega)
    refine lv_iload hx hb dX12_comesBehind_34 (lv_at hl 6 rfl) ?_
    refine th_iast hx hb hK hA15 0 rfl hS ⟨_, hq_3⟩ (iv_in (X := v25.toInt) rfl (by omega) (by omega)) dX12_comesBehind_36 (fun H locs hA27 oq hS => ?_)
    have hP28 := kOk.set (i := v25) (v := x5) hP16 (X := v25.toInt) (V := x5.toInt) rfl rfl (by omega) (by omega) (ks_boat1 (by omega) (by omega) (by omega) ⟨by omega, by omega⟩)
    have hI := th_I.put hI hq_3 hA27 (ok_m1 hP28) oq
    have hf_3 := fr.arr hG0 hq_3 (by decide) oq hf_3
    have e29 := rd_un (i := 310) (j := v25) (v := x5) e17 (X := (310)) (Y := v25.toInt) (by decide) rfl (by omega) (by omega) (by omega)
    have e30 := rd_un (i := v10) (j := v25) (v := x5) e18 (X := v10.toInt) (Y := v25.toInt) rfl rfl (by omega) (by omega) (by omega)
    have e31 : x5 = (upd (upd f (v10 : Int32).toNatClampNeg x4) (v25 : Int32).toNatClampNeg x5) (v25 : Int32).toNatClampNeg := rd_us
    refine lv_iload_n hx hb dX12_comesBehind_37 rfl (lv_at hl 4 rfl) ?_
    refine lv_iconst (v := 2) hx hb dX12_comesBehind_38 (by decide) ?_
    refine lv_icmp_le (tgt := 53) hx hb dX12_comesBehind_39 (by decide) (fun c32 => ?_) (fun c32 => ?_)
    · skip
      have k33 := iv_le (X := (4)) (Y := (2)) (by decide) (by decide) c32
      exfalso; omega
    · skip
      have k34 := iv_nle (X := (4)) (Y := (2)) (by decide) (by decide) c32
      refine lv_aload_n hx hb dX12_comesBehind_42 rfl (lv_at hl 1 rfl) ?_
      refine gmA hx hb hts inT12 hown hK hI List.not_mem_nil hG0 3 (by decide) (hts _ (tb_c wd_1236)) rfl rfl dX12_comesBehind_43 (fun a35 hq36 hf37 => ?_)
      obtain rfl := fr.uniq (by decide) hf_3 hf37
      refine lv_iload hx hb dX12_comesBehind_46 (lv_at hl 0 rfl) ?_
      refine lv_iconst (v := 2) hx hb dX12_comesBehind_48 (by decide) ?_
      refine lv_iadd hx hb dX12_comesBehind_49 ?_
      refine lv_topi (fun v38 e39 => ?_)
      have tv38 : v38.toInt = v10.toInt + (2) := iv_add rfl (by decide) e39 (by omega) (by omega)
      refine lv_iload hx hb dX12_comesBehind_50 (lv_at hl 7 rfl) ?_
      refine th_iast hx hb hK hA27 0 rfl hS ⟨_, hq_3⟩ (iv_in (X := v38.toInt) rfl (by omega) (by omega)) dX12_comesBehind_52 (fun H locs hA40 oq hS => ?_)
      have k41 := iv_lo x6
      have k42 := iv_hi x6
      have hP43 := kOk.set (i := v38) (v := x6) hP28 (X := v38.toInt) (V := x6.toInt) rfl rfl (by omega) (by omega) (ks_boat2 (by omega) (by omega) (by omega))
      have hI := th_I.put hI hq_3 hA40 (ok_m1 hP43) oq
      have hf_3 := fr.arr hG0 hq_3 (by decide) oq hf_3
      have e44 := rd_un (i := 310) (j := v38) (v := x6) e29 (X := (310)) (Y := v38.toInt) (by decide) rfl (by omega) (by omega) (by omega)
      have e45 := rd_un (i := v10) (j := v38) (v := x6) e30 (X := v10.toInt) (Y := v38.toInt) rfl rfl (by omega) (by omega) (by omega)
      have e46 := rd_un (i := v25) (j := v38) (v := x6) e31 (X := v25.toInt) (Y := v38.toInt) rfl rfl (by omega) (by omega) (by omega)
      have e47 : x6 = (upd (upd (upd f (v10 : Int32).toNatClampNeg x4) (v25 : Int32).toNatClampNeg x5) (v38 : Int32).toNatClampNeg x6) (v38 : Int32).toNatClampNeg := rd_us
      refine lv_iload_n hx hb dX12_comesBehind_53 rfl (lv_at hl 4 rfl) ?_
      refine lv_iconst (v := 3) hx hb dX12_comesBehind_54 (by decide) ?_
      refine lv_icmp_le (tgt := 69) hx hb dX12_comesBehind_55 (by decide) (fun c48 => ?_) (fun c48 => ?_)
      · skip
        have k49 := iv_le (X := (4)) (Y := (3)) (by decide) (by decide) c48
        exfalso; omega
      · skip
        have k50 := iv_nle (X := (4)) (Y := (3)) (by decide) (by decide) c48
        refine lv_aload_n hx hb dX12_comesBehind_58 rfl (lv_at hl 1 rfl) ?_
        refine gmA hx hb hts inT12 hown hK hI List.not_mem_nil hG0 3 (by decide) (hts _ (tb_c wd_1236)) rfl rfl dX12_comesBehind_59 (fun a51 hq52 hf53 => ?_)
        obtain rfl := fr.uniq (by decide) hf_3 hf53
        refine lv_iload hx hb dX12_comesBehind_62 (lv_at hl 0 rfl) ?_
        refine lv_iconst (v := 3) hx hb dX12_comesBehind_64 (by decide) ?_
        refine lv_iadd hx hb dX12_comesBehind_65 ?_
        refine lv_topi (fun v54 e55 => ?_)
        have tv54 : v54.toInt = v10.toInt + (3) := iv_add rfl (by decide) e55 (by omega) (by omega)
        refine lv_iload hx hb dX12_comesBehind_66 (lv_at hl 8 rfl) ?_
        refine th_iast hx hb hK hA40 0 rfl hS ⟨_, hq_3⟩ (iv_in (X := v54.toInt) rfl (by omega) (by omega)) dX12_comesBehind_68 (fun H locs hA56 oq hS => ?_)
        have k57 := iv_lo x7
        have k58 := iv_hi x7
        have hP59 := kOk.set (i := v54) (v := x7) hP43 (X := v54.toInt) (V := x7.toInt) rfl rfl (by omega) (by omega) (ks_boat3 (by omega) (by omega) (by omega))
        have hI := th_I.put hI hq_3 hA56 (ok_m1 hP59) oq
        have hf_3 := fr.arr hG0 hq_3 (by decide) oq hf_3
        have e60 := rd_un (i := 310) (j := v54) (v := x7) e44 (X := (310)) (Y := v54.toInt) (by decide) rfl (by omega) (by omega) (by omega)
        have e61 := rd_un (i := v10) (j := v54) (v := x7) e45 (X := v10.toInt) (Y := v54.toInt) rfl rfl (by omega) (by omega) (by omega)
        have e62 := rd_un (i := v25) (j := v54) (v := x7) e46 (X := v25.toInt) (Y := v54.toInt) rfl rfl (by omega) (by omega) (by omega)
        have e63 := rd_un (i := v38) (j := v54) (v := x7) e47 (X := v38.toInt) (Y := v54.toInt) rfl rfl (by omega) (by omega) (by omega)
        have e64 : x7 = (upd (upd (upd (upd f (v10 : Int32).toNatClampNeg x4) (v25 : Int32).toNatClampNeg x5) (v38 : Int32).toNatClampNeg x6) (v54 : Int32).toNatClampNeg x7) (v54 : Int32).toNatClampNeg := rd_us
        refine lv_aload_n hx hb dX12_comesBehind_69 rfl (lv_at hl 1 rfl) ?_
        refine gmA hx hb hts inT12 hown hK hI List.not_mem_nil hG0 3 (by decide) (hts _ (tb_c wd_1236)) rfl rfl dX12_comesBehind_70 (fun a65 hq66 hf67 => ?_)
        obtain rfl := fr.uniq (by decide) hf_3 hf67
        refine lv_iload_n hx hb dX12_comesBehind_73 rfl (lv_at hl 3 rfl) ?_
        refine lv_dup2_11 hx hb dX12_comesBehind_74 rfl rfl ?_
        refine th_iald hx hb hK hA56 0 rfl (iv_in (X := (310)) (by decide) (by omega) (by omega)) dX12_comesBehind_75 (fun v68 e69 => ?_)
        obtain rfl := (rd_same (i := 310) (j := 310) e60 e69 (X := (310)) (Y := (310)) (by decide) (by decide) (by omega)).symm
        refine lv_iconst (v := 1) hx hb dX12_comesBehind_76 (by decide) ?_
        refine lv_iadd hx hb dX12_comesBehind_77 ?_
        refine lv_topi (fun v70 e71 => ?_)
        have tv70 : v70.toInt = v4.toInt + (1) := iv_add rfl (by decide) e71 (by omega) (by omega)
        refine th_iast hx hb hK hA56 0 rfl hS ⟨_, hq_3⟩ (iv_in (X := (310)) (by decide) (by omega) (by omega)) dX12_comesBehind_78 (fun H locs hA72 oq hS => ?_)
        have hP73 := kOk.set (i := 310) (v := v70) hP59 (X := (310)) (V := v70.toInt) (by decide) rfl (by omega) (by omega) (ks_m310 (by omega) (by omega) (by omega) ⟨by omega, by omega⟩)
        have hI := th_I.put hI hq_3 hA72 (ok_m1 hP73) oq
        have hf_3 := fr.arr hG0 hq_3 (by decide) oq hf_3
        have e74 := rd_un (i := v10) (j := 310) (v := v70) e61 (X := v10.toInt) (Y := (310)) rfl (by decide) (by omega) (by omega) (by omega)
        have e75 := rd_un (i := v25) (j := 310) (v := v70) e62 (X := v25.toInt) (Y := (310)) rfl (by decide) (by omega) (by omega) (by omega)
        have e76 := rd_un (i := v38) (j := 310) (v := v70) e63 (X := v38.toInt) (Y := (310)) rfl (by decide) (by omega) (by omega) (by omega)
        have e77 := rd_un (i := v54) (j := 310) (v := v70) e64 (X := v54.toInt) (Y := (310)) rfl (by decide) (by omega) (by omega) (by omega)
        have e78 : v70 = (upd (upd (upd (upd (upd f (v10 : Int32).toNatClampNeg x4) (v25 : Int32).toNatClampNeg x5) (v38 : Int32).toNatClampNeg x6) (v54 : Int32).toNatClampNeg x7) (310 : Int32).toNatClampNeg v70) (310 : Int32).toNatClampNeg := rd_us
        refine lv_aload_n hx hb dX12_comesBehind_79 rfl (lv_at hl 1 rfl) ?_
        refine gmA hx hb hts inT12 hown hK hI List.not_mem_nil hG0 3 (by decide) (hts _ (tb_c wd_1236)) rfl rfl dX12_comesBehind_80 (fun a79 hq80 hf81 => ?_)
        obtain rfl := fr.uniq (by decide) hf_3 hf81
        refine lv_iload_n hx hb dX12_comesBehind_83 rfl (lv_at hl 3 rfl) ?_
        refine th_iald hx hb hK hA72 0 rfl (iv_in (X := (310)) (by decide) (by omega) (by omega)) dX12_comesBehind_84 (fun v82 e83 => ?_)
        obtain rfl := (rd_same (i := 310) (j := 310) e78 e83 (X := (310)) (Y := (310)) (by decide) (by decide) (by omega)).symm
        have hpost : True := trivial
        rw [hQ]
        exact W.iret (v := v70) hx hb hr (fun t ht hW => ⟨⟨v70, v70, rfl, rfl, ⟨by rw [ht]; exact hI, hN.warm hW, va_K.moved hW.alike hK⟩, by first | (rw [ht]; exact hpost) | exact hpost⟩, hS.F ht⟩) hS.2.2 dX12_comesBehind_85
set_option maxHeartbeats 4000000 in
set_option maxRecDepth 100000 in
theorem c_X12_comesBehind_311 (l : Launch) (E : Nat → Nat) (D : va_G) (G : th_G) (h0 : Nat) (hG0 : G h0 = some (10, 0)) (x4 : Int32) (x5 : Int32) (x6 : Int32) (x7 : Int32) (hx4 : (0 : Int) ≤ x4.toInt ∧ x4.toInt ≤ 23) (hx5 : (0 : Int) ≤ x5.toInt ∧ x5.toInt ≤ 95) (f : Nat → Int32) (hkf : kOk (E 10) f) (hlt : (f 311).toInt < 16) : Met l yX12_comesBehind (tb (.code yX12_comesBehind cX12_comesBehind 9 (some .int))) (rm 0) (va_Pc [.ref h0, .int 160, .int 311, .int 4, .int x4, .int x5, .int x6, .int x7] (PX E D G (fun H => ga E D G h0 3 (1, 5123) f H))) (QXi E D G (fun r H => True)) 0 0 (th_A G) := by
  refine Met.ofW (cc := cX12_comesBehind) (maxL := 9) (ret := (some .int)) (by decide) rfl ?_
  intro p e s m args below meth c s₁ B hml hv
  obtain ⟨hav, ⟨hI, hN, hK⟩, hX⟩ := hv
  have hx := B.exec
  have hb := B.bytes
  have hr := B.returns
  have hts := atoms_spec (ws := tb (.code yX12_comesBehind cX12_comesBehind 9 (some .int))) B.pre
  have hown : s.vm.findClass RX12 = some m.cls := findClass_of_methodNamed B.named
  have hlocks := B.notSynchronized
  have hS : va_S (th_A G) s.heap s.heap [] := va_S.rf
  have hl := lv_entry ([.ref h0, .int 160, .int 311, .int 4, .int x4, .int x5, .int x6, .int x7]) (n := 9) (Nat.le_of_ble_eq_true rfl)
  rw [show entryFrame m args 9 = entryFrame m ([.ref h0, .int 160, .int 311, .int 4, .int x4, .int x5, .int x6, .int x7] : List Value).toArray 9 from by rw [hav], lg_entry_eq]
  generalize (lg_sl ([.ref h0, .int 160, .int 311, .int 4, .int x4, .int x5, .int x6, .int x7]) ++ List.replicate (9 - (lg_sl ([.ref h0, .int 160, .int 311, .int 4, .int x4, .int x5, .int x6, .int x7])).length) Slot.unset).toArray = ls at hl ⊢
  have hl : lv_has ls 9 [(0, .ref h0), (1, .int 160), (2, .int 311), (3, .int 4), (4, .int x4), (5, .int x5), (6, .int x6), (7, .int x7)] := hl
  generalize hR : (headSpec (tb (.code yX12_comesBehind cX12_comesBehind 9 (some .int))) (rm 0)).room = R
  have hR := hR.symm
  generalize hQ : MQ below (QXi E D G (fun r H => True)) args s 0 0 (th_A G) = QF
  have hQ := hQ.symm
  obtain ⟨q_3, hf_3, hq_3, hA_3⟩ := hX
  refine lv_iload_n hx hb dX12_comesBehind_0 rfl (lv_at hl 1 rfl) ?_
  refine lv_iload_n hx hb dX12_comesBehind_1 rfl (lv_at hl 3 rfl) ?_
  refine lv_aload_n hx hb dX12_comesBehind_2 rfl (lv_at hl 0 rfl) ?_
  refine gmA hx hb hts inT12 hown hK hI List.not_mem_nil hG0 3 (by decide) (hts _ (tb_c wd_1236)) rfl rfl dX12_comesBehind_3 (fun a1 hq2 hf3 => ?_)
  obtain rfl := fr.uniq (by decide) hf_3 hf3
  refine lv_iload_n hx hb dX12_comesBehind_6 rfl (lv_at hl 2 rfl) ?_
  refine th_iald hx hb hK hA_3 0 rfl (iv_in (X := (311)) (by decide) (by omega) (by omega)) dX12_comesBehind_7 (fun v4 e5 => ?_)
  have k6 := kg_m311 (kOk.get (i := 311) hkf e5 (X := (311)) (by decide) (by omega) (by omega)) (by omega) (by omega) (by omega)
  have k7 : v4.toInt < 16 := by rw [e5]; exact hlt
  refine lv_imul hx hb dX12_comesBehind_8 ?_
  refine lv_topi (fun v8 e9 => ?_)
  have tv8 : v8.toInt = (4) * v4.toInt := iv_mul (by decide) rfl e9 (by omega) (by omega)
  refine lv_iadd hx hb dX12_comesBehind_9 ?_
  refine lv_topi (fun v10 e11 => ?_)
  have tv10 : v10.toInt = (160) + v8.toInt := iv_add (by decide) rfl e11 (by omega) (by omega)
  refine lv_istore (lv' := [(8, .int v10), (0, .ref h0), (1, .int 160), (2, .int 311), (3, .int 4), (4, .int x4), (5, .int x5), (6, .int x6), (7, .int x7)]) hx hb dX12_comesBehind_10 hl (by decide) rfl (fun ls hl => ?_)
  refine lv_aload_n hx hb dX12_comesBehind_12 rfl (lv_at hl 1 rfl) ?_
  refine gmA hx hb hts inT12 hown hK hI List.not_mem_nil hG0 3 (by decide) (hts _ (tb_c wd_1236)) rfl rfl dX12_comesBehind_13 (fun a12 hq13 hf14 => ?_)
  obtain rfl := fr.uniq (by decide) hf_3 hf14
  refine lv_iload hx hb dX12_comesBehind_16 (lv_at hl 0 rfl) ?_
  refine lv_iload hx hb dX12_comesBehind_18 (lv_at hl 5 rfl) ?_
  refine th_iast hx hb hK hA_3 0 rfl hS ⟨_, hq_3⟩ (iv_in (X := v10.toInt) rfl (by omega) (by omega)) dX12_comesBehind_20 (fun H locs hA15 oq hS => ?_)
  have hP16 := kOk.set (i := v10) (v := x4) hkf (X := v10.toInt) (V := x4.toInt) rfl rfl (by omega) (by omega) (ks_pour0 (by omega) (by omega) (by omega) ⟨by omega, by omega⟩)
  have hI := th_I.put hI hq_3 hA15 (ok_m1 hP16) oq
  have hf_3 := fr.arr hG0 hq_3 (by decide) oq hf_3
  have e17 := rd_un (i := 311) (j := v10) (v := x4) e5 (X := (311)) (Y := v10.toInt) (by decide) rfl (by omega) (by omega) (by omega)
  have e18 : x4 = (upd f (v10 : Int32).toNatClampNeg x4) (v10 : Int32).toNatClampNeg := rd_us
  refine lv_iload_n hx hb dX12_comesBehind_21 rfl (lv_at hl 4 rfl) ?_
  refine lv_iconst (v := 1) hx hb dX12_comesBehind_22 (by decide) ?_
  refine lv_icmp_le (tgt := 37) hx hb dX12_comesBehind_23 (by decide) (fun c19 => ?_) (fun c19 => ?_)
  · skip
    have k20 := iv_le (X := (4)) (Y := (1)) (by decide) (by decide) c19
    exfalso; omega
  · skip
    have k21 := iv_nle (X := (4)) (Y := (1)) (by decide) (by decide) c19
    refine lv_aload_n hx hb dX12_comesBehind_26 rfl (lv_at hl 1 rfl) ?_
    refine gmA hx hb hts inT12 hown hK hI List.not_mem_nil hG0 3 (by decide) (hts _ (tb_c wd_1236)) rfl rfl dX12_comesBehind_27 (fun a22 hq23 hf24 => ?_)
    obtain rfl := fr.uniq (by decide) hf_3 hf24
    refine lv_iload hx hb dX12_comesBehind_30 (lv_at hl 0 rfl) ?_
    refine lv_iconst (v := 1) hx hb dX12_comesBehind_32 (by decide) ?_
    refine lv_iadd hx hb dX12_comesBehind_33 ?_
    refine lv_topi (fun v25 e26 => ?_)
    have tv25 : v25.toInt = v10.toInt + (1) := iv_add rfl (by decide) e26 (by omega) (by omega)
    refine lv_iload hx hb dX12_comesBehind_34 (lv_at hl 6 rfl) ?_
    refine th_iast hx hb hK hA15 0 rfl hS ⟨_, hq_3⟩ (iv_in (X := v25.toInt) rfl (by omega) (by omega)) dX12_comesBehind_36 (fun H locs hA27 oq hS => ?_)
    have hP28 := kOk.set (i := v25) (v := x5) hP16 (X := v25.toInt) (V := x5.toInt) rfl rfl (by omega) (by omega) (ks_pour1 (by omega) (by omega) (by omega) ⟨by omega, by omega⟩)
    have hI := th_I.put hI hq_3 hA27 (ok_m1 hP28) oq
    have hf_3 := fr.arr hG0 hq_3 (by decide) oq hf_3
    have e29 := rd_un (i := 311) (j := v25) (v := x5) e17 (X := (311)) (Y := v25.toInt) (by decide) rfl (by omega) (by omega) (by omega)
    have e30 := rd_un (i := v10) (j := v25) (v := x5) e18 (X := v10.toInt) (Y := v25.toInt) rfl rfl (by omega) (by omega) (by omega)
    have e31 : x5 = (upd (upd f (v10 : Int32).toNatClampNeg x4) (v25 : Int32).toNatClampNeg x5) (v25 : Int32).toNatClampNeg := rd_us
    refine lv_iload_n hx hb dX12_comesBehind_37 rfl (lv_at hl 4 rfl) ?_
    refine lv_iconst (v := 2) hx hb dX12_comesBehind_38 (by decide) ?_
    refine lv_icmp_le (tgt := 53) hx hb dX12_comesBehind_39 (by decide) (fun c32 => ?_) (fun c32 => ?_)
    · skip
      have k33 := iv_le (X := (4)) (Y := (2)) (by decide) (by decide) c32
      exfalso; omega
    · skip
      have k34 := iv_nle (X := (4)) (Y := (2)) (by decide) (by decide) c32
      refine lv_aload_n hx hb dX12_comesBehind_42 rfl (lv_at hl 1 rfl) ?_
      refine gmA hx hb hts inT12 hown hK hI List.not_mem_nil hG0 3 (by decide) (hts _ (tb_c wd_1236)) rfl rfl dX12_comesBehind_43 (fun a35 hq36 hf37 => ?_)
      obtain rfl := fr.uniq (by decide) hf_3 hf37
      refine lv_iload hx hb dX12_comesBehind_46 (lv_at hl 0 rfl) ?_
      refine lv_iconst (v := 2) hx hb dX12_comesBehind_48 (by decide) ?_
      refine lv_iadd hx hb dX12_comesBehind_49 ?_
      refine lv_topi (fun v38 e39 => ?_)
      have tv38 : v38.toInt = v10.toInt + (2) := iv_add rfl (by decide) e39 (by omega) (by omega)
      refine lv_iload hx hb dX12_comesBehind_50 (lv_at hl 7 rfl) ?_
      refine th_iast hx hb hK hA27 0 rfl hS ⟨_, hq_3⟩ (iv_in (X := v38.toInt) rfl (by omega) (by omega)) dX12_comesBehind_52 (fun H locs hA40 oq hS => ?_)
      have k41 := iv_lo x6
      have k42 := iv_hi x6
      have hP43 := kOk.set (i := v38) (v := x6) hP28 (X := v38.toInt) (V := x6.toInt) rfl rfl (by omega) (by omega) (ks_pour2 (by omega) (by omega) (by omega))
      have hI := th_I.put hI hq_3 hA40 (ok_m1 hP43) oq
      have hf_3 := fr.arr hG0 hq_3 (by decide) oq hf_3
      have e44 := rd_un (i := 311) (j := v38) (v := x6) e29 (X := (311)) (Y := v38.toInt) (by decide) rfl (by omega) (by omega) (by omega)
      have e45 := rd_un (i := v10) (j := v38) (v := x6) e30 (X := v10.toInt) (Y := v38.toInt) rfl rfl (by omega) (by omega) (by omega)
      have e46 := rd_un (i := v25) (j := v38) (v := x6) e31 (X := v25.toInt) (Y := v38.toInt) rfl rfl (by omega) (by omega) (by omega)
      have e47 : x6 = (upd (upd (upd f (v10 : Int32).toNatClampNeg x4) (v25 : Int32).toNatClampNeg x5) (v38 : Int32).toNatClampNeg x6) (v38 : Int32).toNatClampNeg := rd_us
      refine lv_iload_n hx hb dX12_comesBehind_53 rfl (lv_at hl 4 rfl) ?_
      refine lv_iconst (v := 3) hx hb dX12_comesBehind_54 (by decide) ?_
      refine lv_icmp_le (tgt := 69) hx hb dX12_comesBehind_55 (by decide) (fun c48 => ?_) (fun c48 => ?_)
      · skip
        have k49 := iv_le (X := (4)) (Y := (3)) (by decide) (by decide) c48
        exfalso; omega
      · skip
        have k50 := iv_nle (X := (4)) (Y := (3)) (by decide) (by decide) c48
        refine lv_aload_n hx hb dX12_comesBehind_58 rfl (lv_at hl 1 rfl) ?_
        refine gmA hx hb hts inT12 hown hK hI List.not_mem_nil hG0 3 (by decide) (hts _ (tb_c wd_1236)) rfl rfl dX12_comesBehind_59 (fun a51 hq52 hf53 => ?_)
        obtain rfl := fr.uniq (by decide) hf_3 hf53
        refine lv_iload hx hb dX12_comesBehind_62 (lv_at hl 0 rfl) ?_
        refine lv_iconst (v := 3) hx hb dX12_comesBehind_64 (by decide) ?_
        refine lv_iadd hx hb dX12_comesBehind_65 ?_
        refine lv_topi (fun v54 e55 => ?_)
        have tv54 : v54.toInt = v10.toInt + (3) := iv_add rfl (by decide) e55 (by omega) (by omega)
        refine lv_iload hx hb dX12_comesBehind_66 (lv_at hl 8 rfl) ?_
        refine th_iast hx hb hK hA40 0 rfl hS ⟨_, hq_3⟩ (iv_in (X := v54.toInt) rfl (by omega) (by omega)) dX12_comesBehind_68 (fun H locs hA56 oq hS => ?_)
        have k57 := iv_lo x7
        have k58 := iv_hi x7
        have hP59 := kOk.set (i := v54) (v := x7) hP43 (X := v54.toInt) (V := x7.toInt) rfl rfl (by omega) (by omega) (ks_pour3 (by omega) (by omega) (by omega))
        have hI := th_I.put hI hq_3 hA56 (ok_m1 hP59) oq
        have hf_3 := fr.arr hG0 hq_3 (by decide) oq hf_3
        have e60 := rd_un (i := 311) (j := v54) (v := x7) e44 (X := (311)) (Y := v54.toInt) (by decide) rfl (by omega) (by omega) (by omega)
        have e61 := rd_un (i := v10) (j := v54) (v := x7) e45 (X := v10.toInt) (Y := v54.toInt) rfl rfl (by omega) (by omega) (by omega)
        have e62 := rd_un (i := v25) (j := v54) (v := x7) e46 (X := v25.toInt) (Y := v54.toInt) rfl rfl (by omega) (by omega) (by omega)
        have e63 := rd_un (i := v38) (j := v54) (v := x7) e47 (X := v38.toInt) (Y := v54.toInt) rfl rfl (by omega) (by omega) (by omega)
        have e64 : x7 = (upd (upd (upd (upd f (v10 : Int32).toNatClampNeg x4) (v25 : Int32).toNatClampNeg x5) (v38 : Int32).toNatClampNeg x6) (v54 : Int32).toNatClampNeg x7) (v54 : Int32).toNatClampNeg := rd_us
        refine lv_aload_n hx hb dX12_comesBehind_69 rfl (lv_at hl 1 rfl) ?_
        refine gmA hx hb hts inT12 hown hK hI List.not_mem_nil hG0 3 (by decide) (hts _ (tb_c wd_1236)) rfl rfl dX12_comesBehind_70 (fun a65 hq66 hf67 => ?_)
        obtain rfl := fr.uniq (by decide) hf_3 hf67
        refine lv_iload_n hx hb dX12_comesBehind_73 rfl (lv_at hl 3 rfl) ?_
        refine lv_dup2_11 hx hb dX12_comesBehind_74 rfl rfl ?_
        refine th_iald hx hb hK hA56 0 rfl (iv_in (X := (311)) (by decide) (by omega) (by omega)) dX12_comesBehind_75 (fun v68 e69 => ?_)
        obtain rfl := (rd_same (i := 311) (j := 311) e60 e69 (X := (311)) (Y := (311)) (by decide) (by decide) (by omega)).symm
        refine lv_iconst (v := 1) hx hb dX12_comesBehind_76 (by decide) ?_
        refine lv_iadd hx hb dX12_comesBehind_77 ?_
        refine lv_topi (fun v70 e71 => ?_)
        have tv70 : v70.toInt = v4.toInt + (1) := iv_add rfl (by decide) e71 (by omega) (by omega)
        refine th_iast hx hb hK hA56 0 rfl hS ⟨_, hq_3⟩ (iv_in (X := (311)) (by decide) (by omega) (by omega)) dX12_comesBehind_78 (fun H locs hA72 oq hS => ?_)
        have hP73 := kOk.set (i := 311) (v := v70) hP59 (X := (311)) (V := v70.toInt) (by decide) rfl (by omega) (by omega) (ks_m311 (by omega) (by omega) (by omega) ⟨by omega, by omega⟩)
        have hI := th_I.put hI hq_3 hA72 (ok_m1 hP73) oq
        have hf_3 := fr.arr hG0 hq_3 (by decide) oq hf_3
        have e74 := rd_un (i := v10) (j := 311) (v := v70) e61 (X := v10.toInt) (Y := (311)) rfl (by decide) (by omega) (by omega) (by omega)
        have e75 := rd_un (i := v25) (j := 311) (v := v70) e62 (X := v25.toInt) (Y := (311)) rfl (by decide) (by omega) (by omega) (by omega)
        have e76 := rd_un (i := v38) (j := 311) (v := v70) e63 (X := v38.toInt) (Y := (311)) rfl (by decide) (by omega) (by omega) (by omega)
        have e77 := rd_un (i := v54) (j := 311) (v := v70) e64 (X := v54.toInt) (Y := (311)) rfl (by decide) (by omega) (by omega) (by omega)
        have e78 : v70 = (upd (upd (upd (upd (upd f (v10 : Int32).toNatClampNeg x4) (v25 : Int32).toNatClampNeg x5) (v38 : Int32).toNatClampNeg x6) (v54 : Int32).toNatClampNeg x7) (311 : Int32).toNatClampNeg v70) (311 : Int32).toNatClampNeg := rd_us
        refine lv_aload_n hx hb dX12_comesBehind_79 rfl (lv_at hl 1 rfl) ?_
        refine gmA hx hb hts inT12 hown hK hI List.not_mem_nil hG0 3 (by decide) (hts _ (tb_c wd_1236)) rfl rfl dX12_comesBehind_80 (fun a79 hq80 hf81 => ?_)
        obtain rfl := fr.uniq (by decide) hf_3 hf81
        refine lv_iload_n hx hb dX12_comesBehind_83 rfl (lv_at hl 3 rfl) ?_
        refine th_iald hx hb hK hA72 0 rfl (iv_in (X := (311)) (by decide) (by omega) (by omega)) dX12_comesBehind_84 (fun v82 e83 => ?_)
        obtain rfl := (rd_same (i := 311) (j := 311) e78 e83 (X := (311)) (Y := (311)) (by decide) (by decide) (by omega)).symm
        have hpost : True := trivial
        rw [hQ]
        exact W.iret (v := v70) hx hb hr (fun t ht hW => ⟨⟨v70, v70, rfl, rfl, ⟨by rw [ht]; exact hI, hN.warm hW, va_K.moved hW.alike hK⟩, by first | (rw [ht]; exact hpost) | exact hpost⟩, hS.F ht⟩) hS.2.2 dX12_comesBehind_85
set_option maxHeartbeats 4000000 in
set_option maxRecDepth 100000 in
theorem c_X12_comesBehind_312 (l : Launch) (Eo : Nat → Nat) (D : va_G) (G : th_G) (h0 : Nat) (hG0 : G h0 = some (10, 0)) (x4 : Int32) (x5 : Int32) (x6 : Int32) (x7 : Int32) (hx5 : (0 : Int) ≤ x5.toInt ∧ x5.toInt ≤ 96) (f : Nat → Int32) (hkf : kOk (Eo 10) f) (hlt : (f 312).toInt < 10) (hU1 : UQ G 1) : Met l yX12_comesBehind (tb (.code yX12_comesBehind cX12_comesBehind 9 (some .int))) (rm 0) (va_Pc [.ref h0, .int 224, .int 312, .int 4, .int x4, .int x5, .int x6, .int x7] (PX Eo D G (fun H => ga Eo D G h0 3 (1, 5123) f H))) (QXi (eu Eo 10 (Eo 10 + 1)) D G (fun r H => (r : Int32).toInt = ((Eo 10 : Nat) : Int) + 1)) 0 0 (th_A G) := by
  refine Met.ofW (cc := cX12_comesBehind) (maxL := 9) (ret := (some .int)) (by decide) rfl ?_
  intro p e s m args below meth c s₁ B hml hv
  obtain ⟨hav, ⟨hI, hN, hK⟩, hX⟩ := hv
  have hx := B.exec
  have hb := B.bytes
  have hr := B.returns
  have hts := atoms_spec (ws := tb (.code yX12_comesBehind cX12_comesBehind 9 (some .int))) B.pre
  have hown : s.vm.findClass RX12 = some m.cls := findClass_of_methodNamed B.named
  have hlocks := B.notSynchronized
  have hS : va_S (th_A G) s.heap s.heap [] := va_S.rf
  have hl := lv_entry ([.ref h0, .int 224, .int 312, .int 4, .int x4, .int x5, .int x6, .int x7]) (n := 9) (Nat.le_of_ble_eq_true rfl)
  rw [show entryFrame m args 9 = entryFrame m ([.ref h0, .int 224, .int 312, .int 4, .int x4, .int x5, .int x6, .int x7] : List Value).toArray 9 from by rw [hav], lg_entry_eq]
  generalize (lg_sl ([.ref h0, .int 224, .int 312, .int 4, .int x4, .int x5, .int x6, .int x7]) ++ List.replicate (9 - (lg_sl ([.ref h0, .int 224, .int 312, .int 4, .int x4, .int x5, .int x6, .int x7])).length) Slot.unset).toArray = ls at hl ⊢
  obtain ⟨E, hEe⟩ : ∃ x : Nat → Nat, x = eu Eo 10 (Eo 10 + 1) := ⟨_, rfl⟩
  have hl : lv_has ls 9 [(0, .ref h0), (1, .int 224), (2, .int 312), (3, .int 4), (4, .int x4), (5, .int x5), (6, .int x6), (7, .int x7)] := hl
  generalize hR : (headSpec (tb (.code yX12_comesBehind cX12_comesBehind 9 (some .int))) (rm 0)).room = R
  have hR := hR.symm
  generalize hQ : MQ below (QXi (eu Eo 10 (Eo 10 + 1)) D G (fun r H => (r : Int32).toInt = ((Eo 10 : Nat) : Int) + 1)) args s 0 0 (th_A G) = QF
  have hQ := hQ.symm
  obtain ⟨q_3, hf_3, hq_3, hA_3⟩ := hX
  refine lv_iload_n hx hb dX12_comesBehind_0 rfl (lv_at hl 1 rfl) ?_
  refine lv_iload_n hx hb dX12_comesBehind_1 rfl (lv_at hl 3 rfl) ?_
  refine lv_aload_n hx hb dX12_comesBehind_2 rfl (lv_at hl 0 rfl) ?_
  refine gmA hx hb hts inT12 hown hK hI List.not_mem_nil hG0 3 (by decide) (hts _ (tb_c wd_1236)) rfl rfl dX12_comesBehind_3 (fun a1 hq2 hf3 => ?_)
  obtain rfl := fr.uniq (by decide) hf_3 hf3
  refine lv_iload_n hx hb dX12_comesBehind_6 rfl (lv_at hl 2 rfl) ?_
  refine th_iald hx hb hK hA_3 0 rfl (iv_in (X := (312)) (by decide) (by omega) (by omega)) dX12_comesBehind_7 (fun v4 e5 => ?_)
  have k6 := kg_m312 (kOk.get (i := 312) hkf e5 (X := (312)) (by decide) (by omega) (by omega)) (by omega) (by omega) (by omega)
  have k7 : v4.toInt < 10 := by rw [e5]; exact hlt
  refine lv_imul hx hb dX12_comesBehind_8 ?_
  refine lv_topi (fun v8 e9 => ?_)
  have tv8 : v8.toInt = (4) * v4.toInt := iv_mul (by decide) rfl e9 (by omega) (by omega)
  refine lv_iadd hx hb dX12_comesBehind_9 ?_
  refine lv_topi (fun v10 e11 => ?_)
  have tv10 : v10.toInt = (224) + v8.toInt := iv_add (by decide) rfl e11 (by omega) (by omega)
  refine lv_istore (lv' := [(8, .int v10), (0, .ref h0), (1, .int 224), (2, .int 312), (3, .int 4), (4, .int x4), (5, .int x5), (6, .int x6), (7, .int x7)]) hx hb dX12_comesBehind_10 hl (by decide) rfl (fun ls hl => ?_)
  refine lv_aload_n hx hb dX12_comesBehind_12 rfl (lv_at hl 1 rfl) ?_
  refine gmA hx hb hts inT12 hown hK hI List.not_mem_nil hG0 3 (by decide) (hts _ (tb_c wd_1236)) rfl rfl dX12_comesBehind_13 (fun a12 hq13 hf14 => ?_)
  obtain rfl := fr.uniq (by decide) hf_3 hf14
  refine lv_iload hx hb dX12_comesBehind_16 (lv_at hl 0 rfl) ?_
  refine lv_iload hx hb dX12_comesBehind_18 (lv_at hl 5 rfl) ?_
  refine th_iast hx hb hK hA_3 0 rfl hS ⟨_, hq_3⟩ (iv_in (X := v10.toInt) rfl (by omega) (by omega)) dX12_comesBehind_20 (fun H locs hA15 oq hS => ?_)
  have k16 := iv_lo x4
  have k17 := iv_hi x4
  have hP18 := kOk.set (i := v10) (v := x4) hkf (X := v10.toInt) (V := x4.toInt) rfl rfl (by omega) (by omega) (ks_sight0 (by omega) (by omega) (by omega))
  have hI := th_I.put hI hq_3 hA15 (ok_m1 hP18) oq
  have hf_3 := fr.arr hG0 hq_3 (by decide) oq hf_3
  have e19 := rd_un (i := 312) (j := v10) (v := x4) e5 (X := (312)) (Y := v10.toInt) (by decide) rfl (by omega) (by omega) (by omega)
  have e20 : x4 = (upd f (v10 : Int32).toNatClampNeg x4) (v10 : Int32).toNatClampNeg := rd_us
  refine lv_iload_n hx hb dX12_comesBehind_21 rfl (lv_at hl 4 rfl) ?_
  refine lv_iconst (v := 1) hx hb dX12_comesBehind_22 (by decide) ?_
  refine lv_icmp_le (tgt := 37) hx hb dX12_comesBehind_23 (by decide) (fun c21 => ?_) (fun c21 => ?_)
  · skip
    have k22 := iv_le (X := (4)) (Y := (1)) (by decide) (by decide) c21
    exfalso; omega
  · skip
    have k23 := iv_nle (X := (4)) (Y := (1)) (by decide) (by decide) c21
    refine lv_aload_n hx hb dX12_comesBehind_26 rfl (lv_at hl 1 rfl) ?_
    refine gmA hx hb hts inT12 hown hK hI List.not_mem_nil hG0 3 (by decide) (hts _ (tb_c wd_1236)) rfl rfl dX12_comesBehind_27 (fun a24 hq25 hf26 => ?_)
    obtain rfl := fr.uniq (by decide) hf_3 hf26
    refine lv_iload hx hb dX12_comesBehind_30 (lv_at hl 0 rfl) ?_
    refine lv_iconst (v := 1) hx hb dX12_comesBehind_32 (by decide) ?_
    refine lv_iadd hx hb dX12_comesBehind_33 ?_
    refine lv_topi (fun v27 e28 => ?_)
    have tv27 : v27.toInt = v10.toInt + (1) := iv_add rfl (by decide) e28 (by omega) (by omega)
    refine lv_iload hx hb dX12_comesBehind_34 (lv_at hl 6 rfl) ?_
    refine th_iast hx hb hK hA15 0 rfl hS ⟨_, hq_3⟩ (iv_in (X := v27.toInt) rfl (by omega) (by omega)) dX12_comesBehind_36 (fun H locs hA29 oq hS => ?_)
    have hP30 := kOk.set (i := v27) (v := x5) hP18 (X := v27.toInt) (V := x5.toInt) rfl rfl (by omega) (by omega) (ks_sight1 (by omega) (by omega) (by omega) ⟨by omega, by omega⟩)
    have hI := th_I.put hI hq_3 hA29 (ok_m1 hP30) oq
    have hf_3 := fr.arr hG0 hq_3 (by decide) oq hf_3
    have e31 := rd_un (i := 312) (j := v27) (v := x5) e19 (X := (312)) (Y := v27.toInt) (by decide) rfl (by omega) (by omega) (by omega)
    have e32 := rd_un (i := v10) (j := v27) (v := x5) e20 (X := v10.toInt) (Y := v27.toInt) rfl rfl (by omega) (by omega) (by omega)
    have e33 : x5 = (upd (upd f (v10 : Int32).toNatClampNeg x4) (v27 : Int32).toNatClampNeg x5) (v27 : Int32).toNatClampNeg := rd_us
    refine lv_iload_n hx hb dX12_comesBehind_37 rfl (lv_at hl 4 rfl) ?_
    refine lv_iconst (v := 2) hx hb dX12_comesBehind_38 (by decide) ?_
    refine lv_icmp_le (tgt := 53) hx hb dX12_comesBehind_39 (by decide) (fun c34 => ?_) (fun c34 => ?_)
    · skip
      have k35 := iv_le (X := (4)) (Y := (2)) (by decide) (by decide) c34
      exfalso; omega
    · skip
      have k36 := iv_nle (X := (4)) (Y := (2)) (by decide) (by decide) c34
      refine lv_aload_n hx hb dX12_comesBehind_42 rfl (lv_at hl 1 rfl) ?_
      refine gmA hx hb hts inT12 hown hK hI List.not_mem_nil hG0 3 (by decide) (hts _ (tb_c wd_1236)) rfl rfl dX12_comesBehind_43 (fun a37 hq38 hf39 => ?_)
      obtain rfl := fr.uniq (by decide) hf_3 hf39
      refine lv_iload hx hb dX12_comesBehind_46 (lv_at hl 0 rfl) ?_
      refine lv_iconst (v := 2) hx hb dX12_comesBehind_48 (by decide) ?_
      refine lv_iadd hx hb dX12_comesBehind_49 ?_
      refine lv_topi (fun v40 e41 => ?_)
      have tv40 : v40.toInt = v10.toInt + (2) := iv_add rfl (by decide) e41 (by omega) (by omega)
      refine lv_iload hx hb dX12_comesBehind_50 (lv_at hl 7 rfl) ?_
      refine th_iast hx hb hK hA29 0 rfl hS ⟨_, hq_3⟩ (iv_in (X := v40.toInt) rfl (by omega) (by omega)) dX12_comesBehind_52 (fun H locs hA42 oq hS => ?_)
      have k43 := iv_lo x6
      have k44 := iv_hi x6
      have hP45 := kOk.set (i := v40) (v := x6) hP30 (X := v40.toInt) (V := x6.toInt) rfl rfl (by omega) (by omega) (ks_sight2 (by omega) (by omega) (by omega))
      have hI := th_I.put hI hq_3 hA42 (ok_m1 hP45) oq
      have hf_3 := fr.arr hG0 hq_3 (by decide) oq hf_3
      have e46 := rd_un (i := 312) (j := v40) (v := x6) e31 (X := (312)) (Y := v40.toInt) (by decide) rfl (by omega) (by omega) (by omega)
      have e47 := rd_un (i := v10) (j := v40) (v := x6) e32 (X := v10.toInt) (Y := v40.toInt) rfl rfl (by omega) (by omega) (by omega)
      have e48 := rd_un (i := v27) (j := v40) (v := x6) e33 (X := v27.toInt) (Y := v40.toInt) rfl rfl (by omega) (by omega) (by omega)
      have e49 : x6 = (upd (upd (upd f (v10 : Int32).toNatClampNeg x4) (v27 : Int32).toNatClampNeg x5) (v40 : Int32).toNatClampNeg x6) (v40 : Int32).toNatClampNeg := rd_us
      refine lv_iload_n hx hb dX12_comesBehind_53 rfl (lv_at hl 4 rfl) ?_
      refine lv_iconst (v := 3) hx hb dX12_comesBehind_54 (by decide) ?_
      refine lv_icmp_le (tgt := 69) hx hb dX12_comesBehind_55 (by decide) (fun c50 => ?_) (fun c50 => ?_)
      · skip
        have k51 := iv_le (X := (4)) (Y := (3)) (by decide) (by decide) c50
        exfalso; omega
      · skip
        have k52 := iv_nle (X := (4)) (Y := (3)) (by decide) (by decide) c50
        refine lv_aload_n hx hb dX12_comesBehind_58 rfl (lv_at hl 1 rfl) ?_
        refine gmA hx hb hts inT12 hown hK hI List.not_mem_nil hG0 3 (by decide) (hts _ (tb_c wd_1236)) rfl rfl dX12_comesBehind_59 (fun a53 hq54 hf55 => ?_)
        obtain rfl := fr.uniq (by decide) hf_3 hf55
        refine lv_iload hx hb dX12_comesBehind_62 (lv_at hl 0 rfl) ?_
        refine lv_iconst (v := 3) hx hb dX12_comesBehind_64 (by decide) ?_
        refine lv_iadd hx hb dX12_comesBehind_65 ?_
        refine lv_topi (fun v56 e57 => ?_)
        have tv56 : v56.toInt = v10.toInt + (3) := iv_add rfl (by decide) e57 (by omega) (by omega)
        refine lv_iload hx hb dX12_comesBehind_66 (lv_at hl 8 rfl) ?_
        refine th_iast hx hb hK hA42 0 rfl hS ⟨_, hq_3⟩ (iv_in (X := v56.toInt) rfl (by omega) (by omega)) dX12_comesBehind_68 (fun H locs hA58 oq hS => ?_)
        have k59 := iv_lo x7
        have k60 := iv_hi x7
        have hP61 := kOk.set (i := v56) (v := x7) hP45 (X := v56.toInt) (V := x7.toInt) rfl rfl (by omega) (by omega) (ks_sight3 (by omega) (by omega) (by omega))
        have hI := th_I.put hI hq_3 hA58 (ok_m1 hP61) oq
        have hf_3 := fr.arr hG0 hq_3 (by decide) oq hf_3
        have e62 := rd_un (i := 312) (j := v56) (v := x7) e46 (X := (312)) (Y := v56.toInt) (by decide) rfl (by omega) (by omega) (by omega)
        have e63 := rd_un (i := v10) (j := v56) (v := x7) e47 (X := v10.toInt) (Y := v56.toInt) rfl rfl (by omega) (by omega) (by omega)
        have e64 := rd_un (i := v27) (j := v56) (v := x7) e48 (X := v27.toInt) (Y := v56.toInt) rfl rfl (by omega) (by omega) (by omega)
        have e65 := rd_un (i := v40) (j := v56) (v := x7) e49 (X := v40.toInt) (Y := v56.toInt) rfl rfl (by omega) (by omega) (by omega)
        have e66 : x7 = (upd (upd (upd (upd f (v10 : Int32).toNatClampNeg x4) (v27 : Int32).toNatClampNeg x5) (v40 : Int32).toNatClampNeg x6) (v56 : Int32).toNatClampNeg x7) (v56 : Int32).toNatClampNeg := rd_us
        refine lv_aload_n hx hb dX12_comesBehind_69 rfl (lv_at hl 1 rfl) ?_
        refine gmA hx hb hts inT12 hown hK hI List.not_mem_nil hG0 3 (by decide) (hts _ (tb_c wd_1236)) rfl rfl dX12_comesBehind_70 (fun a67 hq68 hf69 => ?_)
        obtain rfl := fr.uniq (by decide) hf_3 hf69
        refine lv_iload_n hx hb dX12_comesBehind_73 rfl (lv_at hl 3 rfl) ?_
        refine lv_dup2_11 hx hb dX12_comesBehind_74 rfl rfl ?_
        refine th_iald hx hb hK hA58 0 rfl (iv_in (X := (312)) (by decide) (by omega) (by omega)) dX12_comesBehind_75 (fun v70 e71 => ?_)
        obtain rfl := (rd_same (i := 312) (j := 312) e62 e71 (X := (312)) (Y := (312)) (by decide) (by decide) (by omega)).symm
        refine lv_iconst (v := 1) hx hb dX12_comesBehind_76 (by decide) ?_
        refine lv_iadd hx hb dX12_comesBehind_77 ?_
        refine lv_topi (fun v72 e73 => ?_)
        have tv72 : v72.toInt = v4.toInt + (1) := iv_add rfl (by decide) e73 (by omega) (by omega)
        refine th_iast hx hb hK hA58 0 rfl hS ⟨_, hq_3⟩ (iv_in (X := (312)) (by decide) (by omega) (by omega)) dX12_comesBehind_78 (fun H locs hA74 oq hS => ?_)
        have hPt := kOk.setT (i := 312) (v := v72) (c' := (v72 : Int32).toInt.toNat) hP61 (by decide) (by omega) (by omega)
        have hEq : eu Eo 10 ((v72 : Int32).toInt.toNat) = E := (congrArg (fun z => eu Eo 10 z) (show ((v72 : Int32).toInt.toNat) = Eo 10 + 1 from by omega)).trans hEe.symm
        have hI : th_I (okM E) D G [] H := by rw [← hEq]; exact em_put hI hq_3 hU1 (fun _ _ _ => okM_e10 rfl) hA74 (ok_m1T hPt) oq
        have hK : va_K D vwCl (th_tys E) s := by rw [← hEq, tys_eu (by omega)]; exact hK
        have hE10 : E 10 = ((v72 : Int32).toInt.toNat) := by rw [← hEq, eu_at]
        have hf_3 := fr.arr hG0 hq_3 (by decide) oq hf_3
        refine lv_aload_n hx hb dX12_comesBehind_79 rfl (lv_at hl 1 rfl) ?_
        refine gmA hx hb hts inT12 hown hK hI List.not_mem_nil hG0 3 (by decide) (hts _ (tb_c wd_1236)) rfl rfl dX12_comesBehind_80 (fun a75 hq76 hf77 => ?_)
        obtain rfl := fr.uniq (by decide) hf_3 hf77
        refine lv_iload_n hx hb dX12_comesBehind_83 rfl (lv_at hl 3 rfl) ?_
        obtain ⟨F78, hA79, hP80⟩ := om_1 hI hq_3 List.not_mem_nil
        refine th_iald hx hb hK hA79 0 rfl (iv_in (X := (312)) (by decide) (by omega) (by omega)) dX12_comesBehind_84 (fun v81 e82 => ?_)
        have k83 := kg_m312 (kOk.get (i := 312) hP80 e82 (X := (312)) (by decide) (by omega) (by omega)) (by omega) (by omega) (by omega)
        have hE10 : E 10 = Eo 10 + 1 := by rw [hEe]; exact eu_at
        try rw [gD_t (by omega)] at hE10
        try rw [gI_t (by simp only [rg]; omega)] at hE10
        have hpost : (v81 : Int32).toInt = ((Eo 10 : Nat) : Int) + 1 := by omega
        subst hEe
        rw [hQ]
        exact W.iret (v := v81) hx hb hr (fun t ht hW => ⟨⟨v81, v81, rfl, rfl, ⟨by rw [ht]; exact hI, hN.warm hW, va_K.moved hW.alike hK⟩, by first | (rw [ht]; exact hpost) | exact hpost⟩, hS.F ht⟩) hS.2.2 dX12_comesBehind_85
set_option maxHeartbeats 4000000 in
set_option maxRecDepth 100000 in
theorem c_X12_comesBehind_313 (l : Launch) (E : Nat → Nat) (D : va_G) (G : th_G) (h0 : Nat) (hG0 : G h0 = some (10, 0)) (x4 : Int32) (x5 : Int32) (x6 : Int32) (x7 : Int32) (hx4 : (0 : Int) ≤ x4.toInt ∧ x4.toInt ≤ 23) (hx6 : (0 : Int) ≤ x6.toInt ∧ x6.toInt ≤ 95) (f : Nat → Int32) (hkf : kOk (E 10) f) (hlt : (f 313).toInt < 6) : Met l yX12_comesBehind (tb (.code yX12_comesBehind cX12_comesBehind 9 (some .int))) (rm 0) (va_Pc [.ref h0, .int 264, .int 313, .int 3, .int x4, .int x5, .int x6, .int x7] (PX E D G (fun H => ga E D G h0 3 (1, 5123) f H))) (QXi E D G (fun r H => True)) 0 0 (th_A G) := by
  refine Met.ofW (cc := cX12_comesBehind) (maxL := 9) (ret := (some .int)) (by decide) rfl ?_
  intro p e s m args below meth c s₁ B hml hv
  obtain ⟨hav, ⟨hI, hN, hK⟩, hX⟩ := hv
  have hx := B.exec
  have hb := B.bytes
  have hr := B.returns
  have hts := atoms_spec (ws := tb (.code yX12_comesBehind cX12_comesBehind 9 (some .int))) B.pre
  have hown : s.vm.findClass RX12 = some m.cls := findClass_of_methodNamed B.named
  have hlocks := B.notSynchronized
  have hS : va_S (th_A G) s.heap s.heap [] := va_S.rf
  have hl := lv_entry ([.ref h0, .int 264, .int 313, .int 3, .int x4, .int x5, .int x6, .int x7]) (n := 9) (Nat.le_of_ble_eq_true rfl)
  rw [show entryFrame m args 9 = entryFrame m ([.ref h0, .int 264, .int 313, .int 3, .int x4, .int x5, .int x6, .int x7] : List Value).toArray 9 from by rw [hav], lg_entry_eq]
  generalize (lg_sl ([.ref h0, .int 264, .int 313, .int 3, .int x4, .int x5, .int x6, .int x7]) ++ List.replicate (9 - (lg_sl ([.ref h0, .int 264, .int 313, .int 3, .int x4, .int x5, .int x6, .int x7])).length) Slot.unset).toArray = ls at hl ⊢
  have hl : lv_has ls 9 [(0, .ref h0), (1, .int 264), (2, .int 313), (3, .int 3), (4, .int x4), (5, .int x5), (6, .int x6), (7, .int x7)] := hl
  generalize hR : (headSpec (tb (.code yX12_comesBehind cX12_comesBehind 9 (some .int))) (rm 0)).room = R
  have hR := hR.symm
  generalize hQ : MQ below (QXi E D G (fun r H => True)) args s 0 0 (th_A G) = QF
  have hQ := hQ.symm
  obtain ⟨q_3, hf_3, hq_3, hA_3⟩ := hX
  refine lv_iload_n hx hb dX12_comesBehind_0 rfl (lv_at hl 1 rfl) ?_
  refine lv_iload_n hx hb dX12_comesBehind_1 rfl (lv_at hl 3 rfl) ?_
  refine lv_aload_n hx hb dX12_comesBehind_2 rfl (lv_at hl 0 rfl) ?_
  refine gmA hx hb hts inT12 hown hK hI List.not_mem_nil hG0 3 (by decide) (hts _ (tb_c wd_1236)) rfl rfl dX12_comesBehind_3 (fun a1 hq2 hf3 => ?_)
  obtain rfl := fr.uniq (by decide) hf_3 hf3
  refine lv_iload_n hx hb dX12_comesBehind_6 rfl (lv_at hl 2 rfl) ?_
  refine th_iald hx hb hK hA_3 0 rfl (iv_in (X := (313)) (by decide) (by omega) (by omega)) dX12_comesBehind_7 (fun v4 e5 => ?_)
  have k6 := kg_m313 (kOk.get (i := 313) hkf e5 (X := (313)) (by decide) (by omega) (by omega)) (by omega) (by omega) (by omega)
  have k7 : v4.toInt < 6 := by rw [e5]; exact hlt
  refine lv_imul hx hb dX12_comesBehind_8 ?_
  refine lv_topi (fun v8 e9 => ?_)
  have tv8 : v8.toInt = (3) * v4.toInt := iv_mul (by decide) rfl e9 (by omega) (by omega)
  refine lv_iadd hx hb dX12_comesBehind_9 ?_
  refine lv_topi (fun v10 e11 => ?_)
  have tv10 : v10.toInt = (264) + v8.toInt := iv_add (by decide) rfl e11 (by omega) (by omega)
  refine lv_istore (lv' := [(8, .int v10), (0, .ref h0), (1, .int 264), (2, .int 313), (3, .int 3), (4, .int x4), (5, .int x5), (6, .int x6), (7, .int x7)]) hx hb dX12_comesBehind_10 hl (by decide) rfl (fun ls hl => ?_)
  refine lv_aload_n hx hb dX12_comesBehind_12 rfl (lv_at hl 1 rfl) ?_
  refine gmA hx hb hts inT12 hown hK hI List.not_mem_nil hG0 3 (by decide) (hts _ (tb_c wd_1236)) rfl rfl dX12_comesBehind_13 (fun a12 hq13 hf14 => ?_)
  obtain rfl := fr.uniq (by decide) hf_3 hf14
  refine lv_iload hx hb dX12_comesBehind_16 (lv_at hl 0 rfl) ?_
  refine lv_iload hx hb dX12_comesBehind_18 (lv_at hl 5 rfl) ?_
  refine th_iast hx hb hK hA_3 0 rfl hS ⟨_, hq_3⟩ (iv_in (X := v10.toInt) rfl (by omega) (by omega)) dX12_comesBehind_20 (fun H locs hA15 oq hS => ?_)
  have hP16 := kOk.set (i := v10) (v := x4) hkf (X := v10.toInt) (V := x4.toInt) rfl rfl (by omega) (by omega) (ks_job0 (by omega) (by omega) (by omega) ⟨by omega, by omega⟩)
  have hI := th_I.put hI hq_3 hA15 (ok_m1 hP16) oq
  have hf_3 := fr.arr hG0 hq_3 (by decide) oq hf_3
  have e17 := rd_un (i := 313) (j := v10) (v := x4) e5 (X := (313)) (Y := v10.toInt) (by decide) rfl (by omega) (by omega) (by omega)
  have e18 : x4 = (upd f (v10 : Int32).toNatClampNeg x4) (v10 : Int32).toNatClampNeg := rd_us
  refine lv_iload_n hx hb dX12_comesBehind_21 rfl (lv_at hl 4 rfl) ?_
  refine lv_iconst (v := 1) hx hb dX12_comesBehind_22 (by decide) ?_
  refine lv_icmp_le (tgt := 37) hx hb dX12_comesBehind_23 (by decide) (fun c19 => ?_) (fun c19 => ?_)
  · skip
    have k20 := iv_le (X := (3)) (Y := (1)) (by decide) (by decide) c19
    exfalso; omega
  · skip
    have k21 := iv_nle (X := (3)) (Y := (1)) (by decide) (by decide) c19
    refine lv_aload_n hx hb dX12_comesBehind_26 rfl (lv_at hl 1 rfl) ?_
    refine gmA hx hb hts inT12 hown hK hI List.not_mem_nil hG0 3 (by decide) (hts _ (tb_c wd_1236)) rfl rfl dX12_comesBehind_27 (fun a22 hq23 hf24 => ?_)
    obtain rfl := fr.uniq (by decide) hf_3 hf24
    refine lv_iload hx hb dX12_comesBehind_30 (lv_at hl 0 rfl) ?_
    refine lv_iconst (v := 1) hx hb dX12_comesBehind_32 (by decide) ?_
    refine lv_iadd hx hb dX12_comesBehind_33 ?_
    refine lv_topi (fun v25 e26 => ?_)
    have tv25 : v25.toInt = v10.toInt + (1) := iv_add rfl (by decide) e26 (by omega) (by omega)
    refine lv_iload hx hb dX12_comesBehind_34 (lv_at hl 6 rfl) ?_
    refine th_iast hx hb hK hA15 0 rfl hS ⟨_, hq_3⟩ (iv_in (X := v25.toInt) rfl (by omega) (by omega)) dX12_comesBehind_36 (fun H locs hA27 oq hS => ?_)
    have k28 := iv_lo x5
    have k29 := iv_hi x5
    have hP30 := kOk.set (i := v25) (v := x5) hP16 (X := v25.toInt) (V := x5.toInt) rfl rfl (by omega) (by omega) (ks_job1 (by omega) (by omega) (by omega))
    have hI := th_I.put hI hq_3 hA27 (ok_m1 hP30) oq
    have hf_3 := fr.arr hG0 hq_3 (by decide) oq hf_3
    have e31 := rd_un (i := 313) (j := v25) (v := x5) e17 (X := (313)) (Y := v25.toInt) (by decide) rfl (by omega) (by omega) (by omega)
    have e32 := rd_un (i := v10) (j := v25) (v := x5) e18 (X := v10.toInt) (Y := v25.toInt) rfl rfl (by omega) (by omega) (by omega)
    have e33 : x5 = (upd (upd f (v10 : Int32).toNatClampNeg x4) (v25 : Int32).toNatClampNeg x5) (v25 : Int32).toNatClampNeg := rd_us
    refine lv_iload_n hx hb dX12_comesBehind_37 rfl (lv_at hl 4 rfl) ?_
    refine lv_iconst (v := 2) hx hb dX12_comesBehind_38 (by decide) ?_
    refine lv_icmp_le (tgt := 53) hx hb dX12_comesBehind_39 (by decide) (fun c34 => ?_) (fun c34 => ?_)
    · skip
      have k35 := iv_le (X := (3)) (Y := (2)) (by decide) (by decide) c34
      exfalso; omega
    · skip
      have k36 := iv_nle (X := (3)) (Y := (2)) (by decide) (by decide) c34
      refine lv_aload_n hx hb dX12_comesBehind_42 rfl (lv_at hl 1 rfl) ?_
      refine gmA hx hb hts inT12 hown hK hI List.not_mem_nil hG0 3 (by decide) (hts _ (tb_c wd_1236)) rfl rfl dX12_comesBehind_43 (fun a37 hq38 hf39 => ?_)
      obtain rfl := fr.uniq (by decide) hf_3 hf39
      refine lv_iload hx hb dX12_comesBehind_46 (lv_at hl 0 rfl) ?_
      refine lv_iconst (v := 2) hx hb dX12_comesBehind_48 (by decide) ?_
      refine lv_iadd hx hb dX12_comesBehind_49 ?_
      refine lv_topi (fun v40 e41 => ?_)
      have tv40 : v40.toInt = v10.toInt + (2) := iv_add rfl (by decide) e41 (by omega) (by omega)
      refine lv_iload hx hb dX12_comesBehind_50 (lv_at hl 7 rfl) ?_
      refine th_iast hx hb hK hA27 0 rfl hS ⟨_, hq_3⟩ (iv_in (X := v40.toInt) rfl (by omega) (by omega)) dX12_comesBehind_52 (fun H locs hA42 oq hS => ?_)
      have hP43 := kOk.set (i := v40) (v := x6) hP30 (X := v40.toInt) (V := x6.toInt) rfl rfl (by omega) (by omega) (ks_job2 (by omega) (by omega) (by omega) ⟨by omega, by omega⟩)
      have hI := th_I.put hI hq_3 hA42 (ok_m1 hP43) oq
      have hf_3 := fr.arr hG0 hq_3 (by decide) oq hf_3
      have e44 := rd_un (i := 313) (j := v40) (v := x6) e31 (X := (313)) (Y := v40.toInt) (by decide) rfl (by omega) (by omega) (by omega)
      have e45 := rd_un (i := v10) (j := v40) (v := x6) e32 (X := v10.toInt) (Y := v40.toInt) rfl rfl (by omega) (by omega) (by omega)
      have e46 := rd_un (i := v25) (j := v40) (v := x6) e33 (X := v25.toInt) (Y := v40.toInt) rfl rfl (by omega) (by omega) (by omega)
      have e47 : x6 = (upd (upd (upd f (v10 : Int32).toNatClampNeg x4) (v25 : Int32).toNatClampNeg x5) (v40 : Int32).toNatClampNeg x6) (v40 : Int32).toNatClampNeg := rd_us
      refine lv_iload_n hx hb dX12_comesBehind_53 rfl (lv_at hl 4 rfl) ?_
      refine lv_iconst (v := 3) hx hb dX12_comesBehind_54 (by decide) ?_
      refine lv_icmp_le (tgt := 69) hx hb dX12_comesBehind_55 (by decide) (fun c48 => ?_) (fun c48 => ?_)
      · skip
        have k49 := iv_le (X := (3)) (Y := (3)) (by decide) (by decide) c48
        refine lv_aload_n hx hb dX12_comesBehind_69 rfl (lv_at hl 1 rfl) ?_
        refine gmA hx hb hts inT12 hown hK hI List.not_mem_nil hG0 3 (by decide) (hts _ (tb_c wd_1236)) rfl rfl dX12_comesBehind_70 (fun a50 hq51 hf52 => ?_)
        obtain rfl := fr.uniq (by decide) hf_3 hf52
        refine lv_iload_n hx hb dX12_comesBehind_73 rfl (lv_at hl 3 rfl) ?_
        refine lv_dup2_11 hx hb dX12_comesBehind_74 rfl rfl ?_
        refine th_iald hx hb hK hA42 0 rfl (iv_in (X := (313)) (by decide) (by omega) (by omega)) dX12_comesBehind_75 (fun v53 e54 => ?_)
        obtain rfl := (rd_same (i := 313) (j := 313) e44 e54 (X := (313)) (Y := (313)) (by decide) (by decide) (by omega)).symm
        refine lv_iconst (v := 1) hx hb dX12_comesBehind_76 (by decide) ?_
        refine lv_iadd hx hb dX12_comesBehind_77 ?_
        refine lv_topi (fun v55 e56 => ?_)
        have tv55 : v55.toInt = v4.toInt + (1) := iv_add rfl (by decide) e56 (by omega) (by omega)
        refine th_iast hx hb hK hA42 0 rfl hS ⟨_, hq_3⟩ (iv_in (X := (313)) (by decide) (by omega) (by omega)) dX12_comesBehind_78 (fun H locs hA57 oq hS => ?_)
        have hP58 := kOk.set (i := 313) (v := v55) hP43 (X := (313)) (V := v55.toInt) (by decide) rfl (by omega) (by omega) (ks_m313 (by omega) (by omega) (by omega) ⟨by omega, by omega⟩)
        have hI := th_I.put hI hq_3 hA57 (ok_m1 hP58) oq
        have hf_3 := fr.arr hG0 hq_3 (by decide) oq hf_3
        have e59 := rd_un (i := v10) (j := 313) (v := v55) e45 (X := v10.toInt) (Y := (313)) rfl (by decide) (by omega) (by omega) (by omega)
        have e60 := rd_un (i := v25) (j := 313) (v := v55) e46 (X := v25.toInt) (Y := (313)) rfl (by decide) (by omega) (by omega) (by omega)
        have e61 := rd_un (i := v40) (j := 313) (v := v55) e47 (X := v40.toInt) (Y := (313)) rfl (by decide) (by omega) (by omega) (by omega)
        have e62 : v55 = (upd (upd (upd (upd f (v10 : Int32).toNatClampNeg x4) (v25 : Int32).toNatClampNeg x5) (v40 : Int32).toNatClampNeg x6) (313 : Int32).toNatClampNeg v55) (313 : Int32).toNatClampNeg := rd_us
        refine lv_aload_n hx hb dX12_comesBehind_79 rfl (lv_at hl 1 rfl) ?_
        refine gmA hx hb hts inT12 hown hK hI List.not_mem_nil hG0 3 (by decide) (hts _ (tb_c wd_1236)) rfl rfl dX12_comesBehind_80 (fun a63 hq64 hf65 => ?_)
        obtain rfl := fr.uniq (by decide) hf_3 hf65
        refine lv_iload_n hx hb dX12_comesBehind_83 rfl (lv_at hl 3 rfl) ?_
        refine th_iald hx hb hK hA57 0 rfl (iv_in (X := (313)) (by decide) (by omega) (by omega)) dX12_comesBehind_84 (fun v66 e67 => ?_)
        obtain rfl := (rd_same (i := 313) (j := 313) e62 e67 (X := (313)) (Y := (313)) (by decide) (by decide) (by omega)).symm
        have hpost : True := trivial
        rw [hQ]
        exact W.iret (v := v55) hx hb hr (fun t ht hW => ⟨⟨v55, v55, rfl, rfl, ⟨by rw [ht]; exact hI, hN.warm hW, va_K.moved hW.alike hK⟩, by first | (rw [ht]; exact hpost) | exact hpost⟩, hS.F ht⟩) hS.2.2 dX12_comesBehind_85
      · skip
        have k68 := iv_nle (X := (3)) (Y := (3)) (by decide) (by decide) c48
        exfalso; omega
set_option maxHeartbeats 4000000 in
set_option maxRecDepth 100000 in
theorem c_X12_comesBehind_314 (l : Launch) (E : Nat → Nat) (D : va_G) (G : th_G) (h0 : Nat) (hG0 : G h0 = some (10, 0)) (x4 : Int32) (x5 : Int32) (x6 : Int32) (x7 : Int32) (hx4 : (0 : Int) ≤ x4.toInt ∧ x4.toInt ≤ 23) (hx5 : (0 : Int) ≤ x5.toInt ∧ x5.toInt ≤ 96) (hx7 : (0 : Int) ≤ x7.toInt ∧ x7.toInt ≤ 96) (f : Nat → Int32) (hkf : kOk (E 10) f) (hlt : (f 314).toInt < 6) : Met l yX12_comesBehind (tb (.code yX12_comesBehind cX12_comesBehind 9 (some .int))) (rm 0) (va_Pc [.ref h0, .int 282, .int 314, .int 4, .int x4, .int x5, .int x6, .int x7] (PX E D G (fun H => ga E D G h0 3 (1, 5123) f H))) (QXi E D G (fun r H => True)) 0 0 (th_A G) := by
  refine Met.ofW (cc := cX12_comesBehind) (maxL := 9) (ret := (some .int)) (by decide) rfl ?_
  intro p e s m args below meth c s₁ B hml hv
  obtain ⟨hav, ⟨hI, hN, hK⟩, hX⟩ := hv
  have hx := B.exec
  have hb := B.bytes
  have hr := B.returns
  have hts := atoms_spec (ws := tb (.code yX12_comesBehind cX12_comesBehind 9 (some .int))) B.pre
  have hown : s.vm.findClass RX12 = some m.cls := findClass_of_methodNamed B.named
  have hlocks := B.notSynchronized
  have hS : va_S (th_A G) s.heap s.heap [] := va_S.rf
  have hl := lv_entry ([.ref h0, .int 282, .int 314, .int 4, .int x4, .int x5, .int x6, .int x7]) (n := 9) (Nat.le_of_ble_eq_true rfl)
  rw [show entryFrame m args 9 = entryFrame m ([.ref h0, .int 282, .int 314, .int 4, .int x4, .int x5, .int x6, .int x7] : List Value).toArray 9 from by rw [hav], lg_entry_eq]
  generalize (lg_sl ([.ref h0, .int 282, .int 314, .int 4, .int x4, .int x5, .int x6, .int x7]) ++ List.replicate (9 - (lg_sl ([.ref h0, .int 282, .int 314, .int 4, .int x4, .int x5, .int x6, .int x7])).length) Slot.unset).toArray = ls at hl ⊢
  have hl : lv_has ls 9 [(0, .ref h0), (1, .int 282), (2, .int 314), (3, .int 4), (4, .int x4), (5, .int x5), (6, .int x6), (7, .int x7)] := hl
  generalize hR : (headSpec (tb (.code yX12_comesBehind cX12_comesBehind 9 (some .int))) (rm 0)).room = R
  have hR := hR.symm
  generalize hQ : MQ below (QXi E D G (fun r H => True)) args s 0 0 (th_A G) = QF
  have hQ := hQ.symm
  obtain ⟨q_3, hf_3, hq_3, hA_3⟩ := hX
  refine lv_iload_n hx hb dX12_comesBehind_0 rfl (lv_at hl 1 rfl) ?_
  refine lv_iload_n hx hb dX12_comesBehind_1 rfl (lv_at hl 3 rfl) ?_
  refine lv_aload_n hx hb dX12_comesBehind_2 rfl (lv_at hl 0 rfl) ?_
  refine gmA hx hb hts inT12 hown hK hI List.not_mem_nil hG0 3 (by decide) (hts _ (tb_c wd_1236)) rfl rfl dX12_comesBehind_3 (fun a1 hq2 hf3 => ?_)
  obtain rfl := fr.uniq (by decide) hf_3 hf3
  refine lv_iload_n hx hb dX12_comesBehind_6 rfl (lv_at hl 2 rfl) ?_
  refine th_iald hx hb hK hA_3 0 rfl (iv_in (X := (314)) (by decide) (by omega) (by omega)) dX12_comesBehind_7 (fun v4 e5 => ?_)
  have k6 := kg_m314 (kOk.get (i := 314) hkf e5 (X := (314)) (by decide) (by omega) (by omega)) (by omega) (by omega) (by omega)
  have k7 : v4.toInt < 6 := by rw [e5]; exact hlt
  refine lv_imul hx hb dX12_comesBehind_8 ?_
  refine lv_topi (fun v8 e9 => ?_)
  have tv8 : v8.toInt = (4) * v4.toInt := iv_mul (by decide) rfl e9 (by omega) (by omega)
  refine lv_iadd hx hb dX12_comesBehind_9 ?_
  refine lv_topi (fun v10 e11 => ?_)
  have tv10 : v10.toInt = (282) + v8.toInt := iv_add (by decide) rfl e11 (by omega) (by omega)
  refine lv_istore (lv' := [(8, .int v10), (0, .ref h0), (1, .int 282), (2, .int 314), (3, .int 4), (4, .int x4), (5, .int x5), (6, .int x6), (7, .int x7)]) hx hb dX12_comesBehind_10 hl (by decide) rfl (fun ls hl => ?_)
  refine lv_aload_n hx hb dX12_comesBehind_12 rfl (lv_at hl 1 rfl) ?_
  refine gmA hx hb hts inT12 hown hK hI List.not_mem_nil hG0 3 (by decide) (hts _ (tb_c wd_1236)) rfl rfl dX12_comesBehind_13 (fun a12 hq13 hf14 => ?_)
  obtain rfl := fr.uniq (by decide) hf_3 hf14
  refine lv_iload hx hb dX12_comesBehind_16 (lv_at hl 0 rfl) ?_
  refine lv_iload hx hb dX12_comesBehind_18 (lv_at hl 5 rfl) ?_
  refine th_iast hx hb hK hA_3 0 rfl hS ⟨_, hq_3⟩ (iv_in (X := v10.toInt) rfl (by omega) (by omega)) dX12_comesBehind_20 (fun H locs hA15 oq hS => ?_)
  have hP16 := kOk.set (i := v10) (v := x4) hkf (X := v10.toInt) (V := x4.toInt) rfl rfl (by omega) (by omega) (ks_wish0 (by omega) (by omega) (by omega) ⟨by omega, by omega⟩)
  have hI := th_I.put hI hq_3 hA15 (ok_m1 hP16) oq
  have hf_3 := fr.arr hG0 hq_3 (by decide) oq hf_3
  have e17 := rd_un (i := 314) (j := v10) (v := x4) e5 (X := (314)) (Y := v10.toInt) (by decide) rfl (by omega) (by omega) (by omega)
  have e18 : x4 = (upd f (v10 : Int32).toNatClampNeg x4) (v10 : Int32).toNatClampNeg := rd_us
  refine lv_iload_n hx hb dX12_comesBehind_21 rfl (lv_at hl 4 rfl) ?_
  refine lv_iconst (v := 1) hx hb dX12_comesBehind_22 (by decide) ?_
  refine lv_icmp_le (tgt := 37) hx hb dX12_comesBehind_23 (by decide) (fun c19 => ?_) (fun c19 => ?_)
  · skip
    have k20 := iv_le (X := (4)) (Y := (1)) (by decide) (by decide) c19
    exfalso; omega
  · skip
    have k21 := iv_nle (X := (4)) (Y := (1)) (by decide) (by decide) c19
    refine lv_aload_n hx hb dX12_comesBehind_26 rfl (lv_at hl 1 rfl) ?_
    refine gmA hx hb hts inT12 hown hK hI List.not_mem_nil hG0 3 (by decide) (hts _ (tb_c wd_1236)) rfl rfl dX12_comesBehind_27 (fun a22 hq23 hf24 => ?_)
    obtain rfl := fr.uniq (by decide) hf_3 hf24
    refine lv_iload hx hb dX12_comesBehind_30 (lv_at hl 0 rfl) ?_
    refine lv_iconst (v := 1) hx hb dX12_comesBehind_32 (by decide) ?_
    refine lv_iadd hx hb dX12_comesBehind_33 ?_
    refine lv_topi (fun v25 e26 => ?_)
    have tv25 : v25.toInt = v10.toInt + (1) := iv_add rfl (by decide) e26 (by omega) (by omega)
    refine lv_iload hx hb dX12_comesBehind_34 (lv_at hl 6 rfl) ?_
    refine th_iast hx hb hK hA15 0 rfl hS ⟨_, hq_3⟩ (iv_in (X := v25.toInt) rfl (by omega) (by omega)) dX12_comesBehind_36 (fun H locs hA27 oq hS => ?_)
    have hP28 := kOk.set (i := v25) (v := x5) hP16 (X := v25.toInt) (V := x5.toInt) rfl rfl (by omega) (by omega) (ks_wish1 (by omega) (by omega) (by omega) ⟨by omega, by omega⟩)
    have hI := th_I.put hI hq_3 hA27 (ok_m1 hP28) oq
    have hf_3 := fr.arr hG0 hq_3 (by decide) oq hf_3
    have e29 := rd_un (i := 314) (j := v25) (v := x5) e17 (X := (314)) (Y := v25.toInt) (by decide) rfl (by omega) (by omega) (by omega)
    have e30 := rd_un (i := v10) (j := v25) (v := x5) e18 (X := v10.toInt) (Y := v25.toInt) rfl rfl (by omega) (by omega) (by omega)
    have e31 : x5 = (upd (upd f (v10 : Int32).toNatClampNeg x4) (v25 : Int32).toNatClampNeg x5) (v25 : Int32).toNatClampNeg := rd_us
    refine lv_iload_n hx hb dX12_comesBehind_37 rfl (lv_at hl 4 rfl) ?_
    refine lv_iconst (v := 2) hx hb dX12_comesBehind_38 (by decide) ?_
    refine lv_icmp_le (tgt := 53) hx hb dX12_comesBehind_39 (by decide) (fun c32 => ?_) (fun c32 => ?_)
    · skip
      have k33 := iv_le (X := (4)) (Y := (2)) (by decide) (by decide) c32
      exfalso; omega
    · skip
      have k34 := iv_nle (X := (4)) (Y := (2)) (by decide) (by decide) c32
      refine lv_aload_n hx hb dX12_comesBehind_42 rfl (lv_at hl 1 rfl) ?_
      refine gmA hx hb hts inT12 hown hK hI List.not_mem_nil hG0 3 (by decide) (hts _ (tb_c wd_1236)) rfl rfl dX12_comesBehind_43 (fun a35 hq36 hf37 => ?_)
      obtain rfl := fr.uniq (by decide) hf_3 hf37
      refine lv_iload hx hb dX12_comesBehind_46 (lv_at hl 0 rfl) ?_
      refine lv_iconst (v := 2) hx hb dX12_comesBehind_48 (by decide) ?_
      refine lv_iadd hx hb dX12_comesBehind_49 ?_
      refine lv_topi (fun v38 e39 => ?_)
      have tv38 : v38.toInt = v10.toInt + (2) := iv_add rfl (by decide) e39 (by omega) (by omega)
      refine lv_iload hx hb dX12_comesBehind_50 (lv_at hl 7 rfl) ?_
      refine th_iast hx hb hK hA27 0 rfl hS ⟨_, hq_3⟩ (iv_in (X := v38.toInt) rfl (by omega) (by omega)) dX12_comesBehind_52 (fun H locs hA40 oq hS => ?_)
      have k41 := iv_lo x6
      have k42 := iv_hi x6
      have hP43 := kOk.set (i := v38) (v := x6) hP28 (X := v38.toInt) (V := x6.toInt) rfl rfl (by omega) (by omega) (ks_wish2 (by omega) (by omega) (by omega))
      have hI := th_I.put hI hq_3 hA40 (ok_m1 hP43) oq
      have hf_3 := fr.arr hG0 hq_3 (by decide) oq hf_3
      have e44 := rd_un (i := 314) (j := v38) (v := x6) e29 (X := (314)) (Y := v38.toInt) (by decide) rfl (by omega) (by omega) (by omega)
      have e45 := rd_un (i := v10) (j := v38) (v := x6) e30 (X := v10.toInt) (Y := v38.toInt) rfl rfl (by omega) (by omega) (by omega)
      have e46 := rd_un (i := v25) (j := v38) (v := x6) e31 (X := v25.toInt) (Y := v38.toInt) rfl rfl (by omega) (by omega) (by omega)
      have e47 : x6 = (upd (upd (upd f (v10 : Int32).toNatClampNeg x4) (v25 : Int32).toNatClampNeg x5) (v38 : Int32).toNatClampNeg x6) (v38 : Int32).toNatClampNeg := rd_us
      refine lv_iload_n hx hb dX12_comesBehind_53 rfl (lv_at hl 4 rfl) ?_
      refine lv_iconst (v := 3) hx hb dX12_comesBehind_54 (by decide) ?_
      refine lv_icmp_le (tgt := 69) hx hb dX12_comesBehind_55 (by decide) (fun c48 => ?_) (fun c48 => ?_)
      · skip
        have k49 := iv_le (X := (4)) (Y := (3)) (by decide) (by decide) c48
        exfalso; omega
      · skip
        have k50 := iv_nle (X := (4)) (Y := (3)) (by decide) (by decide) c48
        refine lv_aload_n hx hb dX12_comesBehind_58 rfl (lv_at hl 1 rfl) ?_
        refine gmA hx hb hts inT12 hown hK hI List.not_mem_nil hG0 3 (by decide) (hts _ (tb_c wd_1236)) rfl rfl dX12_comesBehind_59 (fun a51 hq52 hf53 => ?_)
        obtain rfl := fr.uniq (by decide) hf_3 hf53
        refine lv_iload hx hb dX12_comesBehind_62 (lv_at hl 0 rfl) ?_
        refine lv_iconst (v := 3) hx hb dX12_comesBehind_64 (by decide) ?_
        refine lv_iadd hx hb dX12_comesBehind_65 ?_
        refine lv_topi (fun v54 e55 => ?_)
        have tv54 : v54.toInt = v10.toInt + (3) := iv_add rfl (by decide) e55 (by omega) (by omega)
        refine lv_iload hx hb dX12_comesBehind_66 (lv_at hl 8 rfl) ?_
        refine th_iast hx hb hK hA40 0 rfl hS ⟨_, hq_3⟩ (iv_in (X := v54.toInt) rfl (by omega) (by omega)) dX12_comesBehind_68 (fun H locs hA56 oq hS => ?_)
        have hP57 := kOk.set (i := v54) (v := x7) hP43 (X := v54.toInt) (V := x7.toInt) rfl rfl (by omega) (by omega) (ks_wish3 (by omega) (by omega) (by omega) ⟨by omega, by omega⟩)
        have hI := th_I.put hI hq_3 hA56 (ok_m1 hP57) oq
        have hf_3 := fr.arr hG0 hq_3 (by decide) oq hf_3
        have e58 := rd_un (i := 314) (j := v54) (v := x7) e44 (X := (314)) (Y := v54.toInt) (by decide) rfl (by omega) (by omega) (by omega)
        have e59 := rd_un (i := v10) (j := v54) (v := x7) e45 (X := v10.toInt) (Y := v54.toInt) rfl rfl (by omega) (by omega) (by omega)
        have e60 := rd_un (i := v25) (j := v54) (v := x7) e46 (X := v25.toInt) (Y := v54.toInt) rfl rfl (by omega) (by omega) (by omega)
        have e61 := rd_un (i := v38) (j := v54) (v := x7) e47 (X := v38.toInt) (Y := v54.toInt) rfl rfl (by omega) (by omega) (by omega)
        have e62 : x7 = (upd (upd (upd (upd f (v10 : Int32).toNatClampNeg x4) (v25 : Int32).toNatClampNeg x5) (v38 : Int32).toNatClampNeg x6) (v54 : Int32).toNatClampNeg x7) (v54 : Int32).toNatClampNeg := rd_us
        refine lv_aload_n hx hb dX12_comesBehind_69 rfl (lv_at hl 1 rfl) ?_
        refine gmA hx hb hts inT12 hown hK hI List.not_mem_nil hG0 3 (by decide) (hts _ (tb_c wd_1236)) rfl rfl dX12_comesBehind_70 (fun a63 hq64 hf65 => ?_)
        obtain rfl := fr.uniq (by decide) hf_3 hf65
        refine lv_iload_n hx hb dX12_comesBehind_73 rfl (lv_at hl 3 rfl) ?_
        refine lv_dup2_11 hx hb dX12_comesBehind_74 rfl rfl ?_
        refine th_iald hx hb hK hA56 0 rfl (iv_in (X := (314)) (by decide) (by omega) (by omega)) dX12_comesBehind_75 (fun v66 e67 => ?_)
        obtain rfl := (rd_same (i := 314) (j := 314) e58 e67 (X := (314)) (Y := (314)) (by decide) (by decide) (by omega)).symm
        refine lv_iconst (v := 1) hx hb dX12_comesBehind_76 (by decide) ?_
        refine lv_iadd hx hb dX12_comesBehind_77 ?_
        refine lv_topi (fun v68 e69 => ?_)
        have tv68 : v68.toInt = v4.toInt + (1) := iv_add rfl (by decide) e69 (by omega) (by omega)
        refine th_iast hx hb hK hA56 0 rfl hS ⟨_, hq_3⟩ (iv_in (X := (314)) (by decide) (by omega) (by omega)) dX12_comesBehind_78 (fun H locs hA70 oq hS => ?_)
        have hP71 := kOk.set (i := 314) (v := v68) hP57 (X := (314)) (V := v68.toInt) (by decide) rfl (by omega) (by omega) (ks_m314 (by omega) (by omega) (by omega) ⟨by omega, by omega⟩)
        have hI := th_I.put hI hq_3 hA70 (ok_m1 hP71) oq
        have hf_3 := fr.arr hG0 hq_3 (by decide) oq hf_3
        have e72 := rd_un (i := v10) (j := 314) (v := v68) e59 (X := v10.toInt) (Y := (314)) rfl (by decide) (by omega) (by omega) (by omega)
        have e73 := rd_un (i := v25) (j := 314) (v := v68) e60 (X := v25.toInt) (Y := (314)) rfl (by decide) (by omega) (by omega) (by omega)
        have e74 := rd_un (i := v38) (j := 314) (v := v68) e61 (X := v38.toInt) (Y := (314)) rfl (by decide) (by omega) (by omega) (by omega)
        have e75 := rd_un (i := v54) (j := 314) (v := v68) e62 (X := v54.toInt) (Y := (314)) rfl (by decide) (by omega) (by omega) (by omega)
        have e76 : v68 = (upd (upd (upd (upd (upd f (v10 : Int32).toNatClampNeg x4) (v25 : Int32).toNatClampNeg x5) (v38 : Int32).toNatClampNeg x6) (v54 : Int32).toNatClampNeg x7) (314 : Int32).toNatClampNeg v68) (314 : Int32).toNatClampNeg := rd_us
        refine lv_aload_n hx hb dX12_comesBehind_79 rfl (lv_at hl 1 rfl) ?_
        refine gmA hx hb hts inT12 hown hK hI List.not_mem_nil hG0 3 (by decide) (hts _ (tb_c wd_1236)) rfl rfl dX12_comesBehind_80 (fun a77 hq78 hf79 => ?_)
        obtain rfl := fr.uniq (by decide) hf_3 hf79
        refine lv_iload_n hx hb dX12_comesBehind_83 rfl (lv_at hl 3 rfl) ?_
        refine th_iald hx hb hK hA70 0 rfl (iv_in (X := (314)) (by decide) (by omega) (by omega)) dX12_comesBehind_84 (fun v80 e81 => ?_)
        obtain rfl := (rd_same (i := 314) (j := 314) e76 e81 (X := (314)) (Y := (314)) (by decide) (by decide) (by omega)).symm
        have hpost : True := trivial
        rw [hQ]
        exact W.iret (v := v68) hx hb hr (fun t ht hW => ⟨⟨v68, v68, rfl, rfl, ⟨by rw [ht]; exact hI, hN.warm hW, va_K.moved hW.alike hK⟩, by first | (rw [ht]; exact hpost) | exact hpost⟩, hS.F ht⟩) hS.2.2 dX12_comesBehind_85
theorem dX12_goAll_0g : (decode cX12_goAll 0 = .ok (.aload_n 0, 1)) ∧ (decode cX12_goAll 1 = .ok (.getfield 20, 3)) ∧ (decode cX12_goAll 4 = .ok (.iload_n 1, 1)) ∧ (decode cX12_goAll 5 = .ok (.iaload, 1)) ∧ (decode cX12_goAll 6 = .ok (.istore_n 2, 1)) ∧ (decode cX12_goAll 7 = .ok (.aload_n 0, 1)) ∧ (decode cX12_goAll 8 = .ok (.getfield 20, 3)) ∧ (decode cX12_goAll 11 = .ok (.iload_n 1, 1)) ∧ (decode cX12_goAll 12 = .ok (.iconst 0, 1)) ∧ (decode cX12_goAll 13 = .ok (.iastore, 1)) := by decide +kernel
theorem dX12_goAll_0 : decode cX12_goAll 0 = .ok (.aload_n 0, 1) := dX12_goAll_0g.1
theorem dX12_goAll_1 : decode cX12_goAll 1 = .ok (.getfield 20, 3) := dX12_goAll_0g.2.1
theorem dX12_goAll_4 : decode cX12_goAll 4 = .ok (.iload_n 1, 1) := dX12_goAll_0g.2.2.1
theorem dX12_goAll_5 : decode cX12_goAll 5 = .ok (.iaload, 1) := dX12_goAll_0g.2.2.2.1
theorem dX12_goAll_6 : decode cX12_goAll 6 = .ok (.istore_n 2, 1) := dX12_goAll_0g.2.2.2.2.1
theorem dX12_goAll_7 : decode cX12_goAll 7 = .ok (.aload_n 0, 1) := dX12_goAll_0g.2.2.2.2.2.1
theorem dX12_goAll_8 : decode cX12_goAll 8 = .ok (.getfield 20, 3) := dX12_goAll_0g.2.2.2.2.2.2.1
theorem dX12_goAll_11 : decode cX12_goAll 11 = .ok (.iload_n 1, 1) := dX12_goAll_0g.2.2.2.2.2.2.2.1
theorem dX12_goAll_12 : decode cX12_goAll 12 = .ok (.iconst 0, 1) := dX12_goAll_0g.2.2.2.2.2.2.2.2.1
theorem dX12_goAll_13 : decode cX12_goAll 13 = .ok (.iastore, 1) := dX12_goAll_0g.2.2.2.2.2.2.2.2.2
theorem dX12_goAll_14g : (decode cX12_goAll 14 = .ok (.aload_n 0, 1)) ∧ (decode cX12_goAll 15 = .ok (.dup, 1)) ∧ (decode cX12_goAll 16 = .ok (.getfield 11, 3)) ∧ (decode cX12_goAll 19 = .ok (.iconst 1, 1)) ∧ (decode cX12_goAll 20 = .ok (.iadd, 1)) ∧ (decode cX12_goAll 21 = .ok (.putfield 11, 3)) ∧ (decode cX12_goAll 24 = .ok (.iload_n 2, 1)) ∧ (decode cX12_goAll 25 = .ok (.ireturn, 1)) := by decide +kernel
theorem dX12_goAll_14 : decode cX12_goAll 14 = .ok (.aload_n 0, 1) := dX12_goAll_14g.1
theorem dX12_goAll_15 : decode cX12_goAll 15 = .ok (.dup, 1) := dX12_goAll_14g.2.1
theorem dX12_goAll_16 : decode cX12_goAll 16 = .ok (.getfield 11, 3) := dX12_goAll_14g.2.2.1
theorem dX12_goAll_19 : decode cX12_goAll 19 = .ok (.iconst 1, 1) := dX12_goAll_14g.2.2.2.1
theorem dX12_goAll_20 : decode cX12_goAll 20 = .ok (.iadd, 1) := dX12_goAll_14g.2.2.2.2.1
theorem dX12_goAll_21 : decode cX12_goAll 21 = .ok (.putfield 11, 3) := dX12_goAll_14g.2.2.2.2.2.1
theorem dX12_goAll_24 : decode cX12_goAll 24 = .ok (.iload_n 2, 1) := dX12_goAll_14g.2.2.2.2.2.2.1
theorem dX12_goAll_25 : decode cX12_goAll 25 = .ok (.ireturn, 1) := dX12_goAll_14g.2.2.2.2.2.2.2
set_option maxHeartbeats 4000000 in
set_option maxRecDepth 100000 in
theorem c_X12_goAll_312 (l : Launch) (Eo : Nat → Nat) (D : va_G) (G : th_G) (h0 : Nat) (hG0 : G h0 = some (10, 0)) (hU1 : UQ G 1) : Met l yX12_goAll (tb (.code yX12_goAll cX12_goAll 3 (some .int))) (rm 0) (va_Pc [.ref h0, .int 312] (PX Eo D G (fun H => True))) (QXi (eu Eo 10 (0)) D G (fun r H => (r : Int32).toInt = ((Eo 10 : Nat) : Int))) 0 0 (th_A G) := by
  refine Met.ofW (cc := cX12_goAll) (maxL := 3) (ret := (some .int)) (by decide) rfl ?_
  intro p e s m args below meth c s₁ B hml hv
  obtain ⟨hav, ⟨hI, hN, hK⟩, hX⟩ := hv
  have hx := B.exec
  have hb := B.bytes
  have hr := B.returns
  have hts := atoms_spec (ws := tb (.code yX12_goAll cX12_goAll 3 (some .int))) B.pre
  have hown : s.vm.findClass RX12 = some m.cls := findClass_of_methodNamed B.named
  have hlocks := B.notSynchronized
  have hS : va_S (th_A G) s.heap s.heap [] := va_S.rf
  have hl := lv_entry ([.ref h0, .int 312]) (n := 3) (Nat.le_of_ble_eq_true rfl)
  rw [show entryFrame m args 3 = entryFrame m ([.ref h0, .int 312] : List Value).toArray 3 from by rw [hav], lg_entry_eq]
  generalize (lg_sl ([.ref h0, .int 312]) ++ List.replicate (3 - (lg_sl ([.ref h0, .int 312])).length) Slot.unset).toArray = ls at hl ⊢
  obtain ⟨E, hEe⟩ : ∃ x : Nat → Nat, x = eu Eo 10 (0) := ⟨_, rfl⟩
  have hl : lv_has ls 3 [(0, .ref h0), (1, .int 312)] := hl
  generalize hR : (headSpec (tb (.code yX12_goAll cX12_goAll 3 (some .int))) (rm 0)).room = R
  have hR := hR.symm
  generalize hQ : MQ below (QXi (eu Eo 10 (0)) D G (fun r H => (r : Int32).toInt = ((Eo 10 : Nat) : Int))) args s 0 0 (th_A G) = QF
  have hQ := hQ.symm
  refine lv_aload_n hx hb dX12_goAll_0 rfl (lv_at hl 0 rfl) ?_
  refine gmA hx hb hts inT12 hown hK hI List.not_mem_nil hG0 3 (by decide) (hts _ (tb_c wd_1236)) rfl rfl dX12_goAll_1 (fun a1 hq2 hf3 => ?_)
  refine lv_iload_n hx hb dX12_goAll_4 rfl (lv_at hl 1 rfl) ?_
  obtain ⟨F4, hA5, hP6⟩ := om_1 hI hq2 List.not_mem_nil
  refine th_iald hx hb hK hA5 0 rfl (iv_in (X := (312)) (by decide) (by omega) (by omega)) dX12_goAll_5 (fun v7 e8 => ?_)
  have k9 := kg_m312 (kOk.get (i := 312) hP6 e8 (X := (312)) (by decide) (by omega) (by omega)) (by omega) (by omega) (by omega)
  refine lv_istore_n (lv' := [(2, .int v7), (0, .ref h0), (1, .int 312)]) hx hb dX12_goAll_6 rfl hl (by decide) rfl (fun ls hl => ?_)
  refine lv_aload_n hx hb dX12_goAll_7 rfl (lv_at hl 1 rfl) ?_
  refine gmA hx hb hts inT12 hown hK hI List.not_mem_nil hG0 3 (by decide) (hts _ (tb_c wd_1236)) rfl rfl dX12_goAll_8 (fun a10 hq11 hf12 => ?_)
  obtain rfl := fr.uniq (by decide) hf3 hf12
  refine lv_iload_n hx hb dX12_goAll_11 rfl (lv_at hl 2 rfl) ?_
  refine lv_iconst (v := 0) hx hb dX12_goAll_12 (by decide) ?_
  refine th_iast hx hb hK hA5 0 rfl hS ⟨_, hq2⟩ (iv_in (X := (312)) (by decide) (by omega) (by omega)) dX12_goAll_13 (fun H locs hA13 oq hS => ?_)
  have k14 : (0 : Int32).toInt = 0 := by decide
  have hPt := kOk.setT (i := 312) (v := 0) (c' := (0 : Int32).toInt.toNat) hP6 (by decide) (by omega) (by omega)
  have hEq : eu Eo 10 ((0 : Int32).toInt.toNat) = E := (congrArg (fun z => eu Eo 10 z) (show ((0 : Int32).toInt.toNat) = 0 from by omega)).trans hEe.symm
  have hI : th_I (okM E) D G [] H := by rw [← hEq]; exact em_put hI hq2 hU1 (fun _ _ _ => okM_e10 rfl) hA13 (ok_m1T hPt) oq
  have hK : va_K D vwCl (th_tys E) s := by rw [← hEq, tys_eu (by omega)]; exact hK
  have hE10 : E 10 = ((0 : Int32).toInt.toNat) := by rw [← hEq, eu_at]
  have hf3 := fr.arr hG0 hq2 (by decide) oq hf3
  refine lv_aload_n hx hb dX12_goAll_14 rfl (lv_at hl 1 rfl) ?_
  refine lv_dup hx hb dX12_goAll_15 rfl ?_
  refine gmI hx hb hts inT12 hown hK hI List.not_mem_nil hG0 1 (by decide) (hts _ (tb_c wd_1234)) rfl rfl dX12_goAll_16 (fun w15 hg16 k17 k18 => ?_)
  refine lv_iconst (v := 1) hx hb dX12_goAll_19 (by decide) ?_
  refine lv_iadd hx hb dX12_goAll_20 ?_
  refine lv_topi (fun v19 e20 => ?_)
  try have tv19 : v19.toInt = w15.toInt + (1) := iv_add rfl (by decide) e20 (by omega) (by omega)
  have k21 := iv_lo v19
  have k22 := iv_hi v19
  refine pmI (ty := .int) hx hb hts inT12 hown hK hI List.not_mem_nil hG0 hS ⟨_, hG0⟩ 1 (by decide) (hts _ (tb_c wd_1234)) rfl rfl (by decide +kernel) rfl rfl rfl (by omega) (by omega) dX12_goAll_21 (fun H locs hI hgP hS => ?_)
  have hg23 := hgP.2.1
  have hf3 := hgP.2.2.2 3 _ (by decide) (by decide) hf3
  refine lv_iload_n hx hb dX12_goAll_24 rfl (lv_at hl 0 rfl) ?_
  have hE10 : E 10 = 0 := by rw [hEe]; exact eu_at
  try rw [gD_t (by omega)] at hE10
  try rw [gI_t (by simp only [rg]; omega)] at hE10
  have hpost : (v7 : Int32).toInt = ((Eo 10 : Nat) : Int) := by omega
  subst hEe
  rw [hQ]
  exact W.iret (v := v7) hx hb hr (fun t ht hW => ⟨⟨v7, v7, rfl, rfl, ⟨by rw [ht]; exact hI, hN.warm hW, va_K.moved hW.alike hK⟩, by first | (rw [ht]; exact hpost) | exact hpost⟩, hS.F ht⟩) hS.2.2 dX12_goAll_25
set_option maxHeartbeats 4000000 in
set_option maxRecDepth 100000 in
theorem c_X12_goAll_313 (l : Launch) (E : Nat → Nat) (D : va_G) (G : th_G) (h0 : Nat) (hG0 : G h0 = some (10, 0)) : Met l yX12_goAll (tb (.code yX12_goAll cX12_goAll 3 (some .int))) (rm 0) (va_Pc [.ref h0, .int 313] (PX E D G (fun H => True))) (QXi E D G (fun r H => True)) 0 0 (th_A G) := by
  refine Met.ofW (cc := cX12_goAll) (maxL := 3) (ret := (some .int)) (by decide) rfl ?_
  intro p e s m args below meth c s₁ B hml hv
  obtain ⟨hav, ⟨hI, hN, hK⟩, hX⟩ := hv
  have hx := B.exec
  have hb := B.bytes
  have hr := B.returns
  have hts := atoms_spec (ws := tb (.code yX12_goAll cX12_goAll 3 (some .int))) B.pre
  have hown : s.vm.findClass RX12 = some m.cls := findClass_of_methodNamed B.named
  have hlocks := B.notSynchronized
  have hS : va_S (th_A G) s.heap s.heap [] := va_S.rf
  have hl := lv_entry ([.ref h0, .int 313]) (n := 3) (Nat.le_of_ble_eq_true rfl)
  rw [show entryFrame m args 3 = entryFrame m ([.ref h0, .int 313] : List Value).toArray 3 from by rw [hav], lg_entry_eq]
  generalize (lg_sl ([.ref h0, .int 313]) ++ List.replicate (3 - (lg_sl ([.ref h0, .int 313])).length) Slot.unset).toArray = ls at hl ⊢
  have hl : lv_has ls 3 [(0, .ref h0), (1, .int 313)] := hl
  generalize hR : (headSpec (tb (.code yX12_goAll cX12_goAll 3 (some .int))) (rm 0)).room = R
  have hR := hR.symm
  generalize hQ : MQ below (QXi E D G (fun r H => True)) args s 0 0 (th_A G) = QF
  have hQ := hQ.symm
  refine lv_aload_n hx hb dX12_goAll_0 rfl (lv_at hl 0 rfl) ?_
  refine gmA hx hb hts inT12 hown hK hI List.not_mem_nil hG0 3 (by decide) (hts _ (tb_c wd_1236)) rfl rfl dX12_goAll_1 (fun a1 hq2 hf3 => ?_)
  refine lv_iload_n hx hb dX12_goAll_4 rfl (lv_at hl 1 rfl) ?_
  obtain ⟨F4, hA5, hP6⟩ := om_1 hI hq2 List.not_mem_nil
  refine th_iald hx hb hK hA5 0 rfl (iv_in (X := (313)) (by decide) (by omega) (by omega)) dX12_goAll_5 (fun v7 e8 => ?_)
  have k9 := kg_m313 (kOk.get (i := 313) hP6 e8 (X := (313)) (by decide) (by omega) (by omega)) (by omega) (by omega) (by omega)
  refine lv_istore_n (lv' := [(2, .int v7), (0, .ref h0), (1, .int 313)]) hx hb dX12_goAll_6 rfl hl (by decide) rfl (fun ls hl => ?_)
  refine lv_aload_n hx hb dX12_goAll_7 rfl (lv_at hl 1 rfl) ?_
  refine gmA hx hb hts inT12 hown hK hI List.not_mem_nil hG0 3 (by decide) (hts _ (tb_c wd_1236)) rfl rfl dX12_goAll_8 (fun a10 hq11 hf12 => ?_)
  obtain rfl := fr.uniq (by decide) hf3 hf12
  refine lv_iload_n hx hb dX12_goAll_11 rfl (lv_at hl 2 rfl) ?_
  refine lv_iconst (v := 0) hx hb dX12_goAll_12 (by decide) ?_
  refine th_iast hx hb hK hA5 0 rfl hS ⟨_, hq2⟩ (iv_in (X := (313)) (by decide) (by omega) (by omega)) dX12_goAll_13 (fun H locs hA13 oq hS => ?_)
  have hP14 := kOk.set (i := 313) (v := 0) hP6 (X := (313)) (V := (0)) (by decide) (by decide) (by omega) (by omega) (ks_m313 (by omega) (by omega) (by omega) ⟨by omega, by omega⟩)
  have hI := th_I.put hI hq2 hA13 (ok_m1 hP14) oq
  have hf3 := fr.arr hG0 hq2 (by decide) oq hf3
  have e15 : 0 = (upd F4 (313 : Int32).toNatClampNeg 0) (313 : Int32).toNatClampNeg := rd_us
  refine lv_aload_n hx hb dX12_goAll_14 rfl (lv_at hl 1 rfl) ?_
  refine lv_dup hx hb dX12_goAll_15 rfl ?_
  refine gmI hx hb hts inT12 hown hK hI List.not_mem_nil hG0 1 (by decide) (hts _ (tb_c wd_1234)) rfl rfl dX12_goAll_16 (fun w16 hg17 k18 k19 => ?_)
  refine lv_iconst (v := 1) hx hb dX12_goAll_19 (by decide) ?_
  refine lv_iadd hx hb dX12_goAll_20 ?_
  refine lv_topi (fun v20 e21 => ?_)
  try have tv20 : v20.toInt = w16.toInt + (1) := iv_add rfl (by decide) e21 (by omega) (by omega)
  have k22 := iv_lo v20
  have k23 := iv_hi v20
  refine pmI (ty := .int) hx hb hts inT12 hown hK hI List.not_mem_nil hG0 hS ⟨_, hG0⟩ 1 (by decide) (hts _ (tb_c wd_1234)) rfl rfl (by decide +kernel) rfl rfl rfl (by omega) (by omega) dX12_goAll_21 (fun H locs hI hgP hS => ?_)
  have hg24 := hgP.2.1
  have hf3 := hgP.2.2.2 3 _ (by decide) (by decide) hf3
  have hA13 := va_at.kept hA13 (hgP.1 _ (m_ne hq2 hG0 (by first | decide | (dsimp only; decide))))
  refine lv_iload_n hx hb dX12_goAll_24 rfl (lv_at hl 0 rfl) ?_
  have hpost : True := trivial
  rw [hQ]
  exact W.iret (v := v7) hx hb hr (fun t ht hW => ⟨⟨v7, v7, rfl, rfl, ⟨by rw [ht]; exact hI, hN.warm hW, va_K.moved hW.alike hK⟩, by first | (rw [ht]; exact hpost) | exact hpost⟩, hS.F ht⟩) hS.2.2 dX12_goAll_25
set_option maxHeartbeats 4000000 in
set_option maxRecDepth 100000 in
theorem c_X12_goAll_314 (l : Launch) (E : Nat → Nat) (D : va_G) (G : th_G) (h0 : Nat) (hG0 : G h0 = some (10, 0)) : Met l yX12_goAll (tb (.code yX12_goAll cX12_goAll 3 (some .int))) (rm 0) (va_Pc [.ref h0, .int 314] (PX E D G (fun H => True))) (QXi E D G (fun r H => True)) 0 0 (th_A G) := by
  refine Met.ofW (cc := cX12_goAll) (maxL := 3) (ret := (some .int)) (by decide) rfl ?_
  intro p e s m args below meth c s₁ B hml hv
  obtain ⟨hav, ⟨hI, hN, hK⟩, hX⟩ := hv
  have hx := B.exec
  have hb := B.bytes
  have hr := B.returns
  have hts := atoms_spec (ws := tb (.code yX12_goAll cX12_goAll 3 (some .int))) B.pre
  have hown : s.vm.findClass RX12 = some m.cls := findClass_of_methodNamed B.named
  have hlocks := B.notSynchronized
  have hS : va_S (th_A G) s.heap s.heap [] := va_S.rf
  have hl := lv_entry ([.ref h0, .int 314]) (n := 3) (Nat.le_of_ble_eq_true rfl)
  rw [show entryFrame m args 3 = entryFrame m ([.ref h0, .int 314] : List Value).toArray 3 from by rw [hav], lg_entry_eq]
  generalize (lg_sl ([.ref h0, .int 314]) ++ List.replicate (3 - (lg_sl ([.ref h0, .int 314])).length) Slot.unset).toArray = ls at hl ⊢
  have hl : lv_has ls 3 [(0, .ref h0), (1, .int 314)] := hl
  generalize hR : (headSpec (tb (.code yX12_goAll cX12_goAll 3 (some .int))) (rm 0)).room = R
  have hR := hR.symm
  generalize hQ : MQ below (QXi E D G (fun r H => True)) args s 0 0 (th_A G) = QF
  have hQ := hQ.symm
  refine lv_aload_n hx hb dX12_goAll_0 rfl (lv_at hl 0 rfl) ?_
  refine gmA hx hb hts inT12 hown hK hI List.not_mem_nil hG0 3 (by decide) (hts _ (tb_c wd_1236)) rfl rfl dX12_goAll_1 (fun a1 hq2 hf3 => ?_)
  refine lv_iload_n hx hb dX12_goAll_4 rfl (lv_at hl 1 rfl) ?_
  obtain ⟨F4, hA5, hP6⟩ := om_1 hI hq2 List.not_mem_nil
  refine th_iald hx hb hK hA5 0 rfl (iv_in (X := (314)) (by decide) (by omega) (by omega)) dX12_goAll_5 (fun v7 e8 => ?_)
  have k9 := kg_m314 (kOk.get (i := 314) hP6 e8 (X := (314)) (by decide) (by omega) (by omega)) (by omega) (by omega) (by omega)
  refine lv_istore_n (lv' := [(2, .int v7), (0, .ref h0), (1, .int 314)]) hx hb dX12_goAll_6 rfl hl (by decide) rfl (fun ls hl => ?_)
  refine lv_aload_n hx hb dX12_goAll_7 rfl (lv_at hl 1 rfl) ?_
  refine gmA hx hb hts inT12 hown hK hI List.not_mem_nil hG0 3 (by decide) (hts _ (tb_c wd_1236)) rfl rfl dX12_goAll_8 (fun a10 hq11 hf12 => ?_)
  obtain rfl := fr.uniq (by decide) hf3 hf12
  refine lv_iload_n hx hb dX12_goAll_11 rfl (lv_at hl 2 rfl) ?_
  refine lv_iconst (v := 0) hx hb dX12_goAll_12 (by decide) ?_
  refine th_iast hx hb hK hA5 0 rfl hS ⟨_, hq2⟩ (iv_in (X := (314)) (by decide) (by omega) (by omega)) dX12_goAll_13 (fun H locs hA13 oq hS => ?_)
  have hP14 := kOk.set (i := 314) (v := 0) hP6 (X := (314)) (V := (0)) (by decide) (by decide) (by omega) (by omega) (ks_m314 (by omega) (by omega) (by omega) ⟨by omega, by omega⟩)
  have hI := th_I.put hI hq2 hA13 (ok_m1 hP14) oq
  have hf3 := fr.arr hG0 hq2 (by decide) oq hf3
  have e15 : 0 = (upd F4 (314 : Int32).toNatClampNeg 0) (314 : Int32).toNatClampNeg := rd_us
  refine lv_aload_n hx hb dX12_goAll_14 rfl (lv_at hl 1 rfl) ?_
  refine lv_dup hx hb dX12_goAll_15 rfl ?_
  refine gmI hx hb hts inT12 hown hK hI List.not_mem_nil hG0 1 (by decide) (hts _ (tb_c wd_1234)) rfl rfl dX12_goAll_16 (fun w16 hg17 k18 k19 => ?_)
  refine lv_iconst (v := 1) hx hb dX12_goAll_19 (by decide) ?_
  refine lv_iadd hx hb dX12_goAll_20 ?_
  refine lv_topi (fun v20 e21 => ?_)
  try have tv20 : v20.toInt = w16.toInt + (1) := iv_add rfl (by decide) e21 (by omega) (by omega)
  have k22 := iv_lo v20
  have k23 := iv_hi v20
  refine pmI (ty := .int) hx hb hts inT12 hown hK hI List.not_mem_nil hG0 hS ⟨_, hG0⟩ 1 (by decide) (hts _ (tb_c wd_1234)) rfl rfl (by decide +kernel) rfl rfl rfl (by omega) (by omega) dX12_goAll_21 (fun H locs hI hgP hS => ?_)
  have hg24 := hgP.2.1
  have hf3 := hgP.2.2.2 3 _ (by decide) (by decide) hf3
  have hA13 := va_at.kept hA13 (hgP.1 _ (m_ne hq2 hG0 (by first | decide | (dsimp only; decide))))
  refine lv_iload_n hx hb dX12_goAll_24 rfl (lv_at hl 0 rfl) ?_
  have hpost : True := trivial
  rw [hQ]
  exact W.iret (v := v7) hx hb hr (fun t ht hW => ⟨⟨v7, v7, rfl, rfl, ⟨by rw [ht]; exact hI, hN.warm hW, va_K.moved hW.alike hK⟩, by first | (rw [ht]; exact hpost) | exact hpost⟩, hS.F ht⟩) hS.2.2 dX12_goAll_25
