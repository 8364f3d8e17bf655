theorem wd_1 : (Cond.initialized RX11) ∈ TB := tw 1 (by decide +kernel) (by decide +kernel)
theorem wd_401 : (Cond.methodLink RX11 (106 : Nat) yX11_isCell) ∈ TB := tw 401 (by decide +kernel) (by decide +kernel)
theorem wd_402 : (Jvm.Cond.static yX11_isCell) ∈ TB := tw 402 (by decide +kernel) (by decide +kernel)
theorem wd_403 : (Cond.code yX11_isCell cX11_isCell 1 (Option.some Jvm.ClassFile.FieldType.boolean)) ∈ TB := tw 403 (by decide +kernel) (by decide +kernel)
theorem wd_466 : (Cond.methodLink RX11 (211 : Nat) yX11_isHour) ∈ TB := tw 466 (by decide +kernel) (by decide +kernel)
theorem wd_467 : (Jvm.Cond.static yX11_isHour) ∈ TB := tw 467 (by decide +kernel) (by decide +kernel)
theorem wd_468 : (Cond.code yX11_isHour cX11_isHour 1 (Option.some Jvm.ClassFile.FieldType.boolean)) ∈ TB := tw 468 (by decide +kernel) (by decide +kernel)
theorem wd_620 : (Cond.methodLink RX11 (269 : Nat) yX11_isColour) ∈ TB := tw 620 (by decide +kernel) (by decide +kernel)
theorem wd_621 : (Jvm.Cond.static yX11_isColour) ∈ TB := tw 621 (by decide +kernel) (by decide +kernel)
theorem wd_622 : (Cond.code yX11_isColour cX11_isColour 1 (Option.some Jvm.ClassFile.FieldType.boolean)) ∈ TB := tw 622 (by decide +kernel) (by decide +kernel)
theorem dX11_isCell_0g : (decode cX11_isCell 0 = .ok (.iload_n 0, 1)) ∧ (decode cX11_isCell 1 = .ok (.ifCond .lt 13, 3)) ∧ (decode cX11_isCell 4 = .ok (.iload_n 0, 1)) ∧ (decode cX11_isCell 5 = .ok (.bipush 24, 2)) ∧ (decode cX11_isCell 7 = .ok (.if_icmp .ge 7, 3)) ∧ (decode cX11_isCell 10 = .ok (.iconst 1, 1)) ∧ (decode cX11_isCell 11 = .ok (.goto 4, 3)) ∧ (decode cX11_isCell 14 = .ok (.iconst 0, 1)) ∧ (decode cX11_isCell 15 = .ok (.ireturn, 1)) := by decide +kernel
theorem dX11_isCell_0 : decode cX11_isCell 0 = .ok (.iload_n 0, 1) := dX11_isCell_0g.1
theorem dX11_isCell_1 : decode cX11_isCell 1 = .ok (.ifCond .lt 13, 3) := dX11_isCell_0g.2.1
theorem dX11_isCell_4 : decode cX11_isCell 4 = .ok (.iload_n 0, 1) := dX11_isCell_0g.2.2.1
theorem dX11_isCell_5 : decode cX11_isCell 5 = .ok (.bipush 24, 2) := dX11_isCell_0g.2.2.2.1
theorem dX11_isCell_7 : decode cX11_isCell 7 = .ok (.if_icmp .ge 7, 3) := dX11_isCell_0g.2.2.2.2.1
theorem dX11_isCell_10 : decode cX11_isCell 10 = .ok (.iconst 1, 1) := dX11_isCell_0g.2.2.2.2.2.1
theorem dX11_isCell_11 : decode cX11_isCell 11 = .ok (.goto 4, 3) := dX11_isCell_0g.2.2.2.2.2.2.1
theorem dX11_isCell_14 : decode cX11_isCell 14 = .ok (.iconst 0, 1) := dX11_isCell_0g.2.2.2.2.2.2.2.1
theorem dX11_isCell_15 : decode cX11_isCell 15 = .ok (.ireturn, 1) := dX11_isCell_0g.2.2.2.2.2.2.2.2
set_option maxHeartbeats 4000000 in
set_option maxRecDepth 100000 in
theorem c_X11_isCell (l : Launch) (H0 : Heap) (x0 : Int32) : Met l yX11_isCell (tb (.code yX11_isCell cX11_isCell 1 (some .boolean))) (rm 0) (va_Pc [.int x0] (PS H0)) (QS H0 (fun r => ((r : Int32) = 1 ∧ rg x0 0 23) ∨ ((r : Int32) = 0 ∧ ¬ rg x0 0 23))) 0 0 (fun _ => False) := by
  refine Met.ofW (cc := cX11_isCell) (maxL := 1) (ret := (some .boolean)) (by decide) rfl ?_
  intro p e s m args below meth c s₁ B hml hv
  obtain ⟨hav, rfl, hN⟩ := hv
  have hx := B.exec
  have hb := B.bytes
  have hr := B.returns
  have hts := atoms_spec (ws := tb (.code yX11_isCell cX11_isCell 1 (some .boolean))) B.pre
  have hown : s.vm.findClass RX11 = some m.cls := findClass_of_methodNamed B.named
  have hlocks := B.notSynchronized
  have hS : va_S (fun _ => False) s.heap s.heap [] := va_S.rf
  have hl := lv_entry ([.int x0]) (n := 1) (Nat.le_of_ble_eq_true rfl)
  rw [show entryFrame m args 1 = entryFrame m ([.int x0] : List Value).toArray 1 from by rw [hav], lg_entry_eq]
  generalize (lg_sl ([.int x0]) ++ List.replicate (1 - (lg_sl ([.int x0])).length) Slot.unset).toArray = ls at hl ⊢
  have hl : lv_has ls 1 [(0, .int x0)] := hl
  generalize hR : (headSpec (tb (.code yX11_isCell cX11_isCell 1 (some .boolean))) (rm 0)).room = R
  have hR := hR.symm
  generalize hQ : MQ below (QS s.heap (fun r => ((r : Int32) = 1 ∧ rg x0 0 23) ∨ ((r : Int32) = 0 ∧ ¬ rg x0 0 23))) args s 0 0 (fun _ => False) = QF
  have hQ := hQ.symm
  refine lv_iload_n hx hb dX11_isCell_0 rfl (lv_at hl 0 rfl) ?_
  have k1 := iv_lo x0
  have k2 := iv_hi x0
  refine lv_if_lt (tgt := 14) hx hb dX11_isCell_1 (by decide) (fun c3 => ?_) (fun c3 => ?_)
  · skip
    have k4 := iv_lt (X := x0.toInt) (Y := (0)) rfl (by decide) c3
    refine lv_iconst (v := 0) hx hb dX11_isCell_14 (by decide) ?_
    have hpost : ((0 : Int32) = 1 ∧ rg x0 0 23) ∨ ((0 : Int32) = 0 ∧ ¬ rg x0 0 23) := by first | exact Or.inl ⟨rfl, by simp only [rg]; omega⟩ | exact Or.inr ⟨rfl, by simp only [rg]; omega⟩
    rw [hQ]
    exact W.zret (v := 0) hx hb hr (by decide) (fun t ht hW => ⟨⟨0, (), rfl, hpost, ht⟩, hS.F ht⟩) hS.2.2 dX11_isCell_15
  · skip
    have k5 := iv_nlt (X := x0.toInt) (Y := (0)) rfl (by decide) c3
    refine lv_iload_n hx hb dX11_isCell_4 rfl (lv_at hl 0 rfl) ?_
    refine lv_bipush (v := 24) hx hb dX11_isCell_5 (by decide) ?_
    refine lv_icmp_ge (tgt := 14) hx hb dX11_isCell_7 (by decide) (fun c6 => ?_) (fun c6 => ?_)
    · skip
      have k7 := iv_le (X := (24)) (Y := x0.toInt) (by decide) rfl c6
      refine lv_iconst (v := 0) hx hb dX11_isCell_14 (by decide) ?_
      have hpost : ((0 : Int32) = 1 ∧ rg x0 0 23) ∨ ((0 : Int32) = 0 ∧ ¬ rg x0 0 23) := by first | exact Or.inl ⟨rfl, by simp only [rg]; omega⟩ | exact Or.inr ⟨rfl, by simp only [rg]; omega⟩
      rw [hQ]
      exact W.zret (v := 0) hx hb hr (by decide) (fun t ht hW => ⟨⟨0, (), rfl, hpost, ht⟩, hS.F ht⟩) hS.2.2 dX11_isCell_15
    · skip
      have k8 := iv_nle (X := (24)) (Y := x0.toInt) (by decide) rfl c6
      refine lv_iconst (v := 1) hx hb dX11_isCell_10 (by decide) ?_
      refine lv_goto (tgt := 15) hx hb dX11_isCell_11 (by decide) ?_
      have hpost : ((1 : Int32) = 1 ∧ rg x0 0 23) ∨ ((1 : Int32) = 0 ∧ ¬ rg x0 0 23) := by first | exact Or.inl ⟨rfl, by simp only [rg]; omega⟩ | exact Or.inr ⟨rfl, by simp only [rg]; omega⟩
      rw [hQ]
      exact W.zret (v := 1) hx hb hr (by decide) (fun t ht hW => ⟨⟨1, (), rfl, hpost, ht⟩, hS.F ht⟩) hS.2.2 dX11_isCell_15
theorem dX11_isPlace_0g : (decode cX11_isPlace 0 = .ok (.iload_n 0, 1)) ∧ (decode cX11_isPlace 1 = .ok (.ifCond .lt 13, 3)) ∧ (decode cX11_isPlace 4 = .ok (.iload_n 0, 1)) ∧ (decode cX11_isPlace 5 = .ok (.bipush 24, 2)) ∧ (decode cX11_isPlace 7 = .ok (.if_icmp .gt 7, 3)) ∧ (decode cX11_isPlace 10 = .ok (.iconst 1, 1)) ∧ (decode cX11_isPlace 11 = .ok (.goto 4, 3)) ∧ (decode cX11_isPlace 14 = .ok (.iconst 0, 1)) ∧ (decode cX11_isPlace 15 = .ok (.ireturn, 1)) := by decide +kernel
theorem dX11_isPlace_0 : decode cX11_isPlace 0 = .ok (.iload_n 0, 1) := dX11_isPlace_0g.1
theorem dX11_isPlace_1 : decode cX11_isPlace 1 = .ok (.ifCond .lt 13, 3) := dX11_isPlace_0g.2.1
theorem dX11_isPlace_4 : decode cX11_isPlace 4 = .ok (.iload_n 0, 1) := dX11_isPlace_0g.2.2.1
theorem dX11_isPlace_5 : decode cX11_isPlace 5 = .ok (.bipush 24, 2) := dX11_isPlace_0g.2.2.2.1
theorem dX11_isPlace_7 : decode cX11_isPlace 7 = .ok (.if_icmp .gt 7, 3) := dX11_isPlace_0g.2.2.2.2.1
theorem dX11_isPlace_10 : decode cX11_isPlace 10 = .ok (.iconst 1, 1) := dX11_isPlace_0g.2.2.2.2.2.1
theorem dX11_isPlace_11 : decode cX11_isPlace 11 = .ok (.goto 4, 3) := dX11_isPlace_0g.2.2.2.2.2.2.1
theorem dX11_isPlace_14 : decode cX11_isPlace 14 = .ok (.iconst 0, 1) := dX11_isPlace_0g.2.2.2.2.2.2.2.1
theorem dX11_isPlace_15 : decode cX11_isPlace 15 = .ok (.ireturn, 1) := dX11_isPlace_0g.2.2.2.2.2.2.2.2
set_option maxHeartbeats 4000000 in
set_option maxRecDepth 100000 in
theorem c_X11_isPlace (l : Launch) (H0 : Heap) (x0 : Int32) : Met l yX11_isPlace (tb (.code yX11_isPlace cX11_isPlace 1 (some .boolean))) (rm 0) (va_Pc [.int x0] (PS H0)) (QS H0 (fun r => ((r : Int32) = 1 ∧ rg x0 0 24) ∨ ((r : Int32) = 0 ∧ ¬ rg x0 0 24))) 0 0 (fun _ => False) := by
  refine Met.ofW (cc := cX11_isPlace) (maxL := 1) (ret := (some .boolean)) (by decide) rfl ?_
  intro p e s m args below meth c s₁ B hml hv
  obtain ⟨hav, rfl, hN⟩ := hv
  have hx := B.exec
  have hb := B.bytes
  have hr := B.returns
  have hts := atoms_spec (ws := tb (.code yX11_isPlace cX11_isPlace 1 (some .boolean))) B.pre
  have hown : s.vm.findClass RX11 = some m.cls := findClass_of_methodNamed B.named
  have hlocks := B.notSynchronized
  have hS : va_S (fun _ => False) s.heap s.heap [] := va_S.rf
  have hl := lv_entry ([.int x0]) (n := 1) (Nat.le_of_ble_eq_true rfl)
  rw [show entryFrame m args 1 = entryFrame m ([.int x0] : List Value).toArray 1 from by rw [hav], lg_entry_eq]
  generalize (lg_sl ([.int x0]) ++ List.replicate (1 - (lg_sl ([.int x0])).length) Slot.unset).toArray = ls at hl ⊢
  have hl : lv_has ls 1 [(0, .int x0)] := hl
  generalize hR : (headSpec (tb (.code yX11_isPlace cX11_isPlace 1 (some .boolean))) (rm 0)).room = R
  have hR := hR.symm
  generalize hQ : MQ below (QS s.heap (fun r => ((r : Int32) = 1 ∧ rg x0 0 24) ∨ ((r : Int32) = 0 ∧ ¬ rg x0 0 24))) args s 0 0 (fun _ => False) = QF
  have hQ := hQ.symm
  refine lv_iload_n hx hb dX11_isPlace_0 rfl (lv_at hl 0 rfl) ?_
  have k1 := iv_lo x0
  have k2 := iv_hi x0
  refine lv_if_lt (tgt := 14) hx hb dX11_isPlace_1 (by decide) (fun c3 => ?_) (fun c3 => ?_)
  · skip
    have k4 := iv_lt (X := x0.toInt) (Y := (0)) rfl (by decide) c3
    refine lv_iconst (v := 0) hx hb dX11_isPlace_14 (by decide) ?_
    have hpost : ((0 : Int32) = 1 ∧ rg x0 0 24) ∨ ((0 : Int32) = 0 ∧ ¬ rg x0 0 24) := by first | exact Or.inl ⟨rfl, by simp only [rg]; omega⟩ | exact Or.inr ⟨rfl, by simp only [rg]; omega⟩
    rw [hQ]
    exact W.zret (v := 0) hx hb hr (by decide) (fun t ht hW => ⟨⟨0, (), rfl, hpost, ht⟩, hS.F ht⟩) hS.2.2 dX11_isPlace_15
  · skip
    have k5 := iv_nlt (X := x0.toInt) (Y := (0)) rfl (by decide) c3
    refine lv_iload_n hx hb dX11_isPlace_4 rfl (lv_at hl 0 rfl) ?_
    refine lv_bipush (v := 24) hx hb dX11_isPlace_5 (by decide) ?_
    refine lv_icmp_gt (tgt := 14) hx hb dX11_isPlace_7 (by decide) (fun c6 => ?_) (fun c6 => ?_)
    · skip
      have k7 := iv_lt (X := (24)) (Y := x0.toInt) (by decide) rfl c6
      refine lv_iconst (v := 0) hx hb dX11_isPlace_14 (by decide) ?_
      have hpost : ((0 : Int32) = 1 ∧ rg x0 0 24) ∨ ((0 : Int32) = 0 ∧ ¬ rg x0 0 24) := by first | exact Or.inl ⟨rfl, by simp only [rg]; omega⟩ | exact Or.inr ⟨rfl, by simp only [rg]; omega⟩
      rw [hQ]
      exact W.zret (v := 0) hx hb hr (by decide) (fun t ht hW => ⟨⟨0, (), rfl, hpost, ht⟩, hS.F ht⟩) hS.2.2 dX11_isPlace_15
    · skip
      have k8 := iv_nlt (X := (24)) (Y := x0.toInt) (by decide) rfl c6
      refine lv_iconst (v := 1) hx hb dX11_isPlace_10 (by decide) ?_
      refine lv_goto (tgt := 15) hx hb dX11_isPlace_11 (by decide) ?_
      have hpost : ((1 : Int32) = 1 ∧ rg x0 0 24) ∨ ((1 : Int32) = 0 ∧ ¬ rg x0 0 24) := by first | exact Or.inl ⟨rfl, by simp only [rg]; omega⟩ | exact Or.inr ⟨rfl, by simp only [rg]; omega⟩
      rw [hQ]
      exact W.zret (v := 1) hx hb hr (by decide) (fun t ht hW => ⟨⟨1, (), rfl, hpost, ht⟩, hS.F ht⟩) hS.2.2 dX11_isPlace_15
theorem dX11_isHour_0g : (decode cX11_isHour 0 = .ok (.iload_n 0, 1)) ∧ (decode cX11_isHour 1 = .ok (.ifCond .lt 13, 3)) ∧ (decode cX11_isHour 4 = .ok (.iload_n 0, 1)) ∧ (decode cX11_isHour 5 = .ok (.bipush 96, 2)) ∧ (decode cX11_isHour 7 = .ok (.if_icmp .ge 7, 3)) ∧ (decode cX11_isHour 10 = .ok (.iconst 1, 1)) ∧ (decode cX11_isHour 11 = .ok (.goto 4, 3)) ∧ (decode cX11_isHour 14 = .ok (.iconst 0, 1)) ∧ (decode cX11_isHour 15 = .ok (.ireturn, 1)) := by decide +kernel
theorem dX11_isHour_0 : decode cX11_isHour 0 = .ok (.iload_n 0, 1) := dX11_isHour_0g.1
theorem dX11_isHour_1 : decode cX11_isHour 1 = .ok (.ifCond .lt 13, 3) := dX11_isHour_0g.2.1
theorem dX11_isHour_4 : decode cX11_isHour 4 = .ok (.iload_n 0, 1) := dX11_isHour_0g.2.2.1
theorem dX11_isHour_5 : decode cX11_isHour 5 = .ok (.bipush 96, 2) := dX11_isHour_0g.2.2.2.1
theorem dX11_isHour_7 : decode cX11_isHour 7 = .ok (.if_icmp .ge 7, 3) := dX11_isHour_0g.2.2.2.2.1
theorem dX11_isHour_10 : decode cX11_isHour 10 = .ok (.iconst 1, 1) := dX11_isHour_0g.2.2.2.2.2.1
theorem dX11_isHour_11 : decode cX11_isHour 11 = .ok (.goto 4, 3) := dX11_isHour_0g.2.2.2.2.2.2.1
theorem dX11_isHour_14 : decode cX11_isHour 14 = .ok (.iconst 0, 1) := dX11_isHour_0g.2.2.2.2.2.2.2.1
theorem dX11_isHour_15 : decode cX11_isHour 15 = .ok (.ireturn, 1) := dX11_isHour_0g.2.2.2.2.2.2.2.2
set_option maxHeartbeats 4000000 in
set_option maxRecDepth 100000 in
theorem c_X11_isHour (l : Launch) (H0 : Heap) (x0 : Int32) : Met l yX11_isHour (tb (.code yX11_isHour cX11_isHour 1 (some .boolean))) (rm 0) (va_Pc [.int x0] (PS H0)) (QS H0 (fun r => ((r : Int32) = 1 ∧ rg x0 0 95) ∨ ((r : Int32) = 0 ∧ ¬ rg x0 0 95))) 0 0 (fun _ => False) := by
  refine Met.ofW (cc := cX11_isHour) (maxL := 1) (ret := (some .boolean)) (by decide) rfl ?_
  intro p e s m args below meth c s₁ B hml hv
  obtain ⟨hav, rfl, hN⟩ := hv
  have hx := B.exec
  have hb := B.bytes
  have hr := B.returns
  have hts := atoms_spec (ws := tb (.code yX11_isHour cX11_isHour 1 (some .boolean))) B.pre
  have hown : s.vm.findClass RX11 = some m.cls := findClass_of_methodNamed B.named
  have hlocks := B.notSynchronized
  have hS : va_S (fun _ => False) s.heap s.heap [] := va_S.rf
  have hl := lv_entry ([.int x0]) (n := 1) (Nat.le_of_ble_eq_true rfl)
  rw [show entryFrame m args 1 = entryFrame m ([.int x0] : List Value).toArray 1 from by rw [hav], lg_entry_eq]
  generalize (lg_sl ([.int x0]) ++ List.replicate (1 - (lg_sl ([.int x0])).length) Slot.unset).toArray = ls at hl ⊢
  have hl : lv_has ls 1 [(0, .int x0)] := hl
  generalize hR : (headSpec (tb (.code yX11_isHour cX11_isHour 1 (some .boolean))) (rm 0)).room = R
  have hR := hR.symm
  generalize hQ : MQ below (QS s.heap (fun r => ((r : Int32) = 1 ∧ rg x0 0 95) ∨ ((r : Int32) = 0 ∧ ¬ rg x0 0 95))) args s 0 0 (fun _ => False) = QF
  have hQ := hQ.symm
  refine lv_iload_n hx hb dX11_isHour_0 rfl (lv_at hl 0 rfl) ?_
  have k1 := iv_lo x0
  have k2 := iv_hi x0
  refine lv_if_lt (tgt := 14) hx hb dX11_isHour_1 (by decide) (fun c3 => ?_) (fun c3 => ?_)
  · skip
    have k4 := iv_lt (X := x0.toInt) (Y := (0)) rfl (by decide) c3
    refine lv_iconst (v := 0) hx hb dX11_isHour_14 (by decide) ?_
    have hpost : ((0 : Int32) = 1 ∧ rg x0 0 95) ∨ ((0 : Int32) = 0 ∧ ¬ rg x0 0 95) := by first | exact Or.inl ⟨rfl, by simp only [rg]; omega⟩ | exact Or.inr ⟨rfl, by simp only [rg]; omega⟩
    rw [hQ]
    exact W.zret (v := 0) hx hb hr (by decide) (fun t ht hW => ⟨⟨0, (), rfl, hpost, ht⟩, hS.F ht⟩) hS.2.2 dX11_isHour_15
  · skip
    have k5 := iv_nlt (X := x0.toInt) (Y := (0)) rfl (by decide) c3
    refine lv_iload_n hx hb dX11_isHour_4 rfl (lv_at hl 0 rfl) ?_
    refine lv_bipush (v := 96) hx hb dX11_isHour_5 (by decide) ?_
    refine lv_icmp_ge (tgt := 14) hx hb dX11_isHour_7 (by decide) (fun c6 => ?_) (fun c6 => ?_)
    · skip
      have k7 := iv_le (X := (96)) (Y := x0.toInt) (by decide) rfl c6
      refine lv_iconst (v := 0) hx hb dX11_isHour_14 (by decide) ?_
      have hpost : ((0 : Int32) = 1 ∧ rg x0 0 95) ∨ ((0 : Int32) = 0 ∧ ¬ rg x0 0 95) := by first | exact Or.inl ⟨rfl, by simp only [rg]; omega⟩ | exact Or.inr ⟨rfl, by simp only [rg]; omega⟩
      rw [hQ]
      exact W.zret (v := 0) hx hb hr (by decide) (fun t ht hW => ⟨⟨0, (), rfl, hpost, ht⟩, hS.F ht⟩) hS.2.2 dX11_isHour_15
    · skip
      have k8 := iv_nle (X := (96)) (Y := x0.toInt) (by decide) rfl c6
      refine lv_iconst (v := 1) hx hb dX11_isHour_10 (by decide) ?_
      refine lv_goto (tgt := 15) hx hb dX11_isHour_11 (by decide) ?_
      have hpost : ((1 : Int32) = 1 ∧ rg x0 0 95) ∨ ((1 : Int32) = 0 ∧ ¬ rg x0 0 95) := by first | exact Or.inl ⟨rfl, by simp only [rg]; omega⟩ | exact Or.inr ⟨rfl, by simp only [rg]; omega⟩
      rw [hQ]
      exact W.zret (v := 1) hx hb hr (by decide) (fun t ht hW => ⟨⟨1, (), rfl, hpost, ht⟩, hS.F ht⟩) hS.2.2 dX11_isHour_15
theorem dX11_isMoment_0g : (decode cX11_isMoment 0 = .ok (.iload_n 0, 1)) ∧ (decode cX11_isMoment 1 = .ok (.ifCond .lt 13, 3)) ∧ (decode cX11_isMoment 4 = .ok (.iload_n 0, 1)) ∧ (decode cX11_isMoment 5 = .ok (.bipush 96, 2)) ∧ (decode cX11_isMoment 7 = .ok (.if_icmp .gt 7, 3)) ∧ (decode cX11_isMoment 10 = .ok (.iconst 1, 1)) ∧ (decode cX11_isMoment 11 = .ok (.goto 4, 3)) ∧ (decode cX11_isMoment 14 = .ok (.iconst 0, 1)) ∧ (decode cX11_isMoment 15 = .ok (.ireturn, 1)) := by decide +kernel
theorem dX11_isMoment_0 : decode cX11_isMoment 0 = .ok (.iload_n 0, 1) := dX11_isMoment_0g.1
theorem dX11_isMoment_1 : decode cX11_isMoment 1 = .ok (.ifCond .lt 13, 3) := dX11_isMoment_0g.2.1
theorem dX11_isMoment_4 : decode cX11_isMoment 4 = .ok (.iload_n 0, 1) := dX11_isMoment_0g.2.2.1
theorem dX11_isMoment_5 : decode cX11_isMoment 5 = .ok (.bipush 96, 2) := dX11_isMoment_0g.2.2.2.1
theorem dX11_isMoment_7 : decode cX11_isMoment 7 = .ok (.if_icmp .gt 7, 3) := dX11_isMoment_0g.2.2.2.2.1
theorem dX11_isMoment_10 : decode cX11_isMoment 10 = .ok (.iconst 1, 1) := dX11_isMoment_0g.2.2.2.2.2.1
theorem dX11_isMoment_11 : decode cX11_isMoment 11 = .ok (.goto 4, 3) := dX11_isMoment_0g.2.2.2.2.2.2.1
theorem dX11_isMoment_14 : decode cX11_isMoment 14 = .ok (.iconst 0, 1) := dX11_isMoment_0g.2.2.2.2.2.2.2.1
theorem dX11_isMoment_15 : decode cX11_isMoment 15 = .ok (.ireturn, 1) := dX11_isMoment_0g.2.2.2.2.2.2.2.2
set_option maxHeartbeats 4000000 in
set_option maxRecDepth 100000 in
theorem c_X11_isMoment (l : Launch) (H0 : Heap) (x0 : Int32) : Met l yX11_isMoment (tb (.code yX11_isMoment cX11_isMoment 1 (some .boolean))) (rm 0) (va_Pc [.int x0] (PS H0)) (QS H0 (fun r => ((r : Int32) = 1 ∧ rg x0 0 96) ∨ ((r : Int32) = 0 ∧ ¬ rg x0 0 96))) 0 0 (fun _ => False) := by
  refine Met.ofW (cc := cX11_isMoment) (maxL := 1) (ret := (some .boolean)) (by decide) rfl ?_
  intro p e s m args below meth c s₁ B hml hv
  obtain ⟨hav, rfl, hN⟩ := hv
  have hx := B.exec
  have hb := B.bytes
  have hr := B.returns
  have hts := atoms_spec (ws := tb (.code yX11_isMoment cX11_isMoment 1 (some .boolean))) B.pre
  have hown : s.vm.findClass RX11 = some m.cls := findClass_of_methodNamed B.named
  have hlocks := B.notSynchronized
  have hS : va_S (fun _ => False) s.heap s.heap [] := va_S.rf
  have hl := lv_entry ([.int x0]) (n := 1) (Nat.le_of_ble_eq_true rfl)
  rw [show entryFrame m args 1 = entryFrame m ([.int x0] : List Value).toArray 1 from by rw [hav], lg_entry_eq]
  generalize (lg_sl ([.int x0]) ++ List.replicate (1 - (lg_sl ([.int x0])).length) Slot.unset).toArray = ls at hl ⊢
  have hl : lv_has ls 1 [(0, .int x0)] := hl
  generalize hR : (headSpec (tb (.code yX11_isMoment cX11_isMoment 1 (some .boolean))) (rm 0)).room = R
  have hR := hR.symm
  generalize hQ : MQ below (QS s.heap (fun r => ((r : Int32) = 1 ∧ rg x0 0 96) ∨ ((r : Int32) = 0 ∧ ¬ rg x0 0 96))) args s 0 0 (fun _ => False) = QF
  have hQ := hQ.symm
  refine lv_iload_n hx hb dX11_isMoment_0 rfl (lv_at hl 0 rfl) ?_
  have k1 := iv_lo x0
  have k2 := iv_hi x0
  refine lv_if_lt (tgt := 14) hx hb dX11_isMoment_1 (by decide) (fun c3 => ?_) (fun c3 => ?_)
  · skip
    have k4 := iv_lt (X := x0.toInt) (Y := (0)) rfl (by decide) c3
    refine lv_iconst (v := 0) hx hb dX11_isMoment_14 (by decide) ?_
    have hpost : ((0 : Int32) = 1 ∧ rg x0 0 96) ∨ ((0 : Int32) = 0 ∧ ¬ rg x0 0 96) := by first | exact Or.inl ⟨rfl, by simp only [rg]; omega⟩ | exact Or.inr ⟨rfl, by simp only [rg]; omega⟩
    rw [hQ]
    exact W.zret (v := 0) hx hb hr (by decide) (fun t ht hW => ⟨⟨0, (), rfl, hpost, ht⟩, hS.F ht⟩) hS.2.2 dX11_isMoment_15
  · skip
    have k5 := iv_nlt (X := x0.toInt) (Y := (0)) rfl (by decide) c3
    refine lv_iload_n hx hb dX11_isMoment_4 rfl (lv_at hl 0 rfl) ?_
    refine lv_bipush (v := 96) hx hb dX11_isMoment_5 (by decide) ?_
    refine lv_icmp_gt (tgt := 14) hx hb dX11_isMoment_7 (by decide) (fun c6 => ?_) (fun c6 => ?_)
    · skip
      have k7 := iv_lt (X := (96)) (Y := x0.toInt) (by decide) rfl c6
      refine lv_iconst (v := 0) hx hb dX11_isMoment_14 (by decide) ?_
      have hpost : ((0 : Int32) = 1 ∧ rg x0 0 96) ∨ ((0 : Int32) = 0 ∧ ¬ rg x0 0 96) := by first | exact Or.inl ⟨rfl, by simp only [rg]; omega⟩ | exact Or.inr ⟨rfl, by simp only [rg]; omega⟩
      rw [hQ]
      exact W.zret (v := 0) hx hb hr (by decide) (fun t ht hW => ⟨⟨0, (), rfl, hpost, ht⟩, hS.F ht⟩) hS.2.2 dX11_isMoment_15
    · skip
      have k8 := iv_nlt (X := (96)) (Y := x0.toInt) (by decide) rfl c6
      refine lv_iconst (v := 1) hx hb dX11_isMoment_10 (by decide) ?_
      refine lv_goto (tgt := 15) hx hb dX11_isMoment_11 (by decide) ?_
      have hpost : ((1 : Int32) = 1 ∧ rg x0 0 96) ∨ ((1 : Int32) = 0 ∧ ¬ rg x0 0 96) := by first | exact Or.inl ⟨rfl, by simp only [rg]; omega⟩ | exact Or.inr ⟨rfl, by simp only [rg]; omega⟩
      rw [hQ]
      exact W.zret (v := 1) hx hb hr (by decide) (fun t ht hW => ⟨⟨1, (), rfl, hpost, ht⟩, hS.F ht⟩) hS.2.2 dX11_isMoment_15
theorem dX11_isClock_0g : (decode cX11_isClock 0 = .ok (.iload_n 0, 1)) ∧ (decode cX11_isClock 1 = .ok (.ifCond .lt 13, 3)) ∧ (decode cX11_isClock 4 = .ok (.iload_n 0, 1)) ∧ (decode cX11_isClock 5 = .ok (.bipush 24, 2)) ∧ (decode cX11_isClock 7 = .ok (.if_icmp .ge 7, 3)) ∧ (decode cX11_isClock 10 = .ok (.iconst 1, 1)) ∧ (decode cX11_isClock 11 = .ok (.goto 4, 3)) ∧ (decode cX11_isClock 14 = .ok (.iconst 0, 1)) ∧ (decode cX11_isClock 15 = .ok (.ireturn, 1)) := by decide +kernel
theorem dX11_isClock_0 : decode cX11_isClock 0 = .ok (.iload_n 0, 1) := dX11_isClock_0g.1
theorem dX11_isClock_1 : decode cX11_isClock 1 = .ok (.ifCond .lt 13, 3) := dX11_isClock_0g.2.1
theorem dX11_isClock_4 : decode cX11_isClock 4 = .ok (.iload_n 0, 1) := dX11_isClock_0g.2.2.1
theorem dX11_isClock_5 : decode cX11_isClock 5 = .ok (.bipush 24, 2) := dX11_isClock_0g.2.2.2.1
theorem dX11_isClock_7 : decode cX11_isClock 7 = .ok (.if_icmp .ge 7, 3) := dX11_isClock_0g.2.2.2.2.1
theorem dX11_isClock_10 : decode cX11_isClock 10 = .ok (.iconst 1, 1) := dX11_isClock_0g.2.2.2.2.2.1
theorem dX11_isClock_11 : decode cX11_isClock 11 = .ok (.goto 4, 3) := dX11_isClock_0g.2.2.2.2.2.2.1
theorem dX11_isClock_14 : decode cX11_isClock 14 = .ok (.iconst 0, 1) := dX11_isClock_0g.2.2.2.2.2.2.2.1
theorem dX11_isClock_15 : decode cX11_isClock 15 = .ok (.ireturn, 1) := dX11_isClock_0g.2.2.2.2.2.2.2.2
set_option maxHeartbeats 4000000 in
set_option maxRecDepth 100000 in
theorem c_X11_isClock (l : Launch) (H0 : Heap) (x0 : Int32) : Met l yX11_isClock (tb (.code yX11_isClock cX11_isClock 1 (some .boolean))) (rm 0) (va_Pc [.int x0] (PS H0)) (QS H0 (fun r => ((r : Int32) = 1 ∧ rg x0 0 23) ∨ ((r : Int32) = 0 ∧ ¬ rg x0 0 23))) 0 0 (fun _ => False) := by
  refine Met.ofW (cc := cX11_isClock) (maxL := 1) (ret := (some .boolean)) (by decide) rfl ?_
  intro p e s m args below meth c s₁ B hml hv
  obtain ⟨hav, rfl, hN⟩ := hv
  have hx := B.exec
  have hb := B.bytes
  have hr := B.returns
  have hts := atoms_spec (ws := tb (.code yX11_isClock cX11_isClock 1 (some .boolean))) B.pre
  have hown : s.vm.findClass RX11 = some m.cls := findClass_of_methodNamed B.named
  have hlocks := B.notSynchronized
  have hS : va_S (fun _ => False) s.heap s.heap [] := va_S.rf
  have hl := lv_entry ([.int x0]) (n := 1) (Nat.le_of_ble_eq_true rfl)
  rw [show entryFrame m args 1 = entryFrame m ([.int x0] : List Value).toArray 1 from by rw [hav], lg_entry_eq]
  generalize (lg_sl ([.int x0]) ++ List.replicate (1 - (lg_sl ([.int x0])).length) Slot.unset).toArray = ls at hl ⊢
  have hl : lv_has ls 1 [(0, .int x0)] := hl
  generalize hR : (headSpec (tb (.code yX11_isClock cX11_isClock 1 (some .boolean))) (rm 0)).room = R
  have hR := hR.symm
  generalize hQ : MQ below (QS s.heap (fun r => ((r : Int32) = 1 ∧ rg x0 0 23) ∨ ((r : Int32) = 0 ∧ ¬ rg x0 0 23))) args s 0 0 (fun _ => False) = QF
  have hQ := hQ.symm
  refine lv_iload_n hx hb dX11_isClock_0 rfl (lv_at hl 0 rfl) ?_
  have k1 := iv_lo x0
  have k2 := iv_hi x0
  refine lv_if_lt (tgt := 14) hx hb dX11_isClock_1 (by decide) (fun c3 => ?_) (fun c3 => ?_)
  · skip
    have k4 := iv_lt (X := x0.toInt) (Y := (0)) rfl (by decide) c3
    refine lv_iconst (v := 0) hx hb dX11_isClock_14 (by decide) ?_
    have hpost : ((0 : Int32) = 1 ∧ rg x0 0 23) ∨ ((0 : Int32) = 0 ∧ ¬ rg x0 0 23) := by first | exact Or.inl ⟨rfl, by simp only [rg]; omega⟩ | exact Or.inr ⟨rfl, by simp only [rg]; omega⟩
    rw [hQ]
    exact W.zret (v := 0) hx hb hr (by decide) (fun t ht hW => ⟨⟨0, (), rfl, hpost, ht⟩, hS.F ht⟩) hS.2.2 dX11_isClock_15
  · skip
    have k5 := iv_nlt (X := x0.toInt) (Y := (0)) rfl (by decide) c3
    refine lv_iload_n hx hb dX11_isClock_4 rfl (lv_at hl 0 rfl) ?_
    refine lv_bipush (v := 24) hx hb dX11_isClock_5 (by decide) ?_
    refine lv_icmp_ge (tgt := 14) hx hb dX11_isClock_7 (by decide) (fun c6 => ?_) (fun c6 => ?_)
    · skip
      have k7 := iv_le (X := (24)) (Y := x0.toInt) (by decide) rfl c6
      refine lv_iconst (v := 0) hx hb dX11_isClock_14 (by decide) ?_
      have hpost : ((0 : Int32) = 1 ∧ rg x0 0 23) ∨ ((0 : Int32) = 0 ∧ ¬ rg x0 0 23) := by first | exact Or.inl ⟨rfl, by simp only [rg]; omega⟩ | exact Or.inr ⟨rfl, by simp only [rg]; omega⟩
      rw [hQ]
      exact W.zret (v := 0) hx hb hr (by decide) (fun t ht hW => ⟨⟨0, (), rfl, hpost, ht⟩, hS.F ht⟩) hS.2.2 dX11_isClock_15
    · skip
      have k8 := iv_nle (X := (24)) (Y := x0.toInt) (by decide) rfl c6
      refine lv_iconst (v := 1) hx hb dX11_isClock_10 (by decide) ?_
      refine lv_goto (tgt := 15) hx hb dX11_isClock_11 (by decide) ?_
      have hpost : ((1 : Int32) = 1 ∧ rg x0 0 23) ∨ ((1 : Int32) = 0 ∧ ¬ rg x0 0 23) := by first | exact Or.inl ⟨rfl, by simp only [rg]; omega⟩ | exact Or.inr ⟨rfl, by simp only [rg]; omega⟩
      rw [hQ]
      exact W.zret (v := 1) hx hb hr (by decide) (fun t ht hW => ⟨⟨1, (), rfl, hpost, ht⟩, hS.F ht⟩) hS.2.2 dX11_isClock_15
theorem dX11_isColour_0g : (decode cX11_isColour 0 = .ok (.iload_n 0, 1)) ∧ (decode cX11_isColour 1 = .ok (.ifCond .lt 12, 3)) ∧ (decode cX11_isColour 4 = .ok (.iload_n 0, 1)) ∧ (decode cX11_isColour 5 = .ok (.iconst 4, 1)) ∧ (decode cX11_isColour 6 = .ok (.if_icmp .ge 7, 3)) ∧ (decode cX11_isColour 9 = .ok (.iconst 1, 1)) ∧ (decode cX11_isColour 10 = .ok (.goto 4, 3)) ∧ (decode cX11_isColour 13 = .ok (.iconst 0, 1)) ∧ (decode cX11_isColour 14 = .ok (.ireturn, 1)) := by decide +kernel
theorem dX11_isColour_0 : decode cX11_isColour 0 = .ok (.iload_n 0, 1) := dX11_isColour_0g.1
theorem dX11_isColour_1 : decode cX11_isColour 1 = .ok (.ifCond .lt 12, 3) := dX11_isColour_0g.2.1
theorem dX11_isColour_4 : decode cX11_isColour 4 = .ok (.iload_n 0, 1) := dX11_isColour_0g.2.2.1
theorem dX11_isColour_5 : decode cX11_isColour 5 = .ok (.iconst 4, 1) := dX11_isColour_0g.2.2.2.1
theorem dX11_isColour_6 : decode cX11_isColour 6 = .ok (.if_icmp .ge 7, 3) := dX11_isColour_0g.2.2.2.2.1
theorem dX11_isColour_9 : decode cX11_isColour 9 = .ok (.iconst 1, 1) := dX11_isColour_0g.2.2.2.2.2.1
theorem dX11_isColour_10 : decode cX11_isColour 10 = .ok (.goto 4, 3) := dX11_isColour_0g.2.2.2.2.2.2.1
theorem dX11_isColour_13 : decode cX11_isColour 13 = .ok (.iconst 0, 1) := dX11_isColour_0g.2.2.2.2.2.2.2.1
theorem dX11_isColour_14 : decode cX11_isColour 14 = .ok (.ireturn, 1) := dX11_isColour_0g.2.2.2.2.2.2.2.2
set_option maxHeartbeats 4000000 in
set_option maxRecDepth 100000 in
theorem c_X11_isColour (l : Launch) (H0 : Heap) (x0 : Int32) : Met l yX11_isColour (tb (.code yX11_isColour cX11_isColour 1 (some .boolean))) (rm 0) (va_Pc [.int x0] (PS H0)) (QS H0 (fun r => ((r : Int32) = 1 ∧ rg x0 0 3) ∨ ((r : Int32) = 0 ∧ ¬ rg x0 0 3))) 0 0 (fun _ => False) := by
  refine Met.ofW (cc := cX11_isColour) (maxL := 1) (ret := (some .boolean)) (by decide) rfl ?_
  intro p e s m args below meth c s₁ B hml hv
  obtain ⟨hav, rfl, hN⟩ := hv
  have hx := B.exec
  have hb := B.bytes
  have hr := B.returns
  have hts := atoms_spec (ws := tb (.code yX11_isColour cX11_isColour 1 (some .boolean))) B.pre
  have hown : s.vm.findClass RX11 = some m.cls := findClass_of_methodNamed B.named
  have hlocks := B.notSynchronized
  have hS : va_S (fun _ => False) s.heap s.heap [] := va_S.rf
  have hl := lv_entry ([.int x0]) (n := 1) (Nat.le_of_ble_eq_true rfl)
  rw [show entryFrame m args 1 = entryFrame m ([.int x0] : List Value).toArray 1 from by rw [hav], lg_entry_eq]
  generalize (lg_sl ([.int x0]) ++ List.replicate (1 - (lg_sl ([.int x0])).length) Slot.unset).toArray = ls at hl ⊢
  have hl : lv_has ls 1 [(0, .int x0)] := hl
  generalize hR : (headSpec (tb (.code yX11_isColour cX11_isColour 1 (some .boolean))) (rm 0)).room = R
  have hR := hR.symm
  generalize hQ : MQ below (QS s.heap (fun r => ((r : Int32) = 1 ∧ rg x0 0 3) ∨ ((r : Int32) = 0 ∧ ¬ rg x0 0 3))) args s 0 0 (fun _ => False) = QF
  have hQ := hQ.symm
  refine lv_iload_n hx hb dX11_isColour_0 rfl (lv_at hl 0 rfl) ?_
  have k1 := iv_lo x0
  have k2 := iv_hi x0
  refine lv_if_lt (tgt := 13) hx hb dX11_isColour_1 (by decide) (fun c3 => ?_) (fun c3 => ?_)
  · skip
    have k4 := iv_lt (X := x0.toInt) (Y := (0)) rfl (by decide) c3
    refine lv_iconst (v := 0) hx hb dX11_isColour_13 (by decide) ?_
    have hpost : ((0 : Int32) = 1 ∧ rg x0 0 3) ∨ ((0 : Int32) = 0 ∧ ¬ rg x0 0 3) := by first | exact Or.inl ⟨rfl, by simp only [rg]; omega⟩ | exact Or.inr ⟨rfl, by simp only [rg]; omega⟩
    rw [hQ]
    exact W.zret (v := 0) hx hb hr (by decide) (fun t ht hW => ⟨⟨0, (), rfl, hpost, ht⟩, hS.F ht⟩) hS.2.2 dX11_isColour_14
  · skip
    have k5 := iv_nlt (X := x0.toInt) (Y := (0)) rfl (by decide) c3
    refine lv_iload_n hx hb dX11_isColour_4 rfl (lv_at hl 0 rfl) ?_
    refine lv_iconst (v := 4) hx hb dX11_isColour_5 (by decide) ?_
    refine lv_icmp_ge (tgt := 13) hx hb dX11_isColour_6 (by decide) (fun c6 => ?_) (fun c6 => ?_)
    · skip
      have k7 := iv_le (X := (4)) (Y := x0.toInt) (by decide) rfl c6
      refine lv_iconst (v := 0) hx hb dX11_isColour_13 (by decide) ?_
      have hpost : ((0 : Int32) = 1 ∧ rg x0 0 3) ∨ ((0 : Int32) = 0 ∧ ¬ rg x0 0 3) := by first | exact Or.inl ⟨rfl, by simp only [rg]; omega⟩ | exact Or.inr ⟨rfl, by simp only [rg]; omega⟩
      rw [hQ]
      exact W.zret (v := 0) hx hb hr (by decide) (fun t ht hW => ⟨⟨0, (), rfl, hpost, ht⟩, hS.F ht⟩) hS.2.2 dX11_isColour_14
    · skip
      have k8 := iv_nle (X := (4)) (Y := x0.toInt) (by decide) rfl c6
      refine lv_iconst (v := 1) hx hb dX11_isColour_9 (by decide) ?_
      refine lv_goto (tgt := 14) hx hb dX11_isColour_10 (by decide) ?_
      have hpost : ((1 : Int32) = 1 ∧ rg x0 0 3) ∨ ((1 : Int32) = 0 ∧ ¬ rg x0 0 3) := by first | exact Or.inl ⟨rfl, by simp only [rg]; omega⟩ | exact Or.inr ⟨rfl, by simp only [rg]; omega⟩
      rw [hQ]
      exact W.zret (v := 1) hx hb hr (by decide) (fun t ht hW => ⟨⟨1, (), rfl, hpost, ht⟩, hS.F ht⟩) hS.2.2 dX11_isColour_14
theorem dX11_isFlag_0g : (decode cX11_isFlag 0 = .ok (.iload_n 0, 1)) ∧ (decode cX11_isFlag 1 = .ok (.ifCond .eq 8, 3)) ∧ (decode cX11_isFlag 4 = .ok (.iload_n 0, 1)) ∧ (decode cX11_isFlag 5 = .ok (.iconst 1, 1)) ∧ (decode cX11_isFlag 6 = .ok (.if_icmp .ne 7, 3)) ∧ (decode cX11_isFlag 9 = .ok (.iconst 1, 1)) ∧ (decode cX11_isFlag 10 = .ok (.goto 4, 3)) ∧ (decode cX11_isFlag 13 = .ok (.iconst 0, 1)) ∧ (decode cX11_isFlag 14 = .ok (.ireturn, 1)) := by decide +kernel
theorem dX11_isFlag_0 : decode cX11_isFlag 0 = .ok (.iload_n 0, 1) := dX11_isFlag_0g.1
theorem dX11_isFlag_1 : decode cX11_isFlag 1 = .ok (.ifCond .eq 8, 3) := dX11_isFlag_0g.2.1
theorem dX11_isFlag_4 : decode cX11_isFlag 4 = .ok (.iload_n 0, 1) := dX11_isFlag_0g.2.2.1
theorem dX11_isFlag_5 : decode cX11_isFlag 5 = .ok (.iconst 1, 1) := dX11_isFlag_0g.2.2.2.1
theorem dX11_isFlag_6 : decode cX11_isFlag 6 = .ok (.if_icmp .ne 7, 3) := dX11_isFlag_0g.2.2.2.2.1
theorem dX11_isFlag_9 : decode cX11_isFlag 9 = .ok (.iconst 1, 1) := dX11_isFlag_0g.2.2.2.2.2.1
theorem dX11_isFlag_10 : decode cX11_isFlag 10 = .ok (.goto 4, 3) := dX11_isFlag_0g.2.2.2.2.2.2.1
theorem dX11_isFlag_13 : decode cX11_isFlag 13 = .ok (.iconst 0, 1) := dX11_isFlag_0g.2.2.2.2.2.2.2.1
theorem dX11_isFlag_14 : decode cX11_isFlag 14 = .ok (.ireturn, 1) := dX11_isFlag_0g.2.2.2.2.2.2.2.2
set_option maxHeartbeats 4000000 in
set_option maxRecDepth 100000 in
theorem c_X11_isFlag (l : Launch) (H0 : Heap) (x0 : Int32) : Met l yX11_isFlag (tb (.code yX11_isFlag cX11_isFlag 1 (some .boolean))) (rm 0) (va_Pc [.int x0] (PS H0)) (QS H0 (fun r => ((r : Int32) = 1 ∧ rg x0 0 1) ∨ ((r : Int32) = 0 ∧ ¬ rg x0 0 1))) 0 0 (fun _ => False) := by
  refine Met.ofW (cc := cX11_isFlag) (maxL := 1) (ret := (some .boolean)) (by decide) rfl ?_
  intro p e s m args below meth c s₁ B hml hv
  obtain ⟨hav, rfl, hN⟩ := hv
  have hx := B.exec
  have hb := B.bytes
  have hr := B.returns
  have hts := atoms_spec (ws := tb (.code yX11_isFlag cX11_isFlag 1 (some .boolean))) B.pre
  have hown : s.vm.findClass RX11 = some m.cls := findClass_of_methodNamed B.named
  have hlocks := B.notSynchronized
  have hS : va_S (fun _ => False) s.heap s.heap [] := va_S.rf
  have hl := lv_entry ([.int x0]) (n := 1) (Nat.le_of_ble_eq_true rfl)
  rw [show entryFrame m args 1 = entryFrame m ([.int x0] : List Value).toArray 1 from by rw [hav], lg_entry_eq]
  generalize (lg_sl ([.int x0]) ++ List.replicate (1 - (lg_sl ([.int x0])).length) Slot.unset).toArray = ls at hl ⊢
  have hl : lv_has ls 1 [(0, .int x0)] := hl
  generalize hR : (headSpec (tb (.code yX11_isFlag cX11_isFlag 1 (some .boolean))) (rm 0)).room = R
  have hR := hR.symm
  generalize hQ : MQ below (QS s.heap (fun r => ((r : Int32) = 1 ∧ rg x0 0 1) ∨ ((r : Int32) = 0 ∧ ¬ rg x0 0 1))) args s 0 0 (fun _ => False) = QF
  have hQ := hQ.symm
  refine lv_iload_n hx hb dX11_isFlag_0 rfl (lv_at hl 0 rfl) ?_
  have k1 := iv_lo x0
  have k2 := iv_hi x0
  refine lv_if_eq (tgt := 9) hx hb dX11_isFlag_1 (by decide) (fun c3 => ?_) (fun c3 => ?_)
  · skip
    have k4 := iv_eq (X := x0.toInt) (Y := (0)) rfl (by decide) c3
    refine lv_iconst (v := 1) hx hb dX11_isFlag_9 (by decide) ?_
    refine lv_goto (tgt := 14) hx hb dX11_isFlag_10 (by decide) ?_
    have hpost : ((1 : Int32) = 1 ∧ rg x0 0 1) ∨ ((1 : Int32) = 0 ∧ ¬ rg x0 0 1) := by first | exact Or.inl ⟨rfl, by simp only [rg]; omega⟩ | exact Or.inr ⟨rfl, by simp only [rg]; omega⟩
    rw [hQ]
    exact W.zret (v := 1) hx hb hr (by decide) (fun t ht hW => ⟨⟨1, (), rfl, hpost, ht⟩, hS.F ht⟩) hS.2.2 dX11_isFlag_14
  · skip
    have k5 := iv_ne (X := x0.toInt) (Y := (0)) rfl (by decide) c3
    refine lv_iload_n hx hb dX11_isFlag_4 rfl (lv_at hl 0 rfl) ?_
    refine lv_iconst (v := 1) hx hb dX11_isFlag_5 (by decide) ?_
    refine lv_icmp_ne (tgt := 13) hx hb dX11_isFlag_6 (by decide) (fun c6 => ?_) (fun c6 => ?_)
    · skip
      have k7 := iv_ne (X := x0.toInt) (Y := (1)) rfl (by decide) c6
      refine lv_iconst (v := 0) hx hb dX11_isFlag_13 (by decide) ?_
      have hpost : ((0 : Int32) = 1 ∧ rg x0 0 1) ∨ ((0 : Int32) = 0 ∧ ¬ rg x0 0 1) := by first | exact Or.inl ⟨rfl, by simp only [rg]; omega⟩ | exact Or.inr ⟨rfl, by simp only [rg]; omega⟩
      rw [hQ]
      exact W.zret (v := 0) hx hb hr (by decide) (fun t ht hW => ⟨⟨0, (), rfl, hpost, ht⟩, hS.F ht⟩) hS.2.2 dX11_isFlag_14
    · skip
      have k8 := iv_eq (X := x0.toInt) (Y := (1)) rfl (by decide) c6
      refine lv_iconst (v := 1) hx hb dX11_isFlag_9 (by decide) ?_
      refine lv_goto (tgt := 14) hx hb dX11_isFlag_10 (by decide) ?_
      have hpost : ((1 : Int32) = 1 ∧ rg x0 0 1) ∨ ((1 : Int32) = 0 ∧ ¬ rg x0 0 1) := by first | exact Or.inl ⟨rfl, by simp only [rg]; omega⟩ | exact Or.inr ⟨rfl, by simp only [rg]; omega⟩
      rw [hQ]
      exact W.zret (v := 1) hx hb hr (by decide) (fun t ht hW => ⟨⟨1, (), rfl, hpost, ht⟩, hS.F ht⟩) hS.2.2 dX11_isFlag_14
theorem dX11_isPump_0g : (decode cX11_isPump 0 = .ok (.iload_n 0, 1)) ∧ (decode cX11_isPump 1 = .ok (.ifCond .lt 12, 3)) ∧ (decode cX11_isPump 4 = .ok (.iload_n 0, 1)) ∧ (decode cX11_isPump 5 = .ok (.iconst 2, 1)) ∧ (decode cX11_isPump 6 = .ok (.if_icmp .ge 7, 3)) ∧ (decode cX11_isPump 9 = .ok (.iconst 1, 1)) ∧ (decode cX11_isPump 10 = .ok (.goto 4, 3)) ∧ (decode cX11_isPump 13 = .ok (.iconst 0, 1)) ∧ (decode cX11_isPump 14 = .ok (.ireturn, 1)) := by decide +kernel
theorem dX11_isPump_0 : decode cX11_isPump 0 = .ok (.iload_n 0, 1) := dX11_isPump_0g.1
theorem dX11_isPump_1 : decode cX11_isPump 1 = .ok (.ifCond .lt 12, 3) := dX11_isPump_0g.2.1
theorem dX11_isPump_4 : decode cX11_isPump 4 = .ok (.iload_n 0, 1) := dX11_isPump_0g.2.2.1
theorem dX11_isPump_5 : decode cX11_isPump 5 = .ok (.iconst 2, 1) := dX11_isPump_0g.2.2.2.1
theorem dX11_isPump_6 : decode cX11_isPump 6 = .ok (.if_icmp .ge 7, 3) := dX11_isPump_0g.2.2.2.2.1
theorem dX11_isPump_9 : decode cX11_isPump 9 = .ok (.iconst 1, 1) := dX11_isPump_0g.2.2.2.2.2.1
theorem dX11_isPump_10 : decode cX11_isPump 10 = .ok (.goto 4, 3) := dX11_isPump_0g.2.2.2.2.2.2.1
theorem dX11_isPump_13 : decode cX11_isPump 13 = .ok (.iconst 0, 1) := dX11_isPump_0g.2.2.2.2.2.2.2.1
theorem dX11_isPump_14 : decode cX11_isPump 14 = .ok (.ireturn, 1) := dX11_isPump_0g.2.2.2.2.2.2.2.2
set_option maxHeartbeats 4000000 in
set_option maxRecDepth 100000 in
theorem c_X11_isPump (l : Launch) (H0 : Heap) (x0 : Int32) : Met l yX11_isPump (tb (.code yX11_isPump cX11_isPump 1 (some .boolean))) (rm 0) (va_Pc [.int x0] (PS H0)) (QS H0 (fun r => ((r : Int32) = 1 ∧ rg x0 0 1) ∨ ((r : Int32) = 0 ∧ ¬ rg x0 0 1))) 0 0 (fun _ => False) := by
  refine Met.ofW (cc := cX11_isPump) (maxL := 1) (ret := (some .boolean)) (by decide) rfl ?_
  intro p e s m args below meth c s₁ B hml hv
  obtain ⟨hav, rfl, hN⟩ := hv
  have hx := B.exec
  have hb := B.bytes
  have hr := B.returns
  have hts := atoms_spec (ws := tb (.code yX11_isPump cX11_isPump 1 (some .boolean))) B.pre
  have hown : s.vm.findClass RX11 = some m.cls := findClass_of_methodNamed B.named
  have hlocks := B.notSynchronized
  have hS : va_S (fun _ => False) s.heap s.heap [] := va_S.rf
  have hl := lv_entry ([.int x0]) (n := 1) (Nat.le_of_ble_eq_true rfl)
  rw [show entryFrame m args 1 = entryFrame m ([.int x0] : List Value).toArray 1 from by rw [hav], lg_entry_eq]
  generalize (lg_sl ([.int x0]) ++ List.replicate (1 - (lg_sl ([.int x0])).length) Slot.unset).toArray = ls at hl ⊢
  have hl : lv_has ls 1 [(0, .int x0)] := hl
  generalize hR : (headSpec (tb (.code yX11_isPump cX11_isPump 1 (some .boolean))) (rm 0)).room = R
  have hR := hR.symm
  generalize hQ : MQ below (QS s.heap (fun r => ((r : Int32) = 1 ∧ rg x0 0 1) ∨ ((r : Int32) = 0 ∧ ¬ rg x0 0 1))) args s 0 0 (fun _ => False) = QF
  have hQ := hQ.symm
  refine lv_iload_n hx hb dX11_isPump_0 rfl (lv_at hl 0 rfl) ?_
  have k1 := iv_lo x0
  have k2 := iv_hi x0
  refine lv_if_lt (tgt := 13) hx hb dX11_isPump_1 (by decide) (fun c3 => ?_) (fun c3 => ?_)
  · skip
    have k4 := iv_lt (X := x0.toInt) (Y := (0)) rfl (by decide) c3
    refine lv_iconst (v := 0) hx hb dX11_isPump_13 (by decide) ?_
    have hpost : ((0 : Int32) = 1 ∧ rg x0 0 1) ∨ ((0 : Int32) = 0 ∧ ¬ rg x0 0 1) := by first | exact Or.inl ⟨rfl, by simp only [rg]; omega⟩ | exact Or.inr ⟨rfl, by simp only [rg]; omega⟩
    rw [hQ]
    exact W.zret (v := 0) hx hb hr (by decide) (fun t ht hW => ⟨⟨0, (), rfl, hpost, ht⟩, hS.F ht⟩) hS.2.2 dX11_isPump_14
  · skip
    have k5 := iv_nlt (X := x0.toInt) (Y := (0)) rfl (by decide) c3
    refine lv_iload_n hx hb dX11_isPump_4 rfl (lv_at hl 0 rfl) ?_
    refine lv_iconst (v := 2) hx hb dX11_isPump_5 (by decide) ?_
    refine lv_icmp_ge (tgt := 13) hx hb dX11_isPump_6 (by decide) (fun c6 => ?_) (fun c6 => ?_)
    · skip
      have k7 := iv_le (X := (2)) (Y := x0.toInt) (by decide) rfl c6
      refine lv_iconst (v := 0) hx hb dX11_isPump_13 (by decide) ?_
      have hpost : ((0 : Int32) = 1 ∧ rg x0 0 1) ∨ ((0 : Int32) = 0 ∧ ¬ rg x0 0 1) := by first | exact Or.inl ⟨rfl, by simp only [rg]; omega⟩ | exact Or.inr ⟨rfl, by simp only [rg]; omega⟩
      rw [hQ]
      exact W.zret (v := 0) hx hb hr (by decide) (fun t ht hW => ⟨⟨0, (), rfl, hpost, ht⟩, hS.F ht⟩) hS.2.2 dX11_isPump_14
    · skip
      have k8 := iv_nle (X := (2)) (Y := x0.toInt) (by decide) rfl c6
      refine lv_iconst (v := 1) hx hb dX11_isPump_9 (by decide) ?_
      refine lv_goto (tgt := 14) hx hb dX11_isPump_10 (by decide) ?_
      have hpost : ((1 : Int32) = 1 ∧ rg x0 0 1) ∨ ((1 : Int32) = 0 ∧ ¬ rg x0 0 1) := by first | exact Or.inl ⟨rfl, by simp only [rg]; omega⟩ | exact Or.inr ⟨rfl, by simp only [rg]; omega⟩
      rw [hQ]
      exact W.zret (v := 1) hx hb hr (by decide) (fun t ht hW => ⟨⟨1, (), rfl, hpost, ht⟩, hS.F ht⟩) hS.2.2 dX11_isPump_14
theorem dX11_isSpan_0g : (decode cX11_isSpan 0 = .ok (.iload_n 0, 1)) ∧ (decode cX11_isSpan 1 = .ok (.invokestatic 211, 3)) ∧ (decode cX11_isSpan 4 = .ok (.ifCond .eq 19, 3)) ∧ (decode cX11_isSpan 7 = .ok (.iload_n 1, 1)) ∧ (decode cX11_isSpan 8 = .ok (.invokestatic 211, 3)) ∧ (decode cX11_isSpan 11 = .ok (.ifCond .eq 12, 3)) ∧ (decode cX11_isSpan 14 = .ok (.iload_n 0, 1)) ∧ (decode cX11_isSpan 15 = .ok (.iload_n 1, 1)) ∧ (decode cX11_isSpan 16 = .ok (.if_icmp .gt 7, 3)) ∧ (decode cX11_isSpan 19 = .ok (.iconst 1, 1)) := by decide +kernel
theorem dX11_isSpan_0 : decode cX11_isSpan 0 = .ok (.iload_n 0, 1) := dX11_isSpan_0g.1
theorem dX11_isSpan_1 : decode cX11_isSpan 1 = .ok (.invokestatic 211, 3) := dX11_isSpan_0g.2.1
theorem dX11_isSpan_4 : decode cX11_isSpan 4 = .ok (.ifCond .eq 19, 3) := dX11_isSpan_0g.2.2.1
theorem dX11_isSpan_7 : decode cX11_isSpan 7 = .ok (.iload_n 1, 1) := dX11_isSpan_0g.2.2.2.1
theorem dX11_isSpan_8 : decode cX11_isSpan 8 = .ok (.invokestatic 211, 3) := dX11_isSpan_0g.2.2.2.2.1
theorem dX11_isSpan_11 : decode cX11_isSpan 11 = .ok (.ifCond .eq 12, 3) := dX11_isSpan_0g.2.2.2.2.2.1
theorem dX11_isSpan_14 : decode cX11_isSpan 14 = .ok (.iload_n 0, 1) := dX11_isSpan_0g.2.2.2.2.2.2.1
theorem dX11_isSpan_15 : decode cX11_isSpan 15 = .ok (.iload_n 1, 1) := dX11_isSpan_0g.2.2.2.2.2.2.2.1
theorem dX11_isSpan_16 : decode cX11_isSpan 16 = .ok (.if_icmp .gt 7, 3) := dX11_isSpan_0g.2.2.2.2.2.2.2.2.1
theorem dX11_isSpan_19 : decode cX11_isSpan 19 = .ok (.iconst 1, 1) := dX11_isSpan_0g.2.2.2.2.2.2.2.2.2
theorem dX11_isSpan_20g : (decode cX11_isSpan 20 = .ok (.goto 4, 3)) ∧ (decode cX11_isSpan 23 = .ok (.iconst 0, 1)) ∧ (decode cX11_isSpan 24 = .ok (.ireturn, 1)) := by decide +kernel
theorem dX11_isSpan_20 : decode cX11_isSpan 20 = .ok (.goto 4, 3) := dX11_isSpan_20g.1
theorem dX11_isSpan_23 : decode cX11_isSpan 23 = .ok (.iconst 0, 1) := dX11_isSpan_20g.2.1
theorem dX11_isSpan_24 : decode cX11_isSpan 24 = .ok (.ireturn, 1) := dX11_isSpan_20g.2.2
set_option maxHeartbeats 4000000 in
set_option maxRecDepth 100000 in
theorem c_X11_isSpan (l : Launch) (H0 : Heap) (x0 x1 : Int32) : Met l yX11_isSpan (tb (.code yX11_isSpan cX11_isSpan 2 (some .boolean))) (rm 1) (va_Pc [.int x0, .int x1] (PS H0)) (QS H0 (fun r => ((r : Int32) = 1 ∧ rg x0 0 95 ∧ rg x1 0 95 ∧ x0.toInt ≤ x1.toInt) ∨ ((r : Int32) = 0 ∧ ¬ (rg x0 0 95 ∧ rg x1 0 95 ∧ x0.toInt ≤ x1.toInt)))) 0 0 (fun _ => False) := by
  refine Met.ofW (cc := cX11_isSpan) (maxL := 2) (ret := (some .boolean)) (by decide) rfl ?_
  intro p e s m args below meth c s₁ B hml hv
  obtain ⟨hav, rfl, hN⟩ := hv
  have hx := B.exec
  have hb := B.bytes
  have hr := B.returns
  have hts := atoms_spec (ws := tb (.code yX11_isSpan cX11_isSpan 2 (some .boolean))) B.pre
  have hown : s.vm.findClass RX11 = some m.cls := findClass_of_methodNamed B.named
  have hlocks := B.notSynchronized
  have hS : va_S (fun _ => False) s.heap s.heap [] := va_S.rf
  have hl := lv_entry ([.int x0, .int x1]) (n := 2) (Nat.le_of_ble_eq_true rfl)
  rw [show entryFrame m args 2 = entryFrame m ([.int x0, .int x1] : List Value).toArray 2 from by rw [hav], lg_entry_eq]
  generalize (lg_sl ([.int x0, .int x1]) ++ List.replicate (2 - (lg_sl ([.int x0, .int x1])).length) Slot.unset).toArray = ls at hl ⊢
  have hl : lv_has ls 2 [(0, .int x0), (1, .int x1)] := hl
  generalize hR : (headSpec (tb (.code yX11_isSpan cX11_isSpan 2 (some .boolean))) (rm 1)).room = R
  have hR := hR.symm
  generalize hQ : MQ below (QS s.heap (fun r => ((r : Int32) = 1 ∧ rg x0 0 95 ∧ rg x1 0 95 ∧ x0.toInt ≤ x1.toInt) ∨ ((r : Int32) = 0 ∧ ¬ (rg x0 0 95 ∧ rg x1 0 95 ∧ x0.toInt ≤ x1.toInt)))) args s 0 0 (fun _ => False) = QF
  have hQ := hQ.symm
  refine lv_iload_n hx hb dX11_isSpan_0 rfl (lv_at hl 0 rfl) ?_
  refine th_cSs (As := [.int x0]) (rest := []) (n := 1) (d := 0) ⟨hx, hb, hml, hown, hts⟩ (c_X11_isHour l s.heap x0) wd_466 wd_467 wd_1 wd_468 (by decide +kernel) ⟨by rw [hR]; exact Nat.le_of_ble_eq_true rfl, by rw [hR]; exact Nat.le_of_ble_eq_true rfl⟩ hN hS rfl hl.1 rfl (Nat.le_of_ble_eq_true rfl) dX11_isSpan_1 ⟨Nat.zero_le _, Nat.zero_le _⟩ (fun r1 locs hp hS => ?_)
  rcases hp with ⟨rfl, hp⟩ | ⟨rfl, hp⟩
  · skip
    try simp only [rg, not_and, Int.not_le] at hp
    have hp2 := hp
    refine lv_if_eq (tgt := 23) hx hb dX11_isSpan_4 (by decide) (fun c => absurd c (by decide)) (fun _ => ?_)
    refine lv_iload_n hx hb dX11_isSpan_7 rfl (lv_at hl 1 rfl) ?_
    refine th_cSs (As := [.int x1]) (rest := []) (n := 1) (d := 0) ⟨hx, hb, hml, hown, hts⟩ (c_X11_isHour l s.heap x1) wd_466 wd_467 wd_1 wd_468 (by decide +kernel) ⟨by rw [hR]; exact Nat.le_of_ble_eq_true rfl, by rw [hR]; exact Nat.le_of_ble_eq_true rfl⟩ hN hS rfl hl.1 rfl (Nat.le_of_ble_eq_true rfl) dX11_isSpan_8 ⟨Nat.zero_le _, Nat.zero_le _⟩ (fun r3 locs hp hS => ?_)
    rcases hp with ⟨rfl, hp⟩ | ⟨rfl, hp⟩
    · skip
      try simp only [rg, not_and, Int.not_le] at hp
      have hp4 := hp
      refine lv_if_eq (tgt := 23) hx hb dX11_isSpan_11 (by decide) (fun c => absurd c (by decide)) (fun _ => ?_)
      refine lv_iload_n hx hb dX11_isSpan_14 rfl (lv_at hl 0 rfl) ?_
      refine lv_iload_n hx hb dX11_isSpan_15 rfl (lv_at hl 1 rfl) ?_
      refine lv_icmp_gt (tgt := 23) hx hb dX11_isSpan_16 (by decide) (fun c5 => ?_) (fun c5 => ?_)
      · skip
        have k6 := iv_lt (X := x1.toInt) (Y := x0.toInt) rfl rfl c5
        refine lv_iconst (v := 0) hx hb dX11_isSpan_23 (by decide) ?_
        have hpost : ((0 : Int32) = 1 ∧ rg x0 0 95 ∧ rg x1 0 95 ∧ x0.toInt ≤ x1.toInt) ∨ ((0 : Int32) = 0 ∧ ¬ (rg x0 0 95 ∧ rg x1 0 95 ∧ x0.toInt ≤ x1.toInt)) := by first | exact Or.inl ⟨rfl, by simp only [rg]; omega⟩ | exact Or.inr ⟨rfl, by simp only [rg]; omega⟩
        rw [hQ]
        exact W.zret (v := 0) hx hb hr (by decide) (fun t ht hW => ⟨⟨0, (), rfl, hpost, ht⟩, hS.F ht⟩) hS.2.2 dX11_isSpan_24
      · skip
        have k7 := iv_nlt (X := x1.toInt) (Y := x0.toInt) rfl rfl c5
        refine lv_iconst (v := 1) hx hb dX11_isSpan_19 (by decide) ?_
        refine lv_goto (tgt := 24) hx hb dX11_isSpan_20 (by decide) ?_
        have hpost : ((1 : Int32) = 1 ∧ rg x0 0 95 ∧ rg x1 0 95 ∧ x0.toInt ≤ x1.toInt) ∨ ((1 : Int32) = 0 ∧ ¬ (rg x0 0 95 ∧ rg x1 0 95 ∧ x0.toInt ≤ x1.toInt)) := by first | exact Or.inl ⟨rfl, by simp only [rg]; omega⟩ | exact Or.inr ⟨rfl, by simp only [rg]; omega⟩
        rw [hQ]
        exact W.zret (v := 1) hx hb hr (by decide) (fun t ht hW => ⟨⟨1, (), rfl, hpost, ht⟩, hS.F ht⟩) hS.2.2 dX11_isSpan_24
    · skip
      try simp only [rg, not_and, Int.not_le] at hp
      have hp8 := hp
      refine lv_if_eq (tgt := 23) hx hb dX11_isSpan_11 (by decide) (fun _ => ?_) (fun c => absurd c (by decide))
      refine lv_iconst (v := 0) hx hb dX11_isSpan_23 (by decide) ?_
      have hpost : ((0 : Int32) = 1 ∧ rg x0 0 95 ∧ rg x1 0 95 ∧ x0.toInt ≤ x1.toInt) ∨ ((0 : Int32) = 0 ∧ ¬ (rg x0 0 95 ∧ rg x1 0 95 ∧ x0.toInt ≤ x1.toInt)) := by first | exact Or.inl ⟨rfl, by simp only [rg]; omega⟩ | exact Or.inr ⟨rfl, by simp only [rg]; omega⟩
      rw [hQ]
      exact W.zret (v := 0) hx hb hr (by decide) (fun t ht hW => ⟨⟨0, (), rfl, hpost, ht⟩, hS.F ht⟩) hS.2.2 dX11_isSpan_24
  · skip
    try simp only [rg, not_and, Int.not_le] at hp
    have hp9 := hp
    refine lv_if_eq (tgt := 23) hx hb dX11_isSpan_4 (by decide) (fun _ => ?_) (fun c => absurd c (by decide))
    refine lv_iconst (v := 0) hx hb dX11_isSpan_23 (by decide) ?_
    have hpost : ((0 : Int32) = 1 ∧ rg x0 0 95 ∧ rg x1 0 95 ∧ x0.toInt ≤ x1.toInt) ∨ ((0 : Int32) = 0 ∧ ¬ (rg x0 0 95 ∧ rg x1 0 95 ∧ x0.toInt ≤ x1.toInt)) := by first | exact Or.inl ⟨rfl, by simp only [rg]; omega⟩ | exact Or.inr ⟨rfl, by simp only [rg]; omega⟩
    rw [hQ]
    exact W.zret (v := 0) hx hb hr (by decide) (fun t ht hW => ⟨⟨0, (), rfl, hpost, ht⟩, hS.F ht⟩) hS.2.2 dX11_isSpan_24
theorem dX11_isPour_0g : (decode cX11_isPour 0 = .ok (.iload_n 0, 1)) ∧ (decode cX11_isPour 1 = .ok (.invokestatic 106, 3)) ∧ (decode cX11_isPour 4 = .ok (.ifCond .eq 32, 3)) ∧ (decode cX11_isPour 7 = .ok (.iload_n 1, 1)) ∧ (decode cX11_isPour 8 = .ok (.invokestatic 211, 3)) ∧ (decode cX11_isPour 11 = .ok (.ifCond .eq 25, 3)) ∧ (decode cX11_isPour 14 = .ok (.iload_n 2, 1)) ∧ (decode cX11_isPour 15 = .ok (.invokestatic 269, 3)) ∧ (decode cX11_isPour 18 = .ok (.ifCond .eq 18, 3)) ∧ (decode cX11_isPour 21 = .ok (.iload_n 3, 1)) := by decide +kernel
theorem dX11_isPour_0 : decode cX11_isPour 0 = .ok (.iload_n 0, 1) := dX11_isPour_0g.1
theorem dX11_isPour_1 : decode cX11_isPour 1 = .ok (.invokestatic 106, 3) := dX11_isPour_0g.2.1
theorem dX11_isPour_4 : decode cX11_isPour 4 = .ok (.ifCond .eq 32, 3) := dX11_isPour_0g.2.2.1
theorem dX11_isPour_7 : decode cX11_isPour 7 = .ok (.iload_n 1, 1) := dX11_isPour_0g.2.2.2.1
theorem dX11_isPour_8 : decode cX11_isPour 8 = .ok (.invokestatic 211, 3) := dX11_isPour_0g.2.2.2.2.1
theorem dX11_isPour_11 : decode cX11_isPour 11 = .ok (.ifCond .eq 25, 3) := dX11_isPour_0g.2.2.2.2.2.1
theorem dX11_isPour_14 : decode cX11_isPour 14 = .ok (.iload_n 2, 1) := dX11_isPour_0g.2.2.2.2.2.2.1
theorem dX11_isPour_15 : decode cX11_isPour 15 = .ok (.invokestatic 269, 3) := dX11_isPour_0g.2.2.2.2.2.2.2.1
theorem dX11_isPour_18 : decode cX11_isPour 18 = .ok (.ifCond .eq 18, 3) := dX11_isPour_0g.2.2.2.2.2.2.2.2.1
theorem dX11_isPour_21 : decode cX11_isPour 21 = .ok (.iload_n 3, 1) := dX11_isPour_0g.2.2.2.2.2.2.2.2.2
theorem dX11_isPour_22g : (decode cX11_isPour 22 = .ok (.iconst 1, 1)) ∧ (decode cX11_isPour 23 = .ok (.if_icmp .lt 13, 3)) ∧ (decode cX11_isPour 26 = .ok (.iload_n 3, 1)) ∧ (decode cX11_isPour 27 = .ok (.bipush 99, 2)) ∧ (decode cX11_isPour 29 = .ok (.if_icmp .gt 7, 3)) ∧ (decode cX11_isPour 32 = .ok (.iconst 1, 1)) ∧ (decode cX11_isPour 33 = .ok (.goto 4, 3)) ∧ (decode cX11_isPour 36 = .ok (.iconst 0, 1)) ∧ (decode cX11_isPour 37 = .ok (.ireturn, 1)) := by decide +kernel
theorem dX11_isPour_22 : decode cX11_isPour 22 = .ok (.iconst 1, 1) := dX11_isPour_22g.1
theorem dX11_isPour_23 : decode cX11_isPour 23 = .ok (.if_icmp .lt 13, 3) := dX11_isPour_22g.2.1
theorem dX11_isPour_26 : decode cX11_isPour 26 = .ok (.iload_n 3, 1) := dX11_isPour_22g.2.2.1
theorem dX11_isPour_27 : decode cX11_isPour 27 = .ok (.bipush 99, 2) := dX11_isPour_22g.2.2.2.1
theorem dX11_isPour_29 : decode cX11_isPour 29 = .ok (.if_icmp .gt 7, 3) := dX11_isPour_22g.2.2.2.2.1
theorem dX11_isPour_32 : decode cX11_isPour 32 = .ok (.iconst 1, 1) := dX11_isPour_22g.2.2.2.2.2.1
theorem dX11_isPour_33 : decode cX11_isPour 33 = .ok (.goto 4, 3) := dX11_isPour_22g.2.2.2.2.2.2.1
theorem dX11_isPour_36 : decode cX11_isPour 36 = .ok (.iconst 0, 1) := dX11_isPour_22g.2.2.2.2.2.2.2.1
theorem dX11_isPour_37 : decode cX11_isPour 37 = .ok (.ireturn, 1) := dX11_isPour_22g.2.2.2.2.2.2.2.2
set_option maxHeartbeats 4000000 in
set_option maxRecDepth 100000 in
theorem c_X11_isPour (l : Launch) (H0 : Heap) (x0 x1 x2 x3 : Int32) : Met l yX11_isPour (tb (.code yX11_isPour cX11_isPour 4 (some .boolean))) (rm 1) (va_Pc [.int x0, .int x1, .int x2, .int x3] (PS H0)) (QS H0 (fun r => ((r : Int32) = 1 ∧ rg x0 0 23 ∧ rg x1 0 95 ∧ rg x2 0 3 ∧ rg x3 1 99) ∨ ((r : Int32) = 0 ∧ ¬ (rg x0 0 23 ∧ rg x1 0 95 ∧ rg x2 0 3 ∧ rg x3 1 99)))) 0 0 (fun _ => False) := by
  refine Met.ofW (cc := cX11_isPour) (maxL := 4) (ret := (some .boolean)) (by decide) rfl ?_
  intro p e s m args below meth c s₁ B hml hv
  obtain ⟨hav, rfl, hN⟩ := hv
  have hx := B.exec
  have hb := B.bytes
  have hr := B.returns
  have hts := atoms_spec (ws := tb (.code yX11_isPour cX11_isPour 4 (some .boolean))) B.pre
  have hown : s.vm.findClass RX11 = some m.cls := findClass_of_methodNamed B.named
  have hlocks := B.notSynchronized
  have hS : va_S (fun _ => False) s.heap s.heap [] := va_S.rf
  have hl := lv_entry ([.int x0, .int x1, .int x2, .int x3]) (n := 4) (Nat.le_of_ble_eq_true rfl)
  rw [show entryFrame m args 4 = entryFrame m ([.int x0, .int x1, .int x2, .int x3] : List Value).toArray 4 from by rw [hav], lg_entry_eq]
  generalize (lg_sl ([.int x0, .int x1, .int x2, .int x3]) ++ List.replicate (4 - (lg_sl ([.int x0, .int x1, .int x2, .int x3])).length) Slot.unset).toArray = ls at hl ⊢
  have hl : lv_has ls 4 [(0, .int x0), (1, .int x1), (2, .int x2), (3, .int x3)] := hl
  generalize hR : (headSpec (tb (.code yX11_isPour cX11_isPour 4 (some .boolean))) (rm 1)).room = R
  have hR := hR.symm
  generalize hQ : MQ below (QS s.heap (fun r => ((r : Int32) = 1 ∧ rg x0 0 23 ∧ rg x1 0 95 ∧ rg x2 0 3 ∧ rg x3 1 99) ∨ ((r : Int32) = 0 ∧ ¬ (rg x0 0 23 ∧ rg x1 0 95 ∧ rg x2 0 3 ∧ rg x3 1 99)))) args s 0 0 (fun _ => False) = QF
  have hQ := hQ.symm
  refine lv_iload_n hx hb dX11_isPour_0 rfl (lv_at hl 0 rfl) ?_
  refine th_cSs (As := [.int x0]) (rest := []) (n := 1) (d := 0) ⟨hx, hb, hml, hown, hts⟩ (c_X11_isCell l s.heap x0) wd_401 wd_402 wd_1 wd_403 (by decide +kernel) ⟨by rw [hR]; exact Nat.le_of_ble_eq_true rfl, by rw [hR]; exact Nat.le_of_ble_eq_true rfl⟩ hN hS rfl hl.1 rfl (Nat.le_of_ble_eq_true rfl) dX11_isPour_1 ⟨Nat.zero_le _, Nat.zero_le _⟩ (fun r1 locs hp hS => ?_)
  rcases hp with ⟨rfl, hp⟩ | ⟨rfl, hp⟩
  · skip
    try simp only [rg, not_and, Int.not_le] at hp
    have hp2 := hp
    refine lv_if_eq (tgt := 36) hx hb dX11_isPour_4 (by decide) (fun c => absurd c (by decide)) (fun _ => ?_)
    refine lv_iload_n hx hb dX11_isPour_7 rfl (lv_at hl 1 rfl) ?_
    refine th_cSs (As := [.int x1]) (rest := []) (n := 1) (d := 0) ⟨hx, hb, hml, hown, hts⟩ (c_X11_isHour l s.heap x1) wd_466 wd_467 wd_1 wd_468 (by decide +kernel) ⟨by rw [hR]; exact Nat.le_of_ble_eq_true rfl, by rw [hR]; exact Nat.le_of_ble_eq_true rfl⟩ hN hS rfl hl.1 rfl (Nat.le_of_ble_eq_true rfl) dX11_isPour_8 ⟨Nat.zero_le _, Nat.zero_le _⟩ (fun r3 locs hp hS => ?_)
    rcases hp with ⟨rfl, hp⟩ | ⟨rfl, hp⟩
    · skip
      try simp only [rg, not_and, Int.not_le] at hp
      have hp4 := hp
      refine lv_if_eq (tgt := 36) hx hb dX11_isPour_11 (by decide) (fun c => absurd c (by decide)) (fun _ => ?_)
      refine lv_iload_n hx hb dX11_isPour_14 rfl (lv_at hl 2 rfl) ?_
      refine th_cSs (As := [.int x2]) (rest := []) (n := 1) (d := 0) ⟨hx, hb, hml, hown, hts⟩ (c_X11_isColour l s.heap x2) wd_620 wd_621 wd_1 wd_622 (by decide +kernel) ⟨by rw [hR]; exact Nat.le_of_ble_eq_true rfl, by rw [hR]; exact Nat.le_of_ble_eq_true rfl⟩ hN hS rfl hl.1 rfl (Nat.le_of_ble_eq_true rfl) dX11_isPour_15 ⟨Nat.zero_le _, Nat.zero_le _⟩ (fun r5 locs hp hS => ?_)
      rcases hp with ⟨rfl, hp⟩ | ⟨rfl, hp⟩
      · skip
        try simp only [rg, not_and, Int.not_le] at hp
        have hp6 := hp
        refine lv_if_eq (tgt := 36) hx hb dX11_isPour_18 (by decide) (fun c => absurd c (by decide)) (fun _ => ?_)
        refine lv_iload_n hx hb dX11_isPour_21 rfl (lv_at hl 3 rfl) ?_
        refine lv_iconst (v := 1) hx hb dX11_isPour_22 (by decide) ?_
        have k7 := iv_lo x3
        have k8 := iv_hi x3
        refine lv_icmp_lt (tgt := 36) hx hb dX11_isPour_23 (by decide) (fun c9 => ?_) (fun c9 => ?_)
        · skip
          have k10 := iv_lt (X := x3.toInt) (Y := (1)) rfl (by decide) c9
          refine lv_iconst (v := 0) hx hb dX11_isPour_36 (by decide) ?_
          have hpost : ((0 : Int32) = 1 ∧ rg x0 0 23 ∧ rg x1 0 95 ∧ rg x2 0 3 ∧ rg x3 1 99) ∨ ((0 : Int32) = 0 ∧ ¬ (rg x0 0 23 ∧ rg x1 0 95 ∧ rg x2 0 3 ∧ rg x3 1 99)) := by first | exact Or.inl ⟨rfl, by simp only [rg]; omega⟩ | exact Or.inr ⟨rfl, by simp only [rg]; omega⟩
          rw [hQ]
          exact W.zret (v := 0) hx hb hr (by decide) (fun t ht hW => ⟨⟨0, (), rfl, hpost, ht⟩, hS.F ht⟩) hS.2.2 dX11_isPour_37
        · skip
          have k11 := iv_nlt (X := x3.toInt) (Y := (1)) rfl (by decide) c9
          refine lv_iload_n hx hb dX11_isPour_26 rfl (lv_at hl 3 rfl) ?_
          refine lv_bipush (v := 99) hx hb dX11_isPour_27 (by decide) ?_
          refine lv_icmp_gt (tgt := 36) hx hb dX11_isPour_29 (by decide) (fun c12 => ?_) (fun c12 => ?_)
          · skip
            have k13 := iv_lt (X := (99)) (Y := x3.toInt) (by decide) rfl c12
            refine lv_iconst (v := 0) hx hb dX11_isPour_36 (by decide) ?_
            have hpost : ((0 : Int32) = 1 ∧ rg x0 0 23 ∧ rg x1 0 95 ∧ rg x2 0 3 ∧ rg x3 1 99) ∨ ((0 : Int32) = 0 ∧ ¬ (rg x0 0 23 ∧ rg x1 0 95 ∧ rg x2 0 3 ∧ rg x3 1 99)) := by first | exact Or.inl ⟨rfl, by simp only [rg]; omega⟩ | exact Or.inr ⟨rfl, by simp only [rg]; omega⟩
            rw [hQ]
            exact W.zret (v := 0) hx hb hr (by decide) (fun t ht hW => ⟨⟨0, (), rfl, hpost, ht⟩, hS.F ht⟩) hS.2.2 dX11_isPour_37
          · skip
            have k14 := iv_nlt (X := (99)) (Y := x3.toInt) (by decide) rfl c12
            refine lv_iconst (v := 1) hx hb dX11_isPour_32 (by decide) ?_
            refine lv_goto (tgt := 37) hx hb dX11_isPour_33 (by decide) ?_
            have hpost : ((1 : Int32) = 1 ∧ rg x0 0 23 ∧ rg x1 0 95 ∧ rg x2 0 3 ∧ rg x3 1 99) ∨ ((1 : Int32) = 0 ∧ ¬ (rg x0 0 23 ∧ rg x1 0 95 ∧ rg x2 0 3 ∧ rg x3 1 99)) := by first | exact Or.inl ⟨rfl, by simp only [rg]; omega⟩ | exact Or.inr ⟨rfl, by simp only [rg]; omega⟩
            rw [hQ]
            exact W.zret (v := 1) hx hb hr (by decide) (fun t ht hW => ⟨⟨1, (), rfl, hpost, ht⟩, hS.F ht⟩) hS.2.2 dX11_isPour_37
      · skip
        try simp only [rg, not_and, Int.not_le] at hp
        have hp15 := hp
        refine lv_if_eq (tgt := 36) hx hb dX11_isPour_18 (by decide) (fun _ => ?_) (fun c => absurd c (by decide))
        refine lv_iconst (v := 0) hx hb dX11_isPour_36 (by decide) ?_
        have hpost : ((0 : Int32) = 1 ∧ rg x0 0 23 ∧ rg x1 0 95 ∧ rg x2 0 3 ∧ rg x3 1 99) ∨ ((0 : Int32) = 0 ∧ ¬ (rg x0 0 23 ∧ rg x1 0 95 ∧ rg x2 0 3 ∧ rg x3 1 99)) := by first | exact Or.inl ⟨rfl, by simp only [rg]; omega⟩ | exact Or.inr ⟨rfl, by simp only [rg]; omega⟩
        rw [hQ]
        exact W.zret (v := 0) hx hb hr (by decide) (fun t ht hW => ⟨⟨0, (), rfl, hpost, ht⟩, hS.F ht⟩) hS.2.2 dX11_isPour_37
    · skip
      try simp only [rg, not_and, Int.not_le] at hp
      have hp16 := hp
      refine lv_if_eq (tgt := 36) hx hb dX11_isPour_11 (by decide) (fun _ => ?_) (fun c => absurd c (by decide))
      refine lv_iconst (v := 0) hx hb dX11_isPour_36 (by decide) ?_
      have hpost : ((0 : Int32) = 1 ∧ rg x0 0 23 ∧ rg x1 0 95 ∧ rg x2 0 3 ∧ rg x3 1 99) ∨ ((0 : Int32) = 0 ∧ ¬ (rg x0 0 23 ∧ rg x1 0 95 ∧ rg x2 0 3 ∧ rg x3 1 99)) := by first | exact Or.inl ⟨rfl, by simp only [rg]; omega⟩ | exact Or.inr ⟨rfl, by simp only [rg]; omega⟩
      rw [hQ]
      exact W.zret (v := 0) hx hb hr (by decide) (fun t ht hW => ⟨⟨0, (), rfl, hpost, ht⟩, hS.F ht⟩) hS.2.2 dX11_isPour_37
  · skip
    try simp only [rg, not_and, Int.not_le] at hp
    have hp17 := hp
    refine lv_if_eq (tgt := 36) hx hb dX11_isPour_4 (by decide) (fun _ => ?_) (fun c => absurd c (by decide))
    refine lv_iconst (v := 0) hx hb dX11_isPour_36 (by decide) ?_
    have hpost : ((0 : Int32) = 1 ∧ rg x0 0 23 ∧ rg x1 0 95 ∧ rg x2 0 3 ∧ rg x3 1 99) ∨ ((0 : Int32) = 0 ∧ ¬ (rg x0 0 23 ∧ rg x1 0 95 ∧ rg x2 0 3 ∧ rg x3 1 99)) := by first | exact Or.inl ⟨rfl, by simp only [rg]; omega⟩ | exact Or.inr ⟨rfl, by simp only [rg]; omega⟩
    rw [hQ]
    exact W.zret (v := 0) hx hb hr (by decide) (fun t ht hW => ⟨⟨0, (), rfl, hpost, ht⟩, hS.F ht⟩) hS.2.2 dX11_isPour_37
