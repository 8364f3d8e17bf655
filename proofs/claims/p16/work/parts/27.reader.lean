
theorem dX3_isLetter_0g : (decode cX3_isLetter 0 = .ok (.iload_n 0, 1)) ∧ (decode cX3_isLetter 1 = .ok (.bipush 97, 2)) ∧ (decode cX3_isLetter 3 = .ok (.if_icmp .lt 13, 3)) ∧ (decode cX3_isLetter 6 = .ok (.iload_n 0, 1)) ∧ (decode cX3_isLetter 7 = .ok (.bipush 122, 2)) ∧ (decode cX3_isLetter 9 = .ok (.if_icmp .gt 7, 3)) ∧ (decode cX3_isLetter 12 = .ok (.iconst 1, 1)) ∧ (decode cX3_isLetter 13 = .ok (.goto 4, 3)) ∧ (decode cX3_isLetter 16 = .ok (.iconst 0, 1)) ∧ (decode cX3_isLetter 17 = .ok (.ireturn, 1)) := by decide +kernel
theorem dX3_isLetter_0 : decode cX3_isLetter 0 = .ok (.iload_n 0, 1) := dX3_isLetter_0g.1
theorem dX3_isLetter_1 : decode cX3_isLetter 1 = .ok (.bipush 97, 2) := dX3_isLetter_0g.2.1
theorem dX3_isLetter_3 : decode cX3_isLetter 3 = .ok (.if_icmp .lt 13, 3) := dX3_isLetter_0g.2.2.1
theorem dX3_isLetter_6 : decode cX3_isLetter 6 = .ok (.iload_n 0, 1) := dX3_isLetter_0g.2.2.2.1
theorem dX3_isLetter_7 : decode cX3_isLetter 7 = .ok (.bipush 122, 2) := dX3_isLetter_0g.2.2.2.2.1
theorem dX3_isLetter_9 : decode cX3_isLetter 9 = .ok (.if_icmp .gt 7, 3) := dX3_isLetter_0g.2.2.2.2.2.1
theorem dX3_isLetter_12 : decode cX3_isLetter 12 = .ok (.iconst 1, 1) := dX3_isLetter_0g.2.2.2.2.2.2.1
theorem dX3_isLetter_13 : decode cX3_isLetter 13 = .ok (.goto 4, 3) := dX3_isLetter_0g.2.2.2.2.2.2.2.1
theorem dX3_isLetter_16 : decode cX3_isLetter 16 = .ok (.iconst 0, 1) := dX3_isLetter_0g.2.2.2.2.2.2.2.2.1
theorem dX3_isLetter_17 : decode cX3_isLetter 17 = .ok (.ireturn, 1) := dX3_isLetter_0g.2.2.2.2.2.2.2.2.2
set_option maxHeartbeats 4000000 in
set_option maxRecDepth 100000 in
theorem c_X3_isLetter (l : Launch) (H0 : Heap) (x0 : Int32) : Met l yX3_isLetter (tb (.code yX3_isLetter cX3_isLetter 1 (some .boolean))) (rm 0) (va_Pc [.int x0] (PS H0)) (QS H0 (fun r => ((r : Int32) = 1 ∧ rg x0 97 122) ∨ ((r : Int32) = 0 ∧ ¬ rg x0 97 122))) 0 0 (fun _ => False) := by
  refine Met.ofW (cc := cX3_isLetter) (maxL := 1) (ret := (some .boolean)) (by decide) rfl ?_
  intro p e s m args below meth c s₁ B hml hv
  obtain ⟨hav, rfl, hN⟩ := hv
  have hx := B.exec
  have hb := B.bytes
  have hr := B.returns
  have hts := atoms_spec (ws := tb (.code yX3_isLetter cX3_isLetter 1 (some .boolean))) B.pre
  have hown : s.vm.findClass RX3 = some m.cls := findClass_of_methodNamed B.named
  have hlocks := B.notSynchronized
  have hS : va_S (fun _ => False) s.heap s.heap [] := va_S.rf
  have hl := lv_entry ([.int x0]) (n := 1) (Nat.le_of_ble_eq_true rfl)
  rw [show entryFrame m args 1 = entryFrame m ([.int x0] : List Value).toArray 1 from by rw [hav], lg_entry_eq]
  generalize (lg_sl ([.int x0]) ++ List.replicate (1 - (lg_sl ([.int x0])).length) Slot.unset).toArray = ls at hl ⊢
  have hl : lv_has ls 1 [(0, .int x0)] := hl
  generalize hR : (headSpec (tb (.code yX3_isLetter cX3_isLetter 1 (some .boolean))) (rm 0)).room = R
  have hR := hR.symm
  generalize hQ : MQ below (QS s.heap (fun r => ((r : Int32) = 1 ∧ rg x0 97 122) ∨ ((r : Int32) = 0 ∧ ¬ rg x0 97 122))) args s 0 0 (fun _ => False) = QF
  have hQ := hQ.symm
  refine lv_iload_n hx hb dX3_isLetter_0 rfl (lv_at hl 0 rfl) ?_
  refine lv_bipush (v := 97) hx hb dX3_isLetter_1 (by decide) ?_
  have k1 := iv_lo x0
  have k2 := iv_hi x0
  refine lv_icmp_lt (tgt := 16) hx hb dX3_isLetter_3 (by decide) (fun c3 => ?_) (fun c3 => ?_)
  · skip
    have k4 := iv_lt (X := x0.toInt) (Y := (97)) rfl (by decide) c3
    refine lv_iconst (v := 0) hx hb dX3_isLetter_16 (by decide) ?_
    have hpost : ((0 : Int32) = 1 ∧ rg x0 97 122) ∨ ((0 : Int32) = 0 ∧ ¬ rg x0 97 122) := by first | exact Or.inl ⟨rfl, by simp only [rg]; omega⟩ | exact Or.inr ⟨rfl, by simp only [rg]; omega⟩
    rw [hQ]
    exact W.zret (v := 0) hx hb hr (by decide) (fun t ht hW => ⟨⟨0, (), rfl, hpost, ht⟩, hS.F ht⟩) hS.2.2 dX3_isLetter_17
  · skip
    have k5 := iv_nlt (X := x0.toInt) (Y := (97)) rfl (by decide) c3
    refine lv_iload_n hx hb dX3_isLetter_6 rfl (lv_at hl 0 rfl) ?_
    refine lv_bipush (v := 122) hx hb dX3_isLetter_7 (by decide) ?_
    refine lv_icmp_gt (tgt := 16) hx hb dX3_isLetter_9 (by decide) (fun c6 => ?_) (fun c6 => ?_)
    · skip
      have k7 := iv_lt (X := (122)) (Y := x0.toInt) (by decide) rfl c6
      refine lv_iconst (v := 0) hx hb dX3_isLetter_16 (by decide) ?_
      have hpost : ((0 : Int32) = 1 ∧ rg x0 97 122) ∨ ((0 : Int32) = 0 ∧ ¬ rg x0 97 122) := by first | exact Or.inl ⟨rfl, by simp only [rg]; omega⟩ | exact Or.inr ⟨rfl, by simp only [rg]; omega⟩
      rw [hQ]
      exact W.zret (v := 0) hx hb hr (by decide) (fun t ht hW => ⟨⟨0, (), rfl, hpost, ht⟩, hS.F ht⟩) hS.2.2 dX3_isLetter_17
    · skip
      have k8 := iv_nlt (X := (122)) (Y := x0.toInt) (by decide) rfl c6
      refine lv_iconst (v := 1) hx hb dX3_isLetter_12 (by decide) ?_
      refine lv_goto (tgt := 17) hx hb dX3_isLetter_13 (by decide) ?_
      have hpost : ((1 : Int32) = 1 ∧ rg x0 97 122) ∨ ((1 : Int32) = 0 ∧ ¬ rg x0 97 122) := by first | exact Or.inl ⟨rfl, by simp only [rg]; omega⟩ | exact Or.inr ⟨rfl, by simp only [rg]; omega⟩
      rw [hQ]
      exact W.zret (v := 1) hx hb hr (by decide) (fun t ht hW => ⟨⟨1, (), rfl, hpost, ht⟩, hS.F ht⟩) hS.2.2 dX3_isLetter_17
theorem dX3_isDigit_0g : (decode cX3_isDigit 0 = .ok (.iload_n 0, 1)) ∧ (decode cX3_isDigit 1 = .ok (.bipush 48, 2)) ∧ (decode cX3_isDigit 3 = .ok (.if_icmp .lt 13, 3)) ∧ (decode cX3_isDigit 6 = .ok (.iload_n 0, 1)) ∧ (decode cX3_isDigit 7 = .ok (.bipush 57, 2)) ∧ (decode cX3_isDigit 9 = .ok (.if_icmp .gt 7, 3)) ∧ (decode cX3_isDigit 12 = .ok (.iconst 1, 1)) ∧ (decode cX3_isDigit 13 = .ok (.goto 4, 3)) ∧ (decode cX3_isDigit 16 = .ok (.iconst 0, 1)) ∧ (decode cX3_isDigit 17 = .ok (.ireturn, 1)) := by decide +kernel
theorem dX3_isDigit_0 : decode cX3_isDigit 0 = .ok (.iload_n 0, 1) := dX3_isDigit_0g.1
theorem dX3_isDigit_1 : decode cX3_isDigit 1 = .ok (.bipush 48, 2) := dX3_isDigit_0g.2.1
theorem dX3_isDigit_3 : decode cX3_isDigit 3 = .ok (.if_icmp .lt 13, 3) := dX3_isDigit_0g.2.2.1
theorem dX3_isDigit_6 : decode cX3_isDigit 6 = .ok (.iload_n 0, 1) := dX3_isDigit_0g.2.2.2.1
theorem dX3_isDigit_7 : decode cX3_isDigit 7 = .ok (.bipush 57, 2) := dX3_isDigit_0g.2.2.2.2.1
theorem dX3_isDigit_9 : decode cX3_isDigit 9 = .ok (.if_icmp .gt 7, 3) := dX3_isDigit_0g.2.2.2.2.2.1
theorem dX3_isDigit_12 : decode cX3_isDigit 12 = .ok (.iconst 1, 1) := dX3_isDigit_0g.2.2.2.2.2.2.1
theorem dX3_isDigit_13 : decode cX3_isDigit 13 = .ok (.goto 4, 3) := dX3_isDigit_0g.2.2.2.2.2.2.2.1
theorem dX3_isDigit_16 : decode cX3_isDigit 16 = .ok (.iconst 0, 1) := dX3_isDigit_0g.2.2.2.2.2.2.2.2.1
theorem dX3_isDigit_17 : decode cX3_isDigit 17 = .ok (.ireturn, 1) := dX3_isDigit_0g.2.2.2.2.2.2.2.2.2
set_option maxHeartbeats 4000000 in
set_option maxRecDepth 100000 in
theorem c_X3_isDigit (l : Launch) (H0 : Heap) (x0 : Int32) : Met l yX3_isDigit (tb (.code yX3_isDigit cX3_isDigit 1 (some .boolean))) (rm 0) (va_Pc [.int x0] (PS H0)) (QS H0 (fun r => ((r : Int32) = 1 ∧ rg x0 48 57) ∨ ((r : Int32) = 0 ∧ ¬ rg x0 48 57))) 0 0 (fun _ => False) := by
  refine Met.ofW (cc := cX3_isDigit) (maxL := 1) (ret := (some .boolean)) (by decide) rfl ?_
  intro p e s m args below meth c s₁ B hml hv
  obtain ⟨hav, rfl, hN⟩ := hv
  have hx := B.exec
  have hb := B.bytes
  have hr := B.returns
  have hts := atoms_spec (ws := tb (.code yX3_isDigit cX3_isDigit 1 (some .boolean))) B.pre
  have hown : s.vm.findClass RX3 = some m.cls := findClass_of_methodNamed B.named
  have hlocks := B.notSynchronized
  have hS : va_S (fun _ => False) s.heap s.heap [] := va_S.rf
  have hl := lv_entry ([.int x0]) (n := 1) (Nat.le_of_ble_eq_true rfl)
  rw [show entryFrame m args 1 = entryFrame m ([.int x0] : List Value).toArray 1 from by rw [hav], lg_entry_eq]
  generalize (lg_sl ([.int x0]) ++ List.replicate (1 - (lg_sl ([.int x0])).length) Slot.unset).toArray = ls at hl ⊢
  have hl : lv_has ls 1 [(0, .int x0)] := hl
  generalize hR : (headSpec (tb (.code yX3_isDigit cX3_isDigit 1 (some .boolean))) (rm 0)).room = R
  have hR := hR.symm
  generalize hQ : MQ below (QS s.heap (fun r => ((r : Int32) = 1 ∧ rg x0 48 57) ∨ ((r : Int32) = 0 ∧ ¬ rg x0 48 57))) args s 0 0 (fun _ => False) = QF
  have hQ := hQ.symm
  refine lv_iload_n hx hb dX3_isDigit_0 rfl (lv_at hl 0 rfl) ?_
  refine lv_bipush (v := 48) hx hb dX3_isDigit_1 (by decide) ?_
  have k1 := iv_lo x0
  have k2 := iv_hi x0
  refine lv_icmp_lt (tgt := 16) hx hb dX3_isDigit_3 (by decide) (fun c3 => ?_) (fun c3 => ?_)
  · skip
    have k4 := iv_lt (X := x0.toInt) (Y := (48)) rfl (by decide) c3
    refine lv_iconst (v := 0) hx hb dX3_isDigit_16 (by decide) ?_
    have hpost : ((0 : Int32) = 1 ∧ rg x0 48 57) ∨ ((0 : Int32) = 0 ∧ ¬ rg x0 48 57) := by first | exact Or.inl ⟨rfl, by simp only [rg]; omega⟩ | exact Or.inr ⟨rfl, by simp only [rg]; omega⟩
    rw [hQ]
    exact W.zret (v := 0) hx hb hr (by decide) (fun t ht hW => ⟨⟨0, (), rfl, hpost, ht⟩, hS.F ht⟩) hS.2.2 dX3_isDigit_17
  · skip
    have k5 := iv_nlt (X := x0.toInt) (Y := (48)) rfl (by decide) c3
    refine lv_iload_n hx hb dX3_isDigit_6 rfl (lv_at hl 0 rfl) ?_
    refine lv_bipush (v := 57) hx hb dX3_isDigit_7 (by decide) ?_
    refine lv_icmp_gt (tgt := 16) hx hb dX3_isDigit_9 (by decide) (fun c6 => ?_) (fun c6 => ?_)
    · skip
      have k7 := iv_lt (X := (57)) (Y := x0.toInt) (by decide) rfl c6
      refine lv_iconst (v := 0) hx hb dX3_isDigit_16 (by decide) ?_
      have hpost : ((0 : Int32) = 1 ∧ rg x0 48 57) ∨ ((0 : Int32) = 0 ∧ ¬ rg x0 48 57) := by first | exact Or.inl ⟨rfl, by simp only [rg]; omega⟩ | exact Or.inr ⟨rfl, by simp only [rg]; omega⟩
      rw [hQ]
      exact W.zret (v := 0) hx hb hr (by decide) (fun t ht hW => ⟨⟨0, (), rfl, hpost, ht⟩, hS.F ht⟩) hS.2.2 dX3_isDigit_17
    · skip
      have k8 := iv_nlt (X := (57)) (Y := x0.toInt) (by decide) rfl c6
      refine lv_iconst (v := 1) hx hb dX3_isDigit_12 (by decide) ?_
      refine lv_goto (tgt := 17) hx hb dX3_isDigit_13 (by decide) ?_
      have hpost : ((1 : Int32) = 1 ∧ rg x0 48 57) ∨ ((1 : Int32) = 0 ∧ ¬ rg x0 48 57) := by first | exact Or.inl ⟨rfl, by simp only [rg]; omega⟩ | exact Or.inr ⟨rfl, by simp only [rg]; omega⟩
      rw [hQ]
      exact W.zret (v := 1) hx hb hr (by decide) (fun t ht hW => ⟨⟨1, (), rfl, hpost, ht⟩, hS.F ht⟩) hS.2.2 dX3_isDigit_17
