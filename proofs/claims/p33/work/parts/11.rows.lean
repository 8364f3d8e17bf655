theorem wd_14 : (Cond.initialized RJ10) ∈ TB := tw 14 (by decide +kernel) (by decide +kernel)
theorem wd_3 : (Cond.initialized RX4) ∈ TB := tw 3 (by decide +kernel) (by decide +kernel)
theorem wd_45 : (Cond.fieldLink RX4 (21 : Nat) "NineRiver$Rows" "room" "I") ∈ TB := tw 45 (by decide +kernel) (by decide +kernel)
theorem wd_46 : (Cond.fieldLink RX4 (24 : Nat) "NineRiver$Rows" "items" "[I") ∈ TB := tw 46 (by decide +kernel) (by decide +kernel)
theorem wd_47 : (Cond.fieldLink RX4 (9 : Nat) "NineRiver$Rows" "size" "I") ∈ TB := tw 47 (by decide +kernel) (by decide +kernel)
theorem wd_482 : (Jvm.Cond.instanceMethod yX4_isFull) ∈ TB := tw 482 (by decide +kernel) (by decide +kernel)
theorem wd_483 : (Cond.selects RX4 yX4_isFull yX4_isFull) ∈ TB := tw 483 (by decide +kernel) (by decide +kernel)
theorem wd_484 : (Cond.code yX4_isFull cX4_isFull 1 (Option.some Jvm.ClassFile.FieldType.boolean)) ∈ TB := tw 484 (by decide +kernel) (by decide +kernel)
theorem wd_489 : (Cond.methodLink RX4 (32 : Nat) yX4_isFull) ∈ TB := tw 489 (by decide +kernel) (by decide +kernel)
theorem wd_495 : (Jvm.Cond.instanceMethod yX4_has) ∈ TB := tw 495 (by decide +kernel) (by decide +kernel)
theorem wd_496 : (Cond.selects RX4 yX4_has yX4_has) ∈ TB := tw 496 (by decide +kernel) (by decide +kernel)
theorem wd_497 : (Cond.code yX4_has cX4_has 2 (Option.some Jvm.ClassFile.FieldType.boolean)) ∈ TB := tw 497 (by decide +kernel) (by decide +kernel)
theorem wd_502 : (Cond.methodLink RX4 (28 : Nat) yX4_has) ∈ TB := tw 502 (by decide +kernel) (by decide +kernel)
theorem wd_503 : (Cond.methodLink RX4 (36 : Nat) arraycopyName) ∈ TB := tw 503 (by decide +kernel) (by decide +kernel)
theorem wd_504 : (Jvm.Cond.static arraycopyName) ∈ TB := tw 504 (by decide +kernel) (by decide +kernel)
theorem wd_505 : (Jvm.Cond.native arraycopyName) ∈ TB := tw 505 (by decide +kernel) (by decide +kernel)
theorem dX4_size_0g : (decode cX4_size 0 = .ok (.aload_n 0, 1)) ∧ (decode cX4_size 1 = .ok (.getfield 9, 3)) ∧ (decode cX4_size 4 = .ok (.ireturn, 1)) := by decide +kernel
theorem dX4_size_0 : decode cX4_size 0 = .ok (.aload_n 0, 1) := dX4_size_0g.1
theorem dX4_size_1 : decode cX4_size 1 = .ok (.getfield 9, 3) := dX4_size_0g.2.1
theorem dX4_size_4 : decode cX4_size 4 = .ok (.ireturn, 1) := dX4_size_0g.2.2
set_option maxHeartbeats 4000000 in
set_option maxRecDepth 100000 in
theorem c_X4_size (l : Launch) (E : Nat → Nat) (D : va_G) (H0 : Heap) (h0 n q1 : Nat) (z2 : Int32) (hO : va_at D vwCl (h0, .inr (4, [.int (nI n), .ref q1, .int z2])) H0) (k0 : 0 ≤ z2.toInt) (k1 : z2.toInt ≤ n) (k2 : n ≤ 16) : Met l yX4_size (tb (.code yX4_size cX4_size 1 (some .int))) (rm 0) (va_Pc [.ref h0] (PK E D H0)) (QS H0 (fun r => (r : Int32) = z2)) 0 0 (fun _ => False) := by
  refine Met.ofW (cc := cX4_size) (maxL := 1) (ret := (some .int)) (by decide) rfl ?_
  intro p e s m args below meth c s₁ B hml hv
  obtain ⟨hav, rfl, hN, hK⟩ := hv
  have hx := B.exec
  have hb := B.bytes
  have hr := B.returns
  have hts := atoms_spec (ws := tb (.code yX4_size cX4_size 1 (some .int))) B.pre
  have hown : s.vm.findClass RX4 = some m.cls := findClass_of_methodNamed B.named
  have hlocks := B.notSynchronized
  have hS : va_S (fun _ => False) s.heap s.heap [] := va_S.rf
  have hl := lv_entry ([.ref h0]) (n := 1) (Nat.le_of_ble_eq_true rfl)
  rw [show entryFrame m args 1 = entryFrame m ([.ref h0] : List Value).toArray 1 from by rw [hav], lg_entry_eq]
  generalize (lg_sl ([.ref h0]) ++ List.replicate (1 - (lg_sl ([.ref h0])).length) Slot.unset).toArray = ls at hl ⊢
  have hl : lv_has ls 1 [(0, .ref h0)] := hl
  generalize hR : (headSpec (tb (.code yX4_size cX4_size 1 (some .int))) (rm 0)).room = R
  have hR := hR.symm
  generalize hQ : MQ below (QS s.heap (fun r => (r : Int32) = z2)) args s 0 0 (fun _ => False) = QF
  have hQ := hQ.symm
  have := (nI_toInt (n := n) (by omega))
  refine lv_aload_n hx hb dX4_size_0 rfl (lv_at hl 0 rfl) ?_
  refine th_get hx hb hts inT4 hown hK hO rfl 2 (by decide) (hts _ (tb_c wd_47)) rfl rfl dX4_size_1 ?_
  have hpost : (z2 : Int32) = z2 := rfl
  rw [hQ]
  exact W.iret (v := z2) hx hb hr (fun t ht hW => ⟨⟨z2, (), rfl, hpost, ht⟩, hS.F ht⟩) hS.2.2 dX4_size_4
theorem dX4_has_0g : (decode cX4_has 0 = .ok (.iload_n 1, 1)) ∧ (decode cX4_has 1 = .ok (.ifCond .lt 15, 3)) ∧ (decode cX4_has 4 = .ok (.iload_n 1, 1)) ∧ (decode cX4_has 5 = .ok (.aload_n 0, 1)) ∧ (decode cX4_has 6 = .ok (.getfield 9, 3)) ∧ (decode cX4_has 9 = .ok (.if_icmp .ge 7, 3)) ∧ (decode cX4_has 12 = .ok (.iconst 1, 1)) ∧ (decode cX4_has 13 = .ok (.goto 4, 3)) ∧ (decode cX4_has 16 = .ok (.iconst 0, 1)) ∧ (decode cX4_has 17 = .ok (.ireturn, 1)) := by decide +kernel
theorem dX4_has_0 : decode cX4_has 0 = .ok (.iload_n 1, 1) := dX4_has_0g.1
theorem dX4_has_1 : decode cX4_has 1 = .ok (.ifCond .lt 15, 3) := dX4_has_0g.2.1
theorem dX4_has_4 : decode cX4_has 4 = .ok (.iload_n 1, 1) := dX4_has_0g.2.2.1
theorem dX4_has_5 : decode cX4_has 5 = .ok (.aload_n 0, 1) := dX4_has_0g.2.2.2.1
theorem dX4_has_6 : decode cX4_has 6 = .ok (.getfield 9, 3) := dX4_has_0g.2.2.2.2.1
theorem dX4_has_9 : decode cX4_has 9 = .ok (.if_icmp .ge 7, 3) := dX4_has_0g.2.2.2.2.2.1
theorem dX4_has_12 : decode cX4_has 12 = .ok (.iconst 1, 1) := dX4_has_0g.2.2.2.2.2.2.1
theorem dX4_has_13 : decode cX4_has 13 = .ok (.goto 4, 3) := dX4_has_0g.2.2.2.2.2.2.2.1
theorem dX4_has_16 : decode cX4_has 16 = .ok (.iconst 0, 1) := dX4_has_0g.2.2.2.2.2.2.2.2.1
theorem dX4_has_17 : decode cX4_has 17 = .ok (.ireturn, 1) := dX4_has_0g.2.2.2.2.2.2.2.2.2
set_option maxHeartbeats 4000000 in
set_option maxRecDepth 100000 in
theorem c_X4_has (l : Launch) (E : Nat → Nat) (D : va_G) (H0 : Heap) (h0 n q1 : Nat) (z2 : Int32) (hO : va_at D vwCl (h0, .inr (4, [.int (nI n), .ref q1, .int z2])) H0) (k0 : 0 ≤ z2.toInt) (k1 : z2.toInt ≤ n) (k2 : n ≤ 16) (x1 : Int32) : Met l yX4_has (tb (.code yX4_has cX4_has 2 (some .boolean))) (rm 0) (va_Pc [.ref h0, .int x1] (PK E D H0)) (QS H0 (fun r => ((r : Int32) = 1 ∧ (0 ≤ x1.toInt ∧ x1.toInt < z2.toInt)) ∨ ((r : Int32) = 0 ∧ ¬ (0 ≤ x1.toInt ∧ x1.toInt < z2.toInt)))) 0 0 (fun _ => False) := by
  refine Met.ofW (cc := cX4_has) (maxL := 2) (ret := (some .boolean)) (by decide) rfl ?_
  intro p e s m args below meth c s₁ B hml hv
  obtain ⟨hav, rfl, hN, hK⟩ := hv
  have hx := B.exec
  have hb := B.bytes
  have hr := B.returns
  have hts := atoms_spec (ws := tb (.code yX4_has cX4_has 2 (some .boolean))) B.pre
  have hown : s.vm.findClass RX4 = some m.cls := findClass_of_methodNamed B.named
  have hlocks := B.notSynchronized
  have hS : va_S (fun _ => False) s.heap s.heap [] := va_S.rf
  have hl := lv_entry ([.ref h0, .int x1]) (n := 2) (Nat.le_of_ble_eq_true rfl)
  rw [show entryFrame m args 2 = entryFrame m ([.ref h0, .int x1] : List Value).toArray 2 from by rw [hav], lg_entry_eq]
  generalize (lg_sl ([.ref h0, .int x1]) ++ List.replicate (2 - (lg_sl ([.ref h0, .int x1])).length) Slot.unset).toArray = ls at hl ⊢
  have hl : lv_has ls 2 [(0, .ref h0), (1, .int x1)] := hl
  generalize hR : (headSpec (tb (.code yX4_has cX4_has 2 (some .boolean))) (rm 0)).room = R
  have hR := hR.symm
  generalize hQ : MQ below (QS s.heap (fun r => ((r : Int32) = 1 ∧ (0 ≤ x1.toInt ∧ x1.toInt < z2.toInt)) ∨ ((r : Int32) = 0 ∧ ¬ (0 ≤ x1.toInt ∧ x1.toInt < z2.toInt)))) args s 0 0 (fun _ => False) = QF
  have hQ := hQ.symm
  have := (nI_toInt (n := n) (by omega))
  refine lv_iload_n hx hb dX4_has_0 rfl (lv_at hl 1 rfl) ?_
  have k1 := iv_lo x1
  have k2 := iv_hi x1
  refine lv_if_lt (tgt := 16) hx hb dX4_has_1 (by decide) (fun c3 => ?_) (fun c3 => ?_)
  · skip
    have k4 := iv_lt (X := x1.toInt) (Y := (0)) rfl (by decide) c3
    refine lv_iconst (v := 0) hx hb dX4_has_16 (by decide) ?_
    have hpost : ((0 : Int32) = 1 ∧ (0 ≤ x1.toInt ∧ x1.toInt < z2.toInt)) ∨ ((0 : Int32) = 0 ∧ ¬ (0 ≤ x1.toInt ∧ x1.toInt < z2.toInt)) := by first | exact Or.inl ⟨rfl, by omega⟩ | exact Or.inr ⟨rfl, by omega⟩
    rw [hQ]
    exact W.zret (v := 0) hx hb hr (by decide) (fun t ht hW => ⟨⟨0, (), rfl, hpost, ht⟩, hS.F ht⟩) hS.2.2 dX4_has_17
  · skip
    have k5 := iv_nlt (X := x1.toInt) (Y := (0)) rfl (by decide) c3
    refine lv_iload_n hx hb dX4_has_4 rfl (lv_at hl 1 rfl) ?_
    refine lv_aload_n hx hb dX4_has_5 rfl (lv_at hl 0 rfl) ?_
    refine th_get hx hb hts inT4 hown hK hO rfl 2 (by decide) (hts _ (tb_c wd_47)) rfl rfl dX4_has_6 ?_
    refine lv_icmp_ge (tgt := 16) hx hb dX4_has_9 (by decide) (fun c6 => ?_) (fun c6 => ?_)
    · skip
      have k7 := iv_le (X := z2.toInt) (Y := x1.toInt) rfl rfl c6
      refine lv_iconst (v := 0) hx hb dX4_has_16 (by decide) ?_
      have hpost : ((0 : Int32) = 1 ∧ (0 ≤ x1.toInt ∧ x1.toInt < z2.toInt)) ∨ ((0 : Int32) = 0 ∧ ¬ (0 ≤ x1.toInt ∧ x1.toInt < z2.toInt)) := by first | exact Or.inl ⟨rfl, by omega⟩ | exact Or.inr ⟨rfl, by omega⟩
      rw [hQ]
      exact W.zret (v := 0) hx hb hr (by decide) (fun t ht hW => ⟨⟨0, (), rfl, hpost, ht⟩, hS.F ht⟩) hS.2.2 dX4_has_17
    · skip
      have k8 := iv_nle (X := z2.toInt) (Y := x1.toInt) rfl rfl c6
      refine lv_iconst (v := 1) hx hb dX4_has_12 (by decide) ?_
      refine lv_goto (tgt := 17) hx hb dX4_has_13 (by decide) ?_
      have hpost : ((1 : Int32) = 1 ∧ (0 ≤ x1.toInt ∧ x1.toInt < z2.toInt)) ∨ ((1 : Int32) = 0 ∧ ¬ (0 ≤ x1.toInt ∧ x1.toInt < z2.toInt)) := by first | exact Or.inl ⟨rfl, by omega⟩ | exact Or.inr ⟨rfl, by omega⟩
      rw [hQ]
      exact W.zret (v := 1) hx hb hr (by decide) (fun t ht hW => ⟨⟨1, (), rfl, hpost, ht⟩, hS.F ht⟩) hS.2.2 dX4_has_17
theorem dX4_isFull_0g : (decode cX4_isFull 0 = .ok (.aload_n 0, 1)) ∧ (decode cX4_isFull 1 = .ok (.getfield 9, 3)) ∧ (decode cX4_isFull 4 = .ok (.aload_n 0, 1)) ∧ (decode cX4_isFull 5 = .ok (.getfield 21, 3)) ∧ (decode cX4_isFull 8 = .ok (.if_icmp .lt 7, 3)) ∧ (decode cX4_isFull 11 = .ok (.iconst 1, 1)) ∧ (decode cX4_isFull 12 = .ok (.goto 4, 3)) ∧ (decode cX4_isFull 15 = .ok (.iconst 0, 1)) ∧ (decode cX4_isFull 16 = .ok (.ireturn, 1)) := by decide +kernel
theorem dX4_isFull_0 : decode cX4_isFull 0 = .ok (.aload_n 0, 1) := dX4_isFull_0g.1
theorem dX4_isFull_1 : decode cX4_isFull 1 = .ok (.getfield 9, 3) := dX4_isFull_0g.2.1
theorem dX4_isFull_4 : decode cX4_isFull 4 = .ok (.aload_n 0, 1) := dX4_isFull_0g.2.2.1
theorem dX4_isFull_5 : decode cX4_isFull 5 = .ok (.getfield 21, 3) := dX4_isFull_0g.2.2.2.1
theorem dX4_isFull_8 : decode cX4_isFull 8 = .ok (.if_icmp .lt 7, 3) := dX4_isFull_0g.2.2.2.2.1
theorem dX4_isFull_11 : decode cX4_isFull 11 = .ok (.iconst 1, 1) := dX4_isFull_0g.2.2.2.2.2.1
theorem dX4_isFull_12 : decode cX4_isFull 12 = .ok (.goto 4, 3) := dX4_isFull_0g.2.2.2.2.2.2.1
theorem dX4_isFull_15 : decode cX4_isFull 15 = .ok (.iconst 0, 1) := dX4_isFull_0g.2.2.2.2.2.2.2.1
theorem dX4_isFull_16 : decode cX4_isFull 16 = .ok (.ireturn, 1) := dX4_isFull_0g.2.2.2.2.2.2.2.2
set_option maxHeartbeats 4000000 in
set_option maxRecDepth 100000 in
theorem c_X4_isFull (l : Launch) (E : Nat → Nat) (D : va_G) (H0 : Heap) (h0 n q1 : Nat) (z2 : Int32) (hO : va_at D vwCl (h0, .inr (4, [.int (nI n), .ref q1, .int z2])) H0) (k0 : 0 ≤ z2.toInt) (k1 : z2.toInt ≤ n) (k2 : n ≤ 16) : Met l yX4_isFull (tb (.code yX4_isFull cX4_isFull 1 (some .boolean))) (rm 0) (va_Pc [.ref h0] (PK E D H0)) (QS H0 (fun r => ((r : Int32) = 1 ∧ (n : Int) ≤ z2.toInt) ∨ ((r : Int32) = 0 ∧ z2.toInt < (n : Int)))) 0 0 (fun _ => False) := by
  refine Met.ofW (cc := cX4_isFull) (maxL := 1) (ret := (some .boolean)) (by decide) rfl ?_
  intro p e s m args below meth c s₁ B hml hv
  obtain ⟨hav, rfl, hN, hK⟩ := hv
  have hx := B.exec
  have hb := B.bytes
  have hr := B.returns
  have hts := atoms_spec (ws := tb (.code yX4_isFull cX4_isFull 1 (some .boolean))) B.pre
  have hown : s.vm.findClass RX4 = some m.cls := findClass_of_methodNamed B.named
  have hlocks := B.notSynchronized
  have hS : va_S (fun _ => False) s.heap s.heap [] := va_S.rf
  have hl := lv_entry ([.ref h0]) (n := 1) (Nat.le_of_ble_eq_true rfl)
  rw [show entryFrame m args 1 = entryFrame m ([.ref h0] : List Value).toArray 1 from by rw [hav], lg_entry_eq]
  generalize (lg_sl ([.ref h0]) ++ List.replicate (1 - (lg_sl ([.ref h0])).length) Slot.unset).toArray = ls at hl ⊢
  have hl : lv_has ls 1 [(0, .ref h0)] := hl
  generalize hR : (headSpec (tb (.code yX4_isFull cX4_isFull 1 (some .boolean))) (rm 0)).room = R
  have hR := hR.symm
  generalize hQ : MQ below (QS s.heap (fun r => ((r : Int32) = 1 ∧ (n : Int) ≤ z2.toInt) ∨ ((r : Int32) = 0 ∧ z2.toInt < (n : Int)))) args s 0 0 (fun _ => False) = QF
  have hQ := hQ.symm
  have := (nI_toInt (n := n) (by omega))
  refine lv_aload_n hx hb dX4_isFull_0 rfl (lv_at hl 0 rfl) ?_
  refine th_get hx hb hts inT4 hown hK hO rfl 2 (by decide) (hts _ (tb_c wd_47)) rfl rfl dX4_isFull_1 ?_
  refine lv_aload_n hx hb dX4_isFull_4 rfl (lv_at hl 0 rfl) ?_
  refine th_get hx hb hts inT4 hown hK hO rfl 0 (by decide) (hts _ (tb_c wd_45)) rfl rfl dX4_isFull_5 ?_
  refine lv_icmp_lt (tgt := 15) hx hb dX4_isFull_8 (by decide) (fun c1 => ?_) (fun c1 => ?_)
  · skip
    have k2 := iv_lt (X := z2.toInt) (Y := (nI n).toInt) rfl rfl c1
    refine lv_iconst (v := 0) hx hb dX4_isFull_15 (by decide) ?_
    have hpost : ((0 : Int32) = 1 ∧ (n : Int) ≤ z2.toInt) ∨ ((0 : Int32) = 0 ∧ z2.toInt < (n : Int)) := by first | exact Or.inl ⟨rfl, by omega⟩ | exact Or.inr ⟨rfl, by omega⟩
    rw [hQ]
    exact W.zret (v := 0) hx hb hr (by decide) (fun t ht hW => ⟨⟨0, (), rfl, hpost, ht⟩, hS.F ht⟩) hS.2.2 dX4_isFull_16
  · skip
    have k3 := iv_nlt (X := z2.toInt) (Y := (nI n).toInt) rfl rfl c1
    refine lv_iconst (v := 1) hx hb dX4_isFull_11 (by decide) ?_
    refine lv_goto (tgt := 16) hx hb dX4_isFull_12 (by decide) ?_
    have hpost : ((1 : Int32) = 1 ∧ (n : Int) ≤ z2.toInt) ∨ ((1 : Int32) = 0 ∧ z2.toInt < (n : Int)) := by first | exact Or.inl ⟨rfl, by omega⟩ | exact Or.inr ⟨rfl, by omega⟩
    rw [hQ]
    exact W.zret (v := 1) hx hb hr (by decide) (fun t ht hW => ⟨⟨1, (), rfl, hpost, ht⟩, hS.F ht⟩) hS.2.2 dX4_isFull_16
theorem dX4_at_0g : (decode cX4_at 0 = .ok (.iload_n 1, 1)) ∧ (decode cX4_at 1 = .ok (.ifCond .lt 33, 3)) ∧ (decode cX4_at 4 = .ok (.iload_n 1, 1)) ∧ (decode cX4_at 5 = .ok (.aload_n 0, 1)) ∧ (decode cX4_at 6 = .ok (.getfield 9, 3)) ∧ (decode cX4_at 9 = .ok (.if_icmp .ge 25, 3)) ∧ (decode cX4_at 12 = .ok (.iload_n 2, 1)) ∧ (decode cX4_at 13 = .ok (.ifCond .lt 21, 3)) ∧ (decode cX4_at 16 = .ok (.iload_n 2, 1)) ∧ (decode cX4_at 17 = .ok (.iconst 4, 1)) := by decide +kernel
theorem dX4_at_0 : decode cX4_at 0 = .ok (.iload_n 1, 1) := dX4_at_0g.1
theorem dX4_at_1 : decode cX4_at 1 = .ok (.ifCond .lt 33, 3) := dX4_at_0g.2.1
theorem dX4_at_4 : decode cX4_at 4 = .ok (.iload_n 1, 1) := dX4_at_0g.2.2.1
theorem dX4_at_5 : decode cX4_at 5 = .ok (.aload_n 0, 1) := dX4_at_0g.2.2.2.1
theorem dX4_at_6 : decode cX4_at 6 = .ok (.getfield 9, 3) := dX4_at_0g.2.2.2.2.1
theorem dX4_at_9 : decode cX4_at 9 = .ok (.if_icmp .ge 25, 3) := dX4_at_0g.2.2.2.2.2.1
theorem dX4_at_12 : decode cX4_at 12 = .ok (.iload_n 2, 1) := dX4_at_0g.2.2.2.2.2.2.1
theorem dX4_at_13 : decode cX4_at 13 = .ok (.ifCond .lt 21, 3) := dX4_at_0g.2.2.2.2.2.2.2.1
theorem dX4_at_16 : decode cX4_at 16 = .ok (.iload_n 2, 1) := dX4_at_0g.2.2.2.2.2.2.2.2.1
theorem dX4_at_17 : decode cX4_at 17 = .ok (.iconst 4, 1) := dX4_at_0g.2.2.2.2.2.2.2.2.2
theorem dX4_at_18g : (decode cX4_at 18 = .ok (.if_icmp .ge 16, 3)) ∧ (decode cX4_at 21 = .ok (.aload_n 0, 1)) ∧ (decode cX4_at 22 = .ok (.getfield 24, 3)) ∧ (decode cX4_at 25 = .ok (.iload_n 1, 1)) ∧ (decode cX4_at 26 = .ok (.iconst 4, 1)) ∧ (decode cX4_at 27 = .ok (.imul, 1)) ∧ (decode cX4_at 28 = .ok (.iload_n 2, 1)) ∧ (decode cX4_at 29 = .ok (.iadd, 1)) ∧ (decode cX4_at 30 = .ok (.iaload, 1)) ∧ (decode cX4_at 31 = .ok (.goto 4, 3)) := by decide +kernel
theorem dX4_at_18 : decode cX4_at 18 = .ok (.if_icmp .ge 16, 3) := dX4_at_18g.1
theorem dX4_at_21 : decode cX4_at 21 = .ok (.aload_n 0, 1) := dX4_at_18g.2.1
theorem dX4_at_22 : decode cX4_at 22 = .ok (.getfield 24, 3) := dX4_at_18g.2.2.1
theorem dX4_at_25 : decode cX4_at 25 = .ok (.iload_n 1, 1) := dX4_at_18g.2.2.2.1
theorem dX4_at_26 : decode cX4_at 26 = .ok (.iconst 4, 1) := dX4_at_18g.2.2.2.2.1
theorem dX4_at_27 : decode cX4_at 27 = .ok (.imul, 1) := dX4_at_18g.2.2.2.2.2.1
theorem dX4_at_28 : decode cX4_at 28 = .ok (.iload_n 2, 1) := dX4_at_18g.2.2.2.2.2.2.1
theorem dX4_at_29 : decode cX4_at 29 = .ok (.iadd, 1) := dX4_at_18g.2.2.2.2.2.2.2.1
theorem dX4_at_30 : decode cX4_at 30 = .ok (.iaload, 1) := dX4_at_18g.2.2.2.2.2.2.2.2.1
theorem dX4_at_31 : decode cX4_at 31 = .ok (.goto 4, 3) := dX4_at_18g.2.2.2.2.2.2.2.2.2
theorem dX4_at_34g : (decode cX4_at 34 = .ok (.iconst 0, 1)) ∧ (decode cX4_at 35 = .ok (.ireturn, 1)) := by decide +kernel
theorem dX4_at_34 : decode cX4_at 34 = .ok (.iconst 0, 1) := dX4_at_34g.1
theorem dX4_at_35 : decode cX4_at 35 = .ok (.ireturn, 1) := dX4_at_34g.2
set_option maxHeartbeats 4000000 in
set_option maxRecDepth 100000 in
theorem c_X4_at (l : Launch) (E : Nat → Nat) (D : va_G) (G : th_G) (h0 n : Nat) (hG0 : G h0 = some (4, n)) (x1 x2 : Int32) : Met l yX4_at (tb (.code yX4_at cX4_at 3 (some .int))) (rm 0) (va_Pc [.ref h0, .int x1, .int x2] (th_P E D G)) (QI E D G (fun r => True)) 0 0 (th_A G) := by
  refine Met.ofW (cc := cX4_at) (maxL := 3) (ret := (some .int)) (by decide) rfl ?_
  intro p e s m args below meth c s₁ B hml hv
  obtain ⟨hav, hI, hN, hK⟩ := hv
  have hx := B.exec
  have hb := B.bytes
  have hr := B.returns
  have hts := atoms_spec (ws := tb (.code yX4_at cX4_at 3 (some .int))) B.pre
  have hown : s.vm.findClass RX4 = some m.cls := findClass_of_methodNamed B.named
  have hlocks := B.notSynchronized
  have hS : va_S (th_A G) s.heap s.heap [] := va_S.rf
  have hl := lv_entry ([.ref h0, .int x1, .int x2]) (n := 3) (Nat.le_of_ble_eq_true rfl)
  rw [show entryFrame m args 3 = entryFrame m ([.ref h0, .int x1, .int x2] : List Value).toArray 3 from by rw [hav], lg_entry_eq]
  generalize (lg_sl ([.ref h0, .int x1, .int x2]) ++ List.replicate (3 - (lg_sl ([.ref h0, .int x1, .int x2])).length) Slot.unset).toArray = ls at hl ⊢
  have hl : lv_has ls 3 [(0, .ref h0), (1, .int x1), (2, .int x2)] := hl
  generalize hR : (headSpec (tb (.code yX4_at cX4_at 3 (some .int))) (rm 0)).room = R
  have hR := hR.symm
  generalize hQ : MQ below (QI E D G (fun r => True)) args s 0 0 (th_A G) = QF
  have hQ := hQ.symm
  refine lv_iload_n hx hb dX4_at_0 rfl (lv_at hl 1 rfl) ?_
  have k1 := iv_lo x1
  have k2 := iv_hi x1
  refine lv_if_lt (tgt := 34) hx hb dX4_at_1 (by decide) (fun c3 => ?_) (fun c3 => ?_)
  · skip
    have k4 := iv_lt (X := x1.toInt) (Y := (0)) rfl (by decide) c3
    refine lv_iconst (v := 0) hx hb dX4_at_34 (by decide) ?_
    have hpost : True := trivial
    rw [hQ]
    exact W.iret (v := 0) hx hb hr (fun t ht hW => ⟨⟨0, (), rfl, hpost, by rw [ht]; exact hI, hN.warm hW, va_K.moved hW.alike hK⟩, hS.F ht⟩) hS.2.2 dX4_at_35
  · skip
    have k5 := iv_nlt (X := x1.toInt) (Y := (0)) rfl (by decide) c3
    refine lv_iload_n hx hb dX4_at_4 rfl (lv_at hl 1 rfl) ?_
    refine lv_aload_n hx hb dX4_at_5 rfl (lv_at hl 0 rfl) ?_
    obtain ⟨a6, w8, hO, hq7, ⟨k9, k10⟩, k11⟩ := op_4 hI hG0 List.not_mem_nil
    have hI := th_I.weak (a := h0) hI
    have k12 : (nI (n % 32)).toInt = ((n % 32 : Nat) : Int) := nI_toInt (by omega)
    have k13 := k11.1
    refine th_get hx hb hts inT4 hown hK hO rfl 2 (by decide) (hts _ (tb_c wd_47)) rfl rfl dX4_at_6 ?_
    refine lv_icmp_ge (tgt := 34) hx hb dX4_at_9 (by decide) (fun c14 => ?_) (fun c14 => ?_)
    · skip
      have k15 := iv_le (X := w8.toInt) (Y := x1.toInt) rfl rfl c14
      refine lv_iconst (v := 0) hx hb dX4_at_34 (by decide) ?_
      have hI := th_I.close hI hG0 hO (ok_4 hq7 ⟨by omega, by omega⟩ k11)
      have hpost : True := trivial
      rw [hQ]
      exact W.iret (v := 0) hx hb hr (fun t ht hW => ⟨⟨0, (), rfl, hpost, by rw [ht]; exact hI, hN.warm hW, va_K.moved hW.alike hK⟩, hS.F ht⟩) hS.2.2 dX4_at_35
    · skip
      have k16 := iv_nle (X := w8.toInt) (Y := x1.toInt) rfl rfl c14
      refine lv_iload_n hx hb dX4_at_12 rfl (lv_at hl 2 rfl) ?_
      have k17 := iv_lo x2
      have k18 := iv_hi x2
      refine lv_if_lt (tgt := 34) hx hb dX4_at_13 (by decide) (fun c19 => ?_) (fun c19 => ?_)
      · skip
        have k20 := iv_lt (X := x2.toInt) (Y := (0)) rfl (by decide) c19
        refine lv_iconst (v := 0) hx hb dX4_at_34 (by decide) ?_
        have hI := th_I.close hI hG0 hO (ok_4 hq7 ⟨by omega, by omega⟩ k11)
        have hpost : True := trivial
        rw [hQ]
        exact W.iret (v := 0) hx hb hr (fun t ht hW => ⟨⟨0, (), rfl, hpost, by rw [ht]; exact hI, hN.warm hW, va_K.moved hW.alike hK⟩, hS.F ht⟩) hS.2.2 dX4_at_35
      · skip
        have k21 := iv_nlt (X := x2.toInt) (Y := (0)) rfl (by decide) c19
        refine lv_iload_n hx hb dX4_at_16 rfl (lv_at hl 2 rfl) ?_
        refine lv_iconst (v := 4) hx hb dX4_at_17 (by decide) ?_
        refine lv_icmp_ge (tgt := 34) hx hb dX4_at_18 (by decide) (fun c22 => ?_) (fun c22 => ?_)
        · skip
          have k23 := iv_le (X := (4)) (Y := x2.toInt) (by decide) rfl c22
          refine lv_iconst (v := 0) hx hb dX4_at_34 (by decide) ?_
          have hI := th_I.close hI hG0 hO (ok_4 hq7 ⟨by omega, by omega⟩ k11)
          have hpost : True := trivial
          rw [hQ]
          exact W.iret (v := 0) hx hb hr (fun t ht hW => ⟨⟨0, (), rfl, hpost, by rw [ht]; exact hI, hN.warm hW, va_K.moved hW.alike hK⟩, hS.F ht⟩) hS.2.2 dX4_at_35
        · skip
          have k24 := iv_nle (X := (4)) (Y := x2.toInt) (by decide) rfl c22
          refine lv_aload_n hx hb dX4_at_21 rfl (lv_at hl 0 rfl) ?_
          refine th_get hx hb hts inT4 hown hK hO rfl 1 (by decide) (hts _ (tb_c wd_46)) rfl rfl dX4_at_22 ?_
          refine lv_iload_n hx hb dX4_at_25 rfl (lv_at hl 1 rfl) ?_
          refine lv_iconst (v := 4) hx hb dX4_at_26 (by decide) ?_
          refine lv_imul hx hb dX4_at_27 ?_
          refine lv_topi (fun v25 e26 => ?_)
          have tv25 : v25.toInt = x1.toInt * (4) := iv_mul rfl (by decide) e26 (by omega) (by omega)
          refine lv_iload_n hx hb dX4_at_28 rfl (lv_at hl 2 rfl) ?_
          refine lv_iadd hx hb dX4_at_29 ?_
          refine lv_topi (fun v27 e28 => ?_)
          have tv27 : v27.toInt = v25.toInt + x2.toInt := iv_add rfl rfl e28 (by omega) (by omega)
          obtain ⟨_, hA29⟩ := op_0 hI hq7 (th_ne hG0 hq7 (show (4 : Nat) ≠ 0 by decide))
          refine th_iald hx hb hK hA29 0 rfl (iv_in (X := v27.toInt) rfl (by omega) (by omega)) dX4_at_30 (fun v30 _ => ?_)
          refine lv_goto (tgt := 35) hx hb dX4_at_31 (by decide) ?_
          have hI := th_I.close hI hG0 hO (ok_4 hq7 ⟨by omega, by omega⟩ k11)
          have hpost : True := trivial
          rw [hQ]
          exact W.iret (v := v30) hx hb hr (fun t ht hW => ⟨⟨v30, (), rfl, hpost, by rw [ht]; exact hI, hN.warm hW, va_K.moved hW.alike hK⟩, hS.F ht⟩) hS.2.2 dX4_at_35
theorem dX4_change_0g : (decode cX4_change 0 = .ok (.aload_n 0, 1)) ∧ (decode cX4_change 1 = .ok (.iload_n 1, 1)) ∧ (decode cX4_change 2 = .ok (.invokevirtual 28, 3)) ∧ (decode cX4_change 5 = .ok (.ifCond .eq 23, 3)) ∧ (decode cX4_change 8 = .ok (.iload_n 2, 1)) ∧ (decode cX4_change 9 = .ok (.ifCond .lt 19, 3)) ∧ (decode cX4_change 12 = .ok (.iload_n 2, 1)) ∧ (decode cX4_change 13 = .ok (.iconst 4, 1)) ∧ (decode cX4_change 14 = .ok (.if_icmp .ge 14, 3)) ∧ (decode cX4_change 17 = .ok (.aload_n 0, 1)) := by decide +kernel
theorem dX4_change_0 : decode cX4_change 0 = .ok (.aload_n 0, 1) := dX4_change_0g.1
theorem dX4_change_1 : decode cX4_change 1 = .ok (.iload_n 1, 1) := dX4_change_0g.2.1
theorem dX4_change_2 : decode cX4_change 2 = .ok (.invokevirtual 28, 3) := dX4_change_0g.2.2.1
theorem dX4_change_5 : decode cX4_change 5 = .ok (.ifCond .eq 23, 3) := dX4_change_0g.2.2.2.1
theorem dX4_change_8 : decode cX4_change 8 = .ok (.iload_n 2, 1) := dX4_change_0g.2.2.2.2.1
theorem dX4_change_9 : decode cX4_change 9 = .ok (.ifCond .lt 19, 3) := dX4_change_0g.2.2.2.2.2.1
theorem dX4_change_12 : decode cX4_change 12 = .ok (.iload_n 2, 1) := dX4_change_0g.2.2.2.2.2.2.1
theorem dX4_change_13 : decode cX4_change 13 = .ok (.iconst 4, 1) := dX4_change_0g.2.2.2.2.2.2.2.1
theorem dX4_change_14 : decode cX4_change 14 = .ok (.if_icmp .ge 14, 3) := dX4_change_0g.2.2.2.2.2.2.2.2.1
theorem dX4_change_17 : decode cX4_change 17 = .ok (.aload_n 0, 1) := dX4_change_0g.2.2.2.2.2.2.2.2.2
theorem dX4_change_18g : (decode cX4_change 18 = .ok (.getfield 24, 3)) ∧ (decode cX4_change 21 = .ok (.iload_n 1, 1)) ∧ (decode cX4_change 22 = .ok (.iconst 4, 1)) ∧ (decode cX4_change 23 = .ok (.imul, 1)) ∧ (decode cX4_change 24 = .ok (.iload_n 2, 1)) ∧ (decode cX4_change 25 = .ok (.iadd, 1)) ∧ (decode cX4_change 26 = .ok (.iload_n 3, 1)) ∧ (decode cX4_change 27 = .ok (.iastore, 1)) ∧ (decode cX4_change 28 = .ok (.return_, 1)) := by decide +kernel
theorem dX4_change_18 : decode cX4_change 18 = .ok (.getfield 24, 3) := dX4_change_18g.1
theorem dX4_change_21 : decode cX4_change 21 = .ok (.iload_n 1, 1) := dX4_change_18g.2.1
theorem dX4_change_22 : decode cX4_change 22 = .ok (.iconst 4, 1) := dX4_change_18g.2.2.1
theorem dX4_change_23 : decode cX4_change 23 = .ok (.imul, 1) := dX4_change_18g.2.2.2.1
theorem dX4_change_24 : decode cX4_change 24 = .ok (.iload_n 2, 1) := dX4_change_18g.2.2.2.2.1
theorem dX4_change_25 : decode cX4_change 25 = .ok (.iadd, 1) := dX4_change_18g.2.2.2.2.2.1
theorem dX4_change_26 : decode cX4_change 26 = .ok (.iload_n 3, 1) := dX4_change_18g.2.2.2.2.2.2.1
theorem dX4_change_27 : decode cX4_change 27 = .ok (.iastore, 1) := dX4_change_18g.2.2.2.2.2.2.2.1
theorem dX4_change_28 : decode cX4_change 28 = .ok (.return_, 1) := dX4_change_18g.2.2.2.2.2.2.2.2
set_option maxHeartbeats 4000000 in
set_option maxRecDepth 100000 in
theorem c_X4_change (l : Launch) (E : Nat → Nat) (D : va_G) (G : th_G) (h0 n : Nat) (hG0 : G h0 = some (4, n)) (x1 x2 x3 : Int32) : Met l yX4_change (tb (.code yX4_change cX4_change 4 none)) (rm 1) (va_Pc [.ref h0, .int x1, .int x2, .int x3] (th_P E D G)) (QV E D G) 0 0 (th_A G) := by
  refine Met.ofW (cc := cX4_change) (maxL := 4) (ret := none) (by decide) rfl ?_
  intro p e s m args below meth c s₁ B hml hv
  obtain ⟨hav, hI, hN, hK⟩ := hv
  have hx := B.exec
  have hb := B.bytes
  have hr := B.returns
  have hts := atoms_spec (ws := tb (.code yX4_change cX4_change 4 none)) B.pre
  have hown : s.vm.findClass RX4 = some m.cls := findClass_of_methodNamed B.named
  have hlocks := B.notSynchronized
  have hS : va_S (th_A G) s.heap s.heap [] := va_S.rf
  have hl := lv_entry ([.ref h0, .int x1, .int x2, .int x3]) (n := 4) (Nat.le_of_ble_eq_true rfl)
  rw [show entryFrame m args 4 = entryFrame m ([.ref h0, .int x1, .int x2, .int x3] : List Value).toArray 4 from by rw [hav], lg_entry_eq]
  generalize (lg_sl ([.ref h0, .int x1, .int x2, .int x3]) ++ List.replicate (4 - (lg_sl ([.ref h0, .int x1, .int x2, .int x3])).length) Slot.unset).toArray = ls at hl ⊢
  have hl : lv_has ls 4 [(0, .ref h0), (1, .int x1), (2, .int x2), (3, .int x3)] := hl
  generalize hR : (headSpec (tb (.code yX4_change cX4_change 4 none)) (rm 1)).room = R
  have hR := hR.symm
  generalize hQ : MQ below (QV E D G) args s 0 0 (th_A G) = QF
  have hQ := hQ.symm
  refine lv_aload_n hx hb dX4_change_0 rfl (lv_at hl 0 rfl) ?_
  refine lv_iload_n hx hb dX4_change_1 rfl (lv_at hl 1 rfl) ?_
  obtain ⟨a2, w4, hO, hq3, ⟨k5, k6⟩, k7⟩ := op_4 hI hG0 List.not_mem_nil
  have hI := th_I.weak (a := h0) hI
  have k8 : (nI (n % 32)).toInt = ((n % 32 : Nat) : Int) := nI_toInt (by omega)
  have k9 := k7.1
  refine th_cVs (As := [.int x1]) (rest := []) (n := 1) (d := 0) ⟨hx, hb, hml, hown, hts⟩ (c_X4_has l E D s.heap h0 (n % 32) a2 w4 hO (by omega) (by omega) (by omega) x1) wd_502 wd_495 wd_496 wd_3 wd_497 (by decide +kernel) ⟨by rw [hR]; exact Nat.le_of_ble_eq_true rfl, by rw [hR]; exact Nat.le_of_ble_eq_true rfl⟩ hN hK hS ⟨_, hO⟩ rfl rfl hl.1 rfl (Nat.le_of_ble_eq_true rfl) dX4_change_2 ⟨Nat.zero_le _, Nat.zero_le _⟩ (fun r1 locs hp hS => ?_)
  rcases hp with ⟨rfl, hp⟩ | ⟨rfl, hp⟩
  · skip
    try simp only [rg, not_and, Int.not_le] at hp
    have hp10 := hp
    refine lv_if_eq (tgt := 28) hx hb dX4_change_5 (by decide) (fun c => absurd c (by decide)) (fun _ => ?_)
    refine lv_iload_n hx hb dX4_change_8 rfl (lv_at hl 2 rfl) ?_
    have k11 := iv_lo x2
    have k12 := iv_hi x2
    refine lv_if_lt (tgt := 28) hx hb dX4_change_9 (by decide) (fun c13 => ?_) (fun c13 => ?_)
    · skip
      have k14 := iv_lt (X := x2.toInt) (Y := (0)) rfl (by decide) c13
      have hI := th_I.close hI hG0 hO (ok_4 hq3 ⟨by omega, by omega⟩ k7)
      rw [hQ]
      exact W.vret hx hb hr (fun t ht hW => ⟨⟨(), rfl, trivial, by rw [ht]; exact hI, hN.warm hW, va_K.moved hW.alike hK⟩, hS.F ht⟩) hS.2.2 dX4_change_28
    · skip
      have k15 := iv_nlt (X := x2.toInt) (Y := (0)) rfl (by decide) c13
      refine lv_iload_n hx hb dX4_change_12 rfl (lv_at hl 2 rfl) ?_
      refine lv_iconst (v := 4) hx hb dX4_change_13 (by decide) ?_
      refine lv_icmp_ge (tgt := 28) hx hb dX4_change_14 (by decide) (fun c16 => ?_) (fun c16 => ?_)
      · skip
        have k17 := iv_le (X := (4)) (Y := x2.toInt) (by decide) rfl c16
        have hI := th_I.close hI hG0 hO (ok_4 hq3 ⟨by omega, by omega⟩ k7)
        rw [hQ]
        exact W.vret hx hb hr (fun t ht hW => ⟨⟨(), rfl, trivial, by rw [ht]; exact hI, hN.warm hW, va_K.moved hW.alike hK⟩, hS.F ht⟩) hS.2.2 dX4_change_28
      · skip
        have k18 := iv_nle (X := (4)) (Y := x2.toInt) (by decide) rfl c16
        refine lv_aload_n hx hb dX4_change_17 rfl (lv_at hl 0 rfl) ?_
        refine th_get hx hb hts inT4 hown hK hO rfl 1 (by decide) (hts _ (tb_c wd_46)) rfl rfl dX4_change_18 ?_
        refine lv_iload_n hx hb dX4_change_21 rfl (lv_at hl 1 rfl) ?_
        refine lv_iconst (v := 4) hx hb dX4_change_22 (by decide) ?_
        refine lv_imul hx hb dX4_change_23 ?_
        refine lv_topi (fun v19 e20 => ?_)
        have tv19 : v19.toInt = x1.toInt * (4) := iv_mul rfl (by decide) e20 (by omega) (by omega)
        refine lv_iload_n hx hb dX4_change_24 rfl (lv_at hl 2 rfl) ?_
        refine lv_iadd hx hb dX4_change_25 ?_
        refine lv_topi (fun v21 e22 => ?_)
        have tv21 : v21.toInt = v19.toInt + x2.toInt := iv_add rfl rfl e22 (by omega) (by omega)
        refine lv_iload_n hx hb dX4_change_26 rfl (lv_at hl 3 rfl) ?_
        obtain ⟨_, hA23⟩ := op_0 hI hq3 (th_ne hG0 hq3 (show (4 : Nat) ≠ 0 by decide))
        refine th_iast hx hb hK hA23 0 rfl hS ⟨_, hq3⟩ (iv_in (X := v21.toInt) rfl (by omega) (by omega)) dX4_change_27 (fun H locs hA23 oq hS => ?_)
        have hI := th_I.put hI hq3 hA23 ok_0 oq
        have hO := hO.kept (oq _ (fun z => th_ne hG0 hq3 (show (4 : Nat) ≠ 0 by decide) (List.mem_singleton.mpr z.symm)))
        have hI := th_I.close hI hG0 hO (ok_4 hq3 ⟨by omega, by omega⟩ k7)
        rw [hQ]
        exact W.vret hx hb hr (fun t ht hW => ⟨⟨(), rfl, trivial, by rw [ht]; exact hI, hN.warm hW, va_K.moved hW.alike hK⟩, hS.F ht⟩) hS.2.2 dX4_change_28
  · skip
    have hp24 := hp
    refine lv_if_eq (tgt := 28) hx hb dX4_change_5 (by decide) (fun _ => ?_) (fun c => absurd c (by decide))
    have hI := th_I.close hI hG0 hO (ok_4 hq3 ⟨by omega, by omega⟩ k7)
    rw [hQ]
    exact W.vret hx hb hr (fun t ht hW => ⟨⟨(), rfl, trivial, by rw [ht]; exact hI, hN.warm hW, va_K.moved hW.alike hK⟩, hS.F ht⟩) hS.2.2 dX4_change_28
theorem dX4_put_0g : (decode cX4_put 0 = .ok (.aload_n 0, 1)) ∧ (decode cX4_put 1 = .ok (.invokevirtual 32, 3)) ∧ (decode cX4_put 4 = .ok (.ifCond .eq 5, 3)) ∧ (decode cX4_put 7 = .ok (.iconst (-1), 1)) ∧ (decode cX4_put 8 = .ok (.ireturn, 1)) ∧ (decode cX4_put 9 = .ok (.aload_n 0, 1)) ∧ (decode cX4_put 10 = .ok (.getfield 9, 3)) ∧ (decode cX4_put 13 = .ok (.iconst 4, 1)) ∧ (decode cX4_put 14 = .ok (.imul, 1)) ∧ (decode cX4_put 15 = .ok (.istore 5, 2)) := by decide +kernel
theorem dX4_put_0 : decode cX4_put 0 = .ok (.aload_n 0, 1) := dX4_put_0g.1
theorem dX4_put_1 : decode cX4_put 1 = .ok (.invokevirtual 32, 3) := dX4_put_0g.2.1
theorem dX4_put_4 : decode cX4_put 4 = .ok (.ifCond .eq 5, 3) := dX4_put_0g.2.2.1
theorem dX4_put_7 : decode cX4_put 7 = .ok (.iconst (-1), 1) := dX4_put_0g.2.2.2.1
theorem dX4_put_8 : decode cX4_put 8 = .ok (.ireturn, 1) := dX4_put_0g.2.2.2.2.1
theorem dX4_put_9 : decode cX4_put 9 = .ok (.aload_n 0, 1) := dX4_put_0g.2.2.2.2.2.1
theorem dX4_put_10 : decode cX4_put 10 = .ok (.getfield 9, 3) := dX4_put_0g.2.2.2.2.2.2.1
theorem dX4_put_13 : decode cX4_put 13 = .ok (.iconst 4, 1) := dX4_put_0g.2.2.2.2.2.2.2.1
theorem dX4_put_14 : decode cX4_put 14 = .ok (.imul, 1) := dX4_put_0g.2.2.2.2.2.2.2.2.1
theorem dX4_put_15 : decode cX4_put 15 = .ok (.istore 5, 2) := dX4_put_0g.2.2.2.2.2.2.2.2.2
theorem dX4_put_17g : (decode cX4_put 17 = .ok (.aload_n 0, 1)) ∧ (decode cX4_put 18 = .ok (.getfield 24, 3)) ∧ (decode cX4_put 21 = .ok (.iload 5, 2)) ∧ (decode cX4_put 23 = .ok (.iload_n 1, 1)) ∧ (decode cX4_put 24 = .ok (.iastore, 1)) ∧ (decode cX4_put 25 = .ok (.aload_n 0, 1)) ∧ (decode cX4_put 26 = .ok (.getfield 24, 3)) ∧ (decode cX4_put 29 = .ok (.iload 5, 2)) ∧ (decode cX4_put 31 = .ok (.iconst 1, 1)) ∧ (decode cX4_put 32 = .ok (.iadd, 1)) := by decide +kernel
theorem dX4_put_17 : decode cX4_put 17 = .ok (.aload_n 0, 1) := dX4_put_17g.1
theorem dX4_put_18 : decode cX4_put 18 = .ok (.getfield 24, 3) := dX4_put_17g.2.1
theorem dX4_put_21 : decode cX4_put 21 = .ok (.iload 5, 2) := dX4_put_17g.2.2.1
theorem dX4_put_23 : decode cX4_put 23 = .ok (.iload_n 1, 1) := dX4_put_17g.2.2.2.1
theorem dX4_put_24 : decode cX4_put 24 = .ok (.iastore, 1) := dX4_put_17g.2.2.2.2.1
theorem dX4_put_25 : decode cX4_put 25 = .ok (.aload_n 0, 1) := dX4_put_17g.2.2.2.2.2.1
theorem dX4_put_26 : decode cX4_put 26 = .ok (.getfield 24, 3) := dX4_put_17g.2.2.2.2.2.2.1
theorem dX4_put_29 : decode cX4_put 29 = .ok (.iload 5, 2) := dX4_put_17g.2.2.2.2.2.2.2.1
theorem dX4_put_31 : decode cX4_put 31 = .ok (.iconst 1, 1) := dX4_put_17g.2.2.2.2.2.2.2.2.1
theorem dX4_put_32 : decode cX4_put 32 = .ok (.iadd, 1) := dX4_put_17g.2.2.2.2.2.2.2.2.2
theorem dX4_put_33g : (decode cX4_put 33 = .ok (.iload_n 2, 1)) ∧ (decode cX4_put 34 = .ok (.iastore, 1)) ∧ (decode cX4_put 35 = .ok (.aload_n 0, 1)) ∧ (decode cX4_put 36 = .ok (.getfield 24, 3)) ∧ (decode cX4_put 39 = .ok (.iload 5, 2)) ∧ (decode cX4_put 41 = .ok (.iconst 2, 1)) ∧ (decode cX4_put 42 = .ok (.iadd, 1)) ∧ (decode cX4_put 43 = .ok (.iload_n 3, 1)) ∧ (decode cX4_put 44 = .ok (.iastore, 1)) ∧ (decode cX4_put 45 = .ok (.aload_n 0, 1)) := by decide +kernel
theorem dX4_put_33 : decode cX4_put 33 = .ok (.iload_n 2, 1) := dX4_put_33g.1
theorem dX4_put_34 : decode cX4_put 34 = .ok (.iastore, 1) := dX4_put_33g.2.1
theorem dX4_put_35 : decode cX4_put 35 = .ok (.aload_n 0, 1) := dX4_put_33g.2.2.1
theorem dX4_put_36 : decode cX4_put 36 = .ok (.getfield 24, 3) := dX4_put_33g.2.2.2.1
theorem dX4_put_39 : decode cX4_put 39 = .ok (.iload 5, 2) := dX4_put_33g.2.2.2.2.1
theorem dX4_put_41 : decode cX4_put 41 = .ok (.iconst 2, 1) := dX4_put_33g.2.2.2.2.2.1
theorem dX4_put_42 : decode cX4_put 42 = .ok (.iadd, 1) := dX4_put_33g.2.2.2.2.2.2.1
theorem dX4_put_43 : decode cX4_put 43 = .ok (.iload_n 3, 1) := dX4_put_33g.2.2.2.2.2.2.2.1
theorem dX4_put_44 : decode cX4_put 44 = .ok (.iastore, 1) := dX4_put_33g.2.2.2.2.2.2.2.2.1
theorem dX4_put_45 : decode cX4_put 45 = .ok (.aload_n 0, 1) := dX4_put_33g.2.2.2.2.2.2.2.2.2
theorem dX4_put_46g : (decode cX4_put 46 = .ok (.getfield 24, 3)) ∧ (decode cX4_put 49 = .ok (.iload 5, 2)) ∧ (decode cX4_put 51 = .ok (.iconst 3, 1)) ∧ (decode cX4_put 52 = .ok (.iadd, 1)) ∧ (decode cX4_put 53 = .ok (.iload 4, 2)) ∧ (decode cX4_put 55 = .ok (.iastore, 1)) ∧ (decode cX4_put 56 = .ok (.aload_n 0, 1)) ∧ (decode cX4_put 57 = .ok (.dup, 1)) ∧ (decode cX4_put 58 = .ok (.getfield 9, 3)) ∧ (decode cX4_put 61 = .ok (.iconst 1, 1)) := by decide +kernel
theorem dX4_put_46 : decode cX4_put 46 = .ok (.getfield 24, 3) := dX4_put_46g.1
theorem dX4_put_49 : decode cX4_put 49 = .ok (.iload 5, 2) := dX4_put_46g.2.1
theorem dX4_put_51 : decode cX4_put 51 = .ok (.iconst 3, 1) := dX4_put_46g.2.2.1
theorem dX4_put_52 : decode cX4_put 52 = .ok (.iadd, 1) := dX4_put_46g.2.2.2.1
theorem dX4_put_53 : decode cX4_put 53 = .ok (.iload 4, 2) := dX4_put_46g.2.2.2.2.1
theorem dX4_put_55 : decode cX4_put 55 = .ok (.iastore, 1) := dX4_put_46g.2.2.2.2.2.1
theorem dX4_put_56 : decode cX4_put 56 = .ok (.aload_n 0, 1) := dX4_put_46g.2.2.2.2.2.2.1
theorem dX4_put_57 : decode cX4_put 57 = .ok (.dup, 1) := dX4_put_46g.2.2.2.2.2.2.2.1
theorem dX4_put_58 : decode cX4_put 58 = .ok (.getfield 9, 3) := dX4_put_46g.2.2.2.2.2.2.2.2.1
theorem dX4_put_61 : decode cX4_put 61 = .ok (.iconst 1, 1) := dX4_put_46g.2.2.2.2.2.2.2.2.2
theorem dX4_put_62g : (decode cX4_put 62 = .ok (.iadd, 1)) ∧ (decode cX4_put 63 = .ok (.putfield 9, 3)) ∧ (decode cX4_put 66 = .ok (.aload_n 0, 1)) ∧ (decode cX4_put 67 = .ok (.getfield 9, 3)) ∧ (decode cX4_put 70 = .ok (.iconst 1, 1)) ∧ (decode cX4_put 71 = .ok (.isub, 1)) ∧ (decode cX4_put 72 = .ok (.ireturn, 1)) := by decide +kernel
theorem dX4_put_62 : decode cX4_put 62 = .ok (.iadd, 1) := dX4_put_62g.1
theorem dX4_put_63 : decode cX4_put 63 = .ok (.putfield 9, 3) := dX4_put_62g.2.1
theorem dX4_put_66 : decode cX4_put 66 = .ok (.aload_n 0, 1) := dX4_put_62g.2.2.1
theorem dX4_put_67 : decode cX4_put 67 = .ok (.getfield 9, 3) := dX4_put_62g.2.2.2.1
theorem dX4_put_70 : decode cX4_put 70 = .ok (.iconst 1, 1) := dX4_put_62g.2.2.2.2.1
theorem dX4_put_71 : decode cX4_put 71 = .ok (.isub, 1) := dX4_put_62g.2.2.2.2.2.1
theorem dX4_put_72 : decode cX4_put 72 = .ok (.ireturn, 1) := dX4_put_62g.2.2.2.2.2.2
set_option maxHeartbeats 4000000 in
set_option maxRecDepth 100000 in
theorem c_X4_put (l : Launch) (E : Nat → Nat) (D : va_G) (G : th_G) (h0 n : Nat) (hG0 : G h0 = some (4, n)) (x1 x2 x3 x4 : Int32) (hun : n < 32) : Met l yX4_put (tb (.code yX4_put cX4_put 6 (some .int))) (rm 1) (va_Pc [.ref h0, .int x1, .int x2, .int x3, .int x4] (th_P E D G)) (QI E D G (fun r => True)) 0 0 (th_A G) := by
  refine Met.ofW (cc := cX4_put) (maxL := 6) (ret := (some .int)) (by decide) rfl ?_
  intro p e s m args below meth c s₁ B hml hv
  obtain ⟨hav, hI, hN, hK⟩ := hv
  have hx := B.exec
  have hb := B.bytes
  have hr := B.returns
  have hts := atoms_spec (ws := tb (.code yX4_put cX4_put 6 (some .int))) B.pre
  have hown : s.vm.findClass RX4 = some m.cls := findClass_of_methodNamed B.named
  have hlocks := B.notSynchronized
  have hS : va_S (th_A G) s.heap s.heap [] := va_S.rf
  have hl := lv_entry ([.ref h0, .int x1, .int x2, .int x3, .int x4]) (n := 6) (Nat.le_of_ble_eq_true rfl)
  rw [show entryFrame m args 6 = entryFrame m ([.ref h0, .int x1, .int x2, .int x3, .int x4] : List Value).toArray 6 from by rw [hav], lg_entry_eq]
  generalize (lg_sl ([.ref h0, .int x1, .int x2, .int x3, .int x4]) ++ List.replicate (6 - (lg_sl ([.ref h0, .int x1, .int x2, .int x3, .int x4])).length) Slot.unset).toArray = ls at hl ⊢
  have hl : lv_has ls 6 [(0, .ref h0), (1, .int x1), (2, .int x2), (3, .int x3), (4, .int x4)] := hl
  generalize hR : (headSpec (tb (.code yX4_put cX4_put 6 (some .int))) (rm 1)).room = R
  have hR := hR.symm
  generalize hQ : MQ below (QI E D G (fun r => True)) args s 0 0 (th_A G) = QF
  have hQ := hQ.symm
  refine lv_aload_n hx hb dX4_put_0 rfl (lv_at hl 0 rfl) ?_
  obtain ⟨a2, w4, hO, hq3, ⟨k5, k6⟩, k7⟩ := op_4 hI hG0 List.not_mem_nil
  have hI := th_I.weak (a := h0) hI
  have k8 : (nI (n % 32)).toInt = ((n % 32 : Nat) : Int) := nI_toInt (by omega)
  have k9 := k7.1
  refine th_cVs (As := []) (rest := []) (n := 0) (d := 0) ⟨hx, hb, hml, hown, hts⟩ (c_X4_isFull l E D s.heap h0 (n % 32) a2 w4 hO (by omega) (by omega) (by omega)) wd_489 wd_482 wd_483 wd_3 wd_484 (by decide +kernel) ⟨by rw [hR]; exact Nat.le_of_ble_eq_true rfl, by rw [hR]; exact Nat.le_of_ble_eq_true rfl⟩ hN hK hS ⟨_, hO⟩ rfl rfl hl.1 rfl (Nat.le_of_ble_eq_true rfl) dX4_put_1 ⟨Nat.zero_le _, Nat.zero_le _⟩ (fun r1 locs hp hS => ?_)
  rcases hp with ⟨rfl, hp⟩ | ⟨rfl, hp⟩
  · skip
    try simp only [rg, not_and, Int.not_le] at hp
    have hp10 := hp
    refine lv_if_eq (tgt := 9) hx hb dX4_put_4 (by decide) (fun c => absurd c (by decide)) (fun _ => ?_)
    refine lv_iconst (v := (-1)) hx hb dX4_put_7 (by decide) ?_
    have hI := th_I.close hI hG0 hO (ok_4 hq3 ⟨by omega, by omega⟩ k7)
    have hpost : True := trivial
    rw [hQ]
    exact W.iret (v := (-1)) hx hb hr (fun t ht hW => ⟨⟨(-1), (), rfl, hpost, by rw [ht]; exact hI, hN.warm hW, va_K.moved hW.alike hK⟩, hS.F ht⟩) hS.2.2 dX4_put_8
  · skip
    have hp11 := hp
    refine lv_if_eq (tgt := 9) hx hb dX4_put_4 (by decide) (fun _ => ?_) (fun c => absurd c (by decide))
    refine lv_aload_n hx hb dX4_put_9 rfl (lv_at hl 0 rfl) ?_
    refine th_get hx hb hts inT4 hown hK hO rfl 2 (by decide) (hts _ (tb_c wd_47)) rfl rfl dX4_put_10 ?_
    refine lv_iconst (v := 4) hx hb dX4_put_13 (by decide) ?_
    refine lv_imul hx hb dX4_put_14 ?_
    refine lv_topi (fun v12 e13 => ?_)
    have tv12 : v12.toInt = w4.toInt * (4) := iv_mul rfl (by decide) e13 (by omega) (by omega)
    refine lv_istore (lv' := [(5, .int v12), (0, .ref h0), (1, .int x1), (2, .int x2), (3, .int x3), (4, .int x4)]) hx hb dX4_put_15 hl (by decide) rfl (fun ls hl => ?_)
    refine lv_aload_n hx hb dX4_put_17 rfl (lv_at hl 1 rfl) ?_
    refine th_get hx hb hts inT4 hown hK hO rfl 1 (by decide) (hts _ (tb_c wd_46)) rfl rfl dX4_put_18 ?_
    refine lv_iload hx hb dX4_put_21 (lv_at hl 0 rfl) ?_
    refine lv_iload_n hx hb dX4_put_23 rfl (lv_at hl 2 rfl) ?_
    obtain ⟨_, hA14⟩ := op_0 hI hq3 (th_ne hG0 hq3 (show (4 : Nat) ≠ 0 by decide))
    refine th_iast hx hb hK hA14 0 rfl hS ⟨_, hq3⟩ (iv_in (X := v12.toInt) rfl (by omega) (by omega)) dX4_put_24 (fun H locs hA14 oq hS => ?_)
    have hI := th_I.put hI hq3 hA14 ok_0 oq
    have hO := hO.kept (oq _ (fun z => th_ne hG0 hq3 (show (4 : Nat) ≠ 0 by decide) (List.mem_singleton.mpr z.symm)))
    refine lv_aload_n hx hb dX4_put_25 rfl (lv_at hl 1 rfl) ?_
    refine th_get hx hb hts inT4 hown hK hO rfl 1 (by decide) (hts _ (tb_c wd_46)) rfl rfl dX4_put_26 ?_
    refine lv_iload hx hb dX4_put_29 (lv_at hl 0 rfl) ?_
    refine lv_iconst (v := 1) hx hb dX4_put_31 (by decide) ?_
    refine lv_iadd hx hb dX4_put_32 ?_
    refine lv_topi (fun v15 e16 => ?_)
    have tv15 : v15.toInt = v12.toInt + (1) := iv_add rfl (by decide) e16 (by omega) (by omega)
    refine lv_iload_n hx hb dX4_put_33 rfl (lv_at hl 3 rfl) ?_
    obtain ⟨_, hA17⟩ := op_0 hI hq3 (th_ne hG0 hq3 (show (4 : Nat) ≠ 0 by decide))
    refine th_iast hx hb hK hA17 0 rfl hS ⟨_, hq3⟩ (iv_in (X := v15.toInt) rfl (by omega) (by omega)) dX4_put_34 (fun H locs hA17 oq hS => ?_)
    have hI := th_I.put hI hq3 hA17 ok_0 oq
    have hO := hO.kept (oq _ (fun z => th_ne hG0 hq3 (show (4 : Nat) ≠ 0 by decide) (List.mem_singleton.mpr z.symm)))
    refine lv_aload_n hx hb dX4_put_35 rfl (lv_at hl 1 rfl) ?_
    refine th_get hx hb hts inT4 hown hK hO rfl 1 (by decide) (hts _ (tb_c wd_46)) rfl rfl dX4_put_36 ?_
    refine lv_iload hx hb dX4_put_39 (lv_at hl 0 rfl) ?_
    refine lv_iconst (v := 2) hx hb dX4_put_41 (by decide) ?_
    refine lv_iadd hx hb dX4_put_42 ?_
    refine lv_topi (fun v18 e19 => ?_)
    have tv18 : v18.toInt = v12.toInt + (2) := iv_add rfl (by decide) e19 (by omega) (by omega)
    refine lv_iload_n hx hb dX4_put_43 rfl (lv_at hl 4 rfl) ?_
    obtain ⟨_, hA20⟩ := op_0 hI hq3 (th_ne hG0 hq3 (show (4 : Nat) ≠ 0 by decide))
    refine th_iast hx hb hK hA20 0 rfl hS ⟨_, hq3⟩ (iv_in (X := v18.toInt) rfl (by omega) (by omega)) dX4_put_44 (fun H locs hA20 oq hS => ?_)
    have hI := th_I.put hI hq3 hA20 ok_0 oq
    have hO := hO.kept (oq _ (fun z => th_ne hG0 hq3 (show (4 : Nat) ≠ 0 by decide) (List.mem_singleton.mpr z.symm)))
    refine lv_aload_n hx hb dX4_put_45 rfl (lv_at hl 1 rfl) ?_
    refine th_get hx hb hts inT4 hown hK hO rfl 1 (by decide) (hts _ (tb_c wd_46)) rfl rfl dX4_put_46 ?_
    refine lv_iload hx hb dX4_put_49 (lv_at hl 0 rfl) ?_
    refine lv_iconst (v := 3) hx hb dX4_put_51 (by decide) ?_
    refine lv_iadd hx hb dX4_put_52 ?_
    refine lv_topi (fun v21 e22 => ?_)
    have tv21 : v21.toInt = v12.toInt + (3) := iv_add rfl (by decide) e22 (by omega) (by omega)
    refine lv_iload hx hb dX4_put_53 (lv_at hl 5 rfl) ?_
    obtain ⟨_, hA23⟩ := op_0 hI hq3 (th_ne hG0 hq3 (show (4 : Nat) ≠ 0 by decide))
    refine th_iast hx hb hK hA23 0 rfl hS ⟨_, hq3⟩ (iv_in (X := v21.toInt) rfl (by omega) (by omega)) dX4_put_55 (fun H locs hA23 oq hS => ?_)
    have hI := th_I.put hI hq3 hA23 ok_0 oq
    have hO := hO.kept (oq _ (fun z => th_ne hG0 hq3 (show (4 : Nat) ≠ 0 by decide) (List.mem_singleton.mpr z.symm)))
    refine lv_aload_n hx hb dX4_put_56 rfl (lv_at hl 1 rfl) ?_
    refine lv_dup hx hb dX4_put_57 rfl ?_
    refine th_get hx hb hts inT4 hown hK hO rfl 2 (by decide) (hts _ (tb_c wd_47)) rfl rfl dX4_put_58 ?_
    refine lv_iconst (v := 1) hx hb dX4_put_61 (by decide) ?_
    refine lv_iadd hx hb dX4_put_62 ?_
    refine lv_topi (fun v24 e25 => ?_)
    have tv24 : v24.toInt = w4.toInt + (1) := iv_add rfl (by decide) e25 (by omega) (by omega)
    refine th_put (ty := .int) hx hb hts inT4 tyX4 tyX4_ok nmX4 hown hK hO hS ⟨_, hG0⟩ rfl 2 (by decide) (hts _ (tb_c wd_47)) rfl rfl (by decide +kernel) rfl rfl (Nat.le_of_ble_eq_true rfl) dX4_put_63 (fun H locs hO oq hS => ?_)
    have hI := th_I.moved hI oq
    have hO : va_at D vwCl (h0, .inr (4, [.int (nI (n % 32)), .ref a2, .int v24])) H := hO
    have k26 : n % 32 ≤ 16 ∧ eaV n (E (32 + 8 * h0)) v24 := ⟨by omega, Or.inl hun⟩
    refine lv_aload_n hx hb dX4_put_66 rfl (lv_at hl 1 rfl) ?_
    refine th_get hx hb hts inT4 hown hK hO rfl 2 (by decide) (hts _ (tb_c wd_47)) rfl rfl dX4_put_67 ?_
    refine lv_iconst (v := 1) hx hb dX4_put_70 (by decide) ?_
    refine lv_isub hx hb dX4_put_71 ?_
    refine lv_topi (fun v27 e28 => ?_)
    have tv27 : v27.toInt = v24.toInt - (1) := iv_sub rfl (by decide) e28 (by omega) (by omega)
    have hI := th_I.close hI hG0 hO (ok_4 hq3 ⟨by omega, by omega⟩ k26)
    have hpost : True := trivial
    rw [hQ]
    exact W.iret (v := v27) hx hb hr (fun t ht hW => ⟨⟨v27, (), rfl, hpost, by rw [ht]; exact hI, hN.warm hW, va_K.moved hW.alike hK⟩, hS.F ht⟩) hS.2.2 dX4_put_72
set_option maxHeartbeats 4000000 in
set_option maxRecDepth 100000 in
theorem c_X4_put_T (l : Launch) (E : Nat → Nat) (D : va_G) (G : th_G) (h0 n : Nat) (hG0 : G h0 = some (4, n)) (x1 x2 x3 x4 : Int32) (htr : 32 ≤ n) : Met l yX4_put (tb (.code yX4_put cX4_put 6 (some .int))) (rm 1) (va_Pc [.ref h0, .int x1, .int x2, .int x3, .int x4] (th_P E D G)) (QI (eu E (32 + 8 * h0) (gI (E (32 + 8 * h0) < n % 32) (E (32 + 8 * h0)))) D G (fun r => ((r : Int32) = -1 ∧ ¬ E (32 + 8 * h0) < n % 32) ∨ ((r : Int32).toInt = ((E (32 + 8 * h0) : Nat) : Int) ∧ E (32 + 8 * h0) < n % 32))) 0 0 (th_A G) := by
  refine Met.ofW (cc := cX4_put) (maxL := 6) (ret := (some .int)) (by decide) rfl ?_
  intro p e s m args below meth c s₁ B hml hv
  obtain ⟨hav, hI, hN, hK⟩ := hv
  have hx := B.exec
  have hb := B.bytes
  have hr := B.returns
  have hts := atoms_spec (ws := tb (.code yX4_put cX4_put 6 (some .int))) B.pre
  have hown : s.vm.findClass RX4 = some m.cls := findClass_of_methodNamed B.named
  have hlocks := B.notSynchronized
  have hS : va_S (th_A G) s.heap s.heap [] := va_S.rf
  have hl := lv_entry ([.ref h0, .int x1, .int x2, .int x3, .int x4]) (n := 6) (Nat.le_of_ble_eq_true rfl)
  rw [show entryFrame m args 6 = entryFrame m ([.ref h0, .int x1, .int x2, .int x3, .int x4] : List Value).toArray 6 from by rw [hav], lg_entry_eq]
  generalize (lg_sl ([.ref h0, .int x1, .int x2, .int x3, .int x4]) ++ List.replicate (6 - (lg_sl ([.ref h0, .int x1, .int x2, .int x3, .int x4])).length) Slot.unset).toArray = ls at hl ⊢
  have hl : lv_has ls 6 [(0, .ref h0), (1, .int x1), (2, .int x2), (3, .int x3), (4, .int x4)] := hl
  generalize hR : (headSpec (tb (.code yX4_put cX4_put 6 (some .int))) (rm 1)).room = R
  have hR := hR.symm
  generalize hQ : MQ below (QI (eu E (32 + 8 * h0) (gI (E (32 + 8 * h0) < n % 32) (E (32 + 8 * h0)))) D G (fun r => ((r : Int32) = -1 ∧ ¬ E (32 + 8 * h0) < n % 32) ∨ ((r : Int32).toInt = ((E (32 + 8 * h0) : Nat) : Int) ∧ E (32 + 8 * h0) < n % 32))) args s 0 0 (th_A G) = QF
  have hQ := hQ.symm
  refine lv_aload_n hx hb dX4_put_0 rfl (lv_at hl 0 rfl) ?_
  obtain ⟨a2, w4, hO, hq3, ⟨k5, k6⟩, k7⟩ := op_4 hI hG0 List.not_mem_nil
  have hI := th_I.weak (a := h0) hI
  have k8 : (nI (n % 32)).toInt = ((n % 32 : Nat) : Int) := nI_toInt (by omega)
  have k9 := k7.1
  have k10 := eaV_t k7.2 (by omega)
  refine th_cVs (As := []) (rest := []) (n := 0) (d := 0) ⟨hx, hb, hml, hown, hts⟩ (c_X4_isFull l E D s.heap h0 (n % 32) a2 w4 hO (by omega) (by omega) (by omega)) wd_489 wd_482 wd_483 wd_3 wd_484 (by decide +kernel) ⟨by rw [hR]; exact Nat.le_of_ble_eq_true rfl, by rw [hR]; exact Nat.le_of_ble_eq_true rfl⟩ hN hK hS ⟨_, hO⟩ rfl rfl hl.1 rfl (Nat.le_of_ble_eq_true rfl) dX4_put_1 ⟨Nat.zero_le _, Nat.zero_le _⟩ (fun r1 locs hp hS => ?_)
  rcases hp with ⟨rfl, hp⟩ | ⟨rfl, hp⟩
  · skip
    try simp only [rg, not_and, Int.not_le] at hp
    have hp11 := hp
    refine lv_if_eq (tgt := 9) hx hb dX4_put_4 (by decide) (fun c => absurd c (by decide)) (fun _ => ?_)
    refine lv_iconst (v := (-1)) hx hb dX4_put_7 (by decide) ?_
    have hI := th_I.close hI hG0 hO (ok_4 hq3 ⟨by omega, by omega⟩ k7)
    have hEt : eu E (32 + 8 * h0) (gI (E (32 + 8 * h0) < n % 32) (E (32 + 8 * h0))) = E := eu_id (by first | (exact gI_f (by (try simp only [rg]); omega)) | (exact gD_f (by (try simp only [rg]); omega)) | omega)
    have hI : th_I (okC (eu E (32 + 8 * h0) (gI (E (32 + 8 * h0) < n % 32) (E (32 + 8 * h0))))) D G [] s.heap := by rw [hEt]; exact hI
    have hK : va_K D vwCl (th_tys (eu E (32 + 8 * h0) (gI (E (32 + 8 * h0) < n % 32) (E (32 + 8 * h0))))) s := by rw [hEt]; exact hK
    have hpost : (((-1) : Int32) = -1 ∧ ¬ E (32 + 8 * h0) < n % 32) ∨ (((-1) : Int32).toInt = ((E (32 + 8 * h0) : Nat) : Int) ∧ E (32 + 8 * h0) < n % 32) := by first | exact Or.inl ⟨rfl, by omega⟩ | exact Or.inr ⟨by omega, by omega⟩
    rw [hQ]
    exact W.iret (v := (-1)) hx hb hr (fun t ht hW => ⟨⟨(-1), (), rfl, hpost, by rw [ht]; exact hI, hN.warm hW, va_K.moved hW.alike hK⟩, hS.F ht⟩) hS.2.2 dX4_put_8
  · skip
    have hp12 := hp
    refine lv_if_eq (tgt := 9) hx hb dX4_put_4 (by decide) (fun _ => ?_) (fun c => absurd c (by decide))
    refine lv_aload_n hx hb dX4_put_9 rfl (lv_at hl 0 rfl) ?_
    refine th_get hx hb hts inT4 hown hK hO rfl 2 (by decide) (hts _ (tb_c wd_47)) rfl rfl dX4_put_10 ?_
    refine lv_iconst (v := 4) hx hb dX4_put_13 (by decide) ?_
    refine lv_imul hx hb dX4_put_14 ?_
    refine lv_topi (fun v13 e14 => ?_)
    have tv13 : v13.toInt = w4.toInt * (4) := iv_mul rfl (by decide) e14 (by omega) (by omega)
    refine lv_istore (lv' := [(5, .int v13), (0, .ref h0), (1, .int x1), (2, .int x2), (3, .int x3), (4, .int x4)]) hx hb dX4_put_15 hl (by decide) rfl (fun ls hl => ?_)
    refine lv_aload_n hx hb dX4_put_17 rfl (lv_at hl 1 rfl) ?_
    refine th_get hx hb hts inT4 hown hK hO rfl 1 (by decide) (hts _ (tb_c wd_46)) rfl rfl dX4_put_18 ?_
    refine lv_iload hx hb dX4_put_21 (lv_at hl 0 rfl) ?_
    refine lv_iload_n hx hb dX4_put_23 rfl (lv_at hl 2 rfl) ?_
    obtain ⟨_, hA15⟩ := op_0 hI hq3 (th_ne hG0 hq3 (show (4 : Nat) ≠ 0 by decide))
    refine th_iast hx hb hK hA15 0 rfl hS ⟨_, hq3⟩ (iv_in (X := v13.toInt) rfl (by omega) (by omega)) dX4_put_24 (fun H locs hA15 oq hS => ?_)
    have hI := th_I.put hI hq3 hA15 ok_0 oq
    have hO := hO.kept (oq _ (fun z => th_ne hG0 hq3 (show (4 : Nat) ≠ 0 by decide) (List.mem_singleton.mpr z.symm)))
    refine lv_aload_n hx hb dX4_put_25 rfl (lv_at hl 1 rfl) ?_
    refine th_get hx hb hts inT4 hown hK hO rfl 1 (by decide) (hts _ (tb_c wd_46)) rfl rfl dX4_put_26 ?_
    refine lv_iload hx hb dX4_put_29 (lv_at hl 0 rfl) ?_
    refine lv_iconst (v := 1) hx hb dX4_put_31 (by decide) ?_
    refine lv_iadd hx hb dX4_put_32 ?_
    refine lv_topi (fun v16 e17 => ?_)
    have tv16 : v16.toInt = v13.toInt + (1) := iv_add rfl (by decide) e17 (by omega) (by omega)
    refine lv_iload_n hx hb dX4_put_33 rfl (lv_at hl 3 rfl) ?_
    obtain ⟨_, hA18⟩ := op_0 hI hq3 (th_ne hG0 hq3 (show (4 : Nat) ≠ 0 by decide))
    refine th_iast hx hb hK hA18 0 rfl hS ⟨_, hq3⟩ (iv_in (X := v16.toInt) rfl (by omega) (by omega)) dX4_put_34 (fun H locs hA18 oq hS => ?_)
    have hI := th_I.put hI hq3 hA18 ok_0 oq
    have hO := hO.kept (oq _ (fun z => th_ne hG0 hq3 (show (4 : Nat) ≠ 0 by decide) (List.mem_singleton.mpr z.symm)))
    refine lv_aload_n hx hb dX4_put_35 rfl (lv_at hl 1 rfl) ?_
    refine th_get hx hb hts inT4 hown hK hO rfl 1 (by decide) (hts _ (tb_c wd_46)) rfl rfl dX4_put_36 ?_
    refine lv_iload hx hb dX4_put_39 (lv_at hl 0 rfl) ?_
    refine lv_iconst (v := 2) hx hb dX4_put_41 (by decide) ?_
    refine lv_iadd hx hb dX4_put_42 ?_
    refine lv_topi (fun v19 e20 => ?_)
    have tv19 : v19.toInt = v13.toInt + (2) := iv_add rfl (by decide) e20 (by omega) (by omega)
    refine lv_iload_n hx hb dX4_put_43 rfl (lv_at hl 4 rfl) ?_
    obtain ⟨_, hA21⟩ := op_0 hI hq3 (th_ne hG0 hq3 (show (4 : Nat) ≠ 0 by decide))
    refine th_iast hx hb hK hA21 0 rfl hS ⟨_, hq3⟩ (iv_in (X := v19.toInt) rfl (by omega) (by omega)) dX4_put_44 (fun H locs hA21 oq hS => ?_)
    have hI := th_I.put hI hq3 hA21 ok_0 oq
    have hO := hO.kept (oq _ (fun z => th_ne hG0 hq3 (show (4 : Nat) ≠ 0 by decide) (List.mem_singleton.mpr z.symm)))
    refine lv_aload_n hx hb dX4_put_45 rfl (lv_at hl 1 rfl) ?_
    refine th_get hx hb hts inT4 hown hK hO rfl 1 (by decide) (hts _ (tb_c wd_46)) rfl rfl dX4_put_46 ?_
    refine lv_iload hx hb dX4_put_49 (lv_at hl 0 rfl) ?_
    refine lv_iconst (v := 3) hx hb dX4_put_51 (by decide) ?_
    refine lv_iadd hx hb dX4_put_52 ?_
    refine lv_topi (fun v22 e23 => ?_)
    have tv22 : v22.toInt = v13.toInt + (3) := iv_add rfl (by decide) e23 (by omega) (by omega)
    refine lv_iload hx hb dX4_put_53 (lv_at hl 5 rfl) ?_
    obtain ⟨_, hA24⟩ := op_0 hI hq3 (th_ne hG0 hq3 (show (4 : Nat) ≠ 0 by decide))
    refine th_iast hx hb hK hA24 0 rfl hS ⟨_, hq3⟩ (iv_in (X := v22.toInt) rfl (by omega) (by omega)) dX4_put_55 (fun H locs hA24 oq hS => ?_)
    have hI := th_I.put hI hq3 hA24 ok_0 oq
    have hO := hO.kept (oq _ (fun z => th_ne hG0 hq3 (show (4 : Nat) ≠ 0 by decide) (List.mem_singleton.mpr z.symm)))
    refine lv_aload_n hx hb dX4_put_56 rfl (lv_at hl 1 rfl) ?_
    refine lv_dup hx hb dX4_put_57 rfl ?_
    refine th_get hx hb hts inT4 hown hK hO rfl 2 (by decide) (hts _ (tb_c wd_47)) rfl rfl dX4_put_58 ?_
    refine lv_iconst (v := 1) hx hb dX4_put_61 (by decide) ?_
    refine lv_iadd hx hb dX4_put_62 ?_
    refine lv_topi (fun v25 e26 => ?_)
    have tv25 : v25.toInt = w4.toInt + (1) := iv_add rfl (by decide) e26 (by omega) (by omega)
    refine th_put (ty := .int) hx hb hts inT4 tyX4 tyX4_ok nmX4 hown hK hO hS ⟨_, hG0⟩ rfl 2 (by decide) (hts _ (tb_c wd_47)) rfl rfl (by decide +kernel) rfl rfl (Nat.le_of_ble_eq_true rfl) dX4_put_63 (fun H locs hO oq hS => ?_)
    have hI := th_I.moved hI oq
    have hO : va_at D vwCl (h0, .inr (4, [.int (nI (n % 32)), .ref a2, .int v25])) H := hO
    obtain ⟨Eu27, hEu27⟩ : ∃ x : Nat → Nat, x = eu E (32 + 8 * h0) ((v25 : Int32).toInt.toNat) := ⟨_, rfl⟩
    have hI : th_I (okC Eu27) D G [] H := by rw [hEu27]; exact ea_close hI hG0 hO ⟨by omega, by omega⟩ (ok_4 hq3 ⟨by omega, by omega⟩ ⟨by omega, Or.inr (by rw [eu_at]; omega)⟩)
    have hK : va_K D vwCl (th_tys Eu27) s := by rw [hEu27, tys_eu (by omega)]; exact hK
    have zEu27 : Eu27 (32 + 8 * h0) = ((v25 : Int32).toInt.toNat) := by rw [hEu27]; exact eu_at
    refine lv_aload_n hx hb dX4_put_66 rfl (lv_at hl 1 rfl) ?_
    obtain ⟨a28, w30, hO, hq29, ⟨k31, k32⟩, k33⟩ := op_4 hI hG0 List.not_mem_nil
    have hI := th_I.weak (a := h0) hI
    have k34 : (nI (n % 32)).toInt = ((n % 32 : Nat) : Int) := nI_toInt (by omega)
    have k35 := k33.1
    have k36 := eaV_t k33.2 (by omega)
    refine th_get hx hb hts inT4 hown hK hO rfl 2 (by decide) (hts _ (tb_c wd_47)) rfl rfl dX4_put_67 ?_
    refine lv_iconst (v := 1) hx hb dX4_put_70 (by decide) ?_
    refine lv_isub hx hb dX4_put_71 ?_
    refine lv_topi (fun v37 e38 => ?_)
    have tv37 : v37.toInt = w30.toInt - (1) := iv_sub rfl (by decide) e38 (by omega) (by omega)
    have hI := th_I.close hI hG0 hO (ok_4 hq29 ⟨by omega, by omega⟩ k33)
    have hEt : eu E (32 + 8 * h0) (gI (E (32 + 8 * h0) < n % 32) (E (32 + 8 * h0))) = Eu27 := (congrArg (fun z => eu E (32 + 8 * h0) z) (show gI (E (32 + 8 * h0) < n % 32) (E (32 + 8 * h0)) = _ from by first | rfl | omega | (rw [gI_f (by (try simp only [rg]); omega)]; omega) | (rw [gI_t (by (try simp only [rg]); omega), gI_t (by omega)]) | (rw [gI_t (by (try simp only [rg]); omega)]; omega) | (rw [gD_t (by (try simp only [rg]); omega), gD_t (by omega)]) | (rw [gD_t (by (try simp only [rg]); omega)]; omega))).trans hEu27.symm
    rw [← hEt] at hI hK
    have hpost : ((v37 : Int32) = -1 ∧ ¬ E (32 + 8 * h0) < n % 32) ∨ ((v37 : Int32).toInt = ((E (32 + 8 * h0) : Nat) : Int) ∧ E (32 + 8 * h0) < n % 32) := by first | exact Or.inl ⟨rfl, by omega⟩ | exact Or.inr ⟨by omega, by omega⟩
    rw [hQ]
    exact W.iret (v := v37) hx hb hr (fun t ht hW => ⟨⟨v37, (), rfl, hpost, by rw [ht]; exact hI, hN.warm hW, va_K.moved hW.alike hK⟩, hS.F ht⟩) hS.2.2 dX4_put_72
theorem dX4_clear_0g : (decode cX4_clear 0 = .ok (.aload_n 0, 1)) ∧ (decode cX4_clear 1 = .ok (.getfield 9, 3)) ∧ (decode cX4_clear 4 = .ok (.istore_n 1, 1)) ∧ (decode cX4_clear 5 = .ok (.aload_n 0, 1)) ∧ (decode cX4_clear 6 = .ok (.iconst 0, 1)) ∧ (decode cX4_clear 7 = .ok (.putfield 9, 3)) ∧ (decode cX4_clear 10 = .ok (.iload_n 1, 1)) ∧ (decode cX4_clear 11 = .ok (.ireturn, 1)) := by decide +kernel
theorem dX4_clear_0 : decode cX4_clear 0 = .ok (.aload_n 0, 1) := dX4_clear_0g.1
theorem dX4_clear_1 : decode cX4_clear 1 = .ok (.getfield 9, 3) := dX4_clear_0g.2.1
theorem dX4_clear_4 : decode cX4_clear 4 = .ok (.istore_n 1, 1) := dX4_clear_0g.2.2.1
theorem dX4_clear_5 : decode cX4_clear 5 = .ok (.aload_n 0, 1) := dX4_clear_0g.2.2.2.1
theorem dX4_clear_6 : decode cX4_clear 6 = .ok (.iconst 0, 1) := dX4_clear_0g.2.2.2.2.1
theorem dX4_clear_7 : decode cX4_clear 7 = .ok (.putfield 9, 3) := dX4_clear_0g.2.2.2.2.2.1
theorem dX4_clear_10 : decode cX4_clear 10 = .ok (.iload_n 1, 1) := dX4_clear_0g.2.2.2.2.2.2.1
theorem dX4_clear_11 : decode cX4_clear 11 = .ok (.ireturn, 1) := dX4_clear_0g.2.2.2.2.2.2.2
set_option maxHeartbeats 4000000 in
set_option maxRecDepth 100000 in
theorem c_X4_clear (l : Launch) (E : Nat → Nat) (D : va_G) (G : th_G) (h0 n : Nat) (hG0 : G h0 = some (4, n)) (hun : n < 32) : Met l yX4_clear (tb (.code yX4_clear cX4_clear 2 (some .int))) (rm 0) (va_Pc [.ref h0] (th_P E D G)) (QI E D G (fun r => True)) 0 0 (th_A G) := by
  refine Met.ofW (cc := cX4_clear) (maxL := 2) (ret := (some .int)) (by decide) rfl ?_
  intro p e s m args below meth c s₁ B hml hv
  obtain ⟨hav, hI, hN, hK⟩ := hv
  have hx := B.exec
  have hb := B.bytes
  have hr := B.returns
  have hts := atoms_spec (ws := tb (.code yX4_clear cX4_clear 2 (some .int))) B.pre
  have hown : s.vm.findClass RX4 = some m.cls := findClass_of_methodNamed B.named
  have hlocks := B.notSynchronized
  have hS : va_S (th_A G) s.heap s.heap [] := va_S.rf
  have hl := lv_entry ([.ref h0]) (n := 2) (Nat.le_of_ble_eq_true rfl)
  rw [show entryFrame m args 2 = entryFrame m ([.ref h0] : List Value).toArray 2 from by rw [hav], lg_entry_eq]
  generalize (lg_sl ([.ref h0]) ++ List.replicate (2 - (lg_sl ([.ref h0])).length) Slot.unset).toArray = ls at hl ⊢
  have hl : lv_has ls 2 [(0, .ref h0)] := hl
  generalize hR : (headSpec (tb (.code yX4_clear cX4_clear 2 (some .int))) (rm 0)).room = R
  have hR := hR.symm
  generalize hQ : MQ below (QI E D G (fun r => True)) args s 0 0 (th_A G) = QF
  have hQ := hQ.symm
  refine lv_aload_n hx hb dX4_clear_0 rfl (lv_at hl 0 rfl) ?_
  obtain ⟨a1, w3, hO, hq2, ⟨k4, k5⟩, k6⟩ := op_4 hI hG0 List.not_mem_nil
  have hI := th_I.weak (a := h0) hI
  have k7 : (nI (n % 32)).toInt = ((n % 32 : Nat) : Int) := nI_toInt (by omega)
  have k8 := k6.1
  refine th_get hx hb hts inT4 hown hK hO rfl 2 (by decide) (hts _ (tb_c wd_47)) rfl rfl dX4_clear_1 ?_
  refine lv_istore_n (lv' := [(1, .int w3), (0, .ref h0)]) hx hb dX4_clear_4 rfl hl (by decide) rfl (fun ls hl => ?_)
  refine lv_aload_n hx hb dX4_clear_5 rfl (lv_at hl 1 rfl) ?_
  refine lv_iconst (v := 0) hx hb dX4_clear_6 (by decide) ?_
  refine th_put (ty := .int) hx hb hts inT4 tyX4 tyX4_ok nmX4 hown hK hO hS ⟨_, hG0⟩ rfl 2 (by decide) (hts _ (tb_c wd_47)) rfl rfl (by decide +kernel) rfl rfl (Nat.le_of_ble_eq_true rfl) dX4_clear_7 (fun H locs hO oq hS => ?_)
  have hI := th_I.moved hI oq
  have hO : va_at D vwCl (h0, .inr (4, [.int (nI (n % 32)), .ref a1, .int 0])) H := hO
  have k9 : n % 32 ≤ 16 ∧ eaV n (E (32 + 8 * h0)) 0 := ⟨by omega, Or.inl hun⟩
  refine lv_iload_n hx hb dX4_clear_10 rfl (lv_at hl 0 rfl) ?_
  have hI := th_I.close hI hG0 hO (ok_4 hq2 ⟨by rw [show (0 : Int32).toInt = 0 from by decide]; omega, by rw [show (0 : Int32).toInt = 0 from by decide]; omega⟩ k9)
  have hpost : True := trivial
  rw [hQ]
  exact W.iret (v := w3) hx hb hr (fun t ht hW => ⟨⟨w3, (), rfl, hpost, by rw [ht]; exact hI, hN.warm hW, va_K.moved hW.alike hK⟩, hS.F ht⟩) hS.2.2 dX4_clear_11
set_option maxHeartbeats 4000000 in
set_option maxRecDepth 100000 in
theorem c_X4_clear_T (l : Launch) (E : Nat → Nat) (D : va_G) (G : th_G) (h0 n : Nat) (hG0 : G h0 = some (4, n)) (htr : 32 ≤ n) : Met l yX4_clear (tb (.code yX4_clear cX4_clear 2 (some .int))) (rm 0) (va_Pc [.ref h0] (th_P E D G)) (QI (eu E (32 + 8 * h0) (0)) D G (fun r => (r : Int32).toInt = ((E (32 + 8 * h0) : Nat) : Int))) 0 0 (th_A G) := by
  refine Met.ofW (cc := cX4_clear) (maxL := 2) (ret := (some .int)) (by decide) rfl ?_
  intro p e s m args below meth c s₁ B hml hv
  obtain ⟨hav, hI, hN, hK⟩ := hv
  have hx := B.exec
  have hb := B.bytes
  have hr := B.returns
  have hts := atoms_spec (ws := tb (.code yX4_clear cX4_clear 2 (some .int))) B.pre
  have hown : s.vm.findClass RX4 = some m.cls := findClass_of_methodNamed B.named
  have hlocks := B.notSynchronized
  have hS : va_S (th_A G) s.heap s.heap [] := va_S.rf
  have hl := lv_entry ([.ref h0]) (n := 2) (Nat.le_of_ble_eq_true rfl)
  rw [show entryFrame m args 2 = entryFrame m ([.ref h0] : List Value).toArray 2 from by rw [hav], lg_entry_eq]
  generalize (lg_sl ([.ref h0]) ++ List.replicate (2 - (lg_sl ([.ref h0])).length) Slot.unset).toArray = ls at hl ⊢
  have hl : lv_has ls 2 [(0, .ref h0)] := hl
  generalize hR : (headSpec (tb (.code yX4_clear cX4_clear 2 (some .int))) (rm 0)).room = R
  have hR := hR.symm
  generalize hQ : MQ below (QI (eu E (32 + 8 * h0) (0)) D G (fun r => (r : Int32).toInt = ((E (32 + 8 * h0) : Nat) : Int))) args s 0 0 (th_A G) = QF
  have hQ := hQ.symm
  refine lv_aload_n hx hb dX4_clear_0 rfl (lv_at hl 0 rfl) ?_
  obtain ⟨a1, w3, hO, hq2, ⟨k4, k5⟩, k6⟩ := op_4 hI hG0 List.not_mem_nil
  have hI := th_I.weak (a := h0) hI
  have k7 : (nI (n % 32)).toInt = ((n % 32 : Nat) : Int) := nI_toInt (by omega)
  have k8 := k6.1
  have k9 := eaV_t k6.2 (by omega)
  refine th_get hx hb hts inT4 hown hK hO rfl 2 (by decide) (hts _ (tb_c wd_47)) rfl rfl dX4_clear_1 ?_
  refine lv_istore_n (lv' := [(1, .int w3), (0, .ref h0)]) hx hb dX4_clear_4 rfl hl (by decide) rfl (fun ls hl => ?_)
  refine lv_aload_n hx hb dX4_clear_5 rfl (lv_at hl 1 rfl) ?_
  refine lv_iconst (v := 0) hx hb dX4_clear_6 (by decide) ?_
  refine th_put (ty := .int) hx hb hts inT4 tyX4 tyX4_ok nmX4 hown hK hO hS ⟨_, hG0⟩ rfl 2 (by decide) (hts _ (tb_c wd_47)) rfl rfl (by decide +kernel) rfl rfl (Nat.le_of_ble_eq_true rfl) dX4_clear_7 (fun H locs hO oq hS => ?_)
  have hI := th_I.moved hI oq
  have hO : va_at D vwCl (h0, .inr (4, [.int (nI (n % 32)), .ref a1, .int 0])) H := hO
  have k10 : (0 : Int32).toInt = 0 := by decide
  obtain ⟨Eu11, hEu11⟩ : ∃ x : Nat → Nat, x = eu E (32 + 8 * h0) ((0 : Int32).toInt.toNat) := ⟨_, rfl⟩
  have hI : th_I (okC Eu11) D G [] H := by rw [hEu11]; exact ea_close hI hG0 hO ⟨by omega, by omega⟩ (ok_4 hq2 ⟨by omega, by omega⟩ ⟨by omega, Or.inr (by rw [eu_at]; omega)⟩)
  have hK : va_K D vwCl (th_tys Eu11) s := by rw [hEu11, tys_eu (by omega)]; exact hK
  have zEu11 : Eu11 (32 + 8 * h0) = ((0 : Int32).toInt.toNat) := by rw [hEu11]; exact eu_at
  refine lv_iload_n hx hb dX4_clear_10 rfl (lv_at hl 0 rfl) ?_
  have hEt : eu E (32 + 8 * h0) (0) = Eu11 := (congrArg (fun z => eu E (32 + 8 * h0) z) (show 0 = _ from by first | rfl | omega | (rw [gI_f (by (try simp only [rg]); omega)]; omega) | (rw [gI_t (by (try simp only [rg]); omega), gI_t (by omega)]) | (rw [gI_t (by (try simp only [rg]); omega)]; omega) | (rw [gD_t (by (try simp only [rg]); omega), gD_t (by omega)]) | (rw [gD_t (by (try simp only [rg]); omega)]; omega))).trans hEu11.symm
  rw [← hEt] at hI hK
  have hpost : (w3 : Int32).toInt = ((E (32 + 8 * h0) : Nat) : Int) := by omega
  rw [hQ]
  exact W.iret (v := w3) hx hb hr (fun t ht hW => ⟨⟨w3, (), rfl, hpost, by rw [ht]; exact hI, hN.warm hW, va_K.moved hW.alike hK⟩, hS.F ht⟩) hS.2.2 dX4_clear_11
theorem dX4_takeOut_0g : (decode cX4_takeOut 0 = .ok (.aload_n 0, 1)) ∧ (decode cX4_takeOut 1 = .ok (.iload_n 1, 1)) ∧ (decode cX4_takeOut 2 = .ok (.invokevirtual 28, 3)) ∧ (decode cX4_takeOut 5 = .ok (.ifCond .eq 42, 3)) ∧ (decode cX4_takeOut 8 = .ok (.aload_n 0, 1)) ∧ (decode cX4_takeOut 9 = .ok (.getfield 24, 3)) ∧ (decode cX4_takeOut 12 = .ok (.iload_n 1, 1)) ∧ (decode cX4_takeOut 13 = .ok (.iconst 1, 1)) ∧ (decode cX4_takeOut 14 = .ok (.iadd, 1)) ∧ (decode cX4_takeOut 15 = .ok (.iconst 4, 1)) := by decide +kernel
theorem dX4_takeOut_0 : decode cX4_takeOut 0 = .ok (.aload_n 0, 1) := dX4_takeOut_0g.1
theorem dX4_takeOut_1 : decode cX4_takeOut 1 = .ok (.iload_n 1, 1) := dX4_takeOut_0g.2.1
theorem dX4_takeOut_2 : decode cX4_takeOut 2 = .ok (.invokevirtual 28, 3) := dX4_takeOut_0g.2.2.1
theorem dX4_takeOut_5 : decode cX4_takeOut 5 = .ok (.ifCond .eq 42, 3) := dX4_takeOut_0g.2.2.2.1
theorem dX4_takeOut_8 : decode cX4_takeOut 8 = .ok (.aload_n 0, 1) := dX4_takeOut_0g.2.2.2.2.1
theorem dX4_takeOut_9 : decode cX4_takeOut 9 = .ok (.getfield 24, 3) := dX4_takeOut_0g.2.2.2.2.2.1
theorem dX4_takeOut_12 : decode cX4_takeOut 12 = .ok (.iload_n 1, 1) := dX4_takeOut_0g.2.2.2.2.2.2.1
theorem dX4_takeOut_13 : decode cX4_takeOut 13 = .ok (.iconst 1, 1) := dX4_takeOut_0g.2.2.2.2.2.2.2.1
theorem dX4_takeOut_14 : decode cX4_takeOut 14 = .ok (.iadd, 1) := dX4_takeOut_0g.2.2.2.2.2.2.2.2.1
theorem dX4_takeOut_15 : decode cX4_takeOut 15 = .ok (.iconst 4, 1) := dX4_takeOut_0g.2.2.2.2.2.2.2.2.2
theorem dX4_takeOut_16g : (decode cX4_takeOut 16 = .ok (.imul, 1)) ∧ (decode cX4_takeOut 17 = .ok (.aload_n 0, 1)) ∧ (decode cX4_takeOut 18 = .ok (.getfield 24, 3)) ∧ (decode cX4_takeOut 21 = .ok (.iload_n 1, 1)) ∧ (decode cX4_takeOut 22 = .ok (.iconst 4, 1)) ∧ (decode cX4_takeOut 23 = .ok (.imul, 1)) ∧ (decode cX4_takeOut 24 = .ok (.aload_n 0, 1)) ∧ (decode cX4_takeOut 25 = .ok (.getfield 9, 3)) ∧ (decode cX4_takeOut 28 = .ok (.iload_n 1, 1)) ∧ (decode cX4_takeOut 29 = .ok (.isub, 1)) := by decide +kernel
theorem dX4_takeOut_16 : decode cX4_takeOut 16 = .ok (.imul, 1) := dX4_takeOut_16g.1
theorem dX4_takeOut_17 : decode cX4_takeOut 17 = .ok (.aload_n 0, 1) := dX4_takeOut_16g.2.1
theorem dX4_takeOut_18 : decode cX4_takeOut 18 = .ok (.getfield 24, 3) := dX4_takeOut_16g.2.2.1
theorem dX4_takeOut_21 : decode cX4_takeOut 21 = .ok (.iload_n 1, 1) := dX4_takeOut_16g.2.2.2.1
theorem dX4_takeOut_22 : decode cX4_takeOut 22 = .ok (.iconst 4, 1) := dX4_takeOut_16g.2.2.2.2.1
theorem dX4_takeOut_23 : decode cX4_takeOut 23 = .ok (.imul, 1) := dX4_takeOut_16g.2.2.2.2.2.1
theorem dX4_takeOut_24 : decode cX4_takeOut 24 = .ok (.aload_n 0, 1) := dX4_takeOut_16g.2.2.2.2.2.2.1
theorem dX4_takeOut_25 : decode cX4_takeOut 25 = .ok (.getfield 9, 3) := dX4_takeOut_16g.2.2.2.2.2.2.2.1
theorem dX4_takeOut_28 : decode cX4_takeOut 28 = .ok (.iload_n 1, 1) := dX4_takeOut_16g.2.2.2.2.2.2.2.2.1
theorem dX4_takeOut_29 : decode cX4_takeOut 29 = .ok (.isub, 1) := dX4_takeOut_16g.2.2.2.2.2.2.2.2.2
theorem dX4_takeOut_30g : (decode cX4_takeOut 30 = .ok (.iconst 1, 1)) ∧ (decode cX4_takeOut 31 = .ok (.isub, 1)) ∧ (decode cX4_takeOut 32 = .ok (.iconst 4, 1)) ∧ (decode cX4_takeOut 33 = .ok (.imul, 1)) ∧ (decode cX4_takeOut 34 = .ok (.invokestatic 36, 3)) ∧ (decode cX4_takeOut 37 = .ok (.aload_n 0, 1)) ∧ (decode cX4_takeOut 38 = .ok (.dup, 1)) ∧ (decode cX4_takeOut 39 = .ok (.getfield 9, 3)) ∧ (decode cX4_takeOut 42 = .ok (.iconst 1, 1)) ∧ (decode cX4_takeOut 43 = .ok (.isub, 1)) := by decide +kernel
theorem dX4_takeOut_30 : decode cX4_takeOut 30 = .ok (.iconst 1, 1) := dX4_takeOut_30g.1
theorem dX4_takeOut_31 : decode cX4_takeOut 31 = .ok (.isub, 1) := dX4_takeOut_30g.2.1
theorem dX4_takeOut_32 : decode cX4_takeOut 32 = .ok (.iconst 4, 1) := dX4_takeOut_30g.2.2.1
theorem dX4_takeOut_33 : decode cX4_takeOut 33 = .ok (.imul, 1) := dX4_takeOut_30g.2.2.2.1
theorem dX4_takeOut_34 : decode cX4_takeOut 34 = .ok (.invokestatic 36, 3) := dX4_takeOut_30g.2.2.2.2.1
theorem dX4_takeOut_37 : decode cX4_takeOut 37 = .ok (.aload_n 0, 1) := dX4_takeOut_30g.2.2.2.2.2.1
theorem dX4_takeOut_38 : decode cX4_takeOut 38 = .ok (.dup, 1) := dX4_takeOut_30g.2.2.2.2.2.2.1
theorem dX4_takeOut_39 : decode cX4_takeOut 39 = .ok (.getfield 9, 3) := dX4_takeOut_30g.2.2.2.2.2.2.2.1
theorem dX4_takeOut_42 : decode cX4_takeOut 42 = .ok (.iconst 1, 1) := dX4_takeOut_30g.2.2.2.2.2.2.2.2.1
theorem dX4_takeOut_43 : decode cX4_takeOut 43 = .ok (.isub, 1) := dX4_takeOut_30g.2.2.2.2.2.2.2.2.2
theorem dX4_takeOut_44g : (decode cX4_takeOut 44 = .ok (.putfield 9, 3)) ∧ (decode cX4_takeOut 47 = .ok (.return_, 1)) := by decide +kernel
theorem dX4_takeOut_44 : decode cX4_takeOut 44 = .ok (.putfield 9, 3) := dX4_takeOut_44g.1
theorem dX4_takeOut_47 : decode cX4_takeOut 47 = .ok (.return_, 1) := dX4_takeOut_44g.2
set_option maxHeartbeats 4000000 in
set_option maxRecDepth 100000 in
theorem c_X4_takeOut (l : Launch) (E : Nat → Nat) (D : va_G) (G : th_G) (h0 n : Nat) (hG0 : G h0 = some (4, n)) (x1 : Int32) (hun : n < 32) : Met l yX4_takeOut (tb (.code yX4_takeOut cX4_takeOut 2 none)) (rm 1) (va_Pc [.ref h0, .int x1] (th_P E D G)) (QV E D G) 0 0 (th_A G) := by
  refine Met.ofW (cc := cX4_takeOut) (maxL := 2) (ret := none) (by decide) rfl ?_
  intro p e s m args below meth c s₁ B hml hv
  obtain ⟨hav, hI, hN, hK⟩ := hv
  have hx := B.exec
  have hb := B.bytes
  have hr := B.returns
  have hts := atoms_spec (ws := tb (.code yX4_takeOut cX4_takeOut 2 none)) B.pre
  have hown : s.vm.findClass RX4 = some m.cls := findClass_of_methodNamed B.named
  have hlocks := B.notSynchronized
  have hS : va_S (th_A G) s.heap s.heap [] := va_S.rf
  have hl := lv_entry ([.ref h0, .int x1]) (n := 2) (Nat.le_of_ble_eq_true rfl)
  rw [show entryFrame m args 2 = entryFrame m ([.ref h0, .int x1] : List Value).toArray 2 from by rw [hav], lg_entry_eq]
  generalize (lg_sl ([.ref h0, .int x1]) ++ List.replicate (2 - (lg_sl ([.ref h0, .int x1])).length) Slot.unset).toArray = ls at hl ⊢
  have hl : lv_has ls 2 [(0, .ref h0), (1, .int x1)] := hl
  generalize hR : (headSpec (tb (.code yX4_takeOut cX4_takeOut 2 none)) (rm 1)).room = R
  have hR := hR.symm
  generalize hQ : MQ below (QV E D G) args s 0 0 (th_A G) = QF
  have hQ := hQ.symm
  refine lv_aload_n hx hb dX4_takeOut_0 rfl (lv_at hl 0 rfl) ?_
  refine lv_iload_n hx hb dX4_takeOut_1 rfl (lv_at hl 1 rfl) ?_
  obtain ⟨a2, w4, hO, hq3, ⟨k5, k6⟩, k7⟩ := op_4 hI hG0 List.not_mem_nil
  have hI := th_I.weak (a := h0) hI
  have k8 : (nI (n % 32)).toInt = ((n % 32 : Nat) : Int) := nI_toInt (by omega)
  have k9 := k7.1
  refine th_cVs (As := [.int x1]) (rest := []) (n := 1) (d := 0) ⟨hx, hb, hml, hown, hts⟩ (c_X4_has l E D s.heap h0 (n % 32) a2 w4 hO (by omega) (by omega) (by omega) x1) wd_502 wd_495 wd_496 wd_3 wd_497 (by decide +kernel) ⟨by rw [hR]; exact Nat.le_of_ble_eq_true rfl, by rw [hR]; exact Nat.le_of_ble_eq_true rfl⟩ hN hK hS ⟨_, hO⟩ rfl rfl hl.1 rfl (Nat.le_of_ble_eq_true rfl) dX4_takeOut_2 ⟨Nat.zero_le _, Nat.zero_le _⟩ (fun r1 locs hp hS => ?_)
  rcases hp with ⟨rfl, hp⟩ | ⟨rfl, hp⟩
  · skip
    try simp only [rg, not_and, Int.not_le] at hp
    have hp10 := hp
    refine lv_if_eq (tgt := 47) hx hb dX4_takeOut_5 (by decide) (fun c => absurd c (by decide)) (fun _ => ?_)
    refine lv_aload_n hx hb dX4_takeOut_8 rfl (lv_at hl 0 rfl) ?_
    refine th_get hx hb hts inT4 hown hK hO rfl 1 (by decide) (hts _ (tb_c wd_46)) rfl rfl dX4_takeOut_9 ?_
    refine lv_iload_n hx hb dX4_takeOut_12 rfl (lv_at hl 1 rfl) ?_
    refine lv_iconst (v := 1) hx hb dX4_takeOut_13 (by decide) ?_
    refine lv_iadd hx hb dX4_takeOut_14 ?_
    refine lv_topi (fun v11 e12 => ?_)
    have tv11 : v11.toInt = x1.toInt + (1) := iv_add rfl (by decide) e12 (by omega) (by omega)
    refine lv_iconst (v := 4) hx hb dX4_takeOut_15 (by decide) ?_
    refine lv_imul hx hb dX4_takeOut_16 ?_
    refine lv_topi (fun v13 e14 => ?_)
    have tv13 : v13.toInt = v11.toInt * (4) := iv_mul rfl (by decide) e14 (by omega) (by omega)
    refine lv_aload_n hx hb dX4_takeOut_17 rfl (lv_at hl 0 rfl) ?_
    refine th_get hx hb hts inT4 hown hK hO rfl 1 (by decide) (hts _ (tb_c wd_46)) rfl rfl dX4_takeOut_18 ?_
    refine lv_iload_n hx hb dX4_takeOut_21 rfl (lv_at hl 1 rfl) ?_
    refine lv_iconst (v := 4) hx hb dX4_takeOut_22 (by decide) ?_
    refine lv_imul hx hb dX4_takeOut_23 ?_
    refine lv_topi (fun v15 e16 => ?_)
    have tv15 : v15.toInt = x1.toInt * (4) := iv_mul rfl (by decide) e16 (by omega) (by omega)
    refine lv_aload_n hx hb dX4_takeOut_24 rfl (lv_at hl 0 rfl) ?_
    refine th_get hx hb hts inT4 hown hK hO rfl 2 (by decide) (hts _ (tb_c wd_47)) rfl rfl dX4_takeOut_25 ?_
    refine lv_iload_n hx hb dX4_takeOut_28 rfl (lv_at hl 1 rfl) ?_
    refine lv_isub hx hb dX4_takeOut_29 ?_
    refine lv_topi (fun v17 e18 => ?_)
    have tv17 : v17.toInt = w4.toInt - x1.toInt := iv_sub rfl rfl e18 (by omega) (by omega)
    refine lv_iconst (v := 1) hx hb dX4_takeOut_30 (by decide) ?_
    refine lv_isub hx hb dX4_takeOut_31 ?_
    refine lv_topi (fun v19 e20 => ?_)
    have tv19 : v19.toInt = v17.toInt - (1) := iv_sub rfl (by decide) e20 (by omega) (by omega)
    refine lv_iconst (v := 4) hx hb dX4_takeOut_32 (by decide) ?_
    refine lv_imul hx hb dX4_takeOut_33 ?_
    refine lv_topi (fun v21 e22 => ?_)
    have tv21 : v21.toInt = v19.toInt * (4) := iv_mul rfl (by decide) e22 (by omega) (by omega)
    obtain ⟨_, hA23⟩ := op_0 hI hq3 (th_ne hG0 hq3 (show (4 : Nat) ≠ 0 by decide))
    obtain ⟨_, hA24⟩ := op_0 hI hq3 (th_ne hG0 hq3 (show (4 : Nat) ≠ 0 by decide))
    refine th_copyi hx hb (hml.trans hl.1.symm) hown (hts _ (tb_c wd_503)) (hts _ (tb_c wd_505)) (hts _ (tb_c wd_504)) (hts _ (tb_c wd_14)) hK hA23 hA24 0 rfl hS ⟨_, hq3⟩ (fun z => by have := iv_lt (X := v13.toInt) (Y := 0) rfl (by decide) z; omega) (fun z => by have := iv_lt (X := v15.toInt) (Y := 0) rfl (by decide) z; omega) (fun z => by have := iv_lt (X := v21.toInt) (Y := 0) rfl (by decide) z; omega) (by omega) (by omega) (by rw [hR]; exact Nat.le_of_ble_eq_true rfl) (by rw [hR]; exact Nat.le_of_ble_eq_true rfl) dX4_takeOut_34 (fun H locs _ hA24 oq hS => ?_)
    have hI := th_I.put hI hq3 hA24 ok_0 oq
    have hO := hO.kept (oq _ (fun z => th_ne hG0 hq3 (show (4 : Nat) ≠ 0 by decide) (List.mem_singleton.mpr z.symm)))
    refine lv_aload_n hx hb dX4_takeOut_37 rfl (lv_at hl 0 rfl) ?_
    refine lv_dup hx hb dX4_takeOut_38 rfl ?_
    refine th_get hx hb hts inT4 hown hK hO rfl 2 (by decide) (hts _ (tb_c wd_47)) rfl rfl dX4_takeOut_39 ?_
    refine lv_iconst (v := 1) hx hb dX4_takeOut_42 (by decide) ?_
    refine lv_isub hx hb dX4_takeOut_43 ?_
    refine lv_topi (fun v25 e26 => ?_)
    have tv25 : v25.toInt = w4.toInt - (1) := iv_sub rfl (by decide) e26 (by omega) (by omega)
    refine th_put (ty := .int) hx hb hts inT4 tyX4 tyX4_ok nmX4 hown hK hO hS ⟨_, hG0⟩ rfl 2 (by decide) (hts _ (tb_c wd_47)) rfl rfl (by decide +kernel) rfl rfl (Nat.le_of_ble_eq_true rfl) dX4_takeOut_44 (fun H locs hO oq hS => ?_)
    have hI := th_I.moved hI oq
    have hO : va_at D vwCl (h0, .inr (4, [.int (nI (n % 32)), .ref a2, .int v25])) H := hO
    have k27 : n % 32 ≤ 16 ∧ eaV n (E (32 + 8 * h0)) v25 := ⟨by omega, Or.inl hun⟩
    have hI := th_I.close hI hG0 hO (ok_4 hq3 ⟨by omega, by omega⟩ k27)
    rw [hQ]
    exact W.vret hx hb hr (fun t ht hW => ⟨⟨(), rfl, trivial, by rw [ht]; exact hI, hN.warm hW, va_K.moved hW.alike hK⟩, hS.F ht⟩) hS.2.2 dX4_takeOut_47
  · skip
    have hp28 := hp
    refine lv_if_eq (tgt := 47) hx hb dX4_takeOut_5 (by decide) (fun _ => ?_) (fun c => absurd c (by decide))
    have hI := th_I.close hI hG0 hO (ok_4 hq3 ⟨by omega, by omega⟩ k7)
    rw [hQ]
    exact W.vret hx hb hr (fun t ht hW => ⟨⟨(), rfl, trivial, by rw [ht]; exact hI, hN.warm hW, va_K.moved hW.alike hK⟩, hS.F ht⟩) hS.2.2 dX4_takeOut_47
set_option maxHeartbeats 4000000 in
set_option maxRecDepth 100000 in
theorem c_X4_takeOut_T (l : Launch) (E : Nat → Nat) (D : va_G) (G : th_G) (h0 n : Nat) (hG0 : G h0 = some (4, n)) (x1 : Int32) (htr : 32 ≤ n) : Met l yX4_takeOut (tb (.code yX4_takeOut cX4_takeOut 2 none)) (rm 1) (va_Pc [.ref h0, .int x1] (th_P E D G)) (QV (eu E (32 + 8 * h0) (gD (0 ≤ x1.toInt ∧ x1.toInt < ((E (32 + 8 * h0) : Nat) : Int)) (E (32 + 8 * h0)))) D G) 0 0 (th_A G) := by
  refine Met.ofW (cc := cX4_takeOut) (maxL := 2) (ret := none) (by decide) rfl ?_
  intro p e s m args below meth c s₁ B hml hv
  obtain ⟨hav, hI, hN, hK⟩ := hv
  have hx := B.exec
  have hb := B.bytes
  have hr := B.returns
  have hts := atoms_spec (ws := tb (.code yX4_takeOut cX4_takeOut 2 none)) B.pre
  have hown : s.vm.findClass RX4 = some m.cls := findClass_of_methodNamed B.named
  have hlocks := B.notSynchronized
  have hS : va_S (th_A G) s.heap s.heap [] := va_S.rf
  have hl := lv_entry ([.ref h0, .int x1]) (n := 2) (Nat.le_of_ble_eq_true rfl)
  rw [show entryFrame m args 2 = entryFrame m ([.ref h0, .int x1] : List Value).toArray 2 from by rw [hav], lg_entry_eq]
  generalize (lg_sl ([.ref h0, .int x1]) ++ List.replicate (2 - (lg_sl ([.ref h0, .int x1])).length) Slot.unset).toArray = ls at hl ⊢
  have hl : lv_has ls 2 [(0, .ref h0), (1, .int x1)] := hl
  generalize hR : (headSpec (tb (.code yX4_takeOut cX4_takeOut 2 none)) (rm 1)).room = R
  have hR := hR.symm
  generalize hQ : MQ below (QV (eu E (32 + 8 * h0) (gD (0 ≤ x1.toInt ∧ x1.toInt < ((E (32 + 8 * h0) : Nat) : Int)) (E (32 + 8 * h0)))) D G) args s 0 0 (th_A G) = QF
  have hQ := hQ.symm
  refine lv_aload_n hx hb dX4_takeOut_0 rfl (lv_at hl 0 rfl) ?_
  refine lv_iload_n hx hb dX4_takeOut_1 rfl (lv_at hl 1 rfl) ?_
  obtain ⟨a2, w4, hO, hq3, ⟨k5, k6⟩, k7⟩ := op_4 hI hG0 List.not_mem_nil
  have hI := th_I.weak (a := h0) hI
  have k8 : (nI (n % 32)).toInt = ((n % 32 : Nat) : Int) := nI_toInt (by omega)
  have k9 := k7.1
  have k10 := eaV_t k7.2 (by omega)
  refine th_cVs (As := [.int x1]) (rest := []) (n := 1) (d := 0) ⟨hx, hb, hml, hown, hts⟩ (c_X4_has l E D s.heap h0 (n % 32) a2 w4 hO (by omega) (by omega) (by omega) x1) wd_502 wd_495 wd_496 wd_3 wd_497 (by decide +kernel) ⟨by rw [hR]; exact Nat.le_of_ble_eq_true rfl, by rw [hR]; exact Nat.le_of_ble_eq_true rfl⟩ hN hK hS ⟨_, hO⟩ rfl rfl hl.1 rfl (Nat.le_of_ble_eq_true rfl) dX4_takeOut_2 ⟨Nat.zero_le _, Nat.zero_le _⟩ (fun r1 locs hp hS => ?_)
  rcases hp with ⟨rfl, hp⟩ | ⟨rfl, hp⟩
  · skip
    try simp only [rg, not_and, Int.not_le] at hp
    have hp11 := hp
    refine lv_if_eq (tgt := 47) hx hb dX4_takeOut_5 (by decide) (fun c => absurd c (by decide)) (fun _ => ?_)
    refine lv_aload_n hx hb dX4_takeOut_8 rfl (lv_at hl 0 rfl) ?_
    refine th_get hx hb hts inT4 hown hK hO rfl 1 (by decide) (hts _ (tb_c wd_46)) rfl rfl dX4_takeOut_9 ?_
    refine lv_iload_n hx hb dX4_takeOut_12 rfl (lv_at hl 1 rfl) ?_
    refine lv_iconst (v := 1) hx hb dX4_takeOut_13 (by decide) ?_
    refine lv_iadd hx hb dX4_takeOut_14 ?_
    refine lv_topi (fun v12 e13 => ?_)
    have tv12 : v12.toInt = x1.toInt + (1) := iv_add rfl (by decide) e13 (by omega) (by omega)
    refine lv_iconst (v := 4) hx hb dX4_takeOut_15 (by decide) ?_
    refine lv_imul hx hb dX4_takeOut_16 ?_
    refine lv_topi (fun v14 e15 => ?_)
    have tv14 : v14.toInt = v12.toInt * (4) := iv_mul rfl (by decide) e15 (by omega) (by omega)
    refine lv_aload_n hx hb dX4_takeOut_17 rfl (lv_at hl 0 rfl) ?_
    refine th_get hx hb hts inT4 hown hK hO rfl 1 (by decide) (hts _ (tb_c wd_46)) rfl rfl dX4_takeOut_18 ?_
    refine lv_iload_n hx hb dX4_takeOut_21 rfl (lv_at hl 1 rfl) ?_
    refine lv_iconst (v := 4) hx hb dX4_takeOut_22 (by decide) ?_
    refine lv_imul hx hb dX4_takeOut_23 ?_
    refine lv_topi (fun v16 e17 => ?_)
    have tv16 : v16.toInt = x1.toInt * (4) := iv_mul rfl (by decide) e17 (by omega) (by omega)
    refine lv_aload_n hx hb dX4_takeOut_24 rfl (lv_at hl 0 rfl) ?_
    refine th_get hx hb hts inT4 hown hK hO rfl 2 (by decide) (hts _ (tb_c wd_47)) rfl rfl dX4_takeOut_25 ?_
    refine lv_iload_n hx hb dX4_takeOut_28 rfl (lv_at hl 1 rfl) ?_
    refine lv_isub hx hb dX4_takeOut_29 ?_
    refine lv_topi (fun v18 e19 => ?_)
    have tv18 : v18.toInt = w4.toInt - x1.toInt := iv_sub rfl rfl e19 (by omega) (by omega)
    refine lv_iconst (v := 1) hx hb dX4_takeOut_30 (by decide) ?_
    refine lv_isub hx hb dX4_takeOut_31 ?_
    refine lv_topi (fun v20 e21 => ?_)
    have tv20 : v20.toInt = v18.toInt - (1) := iv_sub rfl (by decide) e21 (by omega) (by omega)
    refine lv_iconst (v := 4) hx hb dX4_takeOut_32 (by decide) ?_
    refine lv_imul hx hb dX4_takeOut_33 ?_
    refine lv_topi (fun v22 e23 => ?_)
    have tv22 : v22.toInt = v20.toInt * (4) := iv_mul rfl (by decide) e23 (by omega) (by omega)
    obtain ⟨_, hA24⟩ := op_0 hI hq3 (th_ne hG0 hq3 (show (4 : Nat) ≠ 0 by decide))
    obtain ⟨_, hA25⟩ := op_0 hI hq3 (th_ne hG0 hq3 (show (4 : Nat) ≠ 0 by decide))
    refine th_copyi hx hb (hml.trans hl.1.symm) hown (hts _ (tb_c wd_503)) (hts _ (tb_c wd_505)) (hts _ (tb_c wd_504)) (hts _ (tb_c wd_14)) hK hA24 hA25 0 rfl hS ⟨_, hq3⟩ (fun z => by have := iv_lt (X := v14.toInt) (Y := 0) rfl (by decide) z; omega) (fun z => by have := iv_lt (X := v16.toInt) (Y := 0) rfl (by decide) z; omega) (fun z => by have := iv_lt (X := v22.toInt) (Y := 0) rfl (by decide) z; omega) (by omega) (by omega) (by rw [hR]; exact Nat.le_of_ble_eq_true rfl) (by rw [hR]; exact Nat.le_of_ble_eq_true rfl) dX4_takeOut_34 (fun H locs _ hA25 oq hS => ?_)
    have hI := th_I.put hI hq3 hA25 ok_0 oq
    have hO := hO.kept (oq _ (fun z => th_ne hG0 hq3 (show (4 : Nat) ≠ 0 by decide) (List.mem_singleton.mpr z.symm)))
    refine lv_aload_n hx hb dX4_takeOut_37 rfl (lv_at hl 0 rfl) ?_
    refine lv_dup hx hb dX4_takeOut_38 rfl ?_
    refine th_get hx hb hts inT4 hown hK hO rfl 2 (by decide) (hts _ (tb_c wd_47)) rfl rfl dX4_takeOut_39 ?_
    refine lv_iconst (v := 1) hx hb dX4_takeOut_42 (by decide) ?_
    refine lv_isub hx hb dX4_takeOut_43 ?_
    refine lv_topi (fun v26 e27 => ?_)
    have tv26 : v26.toInt = w4.toInt - (1) := iv_sub rfl (by decide) e27 (by omega) (by omega)
    refine th_put (ty := .int) hx hb hts inT4 tyX4 tyX4_ok nmX4 hown hK hO hS ⟨_, hG0⟩ rfl 2 (by decide) (hts _ (tb_c wd_47)) rfl rfl (by decide +kernel) rfl rfl (Nat.le_of_ble_eq_true rfl) dX4_takeOut_44 (fun H locs hO oq hS => ?_)
    have hI := th_I.moved hI oq
    have hO : va_at D vwCl (h0, .inr (4, [.int (nI (n % 32)), .ref a2, .int v26])) H := hO
    obtain ⟨Eu28, hEu28⟩ : ∃ x : Nat → Nat, x = eu E (32 + 8 * h0) ((v26 : Int32).toInt.toNat) := ⟨_, rfl⟩
    have hI : th_I (okC Eu28) D G [] H := by rw [hEu28]; exact ea_close hI hG0 hO ⟨by omega, by omega⟩ (ok_4 hq3 ⟨by omega, by omega⟩ ⟨by omega, Or.inr (by rw [eu_at]; omega)⟩)
    have hK : va_K D vwCl (th_tys Eu28) s := by rw [hEu28, tys_eu (by omega)]; exact hK
    have zEu28 : Eu28 (32 + 8 * h0) = ((v26 : Int32).toInt.toNat) := by rw [hEu28]; exact eu_at
    have hEt : eu E (32 + 8 * h0) (gD (0 ≤ x1.toInt ∧ x1.toInt < ((E (32 + 8 * h0) : Nat) : Int)) (E (32 + 8 * h0))) = Eu28 := (congrArg (fun z => eu E (32 + 8 * h0) z) (show gD (0 ≤ x1.toInt ∧ x1.toInt < ((E (32 + 8 * h0) : Nat) : Int)) (E (32 + 8 * h0)) = _ from by first | rfl | omega | (rw [gI_f (by (try simp only [rg]); omega)]; omega) | (rw [gI_t (by (try simp only [rg]); omega), gI_t (by omega)]) | (rw [gI_t (by (try simp only [rg]); omega)]; omega) | (rw [gD_t (by (try simp only [rg]); omega), gD_t (by omega)]) | (rw [gD_t (by (try simp only [rg]); omega)]; omega))).trans hEu28.symm
    rw [← hEt] at hI hK
    rw [hQ]
    exact W.vret hx hb hr (fun t ht hW => ⟨⟨(), rfl, trivial, by rw [ht]; exact hI, hN.warm hW, va_K.moved hW.alike hK⟩, hS.F ht⟩) hS.2.2 dX4_takeOut_47
  · skip
    have hp29 := hp
    refine lv_if_eq (tgt := 47) hx hb dX4_takeOut_5 (by decide) (fun _ => ?_) (fun c => absurd c (by decide))
    have hI := th_I.close hI hG0 hO (ok_4 hq3 ⟨by omega, by omega⟩ k7)
    have hEt : eu E (32 + 8 * h0) (gD (0 ≤ x1.toInt ∧ x1.toInt < ((E (32 + 8 * h0) : Nat) : Int)) (E (32 + 8 * h0))) = E := eu_id (by first | (exact gI_f (by (try simp only [rg]); omega)) | (exact gD_f (by (try simp only [rg]); omega)) | omega)
    have hI : th_I (okC (eu E (32 + 8 * h0) (gD (0 ≤ x1.toInt ∧ x1.toInt < ((E (32 + 8 * h0) : Nat) : Int)) (E (32 + 8 * h0))))) D G [] s.heap := by rw [hEt]; exact hI
    have hK : va_K D vwCl (th_tys (eu E (32 + 8 * h0) (gD (0 ≤ x1.toInt ∧ x1.toInt < ((E (32 + 8 * h0) : Nat) : Int)) (E (32 + 8 * h0))))) s := by rw [hEt]; exact hK
    rw [hQ]
    exact W.vret hx hb hr (fun t ht hW => ⟨⟨(), rfl, trivial, by rw [ht]; exact hI, hN.warm hW, va_K.moved hW.alike hK⟩, hS.F ht⟩) hS.2.2 dX4_takeOut_47
