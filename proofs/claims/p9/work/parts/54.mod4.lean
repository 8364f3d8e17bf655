theorem wp_78 : Cond.selects RX12 yX12_isBoat yX12_isBoat ∈ TB := tv 78 (by decide +kernel) (by decide +kernel)
theorem wp_79 : Cond.selects RX12 yX12_putIn yX12_putIn ∈ TB := tv 79 (by decide +kernel) (by decide +kernel)
theorem wp_80 : Cond.selects RX12 yX12_sailsTo yX12_sailsTo ∈ TB := tv 80 (by decide +kernel) (by decide +kernel)
theorem wp_81 : Cond.selects RX12 yX12_isMoored yX12_isMoored ∈ TB := tv 81 (by decide +kernel) (by decide +kernel)
theorem wp_82 : Cond.selects RX12 yX12_dyeOf yX12_dyeOf ∈ TB := tv 82 (by decide +kernel) (by decide +kernel)
theorem wp_84 : Cond.selects RX12 yX12_thereAt yX12_thereAt ∈ TB := tv 84 (by decide +kernel) (by decide +kernel)
theorem wd_1262 : (Cond.fieldLink RX12 (310 : Nat) "NineRiverModel" "paid" "I") ∈ TB := tw 1262 (by decide +kernel) (by decide +kernel)
theorem wd_1263 : (Cond.fieldLink RX12 (332 : Nat) "NineRiverModel" "thrownCost" "I") ∈ TB := tw 1263 (by decide +kernel) (by decide +kernel)
theorem wd_1264 : (Cond.fieldLink RX12 (325 : Nat) "NineRiverModel" "thrownCell" "I") ∈ TB := tw 1264 (by decide +kernel) (by decide +kernel)
theorem wd_1265 : (Cond.fieldLink RX12 (338 : Nat) "NineRiverModel" "thrownHour" "I") ∈ TB := tw 1265 (by decide +kernel) (by decide +kernel)
theorem wd_1266 : (Cond.fieldLink RX12 (335 : Nat) "NineRiverModel" "thrownThere" "I") ∈ TB := tw 1266 (by decide +kernel) (by decide +kernel)
theorem wd_1542 : (Cond.methodLink RX12 (141 : Nat) yX12_isPour) ∈ TB := tw 1542 (by decide +kernel) (by decide +kernel)
theorem wd_1543 : (Jvm.Cond.static yX12_isPour) ∈ TB := tw 1543 (by decide +kernel) (by decide +kernel)
theorem wd_1544 : (Cond.code yX12_isPour cX12_isPour 4 (Option.some Jvm.ClassFile.FieldType.boolean)) ∈ TB := tw 1544 (by decide +kernel) (by decide +kernel)
theorem wd_1670 : (Cond.methodLink RX12 (304 : Nat) yX12_isPlace) ∈ TB := tw 1670 (by decide +kernel) (by decide +kernel)
theorem wd_1671 : (Jvm.Cond.static yX12_isPlace) ∈ TB := tw 1671 (by decide +kernel) (by decide +kernel)
theorem wd_1672 : (Cond.code yX12_isPlace cX12_isPlace 1 (Option.some Jvm.ClassFile.FieldType.boolean)) ∈ TB := tw 1672 (by decide +kernel) (by decide +kernel)
theorem wd_1681 : (Cond.methodLink RX12 (307 : Nat) yX12_isBoat) ∈ TB := tw 1681 (by decide +kernel) (by decide +kernel)
theorem wd_1683 : (Jvm.Cond.instanceMethod yX12_isBoat) ∈ TB := tw 1683 (by decide +kernel) (by decide +kernel)
theorem wd_1684 : (Cond.code yX12_isBoat cX12_isBoat 2 (Option.some Jvm.ClassFile.FieldType.boolean)) ∈ TB := tw 1684 (by decide +kernel) (by decide +kernel)
theorem wd_1689 : (Cond.methodLink RX12 (316 : Nat) yX12_putIn) ∈ TB := tw 1689 (by decide +kernel) (by decide +kernel)
theorem wd_1691 : (Jvm.Cond.instanceMethod yX12_putIn) ∈ TB := tw 1691 (by decide +kernel) (by decide +kernel)
theorem wd_1692 : (Cond.code yX12_putIn cX12_putIn 2 (Option.some Jvm.ClassFile.FieldType.int)) ∈ TB := tw 1692 (by decide +kernel) (by decide +kernel)
theorem wd_1693 : (Cond.methodLink RX12 (319 : Nat) yX12_sailsTo) ∈ TB := tw 1693 (by decide +kernel) (by decide +kernel)
theorem wd_1695 : (Jvm.Cond.instanceMethod yX12_sailsTo) ∈ TB := tw 1695 (by decide +kernel) (by decide +kernel)
theorem wd_1696 : (Cond.code yX12_sailsTo cX12_sailsTo 7 (Option.some Jvm.ClassFile.FieldType.int)) ∈ TB := tw 1696 (by decide +kernel) (by decide +kernel)
theorem wd_1697 : (Cond.methodLink RX12 (313 : Nat) yX12_isMoored) ∈ TB := tw 1697 (by decide +kernel) (by decide +kernel)
theorem wd_1699 : (Jvm.Cond.instanceMethod yX12_isMoored) ∈ TB := tw 1699 (by decide +kernel) (by decide +kernel)
theorem wd_1700 : (Cond.code yX12_isMoored cX12_isMoored 3 (Option.some Jvm.ClassFile.FieldType.boolean)) ∈ TB := tw 1700 (by decide +kernel) (by decide +kernel)
theorem wd_1717 : (Cond.methodLink RX12 (322 : Nat) yX12_dyeOf) ∈ TB := tw 1717 (by decide +kernel) (by decide +kernel)
theorem wd_1719 : (Jvm.Cond.instanceMethod yX12_dyeOf) ∈ TB := tw 1719 (by decide +kernel) (by decide +kernel)
theorem wd_1720 : (Cond.code yX12_dyeOf cX12_dyeOf 7 (Option.some Jvm.ClassFile.FieldType.int)) ∈ TB := tw 1720 (by decide +kernel) (by decide +kernel)
theorem wd_1737 : (Cond.methodLink RX12 (328 : Nat) yX12_thereAt) ∈ TB := tw 1737 (by decide +kernel) (by decide +kernel)
theorem wd_1739 : (Jvm.Cond.instanceMethod yX12_thereAt) ∈ TB := tw 1739 (by decide +kernel) (by decide +kernel)
theorem wd_1740 : (Cond.code yX12_thereAt cX12_thereAt 8 (Option.some Jvm.ClassFile.FieldType.int)) ∈ TB := tw 1740 (by decide +kernel) (by decide +kernel)
theorem dX12_sources_0 : decode cX12_sources 0 = .ok (.iload_n 1, 1) := by decide +kernel
theorem dX12_sources_1 : decode cX12_sources 1 = .ok (.invokestatic 304, 3) := by decide +kernel
theorem dX12_sources_4 : decode cX12_sources 4 = .ok (.ifCond .eq 19, 3) := by decide +kernel
theorem dX12_sources_7 : decode cX12_sources 7 = .ok (.iload_n 2, 1) := by decide +kernel
theorem dX12_sources_8 : decode cX12_sources 8 = .ok (.invokestatic 298, 3) := by decide +kernel
theorem dX12_sources_11 : decode cX12_sources 11 = .ok (.ifCond .eq 12, 3) := by decide +kernel
theorem dX12_sources_14 : decode cX12_sources 14 = .ok (.iload_n 3, 1) := by decide +kernel
theorem dX12_sources_15 : decode cX12_sources 15 = .ok (.iconst 0, 1) := by decide +kernel
theorem dX12_sources_16 : decode cX12_sources 16 = .ok (.iload_n 2, 1) := by decide +kernel
theorem dX12_sources_17 : decode cX12_sources 17 = .ok (.invokestatic 103, 3) := by decide +kernel
theorem dX12_sources_20 : decode cX12_sources 20 = .ok (.ifCond .ne 5, 3) := by decide +kernel
theorem dX12_sources_23 : decode cX12_sources 23 = .ok (.iconst (-1), 1) := by decide +kernel
theorem dX12_sources_24 : decode cX12_sources 24 = .ok (.ireturn, 1) := by decide +kernel
theorem dX12_sources_25 : decode cX12_sources 25 = .ok (.aload_n 0, 1) := by decide +kernel
theorem dX12_sources_26 : decode cX12_sources 26 = .ok (.invokevirtual 138, 3) := by decide +kernel
theorem dX12_sources_29 : decode cX12_sources 29 = .ok (.iconst 0, 1) := by decide +kernel
theorem dX12_sources_30 : decode cX12_sources 30 = .ok (.istore 4, 2) := by decide +kernel
theorem dX12_sources_32 : decode cX12_sources 32 = .ok (.iconst 0, 1) := by decide +kernel
theorem dX12_sources_33 : decode cX12_sources 33 = .ok (.istore 5, 2) := by decide +kernel
theorem dX12_sources_35 : decode cX12_sources 35 = .ok (.iload 5, 2) := by decide +kernel
theorem dX12_sources_37 : decode cX12_sources 37 = .ok (.bipush 24, 2) := by decide +kernel
theorem dX12_sources_39 : decode cX12_sources 39 = .ok (.if_icmp .ge 34, 3) := by decide +kernel
theorem dX12_sources_42 : decode cX12_sources 42 = .ok (.iload 4, 2) := by decide +kernel
theorem dX12_sources_44 : decode cX12_sources 44 = .ok (.aload_n 0, 1) := by decide +kernel
theorem dX12_sources_45 : decode cX12_sources 45 = .ok (.iload 5, 2) := by decide +kernel
theorem dX12_sources_47 : decode cX12_sources 47 = .ok (.iload_n 3, 1) := by decide +kernel
theorem dX12_sources_48 : decode cX12_sources 48 = .ok (.iload_n 2, 1) := by decide +kernel
theorem dX12_sources_49 : decode cX12_sources 49 = .ok (.invokevirtual 301, 3) := by decide +kernel
theorem dX12_sources_52 : decode cX12_sources 52 = .ok (.iload_n 1, 1) := by decide +kernel
theorem dX12_sources_53 : decode cX12_sources 53 = .ok (.if_icmp .ne 10, 3) := by decide +kernel
theorem dX12_sources_56 : decode cX12_sources 56 = .ok (.iconst 1, 1) := by decide +kernel
theorem dX12_sources_57 : decode cX12_sources 57 = .ok (.iload 5, 2) := by decide +kernel
theorem dX12_sources_59 : decode cX12_sources 59 = .ok (.ishl, 1) := by decide +kernel
theorem dX12_sources_60 : decode cX12_sources 60 = .ok (.goto 4, 3) := by decide +kernel
theorem dX12_sources_63 : decode cX12_sources 63 = .ok (.iconst 0, 1) := by decide +kernel
theorem dX12_sources_64 : decode cX12_sources 64 = .ok (.ior, 1) := by decide +kernel
theorem dX12_sources_65 : decode cX12_sources 65 = .ok (.istore 4, 2) := by decide +kernel
theorem dX12_sources_67 : decode cX12_sources 67 = .ok (.iinc 5 1, 3) := by decide +kernel
theorem dX12_sources_70 : decode cX12_sources 70 = .ok (.goto (-35), 3) := by decide +kernel
theorem dX12_sources_73 : decode cX12_sources 73 = .ok (.iload 4, 2) := by decide +kernel
theorem dX12_sources_75 : decode cX12_sources 75 = .ok (.ireturn, 1) := by decide +kernel
set_option maxHeartbeats 4000000 in
set_option maxRecDepth 100000 in
theorem c_X12_sources (l : Launch) (E : Nat → Nat) (D : va_G) (G : th_G) (h0 : Nat) (hG0 : G h0 = some (10, 0)) (x1 : Int32) (x2 : Int32) (x3 : Int32) : Met l yX12_sources (tb (.code yX12_sources cX12_sources 6 (some .int))) (rm 69) (va_Pc [.ref h0, .int x1, .int x2, .int x3] (PX E D G (fun H => True))) (QXi E D G (fun r H => True)) 0 0 (th_A G) := by
  refine Met.ofW (cc := cX12_sources) (maxL := 6) (ret := (some .int)) (by decide) rfl ?_
  intro p e s m args below meth c s₁ B hml hv
  obtain ⟨hav, ⟨hI, hN, hK⟩, hX⟩ := hv
  have hx := B.exec
  have hb := B.bytes
  have hr := B.returns
  have hts := atoms_spec (ws := tb (.code yX12_sources cX12_sources 6 (some .int))) B.pre
  have hown : s.vm.findClass RX12 = some m.cls := findClass_of_methodNamed B.named
  have hlocks := B.notSynchronized
  have hS : va_S (th_A G) s.heap s.heap [] := va_S.rf
  have hl := lv_entry ([.ref h0, .int x1, .int x2, .int x3]) (n := 6) (Nat.le_of_ble_eq_true rfl)
  rw [show entryFrame m args 6 = entryFrame m ([.ref h0, .int x1, .int x2, .int x3] : List Value).toArray 6 from by rw [hav], lg_entry_eq]
  generalize (lg_sl ([.ref h0, .int x1, .int x2, .int x3]) ++ List.replicate (6 - (lg_sl ([.ref h0, .int x1, .int x2, .int x3])).length) Slot.unset).toArray = ls at hl ⊢
  have hl : lv_has ls 6 [(0, .ref h0), (1, .int x1), (2, .int x2), (3, .int x3)] := hl
  generalize hR : (headSpec (tb (.code yX12_sources cX12_sources 6 (some .int))) (rm 69)).room = R
  have hR := hR.symm
  generalize hQ : MQ below (QXi E D G (fun r H => True)) args s 0 0 (th_A G) = QF
  have hQ := hQ.symm
  have J_35 : ∀ (nn : Nat) (H : Heap) (locs : List Loc) (ls : Array Slot) (v609 : Int32) (v610 : Int32) , (Int.toNat (24 - v609.toInt) = nn) → lv_has ls 6 [(5, .int v609), (4, .int v610), (0, .ref h0), (1, .int x1), (2, .int x2), (3, .int x3)] → ((0 : Int) ≤ v609.toInt ∧ v609.toInt ≤ 24) → ((0 : Int) ≤ x1.toInt ∧ x1.toInt ≤ 24) → ((0 : Int) ≤ x2.toInt ∧ x2.toInt ≤ 96) → ((0 : Int) ≤ x3.toInt ∧ x3.toInt ≤ 96) → th_I (okM E) D G [] H → va_S (th_A G) s.heap H locs → W p l e R s m args below meth c H locs 0 0 QF (F0 m 35 ls []) := by
    intro nn
    induction nn using Nat.strongRecOn with
    | ind nn ih_35 =>
      intro H locs ls v609 v610  hm hl k611 k612 k613 k614 hI hS
      refine lv_iload hx hb dX12_sources_35 (lv_at hl 0 rfl) ?_
      refine lv_bipush (v := 24) hx hb dX12_sources_37 (by decide) ?_
      refine lv_icmp_ge (tgt := 73) hx hb dX12_sources_39 (by decide) (fun c615 => ?_) (fun c615 => ?_)
      · skip
        have k616 := iv_le (X := (24)) (Y := v609.toInt) (by decide) rfl c615
        refine lv_iload hx hb dX12_sources_73 (lv_at hl 1 rfl) ?_
        have hpost : True := trivial
        rw [hQ]
        exact W.iret (v := v610) hx hb hr (fun t ht hW => ⟨⟨v610, v610, rfl, rfl, ⟨by rw [ht]; exact hI, hN.warm hW, va_K.moved hW.alike hK⟩, by first | (rw [ht]; exact hpost) | exact hpost⟩, hS.F ht⟩) hS.2.2 dX12_sources_75
      · skip
        have k617 := iv_nle (X := (24)) (Y := v609.toInt) (by decide) rfl c615
        refine lv_iload hx hb dX12_sources_42 (lv_at hl 1 rfl) ?_
        refine lv_aload_n hx hb dX12_sources_44 rfl (lv_at hl 2 rfl) ?_
        refine lv_iload hx hb dX12_sources_45 (lv_at hl 0 rfl) ?_
        refine lv_iload_n hx hb dX12_sources_47 rfl (lv_at hl 5 rfl) ?_
        refine lv_iload_n hx hb dX12_sources_48 rfl (lv_at hl 4 rfl) ?_
        refine mr_i (As := [.int v609, .int x3, .int x2]) (rest := [.int v610]) (n := 3) (d := 0) ⟨hx, hb, hml, hown, hts⟩ (c_X12_floats l E D G H h0 hG0 v609 x3 x2 ⟨by omega, by omega⟩ (by omega) (by omega)) wd_1658 wd_1660 wp_77 wd_13 wd_1661 (by decide +kernel) ⟨by rw [hR]; exact Nat.le_of_ble_eq_true rfl, by rw [hR]; exact Nat.le_of_ble_eq_true rfl⟩ hI hN hK hS hG0 rfl hl.1 rfl (Nat.le_of_ble_eq_true rfl) dX12_sources_49 ⟨Nat.zero_le _, Nat.zero_le _⟩ (fun r618 locs hp hS => ?_)
        have hp619 := hp
        refine lv_iload_n hx hb dX12_sources_52 rfl (lv_at hl 3 rfl) ?_
        refine lv_icmp_ne (tgt := 63) hx hb dX12_sources_53 (by decide) (fun c620 => ?_) (fun c620 => ?_)
        · skip
          have k621 := iv_ne (X := r618.toInt) (Y := x1.toInt) rfl rfl c620
          refine lv_iconst (v := 0) hx hb dX12_sources_63 (by decide) ?_
          refine lv_ior hx hb dX12_sources_64 ?_
          refine lv_topi (fun v622 e623 => ?_)
          refine lv_istore (lv' := [(4, .int v622), (5, .int v609), (0, .ref h0), (1, .int x1), (2, .int x2), (3, .int x3)]) hx hb dX12_sources_65 hl (by decide) rfl (fun ls hl => ?_)
          obtain ⟨v624, e625⟩ : ∃ y : Int32, y = v609 + (1) := ⟨_, rfl⟩
          have tv624 : v624.toInt = v609.toInt + (1) := iv_add rfl (by decide) e625 (by omega) (by omega)
          refine lv_iinc (v := v624) (lv' := [(5, .int v624), (4, .int v622), (0, .ref h0), (1, .int x1), (2, .int x2), (3, .int x3)]) hx hb dX12_sources_67 hl (k := 1) rfl (by rw [e625]; rfl) (by decide) rfl (fun ls hl => ?_)
          refine lv_goto (tgt := 35) hx hb dX12_sources_70 (by decide) ?_
          exact ih_35 _ (by omega) H locs ls v624 v622  rfl (lv_sub hl [0, 1, 2, 3, 4, 5] rfl) ⟨by omega, by omega⟩ ⟨by omega, by omega⟩ ⟨by omega, by omega⟩ ⟨by omega, by omega⟩ hI hS
        · skip
          have k626 := iv_eq (X := r618.toInt) (Y := x1.toInt) rfl rfl c620
          refine lv_iconst (v := 1) hx hb dX12_sources_56 (by decide) ?_
          refine lv_iload hx hb dX12_sources_57 (lv_at hl 0 rfl) ?_
          refine lv_ishl hx hb dX12_sources_59 ?_
          refine lv_topi (fun v627 e628 => ?_)
          refine lv_goto (tgt := 64) hx hb dX12_sources_60 (by decide) ?_
          refine lv_ior hx hb dX12_sources_64 ?_
          refine lv_topi (fun v629 e630 => ?_)
          refine lv_istore (lv' := [(4, .int v629), (5, .int v609), (0, .ref h0), (1, .int x1), (2, .int x2), (3, .int x3)]) hx hb dX12_sources_65 hl (by decide) rfl (fun ls hl => ?_)
          obtain ⟨v631, e632⟩ : ∃ y : Int32, y = v609 + (1) := ⟨_, rfl⟩
          have tv631 : v631.toInt = v609.toInt + (1) := iv_add rfl (by decide) e632 (by omega) (by omega)
          refine lv_iinc (v := v631) (lv' := [(5, .int v631), (4, .int v629), (0, .ref h0), (1, .int x1), (2, .int x2), (3, .int x3)]) hx hb dX12_sources_67 hl (k := 1) rfl (by rw [e632]; rfl) (by decide) rfl (fun ls hl => ?_)
          refine lv_goto (tgt := 35) hx hb dX12_sources_70 (by decide) ?_
          exact ih_35 _ (by omega) H locs ls v631 v629  rfl (lv_sub hl [0, 1, 2, 3, 4, 5] rfl) ⟨by omega, by omega⟩ ⟨by omega, by omega⟩ ⟨by omega, by omega⟩ ⟨by omega, by omega⟩ hI hS
  have J_23 : ∀ (H : Heap) (locs : List Loc) (ls : Array Slot)  , lv_has ls 6 [(0, .ref h0), (1, .int x1), (2, .int x2), (3, .int x3)] → th_I (okM E) D G [] H → va_S (th_A G) s.heap H locs → W p l e R s m args below meth c H locs 0 0 QF (F0 m 23 ls []) := by
    intro H locs ls   hl  hI hS
    refine lv_iconst (v := (-1)) hx hb dX12_sources_23 (by decide) ?_
    have hpost : True := trivial
    rw [hQ]
    exact W.iret (v := (-1)) hx hb hr (fun t ht hW => ⟨⟨(-1), (-1), rfl, rfl, ⟨by rw [ht]; exact hI, hN.warm hW, va_K.moved hW.alike hK⟩, by first | (rw [ht]; exact hpost) | exact hpost⟩, hS.F ht⟩) hS.2.2 dX12_sources_24
  refine lv_iload_n hx hb dX12_sources_0 rfl (lv_at hl 1 rfl) ?_
  refine th_cSs (As := [.int x1]) (rest := []) (n := 1) (d := 1) ⟨hx, hb, hml, hown, hts⟩ (c_X12_isPlace l s.heap x1) wd_1670 wd_1671 wd_13 wd_1672 (by decide +kernel) ⟨by rw [hR]; exact Nat.le_of_ble_eq_true rfl, by rw [hR]; exact Nat.le_of_ble_eq_true rfl⟩ hN hS rfl hl.1 rfl (Nat.le_of_ble_eq_true rfl) dX12_sources_1 ⟨Nat.zero_le _, Nat.zero_le _⟩ (fun r633 locs hp hS => ?_)
  rcases hp with ⟨rfl, hp⟩ | ⟨rfl, hp⟩
  · skip
    try simp only [rg, not_and, Int.not_le] at hp
    have hp634 := hp
    refine lv_if_eq (tgt := 23) hx hb dX12_sources_4 (by decide) (fun c => absurd c (by decide)) (fun _ => ?_)
    refine lv_iload_n hx hb dX12_sources_7 rfl (lv_at hl 2 rfl) ?_
    refine th_cSs (As := [.int x2]) (rest := []) (n := 1) (d := 1) ⟨hx, hb, hml, hown, hts⟩ (c_X12_isTime l s.heap x2) wd_1655 wd_1656 wd_13 wd_1657 (by decide +kernel) ⟨by rw [hR]; exact Nat.le_of_ble_eq_true rfl, by rw [hR]; exact Nat.le_of_ble_eq_true rfl⟩ hN hS rfl hl.1 rfl (Nat.le_of_ble_eq_true rfl) dX12_sources_8 ⟨Nat.zero_le _, Nat.zero_le _⟩ (fun r635 locs hp hS => ?_)
    rcases hp with ⟨rfl, hp⟩ | ⟨rfl, hp⟩
    · skip
      try simp only [rg, not_and, Int.not_le] at hp
      have hp636 := hp
      refine lv_if_eq (tgt := 23) hx hb dX12_sources_11 (by decide) (fun c => absurd c (by decide)) (fun _ => ?_)
      refine lv_iload_n hx hb dX12_sources_14 rfl (lv_at hl 3 rfl) ?_
      refine lv_iconst (v := 0) hx hb dX12_sources_15 (by decide) ?_
      refine lv_iload_n hx hb dX12_sources_16 rfl (lv_at hl 2 rfl) ?_
      refine th_cSs (As := [.int x3, .int 0, .int x2]) (rest := []) (n := 3) (d := 0) ⟨hx, hb, hml, hown, hts⟩ (c_X12_lies l s.heap x3 0 x2) wd_1395 wd_1396 wd_13 wd_1397 (by decide +kernel) ⟨by rw [hR]; exact Nat.le_of_ble_eq_true rfl, by rw [hR]; exact Nat.le_of_ble_eq_true rfl⟩ hN hS rfl hl.1 rfl (Nat.le_of_ble_eq_true rfl) dX12_sources_17 ⟨Nat.zero_le _, Nat.zero_le _⟩ (fun r637 locs hp hS => ?_)
      rcases hp with ⟨rfl, hp⟩ | ⟨rfl, hp⟩
      · skip
        try simp only [rg, not_and, Int.not_le] at hp
        have hp638 := hp
        try rw [show (0 : Int32).toInt = 0 from by decide] at hp638
        refine lv_if_ne (tgt := 25) hx hb dX12_sources_20 (by decide) (fun _ => ?_) (fun c => absurd c (by decide))
        refine lv_aload_n hx hb dX12_sources_25 rfl (lv_at hl 0 rfl) ?_
        refine mx_v (As := []) (rest := []) (n := 0) (d := 68) ⟨hx, hb, hml, hown, hts⟩ (c_X12_looks l E D G h0 hG0 ) wd_1455 wd_1457 wp_43 wd_13 wd_1458 (by decide +kernel) ⟨by rw [hR]; exact Nat.le_of_ble_eq_true rfl, by rw [hR]; exact Nat.le_of_ble_eq_true rfl⟩ hI hN hK hS hG0 (trivial) rfl hl.1 rfl (Nat.le_of_ble_eq_true rfl) dX12_sources_26 ⟨Nat.zero_le _, Nat.zero_le _⟩ (fun H locs hI hp hS => ?_)
        refine lv_iconst (v := 0) hx hb dX12_sources_29 (by decide) ?_
        refine lv_istore (lv' := [(4, .int 0), (0, .ref h0), (1, .int x1), (2, .int x2), (3, .int x3)]) hx hb dX12_sources_30 hl (by decide) rfl (fun ls hl => ?_)
        refine lv_iconst (v := 0) hx hb dX12_sources_32 (by decide) ?_
        refine lv_istore (lv' := [(5, .int 0), (4, .int 0), (0, .ref h0), (1, .int x1), (2, .int x2), (3, .int x3)]) hx hb dX12_sources_33 hl (by decide) rfl (fun ls hl => ?_)
        have zl : (0 : Int32).toInt = 0 := by decide
        exact J_35 _ H locs ls 0 0  rfl (lv_sub hl [0, 1, 2, 3, 4, 5] rfl) ⟨by decide, by decide⟩ ⟨by omega, by omega⟩ ⟨by omega, by omega⟩ ⟨by omega, by omega⟩ hI hS
      · skip
        try simp only [rg, not_and, Int.not_le] at hp
        have hp640 := hp
        try rw [show (0 : Int32).toInt = 0 from by decide] at hp640
        refine lv_if_ne (tgt := 25) hx hb dX12_sources_20 (by decide) (fun c => absurd c (by decide)) (fun _ => ?_)
        exact J_23 s.heap locs ls   (lv_sub hl [0, 1, 2, 3] rfl)  hI hS
    · skip
      try simp only [rg, not_and, Int.not_le] at hp
      have hp641 := hp
      refine lv_if_eq (tgt := 23) hx hb dX12_sources_11 (by decide) (fun _ => ?_) (fun c => absurd c (by decide))
      exact J_23 s.heap locs ls   (lv_sub hl [0, 1, 2, 3] rfl)  hI hS
  · skip
    try simp only [rg, not_and, Int.not_le] at hp
    have hp642 := hp
    refine lv_if_eq (tgt := 23) hx hb dX12_sources_4 (by decide) (fun _ => ?_) (fun c => absurd c (by decide))
    exact J_23 s.heap locs ls   (lv_sub hl [0, 1, 2, 3] rfl)  hI hS
theorem dX12_boat_0 : decode cX12_boat 0 = .ok (.iload_n 1, 1) := by decide +kernel
theorem dX12_boat_1 : decode cX12_boat 1 = .ok (.invokestatic 118, 3) := by decide +kernel
theorem dX12_boat_4 : decode cX12_boat 4 = .ok (.ifCond .eq 10, 3) := by decide +kernel
theorem dX12_boat_7 : decode cX12_boat 7 = .ok (.iload_n 2, 1) := by decide +kernel
theorem dX12_boat_8 : decode cX12_boat 8 = .ok (.invokestatic 114, 3) := by decide +kernel
theorem dX12_boat_11 : decode cX12_boat 11 = .ok (.ifCond .ne 9, 3) := by decide +kernel
theorem dX12_boat_14 : decode cX12_boat 14 = .ok (.aload_n 0, 1) := by decide +kernel
theorem dX12_boat_15 : decode cX12_boat 15 = .ok (.iconst (-1), 1) := by decide +kernel
theorem dX12_boat_16 : decode cX12_boat 16 = .ok (.invokevirtual 107, 3) := by decide +kernel
theorem dX12_boat_19 : decode cX12_boat 19 = .ok (.ireturn, 1) := by decide +kernel
theorem dX12_boat_20 : decode cX12_boat 20 = .ok (.aload_n 0, 1) := by decide +kernel
theorem dX12_boat_21 : decode cX12_boat 21 = .ok (.getfield 20, 3) := by decide +kernel
theorem dX12_boat_24 : decode cX12_boat 24 = .ok (.sipush 310, 3) := by decide +kernel
theorem dX12_boat_27 : decode cX12_boat 27 = .ok (.iaload, 1) := by decide +kernel
theorem dX12_boat_28 : decode cX12_boat 28 = .ok (.bipush 6, 2) := by decide +kernel
theorem dX12_boat_30 : decode cX12_boat 30 = .ok (.if_icmp .ne 10, 3) := by decide +kernel
theorem dX12_boat_33 : decode cX12_boat 33 = .ok (.aload_n 0, 1) := by decide +kernel
theorem dX12_boat_34 : decode cX12_boat 34 = .ok (.bipush (-5), 2) := by decide +kernel
theorem dX12_boat_36 : decode cX12_boat 36 = .ok (.invokevirtual 107, 3) := by decide +kernel
theorem dX12_boat_39 : decode cX12_boat 39 = .ok (.ireturn, 1) := by decide +kernel
theorem dX12_boat_40 : decode cX12_boat 40 = .ok (.aload_n 0, 1) := by decide +kernel
theorem dX12_boat_41 : decode cX12_boat 41 = .ok (.aload_n 0, 1) := by decide +kernel
theorem dX12_boat_42 : decode cX12_boat 42 = .ok (.sipush 136, 3) := by decide +kernel
theorem dX12_boat_45 : decode cX12_boat 45 = .ok (.sipush 310, 3) := by decide +kernel
theorem dX12_boat_48 : decode cX12_boat 48 = .ok (.iconst 4, 1) := by decide +kernel
theorem dX12_boat_49 : decode cX12_boat 49 = .ok (.iload_n 1, 1) := by decide +kernel
theorem dX12_boat_50 : decode cX12_boat 50 = .ok (.iload_n 2, 1) := by decide +kernel
theorem dX12_boat_51 : decode cX12_boat 51 = .ok (.iconst 0, 1) := by decide +kernel
theorem dX12_boat_52 : decode cX12_boat 52 = .ok (.iconst (-1), 1) := by decide +kernel
theorem dX12_boat_53 : decode cX12_boat 53 = .ok (.invokevirtual 125, 3) := by decide +kernel
theorem dX12_boat_56 : decode cX12_boat 56 = .ok (.iconst 1, 1) := by decide +kernel
theorem dX12_boat_57 : decode cX12_boat 57 = .ok (.isub, 1) := by decide +kernel
theorem dX12_boat_58 : decode cX12_boat 58 = .ok (.invokevirtual 111, 3) := by decide +kernel
theorem dX12_boat_61 : decode cX12_boat 61 = .ok (.ireturn, 1) := by decide +kernel
set_option maxHeartbeats 4000000 in
set_option maxRecDepth 100000 in
theorem c_X12_boat (l : Launch) (E : Nat → Nat) (D : va_G) (G : th_G) (h0 : Nat) (hG0 : G h0 = some (10, 0)) (x1 : Int32) (x2 : Int32) : Met l yX12_boat (tb (.code yX12_boat cX12_boat 3 (some .int))) (rm 2) (va_Pc [.ref h0, .int x1, .int x2] (PX E D G (fun H => True))) (QXi E D G (fun r H => True)) 0 0 (th_A G) := by
  refine Met.ofW (cc := cX12_boat) (maxL := 3) (ret := (some .int)) (by decide) rfl ?_
  intro p e s m args below meth c s₁ B hml hv
  obtain ⟨hav, ⟨hI, hN, hK⟩, hX⟩ := hv
  have hx := B.exec
  have hb := B.bytes
  have hr := B.returns
  have hts := atoms_spec (ws := tb (.code yX12_boat cX12_boat 3 (some .int))) B.pre
  have hown : s.vm.findClass RX12 = some m.cls := findClass_of_methodNamed B.named
  have hlocks := B.notSynchronized
  have hS : va_S (th_A G) s.heap s.heap [] := va_S.rf
  have hl := lv_entry ([.ref h0, .int x1, .int x2]) (n := 3) (Nat.le_of_ble_eq_true rfl)
  rw [show entryFrame m args 3 = entryFrame m ([.ref h0, .int x1, .int x2] : List Value).toArray 3 from by rw [hav], lg_entry_eq]
  generalize (lg_sl ([.ref h0, .int x1, .int x2]) ++ List.replicate (3 - (lg_sl ([.ref h0, .int x1, .int x2])).length) Slot.unset).toArray = ls at hl ⊢
  have hl : lv_has ls 3 [(0, .ref h0), (1, .int x1), (2, .int x2)] := hl
  generalize hR : (headSpec (tb (.code yX12_boat cX12_boat 3 (some .int))) (rm 2)).room = R
  have hR := hR.symm
  generalize hQ : MQ below (QXi E D G (fun r H => True)) args s 0 0 (th_A G) = QF
  have hQ := hQ.symm
  have J_14 : ∀ (H : Heap) (locs : List Loc) (ls : Array Slot)  , lv_has ls 3 [(0, .ref h0), (1, .int x1), (2, .int x2)] → th_I (okM E) D G [] H → va_S (th_A G) s.heap H locs → W p l e R s m args below meth c H locs 0 0 QF (F0 m 14 ls []) := by
    intro H locs ls   hl  hI hS
    refine lv_aload_n hx hb dX12_boat_14 rfl (lv_at hl 0 rfl) ?_
    refine lv_iconst (v := (-1)) hx hb dX12_boat_15 (by decide) ?_
    refine mx_i (As := [.int (-1)]) (rest := []) (n := 1) (d := 0) ⟨hx, hb, hml, hown, hts⟩ (c_X12_refuses l E D G h0 hG0 (-1) ⟨by decide, by decide⟩) wd_1398 wd_1400 wp_40 wd_13 wd_1401 (by decide +kernel) ⟨by rw [hR]; exact Nat.le_of_ble_eq_true rfl, by rw [hR]; exact Nat.le_of_ble_eq_true rfl⟩ hI hN hK hS hG0 (trivial) rfl hl.1 rfl (Nat.le_of_ble_eq_true rfl) dX12_boat_16 ⟨Nat.zero_le _, Nat.zero_le _⟩ (fun r192 H locs hI hp hS => ?_)
    obtain rfl := hp.symm
    have hpost : True := trivial
    rw [hQ]
    exact W.iret (v := (-1)) hx hb hr (fun t ht hW => ⟨⟨(-1), (-1), rfl, rfl, ⟨by rw [ht]; exact hI, hN.warm hW, va_K.moved hW.alike hK⟩, by first | (rw [ht]; exact hpost) | exact hpost⟩, hS.F ht⟩) hS.2.2 dX12_boat_19
  refine lv_iload_n hx hb dX12_boat_0 rfl (lv_at hl 1 rfl) ?_
  refine th_cSs (As := [.int x1]) (rest := []) (n := 1) (d := 1) ⟨hx, hb, hml, hown, hts⟩ (c_X12_isCell l s.heap x1) wd_1414 wd_1415 wd_13 wd_1416 (by decide +kernel) ⟨by rw [hR]; exact Nat.le_of_ble_eq_true rfl, by rw [hR]; exact Nat.le_of_ble_eq_true rfl⟩ hN hS rfl hl.1 rfl (Nat.le_of_ble_eq_true rfl) dX12_boat_1 ⟨Nat.zero_le _, Nat.zero_le _⟩ (fun r193 locs hp hS => ?_)
  rcases hp with ⟨rfl, hp⟩ | ⟨rfl, hp⟩
  · skip
    try simp only [rg, not_and, Int.not_le] at hp
    have hp194 := hp
    refine lv_if_eq (tgt := 14) hx hb dX12_boat_4 (by decide) (fun c => absurd c (by decide)) (fun _ => ?_)
    refine lv_iload_n hx hb dX12_boat_7 rfl (lv_at hl 2 rfl) ?_
    refine th_cSs (As := [.int x2]) (rest := []) (n := 1) (d := 1) ⟨hx, hb, hml, hown, hts⟩ (c_X12_isHour l s.heap x2) wd_1428 wd_1429 wd_13 wd_1430 (by decide +kernel) ⟨by rw [hR]; exact Nat.le_of_ble_eq_true rfl, by rw [hR]; exact Nat.le_of_ble_eq_true rfl⟩ hN hS rfl hl.1 rfl (Nat.le_of_ble_eq_true rfl) dX12_boat_8 ⟨Nat.zero_le _, Nat.zero_le _⟩ (fun r195 locs hp hS => ?_)
    rcases hp with ⟨rfl, hp⟩ | ⟨rfl, hp⟩
    · skip
      try simp only [rg, not_and, Int.not_le] at hp
      have hp196 := hp
      refine lv_if_ne (tgt := 20) hx hb dX12_boat_11 (by decide) (fun _ => ?_) (fun c => absurd c (by decide))
      refine lv_aload_n hx hb dX12_boat_20 rfl (lv_at hl 0 rfl) ?_
      refine gmA hx hb hts inT12 hown hK hI List.not_mem_nil hG0 3 (by decide) (hts _ (tb_c wd_1236)) rfl rfl dX12_boat_21 (fun a197 hq198 hf199 => ?_)
      refine lv_sipush (v := 310) hx hb dX12_boat_24 (by decide) ?_
      obtain ⟨F200, hA201, hP202⟩ := om_1 hI hq198 List.not_mem_nil
      refine th_iald hx hb hK hA201 0 rfl (iv_in (X := (310)) (by decide) (by omega) (by omega)) dX12_boat_27 (fun v203 e204 => ?_)
      have k205 := kg_m310 (kOk.get (i := 310) hP202 e204 (X := (310)) (by decide) (by omega) (by omega)) (by omega) (by omega) (by omega)
      refine lv_bipush (v := 6) hx hb dX12_boat_28 (by decide) ?_
      refine lv_icmp_ne (tgt := 40) hx hb dX12_boat_30 (by decide) (fun c206 => ?_) (fun c206 => ?_)
      · skip
        have k207 := iv_ne (X := v203.toInt) (Y := (6)) rfl (by decide) c206
        refine lv_aload_n hx hb dX12_boat_40 rfl (lv_at hl 0 rfl) ?_
        refine lv_aload_n hx hb dX12_boat_41 rfl (lv_at hl 0 rfl) ?_
        refine lv_sipush (v := 136) hx hb dX12_boat_42 (by decide) ?_
        refine lv_sipush (v := 310) hx hb dX12_boat_45 (by decide) ?_
        refine lv_iconst (v := 4) hx hb dX12_boat_48 (by decide) ?_
        refine lv_iload_n hx hb dX12_boat_49 rfl (lv_at hl 1 rfl) ?_
        refine lv_iload_n hx hb dX12_boat_50 rfl (lv_at hl 2 rfl) ?_
        refine lv_iconst (v := 0) hx hb dX12_boat_51 (by decide) ?_
        refine lv_iconst (v := (-1)) hx hb dX12_boat_52 (by decide) ?_
        refine mx_i (As := [.int 136, .int 310, .int 4, .int x1, .int x2, .int 0, .int (-1)]) (rest := [.ref h0]) (n := 7) (d := 0) ⟨hx, hb, hml, hown, hts⟩ (c_X12_comesBehind_310 l E D G h0 hG0 x1 x2 0 (-1) ⟨by omega, by omega⟩ ⟨by omega, by omega⟩ F200 hP202 (lt_of_rd e204 rfl (by omega))) wd_1435 wd_1437 wp_42 wd_13 wd_1438 (by decide +kernel) ⟨by rw [hR]; exact Nat.le_of_ble_eq_true rfl, by rw [hR]; exact Nat.le_of_ble_eq_true rfl⟩ hI hN hK hS hG0 (⟨a197, hf199, hq198, hA201⟩) rfl hl.1 rfl (Nat.le_of_ble_eq_true rfl) dX12_boat_53 ⟨Nat.zero_le _, Nat.zero_le _⟩ (fun r208 H locs hI hp hS => ?_)
        refine lv_iconst (v := 1) hx hb dX12_boat_56 (by decide) ?_
        refine lv_isub hx hb dX12_boat_57 ?_
        refine lv_topi (fun v209 e210 => ?_)
        try have tv209 : v209.toInt = r208.toInt - (1) := iv_sub rfl (by decide) e210 (by omega) (by omega)
        refine mx_i (As := [.int v209]) (rest := []) (n := 1) (d := 0) ⟨hx, hb, hml, hown, hts⟩ (c_X12_good l E D G h0 hG0 v209) wd_1402 wd_1404 wp_41 wd_13 wd_1405 (by decide +kernel) ⟨by rw [hR]; exact Nat.le_of_ble_eq_true rfl, by rw [hR]; exact Nat.le_of_ble_eq_true rfl⟩ hI hN hK hS hG0 (trivial) rfl hl.1 rfl (Nat.le_of_ble_eq_true rfl) dX12_boat_58 ⟨Nat.zero_le _, Nat.zero_le _⟩ (fun r211 H locs hI hp hS => ?_)
        obtain rfl := hp.symm
        have hpost : True := trivial
        rw [hQ]
        exact W.iret (v := v209) hx hb hr (fun t ht hW => ⟨⟨v209, v209, rfl, rfl, ⟨by rw [ht]; exact hI, hN.warm hW, va_K.moved hW.alike hK⟩, by first | (rw [ht]; exact hpost) | exact hpost⟩, hS.F ht⟩) hS.2.2 dX12_boat_61
      · skip
        have k212 := iv_eq (X := v203.toInt) (Y := (6)) rfl (by decide) c206
        refine lv_aload_n hx hb dX12_boat_33 rfl (lv_at hl 0 rfl) ?_
        refine lv_bipush (v := (-5)) hx hb dX12_boat_34 (by decide) ?_
        refine mx_i (As := [.int (-5)]) (rest := []) (n := 1) (d := 0) ⟨hx, hb, hml, hown, hts⟩ (c_X12_refuses l E D G h0 hG0 (-5) ⟨by decide, by decide⟩) wd_1398 wd_1400 wp_40 wd_13 wd_1401 (by decide +kernel) ⟨by rw [hR]; exact Nat.le_of_ble_eq_true rfl, by rw [hR]; exact Nat.le_of_ble_eq_true rfl⟩ hI hN hK hS hG0 (trivial) rfl hl.1 rfl (Nat.le_of_ble_eq_true rfl) dX12_boat_36 ⟨Nat.zero_le _, Nat.zero_le _⟩ (fun r213 H locs hI hp hS => ?_)
        obtain rfl := hp.symm
        have hpost : True := trivial
        rw [hQ]
        exact W.iret (v := (-5)) hx hb hr (fun t ht hW => ⟨⟨(-5), (-5), rfl, rfl, ⟨by rw [ht]; exact hI, hN.warm hW, va_K.moved hW.alike hK⟩, by first | (rw [ht]; exact hpost) | exact hpost⟩, hS.F ht⟩) hS.2.2 dX12_boat_39
    · skip
      try simp only [rg, not_and, Int.not_le] at hp
      have hp214 := hp
      refine lv_if_ne (tgt := 20) hx hb dX12_boat_11 (by decide) (fun c => absurd c (by decide)) (fun _ => ?_)
      exact J_14 s.heap locs ls   (lv_sub hl [0, 1, 2] rfl)  hI hS
  · skip
    try simp only [rg, not_and, Int.not_le] at hp
    have hp215 := hp
    refine lv_if_eq (tgt := 14) hx hb dX12_boat_4 (by decide) (fun _ => ?_) (fun c => absurd c (by decide))
    exact J_14 s.heap locs ls   (lv_sub hl [0, 1, 2] rfl)  hI hS
theorem dX12_isBoat_0 : decode cX12_isBoat 0 = .ok (.iload_n 1, 1) := by decide +kernel
theorem dX12_isBoat_1 : decode cX12_isBoat 1 = .ok (.iconst 0, 1) := by decide +kernel
theorem dX12_isBoat_2 : decode cX12_isBoat 2 = .ok (.aload_n 0, 1) := by decide +kernel
theorem dX12_isBoat_3 : decode cX12_isBoat 3 = .ok (.getfield 20, 3) := by decide +kernel
theorem dX12_isBoat_6 : decode cX12_isBoat 6 = .ok (.sipush 310, 3) := by decide +kernel
theorem dX12_isBoat_9 : decode cX12_isBoat 9 = .ok (.iaload, 1) := by decide +kernel
theorem dX12_isBoat_10 : decode cX12_isBoat 10 = .ok (.iconst 1, 1) := by decide +kernel
theorem dX12_isBoat_11 : decode cX12_isBoat 11 = .ok (.isub, 1) := by decide +kernel
theorem dX12_isBoat_12 : decode cX12_isBoat 12 = .ok (.invokestatic 103, 3) := by decide +kernel
theorem dX12_isBoat_15 : decode cX12_isBoat 15 = .ok (.ireturn, 1) := by decide +kernel
set_option maxHeartbeats 4000000 in
set_option maxRecDepth 100000 in
theorem c_X12_isBoat (l : Launch) (E : Nat → Nat) (D : va_G) (G : th_G) (H0 : Heap) (h0 : Nat) (hG0 : G h0 = some (10, 0)) (x1 : Int32) : Met l yX12_isBoat (tb (.code yX12_isBoat cX12_isBoat 2 (some .boolean))) (rm 1) (va_Pc [.ref h0, .int x1] (PR E D G H0)) (QS H0 (fun r => ((r : Int32) = 1 ∧ (0 ≤ x1.toInt ∧ x1.toInt ≤ 5)) ∨ ((r : Int32) = 0 ∧ True))) 0 0 (fun _ => False) := by
  refine Met.ofW (cc := cX12_isBoat) (maxL := 2) (ret := (some .boolean)) (by decide) rfl ?_
  intro p e s m args below meth c s₁ B hml hv
  obtain ⟨hav, rfl, hI, hN, hK⟩ := hv
  have hx := B.exec
  have hb := B.bytes
  have hr := B.returns
  have hts := atoms_spec (ws := tb (.code yX12_isBoat cX12_isBoat 2 (some .boolean))) B.pre
  have hown : s.vm.findClass RX12 = some m.cls := findClass_of_methodNamed B.named
  have hlocks := B.notSynchronized
  have hS : va_S (fun _ => False) s.heap s.heap [] := va_S.rf
  have hl := lv_entry ([.ref h0, .int x1]) (n := 2) (Nat.le_of_ble_eq_true rfl)
  rw [show entryFrame m args 2 = entryFrame m ([.ref h0, .int x1] : List Value).toArray 2 from by rw [hav], lg_entry_eq]
  generalize (lg_sl ([.ref h0, .int x1]) ++ List.replicate (2 - (lg_sl ([.ref h0, .int x1])).length) Slot.unset).toArray = ls at hl ⊢
  have hl : lv_has ls 2 [(0, .ref h0), (1, .int x1)] := hl
  generalize hR : (headSpec (tb (.code yX12_isBoat cX12_isBoat 2 (some .boolean))) (rm 1)).room = R
  have hR := hR.symm
  generalize hQ : MQ below (QS s.heap (fun r => ((r : Int32) = 1 ∧ (0 ≤ x1.toInt ∧ x1.toInt ≤ 5)) ∨ ((r : Int32) = 0 ∧ True))) args s 0 0 (fun _ => False) = QF
  have hQ := hQ.symm
  obtain ⟨q_3, hq_3, hf_3⟩ := fr_of hI hG0 3 (by decide) (kd := (1, 5123)) rfl
  obtain ⟨F_3, hA_3, hP_3⟩ := om_1 hI hq_3 List.not_mem_nil
  refine lv_iload_n hx hb dX12_isBoat_0 rfl (lv_at hl 1 rfl) ?_
  refine lv_iconst (v := 0) hx hb dX12_isBoat_1 (by decide) ?_
  refine lv_aload_n hx hb dX12_isBoat_2 rfl (lv_at hl 0 rfl) ?_
  refine gmA hx hb hts inT12 hown hK hI List.not_mem_nil hG0 3 (by decide) (hts _ (tb_c wd_1236)) rfl rfl dX12_isBoat_3 (fun a1 hq2 hf3 => ?_)
  obtain rfl := fr.uniq (by decide) hf_3 hf3
  refine lv_sipush (v := 310) hx hb dX12_isBoat_6 (by decide) ?_
  refine th_iald hx hb hK hA_3 0 rfl (iv_in (X := (310)) (by decide) (by omega) (by omega)) dX12_isBoat_9 (fun v4 e5 => ?_)
  have k6 := kg_m310 (kOk.get (i := 310) hP_3 e5 (X := (310)) (by decide) (by omega) (by omega)) (by omega) (by omega) (by omega)
  refine lv_iconst (v := 1) hx hb dX12_isBoat_10 (by decide) ?_
  refine lv_isub hx hb dX12_isBoat_11 ?_
  refine lv_topi (fun v7 e8 => ?_)
  have tv7 : v7.toInt = v4.toInt - (1) := iv_sub rfl (by decide) e8 (by omega) (by omega)
  refine th_cSs (As := [.int x1, .int 0, .int v7]) (rest := []) (n := 3) (d := 0) ⟨hx, hb, hml, hown, hts⟩ (c_X12_lies l s.heap x1 0 v7) wd_1395 wd_1396 wd_13 wd_1397 (by decide +kernel) ⟨by rw [hR]; exact Nat.le_of_ble_eq_true rfl, by rw [hR]; exact Nat.le_of_ble_eq_true rfl⟩ hN hS rfl hl.1 rfl (Nat.le_of_ble_eq_true rfl) dX12_isBoat_12 ⟨Nat.zero_le _, Nat.zero_le _⟩ (fun r9 locs hp hS => ?_)
  rcases hp with ⟨rfl, hp⟩ | ⟨rfl, hp⟩
  · skip
    try simp only [rg, not_and, Int.not_le] at hp
    have hp10 := hp
    try rw [show (0 : Int32).toInt = 0 from by decide] at hp10
    have hpost : ((1 : Int32) = 1 ∧ (0 ≤ x1.toInt ∧ x1.toInt ≤ 5)) ∨ ((1 : Int32) = 0 ∧ True) := by first | exact Or.inl ⟨rfl, by omega⟩ | exact Or.inr ⟨rfl, trivial⟩
    rw [hQ]
    exact W.zret (v := 1) hx hb hr (by decide) (fun t ht hW => ⟨⟨1, (), rfl, hpost, ht⟩, hS.F ht⟩) hS.2.2 dX12_isBoat_15
  · skip
    try simp only [rg, not_and, Int.not_le] at hp
    have hp11 := hp
    try rw [show (0 : Int32).toInt = 0 from by decide] at hp11
    have hpost : ((0 : Int32) = 1 ∧ (0 ≤ x1.toInt ∧ x1.toInt ≤ 5)) ∨ ((0 : Int32) = 0 ∧ True) := by first | exact Or.inl ⟨rfl, by omega⟩ | exact Or.inr ⟨rfl, trivial⟩
    rw [hQ]
    exact W.zret (v := 0) hx hb hr (by decide) (fun t ht hW => ⟨⟨0, (), rfl, hpost, ht⟩, hS.F ht⟩) hS.2.2 dX12_isBoat_15
theorem dX12_moor_0 : decode cX12_moor 0 = .ok (.iload_n 2, 1) := by decide +kernel
theorem dX12_moor_1 : decode cX12_moor 1 = .ok (.iload_n 3, 1) := by decide +kernel
theorem dX12_moor_2 : decode cX12_moor 2 = .ok (.invokestatic 121, 3) := by decide +kernel
theorem dX12_moor_5 : decode cX12_moor 5 = .ok (.ifCond .ne 9, 3) := by decide +kernel
theorem dX12_moor_8 : decode cX12_moor 8 = .ok (.aload_n 0, 1) := by decide +kernel
theorem dX12_moor_9 : decode cX12_moor 9 = .ok (.iconst (-1), 1) := by decide +kernel
theorem dX12_moor_10 : decode cX12_moor 10 = .ok (.invokevirtual 107, 3) := by decide +kernel
theorem dX12_moor_13 : decode cX12_moor 13 = .ok (.ireturn, 1) := by decide +kernel
theorem dX12_moor_14 : decode cX12_moor 14 = .ok (.aload_n 0, 1) := by decide +kernel
theorem dX12_moor_15 : decode cX12_moor 15 = .ok (.iload_n 1, 1) := by decide +kernel
theorem dX12_moor_16 : decode cX12_moor 16 = .ok (.invokevirtual 307, 3) := by decide +kernel
theorem dX12_moor_19 : decode cX12_moor 19 = .ok (.ifCond .ne 10, 3) := by decide +kernel
theorem dX12_moor_22 : decode cX12_moor 22 = .ok (.aload_n 0, 1) := by decide +kernel
theorem dX12_moor_23 : decode cX12_moor 23 = .ok (.bipush (-2), 2) := by decide +kernel
theorem dX12_moor_25 : decode cX12_moor 25 = .ok (.invokevirtual 107, 3) := by decide +kernel
theorem dX12_moor_28 : decode cX12_moor 28 = .ok (.ireturn, 1) := by decide +kernel
theorem dX12_moor_29 : decode cX12_moor 29 = .ok (.aload_n 0, 1) := by decide +kernel
theorem dX12_moor_30 : decode cX12_moor 30 = .ok (.getfield 20, 3) := by decide +kernel
theorem dX12_moor_33 : decode cX12_moor 33 = .ok (.sipush 136, 3) := by decide +kernel
theorem dX12_moor_36 : decode cX12_moor 36 = .ok (.iconst 4, 1) := by decide +kernel
theorem dX12_moor_37 : decode cX12_moor 37 = .ok (.iload_n 1, 1) := by decide +kernel
theorem dX12_moor_38 : decode cX12_moor 38 = .ok (.imul, 1) := by decide +kernel
theorem dX12_moor_39 : decode cX12_moor 39 = .ok (.iadd, 1) := by decide +kernel
theorem dX12_moor_40 : decode cX12_moor 40 = .ok (.iconst 2, 1) := by decide +kernel
theorem dX12_moor_41 : decode cX12_moor 41 = .ok (.iadd, 1) := by decide +kernel
theorem dX12_moor_42 : decode cX12_moor 42 = .ok (.iload_n 2, 1) := by decide +kernel
theorem dX12_moor_43 : decode cX12_moor 43 = .ok (.iastore, 1) := by decide +kernel
theorem dX12_moor_44 : decode cX12_moor 44 = .ok (.aload_n 0, 1) := by decide +kernel
theorem dX12_moor_45 : decode cX12_moor 45 = .ok (.getfield 20, 3) := by decide +kernel
theorem dX12_moor_48 : decode cX12_moor 48 = .ok (.sipush 136, 3) := by decide +kernel
theorem dX12_moor_51 : decode cX12_moor 51 = .ok (.iconst 4, 1) := by decide +kernel
theorem dX12_moor_52 : decode cX12_moor 52 = .ok (.iload_n 1, 1) := by decide +kernel
theorem dX12_moor_53 : decode cX12_moor 53 = .ok (.imul, 1) := by decide +kernel
theorem dX12_moor_54 : decode cX12_moor 54 = .ok (.iadd, 1) := by decide +kernel
theorem dX12_moor_55 : decode cX12_moor 55 = .ok (.iconst 3, 1) := by decide +kernel
theorem dX12_moor_56 : decode cX12_moor 56 = .ok (.iadd, 1) := by decide +kernel
theorem dX12_moor_57 : decode cX12_moor 57 = .ok (.iload_n 3, 1) := by decide +kernel
theorem dX12_moor_58 : decode cX12_moor 58 = .ok (.iastore, 1) := by decide +kernel
theorem dX12_moor_59 : decode cX12_moor 59 = .ok (.aload_n 0, 1) := by decide +kernel
theorem dX12_moor_60 : decode cX12_moor 60 = .ok (.iconst 0, 1) := by decide +kernel
theorem dX12_moor_61 : decode cX12_moor 61 = .ok (.invokevirtual 111, 3) := by decide +kernel
theorem dX12_moor_64 : decode cX12_moor 64 = .ok (.ireturn, 1) := by decide +kernel
set_option maxHeartbeats 4000000 in
set_option maxRecDepth 100000 in
theorem c_X12_moor (l : Launch) (E : Nat → Nat) (D : va_G) (G : th_G) (h0 : Nat) (hG0 : G h0 = some (10, 0)) (x1 : Int32) (x2 : Int32) (x3 : Int32) : Met l yX12_moor (tb (.code yX12_moor cX12_moor 4 (some .int))) (rm 3) (va_Pc [.ref h0, .int x1, .int x2, .int x3] (PX E D G (fun H => True))) (QXi E D G (fun r H => True)) 0 0 (th_A G) := by
  refine Met.ofW (cc := cX12_moor) (maxL := 4) (ret := (some .int)) (by decide) rfl ?_
  intro p e s m args below meth c s₁ B hml hv
  obtain ⟨hav, ⟨hI, hN, hK⟩, hX⟩ := hv
  have hx := B.exec
  have hb := B.bytes
  have hr := B.returns
  have hts := atoms_spec (ws := tb (.code yX12_moor cX12_moor 4 (some .int))) B.pre
  have hown : s.vm.findClass RX12 = some m.cls := findClass_of_methodNamed B.named
  have hlocks := B.notSynchronized
  have hS : va_S (th_A G) s.heap s.heap [] := va_S.rf
  have hl := lv_entry ([.ref h0, .int x1, .int x2, .int x3]) (n := 4) (Nat.le_of_ble_eq_true rfl)
  rw [show entryFrame m args 4 = entryFrame m ([.ref h0, .int x1, .int x2, .int x3] : List Value).toArray 4 from by rw [hav], lg_entry_eq]
  generalize (lg_sl ([.ref h0, .int x1, .int x2, .int x3]) ++ List.replicate (4 - (lg_sl ([.ref h0, .int x1, .int x2, .int x3])).length) Slot.unset).toArray = ls at hl ⊢
  have hl : lv_has ls 4 [(0, .ref h0), (1, .int x1), (2, .int x2), (3, .int x3)] := hl
  generalize hR : (headSpec (tb (.code yX12_moor cX12_moor 4 (some .int))) (rm 3)).room = R
  have hR := hR.symm
  generalize hQ : MQ below (QXi E D G (fun r H => True)) args s 0 0 (th_A G) = QF
  have hQ := hQ.symm
  refine lv_iload_n hx hb dX12_moor_0 rfl (lv_at hl 2 rfl) ?_
  refine lv_iload_n hx hb dX12_moor_1 rfl (lv_at hl 3 rfl) ?_
  refine th_cSs (As := [.int x2, .int x3]) (rest := []) (n := 2) (d := 2) ⟨hx, hb, hml, hown, hts⟩ (c_X12_areHours l s.heap x2 x3) wd_1425 wd_1426 wd_13 wd_1427 (by decide +kernel) ⟨by rw [hR]; exact Nat.le_of_ble_eq_true rfl, by rw [hR]; exact Nat.le_of_ble_eq_true rfl⟩ hN hS rfl hl.1 rfl (Nat.le_of_ble_eq_true rfl) dX12_moor_2 ⟨Nat.zero_le _, Nat.zero_le _⟩ (fun r1 locs hp hS => ?_)
  rcases hp with ⟨rfl, hp⟩ | ⟨rfl, hp⟩
  · skip
    try simp only [rg, not_and, Int.not_le] at hp
    have hp2 := hp
    refine lv_if_ne (tgt := 14) hx hb dX12_moor_5 (by decide) (fun _ => ?_) (fun c => absurd c (by decide))
    refine lv_aload_n hx hb dX12_moor_14 rfl (lv_at hl 0 rfl) ?_
    refine lv_iload_n hx hb dX12_moor_15 rfl (lv_at hl 1 rfl) ?_
    refine mr_i (As := [.int x1]) (rest := []) (n := 1) (d := 1) ⟨hx, hb, hml, hown, hts⟩ (c_X12_isBoat l E D G s.heap h0 hG0 x1) wd_1681 wd_1683 wp_78 wd_13 wd_1684 (by decide +kernel) ⟨by rw [hR]; exact Nat.le_of_ble_eq_true rfl, by rw [hR]; exact Nat.le_of_ble_eq_true rfl⟩ hI hN hK hS hG0 rfl hl.1 rfl (Nat.le_of_ble_eq_true rfl) dX12_moor_16 ⟨Nat.zero_le _, Nat.zero_le _⟩ (fun r3 locs hp hS => ?_)
    rcases hp with ⟨rfl, hp⟩ | ⟨rfl, hp⟩
    · skip
      try simp only [rg, not_and, Int.not_le] at hp
      have hp4 := hp
      refine lv_if_ne (tgt := 29) hx hb dX12_moor_19 (by decide) (fun _ => ?_) (fun c => absurd c (by decide))
      refine lv_aload_n hx hb dX12_moor_29 rfl (lv_at hl 0 rfl) ?_
      refine gmA hx hb hts inT12 hown hK hI List.not_mem_nil hG0 3 (by decide) (hts _ (tb_c wd_1236)) rfl rfl dX12_moor_30 (fun a5 hq6 hf7 => ?_)
      refine lv_sipush (v := 136) hx hb dX12_moor_33 (by decide) ?_
      refine lv_iconst (v := 4) hx hb dX12_moor_36 (by decide) ?_
      refine lv_iload_n hx hb dX12_moor_37 rfl (lv_at hl 1 rfl) ?_
      refine lv_imul hx hb dX12_moor_38 ?_
      refine lv_topi (fun v8 e9 => ?_)
      have tv8 : v8.toInt = (4) * x1.toInt := iv_mul (by decide) rfl e9 (by omega) (by omega)
      refine lv_iadd hx hb dX12_moor_39 ?_
      refine lv_topi (fun v10 e11 => ?_)
      have tv10 : v10.toInt = (136) + v8.toInt := iv_add (by decide) rfl e11 (by omega) (by omega)
      refine lv_iconst (v := 2) hx hb dX12_moor_40 (by decide) ?_
      refine lv_iadd hx hb dX12_moor_41 ?_
      refine lv_topi (fun v12 e13 => ?_)
      have tv12 : v12.toInt = v10.toInt + (2) := iv_add rfl (by decide) e13 (by omega) (by omega)
      refine lv_iload_n hx hb dX12_moor_42 rfl (lv_at hl 2 rfl) ?_
      obtain ⟨F14, hA15, hP16⟩ := om_1 hI hq6 List.not_mem_nil
      refine th_iast hx hb hK hA15 0 rfl hS ⟨_, hq6⟩ (iv_in (X := v12.toInt) rfl (by omega) (by omega)) dX12_moor_43 (fun H locs hA17 oq hS => ?_)
      have hP18 := kOk.set (i := v12) (v := x2) hP16 (X := v12.toInt) (V := x2.toInt) rfl rfl (by omega) (by omega) (ks_boat2 (by omega) (by omega) (by omega))
      have hI := th_I.put hI hq6 hA17 (ok_m1 hP18) oq
      have hf7 := fr.arr hG0 hq6 (by decide) oq hf7
      have e19 : x2 = (upd F14 (v12 : Int32).toNatClampNeg x2) (v12 : Int32).toNatClampNeg := rd_us
      refine lv_aload_n hx hb dX12_moor_44 rfl (lv_at hl 0 rfl) ?_
      refine gmA hx hb hts inT12 hown hK hI List.not_mem_nil hG0 3 (by decide) (hts _ (tb_c wd_1236)) rfl rfl dX12_moor_45 (fun a20 hq21 hf22 => ?_)
      obtain rfl := fr.uniq (by decide) hf7 hf22
      refine lv_sipush (v := 136) hx hb dX12_moor_48 (by decide) ?_
      refine lv_iconst (v := 4) hx hb dX12_moor_51 (by decide) ?_
      refine lv_iload_n hx hb dX12_moor_52 rfl (lv_at hl 1 rfl) ?_
      refine lv_imul hx hb dX12_moor_53 ?_
      refine lv_topi (fun v23 e24 => ?_)
      have tv23 : v23.toInt = (4) * x1.toInt := iv_mul (by decide) rfl e24 (by omega) (by omega)
      refine lv_iadd hx hb dX12_moor_54 ?_
      refine lv_topi (fun v25 e26 => ?_)
      have tv25 : v25.toInt = (136) + v23.toInt := iv_add (by decide) rfl e26 (by omega) (by omega)
      refine lv_iconst (v := 3) hx hb dX12_moor_55 (by decide) ?_
      refine lv_iadd hx hb dX12_moor_56 ?_
      refine lv_topi (fun v27 e28 => ?_)
      have tv27 : v27.toInt = v25.toInt + (3) := iv_add rfl (by decide) e28 (by omega) (by omega)
      refine lv_iload_n hx hb dX12_moor_57 rfl (lv_at hl 3 rfl) ?_
      refine th_iast hx hb hK hA17 0 rfl hS ⟨_, hq6⟩ (iv_in (X := v27.toInt) rfl (by omega) (by omega)) dX12_moor_58 (fun H locs hA29 oq hS => ?_)
      have hP30 := kOk.set (i := v27) (v := x3) hP18 (X := v27.toInt) (V := x3.toInt) rfl rfl (by omega) (by omega) (ks_boat3 (by omega) (by omega) (by omega))
      have hI := th_I.put hI hq6 hA29 (ok_m1 hP30) oq
      have hf7 := fr.arr hG0 hq6 (by decide) oq hf7
      have e31 := rd_un (i := v12) (j := v27) (v := x3) e19 (X := v12.toInt) (Y := v27.toInt) rfl rfl (by omega) (by omega) (by omega)
      have e32 : x3 = (upd (upd F14 (v12 : Int32).toNatClampNeg x2) (v27 : Int32).toNatClampNeg x3) (v27 : Int32).toNatClampNeg := rd_us
      refine lv_aload_n hx hb dX12_moor_59 rfl (lv_at hl 0 rfl) ?_
      refine lv_iconst (v := 0) hx hb dX12_moor_60 (by decide) ?_
      refine mx_i (As := [.int 0]) (rest := []) (n := 1) (d := 0) ⟨hx, hb, hml, hown, hts⟩ (c_X12_good l E D G h0 hG0 0) wd_1402 wd_1404 wp_41 wd_13 wd_1405 (by decide +kernel) ⟨by rw [hR]; exact Nat.le_of_ble_eq_true rfl, by rw [hR]; exact Nat.le_of_ble_eq_true rfl⟩ hI hN hK hS hG0 (trivial) rfl hl.1 rfl (Nat.le_of_ble_eq_true rfl) dX12_moor_61 ⟨Nat.zero_le _, Nat.zero_le _⟩ (fun r33 H locs hI hp hS => ?_)
      obtain rfl := hp.symm
      have hpost : True := trivial
      rw [hQ]
      exact W.iret (v := 0) hx hb hr (fun t ht hW => ⟨⟨0, 0, rfl, rfl, ⟨by rw [ht]; exact hI, hN.warm hW, va_K.moved hW.alike hK⟩, by first | (rw [ht]; exact hpost) | exact hpost⟩, hS.F ht⟩) hS.2.2 dX12_moor_64
    · skip
      try simp only [rg, not_and, Int.not_le] at hp
      have hp34 := hp
      refine lv_if_ne (tgt := 29) hx hb dX12_moor_19 (by decide) (fun c => absurd c (by decide)) (fun _ => ?_)
      refine lv_aload_n hx hb dX12_moor_22 rfl (lv_at hl 0 rfl) ?_
      refine lv_bipush (v := (-2)) hx hb dX12_moor_23 (by decide) ?_
      refine mx_i (As := [.int (-2)]) (rest := []) (n := 1) (d := 0) ⟨hx, hb, hml, hown, hts⟩ (c_X12_refuses l E D G h0 hG0 (-2) ⟨by decide, by decide⟩) wd_1398 wd_1400 wp_40 wd_13 wd_1401 (by decide +kernel) ⟨by rw [hR]; exact Nat.le_of_ble_eq_true rfl, by rw [hR]; exact Nat.le_of_ble_eq_true rfl⟩ hI hN hK hS hG0 (trivial) rfl hl.1 rfl (Nat.le_of_ble_eq_true rfl) dX12_moor_25 ⟨Nat.zero_le _, Nat.zero_le _⟩ (fun r35 H locs hI hp hS => ?_)
      obtain rfl := hp.symm
      have hpost : True := trivial
      rw [hQ]
      exact W.iret (v := (-2)) hx hb hr (fun t ht hW => ⟨⟨(-2), (-2), rfl, rfl, ⟨by rw [ht]; exact hI, hN.warm hW, va_K.moved hW.alike hK⟩, by first | (rw [ht]; exact hpost) | exact hpost⟩, hS.F ht⟩) hS.2.2 dX12_moor_28
  · skip
    try simp only [rg, not_and, Int.not_le] at hp
    have hp36 := hp
    refine lv_if_ne (tgt := 14) hx hb dX12_moor_5 (by decide) (fun c => absurd c (by decide)) (fun _ => ?_)
    refine lv_aload_n hx hb dX12_moor_8 rfl (lv_at hl 0 rfl) ?_
    refine lv_iconst (v := (-1)) hx hb dX12_moor_9 (by decide) ?_
    refine mx_i (As := [.int (-1)]) (rest := []) (n := 1) (d := 0) ⟨hx, hb, hml, hown, hts⟩ (c_X12_refuses l E D G h0 hG0 (-1) ⟨by decide, by decide⟩) wd_1398 wd_1400 wp_40 wd_13 wd_1401 (by decide +kernel) ⟨by rw [hR]; exact Nat.le_of_ble_eq_true rfl, by rw [hR]; exact Nat.le_of_ble_eq_true rfl⟩ hI hN hK hS hG0 (trivial) rfl hl.1 rfl (Nat.le_of_ble_eq_true rfl) dX12_moor_10 ⟨Nat.zero_le _, Nat.zero_le _⟩ (fun r37 H locs hI hp hS => ?_)
    obtain rfl := hp.symm
    have hpost : True := trivial
    rw [hQ]
    exact W.iret (v := (-1)) hx hb hr (fun t ht hW => ⟨⟨(-1), (-1), rfl, rfl, ⟨by rw [ht]; exact hI, hN.warm hW, va_K.moved hW.alike hK⟩, by first | (rw [ht]; exact hpost) | exact hpost⟩, hS.F ht⟩) hS.2.2 dX12_moor_13
theorem dX12_putIn_0 : decode cX12_putIn 0 = .ok (.aload_n 0, 1) := by decide +kernel
theorem dX12_putIn_1 : decode cX12_putIn 1 = .ok (.getfield 20, 3) := by decide +kernel
theorem dX12_putIn_4 : decode cX12_putIn 4 = .ok (.sipush 136, 3) := by decide +kernel
theorem dX12_putIn_7 : decode cX12_putIn 7 = .ok (.iconst 4, 1) := by decide +kernel
theorem dX12_putIn_8 : decode cX12_putIn 8 = .ok (.iload_n 1, 1) := by decide +kernel
theorem dX12_putIn_9 : decode cX12_putIn 9 = .ok (.imul, 1) := by decide +kernel
theorem dX12_putIn_10 : decode cX12_putIn 10 = .ok (.iadd, 1) := by decide +kernel
theorem dX12_putIn_11 : decode cX12_putIn 11 = .ok (.iconst 1, 1) := by decide +kernel
theorem dX12_putIn_12 : decode cX12_putIn 12 = .ok (.iadd, 1) := by decide +kernel
theorem dX12_putIn_13 : decode cX12_putIn 13 = .ok (.iaload, 1) := by decide +kernel
theorem dX12_putIn_14 : decode cX12_putIn 14 = .ok (.ireturn, 1) := by decide +kernel
set_option maxHeartbeats 4000000 in
set_option maxRecDepth 100000 in
theorem c_X12_putIn (l : Launch) (E : Nat → Nat) (D : va_G) (G : th_G) (H0 : Heap) (h0 : Nat) (hG0 : G h0 = some (10, 0)) (x1 : Int32) (hx1 : (0 : Int) ≤ x1.toInt ∧ x1.toInt ≤ 5) : Met l yX12_putIn (tb (.code yX12_putIn cX12_putIn 2 (some .int))) (rm 0) (va_Pc [.ref h0, .int x1] (PR E D G H0)) (QS H0 (fun r => 0 ≤ (r : Int32).toInt ∧ (r : Int32).toInt ≤ 95)) 0 0 (fun _ => False) := by
  refine Met.ofW (cc := cX12_putIn) (maxL := 2) (ret := (some .int)) (by decide) rfl ?_
  intro p e s m args below meth c s₁ B hml hv
  obtain ⟨hav, rfl, hI, hN, hK⟩ := hv
  have hx := B.exec
  have hb := B.bytes
  have hr := B.returns
  have hts := atoms_spec (ws := tb (.code yX12_putIn cX12_putIn 2 (some .int))) B.pre
  have hown : s.vm.findClass RX12 = some m.cls := findClass_of_methodNamed B.named
  have hlocks := B.notSynchronized
  have hS : va_S (fun _ => False) s.heap s.heap [] := va_S.rf
  have hl := lv_entry ([.ref h0, .int x1]) (n := 2) (Nat.le_of_ble_eq_true rfl)
  rw [show entryFrame m args 2 = entryFrame m ([.ref h0, .int x1] : List Value).toArray 2 from by rw [hav], lg_entry_eq]
  generalize (lg_sl ([.ref h0, .int x1]) ++ List.replicate (2 - (lg_sl ([.ref h0, .int x1])).length) Slot.unset).toArray = ls at hl ⊢
  have hl : lv_has ls 2 [(0, .ref h0), (1, .int x1)] := hl
  generalize hR : (headSpec (tb (.code yX12_putIn cX12_putIn 2 (some .int))) (rm 0)).room = R
  have hR := hR.symm
  generalize hQ : MQ below (QS s.heap (fun r => 0 ≤ (r : Int32).toInt ∧ (r : Int32).toInt ≤ 95)) args s 0 0 (fun _ => False) = QF
  have hQ := hQ.symm
  obtain ⟨q_3, hq_3, hf_3⟩ := fr_of hI hG0 3 (by decide) (kd := (1, 5123)) rfl
  obtain ⟨F_3, hA_3, hP_3⟩ := om_1 hI hq_3 List.not_mem_nil
  refine lv_aload_n hx hb dX12_putIn_0 rfl (lv_at hl 0 rfl) ?_
  refine gmA hx hb hts inT12 hown hK hI List.not_mem_nil hG0 3 (by decide) (hts _ (tb_c wd_1236)) rfl rfl dX12_putIn_1 (fun a1 hq2 hf3 => ?_)
  obtain rfl := fr.uniq (by decide) hf_3 hf3
  refine lv_sipush (v := 136) hx hb dX12_putIn_4 (by decide) ?_
  refine lv_iconst (v := 4) hx hb dX12_putIn_7 (by decide) ?_
  refine lv_iload_n hx hb dX12_putIn_8 rfl (lv_at hl 1 rfl) ?_
  refine lv_imul hx hb dX12_putIn_9 ?_
  refine lv_topi (fun v4 e5 => ?_)
  have tv4 : v4.toInt = (4) * x1.toInt := iv_mul (by decide) rfl e5 (by omega) (by omega)
  refine lv_iadd hx hb dX12_putIn_10 ?_
  refine lv_topi (fun v6 e7 => ?_)
  have tv6 : v6.toInt = (136) + v4.toInt := iv_add (by decide) rfl e7 (by omega) (by omega)
  refine lv_iconst (v := 1) hx hb dX12_putIn_11 (by decide) ?_
  refine lv_iadd hx hb dX12_putIn_12 ?_
  refine lv_topi (fun v8 e9 => ?_)
  have tv8 : v8.toInt = v6.toInt + (1) := iv_add rfl (by decide) e9 (by omega) (by omega)
  refine th_iald hx hb hK hA_3 0 rfl (iv_in (X := v8.toInt) rfl (by omega) (by omega)) dX12_putIn_13 (fun v10 e11 => ?_)
  have k12 := kg_boat1 (kOk.get (i := v8) hP_3 e11 (X := v8.toInt) rfl (by omega) (by omega)) (by omega) (by omega) (by omega)
  have hpost : 0 ≤ (v10 : Int32).toInt ∧ (v10 : Int32).toInt ≤ 95 := by omega
  rw [hQ]
  exact W.iret (v := v10) hx hb hr (fun t ht hW => ⟨⟨v10, (), rfl, hpost, ht⟩, hS.F ht⟩) hS.2.2 dX12_putIn_14
theorem dX12_isMoored_0 : decode cX12_isMoored 0 = .ok (.iload_n 2, 1) := by decide +kernel
theorem dX12_isMoored_1 : decode cX12_isMoored 1 = .ok (.aload_n 0, 1) := by decide +kernel
theorem dX12_isMoored_2 : decode cX12_isMoored 2 = .ok (.getfield 20, 3) := by decide +kernel
theorem dX12_isMoored_5 : decode cX12_isMoored 5 = .ok (.sipush 136, 3) := by decide +kernel
theorem dX12_isMoored_8 : decode cX12_isMoored 8 = .ok (.iconst 4, 1) := by decide +kernel
theorem dX12_isMoored_9 : decode cX12_isMoored 9 = .ok (.iload_n 1, 1) := by decide +kernel
theorem dX12_isMoored_10 : decode cX12_isMoored 10 = .ok (.imul, 1) := by decide +kernel
theorem dX12_isMoored_11 : decode cX12_isMoored 11 = .ok (.iadd, 1) := by decide +kernel
theorem dX12_isMoored_12 : decode cX12_isMoored 12 = .ok (.iconst 2, 1) := by decide +kernel
theorem dX12_isMoored_13 : decode cX12_isMoored 13 = .ok (.iadd, 1) := by decide +kernel
theorem dX12_isMoored_14 : decode cX12_isMoored 14 = .ok (.iaload, 1) := by decide +kernel
theorem dX12_isMoored_15 : decode cX12_isMoored 15 = .ok (.aload_n 0, 1) := by decide +kernel
theorem dX12_isMoored_16 : decode cX12_isMoored 16 = .ok (.getfield 20, 3) := by decide +kernel
theorem dX12_isMoored_19 : decode cX12_isMoored 19 = .ok (.sipush 136, 3) := by decide +kernel
theorem dX12_isMoored_22 : decode cX12_isMoored 22 = .ok (.iconst 4, 1) := by decide +kernel
theorem dX12_isMoored_23 : decode cX12_isMoored 23 = .ok (.iload_n 1, 1) := by decide +kernel
theorem dX12_isMoored_24 : decode cX12_isMoored 24 = .ok (.imul, 1) := by decide +kernel
theorem dX12_isMoored_25 : decode cX12_isMoored 25 = .ok (.iadd, 1) := by decide +kernel
theorem dX12_isMoored_26 : decode cX12_isMoored 26 = .ok (.iconst 3, 1) := by decide +kernel
theorem dX12_isMoored_27 : decode cX12_isMoored 27 = .ok (.iadd, 1) := by decide +kernel
theorem dX12_isMoored_28 : decode cX12_isMoored 28 = .ok (.iaload, 1) := by decide +kernel
theorem dX12_isMoored_29 : decode cX12_isMoored 29 = .ok (.invokestatic 103, 3) := by decide +kernel
theorem dX12_isMoored_32 : decode cX12_isMoored 32 = .ok (.ireturn, 1) := by decide +kernel
set_option maxHeartbeats 4000000 in
set_option maxRecDepth 100000 in
theorem c_X12_isMoored (l : Launch) (E : Nat → Nat) (D : va_G) (G : th_G) (H0 : Heap) (h0 : Nat) (hG0 : G h0 = some (10, 0)) (x1 : Int32) (x2 : Int32) (hx1 : (0 : Int) ≤ x1.toInt ∧ x1.toInt ≤ 5) : Met l yX12_isMoored (tb (.code yX12_isMoored cX12_isMoored 3 (some .boolean))) (rm 1) (va_Pc [.ref h0, .int x1, .int x2] (PR E D G H0)) (QS H0 (fun r => 0 ≤ (r : Int32).toInt ∧ (r : Int32).toInt ≤ 1)) 0 0 (fun _ => False) := by
  refine Met.ofW (cc := cX12_isMoored) (maxL := 3) (ret := (some .boolean)) (by decide) rfl ?_
  intro p e s m args below meth c s₁ B hml hv
  obtain ⟨hav, rfl, hI, hN, hK⟩ := hv
  have hx := B.exec
  have hb := B.bytes
  have hr := B.returns
  have hts := atoms_spec (ws := tb (.code yX12_isMoored cX12_isMoored 3 (some .boolean))) B.pre
  have hown : s.vm.findClass RX12 = some m.cls := findClass_of_methodNamed B.named
  have hlocks := B.notSynchronized
  have hS : va_S (fun _ => False) s.heap s.heap [] := va_S.rf
  have hl := lv_entry ([.ref h0, .int x1, .int x2]) (n := 3) (Nat.le_of_ble_eq_true rfl)
  rw [show entryFrame m args 3 = entryFrame m ([.ref h0, .int x1, .int x2] : List Value).toArray 3 from by rw [hav], lg_entry_eq]
  generalize (lg_sl ([.ref h0, .int x1, .int x2]) ++ List.replicate (3 - (lg_sl ([.ref h0, .int x1, .int x2])).length) Slot.unset).toArray = ls at hl ⊢
  have hl : lv_has ls 3 [(0, .ref h0), (1, .int x1), (2, .int x2)] := hl
  generalize hR : (headSpec (tb (.code yX12_isMoored cX12_isMoored 3 (some .boolean))) (rm 1)).room = R
  have hR := hR.symm
  generalize hQ : MQ below (QS s.heap (fun r => 0 ≤ (r : Int32).toInt ∧ (r : Int32).toInt ≤ 1)) args s 0 0 (fun _ => False) = QF
  have hQ := hQ.symm
  obtain ⟨q_3, hq_3, hf_3⟩ := fr_of hI hG0 3 (by decide) (kd := (1, 5123)) rfl
  obtain ⟨F_3, hA_3, hP_3⟩ := om_1 hI hq_3 List.not_mem_nil
  refine lv_iload_n hx hb dX12_isMoored_0 rfl (lv_at hl 2 rfl) ?_
  refine lv_aload_n hx hb dX12_isMoored_1 rfl (lv_at hl 0 rfl) ?_
  refine gmA hx hb hts inT12 hown hK hI List.not_mem_nil hG0 3 (by decide) (hts _ (tb_c wd_1236)) rfl rfl dX12_isMoored_2 (fun a1 hq2 hf3 => ?_)
  obtain rfl := fr.uniq (by decide) hf_3 hf3
  refine lv_sipush (v := 136) hx hb dX12_isMoored_5 (by decide) ?_
  refine lv_iconst (v := 4) hx hb dX12_isMoored_8 (by decide) ?_
  refine lv_iload_n hx hb dX12_isMoored_9 rfl (lv_at hl 1 rfl) ?_
  refine lv_imul hx hb dX12_isMoored_10 ?_
  refine lv_topi (fun v4 e5 => ?_)
  have tv4 : v4.toInt = (4) * x1.toInt := iv_mul (by decide) rfl e5 (by omega) (by omega)
  refine lv_iadd hx hb dX12_isMoored_11 ?_
  refine lv_topi (fun v6 e7 => ?_)
  have tv6 : v6.toInt = (136) + v4.toInt := iv_add (by decide) rfl e7 (by omega) (by omega)
  refine lv_iconst (v := 2) hx hb dX12_isMoored_12 (by decide) ?_
  refine lv_iadd hx hb dX12_isMoored_13 ?_
  refine lv_topi (fun v8 e9 => ?_)
  have tv8 : v8.toInt = v6.toInt + (2) := iv_add rfl (by decide) e9 (by omega) (by omega)
  refine th_iald hx hb hK hA_3 0 rfl (iv_in (X := v8.toInt) rfl (by omega) (by omega)) dX12_isMoored_14 (fun v10 e11 => ?_)
  refine lv_aload_n hx hb dX12_isMoored_15 rfl (lv_at hl 0 rfl) ?_
  refine gmA hx hb hts inT12 hown hK hI List.not_mem_nil hG0 3 (by decide) (hts _ (tb_c wd_1236)) rfl rfl dX12_isMoored_16 (fun a12 hq13 hf14 => ?_)
  obtain rfl := fr.uniq (by decide) hf_3 hf14
  refine lv_sipush (v := 136) hx hb dX12_isMoored_19 (by decide) ?_
  refine lv_iconst (v := 4) hx hb dX12_isMoored_22 (by decide) ?_
  refine lv_iload_n hx hb dX12_isMoored_23 rfl (lv_at hl 1 rfl) ?_
  refine lv_imul hx hb dX12_isMoored_24 ?_
  refine lv_topi (fun v15 e16 => ?_)
  have tv15 : v15.toInt = (4) * x1.toInt := iv_mul (by decide) rfl e16 (by omega) (by omega)
  refine lv_iadd hx hb dX12_isMoored_25 ?_
  refine lv_topi (fun v17 e18 => ?_)
  have tv17 : v17.toInt = (136) + v15.toInt := iv_add (by decide) rfl e18 (by omega) (by omega)
  refine lv_iconst (v := 3) hx hb dX12_isMoored_26 (by decide) ?_
  refine lv_iadd hx hb dX12_isMoored_27 ?_
  refine lv_topi (fun v19 e20 => ?_)
  have tv19 : v19.toInt = v17.toInt + (3) := iv_add rfl (by decide) e20 (by omega) (by omega)
  refine th_iald hx hb hK hA_3 0 rfl (iv_in (X := v19.toInt) rfl (by omega) (by omega)) dX12_isMoored_28 (fun v21 e22 => ?_)
  refine th_cSs (As := [.int x2, .int v10, .int v21]) (rest := []) (n := 3) (d := 0) ⟨hx, hb, hml, hown, hts⟩ (c_X12_lies l s.heap x2 v10 v21) wd_1395 wd_1396 wd_13 wd_1397 (by decide +kernel) ⟨by rw [hR]; exact Nat.le_of_ble_eq_true rfl, by rw [hR]; exact Nat.le_of_ble_eq_true rfl⟩ hN hS rfl hl.1 rfl (Nat.le_of_ble_eq_true rfl) dX12_isMoored_29 ⟨Nat.zero_le _, Nat.zero_le _⟩ (fun r23 locs hp hS => ?_)
  rcases hp with ⟨rfl, hp⟩ | ⟨rfl, hp⟩
  · skip
    try simp only [rg, not_and, Int.not_le] at hp
    have hp24 := hp
    have hpost : 0 ≤ (1 : Int32).toInt ∧ (1 : Int32).toInt ≤ 1 := by first | decide | omega
    rw [hQ]
    exact W.zret (v := 1) hx hb hr (by decide) (fun t ht hW => ⟨⟨1, (), rfl, hpost, ht⟩, hS.F ht⟩) hS.2.2 dX12_isMoored_32
  · skip
    try simp only [rg, not_and, Int.not_le] at hp
    have hp25 := hp
    have hpost : 0 ≤ (0 : Int32).toInt ∧ (0 : Int32).toInt ≤ 1 := by first | decide | omega
    rw [hQ]
    exact W.zret (v := 0) hx hb hr (by decide) (fun t ht hW => ⟨⟨0, (), rfl, hpost, ht⟩, hS.F ht⟩) hS.2.2 dX12_isMoored_32
theorem dX12_sailsTo_0 : decode cX12_sailsTo 0 = .ok (.aload_n 0, 1) := by decide +kernel
theorem dX12_sailsTo_1 : decode cX12_sailsTo 1 = .ok (.getfield 20, 3) := by decide +kernel
theorem dX12_sailsTo_4 : decode cX12_sailsTo 4 = .ok (.sipush 136, 3) := by decide +kernel
theorem dX12_sailsTo_7 : decode cX12_sailsTo 7 = .ok (.iconst 4, 1) := by decide +kernel
theorem dX12_sailsTo_8 : decode cX12_sailsTo 8 = .ok (.iload_n 1, 1) := by decide +kernel
theorem dX12_sailsTo_9 : decode cX12_sailsTo 9 = .ok (.imul, 1) := by decide +kernel
theorem dX12_sailsTo_10 : decode cX12_sailsTo 10 = .ok (.iadd, 1) := by decide +kernel
theorem dX12_sailsTo_11 : decode cX12_sailsTo 11 = .ok (.iaload, 1) := by decide +kernel
theorem dX12_sailsTo_12 : decode cX12_sailsTo 12 = .ok (.istore_n 3, 1) := by decide +kernel
theorem dX12_sailsTo_13 : decode cX12_sailsTo 13 = .ok (.aload_n 0, 1) := by decide +kernel
theorem dX12_sailsTo_14 : decode cX12_sailsTo 14 = .ok (.iconst 0, 1) := by decide +kernel
theorem dX12_sailsTo_15 : decode cX12_sailsTo 15 = .ok (.putfield 310, 3) := by decide +kernel
theorem dX12_sailsTo_18 : decode cX12_sailsTo 18 = .ok (.aload_n 0, 1) := by decide +kernel
theorem dX12_sailsTo_19 : decode cX12_sailsTo 19 = .ok (.getfield 20, 3) := by decide +kernel
theorem dX12_sailsTo_22 : decode cX12_sailsTo 22 = .ok (.sipush 136, 3) := by decide +kernel
theorem dX12_sailsTo_25 : decode cX12_sailsTo 25 = .ok (.iconst 4, 1) := by decide +kernel
theorem dX12_sailsTo_26 : decode cX12_sailsTo 26 = .ok (.iload_n 1, 1) := by decide +kernel
theorem dX12_sailsTo_27 : decode cX12_sailsTo 27 = .ok (.imul, 1) := by decide +kernel
theorem dX12_sailsTo_28 : decode cX12_sailsTo 28 = .ok (.iadd, 1) := by decide +kernel
theorem dX12_sailsTo_29 : decode cX12_sailsTo 29 = .ok (.iconst 1, 1) := by decide +kernel
theorem dX12_sailsTo_30 : decode cX12_sailsTo 30 = .ok (.iadd, 1) := by decide +kernel
theorem dX12_sailsTo_31 : decode cX12_sailsTo 31 = .ok (.iaload, 1) := by decide +kernel
theorem dX12_sailsTo_32 : decode cX12_sailsTo 32 = .ok (.istore 4, 2) := by decide +kernel
theorem dX12_sailsTo_34 : decode cX12_sailsTo 34 = .ok (.iload 4, 2) := by decide +kernel
theorem dX12_sailsTo_36 : decode cX12_sailsTo 36 = .ok (.iload_n 2, 1) := by decide +kernel
theorem dX12_sailsTo_37 : decode cX12_sailsTo 37 = .ok (.if_icmp .ge 127, 3) := by decide +kernel
theorem dX12_sailsTo_40 : decode cX12_sailsTo 40 = .ok (.aload_n 0, 1) := by decide +kernel
theorem dX12_sailsTo_41 : decode cX12_sailsTo 41 = .ok (.iload_n 1, 1) := by decide +kernel
theorem dX12_sailsTo_42 : decode cX12_sailsTo 42 = .ok (.iload 4, 2) := by decide +kernel
theorem dX12_sailsTo_44 : decode cX12_sailsTo 44 = .ok (.invokevirtual 313, 3) := by decide +kernel
theorem dX12_sailsTo_47 : decode cX12_sailsTo 47 = .ok (.ifCond .ne 111, 3) := by decide +kernel
theorem dX12_sailsTo_50 : decode cX12_sailsTo 50 = .ok (.iload_n 3, 1) := by decide +kernel
theorem dX12_sailsTo_51 : decode cX12_sailsTo 51 = .ok (.bipush 24, 2) := by decide +kernel
theorem dX12_sailsTo_53 : decode cX12_sailsTo 53 = .ok (.if_icmp .ne 6, 3) := by decide +kernel
theorem dX12_sailsTo_56 : decode cX12_sailsTo 56 = .ok (.goto 102, 3) := by decide +kernel
theorem dX12_sailsTo_59 : decode cX12_sailsTo 59 = .ok (.aload_n 0, 1) := by decide +kernel
theorem dX12_sailsTo_60 : decode cX12_sailsTo 60 = .ok (.getfield 67, 3) := by decide +kernel
theorem dX12_sailsTo_63 : decode cX12_sailsTo 63 = .ok (.bipush 25, 2) := by decide +kernel
theorem dX12_sailsTo_65 : decode cX12_sailsTo 65 = .ok (.iload 4, 2) := by decide +kernel
theorem dX12_sailsTo_67 : decode cX12_sailsTo 67 = .ok (.imul, 1) := by decide +kernel
theorem dX12_sailsTo_68 : decode cX12_sailsTo 68 = .ok (.iload_n 3, 1) := by decide +kernel
theorem dX12_sailsTo_69 : decode cX12_sailsTo 69 = .ok (.iadd, 1) := by decide +kernel
theorem dX12_sailsTo_70 : decode cX12_sailsTo 70 = .ok (.iaload, 1) := by decide +kernel
theorem dX12_sailsTo_71 : decode cX12_sailsTo 71 = .ok (.istore 5, 2) := by decide +kernel
theorem dX12_sailsTo_73 : decode cX12_sailsTo 73 = .ok (.iload_n 3, 1) := by decide +kernel
theorem dX12_sailsTo_74 : decode cX12_sailsTo 74 = .ok (.istore 6, 2) := by decide +kernel
theorem dX12_sailsTo_76 : decode cX12_sailsTo 76 = .ok (.iload 6, 2) := by decide +kernel
theorem dX12_sailsTo_78 : decode cX12_sailsTo 78 = .ok (.iload 5, 2) := by decide +kernel
theorem dX12_sailsTo_80 : decode cX12_sailsTo 80 = .ok (.if_icmp .ge 35, 3) := by decide +kernel
theorem dX12_sailsTo_83 : decode cX12_sailsTo 83 = .ok (.aload_n 0, 1) := by decide +kernel
theorem dX12_sailsTo_84 : decode cX12_sailsTo 84 = .ok (.dup, 1) := by decide +kernel
theorem dX12_sailsTo_85 : decode cX12_sailsTo 85 = .ok (.getfield 310, 3) := by decide +kernel
theorem dX12_sailsTo_88 : decode cX12_sailsTo 88 = .ok (.aload_n 0, 1) := by decide +kernel
theorem dX12_sailsTo_89 : decode cX12_sailsTo 89 = .ok (.getfield 61, 3) := by decide +kernel
theorem dX12_sailsTo_92 : decode cX12_sailsTo 92 = .ok (.iconst 2, 1) := by decide +kernel
theorem dX12_sailsTo_93 : decode cX12_sailsTo 93 = .ok (.bipush 24, 2) := by decide +kernel
theorem dX12_sailsTo_95 : decode cX12_sailsTo 95 = .ok (.iload 4, 2) := by decide +kernel
theorem dX12_sailsTo_97 : decode cX12_sailsTo 97 = .ok (.imul, 1) := by decide +kernel
theorem dX12_sailsTo_98 : decode cX12_sailsTo 98 = .ok (.iload 6, 2) := by decide +kernel
theorem dX12_sailsTo_100 : decode cX12_sailsTo 100 = .ok (.iadd, 1) := by decide +kernel
theorem dX12_sailsTo_101 : decode cX12_sailsTo 101 = .ok (.imul, 1) := by decide +kernel
theorem dX12_sailsTo_102 : decode cX12_sailsTo 102 = .ok (.iconst 1, 1) := by decide +kernel
theorem dX12_sailsTo_103 : decode cX12_sailsTo 103 = .ok (.iadd, 1) := by decide +kernel
theorem dX12_sailsTo_104 : decode cX12_sailsTo 104 = .ok (.iaload, 1) := by decide +kernel
theorem dX12_sailsTo_105 : decode cX12_sailsTo 105 = .ok (.iadd, 1) := by decide +kernel
theorem dX12_sailsTo_106 : decode cX12_sailsTo 106 = .ok (.putfield 310, 3) := by decide +kernel
theorem dX12_sailsTo_109 : decode cX12_sailsTo 109 = .ok (.iinc 6 1, 3) := by decide +kernel
theorem dX12_sailsTo_112 : decode cX12_sailsTo 112 = .ok (.goto (-36), 3) := by decide +kernel
theorem dX12_sailsTo_115 : decode cX12_sailsTo 115 = .ok (.iload_n 3, 1) := by decide +kernel
theorem dX12_sailsTo_116 : decode cX12_sailsTo 116 = .ok (.istore 6, 2) := by decide +kernel
theorem dX12_sailsTo_118 : decode cX12_sailsTo 118 = .ok (.iload 6, 2) := by decide +kernel
theorem dX12_sailsTo_120 : decode cX12_sailsTo 120 = .ok (.iload 5, 2) := by decide +kernel
theorem dX12_sailsTo_122 : decode cX12_sailsTo 122 = .ok (.if_icmp .le 33, 3) := by decide +kernel
theorem dX12_sailsTo_125 : decode cX12_sailsTo 125 = .ok (.aload_n 0, 1) := by decide +kernel
theorem dX12_sailsTo_126 : decode cX12_sailsTo 126 = .ok (.dup, 1) := by decide +kernel
theorem dX12_sailsTo_127 : decode cX12_sailsTo 127 = .ok (.getfield 310, 3) := by decide +kernel
theorem dX12_sailsTo_130 : decode cX12_sailsTo 130 = .ok (.aload_n 0, 1) := by decide +kernel
theorem dX12_sailsTo_131 : decode cX12_sailsTo 131 = .ok (.getfield 61, 3) := by decide +kernel
theorem dX12_sailsTo_134 : decode cX12_sailsTo 134 = .ok (.iconst 2, 1) := by decide +kernel
theorem dX12_sailsTo_135 : decode cX12_sailsTo 135 = .ok (.bipush 24, 2) := by decide +kernel
theorem dX12_sailsTo_137 : decode cX12_sailsTo 137 = .ok (.iload 4, 2) := by decide +kernel
theorem dX12_sailsTo_139 : decode cX12_sailsTo 139 = .ok (.imul, 1) := by decide +kernel
theorem dX12_sailsTo_140 : decode cX12_sailsTo 140 = .ok (.iload 6, 2) := by decide +kernel
theorem dX12_sailsTo_142 : decode cX12_sailsTo 142 = .ok (.iadd, 1) := by decide +kernel
theorem dX12_sailsTo_143 : decode cX12_sailsTo 143 = .ok (.imul, 1) := by decide +kernel
theorem dX12_sailsTo_144 : decode cX12_sailsTo 144 = .ok (.iaload, 1) := by decide +kernel
theorem dX12_sailsTo_145 : decode cX12_sailsTo 145 = .ok (.iadd, 1) := by decide +kernel
theorem dX12_sailsTo_146 : decode cX12_sailsTo 146 = .ok (.putfield 310, 3) := by decide +kernel
theorem dX12_sailsTo_149 : decode cX12_sailsTo 149 = .ok (.iinc 6 (-1), 3) := by decide +kernel
theorem dX12_sailsTo_152 : decode cX12_sailsTo 152 = .ok (.goto (-34), 3) := by decide +kernel
theorem dX12_sailsTo_155 : decode cX12_sailsTo 155 = .ok (.iload 5, 2) := by decide +kernel
theorem dX12_sailsTo_157 : decode cX12_sailsTo 157 = .ok (.istore_n 3, 1) := by decide +kernel
theorem dX12_sailsTo_158 : decode cX12_sailsTo 158 = .ok (.iinc 4 1, 3) := by decide +kernel
theorem dX12_sailsTo_161 : decode cX12_sailsTo 161 = .ok (.goto (-127), 3) := by decide +kernel
theorem dX12_sailsTo_164 : decode cX12_sailsTo 164 = .ok (.iload_n 3, 1) := by decide +kernel
theorem dX12_sailsTo_165 : decode cX12_sailsTo 165 = .ok (.ireturn, 1) := by decide +kernel
set_option maxHeartbeats 4000000 in
set_option maxRecDepth 100000 in
theorem c_X12_sailsTo (l : Launch) (E : Nat → Nat) (D : va_G) (G : th_G) (h0 : Nat) (hG0 : G h0 = some (10, 0)) (x1 : Int32) (x2 : Int32) (hx1 : (0 : Int) ≤ x1.toInt ∧ x1.toInt ≤ 5) (hx2 : x2.toInt ≤ 96) : Met l yX12_sailsTo (tb (.code yX12_sailsTo cX12_sailsTo 7 (some .int))) (rm 2) (va_Pc [.ref h0, .int x1, .int x2] (PX E D G (fun H => True))) (QXi E D G (fun r H => 0 ≤ (r : Int32).toInt ∧ (r : Int32).toInt ≤ 24)) 0 0 (th_A G) := by
  refine Met.ofW (cc := cX12_sailsTo) (maxL := 7) (ret := (some .int)) (by decide) rfl ?_
  intro p e s m args below meth c s₁ B hml hv
  obtain ⟨hav, ⟨hI, hN, hK⟩, hX⟩ := hv
  have hx := B.exec
  have hb := B.bytes
  have hr := B.returns
  have hts := atoms_spec (ws := tb (.code yX12_sailsTo cX12_sailsTo 7 (some .int))) B.pre
  have hown : s.vm.findClass RX12 = some m.cls := findClass_of_methodNamed B.named
  have hlocks := B.notSynchronized
  have hS : va_S (th_A G) s.heap s.heap [] := va_S.rf
  have hl := lv_entry ([.ref h0, .int x1, .int x2]) (n := 7) (Nat.le_of_ble_eq_true rfl)
  rw [show entryFrame m args 7 = entryFrame m ([.ref h0, .int x1, .int x2] : List Value).toArray 7 from by rw [hav], lg_entry_eq]
  generalize (lg_sl ([.ref h0, .int x1, .int x2]) ++ List.replicate (7 - (lg_sl ([.ref h0, .int x1, .int x2])).length) Slot.unset).toArray = ls at hl ⊢
  have hl : lv_has ls 7 [(0, .ref h0), (1, .int x1), (2, .int x2)] := hl
  generalize hR : (headSpec (tb (.code yX12_sailsTo cX12_sailsTo 7 (some .int))) (rm 2)).room = R
  have hR := hR.symm
  generalize hQ : MQ below (QXi E D G (fun r H => 0 ≤ (r : Int32).toInt ∧ (r : Int32).toInt ≤ 24)) args s 0 0 (th_A G) = QF
  have hQ := hQ.symm
  have J_34 : ∀ (nn : Nat) (H : Heap) (locs : List Loc) (ls : Array Slot) (v1284 : Int32) (v1285 : Int32) , (Int.toNat (96 - v1284.toInt) = nn) → lv_has ls 7 [(4, .int v1284), (3, .int v1285), (0, .ref h0), (1, .int x1), (2, .int x2)] → ((0 : Int) ≤ v1284.toInt ∧ v1284.toInt ≤ 96) → ((0 : Int) ≤ v1285.toInt ∧ v1285.toInt ≤ 24) → ((0 : Int) ≤ x1.toInt ∧ x1.toInt ≤ 5) → (x2.toInt ≤ 96) → th_I (okM E) D G [] H → va_S (th_A G) s.heap H locs → W p l e R s m args below meth c H locs 0 0 QF (F0 m 34 ls []) := by
    intro nn
    induction nn using Nat.strongRecOn with
    | ind nn ih_34 =>
      intro H locs ls v1284 v1285  hm hl k1286 k1287 k1288 k1289 hI hS
      have J_118 : ∀ (nn : Nat) (H : Heap) (locs : List Loc) (ls : Array Slot) (v1290 : Int32) (v1291 : Int32) , (Int.toNat (v1290.toInt - (0)) = nn) → lv_has ls 7 [(6, .int v1290), (5, .int v1291), (4, .int v1284), (3, .int v1285), (0, .ref h0), (1, .int x1), (2, .int x2)] → ((0 : Int) ≤ v1290.toInt ∧ v1290.toInt ≤ 23) → ((0 : Int) ≤ v1291.toInt ∧ v1291.toInt ≤ 24) → ((0 : Int) ≤ v1284.toInt ∧ v1284.toInt ≤ 95) → ((0 : Int) ≤ v1285.toInt ∧ v1285.toInt ≤ 23) → ((1 : Int) ≤ x2.toInt ∧ x2.toInt ≤ 96) → th_I (okM E) D G [] H → va_S (th_A G) s.heap H locs → W p l e R s m args below meth c H locs 0 0 QF (F0 m 118 ls []) := by
        intro nn
        induction nn using Nat.strongRecOn with
        | ind nn ih_118 =>
          intro H locs ls v1290 v1291  hm hl k1294 k1295 k1296 k1297 k1298 hI hS
          refine lv_iload hx hb dX12_sailsTo_118 (lv_at hl 0 rfl) ?_
          refine lv_iload hx hb dX12_sailsTo_120 (lv_at hl 1 rfl) ?_
          refine lv_icmp_le (tgt := 155) hx hb dX12_sailsTo_122 (by decide) (fun c1299 => ?_) (fun c1299 => ?_)
          · skip
            have k1300 := iv_le (X := v1290.toInt) (Y := v1291.toInt) rfl rfl c1299
            refine lv_iload hx hb dX12_sailsTo_155 (lv_at hl 1 rfl) ?_
            refine lv_istore_n (lv' := [(3, .int v1291), (6, .int v1290), (5, .int v1291), (4, .int v1284), (0, .ref h0), (1, .int x1), (2, .int x2)]) hx hb dX12_sailsTo_157 rfl hl (by decide) rfl (fun ls hl => ?_)
            obtain ⟨v1301, e1302⟩ : ∃ y : Int32, y = v1284 + (1) := ⟨_, rfl⟩
            have tv1301 : v1301.toInt = v1284.toInt + (1) := iv_add rfl (by decide) e1302 (by omega) (by omega)
            refine lv_iinc (v := v1301) (lv' := [(4, .int v1301), (3, .int v1291), (6, .int v1290), (5, .int v1291), (0, .ref h0), (1, .int x1), (2, .int x2)]) hx hb dX12_sailsTo_158 hl (k := 3) rfl (by rw [e1302]; rfl) (by decide) rfl (fun ls hl => ?_)
            refine lv_goto (tgt := 34) hx hb dX12_sailsTo_161 (by decide) ?_
            exact ih_34 _ (by omega) H locs ls v1301 v1291  rfl (lv_sub hl [0, 1, 4, 5, 6] rfl) ⟨by omega, by omega⟩ ⟨by omega, by omega⟩ ⟨by omega, by omega⟩ (by omega) hI hS
          · skip
            have k1303 := iv_nle (X := v1290.toInt) (Y := v1291.toInt) rfl rfl c1299
            refine lv_aload_n hx hb dX12_sailsTo_125 rfl (lv_at hl 4 rfl) ?_
            refine lv_dup hx hb dX12_sailsTo_126 rfl ?_
            refine gmI hx hb hts inT12 hown hK hI List.not_mem_nil hG0 29 (by decide) (hts _ (tb_c wd_1262)) rfl rfl dX12_sailsTo_127 (fun w1304 hg1305 k1306 k1307 => ?_)
            refine lv_aload_n hx hb dX12_sailsTo_130 rfl (lv_at hl 4 rfl) ?_
            refine gmA hx hb hts inT12 hown hK hI List.not_mem_nil hG0 25 (by decide) (hts _ (tb_c wd_1258)) rfl rfl dX12_sailsTo_131 (fun a1308 hq1309 hf1310 => ?_)
            refine lv_iconst (v := 2) hx hb dX12_sailsTo_134 (by decide) ?_
            refine lv_bipush (v := 24) hx hb dX12_sailsTo_135 (by decide) ?_
            refine lv_iload hx hb dX12_sailsTo_137 (lv_at hl 2 rfl) ?_
            refine lv_imul hx hb dX12_sailsTo_139 ?_
            refine lv_topi (fun v1311 e1312 => ?_)
            have tv1311 : v1311.toInt = (24) * v1284.toInt := iv_mul (by decide) rfl e1312 (by omega) (by omega)
            refine lv_iload hx hb dX12_sailsTo_140 (lv_at hl 0 rfl) ?_
            refine lv_iadd hx hb dX12_sailsTo_142 ?_
            refine lv_topi (fun v1313 e1314 => ?_)
            have tv1313 : v1313.toInt = v1311.toInt + v1290.toInt := iv_add rfl rfl e1314 (by omega) (by omega)
            refine lv_imul hx hb dX12_sailsTo_143 ?_
            refine lv_topi (fun v1315 e1316 => ?_)
            have tv1315 : v1315.toInt = (2) * v1313.toInt := iv_mul (by decide) rfl e1316 (by omega) (by omega)
            obtain ⟨F1317, hA1318⟩ := om_0 hI hq1309 List.not_mem_nil
            refine th_iald hx hb hK hA1318 0 rfl (iv_in (X := v1315.toInt) rfl (by omega) (by omega)) dX12_sailsTo_144 (fun v1319 e1320 => ?_)
            refine lv_iadd hx hb dX12_sailsTo_145 ?_
            refine lv_topi (fun v1321 e1322 => ?_)
            try have tv1321 : v1321.toInt = w1304.toInt + v1319.toInt := iv_add rfl rfl e1322 (by omega) (by omega)
            have k1323 := iv_lo v1321
            have k1324 := iv_hi v1321
            refine pmI (ty := .int) hx hb hts inT12 hown hK hI List.not_mem_nil hG0 hS ⟨_, hG0⟩ 29 (by decide) (hts _ (tb_c wd_1262)) rfl rfl (by decide +kernel) rfl rfl rfl (by omega) (by omega) dX12_sailsTo_146 (fun H locs hI hgP hS => ?_)
            have hg1325 := hgP.2.1
            have hf1310 := hgP.2.2.2 25 _ (by decide) (by decide) hf1310
            have hA1318 := va_at.kept hA1318 (hgP.1 _ (m_ne hq1309 hG0 (by first | decide | (dsimp only; decide))))
            obtain ⟨v1326, e1327⟩ : ∃ y : Int32, y = v1290 + (-1) := ⟨_, rfl⟩
            have tv1326 : v1326.toInt = v1290.toInt + (-1) := iv_add rfl (by decide) e1327 (by omega) (by omega)
            refine lv_iinc (v := v1326) (lv' := [(6, .int v1326), (5, .int v1291), (4, .int v1284), (3, .int v1285), (0, .ref h0), (1, .int x1), (2, .int x2)]) hx hb dX12_sailsTo_149 hl (k := 0) rfl (by rw [e1327]; rfl) (by decide) rfl (fun ls hl => ?_)
            refine lv_goto (tgt := 118) hx hb dX12_sailsTo_152 (by decide) ?_
            exact ih_118 _ (by omega) H locs ls v1326 v1291  rfl (lv_sub hl [0, 1, 2, 3, 4, 5, 6] rfl) ⟨by omega, by omega⟩ ⟨by omega, by omega⟩ ⟨by omega, by omega⟩ ⟨by omega, by omega⟩ ⟨by omega, by omega⟩ hI hS
      have J_76 : ∀ (nn : Nat) (H : Heap) (locs : List Loc) (ls : Array Slot) (v1328 : Int32) (v1329 : Int32) , (Int.toNat (24 - v1328.toInt) = nn) → lv_has ls 7 [(6, .int v1328), (5, .int v1329), (4, .int v1284), (3, .int v1285), (0, .ref h0), (1, .int x1), (2, .int x2)] → ((0 : Int) ≤ v1328.toInt ∧ v1328.toInt ≤ 24) → ((0 : Int) ≤ v1329.toInt ∧ v1329.toInt ≤ 24) → ((0 : Int) ≤ v1284.toInt ∧ v1284.toInt ≤ 95) → ((0 : Int) ≤ v1285.toInt ∧ v1285.toInt ≤ 23) → ((1 : Int) ≤ x2.toInt ∧ x2.toInt ≤ 96) → th_I (okM E) D G [] H → va_S (th_A G) s.heap H locs → W p l e R s m args below meth c H locs 0 0 QF (F0 m 76 ls []) := by
        intro nn
        induction nn using Nat.strongRecOn with
        | ind nn ih_76 =>
          intro H locs ls v1328 v1329  hm hl k1332 k1333 k1334 k1335 k1336 hI hS
          refine lv_iload hx hb dX12_sailsTo_76 (lv_at hl 0 rfl) ?_
          refine lv_iload hx hb dX12_sailsTo_78 (lv_at hl 1 rfl) ?_
          refine lv_icmp_ge (tgt := 115) hx hb dX12_sailsTo_80 (by decide) (fun c1337 => ?_) (fun c1337 => ?_)
          · skip
            have k1338 := iv_le (X := v1329.toInt) (Y := v1328.toInt) rfl rfl c1337
            refine lv_iload_n hx hb dX12_sailsTo_115 rfl (lv_at hl 3 rfl) ?_
            refine lv_istore (lv' := [(6, .int v1285), (5, .int v1329), (4, .int v1284), (3, .int v1285), (0, .ref h0), (1, .int x1), (2, .int x2)]) hx hb dX12_sailsTo_116 hl (by decide) rfl (fun ls hl => ?_)
            exact J_118 _ H locs ls v1285 v1329  rfl (lv_sub hl [0, 1, 2, 3, 4, 5, 6] rfl) ⟨by omega, by omega⟩ ⟨by omega, by omega⟩ ⟨by omega, by omega⟩ ⟨by omega, by omega⟩ ⟨by omega, by omega⟩ hI hS
          · skip
            have k1339 := iv_nle (X := v1329.toInt) (Y := v1328.toInt) rfl rfl c1337
            refine lv_aload_n hx hb dX12_sailsTo_83 rfl (lv_at hl 4 rfl) ?_
            refine lv_dup hx hb dX12_sailsTo_84 rfl ?_
            refine gmI hx hb hts inT12 hown hK hI List.not_mem_nil hG0 29 (by decide) (hts _ (tb_c wd_1262)) rfl rfl dX12_sailsTo_85 (fun w1340 hg1341 k1342 k1343 => ?_)
            refine lv_aload_n hx hb dX12_sailsTo_88 rfl (lv_at hl 4 rfl) ?_
            refine gmA hx hb hts inT12 hown hK hI List.not_mem_nil hG0 25 (by decide) (hts _ (tb_c wd_1258)) rfl rfl dX12_sailsTo_89 (fun a1344 hq1345 hf1346 => ?_)
            refine lv_iconst (v := 2) hx hb dX12_sailsTo_92 (by decide) ?_
            refine lv_bipush (v := 24) hx hb dX12_sailsTo_93 (by decide) ?_
            refine lv_iload hx hb dX12_sailsTo_95 (lv_at hl 2 rfl) ?_
            refine lv_imul hx hb dX12_sailsTo_97 ?_
            refine lv_topi (fun v1347 e1348 => ?_)
            have tv1347 : v1347.toInt = (24) * v1284.toInt := iv_mul (by decide) rfl e1348 (by omega) (by omega)
            refine lv_iload hx hb dX12_sailsTo_98 (lv_at hl 0 rfl) ?_
            refine lv_iadd hx hb dX12_sailsTo_100 ?_
            refine lv_topi (fun v1349 e1350 => ?_)
            have tv1349 : v1349.toInt = v1347.toInt + v1328.toInt := iv_add rfl rfl e1350 (by omega) (by omega)
            refine lv_imul hx hb dX12_sailsTo_101 ?_
            refine lv_topi (fun v1351 e1352 => ?_)
            have tv1351 : v1351.toInt = (2) * v1349.toInt := iv_mul (by decide) rfl e1352 (by omega) (by omega)
            refine lv_iconst (v := 1) hx hb dX12_sailsTo_102 (by decide) ?_
            refine lv_iadd hx hb dX12_sailsTo_103 ?_
            refine lv_topi (fun v1353 e1354 => ?_)
            have tv1353 : v1353.toInt = v1351.toInt + (1) := iv_add rfl (by decide) e1354 (by omega) (by omega)
            obtain ⟨F1355, hA1356⟩ := om_0 hI hq1345 List.not_mem_nil
            refine th_iald hx hb hK hA1356 0 rfl (iv_in (X := v1353.toInt) rfl (by omega) (by omega)) dX12_sailsTo_104 (fun v1357 e1358 => ?_)
            refine lv_iadd hx hb dX12_sailsTo_105 ?_
            refine lv_topi (fun v1359 e1360 => ?_)
            try have tv1359 : v1359.toInt = w1340.toInt + v1357.toInt := iv_add rfl rfl e1360 (by omega) (by omega)
            have k1361 := iv_lo v1359
            have k1362 := iv_hi v1359
            refine pmI (ty := .int) hx hb hts inT12 hown hK hI List.not_mem_nil hG0 hS ⟨_, hG0⟩ 29 (by decide) (hts _ (tb_c wd_1262)) rfl rfl (by decide +kernel) rfl rfl rfl (by omega) (by omega) dX12_sailsTo_106 (fun H locs hI hgP hS => ?_)
            have hg1363 := hgP.2.1
            have hf1346 := hgP.2.2.2 25 _ (by decide) (by decide) hf1346
            have hA1356 := va_at.kept hA1356 (hgP.1 _ (m_ne hq1345 hG0 (by first | decide | (dsimp only; decide))))
            obtain ⟨v1364, e1365⟩ : ∃ y : Int32, y = v1328 + (1) := ⟨_, rfl⟩
            have tv1364 : v1364.toInt = v1328.toInt + (1) := iv_add rfl (by decide) e1365 (by omega) (by omega)
            refine lv_iinc (v := v1364) (lv' := [(6, .int v1364), (5, .int v1329), (4, .int v1284), (3, .int v1285), (0, .ref h0), (1, .int x1), (2, .int x2)]) hx hb dX12_sailsTo_109 hl (k := 0) rfl (by rw [e1365]; rfl) (by decide) rfl (fun ls hl => ?_)
            refine lv_goto (tgt := 76) hx hb dX12_sailsTo_112 (by decide) ?_
            exact ih_76 _ (by omega) H locs ls v1364 v1329  rfl (lv_sub hl [0, 1, 2, 3, 4, 5, 6] rfl) ⟨by omega, by omega⟩ ⟨by omega, by omega⟩ ⟨by omega, by omega⟩ ⟨by omega, by omega⟩ ⟨by omega, by omega⟩ hI hS
      refine lv_iload hx hb dX12_sailsTo_34 (lv_at hl 0 rfl) ?_
      refine lv_iload_n hx hb dX12_sailsTo_36 rfl (lv_at hl 4 rfl) ?_
      have k1366 := iv_lo x2
      have k1367 := iv_hi x2
      refine lv_icmp_ge (tgt := 164) hx hb dX12_sailsTo_37 (by decide) (fun c1368 => ?_) (fun c1368 => ?_)
      · skip
        have k1369 := iv_le (X := x2.toInt) (Y := v1284.toInt) rfl rfl c1368
        refine lv_iload_n hx hb dX12_sailsTo_164 rfl (lv_at hl 1 rfl) ?_
        have hpost : 0 ≤ (v1285 : Int32).toInt ∧ (v1285 : Int32).toInt ≤ 24 := by first | decide | omega
        rw [hQ]
        exact W.iret (v := v1285) hx hb hr (fun t ht hW => ⟨⟨v1285, v1285, rfl, rfl, ⟨by rw [ht]; exact hI, hN.warm hW, va_K.moved hW.alike hK⟩, by first | (rw [ht]; exact hpost) | exact hpost⟩, hS.F ht⟩) hS.2.2 dX12_sailsTo_165
      · skip
        have k1370 := iv_nle (X := x2.toInt) (Y := v1284.toInt) rfl rfl c1368
        refine lv_aload_n hx hb dX12_sailsTo_40 rfl (lv_at hl 2 rfl) ?_
        refine lv_iload_n hx hb dX12_sailsTo_41 rfl (lv_at hl 3 rfl) ?_
        refine lv_iload hx hb dX12_sailsTo_42 (lv_at hl 0 rfl) ?_
        refine mr_i (As := [.int x1, .int v1284]) (rest := []) (n := 2) (d := 1) ⟨hx, hb, hml, hown, hts⟩ (c_X12_isMoored l E D G H h0 hG0 x1 v1284 ⟨by omega, by omega⟩) wd_1697 wd_1699 wp_81 wd_13 wd_1700 (by decide +kernel) ⟨by rw [hR]; exact Nat.le_of_ble_eq_true rfl, by rw [hR]; exact Nat.le_of_ble_eq_true rfl⟩ hI hN hK hS hG0 rfl hl.1 rfl (Nat.le_of_ble_eq_true rfl) dX12_sailsTo_44 ⟨Nat.zero_le _, Nat.zero_le _⟩ (fun r1371 locs hp hS => ?_)
        have hp1372 := hp
        refine lv_if_ne (tgt := 158) hx hb dX12_sailsTo_47 (by decide) (fun c1373 => ?_) (fun c1373 => ?_)
        · skip
          have k1374 := iv_ne (X := r1371.toInt) (Y := (0)) rfl (by decide) c1373
          obtain ⟨v1375, e1376⟩ : ∃ y : Int32, y = v1284 + (1) := ⟨_, rfl⟩
          have tv1375 : v1375.toInt = v1284.toInt + (1) := iv_add rfl (by decide) e1376 (by omega) (by omega)
          refine lv_iinc (v := v1375) (lv' := [(4, .int v1375), (3, .int v1285), (0, .ref h0), (1, .int x1), (2, .int x2)]) hx hb dX12_sailsTo_158 hl (k := 0) rfl (by rw [e1376]; rfl) (by decide) rfl (fun ls hl => ?_)
          refine lv_goto (tgt := 34) hx hb dX12_sailsTo_161 (by decide) ?_
          exact ih_34 _ (by omega) H locs ls v1375 v1285  rfl (lv_sub hl [0, 1, 2, 3, 4] rfl) ⟨by omega, by omega⟩ ⟨by omega, by omega⟩ ⟨by omega, by omega⟩ (by omega) hI hS
        · skip
          have k1377 := iv_eq (X := r1371.toInt) (Y := (0)) rfl (by decide) c1373
          refine lv_iload_n hx hb dX12_sailsTo_50 rfl (lv_at hl 1 rfl) ?_
          refine lv_bipush (v := 24) hx hb dX12_sailsTo_51 (by decide) ?_
          refine lv_icmp_ne (tgt := 59) hx hb dX12_sailsTo_53 (by decide) (fun c1378 => ?_) (fun c1378 => ?_)
          · skip
            have k1379 := iv_ne (X := v1285.toInt) (Y := (24)) rfl (by decide) c1378
            refine lv_aload_n hx hb dX12_sailsTo_59 rfl (lv_at hl 2 rfl) ?_
            refine gmA hx hb hts inT12 hown hK hI List.not_mem_nil hG0 27 (by decide) (hts _ (tb_c wd_1260)) rfl rfl dX12_sailsTo_60 (fun a1380 hq1381 hf1382 => ?_)
            refine lv_bipush (v := 25) hx hb dX12_sailsTo_63 (by decide) ?_
            refine lv_iload hx hb dX12_sailsTo_65 (lv_at hl 0 rfl) ?_
            refine lv_imul hx hb dX12_sailsTo_67 ?_
            refine lv_topi (fun v1383 e1384 => ?_)
            have tv1383 : v1383.toInt = (25) * v1284.toInt := iv_mul (by decide) rfl e1384 (by omega) (by omega)
            refine lv_iload_n hx hb dX12_sailsTo_68 rfl (lv_at hl 1 rfl) ?_
            refine lv_iadd hx hb dX12_sailsTo_69 ?_
            refine lv_topi (fun v1385 e1386 => ?_)
            have tv1385 : v1385.toInt = v1383.toInt + v1285.toInt := iv_add rfl rfl e1386 (by omega) (by omega)
            obtain ⟨F1387, hA1388, hP1389⟩ := om_3 hI hq1381 List.not_mem_nil
            refine th_iald hx hb hK hA1388 0 rfl (iv_in (X := v1385.toInt) rfl (by omega) (by omega)) dX12_sailsTo_70 (fun v1390 e1391 => ?_)
            have k1392 := rgs_get hP1389 e1391 (X := v1385.toInt) rfl (by omega) (by omega)
            refine lv_istore (lv' := [(5, .int v1390), (4, .int v1284), (3, .int v1285), (0, .ref h0), (1, .int x1), (2, .int x2)]) hx hb dX12_sailsTo_71 hl (by decide) rfl (fun ls hl => ?_)
            refine lv_iload_n hx hb dX12_sailsTo_73 rfl (lv_at hl 2 rfl) ?_
            refine lv_istore (lv' := [(6, .int v1285), (5, .int v1390), (4, .int v1284), (3, .int v1285), (0, .ref h0), (1, .int x1), (2, .int x2)]) hx hb dX12_sailsTo_74 hl (by decide) rfl (fun ls hl => ?_)
            exact J_76 _ H locs ls v1285 v1390  rfl (lv_sub hl [0, 1, 2, 3, 4, 5, 6] rfl) ⟨by omega, by omega⟩ ⟨by omega, by omega⟩ ⟨by omega, by omega⟩ ⟨by omega, by omega⟩ ⟨by omega, by omega⟩ hI hS
          · skip
            have k1393 := iv_eq (X := v1285.toInt) (Y := (24)) rfl (by decide) c1378
            refine lv_goto (tgt := 158) hx hb dX12_sailsTo_56 (by decide) ?_
            obtain ⟨v1394, e1395⟩ : ∃ y : Int32, y = v1284 + (1) := ⟨_, rfl⟩
            have tv1394 : v1394.toInt = v1284.toInt + (1) := iv_add rfl (by decide) e1395 (by omega) (by omega)
            refine lv_iinc (v := v1394) (lv' := [(4, .int v1394), (3, .int v1285), (0, .ref h0), (1, .int x1), (2, .int x2)]) hx hb dX12_sailsTo_158 hl (k := 0) rfl (by rw [e1395]; rfl) (by decide) rfl (fun ls hl => ?_)
            refine lv_goto (tgt := 34) hx hb dX12_sailsTo_161 (by decide) ?_
            exact ih_34 _ (by omega) H locs ls v1394 v1285  rfl (lv_sub hl [0, 1, 2, 3, 4] rfl) ⟨by omega, by omega⟩ ⟨by omega, by omega⟩ ⟨by omega, by omega⟩ (by omega) hI hS
  refine lv_aload_n hx hb dX12_sailsTo_0 rfl (lv_at hl 0 rfl) ?_
  refine gmA hx hb hts inT12 hown hK hI List.not_mem_nil hG0 3 (by decide) (hts _ (tb_c wd_1236)) rfl rfl dX12_sailsTo_1 (fun a1396 hq1397 hf1398 => ?_)
  refine lv_sipush (v := 136) hx hb dX12_sailsTo_4 (by decide) ?_
  refine lv_iconst (v := 4) hx hb dX12_sailsTo_7 (by decide) ?_
  refine lv_iload_n hx hb dX12_sailsTo_8 rfl (lv_at hl 1 rfl) ?_
  refine lv_imul hx hb dX12_sailsTo_9 ?_
  refine lv_topi (fun v1399 e1400 => ?_)
  have tv1399 : v1399.toInt = (4) * x1.toInt := iv_mul (by decide) rfl e1400 (by omega) (by omega)
  refine lv_iadd hx hb dX12_sailsTo_10 ?_
  refine lv_topi (fun v1401 e1402 => ?_)
  have tv1401 : v1401.toInt = (136) + v1399.toInt := iv_add (by decide) rfl e1402 (by omega) (by omega)
  obtain ⟨F1403, hA1404, hP1405⟩ := om_1 hI hq1397 List.not_mem_nil
  refine th_iald hx hb hK hA1404 0 rfl (iv_in (X := v1401.toInt) rfl (by omega) (by omega)) dX12_sailsTo_11 (fun v1406 e1407 => ?_)
  have k1408 := kg_boat0 (kOk.get (i := v1401) hP1405 e1407 (X := v1401.toInt) rfl (by omega) (by omega)) (by omega) (by omega) (by omega)
  refine lv_istore_n (lv' := [(3, .int v1406), (0, .ref h0), (1, .int x1), (2, .int x2)]) hx hb dX12_sailsTo_12 rfl hl (by decide) rfl (fun ls hl => ?_)
  refine lv_aload_n hx hb dX12_sailsTo_13 rfl (lv_at hl 1 rfl) ?_
  refine lv_iconst (v := 0) hx hb dX12_sailsTo_14 (by decide) ?_
  refine pmI (ty := .int) hx hb hts inT12 hown hK hI List.not_mem_nil hG0 hS ⟨_, hG0⟩ 29 (by decide) (hts _ (tb_c wd_1262)) rfl rfl (by decide +kernel) rfl rfl rfl (by decide) (by decide) dX12_sailsTo_15 (fun H locs hI hgP hS => ?_)
  have hg1409 := hgP.2.1
  have hf1398 := hgP.2.2.2 3 _ (by decide) (by decide) hf1398
  have hA1404 := va_at.kept hA1404 (hgP.1 _ (m_ne hq1397 hG0 (by first | decide | (dsimp only; decide))))
  refine lv_aload_n hx hb dX12_sailsTo_18 rfl (lv_at hl 1 rfl) ?_
  refine gmA hx hb hts inT12 hown hK hI List.not_mem_nil hG0 3 (by decide) (hts _ (tb_c wd_1236)) rfl rfl dX12_sailsTo_19 (fun a1410 hq1411 hf1412 => ?_)
  obtain rfl := fr.uniq (by decide) hf1398 hf1412
  refine lv_sipush (v := 136) hx hb dX12_sailsTo_22 (by decide) ?_
  refine lv_iconst (v := 4) hx hb dX12_sailsTo_25 (by decide) ?_
  refine lv_iload_n hx hb dX12_sailsTo_26 rfl (lv_at hl 2 rfl) ?_
  refine lv_imul hx hb dX12_sailsTo_27 ?_
  refine lv_topi (fun v1413 e1414 => ?_)
  have tv1413 : v1413.toInt = (4) * x1.toInt := iv_mul (by decide) rfl e1414 (by omega) (by omega)
  refine lv_iadd hx hb dX12_sailsTo_28 ?_
  refine lv_topi (fun v1415 e1416 => ?_)
  have tv1415 : v1415.toInt = (136) + v1413.toInt := iv_add (by decide) rfl e1416 (by omega) (by omega)
  refine lv_iconst (v := 1) hx hb dX12_sailsTo_29 (by decide) ?_
  refine lv_iadd hx hb dX12_sailsTo_30 ?_
  refine lv_topi (fun v1417 e1418 => ?_)
  have tv1417 : v1417.toInt = v1415.toInt + (1) := iv_add rfl (by decide) e1418 (by omega) (by omega)
  refine th_iald hx hb hK hA1404 0 rfl (iv_in (X := v1417.toInt) rfl (by omega) (by omega)) dX12_sailsTo_31 (fun v1419 e1420 => ?_)
  have k1421 := kg_boat1 (kOk.get (i := v1417) hP1405 e1420 (X := v1417.toInt) rfl (by omega) (by omega)) (by omega) (by omega) (by omega)
  refine lv_istore (lv' := [(4, .int v1419), (3, .int v1406), (0, .ref h0), (1, .int x1), (2, .int x2)]) hx hb dX12_sailsTo_32 hl (by decide) rfl (fun ls hl => ?_)
  exact J_34 _ H locs ls v1419 v1406  rfl (lv_sub hl [0, 1, 2, 3, 4] rfl) ⟨by omega, by omega⟩ ⟨by omega, by omega⟩ ⟨by omega, by omega⟩ (by omega) hI hS
theorem dX12_sails_0 : decode cX12_sails 0 = .ok (.aload_n 0, 1) := by decide +kernel
theorem dX12_sails_1 : decode cX12_sails 1 = .ok (.iload_n 1, 1) := by decide +kernel
theorem dX12_sails_2 : decode cX12_sails 2 = .ok (.invokevirtual 307, 3) := by decide +kernel
theorem dX12_sails_5 : decode cX12_sails 5 = .ok (.ifCond .eq 26, 3) := by decide +kernel
theorem dX12_sails_8 : decode cX12_sails 8 = .ok (.iload_n 2, 1) := by decide +kernel
theorem dX12_sails_9 : decode cX12_sails 9 = .ok (.aload_n 0, 1) := by decide +kernel
theorem dX12_sails_10 : decode cX12_sails 10 = .ok (.iload_n 1, 1) := by decide +kernel
theorem dX12_sails_11 : decode cX12_sails 11 = .ok (.invokevirtual 316, 3) := by decide +kernel
theorem dX12_sails_14 : decode cX12_sails 14 = .ok (.bipush 96, 2) := by decide +kernel
theorem dX12_sails_16 : decode cX12_sails 16 = .ok (.invokestatic 103, 3) := by decide +kernel
theorem dX12_sails_19 : decode cX12_sails 19 = .ok (.ifCond .eq 12, 3) := by decide +kernel
theorem dX12_sails_22 : decode cX12_sails 22 = .ok (.iload_n 3, 1) := by decide +kernel
theorem dX12_sails_23 : decode cX12_sails 23 = .ok (.iconst 0, 1) := by decide +kernel
theorem dX12_sails_24 : decode cX12_sails 24 = .ok (.iconst 1, 1) := by decide +kernel
theorem dX12_sails_25 : decode cX12_sails 25 = .ok (.invokestatic 103, 3) := by decide +kernel
theorem dX12_sails_28 : decode cX12_sails 28 = .ok (.ifCond .ne 5, 3) := by decide +kernel
theorem dX12_sails_31 : decode cX12_sails 31 = .ok (.iconst (-1), 1) := by decide +kernel
theorem dX12_sails_32 : decode cX12_sails 32 = .ok (.ireturn, 1) := by decide +kernel
theorem dX12_sails_33 : decode cX12_sails 33 = .ok (.aload_n 0, 1) := by decide +kernel
theorem dX12_sails_34 : decode cX12_sails 34 = .ok (.invokevirtual 138, 3) := by decide +kernel
theorem dX12_sails_37 : decode cX12_sails 37 = .ok (.aload_n 0, 1) := by decide +kernel
theorem dX12_sails_38 : decode cX12_sails 38 = .ok (.iload_n 1, 1) := by decide +kernel
theorem dX12_sails_39 : decode cX12_sails 39 = .ok (.iload_n 2, 1) := by decide +kernel
theorem dX12_sails_40 : decode cX12_sails 40 = .ok (.invokevirtual 319, 3) := by decide +kernel
theorem dX12_sails_43 : decode cX12_sails 43 = .ok (.istore 4, 2) := by decide +kernel
theorem dX12_sails_45 : decode cX12_sails 45 = .ok (.iload_n 3, 1) := by decide +kernel
theorem dX12_sails_46 : decode cX12_sails 46 = .ok (.ifCond .ne 8, 3) := by decide +kernel
theorem dX12_sails_49 : decode cX12_sails 49 = .ok (.iload 4, 2) := by decide +kernel
theorem dX12_sails_51 : decode cX12_sails 51 = .ok (.goto 7, 3) := by decide +kernel
theorem dX12_sails_54 : decode cX12_sails 54 = .ok (.aload_n 0, 1) := by decide +kernel
theorem dX12_sails_55 : decode cX12_sails 55 = .ok (.getfield 310, 3) := by decide +kernel
theorem dX12_sails_58 : decode cX12_sails 58 = .ok (.ireturn, 1) := by decide +kernel
set_option maxHeartbeats 4000000 in
set_option maxRecDepth 100000 in
theorem c_X12_sails (l : Launch) (E : Nat → Nat) (D : va_G) (G : th_G) (h0 : Nat) (hG0 : G h0 = some (10, 0)) (x1 : Int32) (x2 : Int32) (x3 : Int32) : Met l yX12_sails (tb (.code yX12_sails cX12_sails 5 (some .int))) (rm 69) (va_Pc [.ref h0, .int x1, .int x2, .int x3] (PX E D G (fun H => True))) (QXi E D G (fun r H => True)) 0 0 (th_A G) := by
  refine Met.ofW (cc := cX12_sails) (maxL := 5) (ret := (some .int)) (by decide) rfl ?_
  intro p e s m args below meth c s₁ B hml hv
  obtain ⟨hav, ⟨hI, hN, hK⟩, hX⟩ := hv
  have hx := B.exec
  have hb := B.bytes
  have hr := B.returns
  have hts := atoms_spec (ws := tb (.code yX12_sails cX12_sails 5 (some .int))) B.pre
  have hown : s.vm.findClass RX12 = some m.cls := findClass_of_methodNamed B.named
  have hlocks := B.notSynchronized
  have hS : va_S (th_A G) s.heap s.heap [] := va_S.rf
  have hl := lv_entry ([.ref h0, .int x1, .int x2, .int x3]) (n := 5) (Nat.le_of_ble_eq_true rfl)
  rw [show entryFrame m args 5 = entryFrame m ([.ref h0, .int x1, .int x2, .int x3] : List Value).toArray 5 from by rw [hav], lg_entry_eq]
  generalize (lg_sl ([.ref h0, .int x1, .int x2, .int x3]) ++ List.replicate (5 - (lg_sl ([.ref h0, .int x1, .int x2, .int x3])).length) Slot.unset).toArray = ls at hl ⊢
  have hl : lv_has ls 5 [(0, .ref h0), (1, .int x1), (2, .int x2), (3, .int x3)] := hl
  generalize hR : (headSpec (tb (.code yX12_sails cX12_sails 5 (some .int))) (rm 69)).room = R
  have hR := hR.symm
  generalize hQ : MQ below (QXi E D G (fun r H => True)) args s 0 0 (th_A G) = QF
  have hQ := hQ.symm
  have J_31 : ∀ (H : Heap) (locs : List Loc) (ls : Array Slot)  , lv_has ls 5 [(0, .ref h0), (1, .int x1), (2, .int x2), (3, .int x3)] → th_I (okM E) D G [] H → va_S (th_A G) s.heap H locs → W p l e R s m args below meth c H locs 0 0 QF (F0 m 31 ls []) := by
    intro H locs ls   hl  hI hS
    refine lv_iconst (v := (-1)) hx hb dX12_sails_31 (by decide) ?_
    have hpost : True := trivial
    rw [hQ]
    exact W.iret (v := (-1)) hx hb hr (fun t ht hW => ⟨⟨(-1), (-1), rfl, rfl, ⟨by rw [ht]; exact hI, hN.warm hW, va_K.moved hW.alike hK⟩, by first | (rw [ht]; exact hpost) | exact hpost⟩, hS.F ht⟩) hS.2.2 dX12_sails_32
  refine lv_aload_n hx hb dX12_sails_0 rfl (lv_at hl 0 rfl) ?_
  refine lv_iload_n hx hb dX12_sails_1 rfl (lv_at hl 1 rfl) ?_
  refine mr_i (As := [.int x1]) (rest := []) (n := 1) (d := 1) ⟨hx, hb, hml, hown, hts⟩ (c_X12_isBoat l E D G s.heap h0 hG0 x1) wd_1681 wd_1683 wp_78 wd_13 wd_1684 (by decide +kernel) ⟨by rw [hR]; exact Nat.le_of_ble_eq_true rfl, by rw [hR]; exact Nat.le_of_ble_eq_true rfl⟩ hI hN hK hS hG0 rfl hl.1 rfl (Nat.le_of_ble_eq_true rfl) dX12_sails_2 ⟨Nat.zero_le _, Nat.zero_le _⟩ (fun r169 locs hp hS => ?_)
  rcases hp with ⟨rfl, hp⟩ | ⟨rfl, hp⟩
  · skip
    try simp only [rg, not_and, Int.not_le] at hp
    have hp170 := hp
    refine lv_if_eq (tgt := 31) hx hb dX12_sails_5 (by decide) (fun c => absurd c (by decide)) (fun _ => ?_)
    refine lv_iload_n hx hb dX12_sails_8 rfl (lv_at hl 2 rfl) ?_
    refine lv_aload_n hx hb dX12_sails_9 rfl (lv_at hl 0 rfl) ?_
    refine lv_iload_n hx hb dX12_sails_10 rfl (lv_at hl 1 rfl) ?_
    refine mr_i (As := [.int x1]) (rest := [.int x2]) (n := 1) (d := 0) ⟨hx, hb, hml, hown, hts⟩ (c_X12_putIn l E D G s.heap h0 hG0 x1 ⟨by omega, by omega⟩) wd_1689 wd_1691 wp_79 wd_13 wd_1692 (by decide +kernel) ⟨by rw [hR]; exact Nat.le_of_ble_eq_true rfl, by rw [hR]; exact Nat.le_of_ble_eq_true rfl⟩ hI hN hK hS hG0 rfl hl.1 rfl (Nat.le_of_ble_eq_true rfl) dX12_sails_11 ⟨Nat.zero_le _, Nat.zero_le _⟩ (fun r171 locs hp hS => ?_)
    have hp172 := hp
    refine lv_bipush (v := 96) hx hb dX12_sails_14 (by decide) ?_
    refine th_cSs (As := [.int x2, .int r171, .int 96]) (rest := []) (n := 3) (d := 0) ⟨hx, hb, hml, hown, hts⟩ (c_X12_lies l s.heap x2 r171 96) wd_1395 wd_1396 wd_13 wd_1397 (by decide +kernel) ⟨by rw [hR]; exact Nat.le_of_ble_eq_true rfl, by rw [hR]; exact Nat.le_of_ble_eq_true rfl⟩ hN hS rfl hl.1 rfl (Nat.le_of_ble_eq_true rfl) dX12_sails_16 ⟨Nat.zero_le _, Nat.zero_le _⟩ (fun r173 locs hp hS => ?_)
    rcases hp with ⟨rfl, hp⟩ | ⟨rfl, hp⟩
    · skip
      try simp only [rg, not_and, Int.not_le] at hp
      have hp174 := hp
      try rw [show (96 : Int32).toInt = 96 from by decide] at hp174
      refine lv_if_eq (tgt := 31) hx hb dX12_sails_19 (by decide) (fun c => absurd c (by decide)) (fun _ => ?_)
      refine lv_iload_n hx hb dX12_sails_22 rfl (lv_at hl 3 rfl) ?_
      refine lv_iconst (v := 0) hx hb dX12_sails_23 (by decide) ?_
      refine lv_iconst (v := 1) hx hb dX12_sails_24 (by decide) ?_
      refine th_cSs (As := [.int x3, .int 0, .int 1]) (rest := []) (n := 3) (d := 0) ⟨hx, hb, hml, hown, hts⟩ (c_X12_lies l s.heap x3 0 1) wd_1395 wd_1396 wd_13 wd_1397 (by decide +kernel) ⟨by rw [hR]; exact Nat.le_of_ble_eq_true rfl, by rw [hR]; exact Nat.le_of_ble_eq_true rfl⟩ hN hS rfl hl.1 rfl (Nat.le_of_ble_eq_true rfl) dX12_sails_25 ⟨Nat.zero_le _, Nat.zero_le _⟩ (fun r175 locs hp hS => ?_)
      rcases hp with ⟨rfl, hp⟩ | ⟨rfl, hp⟩
      · skip
        try simp only [rg, not_and, Int.not_le] at hp
        have hp176 := hp
        try rw [show (0 : Int32).toInt = 0 from by decide] at hp176
        try rw [show (1 : Int32).toInt = 1 from by decide] at hp176
        refine lv_if_ne (tgt := 33) hx hb dX12_sails_28 (by decide) (fun _ => ?_) (fun c => absurd c (by decide))
        refine lv_aload_n hx hb dX12_sails_33 rfl (lv_at hl 0 rfl) ?_
        refine mx_v (As := []) (rest := []) (n := 0) (d := 68) ⟨hx, hb, hml, hown, hts⟩ (c_X12_looks l E D G h0 hG0 ) wd_1455 wd_1457 wp_43 wd_13 wd_1458 (by decide +kernel) ⟨by rw [hR]; exact Nat.le_of_ble_eq_true rfl, by rw [hR]; exact Nat.le_of_ble_eq_true rfl⟩ hI hN hK hS hG0 (trivial) rfl hl.1 rfl (Nat.le_of_ble_eq_true rfl) dX12_sails_34 ⟨Nat.zero_le _, Nat.zero_le _⟩ (fun H locs hI hp hS => ?_)
        refine lv_aload_n hx hb dX12_sails_37 rfl (lv_at hl 0 rfl) ?_
        refine lv_iload_n hx hb dX12_sails_38 rfl (lv_at hl 1 rfl) ?_
        refine lv_iload_n hx hb dX12_sails_39 rfl (lv_at hl 2 rfl) ?_
        refine mx_i (As := [.int x1, .int x2]) (rest := []) (n := 2) (d := 2) ⟨hx, hb, hml, hown, hts⟩ (c_X12_sailsTo l E D G h0 hG0 x1 x2 ⟨by omega, by omega⟩ (by omega)) wd_1693 wd_1695 wp_80 wd_13 wd_1696 (by decide +kernel) ⟨by rw [hR]; exact Nat.le_of_ble_eq_true rfl, by rw [hR]; exact Nat.le_of_ble_eq_true rfl⟩ hI hN hK hS hG0 (trivial) rfl hl.1 rfl (Nat.le_of_ble_eq_true rfl) dX12_sails_40 ⟨Nat.zero_le _, Nat.zero_le _⟩ (fun r178 H locs hI hp hS => ?_)
        have hp179 := hp
        refine lv_istore (lv' := [(4, .int r178), (0, .ref h0), (1, .int x1), (2, .int x2), (3, .int x3)]) hx hb dX12_sails_43 hl (by decide) rfl (fun ls hl => ?_)
        refine lv_iload_n hx hb dX12_sails_45 rfl (lv_at hl 4 rfl) ?_
        refine lv_if_ne (tgt := 54) hx hb dX12_sails_46 (by decide) (fun c180 => ?_) (fun c180 => ?_)
        · skip
          have k181 := iv_ne (X := x3.toInt) (Y := (0)) rfl (by decide) c180
          refine lv_aload_n hx hb dX12_sails_54 rfl (lv_at hl 1 rfl) ?_
          refine gmI hx hb hts inT12 hown hK hI List.not_mem_nil hG0 29 (by decide) (hts _ (tb_c wd_1262)) rfl rfl dX12_sails_55 (fun w182 hg183 k184 k185 => ?_)
          have hpost : True := trivial
          rw [hQ]
          exact W.iret (v := w182) hx hb hr (fun t ht hW => ⟨⟨w182, w182, rfl, rfl, ⟨by rw [ht]; exact hI, hN.warm hW, va_K.moved hW.alike hK⟩, by first | (rw [ht]; exact hpost) | exact hpost⟩, hS.F ht⟩) hS.2.2 dX12_sails_58
        · skip
          have k186 := iv_eq (X := x3.toInt) (Y := (0)) rfl (by decide) c180
          refine lv_iload hx hb dX12_sails_49 (lv_at hl 0 rfl) ?_
          refine lv_goto (tgt := 58) hx hb dX12_sails_51 (by decide) ?_
          have hpost : True := trivial
          rw [hQ]
          exact W.iret (v := r178) hx hb hr (fun t ht hW => ⟨⟨r178, r178, rfl, rfl, ⟨by rw [ht]; exact hI, hN.warm hW, va_K.moved hW.alike hK⟩, by first | (rw [ht]; exact hpost) | exact hpost⟩, hS.F ht⟩) hS.2.2 dX12_sails_58
      · skip
        try simp only [rg, not_and, Int.not_le] at hp
        have hp187 := hp
        try rw [show (0 : Int32).toInt = 0 from by decide] at hp187
        try rw [show (1 : Int32).toInt = 1 from by decide] at hp187
        refine lv_if_ne (tgt := 33) hx hb dX12_sails_28 (by decide) (fun c => absurd c (by decide)) (fun _ => ?_)
        exact J_31 s.heap locs ls   (lv_sub hl [0, 1, 2, 3] rfl)  hI hS
    · skip
      try simp only [rg, not_and, Int.not_le] at hp
      have hp188 := hp
      try rw [show (96 : Int32).toInt = 96 from by decide] at hp188
      refine lv_if_eq (tgt := 31) hx hb dX12_sails_19 (by decide) (fun _ => ?_) (fun c => absurd c (by decide))
      exact J_31 s.heap locs ls   (lv_sub hl [0, 1, 2, 3] rfl)  hI hS
  · skip
    try simp only [rg, not_and, Int.not_le] at hp
    have hp189 := hp
    refine lv_if_eq (tgt := 31) hx hb dX12_sails_5 (by decide) (fun _ => ?_) (fun c => absurd c (by decide))
    exact J_31 s.heap locs ls   (lv_sub hl [0, 1, 2, 3] rfl)  hI hS
theorem dX12_meet_0 : decode cX12_meet 0 = .ok (.aload_n 0, 1) := by decide +kernel
theorem dX12_meet_1 : decode cX12_meet 1 = .ok (.iload_n 1, 1) := by decide +kernel
theorem dX12_meet_2 : decode cX12_meet 2 = .ok (.invokevirtual 307, 3) := by decide +kernel
theorem dX12_meet_5 : decode cX12_meet 5 = .ok (.ifCond .eq 25, 3) := by decide +kernel
theorem dX12_meet_8 : decode cX12_meet 8 = .ok (.aload_n 0, 1) := by decide +kernel
theorem dX12_meet_9 : decode cX12_meet 9 = .ok (.iload_n 2, 1) := by decide +kernel
theorem dX12_meet_10 : decode cX12_meet 10 = .ok (.invokevirtual 307, 3) := by decide +kernel
theorem dX12_meet_13 : decode cX12_meet 13 = .ok (.ifCond .eq 17, 3) := by decide +kernel
theorem dX12_meet_16 : decode cX12_meet 16 = .ok (.iload_n 1, 1) := by decide +kernel
theorem dX12_meet_17 : decode cX12_meet 17 = .ok (.iload_n 2, 1) := by decide +kernel
theorem dX12_meet_18 : decode cX12_meet 18 = .ok (.if_icmp .eq 12, 3) := by decide +kernel
theorem dX12_meet_21 : decode cX12_meet 21 = .ok (.iload_n 3, 1) := by decide +kernel
theorem dX12_meet_22 : decode cX12_meet 22 = .ok (.iconst 0, 1) := by decide +kernel
theorem dX12_meet_23 : decode cX12_meet 23 = .ok (.iconst 1, 1) := by decide +kernel
theorem dX12_meet_24 : decode cX12_meet 24 = .ok (.invokestatic 103, 3) := by decide +kernel
theorem dX12_meet_27 : decode cX12_meet 27 = .ok (.ifCond .ne 5, 3) := by decide +kernel
theorem dX12_meet_30 : decode cX12_meet 30 = .ok (.iconst (-1), 1) := by decide +kernel
theorem dX12_meet_31 : decode cX12_meet 31 = .ok (.ireturn, 1) := by decide +kernel
theorem dX12_meet_32 : decode cX12_meet 32 = .ok (.aload_n 0, 1) := by decide +kernel
theorem dX12_meet_33 : decode cX12_meet 33 = .ok (.invokevirtual 138, 3) := by decide +kernel
theorem dX12_meet_36 : decode cX12_meet 36 = .ok (.aload_n 0, 1) := by decide +kernel
theorem dX12_meet_37 : decode cX12_meet 37 = .ok (.iload_n 1, 1) := by decide +kernel
theorem dX12_meet_38 : decode cX12_meet 38 = .ok (.invokevirtual 316, 3) := by decide +kernel
theorem dX12_meet_41 : decode cX12_meet 41 = .ok (.aload_n 0, 1) := by decide +kernel
theorem dX12_meet_42 : decode cX12_meet 42 = .ok (.iload_n 2, 1) := by decide +kernel
theorem dX12_meet_43 : decode cX12_meet 43 = .ok (.invokevirtual 316, 3) := by decide +kernel
theorem dX12_meet_46 : decode cX12_meet 46 = .ok (.if_icmp .le 11, 3) := by decide +kernel
theorem dX12_meet_49 : decode cX12_meet 49 = .ok (.aload_n 0, 1) := by decide +kernel
theorem dX12_meet_50 : decode cX12_meet 50 = .ok (.iload_n 1, 1) := by decide +kernel
theorem dX12_meet_51 : decode cX12_meet 51 = .ok (.invokevirtual 316, 3) := by decide +kernel
theorem dX12_meet_54 : decode cX12_meet 54 = .ok (.goto 8, 3) := by decide +kernel
theorem dX12_meet_57 : decode cX12_meet 57 = .ok (.aload_n 0, 1) := by decide +kernel
theorem dX12_meet_58 : decode cX12_meet 58 = .ok (.iload_n 2, 1) := by decide +kernel
theorem dX12_meet_59 : decode cX12_meet 59 = .ok (.invokevirtual 316, 3) := by decide +kernel
theorem dX12_meet_62 : decode cX12_meet 62 = .ok (.istore 4, 2) := by decide +kernel
theorem dX12_meet_64 : decode cX12_meet 64 = .ok (.iload 4, 2) := by decide +kernel
theorem dX12_meet_66 : decode cX12_meet 66 = .ok (.bipush 96, 2) := by decide +kernel
theorem dX12_meet_68 : decode cX12_meet 68 = .ok (.if_icmp .gt 49, 3) := by decide +kernel
theorem dX12_meet_71 : decode cX12_meet 71 = .ok (.aload_n 0, 1) := by decide +kernel
theorem dX12_meet_72 : decode cX12_meet 72 = .ok (.iload_n 1, 1) := by decide +kernel
theorem dX12_meet_73 : decode cX12_meet 73 = .ok (.iload 4, 2) := by decide +kernel
theorem dX12_meet_75 : decode cX12_meet 75 = .ok (.invokevirtual 319, 3) := by decide +kernel
theorem dX12_meet_78 : decode cX12_meet 78 = .ok (.istore 5, 2) := by decide +kernel
theorem dX12_meet_80 : decode cX12_meet 80 = .ok (.iload 5, 2) := by decide +kernel
theorem dX12_meet_82 : decode cX12_meet 82 = .ok (.bipush 24, 2) := by decide +kernel
theorem dX12_meet_84 : decode cX12_meet 84 = .ok (.if_icmp .eq 27, 3) := by decide +kernel
theorem dX12_meet_87 : decode cX12_meet 87 = .ok (.aload_n 0, 1) := by decide +kernel
theorem dX12_meet_88 : decode cX12_meet 88 = .ok (.iload_n 2, 1) := by decide +kernel
theorem dX12_meet_89 : decode cX12_meet 89 = .ok (.iload 4, 2) := by decide +kernel
theorem dX12_meet_91 : decode cX12_meet 91 = .ok (.invokevirtual 319, 3) := by decide +kernel
theorem dX12_meet_94 : decode cX12_meet 94 = .ok (.iload 5, 2) := by decide +kernel
theorem dX12_meet_96 : decode cX12_meet 96 = .ok (.if_icmp .ne 15, 3) := by decide +kernel
theorem dX12_meet_99 : decode cX12_meet 99 = .ok (.iload_n 3, 1) := by decide +kernel
theorem dX12_meet_100 : decode cX12_meet 100 = .ok (.ifCond .ne 8, 3) := by decide +kernel
theorem dX12_meet_103 : decode cX12_meet 103 = .ok (.iload 4, 2) := by decide +kernel
theorem dX12_meet_105 : decode cX12_meet 105 = .ok (.goto 5, 3) := by decide +kernel
theorem dX12_meet_108 : decode cX12_meet 108 = .ok (.iload 5, 2) := by decide +kernel
theorem dX12_meet_110 : decode cX12_meet 110 = .ok (.ireturn, 1) := by decide +kernel
theorem dX12_meet_111 : decode cX12_meet 111 = .ok (.iinc 4 1, 3) := by decide +kernel
theorem dX12_meet_114 : decode cX12_meet 114 = .ok (.goto (-50), 3) := by decide +kernel
theorem dX12_meet_117 : decode cX12_meet 117 = .ok (.iconst (-1), 1) := by decide +kernel
theorem dX12_meet_118 : decode cX12_meet 118 = .ok (.ireturn, 1) := by decide +kernel
set_option maxHeartbeats 4000000 in
set_option maxRecDepth 100000 in
theorem c_X12_meet (l : Launch) (E : Nat → Nat) (D : va_G) (G : th_G) (h0 : Nat) (hG0 : G h0 = some (10, 0)) (x1 : Int32) (x2 : Int32) (x3 : Int32) : Met l yX12_meet (tb (.code yX12_meet cX12_meet 6 (some .int))) (rm 69) (va_Pc [.ref h0, .int x1, .int x2, .int x3] (PX E D G (fun H => True))) (QXi E D G (fun r H => True)) 0 0 (th_A G) := by
  refine Met.ofW (cc := cX12_meet) (maxL := 6) (ret := (some .int)) (by decide) rfl ?_
  intro p e s m args below meth c s₁ B hml hv
  obtain ⟨hav, ⟨hI, hN, hK⟩, hX⟩ := hv
  have hx := B.exec
  have hb := B.bytes
  have hr := B.returns
  have hts := atoms_spec (ws := tb (.code yX12_meet cX12_meet 6 (some .int))) B.pre
  have hown : s.vm.findClass RX12 = some m.cls := findClass_of_methodNamed B.named
  have hlocks := B.notSynchronized
  have hS : va_S (th_A G) s.heap s.heap [] := va_S.rf
  have hl := lv_entry ([.ref h0, .int x1, .int x2, .int x3]) (n := 6) (Nat.le_of_ble_eq_true rfl)
  rw [show entryFrame m args 6 = entryFrame m ([.ref h0, .int x1, .int x2, .int x3] : List Value).toArray 6 from by rw [hav], lg_entry_eq]
  generalize (lg_sl ([.ref h0, .int x1, .int x2, .int x3]) ++ List.replicate (6 - (lg_sl ([.ref h0, .int x1, .int x2, .int x3])).length) Slot.unset).toArray = ls at hl ⊢
  have hl : lv_has ls 6 [(0, .ref h0), (1, .int x1), (2, .int x2), (3, .int x3)] := hl
  generalize hR : (headSpec (tb (.code yX12_meet cX12_meet 6 (some .int))) (rm 69)).room = R
  have hR := hR.symm
  generalize hQ : MQ below (QXi E D G (fun r H => True)) args s 0 0 (th_A G) = QF
  have hQ := hQ.symm
  have J_64 : ∀ (nn : Nat) (H : Heap) (locs : List Loc) (ls : Array Slot) (v464 : Int32) , (Int.toNat (97 - v464.toInt) = nn) → lv_has ls 6 [(4, .int v464), (0, .ref h0), (1, .int x1), (2, .int x2), (3, .int x3)] → ((0 : Int) ≤ v464.toInt ∧ v464.toInt ≤ 97) → ((0 : Int) ≤ x1.toInt ∧ x1.toInt ≤ 5) → ((0 : Int) ≤ x2.toInt ∧ x2.toInt ≤ 5) → ((0 : Int) ≤ x3.toInt ∧ x3.toInt ≤ 1) → th_I (okM E) D G [] H → va_S (th_A G) s.heap H locs → W p l e R s m args below meth c H locs 0 0 QF (F0 m 64 ls []) := by
    intro nn
    induction nn using Nat.strongRecOn with
    | ind nn ih_64 =>
      intro H locs ls v464  hm hl k465 k466 k467 k468 hI hS
      refine lv_iload hx hb dX12_meet_64 (lv_at hl 0 rfl) ?_
      refine lv_bipush (v := 96) hx hb dX12_meet_66 (by decide) ?_
      refine lv_icmp_gt (tgt := 117) hx hb dX12_meet_68 (by decide) (fun c469 => ?_) (fun c469 => ?_)
      · skip
        have k470 := iv_lt (X := (96)) (Y := v464.toInt) (by decide) rfl c469
        refine lv_iconst (v := (-1)) hx hb dX12_meet_117 (by decide) ?_
        have hpost : True := trivial
        rw [hQ]
        exact W.iret (v := (-1)) hx hb hr (fun t ht hW => ⟨⟨(-1), (-1), rfl, rfl, ⟨by rw [ht]; exact hI, hN.warm hW, va_K.moved hW.alike hK⟩, by first | (rw [ht]; exact hpost) | exact hpost⟩, hS.F ht⟩) hS.2.2 dX12_meet_118
      · skip
        have k471 := iv_nlt (X := (96)) (Y := v464.toInt) (by decide) rfl c469
        refine lv_aload_n hx hb dX12_meet_71 rfl (lv_at hl 1 rfl) ?_
        refine lv_iload_n hx hb dX12_meet_72 rfl (lv_at hl 2 rfl) ?_
        refine lv_iload hx hb dX12_meet_73 (lv_at hl 0 rfl) ?_
        refine mx_i (As := [.int x1, .int v464]) (rest := []) (n := 2) (d := 2) ⟨hx, hb, hml, hown, hts⟩ (c_X12_sailsTo l E D G h0 hG0 x1 v464 ⟨by omega, by omega⟩ (by omega)) wd_1693 wd_1695 wp_80 wd_13 wd_1696 (by decide +kernel) ⟨by rw [hR]; exact Nat.le_of_ble_eq_true rfl, by rw [hR]; exact Nat.le_of_ble_eq_true rfl⟩ hI hN hK hS hG0 (trivial) rfl hl.1 rfl (Nat.le_of_ble_eq_true rfl) dX12_meet_75 ⟨Nat.zero_le _, Nat.zero_le _⟩ (fun r472 H locs hI hp hS => ?_)
        have hp473 := hp
        refine lv_istore (lv' := [(5, .int r472), (4, .int v464), (0, .ref h0), (1, .int x1), (2, .int x2), (3, .int x3)]) hx hb dX12_meet_78 hl (by decide) rfl (fun ls hl => ?_)
        refine lv_iload hx hb dX12_meet_80 (lv_at hl 0 rfl) ?_
        refine lv_bipush (v := 24) hx hb dX12_meet_82 (by decide) ?_
        refine lv_icmp_eq (tgt := 111) hx hb dX12_meet_84 (by decide) (fun c474 => ?_) (fun c474 => ?_)
        · skip
          have k475 := iv_eq (X := r472.toInt) (Y := (24)) rfl (by decide) c474
          obtain ⟨v476, e477⟩ : ∃ y : Int32, y = v464 + (1) := ⟨_, rfl⟩
          have tv476 : v476.toInt = v464.toInt + (1) := iv_add rfl (by decide) e477 (by omega) (by omega)
          refine lv_iinc (v := v476) (lv' := [(4, .int v476), (5, .int r472), (0, .ref h0), (1, .int x1), (2, .int x2), (3, .int x3)]) hx hb dX12_meet_111 hl (k := 1) rfl (by rw [e477]; rfl) (by decide) rfl (fun ls hl => ?_)
          refine lv_goto (tgt := 64) hx hb dX12_meet_114 (by decide) ?_
          exact ih_64 _ (by omega) H locs ls v476  rfl (lv_sub hl [0, 2, 3, 4, 5] rfl) ⟨by omega, by omega⟩ ⟨by omega, by omega⟩ ⟨by omega, by omega⟩ ⟨by omega, by omega⟩ hI hS
        · skip
          have k478 := iv_ne (X := r472.toInt) (Y := (24)) rfl (by decide) c474
          refine lv_aload_n hx hb dX12_meet_87 rfl (lv_at hl 2 rfl) ?_
          refine lv_iload_n hx hb dX12_meet_88 rfl (lv_at hl 4 rfl) ?_
          refine lv_iload hx hb dX12_meet_89 (lv_at hl 1 rfl) ?_
          refine mx_i (As := [.int x2, .int v464]) (rest := []) (n := 2) (d := 2) ⟨hx, hb, hml, hown, hts⟩ (c_X12_sailsTo l E D G h0 hG0 x2 v464 ⟨by omega, by omega⟩ (by omega)) wd_1693 wd_1695 wp_80 wd_13 wd_1696 (by decide +kernel) ⟨by rw [hR]; exact Nat.le_of_ble_eq_true rfl, by rw [hR]; exact Nat.le_of_ble_eq_true rfl⟩ hI hN hK hS hG0 (trivial) rfl hl.1 rfl (Nat.le_of_ble_eq_true rfl) dX12_meet_91 ⟨Nat.zero_le _, Nat.zero_le _⟩ (fun r479 H locs hI hp hS => ?_)
          have hp480 := hp
          refine lv_iload hx hb dX12_meet_94 (lv_at hl 0 rfl) ?_
          refine lv_icmp_ne (tgt := 111) hx hb dX12_meet_96 (by decide) (fun c481 => ?_) (fun c481 => ?_)
          · skip
            have k482 := iv_ne (X := r479.toInt) (Y := r472.toInt) rfl rfl c481
            obtain ⟨v483, e484⟩ : ∃ y : Int32, y = v464 + (1) := ⟨_, rfl⟩
            have tv483 : v483.toInt = v464.toInt + (1) := iv_add rfl (by decide) e484 (by omega) (by omega)
            refine lv_iinc (v := v483) (lv' := [(4, .int v483), (5, .int r472), (0, .ref h0), (1, .int x1), (2, .int x2), (3, .int x3)]) hx hb dX12_meet_111 hl (k := 1) rfl (by rw [e484]; rfl) (by decide) rfl (fun ls hl => ?_)
            refine lv_goto (tgt := 64) hx hb dX12_meet_114 (by decide) ?_
            exact ih_64 _ (by omega) H locs ls v483  rfl (lv_sub hl [0, 2, 3, 4, 5] rfl) ⟨by omega, by omega⟩ ⟨by omega, by omega⟩ ⟨by omega, by omega⟩ ⟨by omega, by omega⟩ hI hS
          · skip
            have k485 := iv_eq (X := r479.toInt) (Y := r472.toInt) rfl rfl c481
            refine lv_iload_n hx hb dX12_meet_99 rfl (lv_at hl 5 rfl) ?_
            refine lv_if_ne (tgt := 108) hx hb dX12_meet_100 (by decide) (fun c486 => ?_) (fun c486 => ?_)
            · skip
              have k487 := iv_ne (X := x3.toInt) (Y := (0)) rfl (by decide) c486
              refine lv_iload hx hb dX12_meet_108 (lv_at hl 0 rfl) ?_
              have hpost : True := trivial
              rw [hQ]
              exact W.iret (v := r472) hx hb hr (fun t ht hW => ⟨⟨r472, r472, rfl, rfl, ⟨by rw [ht]; exact hI, hN.warm hW, va_K.moved hW.alike hK⟩, by first | (rw [ht]; exact hpost) | exact hpost⟩, hS.F ht⟩) hS.2.2 dX12_meet_110
            · skip
              have k488 := iv_eq (X := x3.toInt) (Y := (0)) rfl (by decide) c486
              refine lv_iload hx hb dX12_meet_103 (lv_at hl 1 rfl) ?_
              refine lv_goto (tgt := 110) hx hb dX12_meet_105 (by decide) ?_
              have hpost : True := trivial
              rw [hQ]
              exact W.iret (v := v464) hx hb hr (fun t ht hW => ⟨⟨v464, v464, rfl, rfl, ⟨by rw [ht]; exact hI, hN.warm hW, va_K.moved hW.alike hK⟩, by first | (rw [ht]; exact hpost) | exact hpost⟩, hS.F ht⟩) hS.2.2 dX12_meet_110
  have J_62 : ∀ (H : Heap) (locs : List Loc) (ls : Array Slot) (v489 : Int32) , lv_has ls 6 [(0, .ref h0), (1, .int x1), (2, .int x2), (3, .int x3)] → ((0 : Int) ≤ x1.toInt ∧ x1.toInt ≤ 5) → ((0 : Int) ≤ x2.toInt ∧ x2.toInt ≤ 5) → ((0 : Int) ≤ x3.toInt ∧ x3.toInt ≤ 1) → ((0 : Int) ≤ v489.toInt ∧ v489.toInt ≤ 95) → th_I (okM E) D G [] H → va_S (th_A G) s.heap H locs → W p l e R s m args below meth c H locs 0 0 QF (F0 m 62 ls [.int v489]) := by
    intro H locs ls v489  hl k490 k491 k492 k493 hI hS
    refine lv_istore (lv' := [(4, .int v489), (0, .ref h0), (1, .int x1), (2, .int x2), (3, .int x3)]) hx hb dX12_meet_62 hl (by decide) rfl (fun ls hl => ?_)
    exact J_64 _ H locs ls v489  rfl (lv_sub hl [0, 1, 2, 3, 4] rfl) ⟨by omega, by omega⟩ ⟨by omega, by omega⟩ ⟨by omega, by omega⟩ ⟨by omega, by omega⟩ hI hS
  have J_30 : ∀ (H : Heap) (locs : List Loc) (ls : Array Slot)  , lv_has ls 6 [(0, .ref h0), (1, .int x1), (2, .int x2), (3, .int x3)] → th_I (okM E) D G [] H → va_S (th_A G) s.heap H locs → W p l e R s m args below meth c H locs 0 0 QF (F0 m 30 ls []) := by
    intro H locs ls   hl  hI hS
    refine lv_iconst (v := (-1)) hx hb dX12_meet_30 (by decide) ?_
    have hpost : True := trivial
    rw [hQ]
    exact W.iret (v := (-1)) hx hb hr (fun t ht hW => ⟨⟨(-1), (-1), rfl, rfl, ⟨by rw [ht]; exact hI, hN.warm hW, va_K.moved hW.alike hK⟩, by first | (rw [ht]; exact hpost) | exact hpost⟩, hS.F ht⟩) hS.2.2 dX12_meet_31
  refine lv_aload_n hx hb dX12_meet_0 rfl (lv_at hl 0 rfl) ?_
  refine lv_iload_n hx hb dX12_meet_1 rfl (lv_at hl 1 rfl) ?_
  refine mr_i (As := [.int x1]) (rest := []) (n := 1) (d := 1) ⟨hx, hb, hml, hown, hts⟩ (c_X12_isBoat l E D G s.heap h0 hG0 x1) wd_1681 wd_1683 wp_78 wd_13 wd_1684 (by decide +kernel) ⟨by rw [hR]; exact Nat.le_of_ble_eq_true rfl, by rw [hR]; exact Nat.le_of_ble_eq_true rfl⟩ hI hN hK hS hG0 rfl hl.1 rfl (Nat.le_of_ble_eq_true rfl) dX12_meet_2 ⟨Nat.zero_le _, Nat.zero_le _⟩ (fun r494 locs hp hS => ?_)
  rcases hp with ⟨rfl, hp⟩ | ⟨rfl, hp⟩
  · skip
    try simp only [rg, not_and, Int.not_le] at hp
    have hp495 := hp
    refine lv_if_eq (tgt := 30) hx hb dX12_meet_5 (by decide) (fun c => absurd c (by decide)) (fun _ => ?_)
    refine lv_aload_n hx hb dX12_meet_8 rfl (lv_at hl 0 rfl) ?_
    refine lv_iload_n hx hb dX12_meet_9 rfl (lv_at hl 2 rfl) ?_
    refine mr_i (As := [.int x2]) (rest := []) (n := 1) (d := 1) ⟨hx, hb, hml, hown, hts⟩ (c_X12_isBoat l E D G s.heap h0 hG0 x2) wd_1681 wd_1683 wp_78 wd_13 wd_1684 (by decide +kernel) ⟨by rw [hR]; exact Nat.le_of_ble_eq_true rfl, by rw [hR]; exact Nat.le_of_ble_eq_true rfl⟩ hI hN hK hS hG0 rfl hl.1 rfl (Nat.le_of_ble_eq_true rfl) dX12_meet_10 ⟨Nat.zero_le _, Nat.zero_le _⟩ (fun r496 locs hp hS => ?_)
    rcases hp with ⟨rfl, hp⟩ | ⟨rfl, hp⟩
    · skip
      try simp only [rg, not_and, Int.not_le] at hp
      have hp497 := hp
      refine lv_if_eq (tgt := 30) hx hb dX12_meet_13 (by decide) (fun c => absurd c (by decide)) (fun _ => ?_)
      refine lv_iload_n hx hb dX12_meet_16 rfl (lv_at hl 1 rfl) ?_
      refine lv_iload_n hx hb dX12_meet_17 rfl (lv_at hl 2 rfl) ?_
      refine lv_icmp_eq (tgt := 30) hx hb dX12_meet_18 (by decide) (fun c498 => ?_) (fun c498 => ?_)
      · skip
        have k499 := iv_eq (X := x1.toInt) (Y := x2.toInt) rfl rfl c498
        exact J_30 s.heap locs ls   (lv_sub hl [0, 1, 2, 3] rfl)  hI hS
      · skip
        have k500 := iv_ne (X := x1.toInt) (Y := x2.toInt) rfl rfl c498
        refine lv_iload_n hx hb dX12_meet_21 rfl (lv_at hl 3 rfl) ?_
        refine lv_iconst (v := 0) hx hb dX12_meet_22 (by decide) ?_
        refine lv_iconst (v := 1) hx hb dX12_meet_23 (by decide) ?_
        refine th_cSs (As := [.int x3, .int 0, .int 1]) (rest := []) (n := 3) (d := 0) ⟨hx, hb, hml, hown, hts⟩ (c_X12_lies l s.heap x3 0 1) wd_1395 wd_1396 wd_13 wd_1397 (by decide +kernel) ⟨by rw [hR]; exact Nat.le_of_ble_eq_true rfl, by rw [hR]; exact Nat.le_of_ble_eq_true rfl⟩ hN hS rfl hl.1 rfl (Nat.le_of_ble_eq_true rfl) dX12_meet_24 ⟨Nat.zero_le _, Nat.zero_le _⟩ (fun r501 locs hp hS => ?_)
        rcases hp with ⟨rfl, hp⟩ | ⟨rfl, hp⟩
        · skip
          try simp only [rg, not_and, Int.not_le] at hp
          have hp502 := hp
          try rw [show (0 : Int32).toInt = 0 from by decide] at hp502
          try rw [show (1 : Int32).toInt = 1 from by decide] at hp502
          refine lv_if_ne (tgt := 32) hx hb dX12_meet_27 (by decide) (fun _ => ?_) (fun c => absurd c (by decide))
          refine lv_aload_n hx hb dX12_meet_32 rfl (lv_at hl 0 rfl) ?_
          refine mx_v (As := []) (rest := []) (n := 0) (d := 68) ⟨hx, hb, hml, hown, hts⟩ (c_X12_looks l E D G h0 hG0 ) wd_1455 wd_1457 wp_43 wd_13 wd_1458 (by decide +kernel) ⟨by rw [hR]; exact Nat.le_of_ble_eq_true rfl, by rw [hR]; exact Nat.le_of_ble_eq_true rfl⟩ hI hN hK hS hG0 (trivial) rfl hl.1 rfl (Nat.le_of_ble_eq_true rfl) dX12_meet_33 ⟨Nat.zero_le _, Nat.zero_le _⟩ (fun H locs hI hp hS => ?_)
          refine lv_aload_n hx hb dX12_meet_36 rfl (lv_at hl 0 rfl) ?_
          refine lv_iload_n hx hb dX12_meet_37 rfl (lv_at hl 1 rfl) ?_
          refine mr_i (As := [.int x1]) (rest := []) (n := 1) (d := 0) ⟨hx, hb, hml, hown, hts⟩ (c_X12_putIn l E D G H h0 hG0 x1 ⟨by omega, by omega⟩) wd_1689 wd_1691 wp_79 wd_13 wd_1692 (by decide +kernel) ⟨by rw [hR]; exact Nat.le_of_ble_eq_true rfl, by rw [hR]; exact Nat.le_of_ble_eq_true rfl⟩ hI hN hK hS hG0 rfl hl.1 rfl (Nat.le_of_ble_eq_true rfl) dX12_meet_38 ⟨Nat.zero_le _, Nat.zero_le _⟩ (fun r504 locs hp hS => ?_)
          have hp505 := hp
          refine lv_aload_n hx hb dX12_meet_41 rfl (lv_at hl 0 rfl) ?_
          refine lv_iload_n hx hb dX12_meet_42 rfl (lv_at hl 2 rfl) ?_
          refine mr_i (As := [.int x2]) (rest := [.int r504]) (n := 1) (d := 0) ⟨hx, hb, hml, hown, hts⟩ (c_X12_putIn l E D G H h0 hG0 x2 ⟨by omega, by omega⟩) wd_1689 wd_1691 wp_79 wd_13 wd_1692 (by decide +kernel) ⟨by rw [hR]; exact Nat.le_of_ble_eq_true rfl, by rw [hR]; exact Nat.le_of_ble_eq_true rfl⟩ hI hN hK hS hG0 rfl hl.1 rfl (Nat.le_of_ble_eq_true rfl) dX12_meet_43 ⟨Nat.zero_le _, Nat.zero_le _⟩ (fun r506 locs hp hS => ?_)
          have hp507 := hp
          refine lv_icmp_le (tgt := 57) hx hb dX12_meet_46 (by decide) (fun c508 => ?_) (fun c508 => ?_)
          · skip
            have k509 := iv_le (X := r504.toInt) (Y := r506.toInt) rfl rfl c508
            refine lv_aload_n hx hb dX12_meet_57 rfl (lv_at hl 0 rfl) ?_
            refine lv_iload_n hx hb dX12_meet_58 rfl (lv_at hl 2 rfl) ?_
            refine mr_i (As := [.int x2]) (rest := []) (n := 1) (d := 0) ⟨hx, hb, hml, hown, hts⟩ (c_X12_putIn l E D G H h0 hG0 x2 ⟨by omega, by omega⟩) wd_1689 wd_1691 wp_79 wd_13 wd_1692 (by decide +kernel) ⟨by rw [hR]; exact Nat.le_of_ble_eq_true rfl, by rw [hR]; exact Nat.le_of_ble_eq_true rfl⟩ hI hN hK hS hG0 rfl hl.1 rfl (Nat.le_of_ble_eq_true rfl) dX12_meet_59 ⟨Nat.zero_le _, Nat.zero_le _⟩ (fun r510 locs hp hS => ?_)
            have hp511 := hp
            exact J_62 H locs ls r510  (lv_sub hl [0, 1, 2, 3] rfl) ⟨by omega, by omega⟩ ⟨by omega, by omega⟩ ⟨by omega, by omega⟩ ⟨by omega, by omega⟩ hI hS
          · skip
            have k512 := iv_nle (X := r504.toInt) (Y := r506.toInt) rfl rfl c508
            refine lv_aload_n hx hb dX12_meet_49 rfl (lv_at hl 0 rfl) ?_
            refine lv_iload_n hx hb dX12_meet_50 rfl (lv_at hl 1 rfl) ?_
            refine mr_i (As := [.int x1]) (rest := []) (n := 1) (d := 0) ⟨hx, hb, hml, hown, hts⟩ (c_X12_putIn l E D G H h0 hG0 x1 ⟨by omega, by omega⟩) wd_1689 wd_1691 wp_79 wd_13 wd_1692 (by decide +kernel) ⟨by rw [hR]; exact Nat.le_of_ble_eq_true rfl, by rw [hR]; exact Nat.le_of_ble_eq_true rfl⟩ hI hN hK hS hG0 rfl hl.1 rfl (Nat.le_of_ble_eq_true rfl) dX12_meet_51 ⟨Nat.zero_le _, Nat.zero_le _⟩ (fun r513 locs hp hS => ?_)
            have hp514 := hp
            refine lv_goto (tgt := 62) hx hb dX12_meet_54 (by decide) ?_
            exact J_62 H locs ls r513  (lv_sub hl [0, 1, 2, 3] rfl) ⟨by omega, by omega⟩ ⟨by omega, by omega⟩ ⟨by omega, by omega⟩ ⟨by omega, by omega⟩ hI hS
        · skip
          try simp only [rg, not_and, Int.not_le] at hp
          have hp515 := hp
          try rw [show (0 : Int32).toInt = 0 from by decide] at hp515
          try rw [show (1 : Int32).toInt = 1 from by decide] at hp515
          refine lv_if_ne (tgt := 32) hx hb dX12_meet_27 (by decide) (fun c => absurd c (by decide)) (fun _ => ?_)
          exact J_30 s.heap locs ls   (lv_sub hl [0, 1, 2, 3] rfl)  hI hS
    · skip
      try simp only [rg, not_and, Int.not_le] at hp
      have hp516 := hp
      refine lv_if_eq (tgt := 30) hx hb dX12_meet_13 (by decide) (fun _ => ?_) (fun c => absurd c (by decide))
      exact J_30 s.heap locs ls   (lv_sub hl [0, 1, 2, 3] rfl)  hI hS
  · skip
    try simp only [rg, not_and, Int.not_le] at hp
    have hp517 := hp
    refine lv_if_eq (tgt := 30) hx hb dX12_meet_5 (by decide) (fun _ => ?_) (fun c => absurd c (by decide))
    exact J_30 s.heap locs ls   (lv_sub hl [0, 1, 2, 3] rfl)  hI hS
theorem dX12_pour_0 : decode cX12_pour 0 = .ok (.iload_n 1, 1) := by decide +kernel
theorem dX12_pour_1 : decode cX12_pour 1 = .ok (.iload_n 2, 1) := by decide +kernel
theorem dX12_pour_2 : decode cX12_pour 2 = .ok (.iload_n 3, 1) := by decide +kernel
theorem dX12_pour_3 : decode cX12_pour 3 = .ok (.iload 4, 2) := by decide +kernel
theorem dX12_pour_5 : decode cX12_pour 5 = .ok (.invokestatic 141, 3) := by decide +kernel
theorem dX12_pour_8 : decode cX12_pour 8 = .ok (.ifCond .ne 9, 3) := by decide +kernel
theorem dX12_pour_11 : decode cX12_pour 11 = .ok (.aload_n 0, 1) := by decide +kernel
theorem dX12_pour_12 : decode cX12_pour 12 = .ok (.iconst (-1), 1) := by decide +kernel
theorem dX12_pour_13 : decode cX12_pour 13 = .ok (.invokevirtual 107, 3) := by decide +kernel
theorem dX12_pour_16 : decode cX12_pour 16 = .ok (.ireturn, 1) := by decide +kernel
theorem dX12_pour_17 : decode cX12_pour 17 = .ok (.aload_n 0, 1) := by decide +kernel
theorem dX12_pour_18 : decode cX12_pour 18 = .ok (.invokevirtual 138, 3) := by decide +kernel
theorem dX12_pour_21 : decode cX12_pour 21 = .ok (.aload_n 0, 1) := by decide +kernel
theorem dX12_pour_22 : decode cX12_pour 22 = .ok (.getfield 64, 3) := by decide +kernel
theorem dX12_pour_25 : decode cX12_pour 25 = .ok (.bipush 24, 2) := by decide +kernel
theorem dX12_pour_27 : decode cX12_pour 27 = .ok (.iload_n 2, 1) := by decide +kernel
theorem dX12_pour_28 : decode cX12_pour 28 = .ok (.imul, 1) := by decide +kernel
theorem dX12_pour_29 : decode cX12_pour 29 = .ok (.iload_n 1, 1) := by decide +kernel
theorem dX12_pour_30 : decode cX12_pour 30 = .ok (.iadd, 1) := by decide +kernel
theorem dX12_pour_31 : decode cX12_pour 31 = .ok (.baload, 1) := by decide +kernel
theorem dX12_pour_32 : decode cX12_pour 32 = .ok (.ifCond .eq 10, 3) := by decide +kernel
theorem dX12_pour_35 : decode cX12_pour 35 = .ok (.aload_n 0, 1) := by decide +kernel
theorem dX12_pour_36 : decode cX12_pour 36 = .ok (.bipush (-3), 2) := by decide +kernel
theorem dX12_pour_38 : decode cX12_pour 38 = .ok (.invokevirtual 107, 3) := by decide +kernel
theorem dX12_pour_41 : decode cX12_pour 41 = .ok (.ireturn, 1) := by decide +kernel
theorem dX12_pour_42 : decode cX12_pour 42 = .ok (.aload_n 0, 1) := by decide +kernel
theorem dX12_pour_43 : decode cX12_pour 43 = .ok (.getfield 20, 3) := by decide +kernel
theorem dX12_pour_46 : decode cX12_pour 46 = .ok (.sipush 311, 3) := by decide +kernel
theorem dX12_pour_49 : decode cX12_pour 49 = .ok (.iaload, 1) := by decide +kernel
theorem dX12_pour_50 : decode cX12_pour 50 = .ok (.bipush 16, 2) := by decide +kernel
theorem dX12_pour_52 : decode cX12_pour 52 = .ok (.if_icmp .ne 10, 3) := by decide +kernel
theorem dX12_pour_55 : decode cX12_pour 55 = .ok (.aload_n 0, 1) := by decide +kernel
theorem dX12_pour_56 : decode cX12_pour 56 = .ok (.bipush (-5), 2) := by decide +kernel
theorem dX12_pour_58 : decode cX12_pour 58 = .ok (.invokevirtual 107, 3) := by decide +kernel
theorem dX12_pour_61 : decode cX12_pour 61 = .ok (.ireturn, 1) := by decide +kernel
theorem dX12_pour_62 : decode cX12_pour 62 = .ok (.aload_n 0, 1) := by decide +kernel
theorem dX12_pour_63 : decode cX12_pour 63 = .ok (.aload_n 0, 1) := by decide +kernel
theorem dX12_pour_64 : decode cX12_pour 64 = .ok (.sipush 160, 3) := by decide +kernel
theorem dX12_pour_67 : decode cX12_pour 67 = .ok (.sipush 311, 3) := by decide +kernel
theorem dX12_pour_70 : decode cX12_pour 70 = .ok (.iconst 4, 1) := by decide +kernel
theorem dX12_pour_71 : decode cX12_pour 71 = .ok (.iload_n 1, 1) := by decide +kernel
theorem dX12_pour_72 : decode cX12_pour 72 = .ok (.iload_n 2, 1) := by decide +kernel
theorem dX12_pour_73 : decode cX12_pour 73 = .ok (.iload_n 3, 1) := by decide +kernel
theorem dX12_pour_74 : decode cX12_pour 74 = .ok (.iload 4, 2) := by decide +kernel
theorem dX12_pour_76 : decode cX12_pour 76 = .ok (.invokevirtual 125, 3) := by decide +kernel
theorem dX12_pour_79 : decode cX12_pour 79 = .ok (.iconst 1, 1) := by decide +kernel
theorem dX12_pour_80 : decode cX12_pour 80 = .ok (.isub, 1) := by decide +kernel
theorem dX12_pour_81 : decode cX12_pour 81 = .ok (.invokevirtual 111, 3) := by decide +kernel
theorem dX12_pour_84 : decode cX12_pour 84 = .ok (.ireturn, 1) := by decide +kernel
set_option maxHeartbeats 4000000 in
set_option maxRecDepth 100000 in
theorem c_X12_pour (l : Launch) (E : Nat → Nat) (D : va_G) (G : th_G) (h0 : Nat) (hG0 : G h0 = some (10, 0)) (x1 : Int32) (x2 : Int32) (x3 : Int32) (x4 : Int32) : Met l yX12_pour (tb (.code yX12_pour cX12_pour 5 (some .int))) (rm 69) (va_Pc [.ref h0, .int x1, .int x2, .int x3, .int x4] (PX E D G (fun H => True))) (QXi E D G (fun r H => True)) 0 0 (th_A G) := by
  refine Met.ofW (cc := cX12_pour) (maxL := 5) (ret := (some .int)) (by decide) rfl ?_
  intro p e s m args below meth c s₁ B hml hv
  obtain ⟨hav, ⟨hI, hN, hK⟩, hX⟩ := hv
  have hx := B.exec
  have hb := B.bytes
  have hr := B.returns
  have hts := atoms_spec (ws := tb (.code yX12_pour cX12_pour 5 (some .int))) B.pre
  have hown : s.vm.findClass RX12 = some m.cls := findClass_of_methodNamed B.named
  have hlocks := B.notSynchronized
  have hS : va_S (th_A G) s.heap s.heap [] := va_S.rf
  have hl := lv_entry ([.ref h0, .int x1, .int x2, .int x3, .int x4]) (n := 5) (Nat.le_of_ble_eq_true rfl)
  rw [show entryFrame m args 5 = entryFrame m ([.ref h0, .int x1, .int x2, .int x3, .int x4] : List Value).toArray 5 from by rw [hav], lg_entry_eq]
  generalize (lg_sl ([.ref h0, .int x1, .int x2, .int x3, .int x4]) ++ List.replicate (5 - (lg_sl ([.ref h0, .int x1, .int x2, .int x3, .int x4])).length) Slot.unset).toArray = ls at hl ⊢
  have hl : lv_has ls 5 [(0, .ref h0), (1, .int x1), (2, .int x2), (3, .int x3), (4, .int x4)] := hl
  generalize hR : (headSpec (tb (.code yX12_pour cX12_pour 5 (some .int))) (rm 69)).room = R
  have hR := hR.symm
  generalize hQ : MQ below (QXi E D G (fun r H => True)) args s 0 0 (th_A G) = QF
  have hQ := hQ.symm
  refine lv_iload_n hx hb dX12_pour_0 rfl (lv_at hl 1 rfl) ?_
  refine lv_iload_n hx hb dX12_pour_1 rfl (lv_at hl 2 rfl) ?_
  refine lv_iload_n hx hb dX12_pour_2 rfl (lv_at hl 3 rfl) ?_
  refine lv_iload hx hb dX12_pour_3 (lv_at hl 4 rfl) ?_
  refine th_cSs (As := [.int x1, .int x2, .int x3, .int x4]) (rest := []) (n := 4) (d := 2) ⟨hx, hb, hml, hown, hts⟩ (c_X12_isPour l s.heap x1 x2 x3 x4) wd_1542 wd_1543 wd_13 wd_1544 (by decide +kernel) ⟨by rw [hR]; exact Nat.le_of_ble_eq_true rfl, by rw [hR]; exact Nat.le_of_ble_eq_true rfl⟩ hN hS rfl hl.1 rfl (Nat.le_of_ble_eq_true rfl) dX12_pour_5 ⟨Nat.zero_le _, Nat.zero_le _⟩ (fun r1 locs hp hS => ?_)
  rcases hp with ⟨rfl, hp⟩ | ⟨rfl, hp⟩
  · skip
    try simp only [rg, not_and, Int.not_le] at hp
    have hp2 := hp
    refine lv_if_ne (tgt := 17) hx hb dX12_pour_8 (by decide) (fun _ => ?_) (fun c => absurd c (by decide))
    refine lv_aload_n hx hb dX12_pour_17 rfl (lv_at hl 0 rfl) ?_
    refine mx_v (As := []) (rest := []) (n := 0) (d := 68) ⟨hx, hb, hml, hown, hts⟩ (c_X12_looks l E D G h0 hG0 ) wd_1455 wd_1457 wp_43 wd_13 wd_1458 (by decide +kernel) ⟨by rw [hR]; exact Nat.le_of_ble_eq_true rfl, by rw [hR]; exact Nat.le_of_ble_eq_true rfl⟩ hI hN hK hS hG0 (trivial) rfl hl.1 rfl (Nat.le_of_ble_eq_true rfl) dX12_pour_18 ⟨Nat.zero_le _, Nat.zero_le _⟩ (fun H locs hI hp hS => ?_)
    refine lv_aload_n hx hb dX12_pour_21 rfl (lv_at hl 0 rfl) ?_
    refine gmA hx hb hts inT12 hown hK hI List.not_mem_nil hG0 26 (by decide) (hts _ (tb_c wd_1259)) rfl rfl dX12_pour_22 (fun a4 hq5 hf6 => ?_)
    refine lv_bipush (v := 24) hx hb dX12_pour_25 (by decide) ?_
    refine lv_iload_n hx hb dX12_pour_27 rfl (lv_at hl 2 rfl) ?_
    refine lv_imul hx hb dX12_pour_28 ?_
    refine lv_topi (fun v7 e8 => ?_)
    have tv7 : v7.toInt = (24) * x2.toInt := iv_mul (by decide) rfl e8 (by omega) (by omega)
    refine lv_iload_n hx hb dX12_pour_29 rfl (lv_at hl 1 rfl) ?_
    refine lv_iadd hx hb dX12_pour_30 ?_
    refine lv_topi (fun v9 e10 => ?_)
    have tv9 : v9.toInt = v7.toInt + x1.toInt := iv_add rfl rfl e10 (by omega) (by omega)
    obtain ⟨F11, hA12⟩ := om_5 hI hq5 List.not_mem_nil
    refine va_zald hx hb hK (th_one hA12) 0 2 rfl rfl (iv_in (X := v9.toInt) rfl (by omega) (by omega)) dX12_pour_31 ?_
    refine lv_topi (fun v13 e14 => ?_)
    have k15 := iv_lo v13
    have k16 := iv_hi v13
    refine lv_if_eq (tgt := 42) hx hb dX12_pour_32 (by decide) (fun c17 => ?_) (fun c17 => ?_)
    · skip
      have k18 := iv_eq (X := v13.toInt) (Y := (0)) rfl (by decide) c17
      refine lv_aload_n hx hb dX12_pour_42 rfl (lv_at hl 0 rfl) ?_
      refine gmA hx hb hts inT12 hown hK hI List.not_mem_nil hG0 3 (by decide) (hts _ (tb_c wd_1236)) rfl rfl dX12_pour_43 (fun a19 hq20 hf21 => ?_)
      refine lv_sipush (v := 311) hx hb dX12_pour_46 (by decide) ?_
      obtain ⟨F22, hA23, hP24⟩ := om_1 hI hq20 List.not_mem_nil
      refine th_iald hx hb hK hA23 0 rfl (iv_in (X := (311)) (by decide) (by omega) (by omega)) dX12_pour_49 (fun v25 e26 => ?_)
      have k27 := kg_m311 (kOk.get (i := 311) hP24 e26 (X := (311)) (by decide) (by omega) (by omega)) (by omega) (by omega) (by omega)
      refine lv_bipush (v := 16) hx hb dX12_pour_50 (by decide) ?_
      refine lv_icmp_ne (tgt := 62) hx hb dX12_pour_52 (by decide) (fun c28 => ?_) (fun c28 => ?_)
      · skip
        have k29 := iv_ne (X := v25.toInt) (Y := (16)) rfl (by decide) c28
        refine lv_aload_n hx hb dX12_pour_62 rfl (lv_at hl 0 rfl) ?_
        refine lv_aload_n hx hb dX12_pour_63 rfl (lv_at hl 0 rfl) ?_
        refine lv_sipush (v := 160) hx hb dX12_pour_64 (by decide) ?_
        refine lv_sipush (v := 311) hx hb dX12_pour_67 (by decide) ?_
        refine lv_iconst (v := 4) hx hb dX12_pour_70 (by decide) ?_
        refine lv_iload_n hx hb dX12_pour_71 rfl (lv_at hl 1 rfl) ?_
        refine lv_iload_n hx hb dX12_pour_72 rfl (lv_at hl 2 rfl) ?_
        refine lv_iload_n hx hb dX12_pour_73 rfl (lv_at hl 3 rfl) ?_
        refine lv_iload hx hb dX12_pour_74 (lv_at hl 4 rfl) ?_
        refine mx_i (As := [.int 160, .int 311, .int 4, .int x1, .int x2, .int x3, .int x4]) (rest := [.ref h0]) (n := 7) (d := 0) ⟨hx, hb, hml, hown, hts⟩ (c_X12_comesBehind_311 l E D G h0 hG0 x1 x2 x3 x4 ⟨by omega, by omega⟩ ⟨by omega, by omega⟩ F22 hP24 (lt_of_rd e26 rfl (by omega))) wd_1435 wd_1437 wp_42 wd_13 wd_1438 (by decide +kernel) ⟨by rw [hR]; exact Nat.le_of_ble_eq_true rfl, by rw [hR]; exact Nat.le_of_ble_eq_true rfl⟩ hI hN hK hS hG0 (⟨a19, hf21, hq20, hA23⟩) rfl hl.1 rfl (Nat.le_of_ble_eq_true rfl) dX12_pour_76 ⟨Nat.zero_le _, Nat.zero_le _⟩ (fun r30 H locs hI hp hS => ?_)
        refine lv_iconst (v := 1) hx hb dX12_pour_79 (by decide) ?_
        refine lv_isub hx hb dX12_pour_80 ?_
        refine lv_topi (fun v31 e32 => ?_)
        try have tv31 : v31.toInt = r30.toInt - (1) := iv_sub rfl (by decide) e32 (by omega) (by omega)
        refine mx_i (As := [.int v31]) (rest := []) (n := 1) (d := 0) ⟨hx, hb, hml, hown, hts⟩ (c_X12_good l E D G h0 hG0 v31) wd_1402 wd_1404 wp_41 wd_13 wd_1405 (by decide +kernel) ⟨by rw [hR]; exact Nat.le_of_ble_eq_true rfl, by rw [hR]; exact Nat.le_of_ble_eq_true rfl⟩ hI hN hK hS hG0 (trivial) rfl hl.1 rfl (Nat.le_of_ble_eq_true rfl) dX12_pour_81 ⟨Nat.zero_le _, Nat.zero_le _⟩ (fun r33 H locs hI hp hS => ?_)
        obtain rfl := hp.symm
        have hpost : True := trivial
        rw [hQ]
        exact W.iret (v := v31) hx hb hr (fun t ht hW => ⟨⟨v31, v31, rfl, rfl, ⟨by rw [ht]; exact hI, hN.warm hW, va_K.moved hW.alike hK⟩, by first | (rw [ht]; exact hpost) | exact hpost⟩, hS.F ht⟩) hS.2.2 dX12_pour_84
      · skip
        have k34 := iv_eq (X := v25.toInt) (Y := (16)) rfl (by decide) c28
        refine lv_aload_n hx hb dX12_pour_55 rfl (lv_at hl 0 rfl) ?_
        refine lv_bipush (v := (-5)) hx hb dX12_pour_56 (by decide) ?_
        refine mx_i (As := [.int (-5)]) (rest := []) (n := 1) (d := 0) ⟨hx, hb, hml, hown, hts⟩ (c_X12_refuses l E D G h0 hG0 (-5) ⟨by decide, by decide⟩) wd_1398 wd_1400 wp_40 wd_13 wd_1401 (by decide +kernel) ⟨by rw [hR]; exact Nat.le_of_ble_eq_true rfl, by rw [hR]; exact Nat.le_of_ble_eq_true rfl⟩ hI hN hK hS hG0 (trivial) rfl hl.1 rfl (Nat.le_of_ble_eq_true rfl) dX12_pour_58 ⟨Nat.zero_le _, Nat.zero_le _⟩ (fun r35 H locs hI hp hS => ?_)
        obtain rfl := hp.symm
        have hpost : True := trivial
        rw [hQ]
        exact W.iret (v := (-5)) hx hb hr (fun t ht hW => ⟨⟨(-5), (-5), rfl, rfl, ⟨by rw [ht]; exact hI, hN.warm hW, va_K.moved hW.alike hK⟩, by first | (rw [ht]; exact hpost) | exact hpost⟩, hS.F ht⟩) hS.2.2 dX12_pour_61
    · skip
      have k36 := iv_ne (X := v13.toInt) (Y := (0)) rfl (by decide) c17
      refine lv_aload_n hx hb dX12_pour_35 rfl (lv_at hl 0 rfl) ?_
      refine lv_bipush (v := (-3)) hx hb dX12_pour_36 (by decide) ?_
      refine mx_i (As := [.int (-3)]) (rest := []) (n := 1) (d := 0) ⟨hx, hb, hml, hown, hts⟩ (c_X12_refuses l E D G h0 hG0 (-3) ⟨by decide, by decide⟩) wd_1398 wd_1400 wp_40 wd_13 wd_1401 (by decide +kernel) ⟨by rw [hR]; exact Nat.le_of_ble_eq_true rfl, by rw [hR]; exact Nat.le_of_ble_eq_true rfl⟩ hI hN hK hS hG0 (trivial) rfl hl.1 rfl (Nat.le_of_ble_eq_true rfl) dX12_pour_38 ⟨Nat.zero_le _, Nat.zero_le _⟩ (fun r37 H locs hI hp hS => ?_)
      obtain rfl := hp.symm
      have hpost : True := trivial
      rw [hQ]
      exact W.iret (v := (-3)) hx hb hr (fun t ht hW => ⟨⟨(-3), (-3), rfl, rfl, ⟨by rw [ht]; exact hI, hN.warm hW, va_K.moved hW.alike hK⟩, by first | (rw [ht]; exact hpost) | exact hpost⟩, hS.F ht⟩) hS.2.2 dX12_pour_41
  · skip
    try simp only [rg, not_and, Int.not_le] at hp
    have hp38 := hp
    refine lv_if_ne (tgt := 17) hx hb dX12_pour_8 (by decide) (fun c => absurd c (by decide)) (fun _ => ?_)
    refine lv_aload_n hx hb dX12_pour_11 rfl (lv_at hl 0 rfl) ?_
    refine lv_iconst (v := (-1)) hx hb dX12_pour_12 (by decide) ?_
    refine mx_i (As := [.int (-1)]) (rest := []) (n := 1) (d := 0) ⟨hx, hb, hml, hown, hts⟩ (c_X12_refuses l E D G h0 hG0 (-1) ⟨by decide, by decide⟩) wd_1398 wd_1400 wp_40 wd_13 wd_1401 (by decide +kernel) ⟨by rw [hR]; exact Nat.le_of_ble_eq_true rfl, by rw [hR]; exact Nat.le_of_ble_eq_true rfl⟩ hI hN hK hS hG0 (trivial) rfl hl.1 rfl (Nat.le_of_ble_eq_true rfl) dX12_pour_13 ⟨Nat.zero_le _, Nat.zero_le _⟩ (fun r39 H locs hI hp hS => ?_)
    obtain rfl := hp.symm
    have hpost : True := trivial
    rw [hQ]
    exact W.iret (v := (-1)) hx hb hr (fun t ht hW => ⟨⟨(-1), (-1), rfl, rfl, ⟨by rw [ht]; exact hI, hN.warm hW, va_K.moved hW.alike hK⟩, by first | (rw [ht]; exact hpost) | exact hpost⟩, hS.F ht⟩) hS.2.2 dX12_pour_16
theorem dX12_undo_0 : decode cX12_undo 0 = .ok (.aload_n 0, 1) := by decide +kernel
theorem dX12_undo_1 : decode cX12_undo 1 = .ok (.getfield 20, 3) := by decide +kernel
theorem dX12_undo_4 : decode cX12_undo 4 = .ok (.sipush 311, 3) := by decide +kernel
theorem dX12_undo_7 : decode cX12_undo 7 = .ok (.iaload, 1) := by decide +kernel
theorem dX12_undo_8 : decode cX12_undo 8 = .ok (.ifCond .ne 10, 3) := by decide +kernel
theorem dX12_undo_11 : decode cX12_undo 11 = .ok (.aload_n 0, 1) := by decide +kernel
theorem dX12_undo_12 : decode cX12_undo 12 = .ok (.bipush (-3), 2) := by decide +kernel
theorem dX12_undo_14 : decode cX12_undo 14 = .ok (.invokevirtual 107, 3) := by decide +kernel
theorem dX12_undo_17 : decode cX12_undo 17 = .ok (.ireturn, 1) := by decide +kernel
theorem dX12_undo_18 : decode cX12_undo 18 = .ok (.aload_n 0, 1) := by decide +kernel
theorem dX12_undo_19 : decode cX12_undo 19 = .ok (.getfield 20, 3) := by decide +kernel
theorem dX12_undo_22 : decode cX12_undo 22 = .ok (.sipush 311, 3) := by decide +kernel
theorem dX12_undo_25 : decode cX12_undo 25 = .ok (.dup2, 1) := by decide +kernel
theorem dX12_undo_26 : decode cX12_undo 26 = .ok (.iaload, 1) := by decide +kernel
theorem dX12_undo_27 : decode cX12_undo 27 = .ok (.iconst 1, 1) := by decide +kernel
theorem dX12_undo_28 : decode cX12_undo 28 = .ok (.isub, 1) := by decide +kernel
theorem dX12_undo_29 : decode cX12_undo 29 = .ok (.iastore, 1) := by decide +kernel
theorem dX12_undo_30 : decode cX12_undo 30 = .ok (.aload_n 0, 1) := by decide +kernel
theorem dX12_undo_31 : decode cX12_undo 31 = .ok (.aload_n 0, 1) := by decide +kernel
theorem dX12_undo_32 : decode cX12_undo 32 = .ok (.getfield 20, 3) := by decide +kernel
theorem dX12_undo_35 : decode cX12_undo 35 = .ok (.sipush 311, 3) := by decide +kernel
theorem dX12_undo_38 : decode cX12_undo 38 = .ok (.iaload, 1) := by decide +kernel
theorem dX12_undo_39 : decode cX12_undo 39 = .ok (.invokevirtual 111, 3) := by decide +kernel
theorem dX12_undo_42 : decode cX12_undo 42 = .ok (.ireturn, 1) := by decide +kernel
set_option maxHeartbeats 4000000 in
set_option maxRecDepth 100000 in
theorem c_X12_undo (l : Launch) (E : Nat → Nat) (D : va_G) (G : th_G) (h0 : Nat) (hG0 : G h0 = some (10, 0)) : Met l yX12_undo (tb (.code yX12_undo cX12_undo 1 (some .int))) (rm 1) (va_Pc [.ref h0] (PX E D G (fun H => True))) (QXi E D G (fun r H => True)) 0 0 (th_A G) := by
  refine Met.ofW (cc := cX12_undo) (maxL := 1) (ret := (some .int)) (by decide) rfl ?_
  intro p e s m args below meth c s₁ B hml hv
  obtain ⟨hav, ⟨hI, hN, hK⟩, hX⟩ := hv
  have hx := B.exec
  have hb := B.bytes
  have hr := B.returns
  have hts := atoms_spec (ws := tb (.code yX12_undo cX12_undo 1 (some .int))) B.pre
  have hown : s.vm.findClass RX12 = some m.cls := findClass_of_methodNamed B.named
  have hlocks := B.notSynchronized
  have hS : va_S (th_A G) s.heap s.heap [] := va_S.rf
  have hl := lv_entry ([.ref h0]) (n := 1) (Nat.le_of_ble_eq_true rfl)
  rw [show entryFrame m args 1 = entryFrame m ([.ref h0] : List Value).toArray 1 from by rw [hav], lg_entry_eq]
  generalize (lg_sl ([.ref h0]) ++ List.replicate (1 - (lg_sl ([.ref h0])).length) Slot.unset).toArray = ls at hl ⊢
  have hl : lv_has ls 1 [(0, .ref h0)] := hl
  generalize hR : (headSpec (tb (.code yX12_undo cX12_undo 1 (some .int))) (rm 1)).room = R
  have hR := hR.symm
  generalize hQ : MQ below (QXi E D G (fun r H => True)) args s 0 0 (th_A G) = QF
  have hQ := hQ.symm
  refine lv_aload_n hx hb dX12_undo_0 rfl (lv_at hl 0 rfl) ?_
  refine gmA hx hb hts inT12 hown hK hI List.not_mem_nil hG0 3 (by decide) (hts _ (tb_c wd_1236)) rfl rfl dX12_undo_1 (fun a1 hq2 hf3 => ?_)
  refine lv_sipush (v := 311) hx hb dX12_undo_4 (by decide) ?_
  obtain ⟨F4, hA5, hP6⟩ := om_1 hI hq2 List.not_mem_nil
  refine th_iald hx hb hK hA5 0 rfl (iv_in (X := (311)) (by decide) (by omega) (by omega)) dX12_undo_7 (fun v7 e8 => ?_)
  have k9 := kg_m311 (kOk.get (i := 311) hP6 e8 (X := (311)) (by decide) (by omega) (by omega)) (by omega) (by omega) (by omega)
  refine lv_if_ne (tgt := 18) hx hb dX12_undo_8 (by decide) (fun c10 => ?_) (fun c10 => ?_)
  · skip
    have k11 := iv_ne (X := v7.toInt) (Y := (0)) rfl (by decide) c10
    refine lv_aload_n hx hb dX12_undo_18 rfl (lv_at hl 0 rfl) ?_
    refine gmA hx hb hts inT12 hown hK hI List.not_mem_nil hG0 3 (by decide) (hts _ (tb_c wd_1236)) rfl rfl dX12_undo_19 (fun a12 hq13 hf14 => ?_)
    obtain rfl := fr.uniq (by decide) hf3 hf14
    refine lv_sipush (v := 311) hx hb dX12_undo_22 (by decide) ?_
    refine lv_dup2_11 hx hb dX12_undo_25 rfl rfl ?_
    refine th_iald hx hb hK hA5 0 rfl (iv_in (X := (311)) (by decide) (by omega) (by omega)) dX12_undo_26 (fun v15 e16 => ?_)
    obtain rfl := (rd_same (i := 311) (j := 311) e8 e16 (X := (311)) (Y := (311)) (by decide) (by decide) (by omega)).symm
    refine lv_iconst (v := 1) hx hb dX12_undo_27 (by decide) ?_
    refine lv_isub hx hb dX12_undo_28 ?_
    refine lv_topi (fun v17 e18 => ?_)
    have tv17 : v17.toInt = v7.toInt - (1) := iv_sub rfl (by decide) e18 (by omega) (by omega)
    refine th_iast hx hb hK hA5 0 rfl hS ⟨_, hq2⟩ (iv_in (X := (311)) (by decide) (by omega) (by omega)) dX12_undo_29 (fun H locs hA19 oq hS => ?_)
    have hP20 := kOk.set (i := 311) (v := v17) hP6 (X := (311)) (V := v17.toInt) (by decide) rfl (by omega) (by omega) (ks_m311 (by omega) (by omega) (by omega) ⟨by omega, by omega⟩)
    have hI := th_I.put hI hq2 hA19 (ok_m1 hP20) oq
    have hf3 := fr.arr hG0 hq2 (by decide) oq hf3
    have e21 : v17 = (upd F4 (311 : Int32).toNatClampNeg v17) (311 : Int32).toNatClampNeg := rd_us
    refine lv_aload_n hx hb dX12_undo_30 rfl (lv_at hl 0 rfl) ?_
    refine lv_aload_n hx hb dX12_undo_31 rfl (lv_at hl 0 rfl) ?_
    refine gmA hx hb hts inT12 hown hK hI List.not_mem_nil hG0 3 (by decide) (hts _ (tb_c wd_1236)) rfl rfl dX12_undo_32 (fun a22 hq23 hf24 => ?_)
    obtain rfl := fr.uniq (by decide) hf3 hf24
    refine lv_sipush (v := 311) hx hb dX12_undo_35 (by decide) ?_
    refine th_iald hx hb hK hA19 0 rfl (iv_in (X := (311)) (by decide) (by omega) (by omega)) dX12_undo_38 (fun v25 e26 => ?_)
    obtain rfl := (rd_same (i := 311) (j := 311) e21 e26 (X := (311)) (Y := (311)) (by decide) (by decide) (by omega)).symm
    refine mx_i (As := [.int v17]) (rest := []) (n := 1) (d := 0) ⟨hx, hb, hml, hown, hts⟩ (c_X12_good l E D G h0 hG0 v17) wd_1402 wd_1404 wp_41 wd_13 wd_1405 (by decide +kernel) ⟨by rw [hR]; exact Nat.le_of_ble_eq_true rfl, by rw [hR]; exact Nat.le_of_ble_eq_true rfl⟩ hI hN hK hS hG0 (trivial) rfl hl.1 rfl (Nat.le_of_ble_eq_true rfl) dX12_undo_39 ⟨Nat.zero_le _, Nat.zero_le _⟩ (fun r27 H locs hI hp hS => ?_)
    obtain rfl := hp.symm
    have hpost : True := trivial
    rw [hQ]
    exact W.iret (v := v17) hx hb hr (fun t ht hW => ⟨⟨v17, v17, rfl, rfl, ⟨by rw [ht]; exact hI, hN.warm hW, va_K.moved hW.alike hK⟩, by first | (rw [ht]; exact hpost) | exact hpost⟩, hS.F ht⟩) hS.2.2 dX12_undo_42
  · skip
    have k28 := iv_eq (X := v7.toInt) (Y := (0)) rfl (by decide) c10
    refine lv_aload_n hx hb dX12_undo_11 rfl (lv_at hl 0 rfl) ?_
    refine lv_bipush (v := (-3)) hx hb dX12_undo_12 (by decide) ?_
    refine mx_i (As := [.int (-3)]) (rest := []) (n := 1) (d := 0) ⟨hx, hb, hml, hown, hts⟩ (c_X12_refuses l E D G h0 hG0 (-3) ⟨by decide, by decide⟩) wd_1398 wd_1400 wp_40 wd_13 wd_1401 (by decide +kernel) ⟨by rw [hR]; exact Nat.le_of_ble_eq_true rfl, by rw [hR]; exact Nat.le_of_ble_eq_true rfl⟩ hI hN hK hS hG0 (trivial) rfl hl.1 rfl (Nat.le_of_ble_eq_true rfl) dX12_undo_14 ⟨Nat.zero_le _, Nat.zero_le _⟩ (fun r29 H locs hI hp hS => ?_)
    obtain rfl := hp.symm
    have hpost : True := trivial
    rw [hQ]
    exact W.iret (v := (-3)) hx hb hr (fun t ht hW => ⟨⟨(-3), (-3), rfl, rfl, ⟨by rw [ht]; exact hI, hN.warm hW, va_K.moved hW.alike hK⟩, by first | (rw [ht]; exact hpost) | exact hpost⟩, hS.F ht⟩) hS.2.2 dX12_undo_17
theorem dX12_dyeOf_0 : decode cX12_dyeOf 0 = .ok (.iconst 0, 1) := by decide +kernel
theorem dX12_dyeOf_1 : decode cX12_dyeOf 1 = .ok (.istore 4, 2) := by decide +kernel
theorem dX12_dyeOf_3 : decode cX12_dyeOf 3 = .ok (.iconst 0, 1) := by decide +kernel
theorem dX12_dyeOf_4 : decode cX12_dyeOf 4 = .ok (.istore 5, 2) := by decide +kernel
theorem dX12_dyeOf_6 : decode cX12_dyeOf 6 = .ok (.iload 5, 2) := by decide +kernel
theorem dX12_dyeOf_8 : decode cX12_dyeOf 8 = .ok (.aload_n 0, 1) := by decide +kernel
theorem dX12_dyeOf_9 : decode cX12_dyeOf 9 = .ok (.getfield 20, 3) := by decide +kernel
theorem dX12_dyeOf_12 : decode cX12_dyeOf 12 = .ok (.sipush 311, 3) := by decide +kernel
theorem dX12_dyeOf_15 : decode cX12_dyeOf 15 = .ok (.iaload, 1) := by decide +kernel
theorem dX12_dyeOf_16 : decode cX12_dyeOf 16 = .ok (.if_icmp .ge 84, 3) := by decide +kernel
theorem dX12_dyeOf_19 : decode cX12_dyeOf 19 = .ok (.sipush 160, 3) := by decide +kernel
theorem dX12_dyeOf_22 : decode cX12_dyeOf 22 = .ok (.iconst 4, 1) := by decide +kernel
theorem dX12_dyeOf_23 : decode cX12_dyeOf 23 = .ok (.iload 5, 2) := by decide +kernel
theorem dX12_dyeOf_25 : decode cX12_dyeOf 25 = .ok (.imul, 1) := by decide +kernel
theorem dX12_dyeOf_26 : decode cX12_dyeOf 26 = .ok (.iadd, 1) := by decide +kernel
theorem dX12_dyeOf_27 : decode cX12_dyeOf 27 = .ok (.istore 6, 2) := by decide +kernel
theorem dX12_dyeOf_29 : decode cX12_dyeOf 29 = .ok (.aload_n 0, 1) := by decide +kernel
theorem dX12_dyeOf_30 : decode cX12_dyeOf 30 = .ok (.getfield 20, 3) := by decide +kernel
theorem dX12_dyeOf_33 : decode cX12_dyeOf 33 = .ok (.iload 6, 2) := by decide +kernel
theorem dX12_dyeOf_35 : decode cX12_dyeOf 35 = .ok (.iconst 2, 1) := by decide +kernel
theorem dX12_dyeOf_36 : decode cX12_dyeOf 36 = .ok (.iadd, 1) := by decide +kernel
theorem dX12_dyeOf_37 : decode cX12_dyeOf 37 = .ok (.iaload, 1) := by decide +kernel
theorem dX12_dyeOf_38 : decode cX12_dyeOf 38 = .ok (.iload_n 3, 1) := by decide +kernel
theorem dX12_dyeOf_39 : decode cX12_dyeOf 39 = .ok (.if_icmp .ne 55, 3) := by decide +kernel
theorem dX12_dyeOf_42 : decode cX12_dyeOf 42 = .ok (.aload_n 0, 1) := by decide +kernel
theorem dX12_dyeOf_43 : decode cX12_dyeOf 43 = .ok (.getfield 20, 3) := by decide +kernel
theorem dX12_dyeOf_46 : decode cX12_dyeOf 46 = .ok (.iload 6, 2) := by decide +kernel
theorem dX12_dyeOf_48 : decode cX12_dyeOf 48 = .ok (.iconst 1, 1) := by decide +kernel
theorem dX12_dyeOf_49 : decode cX12_dyeOf 49 = .ok (.iadd, 1) := by decide +kernel
theorem dX12_dyeOf_50 : decode cX12_dyeOf 50 = .ok (.iaload, 1) := by decide +kernel
theorem dX12_dyeOf_51 : decode cX12_dyeOf 51 = .ok (.iload_n 2, 1) := by decide +kernel
theorem dX12_dyeOf_52 : decode cX12_dyeOf 52 = .ok (.if_icmp .gt 42, 3) := by decide +kernel
theorem dX12_dyeOf_55 : decode cX12_dyeOf 55 = .ok (.aload_n 0, 1) := by decide +kernel
theorem dX12_dyeOf_56 : decode cX12_dyeOf 56 = .ok (.aload_n 0, 1) := by decide +kernel
theorem dX12_dyeOf_57 : decode cX12_dyeOf 57 = .ok (.getfield 20, 3) := by decide +kernel
theorem dX12_dyeOf_60 : decode cX12_dyeOf 60 = .ok (.iload 6, 2) := by decide +kernel
theorem dX12_dyeOf_62 : decode cX12_dyeOf 62 = .ok (.iaload, 1) := by decide +kernel
theorem dX12_dyeOf_63 : decode cX12_dyeOf 63 = .ok (.aload_n 0, 1) := by decide +kernel
theorem dX12_dyeOf_64 : decode cX12_dyeOf 64 = .ok (.getfield 20, 3) := by decide +kernel
theorem dX12_dyeOf_67 : decode cX12_dyeOf 67 = .ok (.iload 6, 2) := by decide +kernel
theorem dX12_dyeOf_69 : decode cX12_dyeOf 69 = .ok (.iconst 1, 1) := by decide +kernel
theorem dX12_dyeOf_70 : decode cX12_dyeOf 70 = .ok (.iadd, 1) := by decide +kernel
theorem dX12_dyeOf_71 : decode cX12_dyeOf 71 = .ok (.iaload, 1) := by decide +kernel
theorem dX12_dyeOf_72 : decode cX12_dyeOf 72 = .ok (.iload_n 2, 1) := by decide +kernel
theorem dX12_dyeOf_73 : decode cX12_dyeOf 73 = .ok (.invokevirtual 301, 3) := by decide +kernel
theorem dX12_dyeOf_76 : decode cX12_dyeOf 76 = .ok (.iload_n 1, 1) := by decide +kernel
theorem dX12_dyeOf_77 : decode cX12_dyeOf 77 = .ok (.if_icmp .ne 17, 3) := by decide +kernel
theorem dX12_dyeOf_80 : decode cX12_dyeOf 80 = .ok (.iload 4, 2) := by decide +kernel
theorem dX12_dyeOf_82 : decode cX12_dyeOf 82 = .ok (.aload_n 0, 1) := by decide +kernel
theorem dX12_dyeOf_83 : decode cX12_dyeOf 83 = .ok (.getfield 20, 3) := by decide +kernel
theorem dX12_dyeOf_86 : decode cX12_dyeOf 86 = .ok (.iload 6, 2) := by decide +kernel
theorem dX12_dyeOf_88 : decode cX12_dyeOf 88 = .ok (.iconst 3, 1) := by decide +kernel
theorem dX12_dyeOf_89 : decode cX12_dyeOf 89 = .ok (.iadd, 1) := by decide +kernel
theorem dX12_dyeOf_90 : decode cX12_dyeOf 90 = .ok (.iaload, 1) := by decide +kernel
theorem dX12_dyeOf_91 : decode cX12_dyeOf 91 = .ok (.iadd, 1) := by decide +kernel
theorem dX12_dyeOf_92 : decode cX12_dyeOf 92 = .ok (.istore 4, 2) := by decide +kernel
theorem dX12_dyeOf_94 : decode cX12_dyeOf 94 = .ok (.iinc 5 1, 3) := by decide +kernel
theorem dX12_dyeOf_97 : decode cX12_dyeOf 97 = .ok (.goto (-91), 3) := by decide +kernel
theorem dX12_dyeOf_100 : decode cX12_dyeOf 100 = .ok (.iload 4, 2) := by decide +kernel
theorem dX12_dyeOf_102 : decode cX12_dyeOf 102 = .ok (.ireturn, 1) := by decide +kernel
set_option maxHeartbeats 4000000 in
set_option maxRecDepth 100000 in
theorem c_X12_dyeOf (l : Launch) (E : Nat → Nat) (D : va_G) (G : th_G) (H0 : Heap) (h0 : Nat) (hG0 : G h0 = some (10, 0)) (x1 : Int32) (x2 : Int32) (x3 : Int32) (hx2 : x2.toInt ≤ 96) : Met l yX12_dyeOf (tb (.code yX12_dyeOf cX12_dyeOf 7 (some .int))) (rm 1) (va_Pc [.ref h0, .int x1, .int x2, .int x3] (PR E D G H0)) (QS H0 (fun r => True)) 0 0 (fun _ => False) := by
  refine Met.ofW (cc := cX12_dyeOf) (maxL := 7) (ret := (some .int)) (by decide) rfl ?_
  intro p e s m args below meth c s₁ B hml hv
  obtain ⟨hav, rfl, hI, hN, hK⟩ := hv
  have hx := B.exec
  have hb := B.bytes
  have hr := B.returns
  have hts := atoms_spec (ws := tb (.code yX12_dyeOf cX12_dyeOf 7 (some .int))) B.pre
  have hown : s.vm.findClass RX12 = some m.cls := findClass_of_methodNamed B.named
  have hlocks := B.notSynchronized
  have hS : va_S (fun _ => False) s.heap s.heap [] := va_S.rf
  have hl := lv_entry ([.ref h0, .int x1, .int x2, .int x3]) (n := 7) (Nat.le_of_ble_eq_true rfl)
  rw [show entryFrame m args 7 = entryFrame m ([.ref h0, .int x1, .int x2, .int x3] : List Value).toArray 7 from by rw [hav], lg_entry_eq]
  generalize (lg_sl ([.ref h0, .int x1, .int x2, .int x3]) ++ List.replicate (7 - (lg_sl ([.ref h0, .int x1, .int x2, .int x3])).length) Slot.unset).toArray = ls at hl ⊢
  have hl : lv_has ls 7 [(0, .ref h0), (1, .int x1), (2, .int x2), (3, .int x3)] := hl
  generalize hR : (headSpec (tb (.code yX12_dyeOf cX12_dyeOf 7 (some .int))) (rm 1)).room = R
  have hR := hR.symm
  generalize hQ : MQ below (QS s.heap (fun r => True)) args s 0 0 (fun _ => False) = QF
  have hQ := hQ.symm
  obtain ⟨q_3, hq_3, hf_3⟩ := fr_of hI hG0 3 (by decide) (kd := (1, 5123)) rfl
  obtain ⟨F_3, hA_3, hP_3⟩ := om_1 hI hq_3 List.not_mem_nil
  have J_6 : ∀ (nn : Nat) (locs : List Loc) (ls : Array Slot) (v1423 : Int32) (v1424 : Int32) , (Int.toNat (16 - v1423.toInt) = nn) → lv_has ls 7 [(5, .int v1423), (4, .int v1424), (0, .ref h0), (1, .int x1), (2, .int x2), (3, .int x3)] → ((0 : Int) ≤ v1423.toInt ∧ v1423.toInt ≤ 16) → (x2.toInt ≤ 96) → va_S (fun _ => False) s.heap s.heap locs → W p l e R s m args below meth c s.heap locs 0 0 QF (F0 m 6 ls []) := by
    intro nn
    induction nn using Nat.strongRecOn with
    | ind nn ih_6 =>
      intro locs ls v1423 v1424  hm hl k1425 k1426 hS
      refine lv_iload hx hb dX12_dyeOf_6 (lv_at hl 0 rfl) ?_
      refine lv_aload_n hx hb dX12_dyeOf_8 rfl (lv_at hl 2 rfl) ?_
      refine gmA hx hb hts inT12 hown hK hI List.not_mem_nil hG0 3 (by decide) (hts _ (tb_c wd_1236)) rfl rfl dX12_dyeOf_9 (fun a1427 hq1428 hf1429 => ?_)
      obtain rfl := fr.uniq (by decide) hf_3 hf1429
      refine lv_sipush (v := 311) hx hb dX12_dyeOf_12 (by decide) ?_
      refine th_iald hx hb hK hA_3 0 rfl (iv_in (X := (311)) (by decide) (by omega) (by omega)) dX12_dyeOf_15 (fun v1430 e1431 => ?_)
      have k1432 := kg_m311 (kOk.get (i := 311) hP_3 e1431 (X := (311)) (by decide) (by omega) (by omega)) (by omega) (by omega) (by omega)
      refine lv_icmp_ge (tgt := 100) hx hb dX12_dyeOf_16 (by decide) (fun c1433 => ?_) (fun c1433 => ?_)
      · skip
        have k1434 := iv_le (X := v1430.toInt) (Y := v1423.toInt) rfl rfl c1433
        refine lv_iload hx hb dX12_dyeOf_100 (lv_at hl 1 rfl) ?_
        have hpost : True := trivial
        rw [hQ]
        exact W.iret (v := v1424) hx hb hr (fun t ht hW => ⟨⟨v1424, (), rfl, hpost, ht⟩, hS.F ht⟩) hS.2.2 dX12_dyeOf_102
      · skip
        have k1435 := iv_nle (X := v1430.toInt) (Y := v1423.toInt) rfl rfl c1433
        refine lv_sipush (v := 160) hx hb dX12_dyeOf_19 (by decide) ?_
        refine lv_iconst (v := 4) hx hb dX12_dyeOf_22 (by decide) ?_
        refine lv_iload hx hb dX12_dyeOf_23 (lv_at hl 0 rfl) ?_
        refine lv_imul hx hb dX12_dyeOf_25 ?_
        refine lv_topi (fun v1436 e1437 => ?_)
        have tv1436 : v1436.toInt = (4) * v1423.toInt := iv_mul (by decide) rfl e1437 (by omega) (by omega)
        refine lv_iadd hx hb dX12_dyeOf_26 ?_
        refine lv_topi (fun v1438 e1439 => ?_)
        have tv1438 : v1438.toInt = (160) + v1436.toInt := iv_add (by decide) rfl e1439 (by omega) (by omega)
        refine lv_istore (lv' := [(6, .int v1438), (5, .int v1423), (4, .int v1424), (0, .ref h0), (1, .int x1), (2, .int x2), (3, .int x3)]) hx hb dX12_dyeOf_27 hl (by decide) rfl (fun ls hl => ?_)
        refine lv_aload_n hx hb dX12_dyeOf_29 rfl (lv_at hl 3 rfl) ?_
        refine gmA hx hb hts inT12 hown hK hI List.not_mem_nil hG0 3 (by decide) (hts _ (tb_c wd_1236)) rfl rfl dX12_dyeOf_30 (fun a1440 hq1441 hf1442 => ?_)
        obtain rfl := fr.uniq (by decide) hf_3 hf1442
        refine lv_iload hx hb dX12_dyeOf_33 (lv_at hl 0 rfl) ?_
        refine lv_iconst (v := 2) hx hb dX12_dyeOf_35 (by decide) ?_
        refine lv_iadd hx hb dX12_dyeOf_36 ?_
        refine lv_topi (fun v1443 e1444 => ?_)
        have tv1443 : v1443.toInt = v1438.toInt + (2) := iv_add rfl (by decide) e1444 (by omega) (by omega)
        refine th_iald hx hb hK hA_3 0 rfl (iv_in (X := v1443.toInt) rfl (by omega) (by omega)) dX12_dyeOf_37 (fun v1445 e1446 => ?_)
        refine lv_iload_n hx hb dX12_dyeOf_38 rfl (lv_at hl 6 rfl) ?_
        have k1447 := iv_lo v1445
        have k1448 := iv_hi v1445
        have k1449 := iv_lo x3
        have k1450 := iv_hi x3
        refine lv_icmp_ne (tgt := 94) hx hb dX12_dyeOf_39 (by decide) (fun c1451 => ?_) (fun c1451 => ?_)
        · skip
          have k1452 := iv_ne (X := v1445.toInt) (Y := x3.toInt) rfl rfl c1451
          obtain ⟨v1453, e1454⟩ : ∃ y : Int32, y = v1423 + (1) := ⟨_, rfl⟩
          have tv1453 : v1453.toInt = v1423.toInt + (1) := iv_add rfl (by decide) e1454 (by omega) (by omega)
          refine lv_iinc (v := v1453) (lv' := [(5, .int v1453), (6, .int v1438), (4, .int v1424), (0, .ref h0), (1, .int x1), (2, .int x2), (3, .int x3)]) hx hb dX12_dyeOf_94 hl (k := 1) rfl (by rw [e1454]; rfl) (by decide) rfl (fun ls hl => ?_)
          refine lv_goto (tgt := 6) hx hb dX12_dyeOf_97 (by decide) ?_
          exact ih_6 _ (by omega) locs ls v1453 v1424  rfl (lv_sub hl [0, 2, 3, 4, 5, 6] rfl) ⟨by omega, by omega⟩ (by omega) hS
        · skip
          have k1455 := iv_eq (X := v1445.toInt) (Y := x3.toInt) rfl rfl c1451
          refine lv_aload_n hx hb dX12_dyeOf_42 rfl (lv_at hl 3 rfl) ?_
          refine gmA hx hb hts inT12 hown hK hI List.not_mem_nil hG0 3 (by decide) (hts _ (tb_c wd_1236)) rfl rfl dX12_dyeOf_43 (fun a1456 hq1457 hf1458 => ?_)
          obtain rfl := fr.uniq (by decide) hf_3 hf1458
          refine lv_iload hx hb dX12_dyeOf_46 (lv_at hl 0 rfl) ?_
          refine lv_iconst (v := 1) hx hb dX12_dyeOf_48 (by decide) ?_
          refine lv_iadd hx hb dX12_dyeOf_49 ?_
          refine lv_topi (fun v1459 e1460 => ?_)
          have tv1459 : v1459.toInt = v1438.toInt + (1) := iv_add rfl (by decide) e1460 (by omega) (by omega)
          refine th_iald hx hb hK hA_3 0 rfl (iv_in (X := v1459.toInt) rfl (by omega) (by omega)) dX12_dyeOf_50 (fun v1461 e1462 => ?_)
          have k1463 := kg_pour1 (kOk.get (i := v1459) hP_3 e1462 (X := v1459.toInt) rfl (by omega) (by omega)) (by omega) (by omega) (by omega)
          refine lv_iload_n hx hb dX12_dyeOf_51 rfl (lv_at hl 5 rfl) ?_
          have k1464 := iv_lo x2
          have k1465 := iv_hi x2
          refine lv_icmp_gt (tgt := 94) hx hb dX12_dyeOf_52 (by decide) (fun c1466 => ?_) (fun c1466 => ?_)
          · skip
            have k1467 := iv_lt (X := x2.toInt) (Y := v1461.toInt) rfl rfl c1466
            obtain ⟨v1468, e1469⟩ : ∃ y : Int32, y = v1423 + (1) := ⟨_, rfl⟩
            have tv1468 : v1468.toInt = v1423.toInt + (1) := iv_add rfl (by decide) e1469 (by omega) (by omega)
            refine lv_iinc (v := v1468) (lv' := [(5, .int v1468), (6, .int v1438), (4, .int v1424), (0, .ref h0), (1, .int x1), (2, .int x2), (3, .int x3)]) hx hb dX12_dyeOf_94 hl (k := 1) rfl (by rw [e1469]; rfl) (by decide) rfl (fun ls hl => ?_)
            refine lv_goto (tgt := 6) hx hb dX12_dyeOf_97 (by decide) ?_
            exact ih_6 _ (by omega) locs ls v1468 v1424  rfl (lv_sub hl [0, 2, 3, 4, 5, 6] rfl) ⟨by omega, by omega⟩ (by omega) hS
          · skip
            have k1470 := iv_nlt (X := x2.toInt) (Y := v1461.toInt) rfl rfl c1466
            refine lv_aload_n hx hb dX12_dyeOf_55 rfl (lv_at hl 3 rfl) ?_
            refine lv_aload_n hx hb dX12_dyeOf_56 rfl (lv_at hl 3 rfl) ?_
            refine gmA hx hb hts inT12 hown hK hI List.not_mem_nil hG0 3 (by decide) (hts _ (tb_c wd_1236)) rfl rfl dX12_dyeOf_57 (fun a1471 hq1472 hf1473 => ?_)
            obtain rfl := fr.uniq (by decide) hf_3 hf1473
            refine lv_iload hx hb dX12_dyeOf_60 (lv_at hl 0 rfl) ?_
            refine th_iald hx hb hK hA_3 0 rfl (iv_in (X := v1438.toInt) rfl (by omega) (by omega)) dX12_dyeOf_62 (fun v1474 e1475 => ?_)
            have k1476 := kg_pour0 (kOk.get (i := v1438) hP_3 e1475 (X := v1438.toInt) rfl (by omega) (by omega)) (by omega) (by omega) (by omega)
            refine lv_aload_n hx hb dX12_dyeOf_63 rfl (lv_at hl 3 rfl) ?_
            refine gmA hx hb hts inT12 hown hK hI List.not_mem_nil hG0 3 (by decide) (hts _ (tb_c wd_1236)) rfl rfl dX12_dyeOf_64 (fun a1477 hq1478 hf1479 => ?_)
            obtain rfl := fr.uniq (by decide) hf_3 hf1479
            refine lv_iload hx hb dX12_dyeOf_67 (lv_at hl 0 rfl) ?_
            refine lv_iconst (v := 1) hx hb dX12_dyeOf_69 (by decide) ?_
            refine lv_iadd hx hb dX12_dyeOf_70 ?_
            refine lv_topi (fun v1480 e1481 => ?_)
            have tv1480 : v1480.toInt = v1438.toInt + (1) := iv_add rfl (by decide) e1481 (by omega) (by omega)
            refine th_iald hx hb hK hA_3 0 rfl (iv_in (X := v1480.toInt) rfl (by omega) (by omega)) dX12_dyeOf_71 (fun v1482 e1483 => ?_)
            obtain rfl := (rd_same (i := v1459) (j := v1480) e1462 e1483 (X := v1459.toInt) (Y := v1480.toInt) rfl rfl (by omega)).symm
            refine lv_iload_n hx hb dX12_dyeOf_72 rfl (lv_at hl 5 rfl) ?_
            refine mr_i (As := [.int v1474, .int v1461, .int x2]) (rest := []) (n := 3) (d := 0) ⟨hx, hb, hml, hown, hts⟩ (c_X12_floats l E D G s.heap h0 hG0 v1474 v1461 x2 ⟨by omega, by omega⟩ (by omega) (by omega)) wd_1658 wd_1660 wp_77 wd_13 wd_1661 (by decide +kernel) ⟨by rw [hR]; exact Nat.le_of_ble_eq_true rfl, by rw [hR]; exact Nat.le_of_ble_eq_true rfl⟩ hI hN hK hS hG0 rfl hl.1 rfl (Nat.le_of_ble_eq_true rfl) dX12_dyeOf_73 ⟨Nat.zero_le _, Nat.zero_le _⟩ (fun r1484 locs hp hS => ?_)
            have hp1485 := hp
            refine lv_iload_n hx hb dX12_dyeOf_76 rfl (lv_at hl 4 rfl) ?_
            have k1486 := iv_lo x1
            have k1487 := iv_hi x1
            refine lv_icmp_ne (tgt := 94) hx hb dX12_dyeOf_77 (by decide) (fun c1488 => ?_) (fun c1488 => ?_)
            · skip
              have k1489 := iv_ne (X := r1484.toInt) (Y := x1.toInt) rfl rfl c1488
              obtain ⟨v1490, e1491⟩ : ∃ y : Int32, y = v1423 + (1) := ⟨_, rfl⟩
              have tv1490 : v1490.toInt = v1423.toInt + (1) := iv_add rfl (by decide) e1491 (by omega) (by omega)
              refine lv_iinc (v := v1490) (lv' := [(5, .int v1490), (6, .int v1438), (4, .int v1424), (0, .ref h0), (1, .int x1), (2, .int x2), (3, .int x3)]) hx hb dX12_dyeOf_94 hl (k := 1) rfl (by rw [e1491]; rfl) (by decide) rfl (fun ls hl => ?_)
              refine lv_goto (tgt := 6) hx hb dX12_dyeOf_97 (by decide) ?_
              exact ih_6 _ (by omega) locs ls v1490 v1424  rfl (lv_sub hl [0, 2, 3, 4, 5, 6] rfl) ⟨by omega, by omega⟩ (by omega) hS
            · skip
              have k1492 := iv_eq (X := r1484.toInt) (Y := x1.toInt) rfl rfl c1488
              refine lv_iload hx hb dX12_dyeOf_80 (lv_at hl 2 rfl) ?_
              refine lv_aload_n hx hb dX12_dyeOf_82 rfl (lv_at hl 3 rfl) ?_
              refine gmA hx hb hts inT12 hown hK hI List.not_mem_nil hG0 3 (by decide) (hts _ (tb_c wd_1236)) rfl rfl dX12_dyeOf_83 (fun a1493 hq1494 hf1495 => ?_)
              obtain rfl := fr.uniq (by decide) hf_3 hf1495
              refine lv_iload hx hb dX12_dyeOf_86 (lv_at hl 0 rfl) ?_
              refine lv_iconst (v := 3) hx hb dX12_dyeOf_88 (by decide) ?_
              refine lv_iadd hx hb dX12_dyeOf_89 ?_
              refine lv_topi (fun v1496 e1497 => ?_)
              have tv1496 : v1496.toInt = v1438.toInt + (3) := iv_add rfl (by decide) e1497 (by omega) (by omega)
              refine th_iald hx hb hK hA_3 0 rfl (iv_in (X := v1496.toInt) rfl (by omega) (by omega)) dX12_dyeOf_90 (fun v1498 e1499 => ?_)
              refine lv_iadd hx hb dX12_dyeOf_91 ?_
              refine lv_topi (fun v1500 e1501 => ?_)
              try have tv1500 : v1500.toInt = v1424.toInt + v1498.toInt := iv_add rfl rfl e1501 (by omega) (by omega)
              refine lv_istore (lv' := [(4, .int v1500), (6, .int v1438), (5, .int v1423), (0, .ref h0), (1, .int x1), (2, .int x2), (3, .int x3)]) hx hb dX12_dyeOf_92 hl (by decide) rfl (fun ls hl => ?_)
              obtain ⟨v1502, e1503⟩ : ∃ y : Int32, y = v1423 + (1) := ⟨_, rfl⟩
              have tv1502 : v1502.toInt = v1423.toInt + (1) := iv_add rfl (by decide) e1503 (by omega) (by omega)
              refine lv_iinc (v := v1502) (lv' := [(5, .int v1502), (4, .int v1500), (6, .int v1438), (0, .ref h0), (1, .int x1), (2, .int x2), (3, .int x3)]) hx hb dX12_dyeOf_94 hl (k := 2) rfl (by rw [e1503]; rfl) (by decide) rfl (fun ls hl => ?_)
              refine lv_goto (tgt := 6) hx hb dX12_dyeOf_97 (by decide) ?_
              exact ih_6 _ (by omega) locs ls v1502 v1500  rfl (lv_sub hl [0, 1, 3, 4, 5, 6] rfl) ⟨by omega, by omega⟩ (by omega) hS
  refine lv_iconst (v := 0) hx hb dX12_dyeOf_0 (by decide) ?_
  refine lv_istore (lv' := [(4, .int 0), (0, .ref h0), (1, .int x1), (2, .int x2), (3, .int x3)]) hx hb dX12_dyeOf_1 hl (by decide) rfl (fun ls hl => ?_)
  refine lv_iconst (v := 0) hx hb dX12_dyeOf_3 (by decide) ?_
  refine lv_istore (lv' := [(5, .int 0), (4, .int 0), (0, .ref h0), (1, .int x1), (2, .int x2), (3, .int x3)]) hx hb dX12_dyeOf_4 hl (by decide) rfl (fun ls hl => ?_)
  have zl : (0 : Int32).toInt = 0 := by decide
  exact J_6 _ [] ls 0 0  rfl (lv_sub hl [0, 1, 2, 3, 4, 5] rfl) ⟨by decide, by decide⟩ (by omega) hS
theorem dX12_dye_0 : decode cX12_dye 0 = .ok (.iload_n 1, 1) := by decide +kernel
theorem dX12_dye_1 : decode cX12_dye 1 = .ok (.invokestatic 304, 3) := by decide +kernel
theorem dX12_dye_4 : decode cX12_dye 4 = .ok (.ifCond .eq 17, 3) := by decide +kernel
theorem dX12_dye_7 : decode cX12_dye 7 = .ok (.iload_n 2, 1) := by decide +kernel
theorem dX12_dye_8 : decode cX12_dye 8 = .ok (.invokestatic 298, 3) := by decide +kernel
theorem dX12_dye_11 : decode cX12_dye 11 = .ok (.ifCond .eq 10, 3) := by decide +kernel
theorem dX12_dye_14 : decode cX12_dye 14 = .ok (.iload_n 3, 1) := by decide +kernel
theorem dX12_dye_15 : decode cX12_dye 15 = .ok (.invokestatic 129, 3) := by decide +kernel
theorem dX12_dye_18 : decode cX12_dye 18 = .ok (.ifCond .ne 5, 3) := by decide +kernel
theorem dX12_dye_21 : decode cX12_dye 21 = .ok (.iconst (-1), 1) := by decide +kernel
theorem dX12_dye_22 : decode cX12_dye 22 = .ok (.ireturn, 1) := by decide +kernel
theorem dX12_dye_23 : decode cX12_dye 23 = .ok (.aload_n 0, 1) := by decide +kernel
theorem dX12_dye_24 : decode cX12_dye 24 = .ok (.invokevirtual 138, 3) := by decide +kernel
theorem dX12_dye_27 : decode cX12_dye 27 = .ok (.aload_n 0, 1) := by decide +kernel
theorem dX12_dye_28 : decode cX12_dye 28 = .ok (.iload_n 1, 1) := by decide +kernel
theorem dX12_dye_29 : decode cX12_dye 29 = .ok (.iload_n 2, 1) := by decide +kernel
theorem dX12_dye_30 : decode cX12_dye 30 = .ok (.iload_n 3, 1) := by decide +kernel
theorem dX12_dye_31 : decode cX12_dye 31 = .ok (.invokevirtual 322, 3) := by decide +kernel
theorem dX12_dye_34 : decode cX12_dye 34 = .ok (.ireturn, 1) := by decide +kernel
set_option maxHeartbeats 4000000 in
set_option maxRecDepth 100000 in
theorem c_X12_dye (l : Launch) (E : Nat → Nat) (D : va_G) (G : th_G) (h0 : Nat) (hG0 : G h0 = some (10, 0)) (x1 : Int32) (x2 : Int32) (x3 : Int32) : Met l yX12_dye (tb (.code yX12_dye cX12_dye 4 (some .int))) (rm 69) (va_Pc [.ref h0, .int x1, .int x2, .int x3] (PX E D G (fun H => True))) (QXi E D G (fun r H => True)) 0 0 (th_A G) := by
  refine Met.ofW (cc := cX12_dye) (maxL := 4) (ret := (some .int)) (by decide) rfl ?_
  intro p e s m args below meth c s₁ B hml hv
  obtain ⟨hav, ⟨hI, hN, hK⟩, hX⟩ := hv
  have hx := B.exec
  have hb := B.bytes
  have hr := B.returns
  have hts := atoms_spec (ws := tb (.code yX12_dye cX12_dye 4 (some .int))) B.pre
  have hown : s.vm.findClass RX12 = some m.cls := findClass_of_methodNamed B.named
  have hlocks := B.notSynchronized
  have hS : va_S (th_A G) s.heap s.heap [] := va_S.rf
  have hl := lv_entry ([.ref h0, .int x1, .int x2, .int x3]) (n := 4) (Nat.le_of_ble_eq_true rfl)
  rw [show entryFrame m args 4 = entryFrame m ([.ref h0, .int x1, .int x2, .int x3] : List Value).toArray 4 from by rw [hav], lg_entry_eq]
  generalize (lg_sl ([.ref h0, .int x1, .int x2, .int x3]) ++ List.replicate (4 - (lg_sl ([.ref h0, .int x1, .int x2, .int x3])).length) Slot.unset).toArray = ls at hl ⊢
  have hl : lv_has ls 4 [(0, .ref h0), (1, .int x1), (2, .int x2), (3, .int x3)] := hl
  generalize hR : (headSpec (tb (.code yX12_dye cX12_dye 4 (some .int))) (rm 69)).room = R
  have hR := hR.symm
  generalize hQ : MQ below (QXi E D G (fun r H => True)) args s 0 0 (th_A G) = QF
  have hQ := hQ.symm
  have J_21 : ∀ (H : Heap) (locs : List Loc) (ls : Array Slot)  , lv_has ls 4 [(0, .ref h0), (1, .int x1), (2, .int x2), (3, .int x3)] → th_I (okM E) D G [] H → va_S (th_A G) s.heap H locs → W p l e R s m args below meth c H locs 0 0 QF (F0 m 21 ls []) := by
    intro H locs ls   hl  hI hS
    refine lv_iconst (v := (-1)) hx hb dX12_dye_21 (by decide) ?_
    have hpost : True := trivial
    rw [hQ]
    exact W.iret (v := (-1)) hx hb hr (fun t ht hW => ⟨⟨(-1), (-1), rfl, rfl, ⟨by rw [ht]; exact hI, hN.warm hW, va_K.moved hW.alike hK⟩, by first | (rw [ht]; exact hpost) | exact hpost⟩, hS.F ht⟩) hS.2.2 dX12_dye_22
  refine lv_iload_n hx hb dX12_dye_0 rfl (lv_at hl 1 rfl) ?_
  refine th_cSs (As := [.int x1]) (rest := []) (n := 1) (d := 1) ⟨hx, hb, hml, hown, hts⟩ (c_X12_isPlace l s.heap x1) wd_1670 wd_1671 wd_13 wd_1672 (by decide +kernel) ⟨by rw [hR]; exact Nat.le_of_ble_eq_true rfl, by rw [hR]; exact Nat.le_of_ble_eq_true rfl⟩ hN hS rfl hl.1 rfl (Nat.le_of_ble_eq_true rfl) dX12_dye_1 ⟨Nat.zero_le _, Nat.zero_le _⟩ (fun r89 locs hp hS => ?_)
  rcases hp with ⟨rfl, hp⟩ | ⟨rfl, hp⟩
  · skip
    try simp only [rg, not_and, Int.not_le] at hp
    have hp90 := hp
    refine lv_if_eq (tgt := 21) hx hb dX12_dye_4 (by decide) (fun c => absurd c (by decide)) (fun _ => ?_)
    refine lv_iload_n hx hb dX12_dye_7 rfl (lv_at hl 2 rfl) ?_
    refine th_cSs (As := [.int x2]) (rest := []) (n := 1) (d := 1) ⟨hx, hb, hml, hown, hts⟩ (c_X12_isTime l s.heap x2) wd_1655 wd_1656 wd_13 wd_1657 (by decide +kernel) ⟨by rw [hR]; exact Nat.le_of_ble_eq_true rfl, by rw [hR]; exact Nat.le_of_ble_eq_true rfl⟩ hN hS rfl hl.1 rfl (Nat.le_of_ble_eq_true rfl) dX12_dye_8 ⟨Nat.zero_le _, Nat.zero_le _⟩ (fun r91 locs hp hS => ?_)
    rcases hp with ⟨rfl, hp⟩ | ⟨rfl, hp⟩
    · skip
      try simp only [rg, not_and, Int.not_le] at hp
      have hp92 := hp
      refine lv_if_eq (tgt := 21) hx hb dX12_dye_11 (by decide) (fun c => absurd c (by decide)) (fun _ => ?_)
      refine lv_iload_n hx hb dX12_dye_14 rfl (lv_at hl 3 rfl) ?_
      refine th_cSs (As := [.int x3]) (rest := []) (n := 1) (d := 1) ⟨hx, hb, hml, hown, hts⟩ (c_X12_isColour l s.heap x3) wd_1545 wd_1546 wd_13 wd_1547 (by decide +kernel) ⟨by rw [hR]; exact Nat.le_of_ble_eq_true rfl, by rw [hR]; exact Nat.le_of_ble_eq_true rfl⟩ hN hS rfl hl.1 rfl (Nat.le_of_ble_eq_true rfl) dX12_dye_15 ⟨Nat.zero_le _, Nat.zero_le _⟩ (fun r93 locs hp hS => ?_)
      rcases hp with ⟨rfl, hp⟩ | ⟨rfl, hp⟩
      · skip
        try simp only [rg, not_and, Int.not_le] at hp
        have hp94 := hp
        refine lv_if_ne (tgt := 23) hx hb dX12_dye_18 (by decide) (fun _ => ?_) (fun c => absurd c (by decide))
        refine lv_aload_n hx hb dX12_dye_23 rfl (lv_at hl 0 rfl) ?_
        refine mx_v (As := []) (rest := []) (n := 0) (d := 68) ⟨hx, hb, hml, hown, hts⟩ (c_X12_looks l E D G h0 hG0 ) wd_1455 wd_1457 wp_43 wd_13 wd_1458 (by decide +kernel) ⟨by rw [hR]; exact Nat.le_of_ble_eq_true rfl, by rw [hR]; exact Nat.le_of_ble_eq_true rfl⟩ hI hN hK hS hG0 (trivial) rfl hl.1 rfl (Nat.le_of_ble_eq_true rfl) dX12_dye_24 ⟨Nat.zero_le _, Nat.zero_le _⟩ (fun H locs hI hp hS => ?_)
        refine lv_aload_n hx hb dX12_dye_27 rfl (lv_at hl 0 rfl) ?_
        refine lv_iload_n hx hb dX12_dye_28 rfl (lv_at hl 1 rfl) ?_
        refine lv_iload_n hx hb dX12_dye_29 rfl (lv_at hl 2 rfl) ?_
        refine lv_iload_n hx hb dX12_dye_30 rfl (lv_at hl 3 rfl) ?_
        refine mr_i (As := [.int x1, .int x2, .int x3]) (rest := []) (n := 3) (d := 1) ⟨hx, hb, hml, hown, hts⟩ (c_X12_dyeOf l E D G H h0 hG0 x1 x2 x3 (by omega)) wd_1717 wd_1719 wp_82 wd_13 wd_1720 (by decide +kernel) ⟨by rw [hR]; exact Nat.le_of_ble_eq_true rfl, by rw [hR]; exact Nat.le_of_ble_eq_true rfl⟩ hI hN hK hS hG0 rfl hl.1 rfl (Nat.le_of_ble_eq_true rfl) dX12_dye_31 ⟨Nat.zero_le _, Nat.zero_le _⟩ (fun r96 locs hp hS => ?_)
        have hpost : True := trivial
        rw [hQ]
        exact W.iret (v := r96) hx hb hr (fun t ht hW => ⟨⟨r96, r96, rfl, rfl, ⟨by rw [ht]; exact hI, hN.warm hW, va_K.moved hW.alike hK⟩, by first | (rw [ht]; exact hpost) | exact hpost⟩, hS.F ht⟩) hS.2.2 dX12_dye_34
      · skip
        try simp only [rg, not_and, Int.not_le] at hp
        have hp97 := hp
        refine lv_if_ne (tgt := 23) hx hb dX12_dye_18 (by decide) (fun c => absurd c (by decide)) (fun _ => ?_)
        exact J_21 s.heap locs ls   (lv_sub hl [0, 1, 2, 3] rfl)  hI hS
    · skip
      try simp only [rg, not_and, Int.not_le] at hp
      have hp98 := hp
      refine lv_if_eq (tgt := 21) hx hb dX12_dye_11 (by decide) (fun _ => ?_) (fun c => absurd c (by decide))
      exact J_21 s.heap locs ls   (lv_sub hl [0, 1, 2, 3] rfl)  hI hS
  · skip
    try simp only [rg, not_and, Int.not_le] at hp
    have hp99 := hp
    refine lv_if_eq (tgt := 21) hx hb dX12_dye_4 (by decide) (fun _ => ?_) (fun c => absurd c (by decide))
    exact J_21 s.heap locs ls   (lv_sub hl [0, 1, 2, 3] rfl)  hI hS
theorem dX12_comes_0 : decode cX12_comes 0 = .ok (.iload_n 1, 1) := by decide +kernel
theorem dX12_comes_1 : decode cX12_comes 1 = .ok (.invokestatic 304, 3) := by decide +kernel
theorem dX12_comes_4 : decode cX12_comes 4 = .ok (.ifCond .eq 17, 3) := by decide +kernel
theorem dX12_comes_7 : decode cX12_comes 7 = .ok (.iload_n 2, 1) := by decide +kernel
theorem dX12_comes_8 : decode cX12_comes 8 = .ok (.invokestatic 129, 3) := by decide +kernel
theorem dX12_comes_11 : decode cX12_comes 11 = .ok (.ifCond .eq 10, 3) := by decide +kernel
theorem dX12_comes_14 : decode cX12_comes 14 = .ok (.iload_n 3, 1) := by decide +kernel
theorem dX12_comes_15 : decode cX12_comes 15 = .ok (.invokestatic 298, 3) := by decide +kernel
theorem dX12_comes_18 : decode cX12_comes 18 = .ok (.ifCond .ne 5, 3) := by decide +kernel
theorem dX12_comes_21 : decode cX12_comes 21 = .ok (.iconst (-1), 1) := by decide +kernel
theorem dX12_comes_22 : decode cX12_comes 22 = .ok (.ireturn, 1) := by decide +kernel
theorem dX12_comes_23 : decode cX12_comes 23 = .ok (.aload_n 0, 1) := by decide +kernel
theorem dX12_comes_24 : decode cX12_comes 24 = .ok (.invokevirtual 138, 3) := by decide +kernel
theorem dX12_comes_27 : decode cX12_comes 27 = .ok (.iload_n 3, 1) := by decide +kernel
theorem dX12_comes_28 : decode cX12_comes 28 = .ok (.istore 4, 2) := by decide +kernel
theorem dX12_comes_30 : decode cX12_comes 30 = .ok (.iload 4, 2) := by decide +kernel
theorem dX12_comes_32 : decode cX12_comes 32 = .ok (.bipush 96, 2) := by decide +kernel
theorem dX12_comes_34 : decode cX12_comes 34 = .ok (.if_icmp .gt 23, 3) := by decide +kernel
theorem dX12_comes_37 : decode cX12_comes 37 = .ok (.aload_n 0, 1) := by decide +kernel
theorem dX12_comes_38 : decode cX12_comes 38 = .ok (.iload_n 1, 1) := by decide +kernel
theorem dX12_comes_39 : decode cX12_comes 39 = .ok (.iload 4, 2) := by decide +kernel
theorem dX12_comes_41 : decode cX12_comes 41 = .ok (.iload_n 2, 1) := by decide +kernel
theorem dX12_comes_42 : decode cX12_comes 42 = .ok (.invokevirtual 322, 3) := by decide +kernel
theorem dX12_comes_45 : decode cX12_comes 45 = .ok (.ifCond .le 6, 3) := by decide +kernel
theorem dX12_comes_48 : decode cX12_comes 48 = .ok (.iload 4, 2) := by decide +kernel
theorem dX12_comes_50 : decode cX12_comes 50 = .ok (.ireturn, 1) := by decide +kernel
theorem dX12_comes_51 : decode cX12_comes 51 = .ok (.iinc 4 1, 3) := by decide +kernel
theorem dX12_comes_54 : decode cX12_comes 54 = .ok (.goto (-24), 3) := by decide +kernel
theorem dX12_comes_57 : decode cX12_comes 57 = .ok (.iconst (-1), 1) := by decide +kernel
theorem dX12_comes_58 : decode cX12_comes 58 = .ok (.ireturn, 1) := by decide +kernel
set_option maxHeartbeats 4000000 in
set_option maxRecDepth 100000 in
theorem c_X12_comes (l : Launch) (E : Nat → Nat) (D : va_G) (G : th_G) (h0 : Nat) (hG0 : G h0 = some (10, 0)) (x1 : Int32) (x2 : Int32) (x3 : Int32) : Met l yX12_comes (tb (.code yX12_comes cX12_comes 5 (some .int))) (rm 69) (va_Pc [.ref h0, .int x1, .int x2, .int x3] (PX E D G (fun H => True))) (QXi E D G (fun r H => True)) 0 0 (th_A G) := by
  refine Met.ofW (cc := cX12_comes) (maxL := 5) (ret := (some .int)) (by decide) rfl ?_
  intro p e s m args below meth c s₁ B hml hv
  obtain ⟨hav, ⟨hI, hN, hK⟩, hX⟩ := hv
  have hx := B.exec
  have hb := B.bytes
  have hr := B.returns
  have hts := atoms_spec (ws := tb (.code yX12_comes cX12_comes 5 (some .int))) B.pre
  have hown : s.vm.findClass RX12 = some m.cls := findClass_of_methodNamed B.named
  have hlocks := B.notSynchronized
  have hS : va_S (th_A G) s.heap s.heap [] := va_S.rf
  have hl := lv_entry ([.ref h0, .int x1, .int x2, .int x3]) (n := 5) (Nat.le_of_ble_eq_true rfl)
  rw [show entryFrame m args 5 = entryFrame m ([.ref h0, .int x1, .int x2, .int x3] : List Value).toArray 5 from by rw [hav], lg_entry_eq]
  generalize (lg_sl ([.ref h0, .int x1, .int x2, .int x3]) ++ List.replicate (5 - (lg_sl ([.ref h0, .int x1, .int x2, .int x3])).length) Slot.unset).toArray = ls at hl ⊢
  have hl : lv_has ls 5 [(0, .ref h0), (1, .int x1), (2, .int x2), (3, .int x3)] := hl
  generalize hR : (headSpec (tb (.code yX12_comes cX12_comes 5 (some .int))) (rm 69)).room = R
  have hR := hR.symm
  generalize hQ : MQ below (QXi E D G (fun r H => True)) args s 0 0 (th_A G) = QF
  have hQ := hQ.symm
  have J_30 : ∀ (nn : Nat) (H : Heap) (locs : List Loc) (ls : Array Slot) (v186 : Int32) , (Int.toNat (97 - v186.toInt) = nn) → lv_has ls 5 [(4, .int v186), (0, .ref h0), (1, .int x1), (2, .int x2), (3, .int x3)] → ((0 : Int) ≤ v186.toInt ∧ v186.toInt ≤ 97) → ((0 : Int) ≤ x1.toInt ∧ x1.toInt ≤ 24) → ((0 : Int) ≤ x2.toInt ∧ x2.toInt ≤ 3) → ((0 : Int) ≤ x3.toInt ∧ x3.toInt ≤ 96) → th_I (okM E) D G [] H → va_S (th_A G) s.heap H locs → W p l e R s m args below meth c H locs 0 0 QF (F0 m 30 ls []) := by
    intro nn
    induction nn using Nat.strongRecOn with
    | ind nn ih_30 =>
      intro H locs ls v186  hm hl k187 k188 k189 k190 hI hS
      refine lv_iload hx hb dX12_comes_30 (lv_at hl 0 rfl) ?_
      refine lv_bipush (v := 96) hx hb dX12_comes_32 (by decide) ?_
      refine lv_icmp_gt (tgt := 57) hx hb dX12_comes_34 (by decide) (fun c191 => ?_) (fun c191 => ?_)
      · skip
        have k192 := iv_lt (X := (96)) (Y := v186.toInt) (by decide) rfl c191
        refine lv_iconst (v := (-1)) hx hb dX12_comes_57 (by decide) ?_
        have hpost : True := trivial
        rw [hQ]
        exact W.iret (v := (-1)) hx hb hr (fun t ht hW => ⟨⟨(-1), (-1), rfl, rfl, ⟨by rw [ht]; exact hI, hN.warm hW, va_K.moved hW.alike hK⟩, by first | (rw [ht]; exact hpost) | exact hpost⟩, hS.F ht⟩) hS.2.2 dX12_comes_58
      · skip
        have k193 := iv_nlt (X := (96)) (Y := v186.toInt) (by decide) rfl c191
        refine lv_aload_n hx hb dX12_comes_37 rfl (lv_at hl 1 rfl) ?_
        refine lv_iload_n hx hb dX12_comes_38 rfl (lv_at hl 2 rfl) ?_
        refine lv_iload hx hb dX12_comes_39 (lv_at hl 0 rfl) ?_
        refine lv_iload_n hx hb dX12_comes_41 rfl (lv_at hl 3 rfl) ?_
        refine mr_i (As := [.int x1, .int v186, .int x2]) (rest := []) (n := 3) (d := 1) ⟨hx, hb, hml, hown, hts⟩ (c_X12_dyeOf l E D G H h0 hG0 x1 v186 x2 (by omega)) wd_1717 wd_1719 wp_82 wd_13 wd_1720 (by decide +kernel) ⟨by rw [hR]; exact Nat.le_of_ble_eq_true rfl, by rw [hR]; exact Nat.le_of_ble_eq_true rfl⟩ hI hN hK hS hG0 rfl hl.1 rfl (Nat.le_of_ble_eq_true rfl) dX12_comes_42 ⟨Nat.zero_le _, Nat.zero_le _⟩ (fun r194 locs hp hS => ?_)
        have k195 := iv_lo r194
        have k196 := iv_hi r194
        refine lv_if_le (tgt := 51) hx hb dX12_comes_45 (by decide) (fun c197 => ?_) (fun c197 => ?_)
        · skip
          have k198 := iv_le (X := r194.toInt) (Y := (0)) rfl (by decide) c197
          obtain ⟨v199, e200⟩ : ∃ y : Int32, y = v186 + (1) := ⟨_, rfl⟩
          have tv199 : v199.toInt = v186.toInt + (1) := iv_add rfl (by decide) e200 (by omega) (by omega)
          refine lv_iinc (v := v199) (lv' := [(4, .int v199), (0, .ref h0), (1, .int x1), (2, .int x2), (3, .int x3)]) hx hb dX12_comes_51 hl (k := 0) rfl (by rw [e200]; rfl) (by decide) rfl (fun ls hl => ?_)
          refine lv_goto (tgt := 30) hx hb dX12_comes_54 (by decide) ?_
          exact ih_30 _ (by omega) H locs ls v199  rfl (lv_sub hl [0, 1, 2, 3, 4] rfl) ⟨by omega, by omega⟩ ⟨by omega, by omega⟩ ⟨by omega, by omega⟩ ⟨by omega, by omega⟩ hI hS
        · skip
          have k201 := iv_nle (X := r194.toInt) (Y := (0)) rfl (by decide) c197
          refine lv_iload hx hb dX12_comes_48 (lv_at hl 0 rfl) ?_
          have hpost : True := trivial
          rw [hQ]
          exact W.iret (v := v186) hx hb hr (fun t ht hW => ⟨⟨v186, v186, rfl, rfl, ⟨by rw [ht]; exact hI, hN.warm hW, va_K.moved hW.alike hK⟩, by first | (rw [ht]; exact hpost) | exact hpost⟩, hS.F ht⟩) hS.2.2 dX12_comes_50
  have J_21 : ∀ (H : Heap) (locs : List Loc) (ls : Array Slot)  , lv_has ls 5 [(0, .ref h0), (1, .int x1), (2, .int x2), (3, .int x3)] → th_I (okM E) D G [] H → va_S (th_A G) s.heap H locs → W p l e R s m args below meth c H locs 0 0 QF (F0 m 21 ls []) := by
    intro H locs ls   hl  hI hS
    refine lv_iconst (v := (-1)) hx hb dX12_comes_21 (by decide) ?_
    have hpost : True := trivial
    rw [hQ]
    exact W.iret (v := (-1)) hx hb hr (fun t ht hW => ⟨⟨(-1), (-1), rfl, rfl, ⟨by rw [ht]; exact hI, hN.warm hW, va_K.moved hW.alike hK⟩, by first | (rw [ht]; exact hpost) | exact hpost⟩, hS.F ht⟩) hS.2.2 dX12_comes_22
  refine lv_iload_n hx hb dX12_comes_0 rfl (lv_at hl 1 rfl) ?_
  refine th_cSs (As := [.int x1]) (rest := []) (n := 1) (d := 1) ⟨hx, hb, hml, hown, hts⟩ (c_X12_isPlace l s.heap x1) wd_1670 wd_1671 wd_13 wd_1672 (by decide +kernel) ⟨by rw [hR]; exact Nat.le_of_ble_eq_true rfl, by rw [hR]; exact Nat.le_of_ble_eq_true rfl⟩ hN hS rfl hl.1 rfl (Nat.le_of_ble_eq_true rfl) dX12_comes_1 ⟨Nat.zero_le _, Nat.zero_le _⟩ (fun r202 locs hp hS => ?_)
  rcases hp with ⟨rfl, hp⟩ | ⟨rfl, hp⟩
  · skip
    try simp only [rg, not_and, Int.not_le] at hp
    have hp203 := hp
    refine lv_if_eq (tgt := 21) hx hb dX12_comes_4 (by decide) (fun c => absurd c (by decide)) (fun _ => ?_)
    refine lv_iload_n hx hb dX12_comes_7 rfl (lv_at hl 2 rfl) ?_
    refine th_cSs (As := [.int x2]) (rest := []) (n := 1) (d := 1) ⟨hx, hb, hml, hown, hts⟩ (c_X12_isColour l s.heap x2) wd_1545 wd_1546 wd_13 wd_1547 (by decide +kernel) ⟨by rw [hR]; exact Nat.le_of_ble_eq_true rfl, by rw [hR]; exact Nat.le_of_ble_eq_true rfl⟩ hN hS rfl hl.1 rfl (Nat.le_of_ble_eq_true rfl) dX12_comes_8 ⟨Nat.zero_le _, Nat.zero_le _⟩ (fun r204 locs hp hS => ?_)
    rcases hp with ⟨rfl, hp⟩ | ⟨rfl, hp⟩
    · skip
      try simp only [rg, not_and, Int.not_le] at hp
      have hp205 := hp
      refine lv_if_eq (tgt := 21) hx hb dX12_comes_11 (by decide) (fun c => absurd c (by decide)) (fun _ => ?_)
      refine lv_iload_n hx hb dX12_comes_14 rfl (lv_at hl 3 rfl) ?_
      refine th_cSs (As := [.int x3]) (rest := []) (n := 1) (d := 1) ⟨hx, hb, hml, hown, hts⟩ (c_X12_isTime l s.heap x3) wd_1655 wd_1656 wd_13 wd_1657 (by decide +kernel) ⟨by rw [hR]; exact Nat.le_of_ble_eq_true rfl, by rw [hR]; exact Nat.le_of_ble_eq_true rfl⟩ hN hS rfl hl.1 rfl (Nat.le_of_ble_eq_true rfl) dX12_comes_15 ⟨Nat.zero_le _, Nat.zero_le _⟩ (fun r206 locs hp hS => ?_)
      rcases hp with ⟨rfl, hp⟩ | ⟨rfl, hp⟩
      · skip
        try simp only [rg, not_and, Int.not_le] at hp
        have hp207 := hp
        refine lv_if_ne (tgt := 23) hx hb dX12_comes_18 (by decide) (fun _ => ?_) (fun c => absurd c (by decide))
        refine lv_aload_n hx hb dX12_comes_23 rfl (lv_at hl 0 rfl) ?_
        refine mx_v (As := []) (rest := []) (n := 0) (d := 68) ⟨hx, hb, hml, hown, hts⟩ (c_X12_looks l E D G h0 hG0 ) wd_1455 wd_1457 wp_43 wd_13 wd_1458 (by decide +kernel) ⟨by rw [hR]; exact Nat.le_of_ble_eq_true rfl, by rw [hR]; exact Nat.le_of_ble_eq_true rfl⟩ hI hN hK hS hG0 (trivial) rfl hl.1 rfl (Nat.le_of_ble_eq_true rfl) dX12_comes_24 ⟨Nat.zero_le _, Nat.zero_le _⟩ (fun H locs hI hp hS => ?_)
        refine lv_iload_n hx hb dX12_comes_27 rfl (lv_at hl 3 rfl) ?_
        refine lv_istore (lv' := [(4, .int x3), (0, .ref h0), (1, .int x1), (2, .int x2), (3, .int x3)]) hx hb dX12_comes_28 hl (by decide) rfl (fun ls hl => ?_)
        exact J_30 _ H locs ls x3  rfl (lv_sub hl [0, 1, 2, 3, 4] rfl) ⟨by omega, by omega⟩ ⟨by omega, by omega⟩ ⟨by omega, by omega⟩ ⟨by omega, by omega⟩ hI hS
      · skip
        try simp only [rg, not_and, Int.not_le] at hp
        have hp209 := hp
        refine lv_if_ne (tgt := 23) hx hb dX12_comes_18 (by decide) (fun c => absurd c (by decide)) (fun _ => ?_)
        exact J_21 s.heap locs ls   (lv_sub hl [0, 1, 2, 3] rfl)  hI hS
    · skip
      try simp only [rg, not_and, Int.not_le] at hp
      have hp210 := hp
      refine lv_if_eq (tgt := 21) hx hb dX12_comes_11 (by decide) (fun _ => ?_) (fun c => absurd c (by decide))
      exact J_21 s.heap locs ls   (lv_sub hl [0, 1, 2, 3] rfl)  hI hS
  · skip
    try simp only [rg, not_and, Int.not_le] at hp
    have hp211 := hp
    refine lv_if_eq (tgt := 21) hx hb dX12_comes_4 (by decide) (fun _ => ?_) (fun c => absurd c (by decide))
    exact J_21 s.heap locs ls   (lv_sub hl [0, 1, 2, 3] rfl)  hI hS
theorem dX12_most_0 : decode cX12_most 0 = .ok (.iload_n 1, 1) := by decide +kernel
theorem dX12_most_1 : decode cX12_most 1 = .ok (.invokestatic 298, 3) := by decide +kernel
theorem dX12_most_4 : decode cX12_most 4 = .ok (.ifCond .eq 19, 3) := by decide +kernel
theorem dX12_most_7 : decode cX12_most 7 = .ok (.iload_n 2, 1) := by decide +kernel
theorem dX12_most_8 : decode cX12_most 8 = .ok (.invokestatic 129, 3) := by decide +kernel
theorem dX12_most_11 : decode cX12_most 11 = .ok (.ifCond .eq 12, 3) := by decide +kernel
theorem dX12_most_14 : decode cX12_most 14 = .ok (.iload_n 3, 1) := by decide +kernel
theorem dX12_most_15 : decode cX12_most 15 = .ok (.iconst 0, 1) := by decide +kernel
theorem dX12_most_16 : decode cX12_most 16 = .ok (.iconst 1, 1) := by decide +kernel
theorem dX12_most_17 : decode cX12_most 17 = .ok (.invokestatic 103, 3) := by decide +kernel
theorem dX12_most_20 : decode cX12_most 20 = .ok (.ifCond .ne 5, 3) := by decide +kernel
theorem dX12_most_23 : decode cX12_most 23 = .ok (.iconst (-1), 1) := by decide +kernel
theorem dX12_most_24 : decode cX12_most 24 = .ok (.ireturn, 1) := by decide +kernel
theorem dX12_most_25 : decode cX12_most 25 = .ok (.aload_n 0, 1) := by decide +kernel
theorem dX12_most_26 : decode cX12_most 26 = .ok (.invokevirtual 138, 3) := by decide +kernel
theorem dX12_most_29 : decode cX12_most 29 = .ok (.iconst (-1), 1) := by decide +kernel
theorem dX12_most_30 : decode cX12_most 30 = .ok (.istore 4, 2) := by decide +kernel
theorem dX12_most_32 : decode cX12_most 32 = .ok (.iconst 0, 1) := by decide +kernel
theorem dX12_most_33 : decode cX12_most 33 = .ok (.istore 5, 2) := by decide +kernel
theorem dX12_most_35 : decode cX12_most 35 = .ok (.iconst 0, 1) := by decide +kernel
theorem dX12_most_36 : decode cX12_most 36 = .ok (.istore 6, 2) := by decide +kernel
theorem dX12_most_38 : decode cX12_most 38 = .ok (.iconst 0, 1) := by decide +kernel
theorem dX12_most_39 : decode cX12_most 39 = .ok (.istore 7, 2) := by decide +kernel
theorem dX12_most_41 : decode cX12_most 41 = .ok (.iload 7, 2) := by decide +kernel
theorem dX12_most_43 : decode cX12_most 43 = .ok (.bipush 24, 2) := by decide +kernel
theorem dX12_most_45 : decode cX12_most 45 = .ok (.if_icmp .ge 52, 3) := by decide +kernel
theorem dX12_most_48 : decode cX12_most 48 = .ok (.aload_n 0, 1) := by decide +kernel
theorem dX12_most_49 : decode cX12_most 49 = .ok (.iload 7, 2) := by decide +kernel
theorem dX12_most_51 : decode cX12_most 51 = .ok (.iload_n 1, 1) := by decide +kernel
theorem dX12_most_52 : decode cX12_most 52 = .ok (.iload_n 2, 1) := by decide +kernel
theorem dX12_most_53 : decode cX12_most 53 = .ok (.invokevirtual 322, 3) := by decide +kernel
theorem dX12_most_56 : decode cX12_most 56 = .ok (.istore 8, 2) := by decide +kernel
theorem dX12_most_58 : decode cX12_most 58 = .ok (.iload 6, 2) := by decide +kernel
theorem dX12_most_60 : decode cX12_most 60 = .ok (.iload 8, 2) := by decide +kernel
theorem dX12_most_62 : decode cX12_most 62 = .ok (.ifCond .le 7, 3) := by decide +kernel
theorem dX12_most_65 : decode cX12_most 65 = .ok (.iconst 1, 1) := by decide +kernel
theorem dX12_most_66 : decode cX12_most 66 = .ok (.goto 4, 3) := by decide +kernel
theorem dX12_most_69 : decode cX12_most 69 = .ok (.iconst 0, 1) := by decide +kernel
theorem dX12_most_70 : decode cX12_most 70 = .ok (.iadd, 1) := by decide +kernel
theorem dX12_most_71 : decode cX12_most 71 = .ok (.istore 6, 2) := by decide +kernel
theorem dX12_most_73 : decode cX12_most 73 = .ok (.iload 8, 2) := by decide +kernel
theorem dX12_most_75 : decode cX12_most 75 = .ok (.iload 5, 2) := by decide +kernel
theorem dX12_most_77 : decode cX12_most 77 = .ok (.if_icmp .gt 6, 3) := by decide +kernel
theorem dX12_most_80 : decode cX12_most 80 = .ok (.goto 11, 3) := by decide +kernel
theorem dX12_most_83 : decode cX12_most 83 = .ok (.iload 8, 2) := by decide +kernel
theorem dX12_most_85 : decode cX12_most 85 = .ok (.istore 5, 2) := by decide +kernel
theorem dX12_most_87 : decode cX12_most 87 = .ok (.iload 7, 2) := by decide +kernel
theorem dX12_most_89 : decode cX12_most 89 = .ok (.istore 4, 2) := by decide +kernel
theorem dX12_most_91 : decode cX12_most 91 = .ok (.iinc 7 1, 3) := by decide +kernel
theorem dX12_most_94 : decode cX12_most 94 = .ok (.goto (-53), 3) := by decide +kernel
theorem dX12_most_97 : decode cX12_most 97 = .ok (.iload_n 3, 1) := by decide +kernel
theorem dX12_most_98 : decode cX12_most 98 = .ok (.ifCond .ne 8, 3) := by decide +kernel
theorem dX12_most_101 : decode cX12_most 101 = .ok (.iload 4, 2) := by decide +kernel
theorem dX12_most_103 : decode cX12_most 103 = .ok (.goto 5, 3) := by decide +kernel
theorem dX12_most_106 : decode cX12_most 106 = .ok (.iload 6, 2) := by decide +kernel
theorem dX12_most_108 : decode cX12_most 108 = .ok (.ireturn, 1) := by decide +kernel
set_option maxHeartbeats 4000000 in
set_option maxRecDepth 100000 in
theorem c_X12_most (l : Launch) (E : Nat → Nat) (D : va_G) (G : th_G) (h0 : Nat) (hG0 : G h0 = some (10, 0)) (x1 : Int32) (x2 : Int32) (x3 : Int32) : Met l yX12_most (tb (.code yX12_most cX12_most 9 (some .int))) (rm 69) (va_Pc [.ref h0, .int x1, .int x2, .int x3] (PX E D G (fun H => True))) (QXi E D G (fun r H => True)) 0 0 (th_A G) := by
  refine Met.ofW (cc := cX12_most) (maxL := 9) (ret := (some .int)) (by decide) rfl ?_
  intro p e s m args below meth c s₁ B hml hv
  obtain ⟨hav, ⟨hI, hN, hK⟩, hX⟩ := hv
  have hx := B.exec
  have hb := B.bytes
  have hr := B.returns
  have hts := atoms_spec (ws := tb (.code yX12_most cX12_most 9 (some .int))) B.pre
  have hown : s.vm.findClass RX12 = some m.cls := findClass_of_methodNamed B.named
  have hlocks := B.notSynchronized
  have hS : va_S (th_A G) s.heap s.heap [] := va_S.rf
  have hl := lv_entry ([.ref h0, .int x1, .int x2, .int x3]) (n := 9) (Nat.le_of_ble_eq_true rfl)
  rw [show entryFrame m args 9 = entryFrame m ([.ref h0, .int x1, .int x2, .int x3] : List Value).toArray 9 from by rw [hav], lg_entry_eq]
  generalize (lg_sl ([.ref h0, .int x1, .int x2, .int x3]) ++ List.replicate (9 - (lg_sl ([.ref h0, .int x1, .int x2, .int x3])).length) Slot.unset).toArray = ls at hl ⊢
  have hl : lv_has ls 9 [(0, .ref h0), (1, .int x1), (2, .int x2), (3, .int x3)] := hl
  generalize hR : (headSpec (tb (.code yX12_most cX12_most 9 (some .int))) (rm 69)).room = R
  have hR := hR.symm
  generalize hQ : MQ below (QXi E D G (fun r H => True)) args s 0 0 (th_A G) = QF
  have hQ := hQ.symm
  have J_41 : ∀ (nn : Nat) (H : Heap) (locs : List Loc) (ls : Array Slot) (v2651 : Int32) (v2652 : Int32) (v2653 : Int32) (v2654 : Int32) , (Int.toNat (24 - v2651.toInt) = nn) → lv_has ls 9 [(7, .int v2651), (6, .int v2652), (5, .int v2653), (4, .int v2654), (0, .ref h0), (1, .int x1), (2, .int x2), (3, .int x3)] → ((0 : Int) ≤ v2651.toInt ∧ v2651.toInt ≤ 24) → ((0 : Int) ≤ v2653.toInt) → ((-1 : Int) ≤ v2654.toInt ∧ v2654.toInt ≤ 23) → ((0 : Int) ≤ x1.toInt ∧ x1.toInt ≤ 96) → ((0 : Int) ≤ x2.toInt ∧ x2.toInt ≤ 3) → ((0 : Int) ≤ x3.toInt ∧ x3.toInt ≤ 1) → th_I (okM E) D G [] H → va_S (th_A G) s.heap H locs → W p l e R s m args below meth c H locs 0 0 QF (F0 m 41 ls []) := by
    intro nn
    induction nn using Nat.strongRecOn with
    | ind nn ih_41 =>
      intro H locs ls v2651 v2652 v2653 v2654  hm hl k2655 k2656 k2657 k2658 k2659 k2660 hI hS
      have J_70 : ∀ (H : Heap) (locs : List Loc) (ls : Array Slot) (v2661 : Int32) (v2666 : Int32) (v2667 : Int32) , lv_has ls 9 [(8, .int v2661), (7, .int v2651), (6, .int v2652), (5, .int v2653), (4, .int v2654), (0, .ref h0), (1, .int x1), (2, .int x2), (3, .int x3)] → ((0 : Int) ≤ v2651.toInt ∧ v2651.toInt ≤ 23) → ((0 : Int) ≤ v2666.toInt ∧ v2666.toInt ≤ 1) → th_I (okM E) D G [] H → va_S (th_A G) s.heap H locs → W p l e R s m args below meth c H locs 0 0 QF (F0 m 70 ls [.int v2666, .int v2667]) := by
        intro H locs ls v2661 v2666 v2667  hl k2668 k2669 hI hS
        refine lv_iadd hx hb dX12_most_70 ?_
        refine lv_topi (fun v2670 e2671 => ?_)
        try have tv2670 : v2670.toInt = v2667.toInt + v2666.toInt := iv_add rfl rfl e2671 (by omega) (by omega)
        refine lv_istore (lv' := [(6, .int v2670), (8, .int v2661), (7, .int v2651), (5, .int v2653), (4, .int v2654), (0, .ref h0), (1, .int x1), (2, .int x2), (3, .int x3)]) hx hb dX12_most_71 hl (by decide) rfl (fun ls hl => ?_)
        refine lv_iload hx hb dX12_most_73 (lv_at hl 1 rfl) ?_
        refine lv_iload hx hb dX12_most_75 (lv_at hl 3 rfl) ?_
        have k2672 := iv_lo v2661
        have k2673 := iv_hi v2661
        have k2674 := iv_lo v2653
        have k2675 := iv_hi v2653
        refine lv_icmp_gt (tgt := 83) hx hb dX12_most_77 (by decide) (fun c2676 => ?_) (fun c2676 => ?_)
        · skip
          have k2677 := iv_lt (X := v2653.toInt) (Y := v2661.toInt) rfl rfl c2676
          refine lv_iload hx hb dX12_most_83 (lv_at hl 1 rfl) ?_
          refine lv_istore (lv' := [(5, .int v2661), (6, .int v2670), (8, .int v2661), (7, .int v2651), (4, .int v2654), (0, .ref h0), (1, .int x1), (2, .int x2), (3, .int x3)]) hx hb dX12_most_85 hl (by decide) rfl (fun ls hl => ?_)
          refine lv_iload hx hb dX12_most_87 (lv_at hl 3 rfl) ?_
          refine lv_istore (lv' := [(4, .int v2651), (5, .int v2661), (6, .int v2670), (8, .int v2661), (7, .int v2651), (0, .ref h0), (1, .int x1), (2, .int x2), (3, .int x3)]) hx hb dX12_most_89 hl (by decide) rfl (fun ls hl => ?_)
          obtain ⟨v2678, e2679⟩ : ∃ y : Int32, y = v2651 + (1) := ⟨_, rfl⟩
          have tv2678 : v2678.toInt = v2651.toInt + (1) := iv_add rfl (by decide) e2679 (by omega) (by omega)
          refine lv_iinc (v := v2678) (lv' := [(7, .int v2678), (4, .int v2651), (5, .int v2661), (6, .int v2670), (8, .int v2661), (0, .ref h0), (1, .int x1), (2, .int x2), (3, .int x3)]) hx hb dX12_most_91 hl (k := 4) rfl (by rw [e2679]; rfl) (by decide) rfl (fun ls hl => ?_)
          refine lv_goto (tgt := 41) hx hb dX12_most_94 (by decide) ?_
          exact ih_41 _ (by omega) H locs ls v2678 v2670 v2661 v2651  rfl (lv_sub hl [0, 3, 2, 1, 5, 6, 7, 8] rfl) ⟨by omega, by omega⟩ (by omega) ⟨by omega, by omega⟩ ⟨by omega, by omega⟩ ⟨by omega, by omega⟩ ⟨by omega, by omega⟩ hI hS
        · skip
          have k2680 := iv_nlt (X := v2653.toInt) (Y := v2661.toInt) rfl rfl c2676
          refine lv_goto (tgt := 91) hx hb dX12_most_80 (by decide) ?_
          obtain ⟨v2681, e2682⟩ : ∃ y : Int32, y = v2651 + (1) := ⟨_, rfl⟩
          have tv2681 : v2681.toInt = v2651.toInt + (1) := iv_add rfl (by decide) e2682 (by omega) (by omega)
          refine lv_iinc (v := v2681) (lv' := [(7, .int v2681), (6, .int v2670), (8, .int v2661), (5, .int v2653), (4, .int v2654), (0, .ref h0), (1, .int x1), (2, .int x2), (3, .int x3)]) hx hb dX12_most_91 hl (k := 2) rfl (by rw [e2682]; rfl) (by decide) rfl (fun ls hl => ?_)
          refine lv_goto (tgt := 41) hx hb dX12_most_94 (by decide) ?_
          exact ih_41 _ (by omega) H locs ls v2681 v2670 v2653 v2654  rfl (lv_sub hl [0, 1, 3, 4, 5, 6, 7, 8] rfl) ⟨by omega, by omega⟩ (by omega) ⟨by omega, by omega⟩ ⟨by omega, by omega⟩ ⟨by omega, by omega⟩ ⟨by omega, by omega⟩ hI hS
      refine lv_iload hx hb dX12_most_41 (lv_at hl 0 rfl) ?_
      refine lv_bipush (v := 24) hx hb dX12_most_43 (by decide) ?_
      refine lv_icmp_ge (tgt := 97) hx hb dX12_most_45 (by decide) (fun c2683 => ?_) (fun c2683 => ?_)
      · skip
        have k2684 := iv_le (X := (24)) (Y := v2651.toInt) (by decide) rfl c2683
        refine lv_iload_n hx hb dX12_most_97 rfl (lv_at hl 7 rfl) ?_
        refine lv_if_ne (tgt := 106) hx hb dX12_most_98 (by decide) (fun c2685 => ?_) (fun c2685 => ?_)
        · skip
          have k2686 := iv_ne (X := x3.toInt) (Y := (0)) rfl (by decide) c2685
          refine lv_iload hx hb dX12_most_106 (lv_at hl 1 rfl) ?_
          have hpost : True := trivial
          rw [hQ]
          exact W.iret (v := v2652) hx hb hr (fun t ht hW => ⟨⟨v2652, v2652, rfl, rfl, ⟨by rw [ht]; exact hI, hN.warm hW, va_K.moved hW.alike hK⟩, by first | (rw [ht]; exact hpost) | exact hpost⟩, hS.F ht⟩) hS.2.2 dX12_most_108
        · skip
          have k2687 := iv_eq (X := x3.toInt) (Y := (0)) rfl (by decide) c2685
          refine lv_iload hx hb dX12_most_101 (lv_at hl 3 rfl) ?_
          refine lv_goto (tgt := 108) hx hb dX12_most_103 (by decide) ?_
          have hpost : True := trivial
          rw [hQ]
          exact W.iret (v := v2654) hx hb hr (fun t ht hW => ⟨⟨v2654, v2654, rfl, rfl, ⟨by rw [ht]; exact hI, hN.warm hW, va_K.moved hW.alike hK⟩, by first | (rw [ht]; exact hpost) | exact hpost⟩, hS.F ht⟩) hS.2.2 dX12_most_108
      · skip
        have k2688 := iv_nle (X := (24)) (Y := v2651.toInt) (by decide) rfl c2683
        refine lv_aload_n hx hb dX12_most_48 rfl (lv_at hl 4 rfl) ?_
        refine lv_iload hx hb dX12_most_49 (lv_at hl 0 rfl) ?_
        refine lv_iload_n hx hb dX12_most_51 rfl (lv_at hl 5 rfl) ?_
        refine lv_iload_n hx hb dX12_most_52 rfl (lv_at hl 6 rfl) ?_
        refine mr_i (As := [.int v2651, .int x1, .int x2]) (rest := []) (n := 3) (d := 1) ⟨hx, hb, hml, hown, hts⟩ (c_X12_dyeOf l E D G H h0 hG0 v2651 x1 x2 (by omega)) wd_1717 wd_1719 wp_82 wd_13 wd_1720 (by decide +kernel) ⟨by rw [hR]; exact Nat.le_of_ble_eq_true rfl, by rw [hR]; exact Nat.le_of_ble_eq_true rfl⟩ hI hN hK hS hG0 rfl hl.1 rfl (Nat.le_of_ble_eq_true rfl) dX12_most_53 ⟨Nat.zero_le _, Nat.zero_le _⟩ (fun r2689 locs hp hS => ?_)
        refine lv_istore (lv' := [(8, .int r2689), (7, .int v2651), (6, .int v2652), (5, .int v2653), (4, .int v2654), (0, .ref h0), (1, .int x1), (2, .int x2), (3, .int x3)]) hx hb dX12_most_56 hl (by decide) rfl (fun ls hl => ?_)
        refine lv_iload hx hb dX12_most_58 (lv_at hl 2 rfl) ?_
        refine lv_iload hx hb dX12_most_60 (lv_at hl 0 rfl) ?_
        have k2690 := iv_lo r2689
        have k2691 := iv_hi r2689
        refine lv_if_le (tgt := 69) hx hb dX12_most_62 (by decide) (fun c2692 => ?_) (fun c2692 => ?_)
        · skip
          have k2693 := iv_le (X := r2689.toInt) (Y := (0)) rfl (by decide) c2692
          refine lv_iconst (v := 0) hx hb dX12_most_69 (by decide) ?_
          exact J_70 H locs ls r2689 0 v2652  (lv_sub hl [0, 1, 2, 3, 4, 5, 6, 7, 8] rfl) ⟨by omega, by omega⟩ ⟨by decide, by decide⟩ hI hS
        · skip
          have k2694 := iv_nle (X := r2689.toInt) (Y := (0)) rfl (by decide) c2692
          refine lv_iconst (v := 1) hx hb dX12_most_65 (by decide) ?_
          refine lv_goto (tgt := 70) hx hb dX12_most_66 (by decide) ?_
          exact J_70 H locs ls r2689 1 v2652  (lv_sub hl [0, 1, 2, 3, 4, 5, 6, 7, 8] rfl) ⟨by omega, by omega⟩ ⟨by decide, by decide⟩ hI hS
  have J_23 : ∀ (H : Heap) (locs : List Loc) (ls : Array Slot)  , lv_has ls 9 [(0, .ref h0), (1, .int x1), (2, .int x2), (3, .int x3)] → th_I (okM E) D G [] H → va_S (th_A G) s.heap H locs → W p l e R s m args below meth c H locs 0 0 QF (F0 m 23 ls []) := by
    intro H locs ls   hl  hI hS
    refine lv_iconst (v := (-1)) hx hb dX12_most_23 (by decide) ?_
    have hpost : True := trivial
    rw [hQ]
    exact W.iret (v := (-1)) hx hb hr (fun t ht hW => ⟨⟨(-1), (-1), rfl, rfl, ⟨by rw [ht]; exact hI, hN.warm hW, va_K.moved hW.alike hK⟩, by first | (rw [ht]; exact hpost) | exact hpost⟩, hS.F ht⟩) hS.2.2 dX12_most_24
  refine lv_iload_n hx hb dX12_most_0 rfl (lv_at hl 1 rfl) ?_
  refine th_cSs (As := [.int x1]) (rest := []) (n := 1) (d := 1) ⟨hx, hb, hml, hown, hts⟩ (c_X12_isTime l s.heap x1) wd_1655 wd_1656 wd_13 wd_1657 (by decide +kernel) ⟨by rw [hR]; exact Nat.le_of_ble_eq_true rfl, by rw [hR]; exact Nat.le_of_ble_eq_true rfl⟩ hN hS rfl hl.1 rfl (Nat.le_of_ble_eq_true rfl) dX12_most_1 ⟨Nat.zero_le _, Nat.zero_le _⟩ (fun r2695 locs hp hS => ?_)
  rcases hp with ⟨rfl, hp⟩ | ⟨rfl, hp⟩
  · skip
    try simp only [rg, not_and, Int.not_le] at hp
    have hp2696 := hp
    refine lv_if_eq (tgt := 23) hx hb dX12_most_4 (by decide) (fun c => absurd c (by decide)) (fun _ => ?_)
    refine lv_iload_n hx hb dX12_most_7 rfl (lv_at hl 2 rfl) ?_
    refine th_cSs (As := [.int x2]) (rest := []) (n := 1) (d := 1) ⟨hx, hb, hml, hown, hts⟩ (c_X12_isColour l s.heap x2) wd_1545 wd_1546 wd_13 wd_1547 (by decide +kernel) ⟨by rw [hR]; exact Nat.le_of_ble_eq_true rfl, by rw [hR]; exact Nat.le_of_ble_eq_true rfl⟩ hN hS rfl hl.1 rfl (Nat.le_of_ble_eq_true rfl) dX12_most_8 ⟨Nat.zero_le _, Nat.zero_le _⟩ (fun r2697 locs hp hS => ?_)
    rcases hp with ⟨rfl, hp⟩ | ⟨rfl, hp⟩
    · skip
      try simp only [rg, not_and, Int.not_le] at hp
      have hp2698 := hp
      refine lv_if_eq (tgt := 23) hx hb dX12_most_11 (by decide) (fun c => absurd c (by decide)) (fun _ => ?_)
      refine lv_iload_n hx hb dX12_most_14 rfl (lv_at hl 3 rfl) ?_
      refine lv_iconst (v := 0) hx hb dX12_most_15 (by decide) ?_
      refine lv_iconst (v := 1) hx hb dX12_most_16 (by decide) ?_
      refine th_cSs (As := [.int x3, .int 0, .int 1]) (rest := []) (n := 3) (d := 0) ⟨hx, hb, hml, hown, hts⟩ (c_X12_lies l s.heap x3 0 1) wd_1395 wd_1396 wd_13 wd_1397 (by decide +kernel) ⟨by rw [hR]; exact Nat.le_of_ble_eq_true rfl, by rw [hR]; exact Nat.le_of_ble_eq_true rfl⟩ hN hS rfl hl.1 rfl (Nat.le_of_ble_eq_true rfl) dX12_most_17 ⟨Nat.zero_le _, Nat.zero_le _⟩ (fun r2699 locs hp hS => ?_)
      rcases hp with ⟨rfl, hp⟩ | ⟨rfl, hp⟩
      · skip
        try simp only [rg, not_and, Int.not_le] at hp
        have hp2700 := hp
        try rw [show (0 : Int32).toInt = 0 from by decide] at hp2700
        try rw [show (1 : Int32).toInt = 1 from by decide] at hp2700
        refine lv_if_ne (tgt := 25) hx hb dX12_most_20 (by decide) (fun _ => ?_) (fun c => absurd c (by decide))
        refine lv_aload_n hx hb dX12_most_25 rfl (lv_at hl 0 rfl) ?_
        refine mx_v (As := []) (rest := []) (n := 0) (d := 68) ⟨hx, hb, hml, hown, hts⟩ (c_X12_looks l E D G h0 hG0 ) wd_1455 wd_1457 wp_43 wd_13 wd_1458 (by decide +kernel) ⟨by rw [hR]; exact Nat.le_of_ble_eq_true rfl, by rw [hR]; exact Nat.le_of_ble_eq_true rfl⟩ hI hN hK hS hG0 (trivial) rfl hl.1 rfl (Nat.le_of_ble_eq_true rfl) dX12_most_26 ⟨Nat.zero_le _, Nat.zero_le _⟩ (fun H locs hI hp hS => ?_)
        refine lv_iconst (v := (-1)) hx hb dX12_most_29 (by decide) ?_
        refine lv_istore (lv' := [(4, .int (-1)), (0, .ref h0), (1, .int x1), (2, .int x2), (3, .int x3)]) hx hb dX12_most_30 hl (by decide) rfl (fun ls hl => ?_)
        refine lv_iconst (v := 0) hx hb dX12_most_32 (by decide) ?_
        refine lv_istore (lv' := [(5, .int 0), (4, .int (-1)), (0, .ref h0), (1, .int x1), (2, .int x2), (3, .int x3)]) hx hb dX12_most_33 hl (by decide) rfl (fun ls hl => ?_)
        refine lv_iconst (v := 0) hx hb dX12_most_35 (by decide) ?_
        refine lv_istore (lv' := [(6, .int 0), (5, .int 0), (4, .int (-1)), (0, .ref h0), (1, .int x1), (2, .int x2), (3, .int x3)]) hx hb dX12_most_36 hl (by decide) rfl (fun ls hl => ?_)
        refine lv_iconst (v := 0) hx hb dX12_most_38 (by decide) ?_
        refine lv_istore (lv' := [(7, .int 0), (6, .int 0), (5, .int 0), (4, .int (-1)), (0, .ref h0), (1, .int x1), (2, .int x2), (3, .int x3)]) hx hb dX12_most_39 hl (by decide) rfl (fun ls hl => ?_)
        have zl : (0 : Int32).toInt = 0 := by decide
        exact J_41 _ H locs ls 0 0 0 (-1)  rfl (lv_sub hl [0, 1, 2, 3, 4, 5, 6, 7] rfl) ⟨by decide, by decide⟩ (by decide) ⟨by decide, by decide⟩ ⟨by omega, by omega⟩ ⟨by omega, by omega⟩ ⟨by omega, by omega⟩ hI hS
      · skip
        try simp only [rg, not_and, Int.not_le] at hp
        have hp2702 := hp
        try rw [show (0 : Int32).toInt = 0 from by decide] at hp2702
        try rw [show (1 : Int32).toInt = 1 from by decide] at hp2702
        refine lv_if_ne (tgt := 25) hx hb dX12_most_20 (by decide) (fun c => absurd c (by decide)) (fun _ => ?_)
        exact J_23 s.heap locs ls   (lv_sub hl [0, 1, 2, 3] rfl)  hI hS
    · skip
      try simp only [rg, not_and, Int.not_le] at hp
      have hp2703 := hp
      refine lv_if_eq (tgt := 23) hx hb dX12_most_11 (by decide) (fun _ => ?_) (fun c => absurd c (by decide))
      exact J_23 s.heap locs ls   (lv_sub hl [0, 1, 2, 3] rfl)  hI hS
  · skip
    try simp only [rg, not_and, Int.not_le] at hp
    have hp2704 := hp
    refine lv_if_eq (tgt := 23) hx hb dX12_most_4 (by decide) (fun _ => ?_) (fun c => absurd c (by decide))
    exact J_23 s.heap locs ls   (lv_sub hl [0, 1, 2, 3] rfl)  hI hS
theorem dX12_thereAt_0 : decode cX12_thereAt 0 = .ok (.iload_n 1, 1) := by decide +kernel
theorem dX12_thereAt_1 : decode cX12_thereAt 1 = .ok (.istore 6, 2) := by decide +kernel
theorem dX12_thereAt_3 : decode cX12_thereAt 3 = .ok (.iload_n 2, 1) := by decide +kernel
theorem dX12_thereAt_4 : decode cX12_thereAt 4 = .ok (.istore 7, 2) := by decide +kernel
theorem dX12_thereAt_6 : decode cX12_thereAt 6 = .ok (.iload 7, 2) := by decide +kernel
theorem dX12_thereAt_8 : decode cX12_thereAt 8 = .ok (.iload 5, 2) := by decide +kernel
theorem dX12_thereAt_10 : decode cX12_thereAt 10 = .ok (.if_icmp .gt 47, 3) := by decide +kernel
theorem dX12_thereAt_13 : decode cX12_thereAt 13 = .ok (.iload 7, 2) := by decide +kernel
theorem dX12_thereAt_15 : decode cX12_thereAt 15 = .ok (.iload 4, 2) := by decide +kernel
theorem dX12_thereAt_17 : decode cX12_thereAt 17 = .ok (.if_icmp .lt 12, 3) := by decide +kernel
theorem dX12_thereAt_20 : decode cX12_thereAt 20 = .ok (.iload 6, 2) := by decide +kernel
theorem dX12_thereAt_22 : decode cX12_thereAt 22 = .ok (.iload_n 3, 1) := by decide +kernel
theorem dX12_thereAt_23 : decode cX12_thereAt 23 = .ok (.if_icmp .ne 6, 3) := by decide +kernel
theorem dX12_thereAt_26 : decode cX12_thereAt 26 = .ok (.iload 7, 2) := by decide +kernel
theorem dX12_thereAt_28 : decode cX12_thereAt 28 = .ok (.ireturn, 1) := by decide +kernel
theorem dX12_thereAt_29 : decode cX12_thereAt 29 = .ok (.iload 7, 2) := by decide +kernel
theorem dX12_thereAt_31 : decode cX12_thereAt 31 = .ok (.bipush 96, 2) := by decide +kernel
theorem dX12_thereAt_33 : decode cX12_thereAt 33 = .ok (.if_icmp .ge 18, 3) := by decide +kernel
theorem dX12_thereAt_36 : decode cX12_thereAt 36 = .ok (.aload_n 0, 1) := by decide +kernel
theorem dX12_thereAt_37 : decode cX12_thereAt 37 = .ok (.getfield 67, 3) := by decide +kernel
theorem dX12_thereAt_40 : decode cX12_thereAt 40 = .ok (.bipush 25, 2) := by decide +kernel
theorem dX12_thereAt_42 : decode cX12_thereAt 42 = .ok (.iload 7, 2) := by decide +kernel
theorem dX12_thereAt_44 : decode cX12_thereAt 44 = .ok (.imul, 1) := by decide +kernel
theorem dX12_thereAt_45 : decode cX12_thereAt 45 = .ok (.iload 6, 2) := by decide +kernel
theorem dX12_thereAt_47 : decode cX12_thereAt 47 = .ok (.iadd, 1) := by decide +kernel
theorem dX12_thereAt_48 : decode cX12_thereAt 48 = .ok (.iaload, 1) := by decide +kernel
theorem dX12_thereAt_49 : decode cX12_thereAt 49 = .ok (.istore 6, 2) := by decide +kernel
theorem dX12_thereAt_51 : decode cX12_thereAt 51 = .ok (.iinc 7 1, 3) := by decide +kernel
theorem dX12_thereAt_54 : decode cX12_thereAt 54 = .ok (.goto (-48), 3) := by decide +kernel
theorem dX12_thereAt_57 : decode cX12_thereAt 57 = .ok (.iconst (-1), 1) := by decide +kernel
theorem dX12_thereAt_58 : decode cX12_thereAt 58 = .ok (.ireturn, 1) := by decide +kernel
set_option maxHeartbeats 4000000 in
set_option maxRecDepth 100000 in
theorem c_X12_thereAt (l : Launch) (E : Nat → Nat) (D : va_G) (G : th_G) (H0 : Heap) (h0 : Nat) (hG0 : G h0 = some (10, 0)) (x1 : Int32) (x2 : Int32) (x3 : Int32) (x4 : Int32) (x5 : Int32) (hx1 : (0 : Int) ≤ x1.toInt ∧ x1.toInt ≤ 24) (hx2 : (0 : Int) ≤ x2.toInt) (hx5 : x5.toInt ≤ 96) : Met l yX12_thereAt (tb (.code yX12_thereAt cX12_thereAt 8 (some .int))) (rm 0) (va_Pc [.ref h0, .int x1, .int x2, .int x3, .int x4, .int x5] (PR E D G H0)) (QS H0 (fun r => (-1 : Int) ≤ (r : Int32).toInt ∧ (r : Int32).toInt ≤ 96)) 0 0 (fun _ => False) := by
  refine Met.ofW (cc := cX12_thereAt) (maxL := 8) (ret := (some .int)) (by decide) rfl ?_
  intro p e s m args below meth c s₁ B hml hv
  obtain ⟨hav, rfl, hI, hN, hK⟩ := hv
  have hx := B.exec
  have hb := B.bytes
  have hr := B.returns
  have hts := atoms_spec (ws := tb (.code yX12_thereAt cX12_thereAt 8 (some .int))) B.pre
  have hown : s.vm.findClass RX12 = some m.cls := findClass_of_methodNamed B.named
  have hlocks := B.notSynchronized
  have hS : va_S (fun _ => False) s.heap s.heap [] := va_S.rf
  have hl := lv_entry ([.ref h0, .int x1, .int x2, .int x3, .int x4, .int x5]) (n := 8) (Nat.le_of_ble_eq_true rfl)
  rw [show entryFrame m args 8 = entryFrame m ([.ref h0, .int x1, .int x2, .int x3, .int x4, .int x5] : List Value).toArray 8 from by rw [hav], lg_entry_eq]
  generalize (lg_sl ([.ref h0, .int x1, .int x2, .int x3, .int x4, .int x5]) ++ List.replicate (8 - (lg_sl ([.ref h0, .int x1, .int x2, .int x3, .int x4, .int x5])).length) Slot.unset).toArray = ls at hl ⊢
  have hl : lv_has ls 8 [(0, .ref h0), (1, .int x1), (2, .int x2), (3, .int x3), (4, .int x4), (5, .int x5)] := hl
  generalize hR : (headSpec (tb (.code yX12_thereAt cX12_thereAt 8 (some .int))) (rm 0)).room = R
  have hR := hR.symm
  generalize hQ : MQ below (QS s.heap (fun r => (-1 : Int) ≤ (r : Int32).toInt ∧ (r : Int32).toInt ≤ 96)) args s 0 0 (fun _ => False) = QF
  have hQ := hQ.symm
  obtain ⟨q_3, hq_3, hf_3⟩ := fr_of hI hG0 3 (by decide) (kd := (1, 5123)) rfl
  obtain ⟨F_3, hA_3, hP_3⟩ := om_1 hI hq_3 List.not_mem_nil
  have J_6 : ∀ (nn : Nat) (locs : List Loc) (ls : Array Slot) (v299 : Int32) (v300 : Int32) , (Int.toNat (97 - v299.toInt) = nn) → lv_has ls 8 [(7, .int v299), (6, .int v300), (0, .ref h0), (1, .int x1), (2, .int x2), (3, .int x3), (4, .int x4), (5, .int x5)] → ((0 : Int) ≤ v299.toInt) → ((0 : Int) ≤ v300.toInt ∧ v300.toInt ≤ 24) → ((0 : Int) ≤ x1.toInt ∧ x1.toInt ≤ 24) → ((0 : Int) ≤ x2.toInt) → (x5.toInt ≤ 96) → va_S (fun _ => False) s.heap s.heap locs → W p l e R s m args below meth c s.heap locs 0 0 QF (F0 m 6 ls []) := by
    intro nn
    induction nn using Nat.strongRecOn with
    | ind nn ih_6 =>
      intro locs ls v299 v300  hm hl k301 k302 k303 k304 k305 hS
      have J_29 : ∀ (locs : List Loc) (ls : Array Slot)  , lv_has ls 8 [(7, .int v299), (6, .int v300), (0, .ref h0), (1, .int x1), (2, .int x2), (3, .int x3), (4, .int x4), (5, .int x5)] → ((0 : Int) ≤ v299.toInt ∧ v299.toInt ≤ 96) → ((0 : Int) ≤ x5.toInt ∧ x5.toInt ≤ 96) → va_S (fun _ => False) s.heap s.heap locs → W p l e R s m args below meth c s.heap locs 0 0 QF (F0 m 29 ls []) := by
        intro locs ls   hl k308 k309 hS
        refine lv_iload hx hb dX12_thereAt_29 (lv_at hl 0 rfl) ?_
        refine lv_bipush (v := 96) hx hb dX12_thereAt_31 (by decide) ?_
        refine lv_icmp_ge (tgt := 51) hx hb dX12_thereAt_33 (by decide) (fun c310 => ?_) (fun c310 => ?_)
        · skip
          have k311 := iv_le (X := (96)) (Y := v299.toInt) (by decide) rfl c310
          obtain ⟨v312, e313⟩ : ∃ y : Int32, y = v299 + (1) := ⟨_, rfl⟩
          have tv312 : v312.toInt = v299.toInt + (1) := iv_add rfl (by decide) e313 (by omega) (by omega)
          refine lv_iinc (v := v312) (lv' := [(7, .int v312), (6, .int v300), (0, .ref h0), (1, .int x1), (2, .int x2), (3, .int x3), (4, .int x4), (5, .int x5)]) hx hb dX12_thereAt_51 hl (k := 0) rfl (by rw [e313]; rfl) (by decide) rfl (fun ls hl => ?_)
          refine lv_goto (tgt := 6) hx hb dX12_thereAt_54 (by decide) ?_
          exact ih_6 _ (by omega) locs ls v312 v300  rfl (lv_sub hl [0, 1, 2, 3, 4, 5, 6, 7] rfl) (by omega) ⟨by omega, by omega⟩ ⟨by omega, by omega⟩ (by omega) (by omega) hS
        · skip
          have k314 := iv_nle (X := (96)) (Y := v299.toInt) (by decide) rfl c310
          refine lv_aload_n hx hb dX12_thereAt_36 rfl (lv_at hl 2 rfl) ?_
          refine gmA hx hb hts inT12 hown hK hI List.not_mem_nil hG0 27 (by decide) (hts _ (tb_c wd_1260)) rfl rfl dX12_thereAt_37 (fun a315 hq316 hf317 => ?_)
          refine lv_bipush (v := 25) hx hb dX12_thereAt_40 (by decide) ?_
          refine lv_iload hx hb dX12_thereAt_42 (lv_at hl 0 rfl) ?_
          refine lv_imul hx hb dX12_thereAt_44 ?_
          refine lv_topi (fun v318 e319 => ?_)
          have tv318 : v318.toInt = (25) * v299.toInt := iv_mul (by decide) rfl e319 (by omega) (by omega)
          refine lv_iload hx hb dX12_thereAt_45 (lv_at hl 1 rfl) ?_
          refine lv_iadd hx hb dX12_thereAt_47 ?_
          refine lv_topi (fun v320 e321 => ?_)
          have tv320 : v320.toInt = v318.toInt + v300.toInt := iv_add rfl rfl e321 (by omega) (by omega)
          obtain ⟨F322, hA323, hP324⟩ := om_3 hI hq316 List.not_mem_nil
          refine th_iald hx hb hK hA323 0 rfl (iv_in (X := v320.toInt) rfl (by omega) (by omega)) dX12_thereAt_48 (fun v325 e326 => ?_)
          have k327 := rgs_get hP324 e326 (X := v320.toInt) rfl (by omega) (by omega)
          refine lv_istore (lv' := [(6, .int v325), (7, .int v299), (0, .ref h0), (1, .int x1), (2, .int x2), (3, .int x3), (4, .int x4), (5, .int x5)]) hx hb dX12_thereAt_49 hl (by decide) rfl (fun ls hl => ?_)
          obtain ⟨v328, e329⟩ : ∃ y : Int32, y = v299 + (1) := ⟨_, rfl⟩
          have tv328 : v328.toInt = v299.toInt + (1) := iv_add rfl (by decide) e329 (by omega) (by omega)
          refine lv_iinc (v := v328) (lv' := [(7, .int v328), (6, .int v325), (0, .ref h0), (1, .int x1), (2, .int x2), (3, .int x3), (4, .int x4), (5, .int x5)]) hx hb dX12_thereAt_51 hl (k := 1) rfl (by rw [e329]; rfl) (by decide) rfl (fun ls hl => ?_)
          refine lv_goto (tgt := 6) hx hb dX12_thereAt_54 (by decide) ?_
          exact ih_6 _ (by omega) locs ls v328 v325  rfl (lv_sub hl [0, 1, 2, 3, 4, 5, 6, 7] rfl) (by omega) ⟨by omega, by omega⟩ ⟨by omega, by omega⟩ (by omega) (by omega) hS
      refine lv_iload hx hb dX12_thereAt_6 (lv_at hl 0 rfl) ?_
      refine lv_iload hx hb dX12_thereAt_8 (lv_at hl 7 rfl) ?_
      have k330 := iv_lo v299
      have k331 := iv_hi v299
      have k332 := iv_lo x5
      have k333 := iv_hi x5
      refine lv_icmp_gt (tgt := 57) hx hb dX12_thereAt_10 (by decide) (fun c334 => ?_) (fun c334 => ?_)
      · skip
        have k335 := iv_lt (X := x5.toInt) (Y := v299.toInt) rfl rfl c334
        refine lv_iconst (v := (-1)) hx hb dX12_thereAt_57 (by decide) ?_
        have hpost : (-1 : Int) ≤ ((-1) : Int32).toInt ∧ ((-1) : Int32).toInt ≤ 96 := by first | decide | omega
        rw [hQ]
        exact W.iret (v := (-1)) hx hb hr (fun t ht hW => ⟨⟨(-1), (), rfl, hpost, ht⟩, hS.F ht⟩) hS.2.2 dX12_thereAt_58
      · skip
        have k336 := iv_nlt (X := x5.toInt) (Y := v299.toInt) rfl rfl c334
        refine lv_iload hx hb dX12_thereAt_13 (lv_at hl 0 rfl) ?_
        refine lv_iload hx hb dX12_thereAt_15 (lv_at hl 6 rfl) ?_
        have k337 := iv_lo x4
        have k338 := iv_hi x4
        refine lv_icmp_lt (tgt := 29) hx hb dX12_thereAt_17 (by decide) (fun c339 => ?_) (fun c339 => ?_)
        · skip
          have k340 := iv_lt (X := v299.toInt) (Y := x4.toInt) rfl rfl c339
          exact J_29 locs ls   (lv_sub hl [0, 1, 2, 3, 4, 5, 6, 7] rfl) ⟨by omega, by omega⟩ ⟨by omega, by omega⟩ hS
        · skip
          have k341 := iv_nlt (X := v299.toInt) (Y := x4.toInt) rfl rfl c339
          refine lv_iload hx hb dX12_thereAt_20 (lv_at hl 1 rfl) ?_
          refine lv_iload_n hx hb dX12_thereAt_22 rfl (lv_at hl 5 rfl) ?_
          have k342 := iv_lo x3
          have k343 := iv_hi x3
          refine lv_icmp_ne (tgt := 29) hx hb dX12_thereAt_23 (by decide) (fun c344 => ?_) (fun c344 => ?_)
          · skip
            have k345 := iv_ne (X := v300.toInt) (Y := x3.toInt) rfl rfl c344
            exact J_29 locs ls   (lv_sub hl [0, 1, 2, 3, 4, 5, 6, 7] rfl) ⟨by omega, by omega⟩ ⟨by omega, by omega⟩ hS
          · skip
            have k346 := iv_eq (X := v300.toInt) (Y := x3.toInt) rfl rfl c344
            refine lv_iload hx hb dX12_thereAt_26 (lv_at hl 0 rfl) ?_
            have hpost : (-1 : Int) ≤ (v299 : Int32).toInt ∧ (v299 : Int32).toInt ≤ 96 := by first | decide | omega
            rw [hQ]
            exact W.iret (v := v299) hx hb hr (fun t ht hW => ⟨⟨v299, (), rfl, hpost, ht⟩, hS.F ht⟩) hS.2.2 dX12_thereAt_28
  refine lv_iload_n hx hb dX12_thereAt_0 rfl (lv_at hl 1 rfl) ?_
  refine lv_istore (lv' := [(6, .int x1), (0, .ref h0), (1, .int x1), (2, .int x2), (3, .int x3), (4, .int x4), (5, .int x5)]) hx hb dX12_thereAt_1 hl (by decide) rfl (fun ls hl => ?_)
  refine lv_iload_n hx hb dX12_thereAt_3 rfl (lv_at hl 3 rfl) ?_
  refine lv_istore (lv' := [(7, .int x2), (6, .int x1), (0, .ref h0), (1, .int x1), (2, .int x2), (3, .int x3), (4, .int x4), (5, .int x5)]) hx hb dX12_thereAt_4 hl (by decide) rfl (fun ls hl => ?_)
  exact J_6 _ [] ls x2 x1  rfl (lv_sub hl [0, 1, 2, 3, 4, 5, 6, 7] rfl) (by omega) ⟨by omega, by omega⟩ ⟨by omega, by omega⟩ (by omega) (by omega) hS
theorem dX12_findsThrow_0 : decode cX12_findsThrow 0 = .ok (.aload_n 0, 1) := by decide +kernel
theorem dX12_findsThrow_1 : decode cX12_findsThrow 1 = .ok (.iconst (-1), 1) := by decide +kernel
theorem dX12_findsThrow_2 : decode cX12_findsThrow 2 = .ok (.putfield 325, 3) := by decide +kernel
theorem dX12_findsThrow_5 : decode cX12_findsThrow 5 = .ok (.iload 4, 2) := by decide +kernel
theorem dX12_findsThrow_7 : decode cX12_findsThrow 7 = .ok (.istore 5, 2) := by decide +kernel
theorem dX12_findsThrow_9 : decode cX12_findsThrow 9 = .ok (.iload 5, 2) := by decide +kernel
theorem dX12_findsThrow_11 : decode cX12_findsThrow 11 = .ok (.bipush 96, 2) := by decide +kernel
theorem dX12_findsThrow_13 : decode cX12_findsThrow 13 = .ok (.if_icmp .ge 146, 3) := by decide +kernel
theorem dX12_findsThrow_16 : decode cX12_findsThrow 16 = .ok (.iload 5, 2) := by decide +kernel
theorem dX12_findsThrow_18 : decode cX12_findsThrow 18 = .ok (.iload_n 3, 1) := by decide +kernel
theorem dX12_findsThrow_19 : decode cX12_findsThrow 19 = .ok (.if_icmp .gt 140, 3) := by decide +kernel
theorem dX12_findsThrow_22 : decode cX12_findsThrow 22 = .ok (.iconst 0, 1) := by decide +kernel
theorem dX12_findsThrow_23 : decode cX12_findsThrow 23 = .ok (.istore 6, 2) := by decide +kernel
theorem dX12_findsThrow_25 : decode cX12_findsThrow 25 = .ok (.iload 6, 2) := by decide +kernel
theorem dX12_findsThrow_27 : decode cX12_findsThrow 27 = .ok (.bipush 24, 2) := by decide +kernel
theorem dX12_findsThrow_29 : decode cX12_findsThrow 29 = .ok (.if_icmp .ge 124, 3) := by decide +kernel
theorem dX12_findsThrow_32 : decode cX12_findsThrow 32 = .ok (.aload_n 0, 1) := by decide +kernel
theorem dX12_findsThrow_33 : decode cX12_findsThrow 33 = .ok (.getfield 64, 3) := by decide +kernel
theorem dX12_findsThrow_36 : decode cX12_findsThrow 36 = .ok (.bipush 24, 2) := by decide +kernel
theorem dX12_findsThrow_38 : decode cX12_findsThrow 38 = .ok (.iload 5, 2) := by decide +kernel
theorem dX12_findsThrow_40 : decode cX12_findsThrow 40 = .ok (.imul, 1) := by decide +kernel
theorem dX12_findsThrow_41 : decode cX12_findsThrow 41 = .ok (.iload 6, 2) := by decide +kernel
theorem dX12_findsThrow_43 : decode cX12_findsThrow 43 = .ok (.iadd, 1) := by decide +kernel
theorem dX12_findsThrow_44 : decode cX12_findsThrow 44 = .ok (.baload, 1) := by decide +kernel
theorem dX12_findsThrow_45 : decode cX12_findsThrow 45 = .ok (.ifCond .eq 6, 3) := by decide +kernel
theorem dX12_findsThrow_48 : decode cX12_findsThrow 48 = .ok (.goto 99, 3) := by decide +kernel
theorem dX12_findsThrow_51 : decode cX12_findsThrow 51 = .ok (.aload_n 0, 1) := by decide +kernel
theorem dX12_findsThrow_52 : decode cX12_findsThrow 52 = .ok (.iload 6, 2) := by decide +kernel
theorem dX12_findsThrow_54 : decode cX12_findsThrow 54 = .ok (.iload 5, 2) := by decide +kernel
theorem dX12_findsThrow_56 : decode cX12_findsThrow 56 = .ok (.iload_n 1, 1) := by decide +kernel
theorem dX12_findsThrow_57 : decode cX12_findsThrow 57 = .ok (.iload_n 2, 1) := by decide +kernel
theorem dX12_findsThrow_58 : decode cX12_findsThrow 58 = .ok (.iload_n 3, 1) := by decide +kernel
theorem dX12_findsThrow_59 : decode cX12_findsThrow 59 = .ok (.invokevirtual 328, 3) := by decide +kernel
theorem dX12_findsThrow_62 : decode cX12_findsThrow 62 = .ok (.istore 7, 2) := by decide +kernel
theorem dX12_findsThrow_64 : decode cX12_findsThrow 64 = .ok (.aload_n 0, 1) := by decide +kernel
theorem dX12_findsThrow_65 : decode cX12_findsThrow 65 = .ok (.getfield 58, 3) := by decide +kernel
theorem dX12_findsThrow_68 : decode cX12_findsThrow 68 = .ok (.bipush 24, 2) := by decide +kernel
theorem dX12_findsThrow_70 : decode cX12_findsThrow 70 = .ok (.iload 5, 2) := by decide +kernel
theorem dX12_findsThrow_72 : decode cX12_findsThrow 72 = .ok (.imul, 1) := by decide +kernel
theorem dX12_findsThrow_73 : decode cX12_findsThrow 73 = .ok (.iload 6, 2) := by decide +kernel
theorem dX12_findsThrow_75 : decode cX12_findsThrow 75 = .ok (.iadd, 1) := by decide +kernel
theorem dX12_findsThrow_76 : decode cX12_findsThrow 76 = .ok (.iaload, 1) := by decide +kernel
theorem dX12_findsThrow_77 : decode cX12_findsThrow 77 = .ok (.istore 8, 2) := by decide +kernel
theorem dX12_findsThrow_79 : decode cX12_findsThrow 79 = .ok (.iload 7, 2) := by decide +kernel
theorem dX12_findsThrow_81 : decode cX12_findsThrow 81 = .ok (.iconst (-1), 1) := by decide +kernel
theorem dX12_findsThrow_82 : decode cX12_findsThrow 82 = .ok (.if_icmp .eq 65, 3) := by decide +kernel
theorem dX12_findsThrow_85 : decode cX12_findsThrow 85 = .ok (.aload_n 0, 1) := by decide +kernel
theorem dX12_findsThrow_86 : decode cX12_findsThrow 86 = .ok (.getfield 325, 3) := by decide +kernel
theorem dX12_findsThrow_89 : decode cX12_findsThrow 89 = .ok (.iconst (-1), 1) := by decide +kernel
theorem dX12_findsThrow_90 : decode cX12_findsThrow 90 = .ok (.if_icmp .eq 33, 3) := by decide +kernel
theorem dX12_findsThrow_93 : decode cX12_findsThrow 93 = .ok (.iload 8, 2) := by decide +kernel
theorem dX12_findsThrow_95 : decode cX12_findsThrow 95 = .ok (.aload_n 0, 1) := by decide +kernel
theorem dX12_findsThrow_96 : decode cX12_findsThrow 96 = .ok (.getfield 332, 3) := by decide +kernel
theorem dX12_findsThrow_99 : decode cX12_findsThrow 99 = .ok (.if_icmp .gt 48, 3) := by decide +kernel
theorem dX12_findsThrow_102 : decode cX12_findsThrow 102 = .ok (.iload 8, 2) := by decide +kernel
theorem dX12_findsThrow_104 : decode cX12_findsThrow 104 = .ok (.aload_n 0, 1) := by decide +kernel
theorem dX12_findsThrow_105 : decode cX12_findsThrow 105 = .ok (.getfield 332, 3) := by decide +kernel
theorem dX12_findsThrow_108 : decode cX12_findsThrow 108 = .ok (.if_icmp .ne 15, 3) := by decide +kernel
theorem dX12_findsThrow_111 : decode cX12_findsThrow 111 = .ok (.iload 7, 2) := by decide +kernel
theorem dX12_findsThrow_113 : decode cX12_findsThrow 113 = .ok (.aload_n 0, 1) := by decide +kernel
theorem dX12_findsThrow_114 : decode cX12_findsThrow 114 = .ok (.getfield 335, 3) := by decide +kernel
theorem dX12_findsThrow_117 : decode cX12_findsThrow 117 = .ok (.if_icmp .lt 6, 3) := by decide +kernel
theorem dX12_findsThrow_120 : decode cX12_findsThrow 120 = .ok (.goto 27, 3) := by decide +kernel
theorem dX12_findsThrow_123 : decode cX12_findsThrow 123 = .ok (.aload_n 0, 1) := by decide +kernel
theorem dX12_findsThrow_124 : decode cX12_findsThrow 124 = .ok (.iload 8, 2) := by decide +kernel
theorem dX12_findsThrow_126 : decode cX12_findsThrow 126 = .ok (.putfield 332, 3) := by decide +kernel
theorem dX12_findsThrow_129 : decode cX12_findsThrow 129 = .ok (.aload_n 0, 1) := by decide +kernel
theorem dX12_findsThrow_130 : decode cX12_findsThrow 130 = .ok (.iload 6, 2) := by decide +kernel
theorem dX12_findsThrow_132 : decode cX12_findsThrow 132 = .ok (.putfield 325, 3) := by decide +kernel
theorem dX12_findsThrow_135 : decode cX12_findsThrow 135 = .ok (.aload_n 0, 1) := by decide +kernel
theorem dX12_findsThrow_136 : decode cX12_findsThrow 136 = .ok (.iload 5, 2) := by decide +kernel
theorem dX12_findsThrow_138 : decode cX12_findsThrow 138 = .ok (.putfield 338, 3) := by decide +kernel
theorem dX12_findsThrow_141 : decode cX12_findsThrow 141 = .ok (.aload_n 0, 1) := by decide +kernel
theorem dX12_findsThrow_142 : decode cX12_findsThrow 142 = .ok (.iload 7, 2) := by decide +kernel
theorem dX12_findsThrow_144 : decode cX12_findsThrow 144 = .ok (.putfield 335, 3) := by decide +kernel
theorem dX12_findsThrow_147 : decode cX12_findsThrow 147 = .ok (.iinc 6 1, 3) := by decide +kernel
theorem dX12_findsThrow_150 : decode cX12_findsThrow 150 = .ok (.goto (-125), 3) := by decide +kernel
theorem dX12_findsThrow_153 : decode cX12_findsThrow 153 = .ok (.iinc 5 1, 3) := by decide +kernel
theorem dX12_findsThrow_156 : decode cX12_findsThrow 156 = .ok (.goto (-147), 3) := by decide +kernel
theorem dX12_findsThrow_159 : decode cX12_findsThrow 159 = .ok (.return_, 1) := by decide +kernel
set_option maxHeartbeats 4000000 in
set_option maxRecDepth 100000 in
theorem c_X12_findsThrow (l : Launch) (E : Nat → Nat) (D : va_G) (G : th_G) (h0 : Nat) (hG0 : G h0 = some (10, 0)) (x1 : Int32) (x2 : Int32) (x3 : Int32) (x4 : Int32) (hx3 : x3.toInt ≤ 96) (hx4 : (0 : Int) ≤ x4.toInt) : Met l yX12_findsThrow (tb (.code yX12_findsThrow cX12_findsThrow 9 none)) (rm 1) (va_Pc [.ref h0, .int x1, .int x2, .int x3, .int x4] (PX E D G (fun H => True))) (QXv E D G (fun H => True)) 0 0 (th_A G) := by
  refine Met.ofW (cc := cX12_findsThrow) (maxL := 9) (ret := none) (by decide) rfl ?_
  intro p e s m args below meth c s₁ B hml hv
  obtain ⟨hav, ⟨hI, hN, hK⟩, hX⟩ := hv
  have hx := B.exec
  have hb := B.bytes
  have hr := B.returns
  have hts := atoms_spec (ws := tb (.code yX12_findsThrow cX12_findsThrow 9 none)) B.pre
  have hown : s.vm.findClass RX12 = some m.cls := findClass_of_methodNamed B.named
  have hlocks := B.notSynchronized
  have hS : va_S (th_A G) s.heap s.heap [] := va_S.rf
  have hl := lv_entry ([.ref h0, .int x1, .int x2, .int x3, .int x4]) (n := 9) (Nat.le_of_ble_eq_true rfl)
  rw [show entryFrame m args 9 = entryFrame m ([.ref h0, .int x1, .int x2, .int x3, .int x4] : List Value).toArray 9 from by rw [hav], lg_entry_eq]
  generalize (lg_sl ([.ref h0, .int x1, .int x2, .int x3, .int x4]) ++ List.replicate (9 - (lg_sl ([.ref h0, .int x1, .int x2, .int x3, .int x4])).length) Slot.unset).toArray = ls at hl ⊢
  have hl : lv_has ls 9 [(0, .ref h0), (1, .int x1), (2, .int x2), (3, .int x3), (4, .int x4)] := hl
  generalize hR : (headSpec (tb (.code yX12_findsThrow cX12_findsThrow 9 none)) (rm 1)).room = R
  have hR := hR.symm
  generalize hQ : MQ below (QXv E D G (fun H => True)) args s 0 0 (th_A G) = QF
  have hQ := hQ.symm
  have J_9 : ∀ (nn : Nat) (H : Heap) (locs : List Loc) (ls : Array Slot) (v1948 : Int32) , (Int.toNat (96 - v1948.toInt) = nn) → lv_has ls 9 [(5, .int v1948), (0, .ref h0), (1, .int x1), (2, .int x2), (3, .int x3), (4, .int x4)] → ((0 : Int) ≤ v1948.toInt) → (x3.toInt ≤ 96) → ((0 : Int) ≤ x4.toInt) → th_I (okM E) D G [] H → va_S (th_A G) s.heap H locs → W p l e R s m args below meth c H locs 0 0 QF (F0 m 9 ls []) := by
    intro nn
    induction nn using Nat.strongRecOn with
    | ind nn ih_9 =>
      intro H locs ls v1948  hm hl k1949 k1950 k1951 hI hS
      have J_25 : ∀ (nn : Nat) (H : Heap) (locs : List Loc) (ls : Array Slot) (v1952 : Int32) , (Int.toNat (24 - v1952.toInt) = nn) → lv_has ls 9 [(6, .int v1952), (5, .int v1948), (0, .ref h0), (1, .int x1), (2, .int x2), (3, .int x3), (4, .int x4)] → ((0 : Int) ≤ v1952.toInt ∧ v1952.toInt ≤ 24) → ((0 : Int) ≤ v1948.toInt ∧ v1948.toInt ≤ 95) → ((0 : Int) ≤ x3.toInt ∧ x3.toInt ≤ 96) → th_I (okM E) D G [] H → va_S (th_A G) s.heap H locs → W p l e R s m args below meth c H locs 0 0 QF (F0 m 25 ls []) := by
        intro nn
        induction nn using Nat.strongRecOn with
        | ind nn ih_25 =>
          intro H locs ls v1952  hm hl k1954 k1955 k1956 hI hS
          have J_123 : ∀ (H : Heap) (locs : List Loc) (ls : Array Slot) (v1957 : Int32) (v1958 : Int32) , lv_has ls 9 [(8, .int v1957), (7, .int v1958), (6, .int v1952), (5, .int v1948), (0, .ref h0), (1, .int x1), (2, .int x2), (3, .int x3), (4, .int x4)] → ((0 : Int) ≤ v1958.toInt ∧ v1958.toInt ≤ 96) → ((0 : Int) ≤ v1952.toInt ∧ v1952.toInt ≤ 23) → th_I (okM E) D G [] H → va_S (th_A G) s.heap H locs → W p l e R s m args below meth c H locs 0 0 QF (F0 m 123 ls []) := by
            intro H locs ls v1957 v1958  hl k1961 k1962 hI hS
            refine lv_aload_n hx hb dX12_findsThrow_123 rfl (lv_at hl 4 rfl) ?_
            refine lv_iload hx hb dX12_findsThrow_124 (lv_at hl 0 rfl) ?_
            have k1963 := iv_lo v1957
            have k1964 := iv_hi v1957
            refine pmI (ty := .int) hx hb hts inT12 hown hK hI List.not_mem_nil hG0 hS ⟨_, hG0⟩ 30 (by decide) (hts _ (tb_c wd_1263)) rfl rfl (by decide +kernel) rfl rfl rfl (by omega) (by omega) dX12_findsThrow_126 (fun H locs hI hgP hS => ?_)
            have hg1965 := hgP.2.1
            refine lv_aload_n hx hb dX12_findsThrow_129 rfl (lv_at hl 4 rfl) ?_
            refine lv_iload hx hb dX12_findsThrow_130 (lv_at hl 2 rfl) ?_
            refine pmI (ty := .int) hx hb hts inT12 hown hK hI List.not_mem_nil hG0 hS ⟨_, hG0⟩ 31 (by decide) (hts _ (tb_c wd_1264)) rfl rfl (by decide +kernel) rfl rfl rfl (by omega) (by omega) dX12_findsThrow_132 (fun H locs hI hgP hS => ?_)
            have hg1965 := hgP.2.2.1 30 _ (by decide) (by decide) hg1965
            have hg1966 := hgP.2.1
            refine lv_aload_n hx hb dX12_findsThrow_135 rfl (lv_at hl 4 rfl) ?_
            refine lv_iload hx hb dX12_findsThrow_136 (lv_at hl 3 rfl) ?_
            refine pmI (ty := .int) hx hb hts inT12 hown hK hI List.not_mem_nil hG0 hS ⟨_, hG0⟩ 32 (by decide) (hts _ (tb_c wd_1265)) rfl rfl (by decide +kernel) rfl rfl rfl (by omega) (by omega) dX12_findsThrow_138 (fun H locs hI hgP hS => ?_)
            have hg1965 := hgP.2.2.1 30 _ (by decide) (by decide) hg1965
            have hg1966 := hgP.2.2.1 31 _ (by decide) (by decide) hg1966
            have hg1967 := hgP.2.1
            refine lv_aload_n hx hb dX12_findsThrow_141 rfl (lv_at hl 4 rfl) ?_
            refine lv_iload hx hb dX12_findsThrow_142 (lv_at hl 1 rfl) ?_
            refine pmI (ty := .int) hx hb hts inT12 hown hK hI List.not_mem_nil hG0 hS ⟨_, hG0⟩ 33 (by decide) (hts _ (tb_c wd_1266)) rfl rfl (by decide +kernel) rfl rfl rfl (by omega) (by omega) dX12_findsThrow_144 (fun H locs hI hgP hS => ?_)
            have hg1965 := hgP.2.2.1 30 _ (by decide) (by decide) hg1965
            have hg1966 := hgP.2.2.1 31 _ (by decide) (by decide) hg1966
            have hg1967 := hgP.2.2.1 32 _ (by decide) (by decide) hg1967
            have hg1968 := hgP.2.1
            obtain ⟨v1969, e1970⟩ : ∃ y : Int32, y = v1952 + (1) := ⟨_, rfl⟩
            have tv1969 : v1969.toInt = v1952.toInt + (1) := iv_add rfl (by decide) e1970 (by omega) (by omega)
            refine lv_iinc (v := v1969) (lv' := [(6, .int v1969), (8, .int v1957), (7, .int v1958), (5, .int v1948), (0, .ref h0), (1, .int x1), (2, .int x2), (3, .int x3), (4, .int x4)]) hx hb dX12_findsThrow_147 hl (k := 2) rfl (by rw [e1970]; rfl) (by decide) rfl (fun ls hl => ?_)
            refine lv_goto (tgt := 25) hx hb dX12_findsThrow_150 (by decide) ?_
            exact ih_25 _ (by omega) H locs ls v1969  rfl (lv_sub hl [0, 3, 4, 5, 6, 7, 8] rfl) ⟨by omega, by omega⟩ ⟨by omega, by omega⟩ ⟨by omega, by omega⟩ hI hS
          refine lv_iload hx hb dX12_findsThrow_25 (lv_at hl 0 rfl) ?_
          refine lv_bipush (v := 24) hx hb dX12_findsThrow_27 (by decide) ?_
          refine lv_icmp_ge (tgt := 153) hx hb dX12_findsThrow_29 (by decide) (fun c1971 => ?_) (fun c1971 => ?_)
          · skip
            have k1972 := iv_le (X := (24)) (Y := v1952.toInt) (by decide) rfl c1971
            obtain ⟨v1973, e1974⟩ : ∃ y : Int32, y = v1948 + (1) := ⟨_, rfl⟩
            have tv1973 : v1973.toInt = v1948.toInt + (1) := iv_add rfl (by decide) e1974 (by omega) (by omega)
            refine lv_iinc (v := v1973) (lv' := [(5, .int v1973), (6, .int v1952), (0, .ref h0), (1, .int x1), (2, .int x2), (3, .int x3), (4, .int x4)]) hx hb dX12_findsThrow_153 hl (k := 1) rfl (by rw [e1974]; rfl) (by decide) rfl (fun ls hl => ?_)
            refine lv_goto (tgt := 9) hx hb dX12_findsThrow_156 (by decide) ?_
            exact ih_9 _ (by omega) H locs ls v1973  rfl (lv_sub hl [0, 2, 3, 4, 5, 6] rfl) (by omega) (by omega) (by omega) hI hS
          · skip
            have k1975 := iv_nle (X := (24)) (Y := v1952.toInt) (by decide) rfl c1971
            refine lv_aload_n hx hb dX12_findsThrow_32 rfl (lv_at hl 2 rfl) ?_
            refine gmA hx hb hts inT12 hown hK hI List.not_mem_nil hG0 26 (by decide) (hts _ (tb_c wd_1259)) rfl rfl dX12_findsThrow_33 (fun a1976 hq1977 hf1978 => ?_)
            refine lv_bipush (v := 24) hx hb dX12_findsThrow_36 (by decide) ?_
            refine lv_iload hx hb dX12_findsThrow_38 (lv_at hl 1 rfl) ?_
            refine lv_imul hx hb dX12_findsThrow_40 ?_
            refine lv_topi (fun v1979 e1980 => ?_)
            have tv1979 : v1979.toInt = (24) * v1948.toInt := iv_mul (by decide) rfl e1980 (by omega) (by omega)
            refine lv_iload hx hb dX12_findsThrow_41 (lv_at hl 0 rfl) ?_
            refine lv_iadd hx hb dX12_findsThrow_43 ?_
            refine lv_topi (fun v1981 e1982 => ?_)
            have tv1981 : v1981.toInt = v1979.toInt + v1952.toInt := iv_add rfl rfl e1982 (by omega) (by omega)
            obtain ⟨F1983, hA1984⟩ := om_5 hI hq1977 List.not_mem_nil
            refine va_zald hx hb hK (th_one hA1984) 0 2 rfl rfl (iv_in (X := v1981.toInt) rfl (by omega) (by omega)) dX12_findsThrow_44 ?_
            refine lv_topi (fun v1985 e1986 => ?_)
            have k1987 := iv_lo v1985
            have k1988 := iv_hi v1985
            refine lv_if_eq (tgt := 51) hx hb dX12_findsThrow_45 (by decide) (fun c1989 => ?_) (fun c1989 => ?_)
            · skip
              have k1990 := iv_eq (X := v1985.toInt) (Y := (0)) rfl (by decide) c1989
              refine lv_aload_n hx hb dX12_findsThrow_51 rfl (lv_at hl 2 rfl) ?_
              refine lv_iload hx hb dX12_findsThrow_52 (lv_at hl 0 rfl) ?_
              refine lv_iload hx hb dX12_findsThrow_54 (lv_at hl 1 rfl) ?_
              refine lv_iload_n hx hb dX12_findsThrow_56 rfl (lv_at hl 3 rfl) ?_
              refine lv_iload_n hx hb dX12_findsThrow_57 rfl (lv_at hl 4 rfl) ?_
              refine lv_iload_n hx hb dX12_findsThrow_58 rfl (lv_at hl 5 rfl) ?_
              refine mr_i (As := [.int v1952, .int v1948, .int x1, .int x2, .int x3]) (rest := []) (n := 5) (d := 0) ⟨hx, hb, hml, hown, hts⟩ (c_X12_thereAt l E D G H h0 hG0 v1952 v1948 x1 x2 x3 ⟨by omega, by omega⟩ (by omega) (by omega)) wd_1737 wd_1739 wp_84 wd_13 wd_1740 (by decide +kernel) ⟨by rw [hR]; exact Nat.le_of_ble_eq_true rfl, by rw [hR]; exact Nat.le_of_ble_eq_true rfl⟩ hI hN hK hS hG0 rfl hl.1 rfl (Nat.le_of_ble_eq_true rfl) dX12_findsThrow_59 ⟨Nat.zero_le _, Nat.zero_le _⟩ (fun r1991 locs hp hS => ?_)
              have hp1992 := hp
              refine lv_istore (lv' := [(7, .int r1991), (6, .int v1952), (5, .int v1948), (0, .ref h0), (1, .int x1), (2, .int x2), (3, .int x3), (4, .int x4)]) hx hb dX12_findsThrow_62 hl (by decide) rfl (fun ls hl => ?_)
              refine lv_aload_n hx hb dX12_findsThrow_64 rfl (lv_at hl 3 rfl) ?_
              refine gmA hx hb hts inT12 hown hK hI List.not_mem_nil hG0 24 (by decide) (hts _ (tb_c wd_1257)) rfl rfl dX12_findsThrow_65 (fun a1993 hq1994 hf1995 => ?_)
              refine lv_bipush (v := 24) hx hb dX12_findsThrow_68 (by decide) ?_
              refine lv_iload hx hb dX12_findsThrow_70 (lv_at hl 2 rfl) ?_
              refine lv_imul hx hb dX12_findsThrow_72 ?_
              refine lv_topi (fun v1996 e1997 => ?_)
              have tv1996 : v1996.toInt = (24) * v1948.toInt := iv_mul (by decide) rfl e1997 (by omega) (by omega)
              refine lv_iload hx hb dX12_findsThrow_73 (lv_at hl 1 rfl) ?_
              refine lv_iadd hx hb dX12_findsThrow_75 ?_
              refine lv_topi (fun v1998 e1999 => ?_)
              have tv1998 : v1998.toInt = v1996.toInt + v1952.toInt := iv_add rfl rfl e1999 (by omega) (by omega)
              obtain ⟨F2000, hA2001⟩ := om_0 hI hq1994 List.not_mem_nil
              refine th_iald hx hb hK hA2001 0 rfl (iv_in (X := v1998.toInt) rfl (by omega) (by omega)) dX12_findsThrow_76 (fun v2002 e2003 => ?_)
              refine lv_istore (lv' := [(8, .int v2002), (7, .int r1991), (6, .int v1952), (5, .int v1948), (0, .ref h0), (1, .int x1), (2, .int x2), (3, .int x3), (4, .int x4)]) hx hb dX12_findsThrow_77 hl (by decide) rfl (fun ls hl => ?_)
              refine lv_iload hx hb dX12_findsThrow_79 (lv_at hl 1 rfl) ?_
              refine lv_iconst (v := (-1)) hx hb dX12_findsThrow_81 (by decide) ?_
              refine lv_icmp_eq (tgt := 147) hx hb dX12_findsThrow_82 (by decide) (fun c2004 => ?_) (fun c2004 => ?_)
              · skip
                have k2005 := iv_eq (X := r1991.toInt) (Y := (-1)) rfl (by decide) c2004
                obtain ⟨v2006, e2007⟩ : ∃ y : Int32, y = v1952 + (1) := ⟨_, rfl⟩
                have tv2006 : v2006.toInt = v1952.toInt + (1) := iv_add rfl (by decide) e2007 (by omega) (by omega)
                refine lv_iinc (v := v2006) (lv' := [(6, .int v2006), (8, .int v2002), (7, .int r1991), (5, .int v1948), (0, .ref h0), (1, .int x1), (2, .int x2), (3, .int x3), (4, .int x4)]) hx hb dX12_findsThrow_147 hl (k := 2) rfl (by rw [e2007]; rfl) (by decide) rfl (fun ls hl => ?_)
                refine lv_goto (tgt := 25) hx hb dX12_findsThrow_150 (by decide) ?_
                exact ih_25 _ (by omega) H locs ls v2006  rfl (lv_sub hl [0, 3, 4, 5, 6, 7, 8] rfl) ⟨by omega, by omega⟩ ⟨by omega, by omega⟩ ⟨by omega, by omega⟩ hI hS
              · skip
                have k2008 := iv_ne (X := r1991.toInt) (Y := (-1)) rfl (by decide) c2004
                refine lv_aload_n hx hb dX12_findsThrow_85 rfl (lv_at hl 4 rfl) ?_
                refine gmI hx hb hts inT12 hown hK hI List.not_mem_nil hG0 31 (by decide) (hts _ (tb_c wd_1264)) rfl rfl dX12_findsThrow_86 (fun w2009 hg2010 k2011 k2012 => ?_)
                refine lv_iconst (v := (-1)) hx hb dX12_findsThrow_89 (by decide) ?_
                refine lv_icmp_eq (tgt := 123) hx hb dX12_findsThrow_90 (by decide) (fun c2013 => ?_) (fun c2013 => ?_)
                · skip
                  have k2014 := iv_eq (X := w2009.toInt) (Y := (-1)) rfl (by decide) c2013
                  exact J_123 H locs ls v2002 r1991  (lv_sub hl [0, 1, 2, 3, 4, 5, 6, 7, 8] rfl) ⟨by omega, by omega⟩ ⟨by omega, by omega⟩ hI hS
                · skip
                  have k2015 := iv_ne (X := w2009.toInt) (Y := (-1)) rfl (by decide) c2013
                  refine lv_iload hx hb dX12_findsThrow_93 (lv_at hl 0 rfl) ?_
                  refine lv_aload_n hx hb dX12_findsThrow_95 rfl (lv_at hl 4 rfl) ?_
                  refine gmI hx hb hts inT12 hown hK hI List.not_mem_nil hG0 30 (by decide) (hts _ (tb_c wd_1263)) rfl rfl dX12_findsThrow_96 (fun w2016 hg2017 k2018 k2019 => ?_)
                  have k2020 := iv_lo v2002
                  have k2021 := iv_hi v2002
                  refine lv_icmp_gt (tgt := 147) hx hb dX12_findsThrow_99 (by decide) (fun c2022 => ?_) (fun c2022 => ?_)
                  · skip
                    have k2023 := iv_lt (X := w2016.toInt) (Y := v2002.toInt) rfl rfl c2022
                    obtain ⟨v2024, e2025⟩ : ∃ y : Int32, y = v1952 + (1) := ⟨_, rfl⟩
                    have tv2024 : v2024.toInt = v1952.toInt + (1) := iv_add rfl (by decide) e2025 (by omega) (by omega)
                    refine lv_iinc (v := v2024) (lv' := [(6, .int v2024), (8, .int v2002), (7, .int r1991), (5, .int v1948), (0, .ref h0), (1, .int x1), (2, .int x2), (3, .int x3), (4, .int x4)]) hx hb dX12_findsThrow_147 hl (k := 2) rfl (by rw [e2025]; rfl) (by decide) rfl (fun ls hl => ?_)
                    refine lv_goto (tgt := 25) hx hb dX12_findsThrow_150 (by decide) ?_
                    exact ih_25 _ (by omega) H locs ls v2024  rfl (lv_sub hl [0, 3, 4, 5, 6, 7, 8] rfl) ⟨by omega, by omega⟩ ⟨by omega, by omega⟩ ⟨by omega, by omega⟩ hI hS
                  · skip
                    have k2026 := iv_nlt (X := w2016.toInt) (Y := v2002.toInt) rfl rfl c2022
                    refine lv_iload hx hb dX12_findsThrow_102 (lv_at hl 0 rfl) ?_
                    refine lv_aload_n hx hb dX12_findsThrow_104 rfl (lv_at hl 4 rfl) ?_
                    refine gmI hx hb hts inT12 hown hK hI List.not_mem_nil hG0 30 (by decide) (hts _ (tb_c wd_1263)) rfl rfl dX12_findsThrow_105 (fun w2027 hg2028 k2029 k2030 => ?_)
                    obtain rfl := gf.uniq (by decide) hg2017 hg2028
                    refine lv_icmp_ne (tgt := 123) hx hb dX12_findsThrow_108 (by decide) (fun c2031 => ?_) (fun c2031 => ?_)
                    · skip
                      have k2032 := iv_ne (X := v2002.toInt) (Y := w2016.toInt) rfl rfl c2031
                      exact J_123 H locs ls v2002 r1991  (lv_sub hl [0, 1, 2, 3, 4, 5, 6, 7, 8] rfl) ⟨by omega, by omega⟩ ⟨by omega, by omega⟩ hI hS
                    · skip
                      have k2033 := iv_eq (X := v2002.toInt) (Y := w2016.toInt) rfl rfl c2031
                      refine lv_iload hx hb dX12_findsThrow_111 (lv_at hl 1 rfl) ?_
                      refine lv_aload_n hx hb dX12_findsThrow_113 rfl (lv_at hl 4 rfl) ?_
                      refine gmI hx hb hts inT12 hown hK hI List.not_mem_nil hG0 33 (by decide) (hts _ (tb_c wd_1266)) rfl rfl dX12_findsThrow_114 (fun w2034 hg2035 k2036 k2037 => ?_)
                      refine lv_icmp_lt (tgt := 123) hx hb dX12_findsThrow_117 (by decide) (fun c2038 => ?_) (fun c2038 => ?_)
                      · skip
                        have k2039 := iv_lt (X := r1991.toInt) (Y := w2034.toInt) rfl rfl c2038
                        exact J_123 H locs ls v2002 r1991  (lv_sub hl [0, 1, 2, 3, 4, 5, 6, 7, 8] rfl) ⟨by omega, by omega⟩ ⟨by omega, by omega⟩ hI hS
                      · skip
                        have k2040 := iv_nlt (X := r1991.toInt) (Y := w2034.toInt) rfl rfl c2038
                        refine lv_goto (tgt := 147) hx hb dX12_findsThrow_120 (by decide) ?_
                        obtain ⟨v2041, e2042⟩ : ∃ y : Int32, y = v1952 + (1) := ⟨_, rfl⟩
                        have tv2041 : v2041.toInt = v1952.toInt + (1) := iv_add rfl (by decide) e2042 (by omega) (by omega)
                        refine lv_iinc (v := v2041) (lv' := [(6, .int v2041), (8, .int v2002), (7, .int r1991), (5, .int v1948), (0, .ref h0), (1, .int x1), (2, .int x2), (3, .int x3), (4, .int x4)]) hx hb dX12_findsThrow_147 hl (k := 2) rfl (by rw [e2042]; rfl) (by decide) rfl (fun ls hl => ?_)
                        refine lv_goto (tgt := 25) hx hb dX12_findsThrow_150 (by decide) ?_
                        exact ih_25 _ (by omega) H locs ls v2041  rfl (lv_sub hl [0, 3, 4, 5, 6, 7, 8] rfl) ⟨by omega, by omega⟩ ⟨by omega, by omega⟩ ⟨by omega, by omega⟩ hI hS
            · skip
              have k2043 := iv_ne (X := v1985.toInt) (Y := (0)) rfl (by decide) c1989
              refine lv_goto (tgt := 147) hx hb dX12_findsThrow_48 (by decide) ?_
              obtain ⟨v2044, e2045⟩ : ∃ y : Int32, y = v1952 + (1) := ⟨_, rfl⟩
              have tv2044 : v2044.toInt = v1952.toInt + (1) := iv_add rfl (by decide) e2045 (by omega) (by omega)
              refine lv_iinc (v := v2044) (lv' := [(6, .int v2044), (5, .int v1948), (0, .ref h0), (1, .int x1), (2, .int x2), (3, .int x3), (4, .int x4)]) hx hb dX12_findsThrow_147 hl (k := 0) rfl (by rw [e2045]; rfl) (by decide) rfl (fun ls hl => ?_)
              refine lv_goto (tgt := 25) hx hb dX12_findsThrow_150 (by decide) ?_
              exact ih_25 _ (by omega) H locs ls v2044  rfl (lv_sub hl [0, 1, 2, 3, 4, 5, 6] rfl) ⟨by omega, by omega⟩ ⟨by omega, by omega⟩ ⟨by omega, by omega⟩ hI hS
      refine lv_iload hx hb dX12_findsThrow_9 (lv_at hl 0 rfl) ?_
      refine lv_bipush (v := 96) hx hb dX12_findsThrow_11 (by decide) ?_
      have k2046 := iv_lo v1948
      have k2047 := iv_hi v1948
      refine lv_icmp_ge (tgt := 159) hx hb dX12_findsThrow_13 (by decide) (fun c2048 => ?_) (fun c2048 => ?_)
      · skip
        have k2049 := iv_le (X := (96)) (Y := v1948.toInt) (by decide) rfl c2048
        have hpost : True := trivial
        rw [hQ]
        exact W.vret hx hb hr (fun t ht hW => ⟨⟨(), rfl, trivial, ⟨by rw [ht]; exact hI, hN.warm hW, va_K.moved hW.alike hK⟩, by first | (rw [ht]; exact hpost) | exact hpost⟩, hS.F ht⟩) hS.2.2 dX12_findsThrow_159
      · skip
        have k2050 := iv_nle (X := (96)) (Y := v1948.toInt) (by decide) rfl c2048
        refine lv_iload hx hb dX12_findsThrow_16 (lv_at hl 0 rfl) ?_
        refine lv_iload_n hx hb dX12_findsThrow_18 rfl (lv_at hl 4 rfl) ?_
        have k2051 := iv_lo x3
        have k2052 := iv_hi x3
        refine lv_icmp_gt (tgt := 159) hx hb dX12_findsThrow_19 (by decide) (fun c2053 => ?_) (fun c2053 => ?_)
        · skip
          have k2054 := iv_lt (X := x3.toInt) (Y := v1948.toInt) rfl rfl c2053
          have hpost : True := trivial
          rw [hQ]
          exact W.vret hx hb hr (fun t ht hW => ⟨⟨(), rfl, trivial, ⟨by rw [ht]; exact hI, hN.warm hW, va_K.moved hW.alike hK⟩, by first | (rw [ht]; exact hpost) | exact hpost⟩, hS.F ht⟩) hS.2.2 dX12_findsThrow_159
        · skip
          have k2055 := iv_nlt (X := x3.toInt) (Y := v1948.toInt) rfl rfl c2053
          refine lv_iconst (v := 0) hx hb dX12_findsThrow_22 (by decide) ?_
          refine lv_istore (lv' := [(6, .int 0), (5, .int v1948), (0, .ref h0), (1, .int x1), (2, .int x2), (3, .int x3), (4, .int x4)]) hx hb dX12_findsThrow_23 hl (by decide) rfl (fun ls hl => ?_)
          have zl : (0 : Int32).toInt = 0 := by decide
          exact J_25 _ H locs ls 0  rfl (lv_sub hl [0, 1, 2, 3, 4, 5, 6] rfl) ⟨by decide, by decide⟩ ⟨by omega, by omega⟩ ⟨by omega, by omega⟩ hI hS
  refine lv_aload_n hx hb dX12_findsThrow_0 rfl (lv_at hl 0 rfl) ?_
  refine lv_iconst (v := (-1)) hx hb dX12_findsThrow_1 (by decide) ?_
  refine pmI (ty := .int) hx hb hts inT12 hown hK hI List.not_mem_nil hG0 hS ⟨_, hG0⟩ 31 (by decide) (hts _ (tb_c wd_1264)) rfl rfl (by decide +kernel) rfl rfl rfl (by decide) (by decide) dX12_findsThrow_2 (fun H locs hI hgP hS => ?_)
  have hg2056 := hgP.2.1
  refine lv_iload hx hb dX12_findsThrow_5 (lv_at hl 4 rfl) ?_
  refine lv_istore (lv' := [(5, .int x4), (0, .ref h0), (1, .int x1), (2, .int x2), (3, .int x3), (4, .int x4)]) hx hb dX12_findsThrow_7 hl (by decide) rfl (fun ls hl => ?_)
  exact J_9 _ H locs ls x4  rfl (lv_sub hl [0, 1, 2, 3, 4, 5] rfl) (by omega) (by omega) (by omega) hI hS
