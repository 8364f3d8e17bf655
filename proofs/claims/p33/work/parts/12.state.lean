theorem wn_418 : (Cond.methodLinkNest RX6 (74 : Nat) yX11_isPump "NineRiver") ∈ lw_tbl := List.mem_append_right _ (List.mem_of_getElem? (i := 418) (by decide +kernel))
theorem wn_549 : (Cond.methodLinkNest RX6 (90 : Nat) yX11_isHour "NineRiver") ∈ lw_tbl := List.mem_append_right _ (List.mem_of_getElem? (i := 549) (by decide +kernel))
theorem wd_1166 : (Cond.methodLink RX6 (82 : Nat) yX6_pumpPart) ∈ TB := tw 1166 (by decide +kernel) (by decide +kernel)
theorem wd_2 : (Cond.initialized RX6) ∈ TB := tw 2 (by decide +kernel) (by decide +kernel)
theorem wd_4 : (Cond.initialized RJ9) ∈ TB := tw 4 (by decide +kernel) (by decide +kernel)
theorem wd_412 : (Jvm.Cond.static yX11_isPump) ∈ TB := tw 412 (by decide +kernel) (by decide +kernel)
theorem wd_413 : (Cond.code yX11_isPump cX11_isPump 1 (Option.some Jvm.ClassFile.FieldType.boolean)) ∈ TB := tw 413 (by decide +kernel) (by decide +kernel)
theorem wd_419 : (Cond.methodLink RX6 (78 : Nat) yX6_tellClocks) ∈ TB := tw 419 (by decide +kernel) (by decide +kernel)
theorem wd_420 : (Jvm.Cond.instanceMethod yX6_tellClocks) ∈ TB := tw 420 (by decide +kernel) (by decide +kernel)
theorem wd_421 : (Cond.selects RX6 yX6_tellClocks yX6_tellClocks) ∈ TB := tw 421 (by decide +kernel) (by decide +kernel)
theorem wd_422 : (Cond.code yX6_tellClocks cX6_tellClocks 4 (Option.none : Option Jvm.ClassFile.FieldType)) ∈ TB := tw 422 (by decide +kernel) (by decide +kernel)
theorem wd_43 : (Jvm.Cond.static Lib.Math.max.name) ∈ TB := tw 43 (by decide +kernel) (by decide +kernel)
theorem wd_44 : (Cond.code Lib.Math.max.name Lib.Math.max.code 2 (Option.some Jvm.ClassFile.FieldType.int)) ∈ TB := tw 44 (by decide +kernel) (by decide +kernel)
theorem wd_456 : (Jvm.Cond.instanceMethod yX6_pumpPart) ∈ TB := tw 456 (by decide +kernel) (by decide +kernel)
theorem wd_457 : (Cond.selects RX6 yX6_pumpPart yX6_pumpPart) ∈ TB := tw 457 (by decide +kernel) (by decide +kernel)
theorem wd_458 : (Cond.code yX6_pumpPart cX6_pumpPart 3 (Option.some Jvm.ClassFile.FieldType.int)) ∈ TB := tw 458 (by decide +kernel) (by decide +kernel)
theorem wd_476 : (Cond.methodLink RX6 (93 : Nat) Lib.Math.max.name) ∈ TB := tw 476 (by decide +kernel) (by decide +kernel)
theorem wd_554 : (Cond.methodLink RX6 (86 : Nat) yX6_pumpedBy) ∈ TB := tw 554 (by decide +kernel) (by decide +kernel)
theorem wd_555 : (Jvm.Cond.instanceMethod yX6_pumpedBy) ∈ TB := tw 555 (by decide +kernel) (by decide +kernel)
theorem wd_556 : (Cond.selects RX6 yX6_pumpedBy yX6_pumpedBy) ∈ TB := tw 556 (by decide +kernel) (by decide +kernel)
theorem wd_557 : (Cond.code yX6_pumpedBy cX6_pumpedBy 10 (Option.some Jvm.ClassFile.FieldType.int)) ∈ TB := tw 557 (by decide +kernel) (by decide +kernel)
theorem wd_58 : (Cond.fieldLink RX6 (9 : Nat) "NineRiver$State" "pumps" "[I") ∈ TB := tw 58 (by decide +kernel) (by decide +kernel)
theorem wd_59 : (Cond.fieldLink RX6 (15 : Nat) "NineRiver$State" "strikes" "[I") ∈ TB := tw 59 (by decide +kernel) (by decide +kernel)
theorem wd_81 : (Cond.fieldLink RX6 (47 : Nat) "NineRiver$State" "laws" "[LNineRiver$Law;") ∈ TB := tw 81 (by decide +kernel) (by decide +kernel)
theorem wd_82 : (Cond.fieldLink RX6 (51 : Nat) "NineRiver$State" "lawCount" "I") ∈ TB := tw 82 (by decide +kernel) (by decide +kernel)
theorem wd_84 : (Cond.fieldLink RX6 (55 : Nat) "NineRiver$State" "inForce" "I") ∈ TB := tw 84 (by decide +kernel) (by decide +kernel)
theorem dX6_pumpPart_0g : (decode cX6_pumpPart 0 = .ok (.iload_n 1, 1)) ∧ (decode cX6_pumpPart 1 = .ok (.invokestatic 74, 3)) ∧ (decode cX6_pumpPart 4 = .ok (.ifCond .eq 25, 3)) ∧ (decode cX6_pumpPart 7 = .ok (.iload_n 2, 1)) ∧ (decode cX6_pumpPart 8 = .ok (.ifCond .lt 21, 3)) ∧ (decode cX6_pumpPart 11 = .ok (.iload_n 2, 1)) ∧ (decode cX6_pumpPart 12 = .ok (.iconst 5, 1)) ∧ (decode cX6_pumpPart 13 = .ok (.if_icmp .ge 16, 3)) ∧ (decode cX6_pumpPart 16 = .ok (.aload_n 0, 1)) ∧ (decode cX6_pumpPart 17 = .ok (.getfield 9, 3)) := by decide +kernel
theorem dX6_pumpPart_0 : decode cX6_pumpPart 0 = .ok (.iload_n 1, 1) := dX6_pumpPart_0g.1
theorem dX6_pumpPart_1 : decode cX6_pumpPart 1 = .ok (.invokestatic 74, 3) := dX6_pumpPart_0g.2.1
theorem dX6_pumpPart_4 : decode cX6_pumpPart 4 = .ok (.ifCond .eq 25, 3) := dX6_pumpPart_0g.2.2.1
theorem dX6_pumpPart_7 : decode cX6_pumpPart 7 = .ok (.iload_n 2, 1) := dX6_pumpPart_0g.2.2.2.1
theorem dX6_pumpPart_8 : decode cX6_pumpPart 8 = .ok (.ifCond .lt 21, 3) := dX6_pumpPart_0g.2.2.2.2.1
theorem dX6_pumpPart_11 : decode cX6_pumpPart 11 = .ok (.iload_n 2, 1) := dX6_pumpPart_0g.2.2.2.2.2.1
theorem dX6_pumpPart_12 : decode cX6_pumpPart 12 = .ok (.iconst 5, 1) := dX6_pumpPart_0g.2.2.2.2.2.2.1
theorem dX6_pumpPart_13 : decode cX6_pumpPart 13 = .ok (.if_icmp .ge 16, 3) := dX6_pumpPart_0g.2.2.2.2.2.2.2.1
theorem dX6_pumpPart_16 : decode cX6_pumpPart 16 = .ok (.aload_n 0, 1) := dX6_pumpPart_0g.2.2.2.2.2.2.2.2.1
theorem dX6_pumpPart_17 : decode cX6_pumpPart 17 = .ok (.getfield 9, 3) := dX6_pumpPart_0g.2.2.2.2.2.2.2.2.2
theorem dX6_pumpPart_20g : (decode cX6_pumpPart 20 = .ok (.iload_n 1, 1)) ∧ (decode cX6_pumpPart 21 = .ok (.iconst 5, 1)) ∧ (decode cX6_pumpPart 22 = .ok (.imul, 1)) ∧ (decode cX6_pumpPart 23 = .ok (.iload_n 2, 1)) ∧ (decode cX6_pumpPart 24 = .ok (.iadd, 1)) ∧ (decode cX6_pumpPart 25 = .ok (.iaload, 1)) ∧ (decode cX6_pumpPart 26 = .ok (.goto 4, 3)) ∧ (decode cX6_pumpPart 29 = .ok (.iconst 0, 1)) ∧ (decode cX6_pumpPart 30 = .ok (.ireturn, 1)) := by decide +kernel
theorem dX6_pumpPart_20 : decode cX6_pumpPart 20 = .ok (.iload_n 1, 1) := dX6_pumpPart_20g.1
theorem dX6_pumpPart_21 : decode cX6_pumpPart 21 = .ok (.iconst 5, 1) := dX6_pumpPart_20g.2.1
theorem dX6_pumpPart_22 : decode cX6_pumpPart 22 = .ok (.imul, 1) := dX6_pumpPart_20g.2.2.1
theorem dX6_pumpPart_23 : decode cX6_pumpPart 23 = .ok (.iload_n 2, 1) := dX6_pumpPart_20g.2.2.2.1
theorem dX6_pumpPart_24 : decode cX6_pumpPart 24 = .ok (.iadd, 1) := dX6_pumpPart_20g.2.2.2.2.1
theorem dX6_pumpPart_25 : decode cX6_pumpPart 25 = .ok (.iaload, 1) := dX6_pumpPart_20g.2.2.2.2.2.1
theorem dX6_pumpPart_26 : decode cX6_pumpPart 26 = .ok (.goto 4, 3) := dX6_pumpPart_20g.2.2.2.2.2.2.1
theorem dX6_pumpPart_29 : decode cX6_pumpPart 29 = .ok (.iconst 0, 1) := dX6_pumpPart_20g.2.2.2.2.2.2.2.1
theorem dX6_pumpPart_30 : decode cX6_pumpPart 30 = .ok (.ireturn, 1) := dX6_pumpPart_20g.2.2.2.2.2.2.2.2
set_option maxHeartbeats 4000000 in
set_option maxRecDepth 100000 in
theorem c_X6_pumpPart (l : Launch) (E : Nat → Nat) (D : va_G) (G : th_G) (h0 : Nat) (hG0 : G h0 = some (6, 0)) (x1 x2 : Int32) : Met l yX6_pumpPart (tb (.code yX6_pumpPart cX6_pumpPart 3 (some .int))) (rm 1) (va_Pc [.ref h0, .int x1, .int x2] (th_P E D G)) (QI E D G (fun r => True)) 0 0 (th_A G) := by
  refine Met.ofW (cc := cX6_pumpPart) (maxL := 3) (ret := (some .int)) (by decide) rfl ?_
  intro p e s m args below meth c s₁ B hml hv
  obtain ⟨hav, hI, hN, hK⟩ := hv
  have hx := B.exec
  have hb := B.bytes
  have hr := B.returns
  have hts := atoms_spec (ws := tb (.code yX6_pumpPart cX6_pumpPart 3 (some .int))) B.pre
  have hown : s.vm.findClass RX6 = some m.cls := findClass_of_methodNamed B.named
  have hlocks := B.notSynchronized
  have hS : va_S (th_A G) s.heap s.heap [] := va_S.rf
  have hl := lv_entry ([.ref h0, .int x1, .int x2]) (n := 3) (Nat.le_of_ble_eq_true rfl)
  rw [show entryFrame m args 3 = entryFrame m ([.ref h0, .int x1, .int x2] : List Value).toArray 3 from by rw [hav], lg_entry_eq]
  generalize (lg_sl ([.ref h0, .int x1, .int x2]) ++ List.replicate (3 - (lg_sl ([.ref h0, .int x1, .int x2])).length) Slot.unset).toArray = ls at hl ⊢
  have hl : lv_has ls 3 [(0, .ref h0), (1, .int x1), (2, .int x2)] := hl
  generalize hR : (headSpec (tb (.code yX6_pumpPart cX6_pumpPart 3 (some .int))) (rm 1)).room = R
  have hR := hR.symm
  generalize hQ : MQ below (QI E D G (fun r => True)) args s 0 0 (th_A G) = QF
  have hQ := hQ.symm
  refine lv_iload_n hx hb dX6_pumpPart_0 rfl (lv_at hl 1 rfl) ?_
  refine th_cSN (As := [.int x1]) (rest := []) (n := 1) (d := 0) ⟨hx, hb, hml, hown, hts⟩ (c_X11_isPump l s.heap x1) wn_418 wd_412 wd_1 wd_413 (by decide +kernel) ⟨by rw [hR]; exact Nat.le_of_ble_eq_true rfl, by rw [hR]; exact Nat.le_of_ble_eq_true rfl⟩ hN hS rfl hl.1 rfl (Nat.le_of_ble_eq_true rfl) dX6_pumpPart_1 ⟨Nat.zero_le _, Nat.zero_le _⟩ (fun r1 locs hp hS => ?_)
  rcases hp with ⟨rfl, hp⟩ | ⟨rfl, hp⟩
  · skip
    try simp only [rg, not_and, Int.not_le] at hp
    have hp2 := hp
    refine lv_if_eq (tgt := 29) hx hb dX6_pumpPart_4 (by decide) (fun c => absurd c (by decide)) (fun _ => ?_)
    refine lv_iload_n hx hb dX6_pumpPart_7 rfl (lv_at hl 2 rfl) ?_
    have k3 := iv_lo x2
    have k4 := iv_hi x2
    refine lv_if_lt (tgt := 29) hx hb dX6_pumpPart_8 (by decide) (fun c5 => ?_) (fun c5 => ?_)
    · skip
      have k6 := iv_lt (X := x2.toInt) (Y := (0)) rfl (by decide) c5
      refine lv_iconst (v := 0) hx hb dX6_pumpPart_29 (by decide) ?_
      have hpost : True := trivial
      rw [hQ]
      exact W.iret (v := 0) hx hb hr (fun t ht hW => ⟨⟨0, (), rfl, hpost, by rw [ht]; exact hI, hN.warm hW, va_K.moved hW.alike hK⟩, hS.F ht⟩) hS.2.2 dX6_pumpPart_30
    · skip
      have k7 := iv_nlt (X := x2.toInt) (Y := (0)) rfl (by decide) c5
      refine lv_iload_n hx hb dX6_pumpPart_11 rfl (lv_at hl 2 rfl) ?_
      refine lv_iconst (v := 5) hx hb dX6_pumpPart_12 (by decide) ?_
      refine lv_icmp_ge (tgt := 29) hx hb dX6_pumpPart_13 (by decide) (fun c8 => ?_) (fun c8 => ?_)
      · skip
        have k9 := iv_le (X := (5)) (Y := x2.toInt) (by decide) rfl c8
        refine lv_iconst (v := 0) hx hb dX6_pumpPart_29 (by decide) ?_
        have hpost : True := trivial
        rw [hQ]
        exact W.iret (v := 0) hx hb hr (fun t ht hW => ⟨⟨0, (), rfl, hpost, by rw [ht]; exact hI, hN.warm hW, va_K.moved hW.alike hK⟩, hS.F ht⟩) hS.2.2 dX6_pumpPart_30
      · skip
        have k10 := iv_nle (X := (5)) (Y := x2.toInt) (by decide) rfl c8
        refine lv_aload_n hx hb dX6_pumpPart_16 rfl (lv_at hl 0 rfl) ?_
        obtain ⟨a11, a13, a15, a17, a19, a21, a23, a25, a27, a29, w31, w34, w35, w36, hO, hq12, hq14, hq16, hq18, hq20, hq22, hq24, hq26, hq28, hq30, ⟨k32, k33⟩, k37⟩ := op_6 hI hG0 List.not_mem_nil
        have hI := th_I.weak (a := h0) hI
        refine th_get hx hb hts inT6 hown hK hO rfl 0 (by decide) (hts _ (tb_c wd_58)) rfl rfl dX6_pumpPart_17 ?_
        refine lv_iload_n hx hb dX6_pumpPart_20 rfl (lv_at hl 1 rfl) ?_
        refine lv_iconst (v := 5) hx hb dX6_pumpPart_21 (by decide) ?_
        refine lv_imul hx hb dX6_pumpPart_22 ?_
        refine lv_topi (fun v38 e39 => ?_)
        have tv38 : v38.toInt = x1.toInt * (5) := iv_mul rfl (by decide) e39 (by omega) (by omega)
        refine lv_iload_n hx hb dX6_pumpPart_23 rfl (lv_at hl 2 rfl) ?_
        refine lv_iadd hx hb dX6_pumpPart_24 ?_
        refine lv_topi (fun v40 e41 => ?_)
        have tv40 : v40.toInt = v38.toInt + x2.toInt := iv_add rfl rfl e41 (by omega) (by omega)
        obtain ⟨_, hA42⟩ := op_0 hI hq12 (th_ne hG0 hq12 (show (6 : Nat) ≠ 0 by decide))
        refine th_iald hx hb hK hA42 0 rfl (iv_in (X := v40.toInt) rfl (by omega) (by omega)) dX6_pumpPart_25 (fun v43 _ => ?_)
        refine lv_goto (tgt := 30) hx hb dX6_pumpPart_26 (by decide) ?_
        have hI := th_I.close hI hG0 hO (ok_6 hq12 hq14 hq16 hq18 hq20 hq22 hq24 hq26 hq28 hq30 ⟨by omega, by omega⟩ k37)
        have hpost : True := trivial
        rw [hQ]
        exact W.iret (v := v43) hx hb hr (fun t ht hW => ⟨⟨v43, (), rfl, hpost, by rw [ht]; exact hI, hN.warm hW, va_K.moved hW.alike hK⟩, hS.F ht⟩) hS.2.2 dX6_pumpPart_30
  · skip
    try simp only [rg, not_and, Int.not_le] at hp
    have hp44 := hp
    refine lv_if_eq (tgt := 29) hx hb dX6_pumpPart_4 (by decide) (fun _ => ?_) (fun c => absurd c (by decide))
    refine lv_iconst (v := 0) hx hb dX6_pumpPart_29 (by decide) ?_
    have hpost : True := trivial
    rw [hQ]
    exact W.iret (v := 0) hx hb hr (fun t ht hW => ⟨⟨0, (), rfl, hpost, by rw [ht]; exact hI, hN.warm hW, va_K.moved hW.alike hK⟩, hS.F ht⟩) hS.2.2 dX6_pumpPart_30
theorem dX6_tellClocks_0g : (decode cX6_tellClocks 0 = .ok (.iload_n 1, 1)) ∧ (decode cX6_tellClocks 1 = .ok (.invokestatic 74, 3)) ∧ (decode cX6_tellClocks 4 = .ok (.ifCond .eq 25, 3)) ∧ (decode cX6_tellClocks 7 = .ok (.aload_n 0, 1)) ∧ (decode cX6_tellClocks 8 = .ok (.getfield 9, 3)) ∧ (decode cX6_tellClocks 11 = .ok (.iload_n 1, 1)) ∧ (decode cX6_tellClocks 12 = .ok (.iconst 5, 1)) ∧ (decode cX6_tellClocks 13 = .ok (.imul, 1)) ∧ (decode cX6_tellClocks 14 = .ok (.iconst 2, 1)) ∧ (decode cX6_tellClocks 15 = .ok (.iadd, 1)) := by decide +kernel
theorem dX6_tellClocks_0 : decode cX6_tellClocks 0 = .ok (.iload_n 1, 1) := dX6_tellClocks_0g.1
theorem dX6_tellClocks_1 : decode cX6_tellClocks 1 = .ok (.invokestatic 74, 3) := dX6_tellClocks_0g.2.1
theorem dX6_tellClocks_4 : decode cX6_tellClocks 4 = .ok (.ifCond .eq 25, 3) := dX6_tellClocks_0g.2.2.1
theorem dX6_tellClocks_7 : decode cX6_tellClocks 7 = .ok (.aload_n 0, 1) := dX6_tellClocks_0g.2.2.2.1
theorem dX6_tellClocks_8 : decode cX6_tellClocks 8 = .ok (.getfield 9, 3) := dX6_tellClocks_0g.2.2.2.2.1
theorem dX6_tellClocks_11 : decode cX6_tellClocks 11 = .ok (.iload_n 1, 1) := dX6_tellClocks_0g.2.2.2.2.2.1
theorem dX6_tellClocks_12 : decode cX6_tellClocks 12 = .ok (.iconst 5, 1) := dX6_tellClocks_0g.2.2.2.2.2.2.1
theorem dX6_tellClocks_13 : decode cX6_tellClocks 13 = .ok (.imul, 1) := dX6_tellClocks_0g.2.2.2.2.2.2.2.1
theorem dX6_tellClocks_14 : decode cX6_tellClocks 14 = .ok (.iconst 2, 1) := dX6_tellClocks_0g.2.2.2.2.2.2.2.2.1
theorem dX6_tellClocks_15 : decode cX6_tellClocks 15 = .ok (.iadd, 1) := dX6_tellClocks_0g.2.2.2.2.2.2.2.2.2
theorem dX6_tellClocks_16g : (decode cX6_tellClocks 16 = .ok (.iload_n 2, 1)) ∧ (decode cX6_tellClocks 17 = .ok (.iastore, 1)) ∧ (decode cX6_tellClocks 18 = .ok (.aload_n 0, 1)) ∧ (decode cX6_tellClocks 19 = .ok (.getfield 9, 3)) ∧ (decode cX6_tellClocks 22 = .ok (.iload_n 1, 1)) ∧ (decode cX6_tellClocks 23 = .ok (.iconst 5, 1)) ∧ (decode cX6_tellClocks 24 = .ok (.imul, 1)) ∧ (decode cX6_tellClocks 25 = .ok (.iconst 3, 1)) ∧ (decode cX6_tellClocks 26 = .ok (.iadd, 1)) ∧ (decode cX6_tellClocks 27 = .ok (.iload_n 3, 1)) := by decide +kernel
theorem dX6_tellClocks_16 : decode cX6_tellClocks 16 = .ok (.iload_n 2, 1) := dX6_tellClocks_16g.1
theorem dX6_tellClocks_17 : decode cX6_tellClocks 17 = .ok (.iastore, 1) := dX6_tellClocks_16g.2.1
theorem dX6_tellClocks_18 : decode cX6_tellClocks 18 = .ok (.aload_n 0, 1) := dX6_tellClocks_16g.2.2.1
theorem dX6_tellClocks_19 : decode cX6_tellClocks 19 = .ok (.getfield 9, 3) := dX6_tellClocks_16g.2.2.2.1
theorem dX6_tellClocks_22 : decode cX6_tellClocks 22 = .ok (.iload_n 1, 1) := dX6_tellClocks_16g.2.2.2.2.1
theorem dX6_tellClocks_23 : decode cX6_tellClocks 23 = .ok (.iconst 5, 1) := dX6_tellClocks_16g.2.2.2.2.2.1
theorem dX6_tellClocks_24 : decode cX6_tellClocks 24 = .ok (.imul, 1) := dX6_tellClocks_16g.2.2.2.2.2.2.1
theorem dX6_tellClocks_25 : decode cX6_tellClocks 25 = .ok (.iconst 3, 1) := dX6_tellClocks_16g.2.2.2.2.2.2.2.1
theorem dX6_tellClocks_26 : decode cX6_tellClocks 26 = .ok (.iadd, 1) := dX6_tellClocks_16g.2.2.2.2.2.2.2.2.1
theorem dX6_tellClocks_27 : decode cX6_tellClocks 27 = .ok (.iload_n 3, 1) := dX6_tellClocks_16g.2.2.2.2.2.2.2.2.2
theorem dX6_tellClocks_28g : (decode cX6_tellClocks 28 = .ok (.iastore, 1)) ∧ (decode cX6_tellClocks 29 = .ok (.return_, 1)) := by decide +kernel
theorem dX6_tellClocks_28 : decode cX6_tellClocks 28 = .ok (.iastore, 1) := dX6_tellClocks_28g.1
theorem dX6_tellClocks_29 : decode cX6_tellClocks 29 = .ok (.return_, 1) := dX6_tellClocks_28g.2
set_option maxHeartbeats 4000000 in
set_option maxRecDepth 100000 in
theorem c_X6_tellClocks (l : Launch) (E : Nat → Nat) (D : va_G) (G : th_G) (h0 : Nat) (hG0 : G h0 = some (6, 0)) (x1 x2 x3 : Int32) : Met l yX6_tellClocks (tb (.code yX6_tellClocks cX6_tellClocks 4 none)) (rm 1) (va_Pc [.ref h0, .int x1, .int x2, .int x3] (th_P E D G)) (QV E D G) 0 0 (th_A G) := by
  refine Met.ofW (cc := cX6_tellClocks) (maxL := 4) (ret := none) (by decide) rfl ?_
  intro p e s m args below meth c s₁ B hml hv
  obtain ⟨hav, hI, hN, hK⟩ := hv
  have hx := B.exec
  have hb := B.bytes
  have hr := B.returns
  have hts := atoms_spec (ws := tb (.code yX6_tellClocks cX6_tellClocks 4 none)) B.pre
  have hown : s.vm.findClass RX6 = some m.cls := findClass_of_methodNamed B.named
  have hlocks := B.notSynchronized
  have hS : va_S (th_A G) s.heap s.heap [] := va_S.rf
  have hl := lv_entry ([.ref h0, .int x1, .int x2, .int x3]) (n := 4) (Nat.le_of_ble_eq_true rfl)
  rw [show entryFrame m args 4 = entryFrame m ([.ref h0, .int x1, .int x2, .int x3] : List Value).toArray 4 from by rw [hav], lg_entry_eq]
  generalize (lg_sl ([.ref h0, .int x1, .int x2, .int x3]) ++ List.replicate (4 - (lg_sl ([.ref h0, .int x1, .int x2, .int x3])).length) Slot.unset).toArray = ls at hl ⊢
  have hl : lv_has ls 4 [(0, .ref h0), (1, .int x1), (2, .int x2), (3, .int x3)] := hl
  generalize hR : (headSpec (tb (.code yX6_tellClocks cX6_tellClocks 4 none)) (rm 1)).room = R
  have hR := hR.symm
  generalize hQ : MQ below (QV E D G) args s 0 0 (th_A G) = QF
  have hQ := hQ.symm
  refine lv_iload_n hx hb dX6_tellClocks_0 rfl (lv_at hl 1 rfl) ?_
  refine th_cSN (As := [.int x1]) (rest := []) (n := 1) (d := 0) ⟨hx, hb, hml, hown, hts⟩ (c_X11_isPump l s.heap x1) wn_418 wd_412 wd_1 wd_413 (by decide +kernel) ⟨by rw [hR]; exact Nat.le_of_ble_eq_true rfl, by rw [hR]; exact Nat.le_of_ble_eq_true rfl⟩ hN hS rfl hl.1 rfl (Nat.le_of_ble_eq_true rfl) dX6_tellClocks_1 ⟨Nat.zero_le _, Nat.zero_le _⟩ (fun r1 locs hp hS => ?_)
  rcases hp with ⟨rfl, hp⟩ | ⟨rfl, hp⟩
  · skip
    try simp only [rg, not_and, Int.not_le] at hp
    have hp2 := hp
    refine lv_if_eq (tgt := 29) hx hb dX6_tellClocks_4 (by decide) (fun c => absurd c (by decide)) (fun _ => ?_)
    refine lv_aload_n hx hb dX6_tellClocks_7 rfl (lv_at hl 0 rfl) ?_
    obtain ⟨a3, a5, a7, a9, a11, a13, a15, a17, a19, a21, w23, w26, w27, w28, hO, hq4, hq6, hq8, hq10, hq12, hq14, hq16, hq18, hq20, hq22, ⟨k24, k25⟩, k29⟩ := op_6 hI hG0 List.not_mem_nil
    have hI := th_I.weak (a := h0) hI
    refine th_get hx hb hts inT6 hown hK hO rfl 0 (by decide) (hts _ (tb_c wd_58)) rfl rfl dX6_tellClocks_8 ?_
    refine lv_iload_n hx hb dX6_tellClocks_11 rfl (lv_at hl 1 rfl) ?_
    refine lv_iconst (v := 5) hx hb dX6_tellClocks_12 (by decide) ?_
    refine lv_imul hx hb dX6_tellClocks_13 ?_
    refine lv_topi (fun v30 e31 => ?_)
    have tv30 : v30.toInt = x1.toInt * (5) := iv_mul rfl (by decide) e31 (by omega) (by omega)
    refine lv_iconst (v := 2) hx hb dX6_tellClocks_14 (by decide) ?_
    refine lv_iadd hx hb dX6_tellClocks_15 ?_
    refine lv_topi (fun v32 e33 => ?_)
    have tv32 : v32.toInt = v30.toInt + (2) := iv_add rfl (by decide) e33 (by omega) (by omega)
    refine lv_iload_n hx hb dX6_tellClocks_16 rfl (lv_at hl 2 rfl) ?_
    obtain ⟨_, hA34⟩ := op_0 hI hq4 (th_ne hG0 hq4 (show (6 : Nat) ≠ 0 by decide))
    refine th_iast hx hb hK hA34 0 rfl hS ⟨_, hq4⟩ (iv_in (X := v32.toInt) rfl (by omega) (by omega)) dX6_tellClocks_17 (fun H locs hA34 oq hS => ?_)
    have hI := th_I.put hI hq4 hA34 ok_0 oq
    have hO := hO.kept (oq _ (fun z => th_ne hG0 hq4 (show (6 : Nat) ≠ 0 by decide) (List.mem_singleton.mpr z.symm)))
    refine lv_aload_n hx hb dX6_tellClocks_18 rfl (lv_at hl 0 rfl) ?_
    refine th_get hx hb hts inT6 hown hK hO rfl 0 (by decide) (hts _ (tb_c wd_58)) rfl rfl dX6_tellClocks_19 ?_
    refine lv_iload_n hx hb dX6_tellClocks_22 rfl (lv_at hl 1 rfl) ?_
    refine lv_iconst (v := 5) hx hb dX6_tellClocks_23 (by decide) ?_
    refine lv_imul hx hb dX6_tellClocks_24 ?_
    refine lv_topi (fun v35 e36 => ?_)
    have tv35 : v35.toInt = x1.toInt * (5) := iv_mul rfl (by decide) e36 (by omega) (by omega)
    refine lv_iconst (v := 3) hx hb dX6_tellClocks_25 (by decide) ?_
    refine lv_iadd hx hb dX6_tellClocks_26 ?_
    refine lv_topi (fun v37 e38 => ?_)
    have tv37 : v37.toInt = v35.toInt + (3) := iv_add rfl (by decide) e38 (by omega) (by omega)
    refine lv_iload_n hx hb dX6_tellClocks_27 rfl (lv_at hl 3 rfl) ?_
    obtain ⟨_, hA39⟩ := op_0 hI hq4 (th_ne hG0 hq4 (show (6 : Nat) ≠ 0 by decide))
    refine th_iast hx hb hK hA39 0 rfl hS ⟨_, hq4⟩ (iv_in (X := v37.toInt) rfl (by omega) (by omega)) dX6_tellClocks_28 (fun H locs hA39 oq hS => ?_)
    have hI := th_I.put hI hq4 hA39 ok_0 oq
    have hO := hO.kept (oq _ (fun z => th_ne hG0 hq4 (show (6 : Nat) ≠ 0 by decide) (List.mem_singleton.mpr z.symm)))
    have hI := th_I.close hI hG0 hO (ok_6 hq4 hq6 hq8 hq10 hq12 hq14 hq16 hq18 hq20 hq22 ⟨by omega, by omega⟩ k29)
    rw [hQ]
    exact W.vret hx hb hr (fun t ht hW => ⟨⟨(), rfl, trivial, by rw [ht]; exact hI, hN.warm hW, va_K.moved hW.alike hK⟩, hS.F ht⟩) hS.2.2 dX6_tellClocks_29
  · skip
    try simp only [rg, not_and, Int.not_le] at hp
    have hp40 := hp
    refine lv_if_eq (tgt := 29) hx hb dX6_tellClocks_4 (by decide) (fun _ => ?_) (fun c => absurd c (by decide))
    rw [hQ]
    exact W.vret hx hb hr (fun t ht hW => ⟨⟨(), rfl, trivial, by rw [ht]; exact hI, hN.warm hW, va_K.moved hW.alike hK⟩, hS.F ht⟩) hS.2.2 dX6_tellClocks_29
theorem dX6_tellPump_0g : (decode cX6_tellPump 0 = .ok (.iload_n 1, 1)) ∧ (decode cX6_tellPump 1 = .ok (.invokestatic 74, 3)) ∧ (decode cX6_tellPump 4 = .ok (.ifCond .eq 46, 3)) ∧ (decode cX6_tellPump 7 = .ok (.iload_n 1, 1)) ∧ (decode cX6_tellPump 8 = .ok (.iconst 5, 1)) ∧ (decode cX6_tellPump 9 = .ok (.imul, 1)) ∧ (decode cX6_tellPump 10 = .ok (.istore 7, 2)) ∧ (decode cX6_tellPump 12 = .ok (.aload_n 0, 1)) ∧ (decode cX6_tellPump 13 = .ok (.getfield 9, 3)) ∧ (decode cX6_tellPump 16 = .ok (.iload 7, 2)) := by decide +kernel
theorem dX6_tellPump_0 : decode cX6_tellPump 0 = .ok (.iload_n 1, 1) := dX6_tellPump_0g.1
theorem dX6_tellPump_1 : decode cX6_tellPump 1 = .ok (.invokestatic 74, 3) := dX6_tellPump_0g.2.1
theorem dX6_tellPump_4 : decode cX6_tellPump 4 = .ok (.ifCond .eq 46, 3) := dX6_tellPump_0g.2.2.1
theorem dX6_tellPump_7 : decode cX6_tellPump 7 = .ok (.iload_n 1, 1) := dX6_tellPump_0g.2.2.2.1
theorem dX6_tellPump_8 : decode cX6_tellPump 8 = .ok (.iconst 5, 1) := dX6_tellPump_0g.2.2.2.2.1
theorem dX6_tellPump_9 : decode cX6_tellPump 9 = .ok (.imul, 1) := dX6_tellPump_0g.2.2.2.2.2.1
theorem dX6_tellPump_10 : decode cX6_tellPump 10 = .ok (.istore 7, 2) := dX6_tellPump_0g.2.2.2.2.2.2.1
theorem dX6_tellPump_12 : decode cX6_tellPump 12 = .ok (.aload_n 0, 1) := dX6_tellPump_0g.2.2.2.2.2.2.2.1
theorem dX6_tellPump_13 : decode cX6_tellPump 13 = .ok (.getfield 9, 3) := dX6_tellPump_0g.2.2.2.2.2.2.2.2.1
theorem dX6_tellPump_16 : decode cX6_tellPump 16 = .ok (.iload 7, 2) := dX6_tellPump_0g.2.2.2.2.2.2.2.2.2
theorem dX6_tellPump_18g : (decode cX6_tellPump 18 = .ok (.iload_n 2, 1)) ∧ (decode cX6_tellPump 19 = .ok (.iastore, 1)) ∧ (decode cX6_tellPump 20 = .ok (.aload_n 0, 1)) ∧ (decode cX6_tellPump 21 = .ok (.getfield 9, 3)) ∧ (decode cX6_tellPump 24 = .ok (.iload 7, 2)) ∧ (decode cX6_tellPump 26 = .ok (.iconst 1, 1)) ∧ (decode cX6_tellPump 27 = .ok (.iadd, 1)) ∧ (decode cX6_tellPump 28 = .ok (.iload_n 3, 1)) ∧ (decode cX6_tellPump 29 = .ok (.iastore, 1)) ∧ (decode cX6_tellPump 30 = .ok (.aload_n 0, 1)) := by decide +kernel
theorem dX6_tellPump_18 : decode cX6_tellPump 18 = .ok (.iload_n 2, 1) := dX6_tellPump_18g.1
theorem dX6_tellPump_19 : decode cX6_tellPump 19 = .ok (.iastore, 1) := dX6_tellPump_18g.2.1
theorem dX6_tellPump_20 : decode cX6_tellPump 20 = .ok (.aload_n 0, 1) := dX6_tellPump_18g.2.2.1
theorem dX6_tellPump_21 : decode cX6_tellPump 21 = .ok (.getfield 9, 3) := dX6_tellPump_18g.2.2.2.1
theorem dX6_tellPump_24 : decode cX6_tellPump 24 = .ok (.iload 7, 2) := dX6_tellPump_18g.2.2.2.2.1
theorem dX6_tellPump_26 : decode cX6_tellPump 26 = .ok (.iconst 1, 1) := dX6_tellPump_18g.2.2.2.2.2.1
theorem dX6_tellPump_27 : decode cX6_tellPump 27 = .ok (.iadd, 1) := dX6_tellPump_18g.2.2.2.2.2.2.1
theorem dX6_tellPump_28 : decode cX6_tellPump 28 = .ok (.iload_n 3, 1) := dX6_tellPump_18g.2.2.2.2.2.2.2.1
theorem dX6_tellPump_29 : decode cX6_tellPump 29 = .ok (.iastore, 1) := dX6_tellPump_18g.2.2.2.2.2.2.2.2.1
theorem dX6_tellPump_30 : decode cX6_tellPump 30 = .ok (.aload_n 0, 1) := dX6_tellPump_18g.2.2.2.2.2.2.2.2.2
theorem dX6_tellPump_31g : (decode cX6_tellPump 31 = .ok (.getfield 9, 3)) ∧ (decode cX6_tellPump 34 = .ok (.iload 7, 2)) ∧ (decode cX6_tellPump 36 = .ok (.iconst 4, 1)) ∧ (decode cX6_tellPump 37 = .ok (.iadd, 1)) ∧ (decode cX6_tellPump 38 = .ok (.iload 6, 2)) ∧ (decode cX6_tellPump 40 = .ok (.iastore, 1)) ∧ (decode cX6_tellPump 41 = .ok (.aload_n 0, 1)) ∧ (decode cX6_tellPump 42 = .ok (.iload_n 1, 1)) ∧ (decode cX6_tellPump 43 = .ok (.iload 4, 2)) ∧ (decode cX6_tellPump 45 = .ok (.iload 5, 2)) := by decide +kernel
theorem dX6_tellPump_31 : decode cX6_tellPump 31 = .ok (.getfield 9, 3) := dX6_tellPump_31g.1
theorem dX6_tellPump_34 : decode cX6_tellPump 34 = .ok (.iload 7, 2) := dX6_tellPump_31g.2.1
theorem dX6_tellPump_36 : decode cX6_tellPump 36 = .ok (.iconst 4, 1) := dX6_tellPump_31g.2.2.1
theorem dX6_tellPump_37 : decode cX6_tellPump 37 = .ok (.iadd, 1) := dX6_tellPump_31g.2.2.2.1
theorem dX6_tellPump_38 : decode cX6_tellPump 38 = .ok (.iload 6, 2) := dX6_tellPump_31g.2.2.2.2.1
theorem dX6_tellPump_40 : decode cX6_tellPump 40 = .ok (.iastore, 1) := dX6_tellPump_31g.2.2.2.2.2.1
theorem dX6_tellPump_41 : decode cX6_tellPump 41 = .ok (.aload_n 0, 1) := dX6_tellPump_31g.2.2.2.2.2.2.1
theorem dX6_tellPump_42 : decode cX6_tellPump 42 = .ok (.iload_n 1, 1) := dX6_tellPump_31g.2.2.2.2.2.2.2.1
theorem dX6_tellPump_43 : decode cX6_tellPump 43 = .ok (.iload 4, 2) := dX6_tellPump_31g.2.2.2.2.2.2.2.2.1
theorem dX6_tellPump_45 : decode cX6_tellPump 45 = .ok (.iload 5, 2) := dX6_tellPump_31g.2.2.2.2.2.2.2.2.2
theorem dX6_tellPump_47g : (decode cX6_tellPump 47 = .ok (.invokevirtual 78, 3)) ∧ (decode cX6_tellPump 50 = .ok (.return_, 1)) := by decide +kernel
theorem dX6_tellPump_47 : decode cX6_tellPump 47 = .ok (.invokevirtual 78, 3) := dX6_tellPump_47g.1
theorem dX6_tellPump_50 : decode cX6_tellPump 50 = .ok (.return_, 1) := dX6_tellPump_47g.2
set_option maxHeartbeats 4000000 in
set_option maxRecDepth 100000 in
theorem c_X6_tellPump (l : Launch) (E : Nat → Nat) (D : va_G) (G : th_G) (h0 : Nat) (hG0 : G h0 = some (6, 0)) (x1 x2 x3 x4 x5 x6 : Int32) : Met l yX6_tellPump (tb (.code yX6_tellPump cX6_tellPump 8 none)) (rm 2) (va_Pc [.ref h0, .int x1, .int x2, .int x3, .int x4, .int x5, .int x6] (th_P E D G)) (QV E D G) 0 0 (th_A G) := by
  refine Met.ofW (cc := cX6_tellPump) (maxL := 8) (ret := none) (by decide) rfl ?_
  intro p e s m args below meth c s₁ B hml hv
  obtain ⟨hav, hI, hN, hK⟩ := hv
  have hx := B.exec
  have hb := B.bytes
  have hr := B.returns
  have hts := atoms_spec (ws := tb (.code yX6_tellPump cX6_tellPump 8 none)) B.pre
  have hown : s.vm.findClass RX6 = some m.cls := findClass_of_methodNamed B.named
  have hlocks := B.notSynchronized
  have hS : va_S (th_A G) s.heap s.heap [] := va_S.rf
  have hl := lv_entry ([.ref h0, .int x1, .int x2, .int x3, .int x4, .int x5, .int x6]) (n := 8) (Nat.le_of_ble_eq_true rfl)
  rw [show entryFrame m args 8 = entryFrame m ([.ref h0, .int x1, .int x2, .int x3, .int x4, .int x5, .int x6] : List Value).toArray 8 from by rw [hav], lg_entry_eq]
  generalize (lg_sl ([.ref h0, .int x1, .int x2, .int x3, .int x4, .int x5, .int x6]) ++ List.replicate (8 - (lg_sl ([.ref h0, .int x1, .int x2, .int x3, .int x4, .int x5, .int x6])).length) Slot.unset).toArray = ls at hl ⊢
  have hl : lv_has ls 8 [(0, .ref h0), (1, .int x1), (2, .int x2), (3, .int x3), (4, .int x4), (5, .int x5), (6, .int x6)] := hl
  generalize hR : (headSpec (tb (.code yX6_tellPump cX6_tellPump 8 none)) (rm 2)).room = R
  have hR := hR.symm
  generalize hQ : MQ below (QV E D G) args s 0 0 (th_A G) = QF
  have hQ := hQ.symm
  refine lv_iload_n hx hb dX6_tellPump_0 rfl (lv_at hl 1 rfl) ?_
  refine th_cSN (As := [.int x1]) (rest := []) (n := 1) (d := 0) ⟨hx, hb, hml, hown, hts⟩ (c_X11_isPump l s.heap x1) wn_418 wd_412 wd_1 wd_413 (by decide +kernel) ⟨by rw [hR]; exact Nat.le_of_ble_eq_true rfl, by rw [hR]; exact Nat.le_of_ble_eq_true rfl⟩ hN hS rfl hl.1 rfl (Nat.le_of_ble_eq_true rfl) dX6_tellPump_1 ⟨Nat.zero_le _, Nat.zero_le _⟩ (fun r1 locs hp hS => ?_)
  rcases hp with ⟨rfl, hp⟩ | ⟨rfl, hp⟩
  · skip
    try simp only [rg, not_and, Int.not_le] at hp
    have hp2 := hp
    refine lv_if_eq (tgt := 50) hx hb dX6_tellPump_4 (by decide) (fun c => absurd c (by decide)) (fun _ => ?_)
    refine lv_iload_n hx hb dX6_tellPump_7 rfl (lv_at hl 1 rfl) ?_
    refine lv_iconst (v := 5) hx hb dX6_tellPump_8 (by decide) ?_
    refine lv_imul hx hb dX6_tellPump_9 ?_
    refine lv_topi (fun v3 e4 => ?_)
    have tv3 : v3.toInt = x1.toInt * (5) := iv_mul rfl (by decide) e4 (by omega) (by omega)
    refine lv_istore (lv' := [(7, .int v3), (0, .ref h0), (1, .int x1), (2, .int x2), (3, .int x3), (4, .int x4), (5, .int x5), (6, .int x6)]) hx hb dX6_tellPump_10 hl (by decide) rfl (fun ls hl => ?_)
    refine lv_aload_n hx hb dX6_tellPump_12 rfl (lv_at hl 1 rfl) ?_
    obtain ⟨a5, a7, a9, a11, a13, a15, a17, a19, a21, a23, w25, w28, w29, w30, hO, hq6, hq8, hq10, hq12, hq14, hq16, hq18, hq20, hq22, hq24, ⟨k26, k27⟩, k31⟩ := op_6 hI hG0 List.not_mem_nil
    have hI := th_I.weak (a := h0) hI
    refine th_get hx hb hts inT6 hown hK hO rfl 0 (by decide) (hts _ (tb_c wd_58)) rfl rfl dX6_tellPump_13 ?_
    refine lv_iload hx hb dX6_tellPump_16 (lv_at hl 0 rfl) ?_
    refine lv_iload_n hx hb dX6_tellPump_18 rfl (lv_at hl 3 rfl) ?_
    obtain ⟨_, hA32⟩ := op_0 hI hq6 (th_ne hG0 hq6 (show (6 : Nat) ≠ 0 by decide))
    refine th_iast hx hb hK hA32 0 rfl hS ⟨_, hq6⟩ (iv_in (X := v3.toInt) rfl (by omega) (by omega)) dX6_tellPump_19 (fun H locs hA32 oq hS => ?_)
    have hI := th_I.put hI hq6 hA32 ok_0 oq
    have hO := hO.kept (oq _ (fun z => th_ne hG0 hq6 (show (6 : Nat) ≠ 0 by decide) (List.mem_singleton.mpr z.symm)))
    refine lv_aload_n hx hb dX6_tellPump_20 rfl (lv_at hl 1 rfl) ?_
    refine th_get hx hb hts inT6 hown hK hO rfl 0 (by decide) (hts _ (tb_c wd_58)) rfl rfl dX6_tellPump_21 ?_
    refine lv_iload hx hb dX6_tellPump_24 (lv_at hl 0 rfl) ?_
    refine lv_iconst (v := 1) hx hb dX6_tellPump_26 (by decide) ?_
    refine lv_iadd hx hb dX6_tellPump_27 ?_
    refine lv_topi (fun v33 e34 => ?_)
    have tv33 : v33.toInt = v3.toInt + (1) := iv_add rfl (by decide) e34 (by omega) (by omega)
    refine lv_iload_n hx hb dX6_tellPump_28 rfl (lv_at hl 4 rfl) ?_
    obtain ⟨_, hA35⟩ := op_0 hI hq6 (th_ne hG0 hq6 (show (6 : Nat) ≠ 0 by decide))
    refine th_iast hx hb hK hA35 0 rfl hS ⟨_, hq6⟩ (iv_in (X := v33.toInt) rfl (by omega) (by omega)) dX6_tellPump_29 (fun H locs hA35 oq hS => ?_)
    have hI := th_I.put hI hq6 hA35 ok_0 oq
    have hO := hO.kept (oq _ (fun z => th_ne hG0 hq6 (show (6 : Nat) ≠ 0 by decide) (List.mem_singleton.mpr z.symm)))
    refine lv_aload_n hx hb dX6_tellPump_30 rfl (lv_at hl 1 rfl) ?_
    refine th_get hx hb hts inT6 hown hK hO rfl 0 (by decide) (hts _ (tb_c wd_58)) rfl rfl dX6_tellPump_31 ?_
    refine lv_iload hx hb dX6_tellPump_34 (lv_at hl 0 rfl) ?_
    refine lv_iconst (v := 4) hx hb dX6_tellPump_36 (by decide) ?_
    refine lv_iadd hx hb dX6_tellPump_37 ?_
    refine lv_topi (fun v36 e37 => ?_)
    have tv36 : v36.toInt = v3.toInt + (4) := iv_add rfl (by decide) e37 (by omega) (by omega)
    refine lv_iload hx hb dX6_tellPump_38 (lv_at hl 7 rfl) ?_
    obtain ⟨_, hA38⟩ := op_0 hI hq6 (th_ne hG0 hq6 (show (6 : Nat) ≠ 0 by decide))
    refine th_iast hx hb hK hA38 0 rfl hS ⟨_, hq6⟩ (iv_in (X := v36.toInt) rfl (by omega) (by omega)) dX6_tellPump_40 (fun H locs hA38 oq hS => ?_)
    have hI := th_I.put hI hq6 hA38 ok_0 oq
    have hO := hO.kept (oq _ (fun z => th_ne hG0 hq6 (show (6 : Nat) ≠ 0 by decide) (List.mem_singleton.mpr z.symm)))
    refine lv_aload_n hx hb dX6_tellPump_41 rfl (lv_at hl 1 rfl) ?_
    refine lv_iload_n hx hb dX6_tellPump_42 rfl (lv_at hl 2 rfl) ?_
    refine lv_iload hx hb dX6_tellPump_43 (lv_at hl 5 rfl) ?_
    refine lv_iload hx hb dX6_tellPump_45 (lv_at hl 6 rfl) ?_
    have hI := th_I.close hI hG0 hO (ok_6 hq6 hq8 hq10 hq12 hq14 hq16 hq18 hq20 hq22 hq24 ⟨by omega, by omega⟩ k31)
    refine th_cVv (As := [.int x1, .int x4, .int x5]) (rest := []) (n := 3) (d := 1) ⟨hx, hb, hml, hown, hts⟩ (c_X6_tellClocks l E D G h0 hG0 x1 x4 x5) wd_419 wd_420 wd_421 wd_2 wd_422 (by decide +kernel) ⟨by rw [hR]; exact Nat.le_of_ble_eq_true rfl, by rw [hR]; exact Nat.le_of_ble_eq_true rfl⟩ hI hN hK hS (rc_6 hI hG0 List.not_mem_nil) rfl rfl hl.1 rfl (Nat.le_of_ble_eq_true rfl) dX6_tellPump_47 ⟨Nat.zero_le _, Nat.zero_le _⟩ (fun H locs hI hS => ?_)
    rw [hQ]
    exact W.vret hx hb hr (fun t ht hW => ⟨⟨(), rfl, trivial, by rw [ht]; exact hI, hN.warm hW, va_K.moved hW.alike hK⟩, hS.F ht⟩) hS.2.2 dX6_tellPump_50
  · skip
    try simp only [rg, not_and, Int.not_le] at hp
    have hp40 := hp
    refine lv_if_eq (tgt := 50) hx hb dX6_tellPump_4 (by decide) (fun _ => ?_) (fun c => absurd c (by decide))
    rw [hQ]
    exact W.vret hx hb hr (fun t ht hW => ⟨⟨(), rfl, trivial, by rw [ht]; exact hI, hN.warm hW, va_K.moved hW.alike hK⟩, hS.F ht⟩) hS.2.2 dX6_tellPump_50
theorem dX6_strengthAt_0g : (decode cX6_strengthAt 0 = .ok (.iload_n 2, 1)) ∧ (decode cX6_strengthAt 1 = .ok (.aload_n 0, 1)) ∧ (decode cX6_strengthAt 2 = .ok (.iload_n 1, 1)) ∧ (decode cX6_strengthAt 3 = .ok (.iconst 0, 1)) ∧ (decode cX6_strengthAt 4 = .ok (.invokevirtual 82, 3)) ∧ (decode cX6_strengthAt 7 = .ok (.if_icmp .lt 17, 3)) ∧ (decode cX6_strengthAt 10 = .ok (.iload_n 2, 1)) ∧ (decode cX6_strengthAt 11 = .ok (.aload_n 0, 1)) ∧ (decode cX6_strengthAt 12 = .ok (.iload_n 1, 1)) ∧ (decode cX6_strengthAt 13 = .ok (.iconst 1, 1)) := by decide +kernel
theorem dX6_strengthAt_0 : decode cX6_strengthAt 0 = .ok (.iload_n 2, 1) := dX6_strengthAt_0g.1
theorem dX6_strengthAt_1 : decode cX6_strengthAt 1 = .ok (.aload_n 0, 1) := dX6_strengthAt_0g.2.1
theorem dX6_strengthAt_2 : decode cX6_strengthAt 2 = .ok (.iload_n 1, 1) := dX6_strengthAt_0g.2.2.1
theorem dX6_strengthAt_3 : decode cX6_strengthAt 3 = .ok (.iconst 0, 1) := dX6_strengthAt_0g.2.2.2.1
theorem dX6_strengthAt_4 : decode cX6_strengthAt 4 = .ok (.invokevirtual 82, 3) := dX6_strengthAt_0g.2.2.2.2.1
theorem dX6_strengthAt_7 : decode cX6_strengthAt 7 = .ok (.if_icmp .lt 17, 3) := dX6_strengthAt_0g.2.2.2.2.2.1
theorem dX6_strengthAt_10 : decode cX6_strengthAt 10 = .ok (.iload_n 2, 1) := dX6_strengthAt_0g.2.2.2.2.2.2.1
theorem dX6_strengthAt_11 : decode cX6_strengthAt 11 = .ok (.aload_n 0, 1) := dX6_strengthAt_0g.2.2.2.2.2.2.2.1
theorem dX6_strengthAt_12 : decode cX6_strengthAt 12 = .ok (.iload_n 1, 1) := dX6_strengthAt_0g.2.2.2.2.2.2.2.2.1
theorem dX6_strengthAt_13 : decode cX6_strengthAt 13 = .ok (.iconst 1, 1) := dX6_strengthAt_0g.2.2.2.2.2.2.2.2.2
theorem dX6_strengthAt_14g : (decode cX6_strengthAt 14 = .ok (.invokevirtual 82, 3)) ∧ (decode cX6_strengthAt 17 = .ok (.if_icmp .gt 7, 3)) ∧ (decode cX6_strengthAt 20 = .ok (.iconst 1, 1)) ∧ (decode cX6_strengthAt 21 = .ok (.goto 4, 3)) ∧ (decode cX6_strengthAt 24 = .ok (.iconst 0, 1)) ∧ (decode cX6_strengthAt 25 = .ok (.istore_n 3, 1)) ∧ (decode cX6_strengthAt 26 = .ok (.iload_n 3, 1)) ∧ (decode cX6_strengthAt 27 = .ok (.ifCond .eq 12, 3)) ∧ (decode cX6_strengthAt 30 = .ok (.aload_n 0, 1)) ∧ (decode cX6_strengthAt 31 = .ok (.iload_n 1, 1)) := by decide +kernel
theorem dX6_strengthAt_14 : decode cX6_strengthAt 14 = .ok (.invokevirtual 82, 3) := dX6_strengthAt_14g.1
theorem dX6_strengthAt_17 : decode cX6_strengthAt 17 = .ok (.if_icmp .gt 7, 3) := dX6_strengthAt_14g.2.1
theorem dX6_strengthAt_20 : decode cX6_strengthAt 20 = .ok (.iconst 1, 1) := dX6_strengthAt_14g.2.2.1
theorem dX6_strengthAt_21 : decode cX6_strengthAt 21 = .ok (.goto 4, 3) := dX6_strengthAt_14g.2.2.2.1
theorem dX6_strengthAt_24 : decode cX6_strengthAt 24 = .ok (.iconst 0, 1) := dX6_strengthAt_14g.2.2.2.2.1
theorem dX6_strengthAt_25 : decode cX6_strengthAt 25 = .ok (.istore_n 3, 1) := dX6_strengthAt_14g.2.2.2.2.2.1
theorem dX6_strengthAt_26 : decode cX6_strengthAt 26 = .ok (.iload_n 3, 1) := dX6_strengthAt_14g.2.2.2.2.2.2.1
theorem dX6_strengthAt_27 : decode cX6_strengthAt 27 = .ok (.ifCond .eq 12, 3) := dX6_strengthAt_14g.2.2.2.2.2.2.2.1
theorem dX6_strengthAt_30 : decode cX6_strengthAt 30 = .ok (.aload_n 0, 1) := dX6_strengthAt_14g.2.2.2.2.2.2.2.2.1
theorem dX6_strengthAt_31 : decode cX6_strengthAt 31 = .ok (.iload_n 1, 1) := dX6_strengthAt_14g.2.2.2.2.2.2.2.2.2
theorem dX6_strengthAt_32g : (decode cX6_strengthAt 32 = .ok (.iconst 4, 1)) ∧ (decode cX6_strengthAt 33 = .ok (.invokevirtual 82, 3)) ∧ (decode cX6_strengthAt 36 = .ok (.goto 4, 3)) ∧ (decode cX6_strengthAt 39 = .ok (.iconst 0, 1)) ∧ (decode cX6_strengthAt 40 = .ok (.ireturn, 1)) := by decide +kernel
theorem dX6_strengthAt_32 : decode cX6_strengthAt 32 = .ok (.iconst 4, 1) := dX6_strengthAt_32g.1
theorem dX6_strengthAt_33 : decode cX6_strengthAt 33 = .ok (.invokevirtual 82, 3) := dX6_strengthAt_32g.2.1
theorem dX6_strengthAt_36 : decode cX6_strengthAt 36 = .ok (.goto 4, 3) := dX6_strengthAt_32g.2.2.1
theorem dX6_strengthAt_39 : decode cX6_strengthAt 39 = .ok (.iconst 0, 1) := dX6_strengthAt_32g.2.2.2.1
theorem dX6_strengthAt_40 : decode cX6_strengthAt 40 = .ok (.ireturn, 1) := dX6_strengthAt_32g.2.2.2.2
set_option maxHeartbeats 4000000 in
set_option maxRecDepth 100000 in
theorem c_X6_strengthAt (l : Launch) (E : Nat → Nat) (D : va_G) (G : th_G) (h0 : Nat) (hG0 : G h0 = some (6, 0)) (x1 x2 : Int32) : Met l yX6_strengthAt (tb (.code yX6_strengthAt cX6_strengthAt 4 (some .int))) (rm 2) (va_Pc [.ref h0, .int x1, .int x2] (th_P E D G)) (QI E D G (fun r => True)) 0 0 (th_A G) := by
  refine Met.ofW (cc := cX6_strengthAt) (maxL := 4) (ret := (some .int)) (by decide) rfl ?_
  intro p e s m args below meth c s₁ B hml hv
  obtain ⟨hav, hI, hN, hK⟩ := hv
  have hx := B.exec
  have hb := B.bytes
  have hr := B.returns
  have hts := atoms_spec (ws := tb (.code yX6_strengthAt cX6_strengthAt 4 (some .int))) B.pre
  have hown : s.vm.findClass RX6 = some m.cls := findClass_of_methodNamed B.named
  have hlocks := B.notSynchronized
  have hS : va_S (th_A G) s.heap s.heap [] := va_S.rf
  have hl := lv_entry ([.ref h0, .int x1, .int x2]) (n := 4) (Nat.le_of_ble_eq_true rfl)
  rw [show entryFrame m args 4 = entryFrame m ([.ref h0, .int x1, .int x2] : List Value).toArray 4 from by rw [hav], lg_entry_eq]
  generalize (lg_sl ([.ref h0, .int x1, .int x2]) ++ List.replicate (4 - (lg_sl ([.ref h0, .int x1, .int x2])).length) Slot.unset).toArray = ls at hl ⊢
  have hl : lv_has ls 4 [(0, .ref h0), (1, .int x1), (2, .int x2)] := hl
  generalize hR : (headSpec (tb (.code yX6_strengthAt cX6_strengthAt 4 (some .int))) (rm 2)).room = R
  have hR := hR.symm
  generalize hQ : MQ below (QI E D G (fun r => True)) args s 0 0 (th_A G) = QF
  have hQ := hQ.symm
  have J_25 : ∀ (H : Heap) (locs : List Loc) (ls : Array Slot) (v163 : Int32), lv_has ls 4 [(0, .ref h0), (1, .int x1), (2, .int x2)] → ((0 : Int) ≤ v163.toInt ∧ v163.toInt ≤ 1) → th_I (okC E) D G [] H → va_S (th_A G) s.heap H locs → W p l e R s m args below meth c H locs 0 0 QF (F0 m 25 ls [.int v163]) := by
    intro H locs ls v163 hl k164 hI hS
    refine lv_istore_n (lv' := [(3, .int v163), (0, .ref h0), (1, .int x1), (2, .int x2)]) hx hb dX6_strengthAt_25 rfl hl (by decide) rfl (fun ls hl => ?_)
    refine lv_iload_n hx hb dX6_strengthAt_26 rfl (lv_at hl 0 rfl) ?_
    refine lv_if_eq (tgt := 39) hx hb dX6_strengthAt_27 (by decide) (fun c165 => ?_) (fun c165 => ?_)
    · skip
      have k166 := iv_eq (X := v163.toInt) (Y := (0)) rfl (by decide) c165
      refine lv_iconst (v := 0) hx hb dX6_strengthAt_39 (by decide) ?_
      have hpost : True := trivial
      rw [hQ]
      exact W.iret (v := 0) hx hb hr (fun t ht hW => ⟨⟨0, (), rfl, hpost, by rw [ht]; exact hI, hN.warm hW, va_K.moved hW.alike hK⟩, hS.F ht⟩) hS.2.2 dX6_strengthAt_40
    · skip
      have k167 := iv_ne (X := v163.toInt) (Y := (0)) rfl (by decide) c165
      refine lv_aload_n hx hb dX6_strengthAt_30 rfl (lv_at hl 1 rfl) ?_
      refine lv_iload_n hx hb dX6_strengthAt_31 rfl (lv_at hl 2 rfl) ?_
      refine lv_iconst (v := 4) hx hb dX6_strengthAt_32 (by decide) ?_
      refine th_cVi (As := [.int x1, .int 4]) (rest := []) (n := 2) (d := 1) ⟨hx, hb, hml, hown, hts⟩ (c_X6_pumpPart l E D G h0 hG0 x1 4) wd_1166 wd_456 wd_457 wd_2 wd_458 (by decide +kernel) ⟨by rw [hR]; exact Nat.le_of_ble_eq_true rfl, by rw [hR]; exact Nat.le_of_ble_eq_true rfl⟩ hI hN hK hS (rc_6 hI hG0 List.not_mem_nil) rfl rfl hl.1 rfl (Nat.le_of_ble_eq_true rfl) dX6_strengthAt_33 ⟨Nat.zero_le _, Nat.zero_le _⟩ (fun r168 H locs hp hI hS => ?_)
      refine lv_goto (tgt := 40) hx hb dX6_strengthAt_36 (by decide) ?_
      have hpost : True := trivial
      rw [hQ]
      exact W.iret (v := r168) hx hb hr (fun t ht hW => ⟨⟨r168, (), rfl, hpost, by rw [ht]; exact hI, hN.warm hW, va_K.moved hW.alike hK⟩, hS.F ht⟩) hS.2.2 dX6_strengthAt_40
  have J_24 : ∀ (H : Heap) (locs : List Loc) (ls : Array Slot) , lv_has ls 4 [(0, .ref h0), (1, .int x1), (2, .int x2)] → th_I (okC E) D G [] H → va_S (th_A G) s.heap H locs → W p l e R s m args below meth c H locs 0 0 QF (F0 m 24 ls []) := by
    intro H locs ls  hl  hI hS
    refine lv_iconst (v := 0) hx hb dX6_strengthAt_24 (by decide) ?_
    exact J_25 H locs ls 0 (lv_sub hl [0, 1, 2] rfl) ⟨by decide, by decide⟩ hI hS
  refine lv_iload_n hx hb dX6_strengthAt_0 rfl (lv_at hl 2 rfl) ?_
  refine lv_aload_n hx hb dX6_strengthAt_1 rfl (lv_at hl 0 rfl) ?_
  refine lv_iload_n hx hb dX6_strengthAt_2 rfl (lv_at hl 1 rfl) ?_
  refine lv_iconst (v := 0) hx hb dX6_strengthAt_3 (by decide) ?_
  refine th_cVi (As := [.int x1, .int 0]) (rest := [.int x2]) (n := 2) (d := 1) ⟨hx, hb, hml, hown, hts⟩ (c_X6_pumpPart l E D G h0 hG0 x1 0) wd_1166 wd_456 wd_457 wd_2 wd_458 (by decide +kernel) ⟨by rw [hR]; exact Nat.le_of_ble_eq_true rfl, by rw [hR]; exact Nat.le_of_ble_eq_true rfl⟩ hI hN hK hS (rc_6 hI hG0 List.not_mem_nil) rfl rfl hl.1 rfl (Nat.le_of_ble_eq_true rfl) dX6_strengthAt_4 ⟨Nat.zero_le _, Nat.zero_le _⟩ (fun r169 H locs hp hI hS => ?_)
  have k170 := iv_lo x2
  have k171 := iv_hi x2
  have k172 := iv_lo r169
  have k173 := iv_hi r169
  refine lv_icmp_lt (tgt := 24) hx hb dX6_strengthAt_7 (by decide) (fun c174 => ?_) (fun c174 => ?_)
  · skip
    have k175 := iv_lt (X := x2.toInt) (Y := r169.toInt) rfl rfl c174
    exact J_24 H locs ls  (lv_sub hl [0, 1, 2] rfl)  hI hS
  · skip
    have k176 := iv_nlt (X := x2.toInt) (Y := r169.toInt) rfl rfl c174
    refine lv_iload_n hx hb dX6_strengthAt_10 rfl (lv_at hl 2 rfl) ?_
    refine lv_aload_n hx hb dX6_strengthAt_11 rfl (lv_at hl 0 rfl) ?_
    refine lv_iload_n hx hb dX6_strengthAt_12 rfl (lv_at hl 1 rfl) ?_
    refine lv_iconst (v := 1) hx hb dX6_strengthAt_13 (by decide) ?_
    refine th_cVi (As := [.int x1, .int 1]) (rest := [.int x2]) (n := 2) (d := 1) ⟨hx, hb, hml, hown, hts⟩ (c_X6_pumpPart l E D G h0 hG0 x1 1) wd_1166 wd_456 wd_457 wd_2 wd_458 (by decide +kernel) ⟨by rw [hR]; exact Nat.le_of_ble_eq_true rfl, by rw [hR]; exact Nat.le_of_ble_eq_true rfl⟩ hI hN hK hS (rc_6 hI hG0 List.not_mem_nil) rfl rfl hl.1 rfl (Nat.le_of_ble_eq_true rfl) dX6_strengthAt_14 ⟨Nat.zero_le _, Nat.zero_le _⟩ (fun r177 H locs hp hI hS => ?_)
    have k178 := iv_lo r177
    have k179 := iv_hi r177
    refine lv_icmp_gt (tgt := 24) hx hb dX6_strengthAt_17 (by decide) (fun c180 => ?_) (fun c180 => ?_)
    · skip
      have k181 := iv_lt (X := r177.toInt) (Y := x2.toInt) rfl rfl c180
      exact J_24 H locs ls  (lv_sub hl [0, 1, 2] rfl)  hI hS
    · skip
      have k182 := iv_nlt (X := r177.toInt) (Y := x2.toInt) rfl rfl c180
      refine lv_iconst (v := 1) hx hb dX6_strengthAt_20 (by decide) ?_
      refine lv_goto (tgt := 25) hx hb dX6_strengthAt_21 (by decide) ?_
      exact J_25 H locs ls 1 (lv_sub hl [0, 1, 2] rfl) ⟨by decide, by decide⟩ hI hS
theorem dX6_pumpedBy_0g : (decode cX6_pumpedBy 0 = .ok (.iload_n 1, 1)) ∧ (decode cX6_pumpedBy 1 = .ok (.ifCond .lt 8, 3)) ∧ (decode cX6_pumpedBy 4 = .ok (.iload_n 1, 1)) ∧ (decode cX6_pumpedBy 5 = .ok (.iconst 2, 1)) ∧ (decode cX6_pumpedBy 6 = .ok (.if_icmp .lt 5, 3)) ∧ (decode cX6_pumpedBy 9 = .ok (.iconst 0, 1)) ∧ (decode cX6_pumpedBy 10 = .ok (.ireturn, 1)) ∧ (decode cX6_pumpedBy 11 = .ok (.iload_n 1, 1)) ∧ (decode cX6_pumpedBy 12 = .ok (.iconst 5, 1)) ∧ (decode cX6_pumpedBy 13 = .ok (.imul, 1)) := by decide +kernel
theorem dX6_pumpedBy_0 : decode cX6_pumpedBy 0 = .ok (.iload_n 1, 1) := dX6_pumpedBy_0g.1
theorem dX6_pumpedBy_1 : decode cX6_pumpedBy 1 = .ok (.ifCond .lt 8, 3) := dX6_pumpedBy_0g.2.1
theorem dX6_pumpedBy_4 : decode cX6_pumpedBy 4 = .ok (.iload_n 1, 1) := dX6_pumpedBy_0g.2.2.1
theorem dX6_pumpedBy_5 : decode cX6_pumpedBy 5 = .ok (.iconst 2, 1) := dX6_pumpedBy_0g.2.2.2.1
theorem dX6_pumpedBy_6 : decode cX6_pumpedBy 6 = .ok (.if_icmp .lt 5, 3) := dX6_pumpedBy_0g.2.2.2.2.1
theorem dX6_pumpedBy_9 : decode cX6_pumpedBy 9 = .ok (.iconst 0, 1) := dX6_pumpedBy_0g.2.2.2.2.2.1
theorem dX6_pumpedBy_10 : decode cX6_pumpedBy 10 = .ok (.ireturn, 1) := dX6_pumpedBy_0g.2.2.2.2.2.2.1
theorem dX6_pumpedBy_11 : decode cX6_pumpedBy 11 = .ok (.iload_n 1, 1) := dX6_pumpedBy_0g.2.2.2.2.2.2.2.1
theorem dX6_pumpedBy_12 : decode cX6_pumpedBy 12 = .ok (.iconst 5, 1) := dX6_pumpedBy_0g.2.2.2.2.2.2.2.2.1
theorem dX6_pumpedBy_13 : decode cX6_pumpedBy 13 = .ok (.imul, 1) := dX6_pumpedBy_0g.2.2.2.2.2.2.2.2.2
theorem dX6_pumpedBy_14g : (decode cX6_pumpedBy 14 = .ok (.istore 4, 2)) ∧ (decode cX6_pumpedBy 16 = .ok (.aload_n 0, 1)) ∧ (decode cX6_pumpedBy 17 = .ok (.getfield 9, 3)) ∧ (decode cX6_pumpedBy 20 = .ok (.iload 4, 2)) ∧ (decode cX6_pumpedBy 22 = .ok (.iconst 2, 1)) ∧ (decode cX6_pumpedBy 23 = .ok (.iadd, 1)) ∧ (decode cX6_pumpedBy 24 = .ok (.iaload, 1)) ∧ (decode cX6_pumpedBy 25 = .ok (.istore 5, 2)) ∧ (decode cX6_pumpedBy 27 = .ok (.aload_n 0, 1)) ∧ (decode cX6_pumpedBy 28 = .ok (.getfield 9, 3)) := by decide +kernel
theorem dX6_pumpedBy_14 : decode cX6_pumpedBy 14 = .ok (.istore 4, 2) := dX6_pumpedBy_14g.1
theorem dX6_pumpedBy_16 : decode cX6_pumpedBy 16 = .ok (.aload_n 0, 1) := dX6_pumpedBy_14g.2.1
theorem dX6_pumpedBy_17 : decode cX6_pumpedBy 17 = .ok (.getfield 9, 3) := dX6_pumpedBy_14g.2.2.1
theorem dX6_pumpedBy_20 : decode cX6_pumpedBy 20 = .ok (.iload 4, 2) := dX6_pumpedBy_14g.2.2.2.1
theorem dX6_pumpedBy_22 : decode cX6_pumpedBy 22 = .ok (.iconst 2, 1) := dX6_pumpedBy_14g.2.2.2.2.1
theorem dX6_pumpedBy_23 : decode cX6_pumpedBy 23 = .ok (.iadd, 1) := dX6_pumpedBy_14g.2.2.2.2.2.1
theorem dX6_pumpedBy_24 : decode cX6_pumpedBy 24 = .ok (.iaload, 1) := dX6_pumpedBy_14g.2.2.2.2.2.2.1
theorem dX6_pumpedBy_25 : decode cX6_pumpedBy 25 = .ok (.istore 5, 2) := dX6_pumpedBy_14g.2.2.2.2.2.2.2.1
theorem dX6_pumpedBy_27 : decode cX6_pumpedBy 27 = .ok (.aload_n 0, 1) := dX6_pumpedBy_14g.2.2.2.2.2.2.2.2.1
theorem dX6_pumpedBy_28 : decode cX6_pumpedBy 28 = .ok (.getfield 9, 3) := dX6_pumpedBy_14g.2.2.2.2.2.2.2.2.2
theorem dX6_pumpedBy_31g : (decode cX6_pumpedBy 31 = .ok (.iload 4, 2)) ∧ (decode cX6_pumpedBy 33 = .ok (.iconst 3, 1)) ∧ (decode cX6_pumpedBy 34 = .ok (.iadd, 1)) ∧ (decode cX6_pumpedBy 35 = .ok (.iaload, 1)) ∧ (decode cX6_pumpedBy 36 = .ok (.istore 6, 2)) ∧ (decode cX6_pumpedBy 38 = .ok (.iload_n 3, 1)) ∧ (decode cX6_pumpedBy 39 = .ok (.bipush 24, 2)) ∧ (decode cX6_pumpedBy 41 = .ok (.irem, 1)) ∧ (decode cX6_pumpedBy 42 = .ok (.istore 7, 2)) ∧ (decode cX6_pumpedBy 44 = .ok (.iload_n 2, 1)) := by decide +kernel
theorem dX6_pumpedBy_31 : decode cX6_pumpedBy 31 = .ok (.iload 4, 2) := dX6_pumpedBy_31g.1
theorem dX6_pumpedBy_33 : decode cX6_pumpedBy 33 = .ok (.iconst 3, 1) := dX6_pumpedBy_31g.2.1
theorem dX6_pumpedBy_34 : decode cX6_pumpedBy 34 = .ok (.iadd, 1) := dX6_pumpedBy_31g.2.2.1
theorem dX6_pumpedBy_35 : decode cX6_pumpedBy 35 = .ok (.iaload, 1) := dX6_pumpedBy_31g.2.2.2.1
theorem dX6_pumpedBy_36 : decode cX6_pumpedBy 36 = .ok (.istore 6, 2) := dX6_pumpedBy_31g.2.2.2.2.1
theorem dX6_pumpedBy_38 : decode cX6_pumpedBy 38 = .ok (.iload_n 3, 1) := dX6_pumpedBy_31g.2.2.2.2.2.1
theorem dX6_pumpedBy_39 : decode cX6_pumpedBy 39 = .ok (.bipush 24, 2) := dX6_pumpedBy_31g.2.2.2.2.2.2.1
theorem dX6_pumpedBy_41 : decode cX6_pumpedBy 41 = .ok (.irem, 1) := dX6_pumpedBy_31g.2.2.2.2.2.2.2.1
theorem dX6_pumpedBy_42 : decode cX6_pumpedBy 42 = .ok (.istore 7, 2) := dX6_pumpedBy_31g.2.2.2.2.2.2.2.2.1
theorem dX6_pumpedBy_44 : decode cX6_pumpedBy 44 = .ok (.iload_n 2, 1) := dX6_pumpedBy_31g.2.2.2.2.2.2.2.2.2
theorem dX6_pumpedBy_45g : (decode cX6_pumpedBy 45 = .ok (.aload_n 0, 1)) ∧ (decode cX6_pumpedBy 46 = .ok (.getfield 9, 3)) ∧ (decode cX6_pumpedBy 49 = .ok (.iload 4, 2)) ∧ (decode cX6_pumpedBy 51 = .ok (.iaload, 1)) ∧ (decode cX6_pumpedBy 52 = .ok (.if_icmp .lt 20, 3)) ∧ (decode cX6_pumpedBy 55 = .ok (.iload_n 2, 1)) ∧ (decode cX6_pumpedBy 56 = .ok (.aload_n 0, 1)) ∧ (decode cX6_pumpedBy 57 = .ok (.getfield 9, 3)) ∧ (decode cX6_pumpedBy 60 = .ok (.iload 4, 2)) ∧ (decode cX6_pumpedBy 62 = .ok (.iconst 1, 1)) := by decide +kernel
theorem dX6_pumpedBy_45 : decode cX6_pumpedBy 45 = .ok (.aload_n 0, 1) := dX6_pumpedBy_45g.1
theorem dX6_pumpedBy_46 : decode cX6_pumpedBy 46 = .ok (.getfield 9, 3) := dX6_pumpedBy_45g.2.1
theorem dX6_pumpedBy_49 : decode cX6_pumpedBy 49 = .ok (.iload 4, 2) := dX6_pumpedBy_45g.2.2.1
theorem dX6_pumpedBy_51 : decode cX6_pumpedBy 51 = .ok (.iaload, 1) := dX6_pumpedBy_45g.2.2.2.1
theorem dX6_pumpedBy_52 : decode cX6_pumpedBy 52 = .ok (.if_icmp .lt 20, 3) := dX6_pumpedBy_45g.2.2.2.2.1
theorem dX6_pumpedBy_55 : decode cX6_pumpedBy 55 = .ok (.iload_n 2, 1) := dX6_pumpedBy_45g.2.2.2.2.2.1
theorem dX6_pumpedBy_56 : decode cX6_pumpedBy 56 = .ok (.aload_n 0, 1) := dX6_pumpedBy_45g.2.2.2.2.2.2.1
theorem dX6_pumpedBy_57 : decode cX6_pumpedBy 57 = .ok (.getfield 9, 3) := dX6_pumpedBy_45g.2.2.2.2.2.2.2.1
theorem dX6_pumpedBy_60 : decode cX6_pumpedBy 60 = .ok (.iload 4, 2) := dX6_pumpedBy_45g.2.2.2.2.2.2.2.2.1
theorem dX6_pumpedBy_62 : decode cX6_pumpedBy 62 = .ok (.iconst 1, 1) := dX6_pumpedBy_45g.2.2.2.2.2.2.2.2.2
theorem dX6_pumpedBy_63g : (decode cX6_pumpedBy 63 = .ok (.iadd, 1)) ∧ (decode cX6_pumpedBy 64 = .ok (.iaload, 1)) ∧ (decode cX6_pumpedBy 65 = .ok (.if_icmp .gt 7, 3)) ∧ (decode cX6_pumpedBy 68 = .ok (.iconst 1, 1)) ∧ (decode cX6_pumpedBy 69 = .ok (.goto 4, 3)) ∧ (decode cX6_pumpedBy 72 = .ok (.iconst 0, 1)) ∧ (decode cX6_pumpedBy 73 = .ok (.istore 8, 2)) ∧ (decode cX6_pumpedBy 75 = .ok (.iload 5, 2)) ∧ (decode cX6_pumpedBy 77 = .ok (.iload 6, 2)) ∧ (decode cX6_pumpedBy 79 = .ok (.if_icmp .ge 25, 3)) := by decide +kernel
theorem dX6_pumpedBy_63 : decode cX6_pumpedBy 63 = .ok (.iadd, 1) := dX6_pumpedBy_63g.1
theorem dX6_pumpedBy_64 : decode cX6_pumpedBy 64 = .ok (.iaload, 1) := dX6_pumpedBy_63g.2.1
theorem dX6_pumpedBy_65 : decode cX6_pumpedBy 65 = .ok (.if_icmp .gt 7, 3) := dX6_pumpedBy_63g.2.2.1
theorem dX6_pumpedBy_68 : decode cX6_pumpedBy 68 = .ok (.iconst 1, 1) := dX6_pumpedBy_63g.2.2.2.1
theorem dX6_pumpedBy_69 : decode cX6_pumpedBy 69 = .ok (.goto 4, 3) := dX6_pumpedBy_63g.2.2.2.2.1
theorem dX6_pumpedBy_72 : decode cX6_pumpedBy 72 = .ok (.iconst 0, 1) := dX6_pumpedBy_63g.2.2.2.2.2.1
theorem dX6_pumpedBy_73 : decode cX6_pumpedBy 73 = .ok (.istore 8, 2) := dX6_pumpedBy_63g.2.2.2.2.2.2.1
theorem dX6_pumpedBy_75 : decode cX6_pumpedBy 75 = .ok (.iload 5, 2) := dX6_pumpedBy_63g.2.2.2.2.2.2.2.1
theorem dX6_pumpedBy_77 : decode cX6_pumpedBy 77 = .ok (.iload 6, 2) := dX6_pumpedBy_63g.2.2.2.2.2.2.2.2.1
theorem dX6_pumpedBy_79 : decode cX6_pumpedBy 79 = .ok (.if_icmp .ge 25, 3) := dX6_pumpedBy_63g.2.2.2.2.2.2.2.2.2
theorem dX6_pumpedBy_82g : (decode cX6_pumpedBy 82 = .ok (.iload 7, 2)) ∧ (decode cX6_pumpedBy 84 = .ok (.iload 5, 2)) ∧ (decode cX6_pumpedBy 86 = .ok (.if_icmp .lt 14, 3)) ∧ (decode cX6_pumpedBy 89 = .ok (.iload 7, 2)) ∧ (decode cX6_pumpedBy 91 = .ok (.iload 6, 2)) ∧ (decode cX6_pumpedBy 93 = .ok (.if_icmp .ge 7, 3)) ∧ (decode cX6_pumpedBy 96 = .ok (.iconst 1, 1)) ∧ (decode cX6_pumpedBy 97 = .ok (.goto 33, 3)) ∧ (decode cX6_pumpedBy 100 = .ok (.iconst 0, 1)) ∧ (decode cX6_pumpedBy 101 = .ok (.goto 29, 3)) := by decide +kernel
theorem dX6_pumpedBy_82 : decode cX6_pumpedBy 82 = .ok (.iload 7, 2) := dX6_pumpedBy_82g.1
theorem dX6_pumpedBy_84 : decode cX6_pumpedBy 84 = .ok (.iload 5, 2) := dX6_pumpedBy_82g.2.1
theorem dX6_pumpedBy_86 : decode cX6_pumpedBy 86 = .ok (.if_icmp .lt 14, 3) := dX6_pumpedBy_82g.2.2.1
theorem dX6_pumpedBy_89 : decode cX6_pumpedBy 89 = .ok (.iload 7, 2) := dX6_pumpedBy_82g.2.2.2.1
theorem dX6_pumpedBy_91 : decode cX6_pumpedBy 91 = .ok (.iload 6, 2) := dX6_pumpedBy_82g.2.2.2.2.1
theorem dX6_pumpedBy_93 : decode cX6_pumpedBy 93 = .ok (.if_icmp .ge 7, 3) := dX6_pumpedBy_82g.2.2.2.2.2.1
theorem dX6_pumpedBy_96 : decode cX6_pumpedBy 96 = .ok (.iconst 1, 1) := dX6_pumpedBy_82g.2.2.2.2.2.2.1
theorem dX6_pumpedBy_97 : decode cX6_pumpedBy 97 = .ok (.goto 33, 3) := dX6_pumpedBy_82g.2.2.2.2.2.2.2.1
theorem dX6_pumpedBy_100 : decode cX6_pumpedBy 100 = .ok (.iconst 0, 1) := dX6_pumpedBy_82g.2.2.2.2.2.2.2.2.1
theorem dX6_pumpedBy_101 : decode cX6_pumpedBy 101 = .ok (.goto 29, 3) := dX6_pumpedBy_82g.2.2.2.2.2.2.2.2.2
theorem dX6_pumpedBy_104g : (decode cX6_pumpedBy 104 = .ok (.iload 5, 2)) ∧ (decode cX6_pumpedBy 106 = .ok (.iload 6, 2)) ∧ (decode cX6_pumpedBy 108 = .ok (.if_icmp .eq 17, 3)) ∧ (decode cX6_pumpedBy 111 = .ok (.iload 7, 2)) ∧ (decode cX6_pumpedBy 113 = .ok (.iload 5, 2)) ∧ (decode cX6_pumpedBy 115 = .ok (.if_icmp .ge 10, 3)) ∧ (decode cX6_pumpedBy 118 = .ok (.iload 7, 2)) ∧ (decode cX6_pumpedBy 120 = .ok (.iload 6, 2)) ∧ (decode cX6_pumpedBy 122 = .ok (.if_icmp .ge 7, 3)) ∧ (decode cX6_pumpedBy 125 = .ok (.iconst 1, 1)) := by decide +kernel
theorem dX6_pumpedBy_104 : decode cX6_pumpedBy 104 = .ok (.iload 5, 2) := dX6_pumpedBy_104g.1
theorem dX6_pumpedBy_106 : decode cX6_pumpedBy 106 = .ok (.iload 6, 2) := dX6_pumpedBy_104g.2.1
theorem dX6_pumpedBy_108 : decode cX6_pumpedBy 108 = .ok (.if_icmp .eq 17, 3) := dX6_pumpedBy_104g.2.2.1
theorem dX6_pumpedBy_111 : decode cX6_pumpedBy 111 = .ok (.iload 7, 2) := dX6_pumpedBy_104g.2.2.2.1
theorem dX6_pumpedBy_113 : decode cX6_pumpedBy 113 = .ok (.iload 5, 2) := dX6_pumpedBy_104g.2.2.2.2.1
theorem dX6_pumpedBy_115 : decode cX6_pumpedBy 115 = .ok (.if_icmp .ge 10, 3) := dX6_pumpedBy_104g.2.2.2.2.2.1
theorem dX6_pumpedBy_118 : decode cX6_pumpedBy 118 = .ok (.iload 7, 2) := dX6_pumpedBy_104g.2.2.2.2.2.2.1
theorem dX6_pumpedBy_120 : decode cX6_pumpedBy 120 = .ok (.iload 6, 2) := dX6_pumpedBy_104g.2.2.2.2.2.2.2.1
theorem dX6_pumpedBy_122 : decode cX6_pumpedBy 122 = .ok (.if_icmp .ge 7, 3) := dX6_pumpedBy_104g.2.2.2.2.2.2.2.2.1
theorem dX6_pumpedBy_125 : decode cX6_pumpedBy 125 = .ok (.iconst 1, 1) := dX6_pumpedBy_104g.2.2.2.2.2.2.2.2.2
theorem dX6_pumpedBy_126g : (decode cX6_pumpedBy 126 = .ok (.goto 4, 3)) ∧ (decode cX6_pumpedBy 129 = .ok (.iconst 0, 1)) ∧ (decode cX6_pumpedBy 130 = .ok (.istore 9, 2)) ∧ (decode cX6_pumpedBy 132 = .ok (.iload 8, 2)) ∧ (decode cX6_pumpedBy 134 = .ok (.ifCond .eq 20, 3)) ∧ (decode cX6_pumpedBy 137 = .ok (.iload 9, 2)) ∧ (decode cX6_pumpedBy 139 = .ok (.ifCond .eq 15, 3)) ∧ (decode cX6_pumpedBy 142 = .ok (.aload_n 0, 1)) ∧ (decode cX6_pumpedBy 143 = .ok (.getfield 9, 3)) ∧ (decode cX6_pumpedBy 146 = .ok (.iload 4, 2)) := by decide +kernel
theorem dX6_pumpedBy_126 : decode cX6_pumpedBy 126 = .ok (.goto 4, 3) := dX6_pumpedBy_126g.1
theorem dX6_pumpedBy_129 : decode cX6_pumpedBy 129 = .ok (.iconst 0, 1) := dX6_pumpedBy_126g.2.1
theorem dX6_pumpedBy_130 : decode cX6_pumpedBy 130 = .ok (.istore 9, 2) := dX6_pumpedBy_126g.2.2.1
theorem dX6_pumpedBy_132 : decode cX6_pumpedBy 132 = .ok (.iload 8, 2) := dX6_pumpedBy_126g.2.2.2.1
theorem dX6_pumpedBy_134 : decode cX6_pumpedBy 134 = .ok (.ifCond .eq 20, 3) := dX6_pumpedBy_126g.2.2.2.2.1
theorem dX6_pumpedBy_137 : decode cX6_pumpedBy 137 = .ok (.iload 9, 2) := dX6_pumpedBy_126g.2.2.2.2.2.1
theorem dX6_pumpedBy_139 : decode cX6_pumpedBy 139 = .ok (.ifCond .eq 15, 3) := dX6_pumpedBy_126g.2.2.2.2.2.2.1
theorem dX6_pumpedBy_142 : decode cX6_pumpedBy 142 = .ok (.aload_n 0, 1) := dX6_pumpedBy_126g.2.2.2.2.2.2.2.1
theorem dX6_pumpedBy_143 : decode cX6_pumpedBy 143 = .ok (.getfield 9, 3) := dX6_pumpedBy_126g.2.2.2.2.2.2.2.2.1
theorem dX6_pumpedBy_146 : decode cX6_pumpedBy 146 = .ok (.iload 4, 2) := dX6_pumpedBy_126g.2.2.2.2.2.2.2.2.2
theorem dX6_pumpedBy_148g : (decode cX6_pumpedBy 148 = .ok (.iconst 4, 1)) ∧ (decode cX6_pumpedBy 149 = .ok (.iadd, 1)) ∧ (decode cX6_pumpedBy 150 = .ok (.iaload, 1)) ∧ (decode cX6_pumpedBy 151 = .ok (.goto 4, 3)) ∧ (decode cX6_pumpedBy 154 = .ok (.iconst 0, 1)) ∧ (decode cX6_pumpedBy 155 = .ok (.ireturn, 1)) := by decide +kernel
theorem dX6_pumpedBy_148 : decode cX6_pumpedBy 148 = .ok (.iconst 4, 1) := dX6_pumpedBy_148g.1
theorem dX6_pumpedBy_149 : decode cX6_pumpedBy 149 = .ok (.iadd, 1) := dX6_pumpedBy_148g.2.1
theorem dX6_pumpedBy_150 : decode cX6_pumpedBy 150 = .ok (.iaload, 1) := dX6_pumpedBy_148g.2.2.1
theorem dX6_pumpedBy_151 : decode cX6_pumpedBy 151 = .ok (.goto 4, 3) := dX6_pumpedBy_148g.2.2.2.1
theorem dX6_pumpedBy_154 : decode cX6_pumpedBy 154 = .ok (.iconst 0, 1) := dX6_pumpedBy_148g.2.2.2.2.1
theorem dX6_pumpedBy_155 : decode cX6_pumpedBy 155 = .ok (.ireturn, 1) := dX6_pumpedBy_148g.2.2.2.2.2
set_option maxHeartbeats 4000000 in
set_option maxRecDepth 100000 in
theorem c_X6_pumpedBy (l : Launch) (E : Nat → Nat) (D : va_G) (G : th_G) (h0 : Nat) (hG0 : G h0 = some (6, 0)) (x1 x2 x3 : Int32) : Met l yX6_pumpedBy (tb (.code yX6_pumpedBy cX6_pumpedBy 10 (some .int))) (rm 0) (va_Pc [.ref h0, .int x1, .int x2, .int x3] (th_P E D G)) (QI E D G (fun r => True)) 0 0 (th_A G) := by
  refine Met.ofW (cc := cX6_pumpedBy) (maxL := 10) (ret := (some .int)) (by decide) rfl ?_
  intro p e s m args below meth c s₁ B hml hv
  obtain ⟨hav, hI, hN, hK⟩ := hv
  have hx := B.exec
  have hb := B.bytes
  have hr := B.returns
  have hts := atoms_spec (ws := tb (.code yX6_pumpedBy cX6_pumpedBy 10 (some .int))) B.pre
  have hown : s.vm.findClass RX6 = some m.cls := findClass_of_methodNamed B.named
  have hlocks := B.notSynchronized
  have hS : va_S (th_A G) s.heap s.heap [] := va_S.rf
  have hl := lv_entry ([.ref h0, .int x1, .int x2, .int x3]) (n := 10) (Nat.le_of_ble_eq_true rfl)
  rw [show entryFrame m args 10 = entryFrame m ([.ref h0, .int x1, .int x2, .int x3] : List Value).toArray 10 from by rw [hav], lg_entry_eq]
  generalize (lg_sl ([.ref h0, .int x1, .int x2, .int x3]) ++ List.replicate (10 - (lg_sl ([.ref h0, .int x1, .int x2, .int x3])).length) Slot.unset).toArray = ls at hl ⊢
  have hl : lv_has ls 10 [(0, .ref h0), (1, .int x1), (2, .int x2), (3, .int x3)] := hl
  generalize hR : (headSpec (tb (.code yX6_pumpedBy cX6_pumpedBy 10 (some .int))) (rm 0)).room = R
  have hR := hR.symm
  generalize hQ : MQ below (QI E D G (fun r => True)) args s 0 0 (th_A G) = QF
  have hQ := hQ.symm
  have J_130 : ∀ (H : Heap) (locs : List Loc) (ls : Array Slot) (v1383 : Int32) (v1384 : Int32) (v1385 : Int32) (v1386 : Int32) (v1387 : Int32) (v1388 : Int32), lv_has ls 10 [(8, .int v1383), (7, .int v1384), (6, .int v1385), (5, .int v1386), (4, .int v1387), (0, .ref h0), (1, .int x1), (2, .int x2), (3, .int x3)] → ((0 : Int) ≤ v1383.toInt ∧ v1383.toInt ≤ 1) → ((0 : Int) ≤ v1387.toInt ∧ v1387.toInt ≤ 5) → ((0 : Int) ≤ x1.toInt ∧ x1.toInt ≤ 1) → ((0 : Int) ≤ v1388.toInt ∧ v1388.toInt ≤ 1) → th_I (okC E) D G [] H → va_S (th_A G) s.heap H locs → W p l e R s m args below meth c H locs 0 0 QF (F0 m 130 ls [.int v1388]) := by
    intro H locs ls v1383 v1384 v1385 v1386 v1387 v1388 hl k1389 k1390 k1391 k1392 hI hS
    refine lv_istore (lv' := [(9, .int v1388), (8, .int v1383), (7, .int v1384), (6, .int v1385), (5, .int v1386), (4, .int v1387), (0, .ref h0), (1, .int x1), (2, .int x2), (3, .int x3)]) hx hb dX6_pumpedBy_130 hl (by decide) rfl (fun ls hl => ?_)
    refine lv_iload hx hb dX6_pumpedBy_132 (lv_at hl 1 rfl) ?_
    refine lv_if_eq (tgt := 154) hx hb dX6_pumpedBy_134 (by decide) (fun c1393 => ?_) (fun c1393 => ?_)
    · skip
      have k1394 := iv_eq (X := v1383.toInt) (Y := (0)) rfl (by decide) c1393
      refine lv_iconst (v := 0) hx hb dX6_pumpedBy_154 (by decide) ?_
      have hpost : True := trivial
      rw [hQ]
      exact W.iret (v := 0) hx hb hr (fun t ht hW => ⟨⟨0, (), rfl, hpost, by rw [ht]; exact hI, hN.warm hW, va_K.moved hW.alike hK⟩, hS.F ht⟩) hS.2.2 dX6_pumpedBy_155
    · skip
      have k1395 := iv_ne (X := v1383.toInt) (Y := (0)) rfl (by decide) c1393
      refine lv_iload hx hb dX6_pumpedBy_137 (lv_at hl 0 rfl) ?_
      refine lv_if_eq (tgt := 154) hx hb dX6_pumpedBy_139 (by decide) (fun c1396 => ?_) (fun c1396 => ?_)
      · skip
        have k1397 := iv_eq (X := v1388.toInt) (Y := (0)) rfl (by decide) c1396
        refine lv_iconst (v := 0) hx hb dX6_pumpedBy_154 (by decide) ?_
        have hpost : True := trivial
        rw [hQ]
        exact W.iret (v := 0) hx hb hr (fun t ht hW => ⟨⟨0, (), rfl, hpost, by rw [ht]; exact hI, hN.warm hW, va_K.moved hW.alike hK⟩, hS.F ht⟩) hS.2.2 dX6_pumpedBy_155
      · skip
        have k1398 := iv_ne (X := v1388.toInt) (Y := (0)) rfl (by decide) c1396
        refine lv_aload_n hx hb dX6_pumpedBy_142 rfl (lv_at hl 6 rfl) ?_
        obtain ⟨a1399, a1401, a1403, a1405, a1407, a1409, a1411, a1413, a1415, a1417, w1419, w1422, w1423, w1424, hO, hq1400, hq1402, hq1404, hq1406, hq1408, hq1410, hq1412, hq1414, hq1416, hq1418, ⟨k1420, k1421⟩, k1425⟩ := op_6 hI hG0 List.not_mem_nil
        have hI := th_I.weak (a := h0) hI
        refine th_get hx hb hts inT6 hown hK hO rfl 0 (by decide) (hts _ (tb_c wd_58)) rfl rfl dX6_pumpedBy_143 ?_
        refine lv_iload hx hb dX6_pumpedBy_146 (lv_at hl 5 rfl) ?_
        refine lv_iconst (v := 4) hx hb dX6_pumpedBy_148 (by decide) ?_
        refine lv_iadd hx hb dX6_pumpedBy_149 ?_
        refine lv_topi (fun v1426 e1427 => ?_)
        have tv1426 : v1426.toInt = v1387.toInt + (4) := iv_add rfl (by decide) e1427 (by omega) (by omega)
        obtain ⟨_, hA1428⟩ := op_0 hI hq1400 (th_ne hG0 hq1400 (show (6 : Nat) ≠ 0 by decide))
        refine th_iald hx hb hK hA1428 0 rfl (iv_in (X := v1426.toInt) rfl (by omega) (by omega)) dX6_pumpedBy_150 (fun v1429 _ => ?_)
        refine lv_goto (tgt := 155) hx hb dX6_pumpedBy_151 (by decide) ?_
        have hI := th_I.close hI hG0 hO (ok_6 hq1400 hq1402 hq1404 hq1406 hq1408 hq1410 hq1412 hq1414 hq1416 hq1418 ⟨by omega, by omega⟩ k1425)
        have hpost : True := trivial
        rw [hQ]
        exact W.iret (v := v1429) hx hb hr (fun t ht hW => ⟨⟨v1429, (), rfl, hpost, by rw [ht]; exact hI, hN.warm hW, va_K.moved hW.alike hK⟩, hS.F ht⟩) hS.2.2 dX6_pumpedBy_155
  have J_125 : ∀ (H : Heap) (locs : List Loc) (ls : Array Slot) (v1430 : Int32) (v1431 : Int32) (v1432 : Int32) (v1433 : Int32) (v1434 : Int32), lv_has ls 10 [(8, .int v1430), (7, .int v1431), (6, .int v1432), (5, .int v1433), (4, .int v1434), (0, .ref h0), (1, .int x1), (2, .int x2), (3, .int x3)] → ((0 : Int) ≤ v1430.toInt ∧ v1430.toInt ≤ 1) → ((0 : Int) ≤ v1434.toInt ∧ v1434.toInt ≤ 5) → ((0 : Int) ≤ x1.toInt ∧ x1.toInt ≤ 1) → th_I (okC E) D G [] H → va_S (th_A G) s.heap H locs → W p l e R s m args below meth c H locs 0 0 QF (F0 m 125 ls []) := by
    intro H locs ls v1430 v1431 v1432 v1433 v1434 hl k1435 k1436 k1437 hI hS
    refine lv_iconst (v := 1) hx hb dX6_pumpedBy_125 (by decide) ?_
    refine lv_goto (tgt := 130) hx hb dX6_pumpedBy_126 (by decide) ?_
    exact J_130 H locs ls v1430 v1431 v1432 v1433 v1434 1 (lv_sub hl [0, 1, 2, 3, 4, 5, 6, 7, 8] rfl) ⟨by omega, by omega⟩ ⟨by omega, by omega⟩ ⟨by omega, by omega⟩ ⟨by decide, by decide⟩ hI hS
  have J_100 : ∀ (H : Heap) (locs : List Loc) (ls : Array Slot) (v1438 : Int32) (v1439 : Int32) (v1440 : Int32) (v1441 : Int32) (v1442 : Int32), lv_has ls 10 [(8, .int v1438), (7, .int v1439), (6, .int v1440), (5, .int v1441), (4, .int v1442), (0, .ref h0), (1, .int x1), (2, .int x2), (3, .int x3)] → ((0 : Int) ≤ v1438.toInt ∧ v1438.toInt ≤ 1) → ((0 : Int) ≤ v1442.toInt ∧ v1442.toInt ≤ 5) → ((0 : Int) ≤ x1.toInt ∧ x1.toInt ≤ 1) → th_I (okC E) D G [] H → va_S (th_A G) s.heap H locs → W p l e R s m args below meth c H locs 0 0 QF (F0 m 100 ls []) := by
    intro H locs ls v1438 v1439 v1440 v1441 v1442 hl k1443 k1444 k1445 hI hS
    refine lv_iconst (v := 0) hx hb dX6_pumpedBy_100 (by decide) ?_
    refine lv_goto (tgt := 130) hx hb dX6_pumpedBy_101 (by decide) ?_
    exact J_130 H locs ls v1438 v1439 v1440 v1441 v1442 0 (lv_sub hl [0, 1, 2, 3, 4, 5, 6, 7, 8] rfl) ⟨by omega, by omega⟩ ⟨by omega, by omega⟩ ⟨by omega, by omega⟩ ⟨by decide, by decide⟩ hI hS
  have J_73 : ∀ (H : Heap) (locs : List Loc) (ls : Array Slot) (v1446 : Int32) (v1447 : Int32) (v1448 : Int32) (v1449 : Int32) (v1450 : Int32), lv_has ls 10 [(7, .int v1446), (6, .int v1447), (5, .int v1448), (4, .int v1449), (0, .ref h0), (1, .int x1), (2, .int x2), (3, .int x3)] → ((0 : Int) ≤ v1449.toInt ∧ v1449.toInt ≤ 5) → ((0 : Int) ≤ x1.toInt ∧ x1.toInt ≤ 1) → ((0 : Int) ≤ v1450.toInt ∧ v1450.toInt ≤ 1) → th_I (okC E) D G [] H → va_S (th_A G) s.heap H locs → W p l e R s m args below meth c H locs 0 0 QF (F0 m 73 ls [.int v1450]) := by
    intro H locs ls v1446 v1447 v1448 v1449 v1450 hl k1451 k1452 k1453 hI hS
    refine lv_istore (lv' := [(8, .int v1450), (7, .int v1446), (6, .int v1447), (5, .int v1448), (4, .int v1449), (0, .ref h0), (1, .int x1), (2, .int x2), (3, .int x3)]) hx hb dX6_pumpedBy_73 hl (by decide) rfl (fun ls hl => ?_)
    refine lv_iload hx hb dX6_pumpedBy_75 (lv_at hl 3 rfl) ?_
    refine lv_iload hx hb dX6_pumpedBy_77 (lv_at hl 2 rfl) ?_
    have k1454 := iv_lo v1448
    have k1455 := iv_hi v1448
    have k1456 := iv_lo v1447
    have k1457 := iv_hi v1447
    refine lv_icmp_ge (tgt := 104) hx hb dX6_pumpedBy_79 (by decide) (fun c1458 => ?_) (fun c1458 => ?_)
    · skip
      have k1459 := iv_le (X := v1447.toInt) (Y := v1448.toInt) rfl rfl c1458
      refine lv_iload hx hb dX6_pumpedBy_104 (lv_at hl 3 rfl) ?_
      refine lv_iload hx hb dX6_pumpedBy_106 (lv_at hl 2 rfl) ?_
      refine lv_icmp_eq (tgt := 125) hx hb dX6_pumpedBy_108 (by decide) (fun c1460 => ?_) (fun c1460 => ?_)
      · skip
        have k1461 := iv_eq (X := v1448.toInt) (Y := v1447.toInt) rfl rfl c1460
        exact J_125 H locs ls v1450 v1446 v1447 v1448 v1449 (lv_sub hl [0, 1, 2, 3, 4, 5, 6, 7, 8] rfl) ⟨by omega, by omega⟩ ⟨by omega, by omega⟩ ⟨by omega, by omega⟩ hI hS
      · skip
        have k1462 := iv_ne (X := v1448.toInt) (Y := v1447.toInt) rfl rfl c1460
        refine lv_iload hx hb dX6_pumpedBy_111 (lv_at hl 1 rfl) ?_
        refine lv_iload hx hb dX6_pumpedBy_113 (lv_at hl 3 rfl) ?_
        have k1463 := iv_lo v1446
        have k1464 := iv_hi v1446
        refine lv_icmp_ge (tgt := 125) hx hb dX6_pumpedBy_115 (by decide) (fun c1465 => ?_) (fun c1465 => ?_)
        · skip
          have k1466 := iv_le (X := v1448.toInt) (Y := v1446.toInt) rfl rfl c1465
          exact J_125 H locs ls v1450 v1446 v1447 v1448 v1449 (lv_sub hl [0, 1, 2, 3, 4, 5, 6, 7, 8] rfl) ⟨by omega, by omega⟩ ⟨by omega, by omega⟩ ⟨by omega, by omega⟩ hI hS
        · skip
          have k1467 := iv_nle (X := v1448.toInt) (Y := v1446.toInt) rfl rfl c1465
          refine lv_iload hx hb dX6_pumpedBy_118 (lv_at hl 1 rfl) ?_
          refine lv_iload hx hb dX6_pumpedBy_120 (lv_at hl 2 rfl) ?_
          refine lv_icmp_ge (tgt := 129) hx hb dX6_pumpedBy_122 (by decide) (fun c1468 => ?_) (fun c1468 => ?_)
          · skip
            have k1469 := iv_le (X := v1447.toInt) (Y := v1446.toInt) rfl rfl c1468
            refine lv_iconst (v := 0) hx hb dX6_pumpedBy_129 (by decide) ?_
            exact J_130 H locs ls v1450 v1446 v1447 v1448 v1449 0 (lv_sub hl [0, 1, 2, 3, 4, 5, 6, 7, 8] rfl) ⟨by omega, by omega⟩ ⟨by omega, by omega⟩ ⟨by omega, by omega⟩ ⟨by decide, by decide⟩ hI hS
          · skip
            have k1470 := iv_nle (X := v1447.toInt) (Y := v1446.toInt) rfl rfl c1468
            exact J_125 H locs ls v1450 v1446 v1447 v1448 v1449 (lv_sub hl [0, 1, 2, 3, 4, 5, 6, 7, 8] rfl) ⟨by omega, by omega⟩ ⟨by omega, by omega⟩ ⟨by omega, by omega⟩ hI hS
    · skip
      have k1471 := iv_nle (X := v1447.toInt) (Y := v1448.toInt) rfl rfl c1458
      refine lv_iload hx hb dX6_pumpedBy_82 (lv_at hl 1 rfl) ?_
      refine lv_iload hx hb dX6_pumpedBy_84 (lv_at hl 3 rfl) ?_
      have k1472 := iv_lo v1446
      have k1473 := iv_hi v1446
      refine lv_icmp_lt (tgt := 100) hx hb dX6_pumpedBy_86 (by decide) (fun c1474 => ?_) (fun c1474 => ?_)
      · skip
        have k1475 := iv_lt (X := v1446.toInt) (Y := v1448.toInt) rfl rfl c1474
        exact J_100 H locs ls v1450 v1446 v1447 v1448 v1449 (lv_sub hl [0, 1, 2, 3, 4, 5, 6, 7, 8] rfl) ⟨by omega, by omega⟩ ⟨by omega, by omega⟩ ⟨by omega, by omega⟩ hI hS
      · skip
        have k1476 := iv_nlt (X := v1446.toInt) (Y := v1448.toInt) rfl rfl c1474
        refine lv_iload hx hb dX6_pumpedBy_89 (lv_at hl 1 rfl) ?_
        refine lv_iload hx hb dX6_pumpedBy_91 (lv_at hl 2 rfl) ?_
        refine lv_icmp_ge (tgt := 100) hx hb dX6_pumpedBy_93 (by decide) (fun c1477 => ?_) (fun c1477 => ?_)
        · skip
          have k1478 := iv_le (X := v1447.toInt) (Y := v1446.toInt) rfl rfl c1477
          exact J_100 H locs ls v1450 v1446 v1447 v1448 v1449 (lv_sub hl [0, 1, 2, 3, 4, 5, 6, 7, 8] rfl) ⟨by omega, by omega⟩ ⟨by omega, by omega⟩ ⟨by omega, by omega⟩ hI hS
        · skip
          have k1479 := iv_nle (X := v1447.toInt) (Y := v1446.toInt) rfl rfl c1477
          refine lv_iconst (v := 1) hx hb dX6_pumpedBy_96 (by decide) ?_
          refine lv_goto (tgt := 130) hx hb dX6_pumpedBy_97 (by decide) ?_
          exact J_130 H locs ls v1450 v1446 v1447 v1448 v1449 1 (lv_sub hl [0, 1, 2, 3, 4, 5, 6, 7, 8] rfl) ⟨by omega, by omega⟩ ⟨by omega, by omega⟩ ⟨by omega, by omega⟩ ⟨by decide, by decide⟩ hI hS
  have J_72 : ∀ (H : Heap) (locs : List Loc) (ls : Array Slot) (v1480 : Int32) (v1481 : Int32) (v1482 : Int32) (v1483 : Int32), lv_has ls 10 [(7, .int v1480), (6, .int v1481), (5, .int v1482), (4, .int v1483), (0, .ref h0), (1, .int x1), (2, .int x2), (3, .int x3)] → ((0 : Int) ≤ v1483.toInt ∧ v1483.toInt ≤ 5) → ((0 : Int) ≤ x1.toInt ∧ x1.toInt ≤ 1) → th_I (okC E) D G [] H → va_S (th_A G) s.heap H locs → W p l e R s m args below meth c H locs 0 0 QF (F0 m 72 ls []) := by
    intro H locs ls v1480 v1481 v1482 v1483 hl k1484 k1485 hI hS
    refine lv_iconst (v := 0) hx hb dX6_pumpedBy_72 (by decide) ?_
    exact J_73 H locs ls v1480 v1481 v1482 v1483 0 (lv_sub hl [0, 1, 2, 3, 4, 5, 6, 7] rfl) ⟨by omega, by omega⟩ ⟨by omega, by omega⟩ ⟨by decide, by decide⟩ hI hS
  have J_9 : ∀ (H : Heap) (locs : List Loc) (ls : Array Slot) , lv_has ls 10 [(0, .ref h0), (1, .int x1), (2, .int x2), (3, .int x3)] → th_I (okC E) D G [] H → va_S (th_A G) s.heap H locs → W p l e R s m args below meth c H locs 0 0 QF (F0 m 9 ls []) := by
    intro H locs ls  hl  hI hS
    refine lv_iconst (v := 0) hx hb dX6_pumpedBy_9 (by decide) ?_
    have hpost : True := trivial
    rw [hQ]
    exact W.iret (v := 0) hx hb hr (fun t ht hW => ⟨⟨0, (), rfl, hpost, by rw [ht]; exact hI, hN.warm hW, va_K.moved hW.alike hK⟩, hS.F ht⟩) hS.2.2 dX6_pumpedBy_10
  refine lv_iload_n hx hb dX6_pumpedBy_0 rfl (lv_at hl 1 rfl) ?_
  have k1486 := iv_lo x1
  have k1487 := iv_hi x1
  refine lv_if_lt (tgt := 9) hx hb dX6_pumpedBy_1 (by decide) (fun c1488 => ?_) (fun c1488 => ?_)
  · skip
    have k1489 := iv_lt (X := x1.toInt) (Y := (0)) rfl (by decide) c1488
    exact J_9 s.heap [] ls  (lv_sub hl [0, 1, 2, 3] rfl)  hI hS
  · skip
    have k1490 := iv_nlt (X := x1.toInt) (Y := (0)) rfl (by decide) c1488
    refine lv_iload_n hx hb dX6_pumpedBy_4 rfl (lv_at hl 1 rfl) ?_
    refine lv_iconst (v := 2) hx hb dX6_pumpedBy_5 (by decide) ?_
    refine lv_icmp_lt (tgt := 11) hx hb dX6_pumpedBy_6 (by decide) (fun c1491 => ?_) (fun c1491 => ?_)
    · skip
      have k1492 := iv_lt (X := x1.toInt) (Y := (2)) rfl (by decide) c1491
      refine lv_iload_n hx hb dX6_pumpedBy_11 rfl (lv_at hl 1 rfl) ?_
      refine lv_iconst (v := 5) hx hb dX6_pumpedBy_12 (by decide) ?_
      refine lv_imul hx hb dX6_pumpedBy_13 ?_
      refine lv_topi (fun v1493 e1494 => ?_)
      have tv1493 : v1493.toInt = x1.toInt * (5) := iv_mul rfl (by decide) e1494 (by omega) (by omega)
      refine lv_istore (lv' := [(4, .int v1493), (0, .ref h0), (1, .int x1), (2, .int x2), (3, .int x3)]) hx hb dX6_pumpedBy_14 hl (by decide) rfl (fun ls hl => ?_)
      refine lv_aload_n hx hb dX6_pumpedBy_16 rfl (lv_at hl 1 rfl) ?_
      obtain ⟨a1495, a1497, a1499, a1501, a1503, a1505, a1507, a1509, a1511, a1513, w1515, w1518, w1519, w1520, hO, hq1496, hq1498, hq1500, hq1502, hq1504, hq1506, hq1508, hq1510, hq1512, hq1514, ⟨k1516, k1517⟩, k1521⟩ := op_6 hI hG0 List.not_mem_nil
      have hI := th_I.weak (a := h0) hI
      refine th_get hx hb hts inT6 hown hK hO rfl 0 (by decide) (hts _ (tb_c wd_58)) rfl rfl dX6_pumpedBy_17 ?_
      refine lv_iload hx hb dX6_pumpedBy_20 (lv_at hl 0 rfl) ?_
      refine lv_iconst (v := 2) hx hb dX6_pumpedBy_22 (by decide) ?_
      refine lv_iadd hx hb dX6_pumpedBy_23 ?_
      refine lv_topi (fun v1522 e1523 => ?_)
      have tv1522 : v1522.toInt = v1493.toInt + (2) := iv_add rfl (by decide) e1523 (by omega) (by omega)
      obtain ⟨_, hA1524⟩ := op_0 hI hq1496 (th_ne hG0 hq1496 (show (6 : Nat) ≠ 0 by decide))
      refine th_iald hx hb hK hA1524 0 rfl (iv_in (X := v1522.toInt) rfl (by omega) (by omega)) dX6_pumpedBy_24 (fun v1525 _ => ?_)
      refine lv_istore (lv' := [(5, .int v1525), (4, .int v1493), (0, .ref h0), (1, .int x1), (2, .int x2), (3, .int x3)]) hx hb dX6_pumpedBy_25 hl (by decide) rfl (fun ls hl => ?_)
      refine lv_aload_n hx hb dX6_pumpedBy_27 rfl (lv_at hl 2 rfl) ?_
      refine th_get hx hb hts inT6 hown hK hO rfl 0 (by decide) (hts _ (tb_c wd_58)) rfl rfl dX6_pumpedBy_28 ?_
      refine lv_iload hx hb dX6_pumpedBy_31 (lv_at hl 1 rfl) ?_
      refine lv_iconst (v := 3) hx hb dX6_pumpedBy_33 (by decide) ?_
      refine lv_iadd hx hb dX6_pumpedBy_34 ?_
      refine lv_topi (fun v1526 e1527 => ?_)
      have tv1526 : v1526.toInt = v1493.toInt + (3) := iv_add rfl (by decide) e1527 (by omega) (by omega)
      obtain ⟨_, hA1528⟩ := op_0 hI hq1496 (th_ne hG0 hq1496 (show (6 : Nat) ≠ 0 by decide))
      refine th_iald hx hb hK hA1528 0 rfl (iv_in (X := v1526.toInt) rfl (by omega) (by omega)) dX6_pumpedBy_35 (fun v1529 _ => ?_)
      refine lv_istore (lv' := [(6, .int v1529), (5, .int v1525), (4, .int v1493), (0, .ref h0), (1, .int x1), (2, .int x2), (3, .int x3)]) hx hb dX6_pumpedBy_36 hl (by decide) rfl (fun ls hl => ?_)
      refine lv_iload_n hx hb dX6_pumpedBy_38 rfl (lv_at hl 6 rfl) ?_
      refine lv_bipush (v := 24) hx hb dX6_pumpedBy_39 (by decide) ?_
      refine lv_irem hx hb dX6_pumpedBy_41 (by decide) ?_
      refine lv_topi (fun v1530 e1531 => ?_)
      refine lv_istore (lv' := [(7, .int v1530), (6, .int v1529), (5, .int v1525), (4, .int v1493), (0, .ref h0), (1, .int x1), (2, .int x2), (3, .int x3)]) hx hb dX6_pumpedBy_42 hl (by decide) rfl (fun ls hl => ?_)
      refine lv_iload_n hx hb dX6_pumpedBy_44 rfl (lv_at hl 6 rfl) ?_
      refine lv_aload_n hx hb dX6_pumpedBy_45 rfl (lv_at hl 4 rfl) ?_
      refine th_get hx hb hts inT6 hown hK hO rfl 0 (by decide) (hts _ (tb_c wd_58)) rfl rfl dX6_pumpedBy_46 ?_
      refine lv_iload hx hb dX6_pumpedBy_49 (lv_at hl 3 rfl) ?_
      obtain ⟨_, hA1532⟩ := op_0 hI hq1496 (th_ne hG0 hq1496 (show (6 : Nat) ≠ 0 by decide))
      refine th_iald hx hb hK hA1532 0 rfl (iv_in (X := v1493.toInt) rfl (by omega) (by omega)) dX6_pumpedBy_51 (fun v1533 _ => ?_)
      have k1534 := iv_lo x2
      have k1535 := iv_hi x2
      have k1536 := iv_lo v1533
      have k1537 := iv_hi v1533
      refine lv_icmp_lt (tgt := 72) hx hb dX6_pumpedBy_52 (by decide) (fun c1538 => ?_) (fun c1538 => ?_)
      · skip
        have k1539 := iv_lt (X := x2.toInt) (Y := v1533.toInt) rfl rfl c1538
        have hI := th_I.close hI hG0 hO (ok_6 hq1496 hq1498 hq1500 hq1502 hq1504 hq1506 hq1508 hq1510 hq1512 hq1514 ⟨by omega, by omega⟩ k1521)
        exact J_72 s.heap [] ls v1530 v1529 v1525 v1493 (lv_sub hl [0, 1, 2, 3, 4, 5, 6, 7] rfl) ⟨by omega, by omega⟩ ⟨by omega, by omega⟩ hI hS
      · skip
        have k1540 := iv_nlt (X := x2.toInt) (Y := v1533.toInt) rfl rfl c1538
        refine lv_iload_n hx hb dX6_pumpedBy_55 rfl (lv_at hl 6 rfl) ?_
        refine lv_aload_n hx hb dX6_pumpedBy_56 rfl (lv_at hl 4 rfl) ?_
        refine th_get hx hb hts inT6 hown hK hO rfl 0 (by decide) (hts _ (tb_c wd_58)) rfl rfl dX6_pumpedBy_57 ?_
        refine lv_iload hx hb dX6_pumpedBy_60 (lv_at hl 3 rfl) ?_
        refine lv_iconst (v := 1) hx hb dX6_pumpedBy_62 (by decide) ?_
        refine lv_iadd hx hb dX6_pumpedBy_63 ?_
        refine lv_topi (fun v1541 e1542 => ?_)
        have tv1541 : v1541.toInt = v1493.toInt + (1) := iv_add rfl (by decide) e1542 (by omega) (by omega)
        obtain ⟨_, hA1543⟩ := op_0 hI hq1496 (th_ne hG0 hq1496 (show (6 : Nat) ≠ 0 by decide))
        refine th_iald hx hb hK hA1543 0 rfl (iv_in (X := v1541.toInt) rfl (by omega) (by omega)) dX6_pumpedBy_64 (fun v1544 _ => ?_)
        have k1545 := iv_lo v1544
        have k1546 := iv_hi v1544
        refine lv_icmp_gt (tgt := 72) hx hb dX6_pumpedBy_65 (by decide) (fun c1547 => ?_) (fun c1547 => ?_)
        · skip
          have k1548 := iv_lt (X := v1544.toInt) (Y := x2.toInt) rfl rfl c1547
          have hI := th_I.close hI hG0 hO (ok_6 hq1496 hq1498 hq1500 hq1502 hq1504 hq1506 hq1508 hq1510 hq1512 hq1514 ⟨by omega, by omega⟩ k1521)
          exact J_72 s.heap [] ls v1530 v1529 v1525 v1493 (lv_sub hl [0, 1, 2, 3, 4, 5, 6, 7] rfl) ⟨by omega, by omega⟩ ⟨by omega, by omega⟩ hI hS
        · skip
          have k1549 := iv_nlt (X := v1544.toInt) (Y := x2.toInt) rfl rfl c1547
          refine lv_iconst (v := 1) hx hb dX6_pumpedBy_68 (by decide) ?_
          refine lv_goto (tgt := 73) hx hb dX6_pumpedBy_69 (by decide) ?_
          have hI := th_I.close hI hG0 hO (ok_6 hq1496 hq1498 hq1500 hq1502 hq1504 hq1506 hq1508 hq1510 hq1512 hq1514 ⟨by omega, by omega⟩ k1521)
          exact J_73 s.heap [] ls v1530 v1529 v1525 v1493 1 (lv_sub hl [0, 1, 2, 3, 4, 5, 6, 7] rfl) ⟨by omega, by omega⟩ ⟨by omega, by omega⟩ ⟨by decide, by decide⟩ hI hS
    · skip
      have k1550 := iv_nlt (X := x1.toInt) (Y := (2)) rfl (by decide) c1491
      exact J_9 s.heap [] ls  (lv_sub hl [0, 1, 2, 3] rfl)  hI hS
theorem dX6_pumpedAt_0g : (decode cX6_pumpedAt 0 = .ok (.iload_n 3, 1)) ∧ (decode cX6_pumpedAt 1 = .ok (.iconst 1, 1)) ∧ (decode cX6_pumpedAt 2 = .ok (.if_icmp .ne 7, 3)) ∧ (decode cX6_pumpedAt 5 = .ok (.iconst 0, 1)) ∧ (decode cX6_pumpedAt 6 = .ok (.goto 18, 3)) ∧ (decode cX6_pumpedAt 9 = .ok (.aload_n 0, 1)) ∧ (decode cX6_pumpedAt 10 = .ok (.iconst 0, 1)) ∧ (decode cX6_pumpedAt 11 = .ok (.iload_n 1, 1)) ∧ (decode cX6_pumpedAt 12 = .ok (.iload_n 2, 1)) ∧ (decode cX6_pumpedAt 13 = .ok (.invokevirtual 86, 3)) := by decide +kernel
theorem dX6_pumpedAt_0 : decode cX6_pumpedAt 0 = .ok (.iload_n 3, 1) := dX6_pumpedAt_0g.1
theorem dX6_pumpedAt_1 : decode cX6_pumpedAt 1 = .ok (.iconst 1, 1) := dX6_pumpedAt_0g.2.1
theorem dX6_pumpedAt_2 : decode cX6_pumpedAt 2 = .ok (.if_icmp .ne 7, 3) := dX6_pumpedAt_0g.2.2.1
theorem dX6_pumpedAt_5 : decode cX6_pumpedAt 5 = .ok (.iconst 0, 1) := dX6_pumpedAt_0g.2.2.2.1
theorem dX6_pumpedAt_6 : decode cX6_pumpedAt 6 = .ok (.goto 18, 3) := dX6_pumpedAt_0g.2.2.2.2.1
theorem dX6_pumpedAt_9 : decode cX6_pumpedAt 9 = .ok (.aload_n 0, 1) := dX6_pumpedAt_0g.2.2.2.2.2.1
theorem dX6_pumpedAt_10 : decode cX6_pumpedAt 10 = .ok (.iconst 0, 1) := dX6_pumpedAt_0g.2.2.2.2.2.2.1
theorem dX6_pumpedAt_11 : decode cX6_pumpedAt 11 = .ok (.iload_n 1, 1) := dX6_pumpedAt_0g.2.2.2.2.2.2.2.1
theorem dX6_pumpedAt_12 : decode cX6_pumpedAt 12 = .ok (.iload_n 2, 1) := dX6_pumpedAt_0g.2.2.2.2.2.2.2.2.1
theorem dX6_pumpedAt_13 : decode cX6_pumpedAt 13 = .ok (.invokevirtual 86, 3) := dX6_pumpedAt_0g.2.2.2.2.2.2.2.2.2
theorem dX6_pumpedAt_16g : (decode cX6_pumpedAt 16 = .ok (.aload_n 0, 1)) ∧ (decode cX6_pumpedAt 17 = .ok (.iconst 1, 1)) ∧ (decode cX6_pumpedAt 18 = .ok (.iload_n 1, 1)) ∧ (decode cX6_pumpedAt 19 = .ok (.iload_n 2, 1)) ∧ (decode cX6_pumpedAt 20 = .ok (.invokevirtual 86, 3)) ∧ (decode cX6_pumpedAt 23 = .ok (.iadd, 1)) ∧ (decode cX6_pumpedAt 24 = .ok (.ireturn, 1)) := by decide +kernel
theorem dX6_pumpedAt_16 : decode cX6_pumpedAt 16 = .ok (.aload_n 0, 1) := dX6_pumpedAt_16g.1
theorem dX6_pumpedAt_17 : decode cX6_pumpedAt 17 = .ok (.iconst 1, 1) := dX6_pumpedAt_16g.2.1
theorem dX6_pumpedAt_18 : decode cX6_pumpedAt 18 = .ok (.iload_n 1, 1) := dX6_pumpedAt_16g.2.2.1
theorem dX6_pumpedAt_19 : decode cX6_pumpedAt 19 = .ok (.iload_n 2, 1) := dX6_pumpedAt_16g.2.2.2.1
theorem dX6_pumpedAt_20 : decode cX6_pumpedAt 20 = .ok (.invokevirtual 86, 3) := dX6_pumpedAt_16g.2.2.2.2.1
theorem dX6_pumpedAt_23 : decode cX6_pumpedAt 23 = .ok (.iadd, 1) := dX6_pumpedAt_16g.2.2.2.2.2.1
theorem dX6_pumpedAt_24 : decode cX6_pumpedAt 24 = .ok (.ireturn, 1) := dX6_pumpedAt_16g.2.2.2.2.2.2
set_option maxHeartbeats 4000000 in
set_option maxRecDepth 100000 in
theorem c_X6_pumpedAt (l : Launch) (E : Nat → Nat) (D : va_G) (G : th_G) (h0 : Nat) (hG0 : G h0 = some (6, 0)) (x1 x2 x3 : Int32) : Met l yX6_pumpedAt (tb (.code yX6_pumpedAt cX6_pumpedAt 4 (some .int))) (rm 1) (va_Pc [.ref h0, .int x1, .int x2, .int x3] (th_P E D G)) (QI E D G (fun r => True)) 0 0 (th_A G) := by
  refine Met.ofW (cc := cX6_pumpedAt) (maxL := 4) (ret := (some .int)) (by decide) rfl ?_
  intro p e s m args below meth c s₁ B hml hv
  obtain ⟨hav, hI, hN, hK⟩ := hv
  have hx := B.exec
  have hb := B.bytes
  have hr := B.returns
  have hts := atoms_spec (ws := tb (.code yX6_pumpedAt cX6_pumpedAt 4 (some .int))) B.pre
  have hown : s.vm.findClass RX6 = some m.cls := findClass_of_methodNamed B.named
  have hlocks := B.notSynchronized
  have hS : va_S (th_A G) s.heap s.heap [] := va_S.rf
  have hl := lv_entry ([.ref h0, .int x1, .int x2, .int x3]) (n := 4) (Nat.le_of_ble_eq_true rfl)
  rw [show entryFrame m args 4 = entryFrame m ([.ref h0, .int x1, .int x2, .int x3] : List Value).toArray 4 from by rw [hav], lg_entry_eq]
  generalize (lg_sl ([.ref h0, .int x1, .int x2, .int x3]) ++ List.replicate (4 - (lg_sl ([.ref h0, .int x1, .int x2, .int x3])).length) Slot.unset).toArray = ls at hl ⊢
  have hl : lv_has ls 4 [(0, .ref h0), (1, .int x1), (2, .int x2), (3, .int x3)] := hl
  generalize hR : (headSpec (tb (.code yX6_pumpedAt cX6_pumpedAt 4 (some .int))) (rm 1)).room = R
  have hR := hR.symm
  generalize hQ : MQ below (QI E D G (fun r => True)) args s 0 0 (th_A G) = QF
  have hQ := hQ.symm
  refine lv_iload_n hx hb dX6_pumpedAt_0 rfl (lv_at hl 3 rfl) ?_
  refine lv_iconst (v := 1) hx hb dX6_pumpedAt_1 (by decide) ?_
  have k1 := iv_lo x3
  have k2 := iv_hi x3
  refine lv_icmp_ne (tgt := 9) hx hb dX6_pumpedAt_2 (by decide) (fun c3 => ?_) (fun c3 => ?_)
  · skip
    have k4 := iv_ne (X := x3.toInt) (Y := (1)) rfl (by decide) c3
    refine lv_aload_n hx hb dX6_pumpedAt_9 rfl (lv_at hl 0 rfl) ?_
    refine lv_iconst (v := 0) hx hb dX6_pumpedAt_10 (by decide) ?_
    refine lv_iload_n hx hb dX6_pumpedAt_11 rfl (lv_at hl 1 rfl) ?_
    refine lv_iload_n hx hb dX6_pumpedAt_12 rfl (lv_at hl 2 rfl) ?_
    refine th_cVi (As := [.int 0, .int x1, .int x2]) (rest := []) (n := 3) (d := 0) ⟨hx, hb, hml, hown, hts⟩ (c_X6_pumpedBy l E D G h0 hG0 0 x1 x2) wd_554 wd_555 wd_556 wd_2 wd_557 (by decide +kernel) ⟨by rw [hR]; exact Nat.le_of_ble_eq_true rfl, by rw [hR]; exact Nat.le_of_ble_eq_true rfl⟩ hI hN hK hS (rc_6 hI hG0 List.not_mem_nil) rfl rfl hl.1 rfl (Nat.le_of_ble_eq_true rfl) dX6_pumpedAt_13 ⟨Nat.zero_le _, Nat.zero_le _⟩ (fun r5 H locs hp hI hS => ?_)
    refine lv_aload_n hx hb dX6_pumpedAt_16 rfl (lv_at hl 0 rfl) ?_
    refine lv_iconst (v := 1) hx hb dX6_pumpedAt_17 (by decide) ?_
    refine lv_iload_n hx hb dX6_pumpedAt_18 rfl (lv_at hl 1 rfl) ?_
    refine lv_iload_n hx hb dX6_pumpedAt_19 rfl (lv_at hl 2 rfl) ?_
    refine th_cVi (As := [.int 1, .int x1, .int x2]) (rest := [.int r5]) (n := 3) (d := 0) ⟨hx, hb, hml, hown, hts⟩ (c_X6_pumpedBy l E D G h0 hG0 1 x1 x2) wd_554 wd_555 wd_556 wd_2 wd_557 (by decide +kernel) ⟨by rw [hR]; exact Nat.le_of_ble_eq_true rfl, by rw [hR]; exact Nat.le_of_ble_eq_true rfl⟩ hI hN hK hS (rc_6 hI hG0 List.not_mem_nil) rfl rfl hl.1 rfl (Nat.le_of_ble_eq_true rfl) dX6_pumpedAt_20 ⟨Nat.zero_le _, Nat.zero_le _⟩ (fun r6 H locs hp hI hS => ?_)
    refine lv_iadd hx hb dX6_pumpedAt_23 ?_
    refine lv_topi (fun v7 e8 => ?_)
    try have tv7 : v7.toInt = r5.toInt + r6.toInt := iv_add rfl rfl e8 (by omega) (by omega)
    have hpost : True := trivial
    rw [hQ]
    exact W.iret (v := v7) hx hb hr (fun t ht hW => ⟨⟨v7, (), rfl, hpost, by rw [ht]; exact hI, hN.warm hW, va_K.moved hW.alike hK⟩, hS.F ht⟩) hS.2.2 dX6_pumpedAt_24
  · skip
    have k9 := iv_eq (X := x3.toInt) (Y := (1)) rfl (by decide) c3
    refine lv_iconst (v := 0) hx hb dX6_pumpedAt_5 (by decide) ?_
    refine lv_goto (tgt := 24) hx hb dX6_pumpedAt_6 (by decide) ?_
    have hpost : True := trivial
    rw [hQ]
    exact W.iret (v := 0) hx hb hr (fun t ht hW => ⟨⟨0, (), rfl, hpost, by rw [ht]; exact hI, hN.warm hW, va_K.moved hW.alike hK⟩, hS.F ht⟩) hS.2.2 dX6_pumpedAt_24
theorem dX6_strikeIn_0g : (decode cX6_strikeIn 0 = .ok (.iload_n 1, 1)) ∧ (decode cX6_strikeIn 1 = .ok (.invokestatic 90, 3)) ∧ (decode cX6_strikeIn 4 = .ok (.ifCond .eq 12, 3)) ∧ (decode cX6_strikeIn 7 = .ok (.aload_n 0, 1)) ∧ (decode cX6_strikeIn 8 = .ok (.getfield 15, 3)) ∧ (decode cX6_strikeIn 11 = .ok (.iload_n 1, 1)) ∧ (decode cX6_strikeIn 12 = .ok (.iaload, 1)) ∧ (decode cX6_strikeIn 13 = .ok (.goto 4, 3)) ∧ (decode cX6_strikeIn 16 = .ok (.iconst 0, 1)) ∧ (decode cX6_strikeIn 17 = .ok (.ireturn, 1)) := by decide +kernel
theorem dX6_strikeIn_0 : decode cX6_strikeIn 0 = .ok (.iload_n 1, 1) := dX6_strikeIn_0g.1
theorem dX6_strikeIn_1 : decode cX6_strikeIn 1 = .ok (.invokestatic 90, 3) := dX6_strikeIn_0g.2.1
theorem dX6_strikeIn_4 : decode cX6_strikeIn 4 = .ok (.ifCond .eq 12, 3) := dX6_strikeIn_0g.2.2.1
theorem dX6_strikeIn_7 : decode cX6_strikeIn 7 = .ok (.aload_n 0, 1) := dX6_strikeIn_0g.2.2.2.1
theorem dX6_strikeIn_8 : decode cX6_strikeIn 8 = .ok (.getfield 15, 3) := dX6_strikeIn_0g.2.2.2.2.1
theorem dX6_strikeIn_11 : decode cX6_strikeIn 11 = .ok (.iload_n 1, 1) := dX6_strikeIn_0g.2.2.2.2.2.1
theorem dX6_strikeIn_12 : decode cX6_strikeIn 12 = .ok (.iaload, 1) := dX6_strikeIn_0g.2.2.2.2.2.2.1
theorem dX6_strikeIn_13 : decode cX6_strikeIn 13 = .ok (.goto 4, 3) := dX6_strikeIn_0g.2.2.2.2.2.2.2.1
theorem dX6_strikeIn_16 : decode cX6_strikeIn 16 = .ok (.iconst 0, 1) := dX6_strikeIn_0g.2.2.2.2.2.2.2.2.1
theorem dX6_strikeIn_17 : decode cX6_strikeIn 17 = .ok (.ireturn, 1) := dX6_strikeIn_0g.2.2.2.2.2.2.2.2.2
set_option maxHeartbeats 4000000 in
set_option maxRecDepth 100000 in
theorem c_X6_strikeIn (l : Launch) (E : Nat → Nat) (D : va_G) (G : th_G) (h0 : Nat) (hG0 : G h0 = some (6, 0)) (x1 : Int32) : Met l yX6_strikeIn (tb (.code yX6_strikeIn cX6_strikeIn 2 (some .int))) (rm 1) (va_Pc [.ref h0, .int x1] (th_P E D G)) (QI E D G (fun r => True)) 0 0 (th_A G) := by
  refine Met.ofW (cc := cX6_strikeIn) (maxL := 2) (ret := (some .int)) (by decide) rfl ?_
  intro p e s m args below meth c s₁ B hml hv
  obtain ⟨hav, hI, hN, hK⟩ := hv
  have hx := B.exec
  have hb := B.bytes
  have hr := B.returns
  have hts := atoms_spec (ws := tb (.code yX6_strikeIn cX6_strikeIn 2 (some .int))) B.pre
  have hown : s.vm.findClass RX6 = some m.cls := findClass_of_methodNamed B.named
  have hlocks := B.notSynchronized
  have hS : va_S (th_A G) s.heap s.heap [] := va_S.rf
  have hl := lv_entry ([.ref h0, .int x1]) (n := 2) (Nat.le_of_ble_eq_true rfl)
  rw [show entryFrame m args 2 = entryFrame m ([.ref h0, .int x1] : List Value).toArray 2 from by rw [hav], lg_entry_eq]
  generalize (lg_sl ([.ref h0, .int x1]) ++ List.replicate (2 - (lg_sl ([.ref h0, .int x1])).length) Slot.unset).toArray = ls at hl ⊢
  have hl : lv_has ls 2 [(0, .ref h0), (1, .int x1)] := hl
  generalize hR : (headSpec (tb (.code yX6_strikeIn cX6_strikeIn 2 (some .int))) (rm 1)).room = R
  have hR := hR.symm
  generalize hQ : MQ below (QI E D G (fun r => True)) args s 0 0 (th_A G) = QF
  have hQ := hQ.symm
  refine lv_iload_n hx hb dX6_strikeIn_0 rfl (lv_at hl 1 rfl) ?_
  refine th_cSN (As := [.int x1]) (rest := []) (n := 1) (d := 0) ⟨hx, hb, hml, hown, hts⟩ (c_X11_isHour l s.heap x1) wn_549 wd_467 wd_1 wd_468 (by decide +kernel) ⟨by rw [hR]; exact Nat.le_of_ble_eq_true rfl, by rw [hR]; exact Nat.le_of_ble_eq_true rfl⟩ hN hS rfl hl.1 rfl (Nat.le_of_ble_eq_true rfl) dX6_strikeIn_1 ⟨Nat.zero_le _, Nat.zero_le _⟩ (fun r1 locs hp hS => ?_)
  rcases hp with ⟨rfl, hp⟩ | ⟨rfl, hp⟩
  · skip
    try simp only [rg, not_and, Int.not_le] at hp
    have hp2 := hp
    refine lv_if_eq (tgt := 16) hx hb dX6_strikeIn_4 (by decide) (fun c => absurd c (by decide)) (fun _ => ?_)
    refine lv_aload_n hx hb dX6_strikeIn_7 rfl (lv_at hl 0 rfl) ?_
    obtain ⟨a3, a5, a7, a9, a11, a13, a15, a17, a19, a21, w23, w26, w27, w28, hO, hq4, hq6, hq8, hq10, hq12, hq14, hq16, hq18, hq20, hq22, ⟨k24, k25⟩, k29⟩ := op_6 hI hG0 List.not_mem_nil
    have hI := th_I.weak (a := h0) hI
    refine th_get hx hb hts inT6 hown hK hO rfl 1 (by decide) (hts _ (tb_c wd_59)) rfl rfl dX6_strikeIn_8 ?_
    refine lv_iload_n hx hb dX6_strikeIn_11 rfl (lv_at hl 1 rfl) ?_
    obtain ⟨_, hA30⟩ := op_0 hI hq6 (th_ne hG0 hq6 (show (6 : Nat) ≠ 0 by decide))
    refine th_iald hx hb hK hA30 0 rfl (iv_in (X := x1.toInt) rfl (by omega) (by omega)) dX6_strikeIn_12 (fun v31 _ => ?_)
    refine lv_goto (tgt := 17) hx hb dX6_strikeIn_13 (by decide) ?_
    have hI := th_I.close hI hG0 hO (ok_6 hq4 hq6 hq8 hq10 hq12 hq14 hq16 hq18 hq20 hq22 ⟨by omega, by omega⟩ k29)
    have hpost : True := trivial
    rw [hQ]
    exact W.iret (v := v31) hx hb hr (fun t ht hW => ⟨⟨v31, (), rfl, hpost, by rw [ht]; exact hI, hN.warm hW, va_K.moved hW.alike hK⟩, hS.F ht⟩) hS.2.2 dX6_strikeIn_17
  · skip
    try simp only [rg, not_and, Int.not_le] at hp
    have hp32 := hp
    refine lv_if_eq (tgt := 16) hx hb dX6_strikeIn_4 (by decide) (fun _ => ?_) (fun c => absurd c (by decide))
    refine lv_iconst (v := 0) hx hb dX6_strikeIn_16 (by decide) ?_
    have hpost : True := trivial
    rw [hQ]
    exact W.iret (v := 0) hx hb hr (fun t ht hW => ⟨⟨0, (), rfl, hpost, by rw [ht]; exact hI, hN.warm hW, va_K.moved hW.alike hK⟩, hS.F ht⟩) hS.2.2 dX6_strikeIn_17
theorem dX6_tellStrikes_0g : (decode cX6_tellStrikes 0 = .ok (.iconst 0, 1)) ∧ (decode cX6_tellStrikes 1 = .ok (.istore 4, 2)) ∧ (decode cX6_tellStrikes 3 = .ok (.iload_n 1, 1)) ∧ (decode cX6_tellStrikes 4 = .ok (.iconst 0, 1)) ∧ (decode cX6_tellStrikes 5 = .ok (.invokestatic 93, 3)) ∧ (decode cX6_tellStrikes 8 = .ok (.istore 5, 2)) ∧ (decode cX6_tellStrikes 10 = .ok (.iload 5, 2)) ∧ (decode cX6_tellStrikes 12 = .ok (.iload_n 2, 1)) ∧ (decode cX6_tellStrikes 13 = .ok (.if_icmp .gt 38, 3)) ∧ (decode cX6_tellStrikes 16 = .ok (.iload 5, 2)) := by decide +kernel
theorem dX6_tellStrikes_0 : decode cX6_tellStrikes 0 = .ok (.iconst 0, 1) := dX6_tellStrikes_0g.1
theorem dX6_tellStrikes_1 : decode cX6_tellStrikes 1 = .ok (.istore 4, 2) := dX6_tellStrikes_0g.2.1
theorem dX6_tellStrikes_3 : decode cX6_tellStrikes 3 = .ok (.iload_n 1, 1) := dX6_tellStrikes_0g.2.2.1
theorem dX6_tellStrikes_4 : decode cX6_tellStrikes 4 = .ok (.iconst 0, 1) := dX6_tellStrikes_0g.2.2.2.1
theorem dX6_tellStrikes_5 : decode cX6_tellStrikes 5 = .ok (.invokestatic 93, 3) := dX6_tellStrikes_0g.2.2.2.2.1
theorem dX6_tellStrikes_8 : decode cX6_tellStrikes 8 = .ok (.istore 5, 2) := dX6_tellStrikes_0g.2.2.2.2.2.1
theorem dX6_tellStrikes_10 : decode cX6_tellStrikes 10 = .ok (.iload 5, 2) := dX6_tellStrikes_0g.2.2.2.2.2.2.1
theorem dX6_tellStrikes_12 : decode cX6_tellStrikes 12 = .ok (.iload_n 2, 1) := dX6_tellStrikes_0g.2.2.2.2.2.2.2.1
theorem dX6_tellStrikes_13 : decode cX6_tellStrikes 13 = .ok (.if_icmp .gt 38, 3) := dX6_tellStrikes_0g.2.2.2.2.2.2.2.2.1
theorem dX6_tellStrikes_16 : decode cX6_tellStrikes 16 = .ok (.iload 5, 2) := dX6_tellStrikes_0g.2.2.2.2.2.2.2.2.2
theorem dX6_tellStrikes_18g : (decode cX6_tellStrikes 18 = .ok (.bipush 96, 2)) ∧ (decode cX6_tellStrikes 20 = .ok (.if_icmp .ge 31, 3)) ∧ (decode cX6_tellStrikes 23 = .ok (.aload_n 0, 1)) ∧ (decode cX6_tellStrikes 24 = .ok (.getfield 15, 3)) ∧ (decode cX6_tellStrikes 27 = .ok (.iload 5, 2)) ∧ (decode cX6_tellStrikes 29 = .ok (.iaload, 1)) ∧ (decode cX6_tellStrikes 30 = .ok (.iload_n 3, 1)) ∧ (decode cX6_tellStrikes 31 = .ok (.if_icmp .eq 14, 3)) ∧ (decode cX6_tellStrikes 34 = .ok (.aload_n 0, 1)) ∧ (decode cX6_tellStrikes 35 = .ok (.getfield 15, 3)) := by decide +kernel
theorem dX6_tellStrikes_18 : decode cX6_tellStrikes 18 = .ok (.bipush 96, 2) := dX6_tellStrikes_18g.1
theorem dX6_tellStrikes_20 : decode cX6_tellStrikes 20 = .ok (.if_icmp .ge 31, 3) := dX6_tellStrikes_18g.2.1
theorem dX6_tellStrikes_23 : decode cX6_tellStrikes 23 = .ok (.aload_n 0, 1) := dX6_tellStrikes_18g.2.2.1
theorem dX6_tellStrikes_24 : decode cX6_tellStrikes 24 = .ok (.getfield 15, 3) := dX6_tellStrikes_18g.2.2.2.1
theorem dX6_tellStrikes_27 : decode cX6_tellStrikes 27 = .ok (.iload 5, 2) := dX6_tellStrikes_18g.2.2.2.2.1
theorem dX6_tellStrikes_29 : decode cX6_tellStrikes 29 = .ok (.iaload, 1) := dX6_tellStrikes_18g.2.2.2.2.2.1
theorem dX6_tellStrikes_30 : decode cX6_tellStrikes 30 = .ok (.iload_n 3, 1) := dX6_tellStrikes_18g.2.2.2.2.2.2.1
theorem dX6_tellStrikes_31 : decode cX6_tellStrikes 31 = .ok (.if_icmp .eq 14, 3) := dX6_tellStrikes_18g.2.2.2.2.2.2.2.1
theorem dX6_tellStrikes_34 : decode cX6_tellStrikes 34 = .ok (.aload_n 0, 1) := dX6_tellStrikes_18g.2.2.2.2.2.2.2.2.1
theorem dX6_tellStrikes_35 : decode cX6_tellStrikes 35 = .ok (.getfield 15, 3) := dX6_tellStrikes_18g.2.2.2.2.2.2.2.2.2
theorem dX6_tellStrikes_38g : (decode cX6_tellStrikes 38 = .ok (.iload 5, 2)) ∧ (decode cX6_tellStrikes 40 = .ok (.iload_n 3, 1)) ∧ (decode cX6_tellStrikes 41 = .ok (.iastore, 1)) ∧ (decode cX6_tellStrikes 42 = .ok (.iinc 4 1, 3)) ∧ (decode cX6_tellStrikes 45 = .ok (.iinc 5 1, 3)) ∧ (decode cX6_tellStrikes 48 = .ok (.goto (-38), 3)) ∧ (decode cX6_tellStrikes 51 = .ok (.iload 4, 2)) ∧ (decode cX6_tellStrikes 53 = .ok (.ireturn, 1)) := by decide +kernel
theorem dX6_tellStrikes_38 : decode cX6_tellStrikes 38 = .ok (.iload 5, 2) := dX6_tellStrikes_38g.1
theorem dX6_tellStrikes_40 : decode cX6_tellStrikes 40 = .ok (.iload_n 3, 1) := dX6_tellStrikes_38g.2.1
theorem dX6_tellStrikes_41 : decode cX6_tellStrikes 41 = .ok (.iastore, 1) := dX6_tellStrikes_38g.2.2.1
theorem dX6_tellStrikes_42 : decode cX6_tellStrikes 42 = .ok (.iinc 4 1, 3) := dX6_tellStrikes_38g.2.2.2.1
theorem dX6_tellStrikes_45 : decode cX6_tellStrikes 45 = .ok (.iinc 5 1, 3) := dX6_tellStrikes_38g.2.2.2.2.1
theorem dX6_tellStrikes_48 : decode cX6_tellStrikes 48 = .ok (.goto (-38), 3) := dX6_tellStrikes_38g.2.2.2.2.2.1
theorem dX6_tellStrikes_51 : decode cX6_tellStrikes 51 = .ok (.iload 4, 2) := dX6_tellStrikes_38g.2.2.2.2.2.2.1
theorem dX6_tellStrikes_53 : decode cX6_tellStrikes 53 = .ok (.ireturn, 1) := dX6_tellStrikes_38g.2.2.2.2.2.2.2
set_option maxHeartbeats 4000000 in
set_option maxRecDepth 100000 in
theorem c_X6_tellStrikes (l : Launch) (E : Nat → Nat) (D : va_G) (G : th_G) (h0 : Nat) (hG0 : G h0 = some (6, 0)) (x1 x2 x3 : Int32) : Met l yX6_tellStrikes (tb (.code yX6_tellStrikes cX6_tellStrikes 6 (some .int))) (rm 1) (va_Pc [.ref h0, .int x1, .int x2, .int x3] (th_P E D G)) (QI E D G (fun r => True)) 0 0 (th_A G) := by
  refine Met.ofW (cc := cX6_tellStrikes) (maxL := 6) (ret := (some .int)) (by decide) rfl ?_
  intro p e s m args below meth c s₁ B hml hv
  obtain ⟨hav, hI, hN, hK⟩ := hv
  have hx := B.exec
  have hb := B.bytes
  have hr := B.returns
  have hts := atoms_spec (ws := tb (.code yX6_tellStrikes cX6_tellStrikes 6 (some .int))) B.pre
  have hown : s.vm.findClass RX6 = some m.cls := findClass_of_methodNamed B.named
  have hlocks := B.notSynchronized
  have hS : va_S (th_A G) s.heap s.heap [] := va_S.rf
  have hl := lv_entry ([.ref h0, .int x1, .int x2, .int x3]) (n := 6) (Nat.le_of_ble_eq_true rfl)
  rw [show entryFrame m args 6 = entryFrame m ([.ref h0, .int x1, .int x2, .int x3] : List Value).toArray 6 from by rw [hav], lg_entry_eq]
  generalize (lg_sl ([.ref h0, .int x1, .int x2, .int x3]) ++ List.replicate (6 - (lg_sl ([.ref h0, .int x1, .int x2, .int x3])).length) Slot.unset).toArray = ls at hl ⊢
  have hl : lv_has ls 6 [(0, .ref h0), (1, .int x1), (2, .int x2), (3, .int x3)] := hl
  generalize hR : (headSpec (tb (.code yX6_tellStrikes cX6_tellStrikes 6 (some .int))) (rm 1)).room = R
  have hR := hR.symm
  generalize hQ : MQ below (QI E D G (fun r => True)) args s 0 0 (th_A G) = QF
  have hQ := hQ.symm
  have J_10 : ∀ (nn : Nat) (H : Heap) (locs : List Loc) (ls : Array Slot) (v1899 : Int32) (v1900 : Int32), (Int.toNat (96 - v1899.toInt) = nn) → lv_has ls 6 [(5, .int v1899), (4, .int v1900), (0, .ref h0), (1, .int x1), (2, .int x2), (3, .int x3)] → ((0 : Int) ≤ v1899.toInt) → th_I (okC E) D G [] H → va_S (th_A G) s.heap H locs → W p l e R s m args below meth c H locs 0 0 QF (F0 m 10 ls []) := by
    intro nn
    induction nn using Nat.strongRecOn with
    | ind nn ih_10 =>
      intro H locs ls v1899 v1900 hm hl k1901 hI hS
      refine lv_iload hx hb dX6_tellStrikes_10 (lv_at hl 0 rfl) ?_
      refine lv_iload_n hx hb dX6_tellStrikes_12 rfl (lv_at hl 4 rfl) ?_
      have k1902 := iv_lo v1899
      have k1903 := iv_hi v1899
      have k1904 := iv_lo x2
      have k1905 := iv_hi x2
      refine lv_icmp_gt (tgt := 51) hx hb dX6_tellStrikes_13 (by decide) (fun c1906 => ?_) (fun c1906 => ?_)
      · skip
        have k1907 := iv_lt (X := x2.toInt) (Y := v1899.toInt) rfl rfl c1906
        refine lv_iload hx hb dX6_tellStrikes_51 (lv_at hl 1 rfl) ?_
        have hpost : True := trivial
        rw [hQ]
        exact W.iret (v := v1900) hx hb hr (fun t ht hW => ⟨⟨v1900, (), rfl, hpost, by rw [ht]; exact hI, hN.warm hW, va_K.moved hW.alike hK⟩, hS.F ht⟩) hS.2.2 dX6_tellStrikes_53
      · skip
        have k1908 := iv_nlt (X := x2.toInt) (Y := v1899.toInt) rfl rfl c1906
        refine lv_iload hx hb dX6_tellStrikes_16 (lv_at hl 0 rfl) ?_
        refine lv_bipush (v := 96) hx hb dX6_tellStrikes_18 (by decide) ?_
        refine lv_icmp_ge (tgt := 51) hx hb dX6_tellStrikes_20 (by decide) (fun c1909 => ?_) (fun c1909 => ?_)
        · skip
          have k1910 := iv_le (X := (96)) (Y := v1899.toInt) (by decide) rfl c1909
          refine lv_iload hx hb dX6_tellStrikes_51 (lv_at hl 1 rfl) ?_
          have hpost : True := trivial
          rw [hQ]
          exact W.iret (v := v1900) hx hb hr (fun t ht hW => ⟨⟨v1900, (), rfl, hpost, by rw [ht]; exact hI, hN.warm hW, va_K.moved hW.alike hK⟩, hS.F ht⟩) hS.2.2 dX6_tellStrikes_53
        · skip
          have k1911 := iv_nle (X := (96)) (Y := v1899.toInt) (by decide) rfl c1909
          refine lv_aload_n hx hb dX6_tellStrikes_23 rfl (lv_at hl 2 rfl) ?_
          obtain ⟨a1912, a1914, a1916, a1918, a1920, a1922, a1924, a1926, a1928, a1930, w1932, w1935, w1936, w1937, hO, hq1913, hq1915, hq1917, hq1919, hq1921, hq1923, hq1925, hq1927, hq1929, hq1931, ⟨k1933, k1934⟩, k1938⟩ := op_6 hI hG0 List.not_mem_nil
          have hI := th_I.weak (a := h0) hI
          refine th_get hx hb hts inT6 hown hK hO rfl 1 (by decide) (hts _ (tb_c wd_59)) rfl rfl dX6_tellStrikes_24 ?_
          refine lv_iload hx hb dX6_tellStrikes_27 (lv_at hl 0 rfl) ?_
          obtain ⟨_, hA1939⟩ := op_0 hI hq1915 (th_ne hG0 hq1915 (show (6 : Nat) ≠ 0 by decide))
          refine th_iald hx hb hK hA1939 0 rfl (iv_in (X := v1899.toInt) rfl (by omega) (by omega)) dX6_tellStrikes_29 (fun v1940 _ => ?_)
          refine lv_iload_n hx hb dX6_tellStrikes_30 rfl (lv_at hl 5 rfl) ?_
          have k1941 := iv_lo v1940
          have k1942 := iv_hi v1940
          have k1943 := iv_lo x3
          have k1944 := iv_hi x3
          refine lv_icmp_eq (tgt := 45) hx hb dX6_tellStrikes_31 (by decide) (fun c1945 => ?_) (fun c1945 => ?_)
          · skip
            have k1946 := iv_eq (X := v1940.toInt) (Y := x3.toInt) rfl rfl c1945
            obtain ⟨v1947, e1948⟩ : ∃ y : Int32, y = v1899 + (1) := ⟨_, rfl⟩
            have tv1947 : v1947.toInt = v1899.toInt + (1) := iv_add rfl (by decide) e1948 (by omega) (by omega)
            refine lv_iinc (v := v1947) (lv' := [(5, .int v1947), (4, .int v1900), (0, .ref h0), (1, .int x1), (2, .int x2), (3, .int x3)]) hx hb dX6_tellStrikes_45 hl (k := 0) rfl (by rw [e1948]; rfl) (by decide) rfl (fun ls hl => ?_)
            refine lv_goto (tgt := 10) hx hb dX6_tellStrikes_48 (by decide) ?_
            have hI := th_I.close hI hG0 hO (ok_6 hq1913 hq1915 hq1917 hq1919 hq1921 hq1923 hq1925 hq1927 hq1929 hq1931 ⟨by omega, by omega⟩ k1938)
            exact ih_10 _ (by omega) H locs ls v1947 v1900 rfl (lv_sub hl [0, 1, 2, 3, 4, 5] rfl) (by omega) hI hS
          · skip
            have k1949 := iv_ne (X := v1940.toInt) (Y := x3.toInt) rfl rfl c1945
            refine lv_aload_n hx hb dX6_tellStrikes_34 rfl (lv_at hl 2 rfl) ?_
            refine th_get hx hb hts inT6 hown hK hO rfl 1 (by decide) (hts _ (tb_c wd_59)) rfl rfl dX6_tellStrikes_35 ?_
            refine lv_iload hx hb dX6_tellStrikes_38 (lv_at hl 0 rfl) ?_
            refine lv_iload_n hx hb dX6_tellStrikes_40 rfl (lv_at hl 5 rfl) ?_
            obtain ⟨_, hA1950⟩ := op_0 hI hq1915 (th_ne hG0 hq1915 (show (6 : Nat) ≠ 0 by decide))
            refine th_iast hx hb hK hA1950 0 rfl hS ⟨_, hq1915⟩ (iv_in (X := v1899.toInt) rfl (by omega) (by omega)) dX6_tellStrikes_41 (fun H locs hA1950 oq hS => ?_)
            have hI := th_I.put hI hq1915 hA1950 ok_0 oq
            have hO := hO.kept (oq _ (fun z => th_ne hG0 hq1915 (show (6 : Nat) ≠ 0 by decide) (List.mem_singleton.mpr z.symm)))
            obtain ⟨v1951, e1952⟩ : ∃ y : Int32, y = v1900 + (1) := ⟨_, rfl⟩
            have k1953 := iv_lo v1900
            have k1954 := iv_hi v1900
            refine lv_iinc (v := v1951) (lv' := [(4, .int v1951), (5, .int v1899), (0, .ref h0), (1, .int x1), (2, .int x2), (3, .int x3)]) hx hb dX6_tellStrikes_42 hl (k := 1) rfl (by rw [e1952]; rfl) (by decide) rfl (fun ls hl => ?_)
            obtain ⟨v1955, e1956⟩ : ∃ y : Int32, y = v1899 + (1) := ⟨_, rfl⟩
            have tv1955 : v1955.toInt = v1899.toInt + (1) := iv_add rfl (by decide) e1956 (by omega) (by omega)
            refine lv_iinc (v := v1955) (lv' := [(5, .int v1955), (4, .int v1951), (0, .ref h0), (1, .int x1), (2, .int x2), (3, .int x3)]) hx hb dX6_tellStrikes_45 hl (k := 1) rfl (by rw [e1956]; rfl) (by decide) rfl (fun ls hl => ?_)
            refine lv_goto (tgt := 10) hx hb dX6_tellStrikes_48 (by decide) ?_
            have hI := th_I.close hI hG0 hO (ok_6 hq1913 hq1915 hq1917 hq1919 hq1921 hq1923 hq1925 hq1927 hq1929 hq1931 ⟨by omega, by omega⟩ k1938)
            exact ih_10 _ (by omega) H locs ls v1955 v1951 rfl (lv_sub hl [0, 1, 2, 3, 4, 5] rfl) (by omega) hI hS
  refine lv_iconst (v := 0) hx hb dX6_tellStrikes_0 (by decide) ?_
  refine lv_istore (lv' := [(4, .int 0), (0, .ref h0), (1, .int x1), (2, .int x2), (3, .int x3)]) hx hb dX6_tellStrikes_1 hl (by decide) rfl (fun ls hl => ?_)
  refine lv_iload_n hx hb dX6_tellStrikes_3 rfl (lv_at hl 2 rfl) ?_
  refine lv_iconst (v := 0) hx hb dX6_tellStrikes_4 (by decide) ?_
  refine va_mmax hx hb (hml.trans hl.1.symm) hown (hts _ (tb_c wd_476)) (hts _ (tb_c wd_43)) (hts _ (tb_c wd_4)) (hts _ (tb_c wd_44)) (by rw [hR]; exact Nat.le_of_ble_eq_true rfl) (by rw [hR]; exact Nat.le_of_ble_eq_true rfl) (Nat.zero_le _) (Nat.zero_le _) dX6_tellStrikes_5 ?_
  refine lv_topi (fun v1957 e1958 => ?_)
  have tv1957 := iv_max e1958
  rw [show (0 : Int32).toInt = 0 from by decide] at tv1957
  refine lv_istore (lv' := [(5, .int v1957), (4, .int 0), (0, .ref h0), (1, .int x1), (2, .int x2), (3, .int x3)]) hx hb dX6_tellStrikes_8 hl (by decide) rfl (fun ls hl => ?_)
  exact J_10 _ s.heap [] ls v1957 0 rfl (lv_sub hl [0, 1, 2, 3, 4, 5] rfl) (by omega) hI hS
theorem dX6_countStrikes_0g : (decode cX6_countStrikes 0 = .ok (.iconst 0, 1)) ∧ (decode cX6_countStrikes 1 = .ok (.istore_n 1, 1)) ∧ (decode cX6_countStrikes 2 = .ok (.aload_n 0, 1)) ∧ (decode cX6_countStrikes 3 = .ok (.getfield 15, 3)) ∧ (decode cX6_countStrikes 6 = .ok (.astore_n 2, 1)) ∧ (decode cX6_countStrikes 7 = .ok (.aload_n 2, 1)) ∧ (decode cX6_countStrikes 8 = .ok (.arraylength, 1)) ∧ (decode cX6_countStrikes 9 = .ok (.istore_n 3, 1)) ∧ (decode cX6_countStrikes 10 = .ok (.iconst 0, 1)) ∧ (decode cX6_countStrikes 11 = .ok (.istore 4, 2)) := by decide +kernel
theorem dX6_countStrikes_0 : decode cX6_countStrikes 0 = .ok (.iconst 0, 1) := dX6_countStrikes_0g.1
theorem dX6_countStrikes_1 : decode cX6_countStrikes 1 = .ok (.istore_n 1, 1) := dX6_countStrikes_0g.2.1
theorem dX6_countStrikes_2 : decode cX6_countStrikes 2 = .ok (.aload_n 0, 1) := dX6_countStrikes_0g.2.2.1
theorem dX6_countStrikes_3 : decode cX6_countStrikes 3 = .ok (.getfield 15, 3) := dX6_countStrikes_0g.2.2.2.1
theorem dX6_countStrikes_6 : decode cX6_countStrikes 6 = .ok (.astore_n 2, 1) := dX6_countStrikes_0g.2.2.2.2.1
theorem dX6_countStrikes_7 : decode cX6_countStrikes 7 = .ok (.aload_n 2, 1) := dX6_countStrikes_0g.2.2.2.2.2.1
theorem dX6_countStrikes_8 : decode cX6_countStrikes 8 = .ok (.arraylength, 1) := dX6_countStrikes_0g.2.2.2.2.2.2.1
theorem dX6_countStrikes_9 : decode cX6_countStrikes 9 = .ok (.istore_n 3, 1) := dX6_countStrikes_0g.2.2.2.2.2.2.2.1
theorem dX6_countStrikes_10 : decode cX6_countStrikes 10 = .ok (.iconst 0, 1) := dX6_countStrikes_0g.2.2.2.2.2.2.2.2.1
theorem dX6_countStrikes_11 : decode cX6_countStrikes 11 = .ok (.istore 4, 2) := dX6_countStrikes_0g.2.2.2.2.2.2.2.2.2
theorem dX6_countStrikes_13g : (decode cX6_countStrikes 13 = .ok (.iload 4, 2)) ∧ (decode cX6_countStrikes 15 = .ok (.iload_n 3, 1)) ∧ (decode cX6_countStrikes 16 = .ok (.if_icmp .ge 20, 3)) ∧ (decode cX6_countStrikes 19 = .ok (.aload_n 2, 1)) ∧ (decode cX6_countStrikes 20 = .ok (.iload 4, 2)) ∧ (decode cX6_countStrikes 22 = .ok (.iaload, 1)) ∧ (decode cX6_countStrikes 23 = .ok (.istore 5, 2)) ∧ (decode cX6_countStrikes 25 = .ok (.iload_n 1, 1)) ∧ (decode cX6_countStrikes 26 = .ok (.iload 5, 2)) ∧ (decode cX6_countStrikes 28 = .ok (.iadd, 1)) := by decide +kernel
theorem dX6_countStrikes_13 : decode cX6_countStrikes 13 = .ok (.iload 4, 2) := dX6_countStrikes_13g.1
theorem dX6_countStrikes_15 : decode cX6_countStrikes 15 = .ok (.iload_n 3, 1) := dX6_countStrikes_13g.2.1
theorem dX6_countStrikes_16 : decode cX6_countStrikes 16 = .ok (.if_icmp .ge 20, 3) := dX6_countStrikes_13g.2.2.1
theorem dX6_countStrikes_19 : decode cX6_countStrikes 19 = .ok (.aload_n 2, 1) := dX6_countStrikes_13g.2.2.2.1
theorem dX6_countStrikes_20 : decode cX6_countStrikes 20 = .ok (.iload 4, 2) := dX6_countStrikes_13g.2.2.2.2.1
theorem dX6_countStrikes_22 : decode cX6_countStrikes 22 = .ok (.iaload, 1) := dX6_countStrikes_13g.2.2.2.2.2.1
theorem dX6_countStrikes_23 : decode cX6_countStrikes 23 = .ok (.istore 5, 2) := dX6_countStrikes_13g.2.2.2.2.2.2.1
theorem dX6_countStrikes_25 : decode cX6_countStrikes 25 = .ok (.iload_n 1, 1) := dX6_countStrikes_13g.2.2.2.2.2.2.2.1
theorem dX6_countStrikes_26 : decode cX6_countStrikes 26 = .ok (.iload 5, 2) := dX6_countStrikes_13g.2.2.2.2.2.2.2.2.1
theorem dX6_countStrikes_28 : decode cX6_countStrikes 28 = .ok (.iadd, 1) := dX6_countStrikes_13g.2.2.2.2.2.2.2.2.2
theorem dX6_countStrikes_29g : (decode cX6_countStrikes 29 = .ok (.istore_n 1, 1)) ∧ (decode cX6_countStrikes 30 = .ok (.iinc 4 1, 3)) ∧ (decode cX6_countStrikes 33 = .ok (.goto (-20), 3)) ∧ (decode cX6_countStrikes 36 = .ok (.iload_n 1, 1)) ∧ (decode cX6_countStrikes 37 = .ok (.ireturn, 1)) := by decide +kernel
theorem dX6_countStrikes_29 : decode cX6_countStrikes 29 = .ok (.istore_n 1, 1) := dX6_countStrikes_29g.1
theorem dX6_countStrikes_30 : decode cX6_countStrikes 30 = .ok (.iinc 4 1, 3) := dX6_countStrikes_29g.2.1
theorem dX6_countStrikes_33 : decode cX6_countStrikes 33 = .ok (.goto (-20), 3) := dX6_countStrikes_29g.2.2.1
theorem dX6_countStrikes_36 : decode cX6_countStrikes 36 = .ok (.iload_n 1, 1) := dX6_countStrikes_29g.2.2.2.1
theorem dX6_countStrikes_37 : decode cX6_countStrikes 37 = .ok (.ireturn, 1) := dX6_countStrikes_29g.2.2.2.2
set_option maxHeartbeats 4000000 in
set_option maxRecDepth 100000 in
theorem c_X6_countStrikes (l : Launch) (E : Nat → Nat) (D : va_G) (G : th_G) (h0 : Nat) (hG0 : G h0 = some (6, 0)) : Met l yX6_countStrikes (tb (.code yX6_countStrikes cX6_countStrikes 6 (some .int))) (rm 0) (va_Pc [.ref h0] (th_P E D G)) (QI E D G (fun r => True)) 0 0 (th_A G) := by
  refine Met.ofW (cc := cX6_countStrikes) (maxL := 6) (ret := (some .int)) (by decide) rfl ?_
  intro p e s m args below meth c s₁ B hml hv
  obtain ⟨hav, hI, hN, hK⟩ := hv
  have hx := B.exec
  have hb := B.bytes
  have hr := B.returns
  have hts := atoms_spec (ws := tb (.code yX6_countStrikes cX6_countStrikes 6 (some .int))) B.pre
  have hown : s.vm.findClass RX6 = some m.cls := findClass_of_methodNamed B.named
  have hlocks := B.notSynchronized
  have hS : va_S (th_A G) s.heap s.heap [] := va_S.rf
  have hl := lv_entry ([.ref h0]) (n := 6) (Nat.le_of_ble_eq_true rfl)
  rw [show entryFrame m args 6 = entryFrame m ([.ref h0] : List Value).toArray 6 from by rw [hav], lg_entry_eq]
  generalize (lg_sl ([.ref h0]) ++ List.replicate (6 - (lg_sl ([.ref h0])).length) Slot.unset).toArray = ls at hl ⊢
  have hl : lv_has ls 6 [(0, .ref h0)] := hl
  generalize hR : (headSpec (tb (.code yX6_countStrikes cX6_countStrikes 6 (some .int))) (rm 0)).room = R
  have hR := hR.symm
  generalize hQ : MQ below (QI E D G (fun r => True)) args s 0 0 (th_A G) = QF
  have hQ := hQ.symm
  have J_13 : ∀ (nn : Nat) (H : Heap) (locs : List Loc) (ls : Array Slot) (v1029 : Int32) (a1030 : Nat) (v1031 : Int32), (Int.toNat (96 - v1029.toInt) = nn) → lv_has ls 6 [(4, .int v1029), (3, .int 96), (2, .ref a1030), (1, .int v1031), (0, .ref h0)] → ((0 : Int) ≤ v1029.toInt ∧ v1029.toInt ≤ 96) → G a1030 = some (0, 96) → th_I (okC E) D G [] H → va_S (th_A G) s.heap H locs → W p l e R s m args below meth c H locs 0 0 QF (F0 m 13 ls []) := by
    intro nn
    induction nn using Nat.strongRecOn with
    | ind nn ih_13 =>
      intro H locs ls v1029 a1030 v1031 hm hl k1032 ha1030 hI hS
      refine lv_iload hx hb dX6_countStrikes_13 (lv_at hl 0 rfl) ?_
      refine lv_iload_n hx hb dX6_countStrikes_15 rfl (lv_at hl 1 rfl) ?_
      refine lv_icmp_ge (tgt := 36) hx hb dX6_countStrikes_16 (by decide) (fun c1033 => ?_) (fun c1033 => ?_)
      · skip
        have k1034 := iv_le (X := (96)) (Y := v1029.toInt) (by decide) rfl c1033
        refine lv_iload_n hx hb dX6_countStrikes_36 rfl (lv_at hl 3 rfl) ?_
        have hpost : True := trivial
        rw [hQ]
        exact W.iret (v := v1031) hx hb hr (fun t ht hW => ⟨⟨v1031, (), rfl, hpost, by rw [ht]; exact hI, hN.warm hW, va_K.moved hW.alike hK⟩, hS.F ht⟩) hS.2.2 dX6_countStrikes_37
      · skip
        have k1035 := iv_nle (X := (96)) (Y := v1029.toInt) (by decide) rfl c1033
        refine lv_aload_n hx hb dX6_countStrikes_19 rfl (lv_at hl 2 rfl) ?_
        refine lv_iload hx hb dX6_countStrikes_20 (lv_at hl 0 rfl) ?_
        obtain ⟨_, hA1036⟩ := op_0 hI ha1030 List.not_mem_nil
        refine th_iald hx hb hK hA1036 0 rfl (iv_in (X := v1029.toInt) rfl (by omega) (by omega)) dX6_countStrikes_22 (fun v1037 _ => ?_)
        refine lv_istore (lv' := [(5, .int v1037), (4, .int v1029), (3, .int 96), (2, .ref a1030), (1, .int v1031), (0, .ref h0)]) hx hb dX6_countStrikes_23 hl (by decide) rfl (fun ls hl => ?_)
        refine lv_iload_n hx hb dX6_countStrikes_25 rfl (lv_at hl 4 rfl) ?_
        refine lv_iload hx hb dX6_countStrikes_26 (lv_at hl 0 rfl) ?_
        refine lv_iadd hx hb dX6_countStrikes_28 ?_
        refine lv_topi (fun v1038 e1039 => ?_)
        try have tv1038 : v1038.toInt = v1031.toInt + v1037.toInt := iv_add rfl rfl e1039 (by omega) (by omega)
        refine lv_istore_n (lv' := [(1, .int v1038), (5, .int v1037), (4, .int v1029), (3, .int 96), (2, .ref a1030), (0, .ref h0)]) hx hb dX6_countStrikes_29 rfl hl (by decide) rfl (fun ls hl => ?_)
        obtain ⟨v1040, e1041⟩ : ∃ y : Int32, y = v1029 + (1) := ⟨_, rfl⟩
        have tv1040 : v1040.toInt = v1029.toInt + (1) := iv_add rfl (by decide) e1041 (by omega) (by omega)
        refine lv_iinc (v := v1040) (lv' := [(4, .int v1040), (1, .int v1038), (5, .int v1037), (3, .int 96), (2, .ref a1030), (0, .ref h0)]) hx hb dX6_countStrikes_30 hl (k := 2) rfl (by rw [e1041]; rfl) (by decide) rfl (fun ls hl => ?_)
        refine lv_goto (tgt := 13) hx hb dX6_countStrikes_33 (by decide) ?_
        exact ih_13 _ (by omega) H locs ls v1040 a1030 v1038 rfl (lv_sub hl [0, 3, 4, 1, 5] rfl) ⟨by omega, by omega⟩ ha1030 hI hS
  refine lv_iconst (v := 0) hx hb dX6_countStrikes_0 (by decide) ?_
  refine lv_istore_n (lv' := [(1, .int 0), (0, .ref h0)]) hx hb dX6_countStrikes_1 rfl hl (by decide) rfl (fun ls hl => ?_)
  refine lv_aload_n hx hb dX6_countStrikes_2 rfl (lv_at hl 1 rfl) ?_
  obtain ⟨a1042, a1044, a1046, a1048, a1050, a1052, a1054, a1056, a1058, a1060, w1062, w1065, w1066, w1067, hO, hq1043, hq1045, hq1047, hq1049, hq1051, hq1053, hq1055, hq1057, hq1059, hq1061, ⟨k1063, k1064⟩, k1068⟩ := op_6 hI hG0 List.not_mem_nil
  have hI := th_I.weak (a := h0) hI
  refine th_get hx hb hts inT6 hown hK hO rfl 1 (by decide) (hts _ (tb_c wd_59)) rfl rfl dX6_countStrikes_3 ?_
  refine lv_astore_n (lv' := [(2, .ref a1044), (1, .int 0), (0, .ref h0)]) hx hb dX6_countStrikes_6 rfl hl (by decide) rfl (fun ls hl => ?_)
  refine lv_aload_n hx hb dX6_countStrikes_7 rfl (lv_at hl 0 rfl) ?_
  obtain ⟨_, hA1069⟩ := op_0 hI hq1045 (th_ne hG0 hq1045 (show (6 : Nat) ≠ 0 by decide))
  refine va_alen hx hb hK (th_one hA1069) 0 0 rfl (v := 96) rfl (show Int32.ofNat 96 = (96 : Int32) from by decide) dX6_countStrikes_8 ?_
  refine lv_istore_n (lv' := [(3, .int 96), (2, .ref a1044), (1, .int 0), (0, .ref h0)]) hx hb dX6_countStrikes_9 rfl hl (by decide) rfl (fun ls hl => ?_)
  refine lv_iconst (v := 0) hx hb dX6_countStrikes_10 (by decide) ?_
  refine lv_istore (lv' := [(4, .int 0), (3, .int 96), (2, .ref a1044), (1, .int 0), (0, .ref h0)]) hx hb dX6_countStrikes_11 hl (by decide) rfl (fun ls hl => ?_)
  have hI := th_I.close hI hG0 hO (ok_6 hq1043 hq1045 hq1047 hq1049 hq1051 hq1053 hq1055 hq1057 hq1059 hq1061 ⟨by omega, by omega⟩ k1068)
  have zl : (0 : Int32).toInt = 0 := by decide
  exact J_13 _ s.heap [] ls 0 a1044 0 rfl (lv_sub hl [0, 1, 2, 3, 4] rfl) ⟨by decide, by decide⟩ hq1045 hI hS
theorem dX6_lawInForce_0g : (decode cX6_lawInForce 0 = .ok (.aload_n 0, 1)) ∧ (decode cX6_lawInForce 1 = .ok (.getfield 55, 3)) ∧ (decode cX6_lawInForce 4 = .ok (.ifCond .lt 35, 3)) ∧ (decode cX6_lawInForce 7 = .ok (.aload_n 0, 1)) ∧ (decode cX6_lawInForce 8 = .ok (.getfield 55, 3)) ∧ (decode cX6_lawInForce 11 = .ok (.aload_n 0, 1)) ∧ (decode cX6_lawInForce 12 = .ok (.getfield 51, 3)) ∧ (decode cX6_lawInForce 15 = .ok (.if_icmp .ge 24, 3)) ∧ (decode cX6_lawInForce 18 = .ok (.aload_n 0, 1)) ∧ (decode cX6_lawInForce 19 = .ok (.getfield 55, 3)) := by decide +kernel
theorem dX6_lawInForce_0 : decode cX6_lawInForce 0 = .ok (.aload_n 0, 1) := dX6_lawInForce_0g.1
theorem dX6_lawInForce_1 : decode cX6_lawInForce 1 = .ok (.getfield 55, 3) := dX6_lawInForce_0g.2.1
theorem dX6_lawInForce_4 : decode cX6_lawInForce 4 = .ok (.ifCond .lt 35, 3) := dX6_lawInForce_0g.2.2.1
theorem dX6_lawInForce_7 : decode cX6_lawInForce 7 = .ok (.aload_n 0, 1) := dX6_lawInForce_0g.2.2.2.1
theorem dX6_lawInForce_8 : decode cX6_lawInForce 8 = .ok (.getfield 55, 3) := dX6_lawInForce_0g.2.2.2.2.1
theorem dX6_lawInForce_11 : decode cX6_lawInForce 11 = .ok (.aload_n 0, 1) := dX6_lawInForce_0g.2.2.2.2.2.1
theorem dX6_lawInForce_12 : decode cX6_lawInForce 12 = .ok (.getfield 51, 3) := dX6_lawInForce_0g.2.2.2.2.2.2.1
theorem dX6_lawInForce_15 : decode cX6_lawInForce 15 = .ok (.if_icmp .ge 24, 3) := dX6_lawInForce_0g.2.2.2.2.2.2.2.1
theorem dX6_lawInForce_18 : decode cX6_lawInForce 18 = .ok (.aload_n 0, 1) := dX6_lawInForce_0g.2.2.2.2.2.2.2.2.1
theorem dX6_lawInForce_19 : decode cX6_lawInForce 19 = .ok (.getfield 55, 3) := dX6_lawInForce_0g.2.2.2.2.2.2.2.2.2
theorem dX6_lawInForce_22g : (decode cX6_lawInForce 22 = .ok (.bipush 6, 2)) ∧ (decode cX6_lawInForce 24 = .ok (.if_icmp .ge 15, 3)) ∧ (decode cX6_lawInForce 27 = .ok (.aload_n 0, 1)) ∧ (decode cX6_lawInForce 28 = .ok (.getfield 47, 3)) ∧ (decode cX6_lawInForce 31 = .ok (.aload_n 0, 1)) ∧ (decode cX6_lawInForce 32 = .ok (.getfield 55, 3)) ∧ (decode cX6_lawInForce 35 = .ok (.aaload, 1)) ∧ (decode cX6_lawInForce 36 = .ok (.goto 4, 3)) ∧ (decode cX6_lawInForce 39 = .ok (.aconst_null, 1)) ∧ (decode cX6_lawInForce 40 = .ok (.areturn, 1)) := by decide +kernel
theorem dX6_lawInForce_22 : decode cX6_lawInForce 22 = .ok (.bipush 6, 2) := dX6_lawInForce_22g.1
theorem dX6_lawInForce_24 : decode cX6_lawInForce 24 = .ok (.if_icmp .ge 15, 3) := dX6_lawInForce_22g.2.1
theorem dX6_lawInForce_27 : decode cX6_lawInForce 27 = .ok (.aload_n 0, 1) := dX6_lawInForce_22g.2.2.1
theorem dX6_lawInForce_28 : decode cX6_lawInForce 28 = .ok (.getfield 47, 3) := dX6_lawInForce_22g.2.2.2.1
theorem dX6_lawInForce_31 : decode cX6_lawInForce 31 = .ok (.aload_n 0, 1) := dX6_lawInForce_22g.2.2.2.2.1
theorem dX6_lawInForce_32 : decode cX6_lawInForce 32 = .ok (.getfield 55, 3) := dX6_lawInForce_22g.2.2.2.2.2.1
theorem dX6_lawInForce_35 : decode cX6_lawInForce 35 = .ok (.aaload, 1) := dX6_lawInForce_22g.2.2.2.2.2.2.1
theorem dX6_lawInForce_36 : decode cX6_lawInForce 36 = .ok (.goto 4, 3) := dX6_lawInForce_22g.2.2.2.2.2.2.2.1
theorem dX6_lawInForce_39 : decode cX6_lawInForce 39 = .ok (.aconst_null, 1) := dX6_lawInForce_22g.2.2.2.2.2.2.2.2.1
theorem dX6_lawInForce_40 : decode cX6_lawInForce 40 = .ok (.areturn, 1) := dX6_lawInForce_22g.2.2.2.2.2.2.2.2.2
set_option maxHeartbeats 4000000 in
set_option maxRecDepth 100000 in
theorem c_X6_lawInForce (l : Launch) (E : Nat → Nat) (D : va_G) (G : th_G) (h0 : Nat) (hG0 : G h0 = some (6, 0)) : Met l yX6_lawInForce (tb (.code yX6_lawInForce cX6_lawInForce 1 (some (.object "NineRiver$Law")))) (rm 0) (va_Pc [.ref h0] (th_P E D G)) (QQ E D G (fun r => ∀ q, r = some q → ∃ m, G q = some (5, m))) 0 0 (th_A G) := by
  refine Met.ofW (cc := cX6_lawInForce) (maxL := 1) (ret := (some (.object "NineRiver$Law"))) (by decide) rfl ?_
  intro p e s m args below meth c s₁ B hml hv
  obtain ⟨hav, hI, hN, hK⟩ := hv
  have hx := B.exec
  have hb := B.bytes
  have hr := B.returns
  have hts := atoms_spec (ws := tb (.code yX6_lawInForce cX6_lawInForce 1 (some (.object "NineRiver$Law")))) B.pre
  have hown : s.vm.findClass RX6 = some m.cls := findClass_of_methodNamed B.named
  have hlocks := B.notSynchronized
  have hS : va_S (th_A G) s.heap s.heap [] := va_S.rf
  have hl := lv_entry ([.ref h0]) (n := 1) (Nat.le_of_ble_eq_true rfl)
  rw [show entryFrame m args 1 = entryFrame m ([.ref h0] : List Value).toArray 1 from by rw [hav], lg_entry_eq]
  generalize (lg_sl ([.ref h0]) ++ List.replicate (1 - (lg_sl ([.ref h0])).length) Slot.unset).toArray = ls at hl ⊢
  have hl : lv_has ls 1 [(0, .ref h0)] := hl
  generalize hR : (headSpec (tb (.code yX6_lawInForce cX6_lawInForce 1 (some (.object "NineRiver$Law")))) (rm 0)).room = R
  have hR := hR.symm
  generalize hQ : MQ below (QQ E D G (fun r => ∀ q, r = some q → ∃ m, G q = some (5, m))) args s 0 0 (th_A G) = QF
  have hQ := hQ.symm
  refine lv_aload_n hx hb dX6_lawInForce_0 rfl (lv_at hl 0 rfl) ?_
  obtain ⟨a1, a3, a5, a7, a9, a11, a13, a15, a17, a19, w21, w24, w25, w26, hO, hq2, hq4, hq6, hq8, hq10, hq12, hq14, hq16, hq18, hq20, ⟨k22, k23⟩, k27⟩ := op_6 hI hG0 List.not_mem_nil
  have hI := th_I.weak (a := h0) hI
  refine th_get hx hb hts inT6 hown hK hO rfl 11 (by decide) (hts _ (tb_c wd_84)) rfl rfl dX6_lawInForce_1 ?_
  have k28 := iv_lo w24
  have k29 := iv_hi w24
  refine lv_if_lt (tgt := 39) hx hb dX6_lawInForce_4 (by decide) (fun c30 => ?_) (fun c30 => ?_)
  · skip
    have k31 := iv_lt (X := w24.toInt) (Y := (0)) rfl (by decide) c30
    refine lv_null hx hb dX6_lawInForce_39 ?_
    have hI := th_I.close hI hG0 hO (ok_6 hq2 hq4 hq6 hq8 hq10 hq12 hq14 hq16 hq18 hq20 ⟨by omega, by omega⟩ k27)
    rw [hQ]
    exact th_aretq hx hb hr (r := none) (fun t ht hW => ⟨⟨none, (), rfl, (fun _ h => by cases h), by rw [ht]; exact hI, hN.warm hW, va_K.moved hW.alike hK⟩, hS.F ht⟩) hS.2.2 dX6_lawInForce_40 hlocks
  · skip
    have k32 := iv_nlt (X := w24.toInt) (Y := (0)) rfl (by decide) c30
    refine lv_aload_n hx hb dX6_lawInForce_7 rfl (lv_at hl 0 rfl) ?_
    refine th_get hx hb hts inT6 hown hK hO rfl 11 (by decide) (hts _ (tb_c wd_84)) rfl rfl dX6_lawInForce_8 ?_
    refine lv_aload_n hx hb dX6_lawInForce_11 rfl (lv_at hl 0 rfl) ?_
    refine th_get hx hb hts inT6 hown hK hO rfl 10 (by decide) (hts _ (tb_c wd_82)) rfl rfl dX6_lawInForce_12 ?_
    refine lv_icmp_ge (tgt := 39) hx hb dX6_lawInForce_15 (by decide) (fun c33 => ?_) (fun c33 => ?_)
    · skip
      have k34 := iv_le (X := w21.toInt) (Y := w24.toInt) rfl rfl c33
      refine lv_null hx hb dX6_lawInForce_39 ?_
      have hI := th_I.close hI hG0 hO (ok_6 hq2 hq4 hq6 hq8 hq10 hq12 hq14 hq16 hq18 hq20 ⟨by omega, by omega⟩ k27)
      rw [hQ]
      exact th_aretq hx hb hr (r := none) (fun t ht hW => ⟨⟨none, (), rfl, (fun _ h => by cases h), by rw [ht]; exact hI, hN.warm hW, va_K.moved hW.alike hK⟩, hS.F ht⟩) hS.2.2 dX6_lawInForce_40 hlocks
    · skip
      have k35 := iv_nle (X := w21.toInt) (Y := w24.toInt) rfl rfl c33
      refine lv_aload_n hx hb dX6_lawInForce_18 rfl (lv_at hl 0 rfl) ?_
      refine th_get hx hb hts inT6 hown hK hO rfl 11 (by decide) (hts _ (tb_c wd_84)) rfl rfl dX6_lawInForce_19 ?_
      refine lv_bipush (v := 6) hx hb dX6_lawInForce_22 (by decide) ?_
      refine lv_icmp_ge (tgt := 39) hx hb dX6_lawInForce_24 (by decide) (fun c36 => ?_) (fun c36 => ?_)
      · skip
        have k37 := iv_le (X := (6)) (Y := w24.toInt) (by decide) rfl c36
        exfalso; omega
      · skip
        have k38 := iv_nle (X := (6)) (Y := w24.toInt) (by decide) rfl c36
        refine lv_aload_n hx hb dX6_lawInForce_27 rfl (lv_at hl 0 rfl) ?_
        refine th_get hx hb hts inT6 hown hK hO rfl 9 (by decide) (hts _ (tb_c wd_81)) rfl rfl dX6_lawInForce_28 ?_
        refine lv_aload_n hx hb dX6_lawInForce_31 rfl (lv_at hl 0 rfl) ?_
        refine th_get hx hb hts inT6 hown hK hO rfl 11 (by decide) (hts _ (tb_c wd_84)) rfl rfl dX6_lawInForce_32 ?_
        obtain ⟨g40, hA39, hg41⟩ := op_2 hI hq20 (th_ne hG0 hq20 (show (6 : Nat) ≠ 2 by decide))
        refine va_aldq hx hb hK (th_one hA39) 0 4 rfl rfl (iv_in (X := w24.toInt) rfl (by omega) (by omega)) dX6_lawInForce_35 ?_
        obtain ⟨r42, e43⟩ : ∃ r, r = g40 w24.toNatClampNeg := ⟨_, rfl⟩
        rw [← e43]
        obtain _ | a44 := r42
        · skip
          refine lv_goto (tgt := 40) hx hb dX6_lawInForce_36 (by decide) ?_
          have hI := th_I.close hI hG0 hO (ok_6 hq2 hq4 hq6 hq8 hq10 hq12 hq14 hq16 hq18 hq20 ⟨by omega, by omega⟩ k27)
          rw [hQ]
          exact th_aretq hx hb hr (r := none) (fun t ht hW => ⟨⟨none, (), rfl, (fun _ h => by cases h), by rw [ht]; exact hI, hN.warm hW, va_K.moved hW.alike hK⟩, hS.F ht⟩) hS.2.2 dX6_lawInForce_40 hlocks
        · skip
          obtain ⟨m46, hq45⟩ := hg41 _ _ (th_cl (X := w24.toInt) rfl (by omega) (by omega)) e43.symm
          refine lv_goto (tgt := 40) hx hb dX6_lawInForce_36 (by decide) ?_
          have hI := th_I.close hI hG0 hO (ok_6 hq2 hq4 hq6 hq8 hq10 hq12 hq14 hq16 hq18 hq20 ⟨by omega, by omega⟩ k27)
          rw [hQ]
          exact th_aretq hx hb hr (r := (some a44)) (fun t ht hW => ⟨⟨(some a44), (), rfl, (fun _ h => by cases h; exact ⟨_, hq45⟩), by rw [ht]; exact hI, hN.warm hW, va_K.moved hW.alike hK⟩, hS.F ht⟩) hS.2.2 dX6_lawInForce_40 hlocks
