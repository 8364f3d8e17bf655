theorem wd_1202 : (Cond.methodLink RX11 (342 : Nat) yX6_copyFrom) ∈ TB := tw 1202 (by decide +kernel) (by decide +kernel)
theorem wd_1203 : (Jvm.Cond.instanceMethod yX6_copyFrom) ∈ TB := tw 1203 (by decide +kernel) (by decide +kernel)
theorem wd_1204 : (Cond.selects RX6 yX6_copyFrom yX6_copyFrom) ∈ TB := tw 1204 (by decide +kernel) (by decide +kernel)
theorem wd_1205 : (Cond.code yX6_copyFrom cX6_copyFrom 3 (Option.none : Option Jvm.ClassFile.FieldType)) ∈ TB := tw 1205 (by decide +kernel) (by decide +kernel)
theorem wd_346 : (Cond.fieldLink RX11 (16 : Nat) "NineRiver" "images" "[LNineRiver$State;") ∈ TB := tw 346 (by decide +kernel) (by decide +kernel)
theorem dX11_back_0g : (decode cX11_back 0 = .ok (.iload_n 1, 1)) ∧ (decode cX11_back 1 = .ok (.ifCond .lt 8, 3)) ∧ (decode cX11_back 4 = .ok (.iload_n 1, 1)) ∧ (decode cX11_back 5 = .ok (.iconst 2, 1)) ∧ (decode cX11_back 6 = .ok (.if_icmp .lt 9, 3)) ∧ (decode cX11_back 9 = .ok (.aload_n 0, 1)) ∧ (decode cX11_back 10 = .ok (.iconst (-1), 1)) ∧ (decode cX11_back 11 = .ok (.invokevirtual 113, 3)) ∧ (decode cX11_back 14 = .ok (.ireturn, 1)) ∧ (decode cX11_back 15 = .ok (.aload_n 0, 1)) := by decide +kernel
theorem dX11_back_0 : decode cX11_back 0 = .ok (.iload_n 1, 1) := dX11_back_0g.1
theorem dX11_back_1 : decode cX11_back 1 = .ok (.ifCond .lt 8, 3) := dX11_back_0g.2.1
theorem dX11_back_4 : decode cX11_back 4 = .ok (.iload_n 1, 1) := dX11_back_0g.2.2.1
theorem dX11_back_5 : decode cX11_back 5 = .ok (.iconst 2, 1) := dX11_back_0g.2.2.2.1
theorem dX11_back_6 : decode cX11_back 6 = .ok (.if_icmp .lt 9, 3) := dX11_back_0g.2.2.2.2.1
theorem dX11_back_9 : decode cX11_back 9 = .ok (.aload_n 0, 1) := dX11_back_0g.2.2.2.2.2.1
theorem dX11_back_10 : decode cX11_back 10 = .ok (.iconst (-1), 1) := dX11_back_0g.2.2.2.2.2.2.1
theorem dX11_back_11 : decode cX11_back 11 = .ok (.invokevirtual 113, 3) := dX11_back_0g.2.2.2.2.2.2.2.1
theorem dX11_back_14 : decode cX11_back 14 = .ok (.ireturn, 1) := dX11_back_0g.2.2.2.2.2.2.2.2.1
theorem dX11_back_15 : decode cX11_back 15 = .ok (.aload_n 0, 1) := dX11_back_0g.2.2.2.2.2.2.2.2.2
theorem dX11_back_16g : (decode cX11_back 16 = .ok (.getfield 16, 3)) ∧ (decode cX11_back 19 = .ok (.iload_n 1, 1)) ∧ (decode cX11_back 20 = .ok (.aaload, 1)) ∧ (decode cX11_back 21 = .ok (.astore_n 2, 1)) ∧ (decode cX11_back 22 = .ok (.aload_n 2, 1)) ∧ (decode cX11_back 23 = .ok (.ifnonnull 10, 3)) ∧ (decode cX11_back 26 = .ok (.aload_n 0, 1)) ∧ (decode cX11_back 27 = .ok (.bipush (-2), 2)) ∧ (decode cX11_back 29 = .ok (.invokevirtual 113, 3)) ∧ (decode cX11_back 32 = .ok (.ireturn, 1)) := by decide +kernel
theorem dX11_back_16 : decode cX11_back 16 = .ok (.getfield 16, 3) := dX11_back_16g.1
theorem dX11_back_19 : decode cX11_back 19 = .ok (.iload_n 1, 1) := dX11_back_16g.2.1
theorem dX11_back_20 : decode cX11_back 20 = .ok (.aaload, 1) := dX11_back_16g.2.2.1
theorem dX11_back_21 : decode cX11_back 21 = .ok (.astore_n 2, 1) := dX11_back_16g.2.2.2.1
theorem dX11_back_22 : decode cX11_back 22 = .ok (.aload_n 2, 1) := dX11_back_16g.2.2.2.2.1
theorem dX11_back_23 : decode cX11_back 23 = .ok (.ifnonnull 10, 3) := dX11_back_16g.2.2.2.2.2.1
theorem dX11_back_26 : decode cX11_back 26 = .ok (.aload_n 0, 1) := dX11_back_16g.2.2.2.2.2.2.1
theorem dX11_back_27 : decode cX11_back 27 = .ok (.bipush (-2), 2) := dX11_back_16g.2.2.2.2.2.2.2.1
theorem dX11_back_29 : decode cX11_back 29 = .ok (.invokevirtual 113, 3) := dX11_back_16g.2.2.2.2.2.2.2.2.1
theorem dX11_back_32 : decode cX11_back 32 = .ok (.ireturn, 1) := dX11_back_16g.2.2.2.2.2.2.2.2.2
theorem dX11_back_33g : (decode cX11_back 33 = .ok (.aload_n 0, 1)) ∧ (decode cX11_back 34 = .ok (.getfield 12, 3)) ∧ (decode cX11_back 37 = .ok (.aload_n 2, 1)) ∧ (decode cX11_back 38 = .ok (.invokevirtual 342, 3)) ∧ (decode cX11_back 41 = .ok (.aload_n 0, 1)) ∧ (decode cX11_back 42 = .ok (.invokevirtual 124, 3)) ∧ (decode cX11_back 45 = .ok (.aload_n 0, 1)) ∧ (decode cX11_back 46 = .ok (.iconst 0, 1)) ∧ (decode cX11_back 47 = .ok (.invokevirtual 127, 3)) ∧ (decode cX11_back 50 = .ok (.ireturn, 1)) := by decide +kernel
theorem dX11_back_33 : decode cX11_back 33 = .ok (.aload_n 0, 1) := dX11_back_33g.1
theorem dX11_back_34 : decode cX11_back 34 = .ok (.getfield 12, 3) := dX11_back_33g.2.1
theorem dX11_back_37 : decode cX11_back 37 = .ok (.aload_n 2, 1) := dX11_back_33g.2.2.1
theorem dX11_back_38 : decode cX11_back 38 = .ok (.invokevirtual 342, 3) := dX11_back_33g.2.2.2.1
theorem dX11_back_41 : decode cX11_back 41 = .ok (.aload_n 0, 1) := dX11_back_33g.2.2.2.2.1
theorem dX11_back_42 : decode cX11_back 42 = .ok (.invokevirtual 124, 3) := dX11_back_33g.2.2.2.2.2.1
theorem dX11_back_45 : decode cX11_back 45 = .ok (.aload_n 0, 1) := dX11_back_33g.2.2.2.2.2.2.1
theorem dX11_back_46 : decode cX11_back 46 = .ok (.iconst 0, 1) := dX11_back_33g.2.2.2.2.2.2.2.1
theorem dX11_back_47 : decode cX11_back 47 = .ok (.invokevirtual 127, 3) := dX11_back_33g.2.2.2.2.2.2.2.2.1
theorem dX11_back_50 : decode cX11_back 50 = .ok (.ireturn, 1) := dX11_back_33g.2.2.2.2.2.2.2.2.2
set_option maxHeartbeats 4000000 in
set_option maxRecDepth 100000 in
theorem c_X11_back (l : Launch) (E : Nat → Nat) (D : va_G) (G : th_G) (h0 n : Nat) (hG0 : G h0 = some (15, n)) (x1 : Int32) (sa : Nat) (e1 : E (1000 + 512 * h0) = sa + 1) (f0 : ∀ z : Nat, E (1000 + 512 * n) = z + 1 → z ≠ sa) (f1 : ∀ z : Nat, E (1001 + 512 * n) = z + 1 → z ≠ sa) : Met l yX11_back (tb (.code yX11_back cX11_back 3 (some .int))) (rm 3) (va_Pc [.ref h0, .int x1] (th_P E D G)) (QI (eu E (1000 + 512 * sa) (gBt E n sa x1)) D G (fun r => True)) 0 0 (th_A G) := by
  refine Met.ofW (cc := cX11_back) (maxL := 3) (ret := (some .int)) (by decide) rfl ?_
  intro p e s m args below meth c s₁ B hml hv
  obtain ⟨hav, hI, hN, hK⟩ := hv
  have hx := B.exec
  have hb := B.bytes
  have hr := B.returns
  have hts := atoms_spec (ws := tb (.code yX11_back cX11_back 3 (some .int))) B.pre
  have hown : s.vm.findClass RX11 = some m.cls := findClass_of_methodNamed B.named
  have hlocks := B.notSynchronized
  have hS : va_S (th_A G) s.heap s.heap [] := va_S.rf
  have hl := lv_entry ([.ref h0, .int x1]) (n := 3) (Nat.le_of_ble_eq_true rfl)
  rw [show entryFrame m args 3 = entryFrame m ([.ref h0, .int x1] : List Value).toArray 3 from by rw [hav], lg_entry_eq]
  generalize (lg_sl ([.ref h0, .int x1]) ++ List.replicate (3 - (lg_sl ([.ref h0, .int x1])).length) Slot.unset).toArray = ls at hl ⊢
  have hl : lv_has ls 3 [(0, .ref h0), (1, .int x1)] := hl
  generalize hR : (headSpec (tb (.code yX11_back cX11_back 3 (some .int))) (rm 3)).room = R
  have hR := hR.symm
  generalize hQ : MQ below (QI (eu E (1000 + 512 * sa) (gBt E n sa x1)) D G (fun r => True)) args s 0 0 (th_A G) = QF
  have hQ := hQ.symm
  refine lv_iload_n hx hb dX11_back_0 rfl (lv_at hl 1 rfl) ?_
  have k1 := iv_lo x1
  have k2 := iv_hi x1
  refine lv_if_lt (tgt := 9) hx hb dX11_back_1 (by decide) (fun c3 => ?_) (fun c3 => ?_)
  · skip
    have k4 := iv_lt (X := x1.toInt) (Y := (0)) rfl (by decide) c3
    refine lv_aload_n hx hb dX11_back_9 rfl (lv_at hl 0 rfl) ?_
    refine lv_iconst (v := (-1)) hx hb dX11_back_10 (by decide) ?_
    refine th_cVi (As := [.int (-1)]) (rest := []) (n := 1) (d := 0) ⟨hx, hb, hml, hown, hts⟩ (c_X11_refuse l E D G h0 (n) hG0 (-1)) wd_407 wd_409 wp_0 wd_1 wd_410 (by decide +kernel) ⟨by rw [hR]; exact Nat.le_of_ble_eq_true rfl, by rw [hR]; exact Nat.le_of_ble_eq_true rfl⟩ hI hN hK hS (rc_15 hI hG0 List.not_mem_nil) rfl rfl hl.1 rfl (Nat.le_of_ble_eq_true rfl) dX11_back_11 ⟨Nat.zero_le _, Nat.zero_le _⟩ (fun r5 H locs hp hI hS => ?_)
    have hp := hp.symm
    subst hp
    have hEt : eu E (1000 + 512 * sa) (gBt E n sa x1) = E := eu_id (by unfold gBt; rw [if_neg (by omega), if_neg (by omega)])
    have hI : th_I (okC (eu E (1000 + 512 * sa) (gBt E n sa x1))) D G [] H := by rw [hEt]; exact hI
    have hK : va_K D vwCl (th_tys (eu E (1000 + 512 * sa) (gBt E n sa x1))) s := by rw [hEt]; exact hK
    have hpost : True := trivial
    rw [hQ]
    exact W.iret (v := (-1)) hx hb hr (fun t ht hW => ⟨⟨(-1), (), rfl, hpost, by rw [ht]; exact hI, hN.warm hW, va_K.moved hW.alike hK⟩, hS.F ht⟩) hS.2.2 dX11_back_14
  · skip
    have k6 := iv_nlt (X := x1.toInt) (Y := (0)) rfl (by decide) c3
    refine lv_iload_n hx hb dX11_back_4 rfl (lv_at hl 1 rfl) ?_
    refine lv_iconst (v := 2) hx hb dX11_back_5 (by decide) ?_
    refine lv_icmp_lt (tgt := 15) hx hb dX11_back_6 (by decide) (fun c7 => ?_) (fun c7 => ?_)
    · skip
      have k8 := iv_lt (X := x1.toInt) (Y := (2)) rfl (by decide) c7
      refine lv_aload_n hx hb dX11_back_15 rfl (lv_at hl 0 rfl) ?_
      obtain ⟨a9, a12, a14, a16, a18, a20, a22, a24, a26, a28, a30, w32, w35, w36, w37, w38, hO, hq10, hq11, hq13, hq15, hq17, hq19, hq21, hq23, hq25, hq27, hq29, hq31, ⟨k33, k34⟩, k39⟩ := op_15 hI hG0 List.not_mem_nil
      have hI := th_I.weak (a := h0) hI
      obtain rfl := eaU_q k39.1 e1
      refine th_get hx hb hts inT11 hown hK hO rfl 1 (by decide) (hts _ (tb_c wd_346)) rfl rfl dX11_back_16 ?_
      refine lv_iload_n hx hb dX11_back_19 rfl (lv_at hl 1 rfl) ?_
      obtain ⟨g44, hA43, hg45, hi0, hi1⟩ := op_3 hI hq11 (th_ne hG0 hq11 (show (15 : Nat) ≠ 3 by decide))
      refine va_aldq hx hb hK (th_one hA43) 0 5 rfl rfl (iv_in (X := x1.toInt) rfl (by omega) (by omega)) dX11_back_20 ?_
      rcases im_at (x := x1) (by omega) (by omega) with ⟨kx, zx⟩ | ⟨kx, zx⟩
      · rw [zx, hi0]
        rcases Nat.eq_zero_or_pos (E (1000 + 512 * n)) with hz | hz
        · rw [im_r0 hz]
          refine lv_astore_nN (lv' := [(2, .null), (0, .ref h0), (1, .int x1)]) hx hb dX11_back_21 rfl hl (by decide) rfl (fun ls hl => ?_)
          refine lv_aload_nN hx hb dX11_back_22 rfl (lv_at hl 0 rfl) ?_
          refine lv_ifnonnullN hx hb dX11_back_23 ?_
          refine lv_aload_n hx hb dX11_back_26 rfl (lv_at hl 1 rfl) ?_
          refine lv_bipush (v := (-2)) hx hb dX11_back_27 (by decide) ?_
          have hI := th_I.close hI hG0 hO (ok_15 hq10 hq11 hq13 hq15 hq17 hq19 hq21 hq23 hq25 hq27 hq29 hq31 ⟨by omega, by omega⟩ k39)
          refine th_cVi (As := [.int (-2)]) (rest := []) (n := 1) (d := 0) ⟨hx, hb, hml, hown, hts⟩ (c_X11_refuse l E D G h0 (n) hG0 (-2)) wd_407 wd_409 wp_0 wd_1 wd_410 (by decide +kernel) ⟨by rw [hR]; exact Nat.le_of_ble_eq_true rfl, by rw [hR]; exact Nat.le_of_ble_eq_true rfl⟩ hI hN hK hS (rc_15 hI hG0 List.not_mem_nil) rfl rfl hl.1 rfl (Nat.le_of_ble_eq_true rfl) dX11_back_29 ⟨Nat.zero_le _, Nat.zero_le _⟩ (fun r46 H locs hp hI hS => ?_)
          have hp := hp.symm
          subst hp
          have hEt : eu E (1000 + 512 * sa) (gBt E n sa x1) = E := eu_id (by unfold gBt; rw [if_neg (by omega), if_neg (by omega)])
          have hI : th_I (okC (eu E (1000 + 512 * sa) (gBt E n sa x1))) D G [] H := by rw [hEt]; exact hI
          have hK : va_K D vwCl (th_tys (eu E (1000 + 512 * sa) (gBt E n sa x1))) s := by rw [hEt]; exact hK
          have hpost : True := trivial
          rw [hQ]
          exact W.iret (v := (-2)) hx hb hr (fun t ht hW => ⟨⟨(-2), (), rfl, hpost, by rw [ht]; exact hI, hN.warm hW, va_K.moved hW.alike hK⟩, hS.F ht⟩) hS.2.2 dX11_back_32
        · obtain ⟨a47, e48⟩ : ∃ z : Nat, E (1000 + 512 * n) = z + 1 := ⟨E (1000 + 512 * n) - 1, by omega⟩
          have hq49 := hg45 0 _ (by decide) (hi0.trans (im_rs e48))
          rw [im_rs e48]
          refine lv_astore_n (lv' := [(2, .ref a47), (0, .ref h0), (1, .int x1)]) hx hb dX11_back_21 rfl hl (by decide) rfl (fun ls hl => ?_)
          refine lv_aload_n hx hb dX11_back_22 rfl (lv_at hl 0 rfl) ?_
          refine lv_ifnonnull (tgt := 33) hx hb dX11_back_23 (by decide) ?_
          refine lv_aload_n hx hb dX11_back_33 rfl (lv_at hl 1 rfl) ?_
          refine th_get hx hb hts inT11 hown hK hO rfl 0 (by decide) (hts _ (tb_c wd_345)) rfl rfl dX11_back_34 ?_
          refine lv_aload_n hx hb dX11_back_37 rfl (lv_at hl 0 rfl) ?_
          have hI := th_I.close hI hG0 hO (ok_15 hq10 hq11 hq13 hq15 hq17 hq19 hq21 hq23 hq25 hq27 hq29 hq31 ⟨by omega, by omega⟩ k39)
          refine th_cVvE (As := [.ref a47]) (rest := []) (n := 1) (d := 2) ⟨hx, hb, hml, hown, hts⟩ (c_X6_copyFrom l E D G sa hq10 a47 hq49 (f0 _ e48)) wd_1202 wd_1203 wd_1204 wd_2 wd_1205 (by decide +kernel) ⟨by rw [hR]; exact Nat.le_of_ble_eq_true rfl, by rw [hR]; exact Nat.le_of_ble_eq_true rfl⟩ hI hN hK (by rw [tys_eu (by omega)]; exact hK) hS (rc_6 hI hq10 List.not_mem_nil) rfl rfl hl.1 rfl (Nat.le_of_ble_eq_true rfl) dX11_back_38 ⟨Nat.zero_le _, Nat.zero_le _⟩ (fun H locs Eu51 hEu51 hI hK hS => ?_)
          refine lv_aload_n hx hb dX11_back_41 rfl (lv_at hl 1 rfl) ?_
          refine th_cVv (As := []) (rest := []) (n := 0) (d := 2) ⟨hx, hb, hml, hown, hts⟩ (c_X11_turnRiver l Eu51 D G h0 (n) hG0 ) wd_423 wd_425 wp_1 wd_1 wd_426 (by decide +kernel) ⟨by rw [hR]; exact Nat.le_of_ble_eq_true rfl, by rw [hR]; exact Nat.le_of_ble_eq_true rfl⟩ hI hN hK hS (rc_15 hI hG0 List.not_mem_nil) rfl rfl hl.1 rfl (Nat.le_of_ble_eq_true rfl) dX11_back_42 ⟨Nat.zero_le _, Nat.zero_le _⟩ (fun H locs hI hS => ?_)
          refine lv_aload_n hx hb dX11_back_45 rfl (lv_at hl 1 rfl) ?_
          refine lv_iconst (v := 0) hx hb dX11_back_46 (by decide) ?_
          refine th_cVi (As := [.int 0]) (rest := []) (n := 1) (d := 0) ⟨hx, hb, hml, hown, hts⟩ (c_X11_accept l Eu51 D G h0 (n) hG0 0) wd_447 wd_449 wp_3 wd_1 wd_450 (by decide +kernel) ⟨by rw [hR]; exact Nat.le_of_ble_eq_true rfl, by rw [hR]; exact Nat.le_of_ble_eq_true rfl⟩ hI hN hK hS (rc_15 hI hG0 List.not_mem_nil) rfl rfl hl.1 rfl (Nat.le_of_ble_eq_true rfl) dX11_back_47 ⟨Nat.zero_le _, Nat.zero_le _⟩ (fun r53 H locs hp hI hS => ?_)
          have hp := hp.symm
          subst hp
          have hEt : eu E (1000 + 512 * sa) (gBt E n sa x1) = Eu51 := (congrArg (fun z => eu E (1000 + 512 * sa) z) (show gBt E n sa x1 = _ from by first | (unfold gBt; rw [if_pos (by omega)]; exact congrArg E (by omega)) | (unfold gBt; rw [if_neg (by omega), if_pos (by omega)]; exact congrArg E (by omega)))).trans hEu51.symm
          rw [← hEt] at hI hK
          have hpost : True := trivial
          rw [hQ]
          exact W.iret (v := 0) hx hb hr (fun t ht hW => ⟨⟨0, (), rfl, hpost, by rw [ht]; exact hI, hN.warm hW, va_K.moved hW.alike hK⟩, hS.F ht⟩) hS.2.2 dX11_back_50
      · rw [zx, hi1]
        rcases Nat.eq_zero_or_pos (E (1001 + 512 * n)) with hz | hz
        · rw [im_r0 hz]
          refine lv_astore_nN (lv' := [(2, .null), (0, .ref h0), (1, .int x1)]) hx hb dX11_back_21 rfl hl (by decide) rfl (fun ls hl => ?_)
          refine lv_aload_nN hx hb dX11_back_22 rfl (lv_at hl 0 rfl) ?_
          refine lv_ifnonnullN hx hb dX11_back_23 ?_
          refine lv_aload_n hx hb dX11_back_26 rfl (lv_at hl 1 rfl) ?_
          refine lv_bipush (v := (-2)) hx hb dX11_back_27 (by decide) ?_
          have hI := th_I.close hI hG0 hO (ok_15 hq10 hq11 hq13 hq15 hq17 hq19 hq21 hq23 hq25 hq27 hq29 hq31 ⟨by omega, by omega⟩ k39)
          refine th_cVi (As := [.int (-2)]) (rest := []) (n := 1) (d := 0) ⟨hx, hb, hml, hown, hts⟩ (c_X11_refuse l E D G h0 (n) hG0 (-2)) wd_407 wd_409 wp_0 wd_1 wd_410 (by decide +kernel) ⟨by rw [hR]; exact Nat.le_of_ble_eq_true rfl, by rw [hR]; exact Nat.le_of_ble_eq_true rfl⟩ hI hN hK hS (rc_15 hI hG0 List.not_mem_nil) rfl rfl hl.1 rfl (Nat.le_of_ble_eq_true rfl) dX11_back_29 ⟨Nat.zero_le _, Nat.zero_le _⟩ (fun r54 H locs hp hI hS => ?_)
          have hp := hp.symm
          subst hp
          have hEt : eu E (1000 + 512 * sa) (gBt E n sa x1) = E := eu_id (by unfold gBt; rw [if_neg (by omega), if_neg (by omega)])
          have hI : th_I (okC (eu E (1000 + 512 * sa) (gBt E n sa x1))) D G [] H := by rw [hEt]; exact hI
          have hK : va_K D vwCl (th_tys (eu E (1000 + 512 * sa) (gBt E n sa x1))) s := by rw [hEt]; exact hK
          have hpost : True := trivial
          rw [hQ]
          exact W.iret (v := (-2)) hx hb hr (fun t ht hW => ⟨⟨(-2), (), rfl, hpost, by rw [ht]; exact hI, hN.warm hW, va_K.moved hW.alike hK⟩, hS.F ht⟩) hS.2.2 dX11_back_32
        · obtain ⟨a55, e56⟩ : ∃ z : Nat, E (1001 + 512 * n) = z + 1 := ⟨E (1001 + 512 * n) - 1, by omega⟩
          have hq57 := hg45 1 _ (by decide) (hi1.trans (im_rs e56))
          rw [im_rs e56]
          refine lv_astore_n (lv' := [(2, .ref a55), (0, .ref h0), (1, .int x1)]) hx hb dX11_back_21 rfl hl (by decide) rfl (fun ls hl => ?_)
          refine lv_aload_n hx hb dX11_back_22 rfl (lv_at hl 0 rfl) ?_
          refine lv_ifnonnull (tgt := 33) hx hb dX11_back_23 (by decide) ?_
          refine lv_aload_n hx hb dX11_back_33 rfl (lv_at hl 1 rfl) ?_
          refine th_get hx hb hts inT11 hown hK hO rfl 0 (by decide) (hts _ (tb_c wd_345)) rfl rfl dX11_back_34 ?_
          refine lv_aload_n hx hb dX11_back_37 rfl (lv_at hl 0 rfl) ?_
          have hI := th_I.close hI hG0 hO (ok_15 hq10 hq11 hq13 hq15 hq17 hq19 hq21 hq23 hq25 hq27 hq29 hq31 ⟨by omega, by omega⟩ k39)
          refine th_cVvE (As := [.ref a55]) (rest := []) (n := 1) (d := 2) ⟨hx, hb, hml, hown, hts⟩ (c_X6_copyFrom l E D G sa hq10 a55 hq57 (f1 _ e56)) wd_1202 wd_1203 wd_1204 wd_2 wd_1205 (by decide +kernel) ⟨by rw [hR]; exact Nat.le_of_ble_eq_true rfl, by rw [hR]; exact Nat.le_of_ble_eq_true rfl⟩ hI hN hK (by rw [tys_eu (by omega)]; exact hK) hS (rc_6 hI hq10 List.not_mem_nil) rfl rfl hl.1 rfl (Nat.le_of_ble_eq_true rfl) dX11_back_38 ⟨Nat.zero_le _, Nat.zero_le _⟩ (fun H locs Eu59 hEu59 hI hK hS => ?_)
          refine lv_aload_n hx hb dX11_back_41 rfl (lv_at hl 1 rfl) ?_
          refine th_cVv (As := []) (rest := []) (n := 0) (d := 2) ⟨hx, hb, hml, hown, hts⟩ (c_X11_turnRiver l Eu59 D G h0 (n) hG0 ) wd_423 wd_425 wp_1 wd_1 wd_426 (by decide +kernel) ⟨by rw [hR]; exact Nat.le_of_ble_eq_true rfl, by rw [hR]; exact Nat.le_of_ble_eq_true rfl⟩ hI hN hK hS (rc_15 hI hG0 List.not_mem_nil) rfl rfl hl.1 rfl (Nat.le_of_ble_eq_true rfl) dX11_back_42 ⟨Nat.zero_le _, Nat.zero_le _⟩ (fun H locs hI hS => ?_)
          refine lv_aload_n hx hb dX11_back_45 rfl (lv_at hl 1 rfl) ?_
          refine lv_iconst (v := 0) hx hb dX11_back_46 (by decide) ?_
          refine th_cVi (As := [.int 0]) (rest := []) (n := 1) (d := 0) ⟨hx, hb, hml, hown, hts⟩ (c_X11_accept l Eu59 D G h0 (n) hG0 0) wd_447 wd_449 wp_3 wd_1 wd_450 (by decide +kernel) ⟨by rw [hR]; exact Nat.le_of_ble_eq_true rfl, by rw [hR]; exact Nat.le_of_ble_eq_true rfl⟩ hI hN hK hS (rc_15 hI hG0 List.not_mem_nil) rfl rfl hl.1 rfl (Nat.le_of_ble_eq_true rfl) dX11_back_47 ⟨Nat.zero_le _, Nat.zero_le _⟩ (fun r61 H locs hp hI hS => ?_)
          have hp := hp.symm
          subst hp
          have hEt : eu E (1000 + 512 * sa) (gBt E n sa x1) = Eu59 := (congrArg (fun z => eu E (1000 + 512 * sa) z) (show gBt E n sa x1 = _ from by first | (unfold gBt; rw [if_pos (by omega)]; exact congrArg E (by omega)) | (unfold gBt; rw [if_neg (by omega), if_pos (by omega)]; exact congrArg E (by omega)))).trans hEu59.symm
          rw [← hEt] at hI hK
          have hpost : True := trivial
          rw [hQ]
          exact W.iret (v := 0) hx hb hr (fun t ht hW => ⟨⟨0, (), rfl, hpost, by rw [ht]; exact hI, hN.warm hW, va_K.moved hW.alike hK⟩, hS.F ht⟩) hS.2.2 dX11_back_50
    · skip
      have k62 := iv_nlt (X := x1.toInt) (Y := (2)) rfl (by decide) c7
      refine lv_aload_n hx hb dX11_back_9 rfl (lv_at hl 0 rfl) ?_
      refine lv_iconst (v := (-1)) hx hb dX11_back_10 (by decide) ?_
      refine th_cVi (As := [.int (-1)]) (rest := []) (n := 1) (d := 0) ⟨hx, hb, hml, hown, hts⟩ (c_X11_refuse l E D G h0 (n) hG0 (-1)) wd_407 wd_409 wp_0 wd_1 wd_410 (by decide +kernel) ⟨by rw [hR]; exact Nat.le_of_ble_eq_true rfl, by rw [hR]; exact Nat.le_of_ble_eq_true rfl⟩ hI hN hK hS (rc_15 hI hG0 List.not_mem_nil) rfl rfl hl.1 rfl (Nat.le_of_ble_eq_true rfl) dX11_back_11 ⟨Nat.zero_le _, Nat.zero_le _⟩ (fun r63 H locs hp hI hS => ?_)
      have hp := hp.symm
      subst hp
      have hEt : eu E (1000 + 512 * sa) (gBt E n sa x1) = E := eu_id (by unfold gBt; rw [if_neg (by omega), if_neg (by omega)])
      have hI : th_I (okC (eu E (1000 + 512 * sa) (gBt E n sa x1))) D G [] H := by rw [hEt]; exact hI
      have hK : va_K D vwCl (th_tys (eu E (1000 + 512 * sa) (gBt E n sa x1))) s := by rw [hEt]; exact hK
      have hpost : True := trivial
      rw [hQ]
      exact W.iret (v := (-1)) hx hb hr (fun t ht hW => ⟨⟨(-1), (), rfl, hpost, by rw [ht]; exact hI, hN.warm hW, va_K.moved hW.alike hK⟩, hS.F ht⟩) hS.2.2 dX11_back_14
