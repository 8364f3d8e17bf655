theorem wn_534 : (Cond.methodLinkNest RX7 (43 : Nat) yX11_isCell "NineRiver") ∈ lw_tbl := List.mem_append_right _ (List.mem_of_getElem? (i := 534) (by decide +kernel))
theorem wn_535 : (Cond.methodLinkNest RX7 (47 : Nat) yX11_isHour "NineRiver") ∈ lw_tbl := List.mem_append_right _ (List.mem_of_getElem? (i := 535) (by decide +kernel))
theorem wn_62 : (Cond.fieldLinkNest RX7 (126 : Nat) "NineRiver$State" "gates" "LNineRiver$Rows;" "NineRiver") ∈ lw_tbl := List.mem_append_right _ (List.mem_of_getElem? (i := 62) (by decide +kernel))
theorem wn_65 : (Cond.fieldLinkNest RX7 (139 : Nat) "NineRiver$State" "mills" "LNineRiver$Rows;" "NineRiver") ∈ lw_tbl := List.mem_append_right _ (List.mem_of_getElem? (i := 65) (by decide +kernel))
theorem wd_15 : (Cond.initialized RJ7) ∈ TB := tw 15 (by decide +kernel) (by decide +kernel)
theorem wd_189 : (Cond.fieldLink RX7 (35 : Nat) "NineRiver$Stream" "state" "LNineRiver$State;") ∈ TB := tw 189 (by decide +kernel) (by decide +kernel)
theorem wd_191 : (Cond.fieldLink RX7 (18 : Nat) "NineRiver$Stream" "ways" "[I") ∈ TB := tw 191 (by decide +kernel) (by decide +kernel)
theorem wd_192 : (Cond.fieldLink RX7 (22 : Nat) "NineRiver$Stream" "prices" "[I") ∈ TB := tw 192 (by decide +kernel) (by decide +kernel)
theorem wd_193 : (Cond.fieldLink RX7 (25 : Nat) "NineRiver$Stream" "shutGates" "[I") ∈ TB := tw 193 (by decide +kernel) (by decide +kernel)
theorem wd_194 : (Cond.fieldLink RX7 (28 : Nat) "NineRiver$Stream" "millsAt" "[I") ∈ TB := tw 194 (by decide +kernel) (by decide +kernel)
theorem wd_507 : (Jvm.Cond.instanceMethod yX4_size) ∈ TB := tw 507 (by decide +kernel) (by decide +kernel)
theorem wd_508 : (Cond.selects RX4 yX4_size yX4_size) ∈ TB := tw 508 (by decide +kernel) (by decide +kernel)
theorem wd_509 : (Cond.code yX4_size cX4_size 1 (Option.some Jvm.ClassFile.FieldType.int)) ∈ TB := tw 509 (by decide +kernel) (by decide +kernel)
theorem wd_519 : (Jvm.Cond.instanceMethod yX4_at) ∈ TB := tw 519 (by decide +kernel) (by decide +kernel)
theorem wd_520 : (Cond.selects RX4 yX4_at yX4_at) ∈ TB := tw 520 (by decide +kernel) (by decide +kernel)
theorem wd_521 : (Cond.code yX4_at cX4_at 3 (Option.some Jvm.ClassFile.FieldType.int)) ∈ TB := tw 521 (by decide +kernel) (by decide +kernel)
theorem wd_540 : (Cond.methodLink RX7 (120 : Nat) yJ7_fill_53178) ∈ TB := tw 540 (by decide +kernel) (by decide +kernel)
theorem wd_541 : (Jvm.Cond.static yJ7_fill_53178) ∈ TB := tw 541 (by decide +kernel) (by decide +kernel)
theorem wd_542 : (Cond.code yJ7_fill_53178 cJ7_fill_53178 4 (Option.none : Option Jvm.ClassFile.FieldType)) ∈ TB := tw 542 (by decide +kernel) (by decide +kernel)
theorem wd_543 : (Cond.methodLink RX7 (130 : Nat) yX4_size) ∈ TB := tw 543 (by decide +kernel) (by decide +kernel)
theorem wd_544 : (Cond.methodLink RX7 (136 : Nat) yX4_at) ∈ TB := tw 544 (by decide +kernel) (by decide +kernel)
theorem dJ7_fill_53178_0g : (decode cJ7_fill_53178 0 = .ok (.iconst 0, 1)) ∧ (decode cJ7_fill_53178 1 = .ok (.istore_n 2, 1)) ∧ (decode cJ7_fill_53178 2 = .ok (.aload_n 0, 1)) ∧ (decode cJ7_fill_53178 3 = .ok (.arraylength, 1)) ∧ (decode cJ7_fill_53178 4 = .ok (.istore_n 3, 1)) ∧ (decode cJ7_fill_53178 5 = .ok (.iload_n 2, 1)) ∧ (decode cJ7_fill_53178 6 = .ok (.iload_n 3, 1)) ∧ (decode cJ7_fill_53178 7 = .ok (.if_icmp .ge 13, 3)) ∧ (decode cJ7_fill_53178 10 = .ok (.aload_n 0, 1)) ∧ (decode cJ7_fill_53178 11 = .ok (.iload_n 2, 1)) := by decide +kernel
theorem dJ7_fill_53178_0 : decode cJ7_fill_53178 0 = .ok (.iconst 0, 1) := dJ7_fill_53178_0g.1
theorem dJ7_fill_53178_1 : decode cJ7_fill_53178 1 = .ok (.istore_n 2, 1) := dJ7_fill_53178_0g.2.1
theorem dJ7_fill_53178_2 : decode cJ7_fill_53178 2 = .ok (.aload_n 0, 1) := dJ7_fill_53178_0g.2.2.1
theorem dJ7_fill_53178_3 : decode cJ7_fill_53178 3 = .ok (.arraylength, 1) := dJ7_fill_53178_0g.2.2.2.1
theorem dJ7_fill_53178_4 : decode cJ7_fill_53178 4 = .ok (.istore_n 3, 1) := dJ7_fill_53178_0g.2.2.2.2.1
theorem dJ7_fill_53178_5 : decode cJ7_fill_53178 5 = .ok (.iload_n 2, 1) := dJ7_fill_53178_0g.2.2.2.2.2.1
theorem dJ7_fill_53178_6 : decode cJ7_fill_53178 6 = .ok (.iload_n 3, 1) := dJ7_fill_53178_0g.2.2.2.2.2.2.1
theorem dJ7_fill_53178_7 : decode cJ7_fill_53178 7 = .ok (.if_icmp .ge 13, 3) := dJ7_fill_53178_0g.2.2.2.2.2.2.2.1
theorem dJ7_fill_53178_10 : decode cJ7_fill_53178 10 = .ok (.aload_n 0, 1) := dJ7_fill_53178_0g.2.2.2.2.2.2.2.2.1
theorem dJ7_fill_53178_11 : decode cJ7_fill_53178 11 = .ok (.iload_n 2, 1) := dJ7_fill_53178_0g.2.2.2.2.2.2.2.2.2
theorem dJ7_fill_53178_12g : (decode cJ7_fill_53178 12 = .ok (.iload_n 1, 1)) ∧ (decode cJ7_fill_53178 13 = .ok (.iastore, 1)) ∧ (decode cJ7_fill_53178 14 = .ok (.iinc 2 1, 3)) ∧ (decode cJ7_fill_53178 17 = .ok (.goto (-12), 3)) ∧ (decode cJ7_fill_53178 20 = .ok (.return_, 1)) := by decide +kernel
theorem dJ7_fill_53178_12 : decode cJ7_fill_53178 12 = .ok (.iload_n 1, 1) := dJ7_fill_53178_12g.1
theorem dJ7_fill_53178_13 : decode cJ7_fill_53178 13 = .ok (.iastore, 1) := dJ7_fill_53178_12g.2.1
theorem dJ7_fill_53178_14 : decode cJ7_fill_53178 14 = .ok (.iinc 2 1, 3) := dJ7_fill_53178_12g.2.2.1
theorem dJ7_fill_53178_17 : decode cJ7_fill_53178 17 = .ok (.goto (-12), 3) := dJ7_fill_53178_12g.2.2.2.1
theorem dJ7_fill_53178_20 : decode cJ7_fill_53178 20 = .ok (.return_, 1) := dJ7_fill_53178_12g.2.2.2.2
set_option maxHeartbeats 4000000 in
set_option maxRecDepth 100000 in
theorem c_J7_fill_53178 (l : Launch) (E : Nat → Nat) (D : va_G) (G : th_G) (h0 n : Nat) (hG0 : G h0 = some (0, n)) (hn : n < 2147483648) (x1 : Int32) : Met l yJ7_fill_53178 (tb (.code yJ7_fill_53178 cJ7_fill_53178 4 none)) (rm 0) (va_Pc [.ref h0, .int x1] (th_P E D G)) (QV E D G) 0 0 (th_A G) := by
  refine Met.ofW (cc := cJ7_fill_53178) (maxL := 4) (ret := none) (by decide) rfl ?_
  intro p e s m args below meth c s₁ B hml hv
  obtain ⟨hav, hI, hN, hK⟩ := hv
  have hx := B.exec
  have hb := B.bytes
  have hr := B.returns
  have hts := atoms_spec (ws := tb (.code yJ7_fill_53178 cJ7_fill_53178 4 none)) B.pre
  have hown : s.vm.findClass RJ7 = some m.cls := findClass_of_methodNamed B.named
  have hlocks := B.notSynchronized
  have hS : va_S (th_A G) s.heap s.heap [] := va_S.rf
  have hl := lv_entry ([.ref h0, .int x1]) (n := 4) (Nat.le_of_ble_eq_true rfl)
  rw [show entryFrame m args 4 = entryFrame m ([.ref h0, .int x1] : List Value).toArray 4 from by rw [hav], lg_entry_eq]
  generalize (lg_sl ([.ref h0, .int x1]) ++ List.replicate (4 - (lg_sl ([.ref h0, .int x1])).length) Slot.unset).toArray = ls at hl ⊢
  have hl : lv_has ls 4 [(0, .ref h0), (1, .int x1)] := hl
  generalize hR : (headSpec (tb (.code yJ7_fill_53178 cJ7_fill_53178 4 none)) (rm 0)).room = R
  have hR := hR.symm
  generalize hQ : MQ below (QV E D G) args s 0 0 (th_A G) = QF
  have hQ := hQ.symm
  have J_5 : ∀ (nn : Nat) (H : Heap) (locs : List Loc) (ls : Array Slot) (v433 : Int32) (v434 : Int32), (Int.toNat (v433.toInt - v434.toInt) = nn) → lv_has ls 4 [(3, .int v433), (2, .int v434), (0, .ref h0), (1, .int x1)] → ((0 : Int) ≤ v433.toInt) → ((0 : Int) ≤ v434.toInt) → (v433.toInt = ((n : Nat) : Int)) → th_I (okC E) D G [] H → va_S (th_A G) s.heap H locs → W p l e R s m args below meth c H locs 0 0 QF (F0 m 5 ls []) := by
    intro nn
    induction nn using Nat.strongRecOn with
    | ind nn ih_5 =>
      intro H locs ls v433 v434 hm hl k435 k436 k437 hI hS
      refine lv_iload_n hx hb dJ7_fill_53178_5 rfl (lv_at hl 1 rfl) ?_
      refine lv_iload_n hx hb dJ7_fill_53178_6 rfl (lv_at hl 0 rfl) ?_
      have k438 := iv_lo v434
      have k439 := iv_hi v434
      have k440 := iv_lo v433
      have k441 := iv_hi v433
      refine lv_icmp_ge (tgt := 20) hx hb dJ7_fill_53178_7 (by decide) (fun c442 => ?_) (fun c442 => ?_)
      · skip
        have k443 := iv_le (X := v433.toInt) (Y := v434.toInt) rfl rfl c442
        rw [hQ]
        exact W.vret hx hb hr (fun t ht hW => ⟨⟨(), rfl, trivial, by rw [ht]; exact hI, hN.warm hW, va_K.moved hW.alike hK⟩, hS.F ht⟩) hS.2.2 dJ7_fill_53178_20
      · skip
        have k444 := iv_nle (X := v433.toInt) (Y := v434.toInt) rfl rfl c442
        refine lv_aload_n hx hb dJ7_fill_53178_10 rfl (lv_at hl 2 rfl) ?_
        refine lv_iload_n hx hb dJ7_fill_53178_11 rfl (lv_at hl 1 rfl) ?_
        refine lv_iload_n hx hb dJ7_fill_53178_12 rfl (lv_at hl 3 rfl) ?_
        obtain ⟨_, hA445⟩ := op_0 hI hG0 List.not_mem_nil
        refine th_iast hx hb hK hA445 0 rfl hS ⟨_, hG0⟩ (iv_in (X := v434.toInt) rfl (by omega) (by omega)) dJ7_fill_53178_13 (fun H locs hA445 oq hS => ?_)
        have hI := th_I.put hI hG0 hA445 ok_0 oq
        obtain ⟨v446, e447⟩ : ∃ y : Int32, y = v434 + (1) := ⟨_, rfl⟩
        have tv446 : v446.toInt = v434.toInt + (1) := iv_add rfl (by decide) e447 (by omega) (by omega)
        refine lv_iinc (v := v446) (lv' := [(2, .int v446), (3, .int v433), (0, .ref h0), (1, .int x1)]) hx hb dJ7_fill_53178_14 hl (k := 1) rfl (by rw [e447]; rfl) (by decide) rfl (fun ls hl => ?_)
        refine lv_goto (tgt := 5) hx hb dJ7_fill_53178_17 (by decide) ?_
        exact ih_5 _ (by omega) H locs ls v433 v446 rfl (lv_sub hl [1, 0, 2, 3] rfl) (by omega) (by omega) (by omega) hI hS
  refine lv_iconst (v := 0) hx hb dJ7_fill_53178_0 (by decide) ?_
  refine lv_istore_n (lv' := [(2, .int 0), (0, .ref h0), (1, .int x1)]) hx hb dJ7_fill_53178_1 rfl hl (by decide) rfl (fun ls hl => ?_)
  refine lv_aload_n hx hb dJ7_fill_53178_2 rfl (lv_at hl 1 rfl) ?_
  obtain ⟨_, hA448⟩ := op_0 hI hG0 List.not_mem_nil
  refine va_alen hx hb hK (th_one hA448) 0 0 rfl (v := nI (n)) rfl rfl dJ7_fill_53178_3 ?_
  refine lv_topi (fun v449 e450 => ?_)
  have tv449 : v449.toInt = ((n : Nat) : Int) := by rw [e450]; exact nI_toInt (by omega)
  refine lv_istore_n (lv' := [(3, .int v449), (2, .int 0), (0, .ref h0), (1, .int x1)]) hx hb dJ7_fill_53178_4 rfl hl (by decide) rfl (fun ls hl => ?_)
  have zl : (0 : Int32).toInt = 0 := by decide
  exact J_5 _ s.heap [] ls v449 0 rfl (lv_sub hl [0, 1, 2, 3] rfl) (by omega) (by decide) (by omega) hI hS
theorem dX7_refresh_0g : (decode cX7_refresh 0 = .ok (.aload_n 0, 1)) ∧ (decode cX7_refresh 1 = .ok (.getfield 31, 3)) ∧ (decode cX7_refresh 4 = .ok (.ifCond .ne 4, 3)) ∧ (decode cX7_refresh 7 = .ok (.return_, 1)) ∧ (decode cX7_refresh 8 = .ok (.aload_n 0, 1)) ∧ (decode cX7_refresh 9 = .ok (.iconst 0, 1)) ∧ (decode cX7_refresh 10 = .ok (.putfield 31, 3)) ∧ (decode cX7_refresh 13 = .ok (.aload_n 0, 1)) ∧ (decode cX7_refresh 14 = .ok (.getfield 18, 3)) ∧ (decode cX7_refresh 17 = .ok (.iconst 0, 1)) := by decide +kernel
theorem dX7_refresh_0 : decode cX7_refresh 0 = .ok (.aload_n 0, 1) := dX7_refresh_0g.1
theorem dX7_refresh_1 : decode cX7_refresh 1 = .ok (.getfield 31, 3) := dX7_refresh_0g.2.1
theorem dX7_refresh_4 : decode cX7_refresh 4 = .ok (.ifCond .ne 4, 3) := dX7_refresh_0g.2.2.1
theorem dX7_refresh_7 : decode cX7_refresh 7 = .ok (.return_, 1) := dX7_refresh_0g.2.2.2.1
theorem dX7_refresh_8 : decode cX7_refresh 8 = .ok (.aload_n 0, 1) := dX7_refresh_0g.2.2.2.2.1
theorem dX7_refresh_9 : decode cX7_refresh 9 = .ok (.iconst 0, 1) := dX7_refresh_0g.2.2.2.2.2.1
theorem dX7_refresh_10 : decode cX7_refresh 10 = .ok (.putfield 31, 3) := dX7_refresh_0g.2.2.2.2.2.2.1
theorem dX7_refresh_13 : decode cX7_refresh 13 = .ok (.aload_n 0, 1) := dX7_refresh_0g.2.2.2.2.2.2.2.1
theorem dX7_refresh_14 : decode cX7_refresh 14 = .ok (.getfield 18, 3) := dX7_refresh_0g.2.2.2.2.2.2.2.2.1
theorem dX7_refresh_17 : decode cX7_refresh 17 = .ok (.iconst 0, 1) := dX7_refresh_0g.2.2.2.2.2.2.2.2.2
theorem dX7_refresh_18g : (decode cX7_refresh 18 = .ok (.invokestatic 120, 3)) ∧ (decode cX7_refresh 21 = .ok (.aload_n 0, 1)) ∧ (decode cX7_refresh 22 = .ok (.getfield 22, 3)) ∧ (decode cX7_refresh 25 = .ok (.iconst 0, 1)) ∧ (decode cX7_refresh 26 = .ok (.invokestatic 120, 3)) ∧ (decode cX7_refresh 29 = .ok (.aload_n 0, 1)) ∧ (decode cX7_refresh 30 = .ok (.getfield 25, 3)) ∧ (decode cX7_refresh 33 = .ok (.iconst 0, 1)) ∧ (decode cX7_refresh 34 = .ok (.invokestatic 120, 3)) ∧ (decode cX7_refresh 37 = .ok (.aload_n 0, 1)) := by decide +kernel
theorem dX7_refresh_18 : decode cX7_refresh 18 = .ok (.invokestatic 120, 3) := dX7_refresh_18g.1
theorem dX7_refresh_21 : decode cX7_refresh 21 = .ok (.aload_n 0, 1) := dX7_refresh_18g.2.1
theorem dX7_refresh_22 : decode cX7_refresh 22 = .ok (.getfield 22, 3) := dX7_refresh_18g.2.2.1
theorem dX7_refresh_25 : decode cX7_refresh 25 = .ok (.iconst 0, 1) := dX7_refresh_18g.2.2.2.1
theorem dX7_refresh_26 : decode cX7_refresh 26 = .ok (.invokestatic 120, 3) := dX7_refresh_18g.2.2.2.2.1
theorem dX7_refresh_29 : decode cX7_refresh 29 = .ok (.aload_n 0, 1) := dX7_refresh_18g.2.2.2.2.2.1
theorem dX7_refresh_30 : decode cX7_refresh 30 = .ok (.getfield 25, 3) := dX7_refresh_18g.2.2.2.2.2.2.1
theorem dX7_refresh_33 : decode cX7_refresh 33 = .ok (.iconst 0, 1) := dX7_refresh_18g.2.2.2.2.2.2.2.1
theorem dX7_refresh_34 : decode cX7_refresh 34 = .ok (.invokestatic 120, 3) := dX7_refresh_18g.2.2.2.2.2.2.2.2.1
theorem dX7_refresh_37 : decode cX7_refresh 37 = .ok (.aload_n 0, 1) := dX7_refresh_18g.2.2.2.2.2.2.2.2.2
theorem dX7_refresh_38g : (decode cX7_refresh 38 = .ok (.getfield 28, 3)) ∧ (decode cX7_refresh 41 = .ok (.iconst 0, 1)) ∧ (decode cX7_refresh 42 = .ok (.invokestatic 120, 3)) ∧ (decode cX7_refresh 45 = .ok (.iconst 0, 1)) ∧ (decode cX7_refresh 46 = .ok (.istore_n 1, 1)) ∧ (decode cX7_refresh 47 = .ok (.iload_n 1, 1)) ∧ (decode cX7_refresh 48 = .ok (.aload_n 0, 1)) ∧ (decode cX7_refresh 49 = .ok (.getfield 35, 3)) ∧ (decode cX7_refresh 52 = .ok (.getfield 126, 3)) ∧ (decode cX7_refresh 55 = .ok (.invokevirtual 130, 3)) := by decide +kernel
theorem dX7_refresh_38 : decode cX7_refresh 38 = .ok (.getfield 28, 3) := dX7_refresh_38g.1
theorem dX7_refresh_41 : decode cX7_refresh 41 = .ok (.iconst 0, 1) := dX7_refresh_38g.2.1
theorem dX7_refresh_42 : decode cX7_refresh 42 = .ok (.invokestatic 120, 3) := dX7_refresh_38g.2.2.1
theorem dX7_refresh_45 : decode cX7_refresh 45 = .ok (.iconst 0, 1) := dX7_refresh_38g.2.2.2.1
theorem dX7_refresh_46 : decode cX7_refresh 46 = .ok (.istore_n 1, 1) := dX7_refresh_38g.2.2.2.2.1
theorem dX7_refresh_47 : decode cX7_refresh 47 = .ok (.iload_n 1, 1) := dX7_refresh_38g.2.2.2.2.2.1
theorem dX7_refresh_48 : decode cX7_refresh 48 = .ok (.aload_n 0, 1) := dX7_refresh_38g.2.2.2.2.2.2.1
theorem dX7_refresh_49 : decode cX7_refresh 49 = .ok (.getfield 35, 3) := dX7_refresh_38g.2.2.2.2.2.2.2.1
theorem dX7_refresh_52 : decode cX7_refresh 52 = .ok (.getfield 126, 3) := dX7_refresh_38g.2.2.2.2.2.2.2.2.1
theorem dX7_refresh_55 : decode cX7_refresh 55 = .ok (.invokevirtual 130, 3) := dX7_refresh_38g.2.2.2.2.2.2.2.2.2
theorem dX7_refresh_58g : (decode cX7_refresh 58 = .ok (.if_icmp .ge 79, 3)) ∧ (decode cX7_refresh 61 = .ok (.aload_n 0, 1)) ∧ (decode cX7_refresh 62 = .ok (.getfield 35, 3)) ∧ (decode cX7_refresh 65 = .ok (.getfield 126, 3)) ∧ (decode cX7_refresh 68 = .ok (.iload_n 1, 1)) ∧ (decode cX7_refresh 69 = .ok (.iconst 2, 1)) ∧ (decode cX7_refresh 70 = .ok (.invokevirtual 136, 3)) ∧ (decode cX7_refresh 73 = .ok (.istore_n 2, 1)) ∧ (decode cX7_refresh 74 = .ok (.aload_n 0, 1)) ∧ (decode cX7_refresh 75 = .ok (.getfield 35, 3)) := by decide +kernel
theorem dX7_refresh_58 : decode cX7_refresh 58 = .ok (.if_icmp .ge 79, 3) := dX7_refresh_58g.1
theorem dX7_refresh_61 : decode cX7_refresh 61 = .ok (.aload_n 0, 1) := dX7_refresh_58g.2.1
theorem dX7_refresh_62 : decode cX7_refresh 62 = .ok (.getfield 35, 3) := dX7_refresh_58g.2.2.1
theorem dX7_refresh_65 : decode cX7_refresh 65 = .ok (.getfield 126, 3) := dX7_refresh_58g.2.2.2.1
theorem dX7_refresh_68 : decode cX7_refresh 68 = .ok (.iload_n 1, 1) := dX7_refresh_58g.2.2.2.2.1
theorem dX7_refresh_69 : decode cX7_refresh 69 = .ok (.iconst 2, 1) := dX7_refresh_58g.2.2.2.2.2.1
theorem dX7_refresh_70 : decode cX7_refresh 70 = .ok (.invokevirtual 136, 3) := dX7_refresh_58g.2.2.2.2.2.2.1
theorem dX7_refresh_73 : decode cX7_refresh 73 = .ok (.istore_n 2, 1) := dX7_refresh_58g.2.2.2.2.2.2.2.1
theorem dX7_refresh_74 : decode cX7_refresh 74 = .ok (.aload_n 0, 1) := dX7_refresh_58g.2.2.2.2.2.2.2.2.1
theorem dX7_refresh_75 : decode cX7_refresh 75 = .ok (.getfield 35, 3) := dX7_refresh_58g.2.2.2.2.2.2.2.2.2
theorem dX7_refresh_78g : (decode cX7_refresh 78 = .ok (.getfield 126, 3)) ∧ (decode cX7_refresh 81 = .ok (.iload_n 1, 1)) ∧ (decode cX7_refresh 82 = .ok (.iconst 1, 1)) ∧ (decode cX7_refresh 83 = .ok (.invokevirtual 136, 3)) ∧ (decode cX7_refresh 86 = .ok (.istore_n 3, 1)) ∧ (decode cX7_refresh 87 = .ok (.iload_n 3, 1)) ∧ (decode cX7_refresh 88 = .ok (.ifCond .lt 43, 3)) ∧ (decode cX7_refresh 91 = .ok (.iload_n 3, 1)) ∧ (decode cX7_refresh 92 = .ok (.iload_n 2, 1)) ∧ (decode cX7_refresh 93 = .ok (.if_icmp .gt 38, 3)) := by decide +kernel
theorem dX7_refresh_78 : decode cX7_refresh 78 = .ok (.getfield 126, 3) := dX7_refresh_78g.1
theorem dX7_refresh_81 : decode cX7_refresh 81 = .ok (.iload_n 1, 1) := dX7_refresh_78g.2.1
theorem dX7_refresh_82 : decode cX7_refresh 82 = .ok (.iconst 1, 1) := dX7_refresh_78g.2.2.1
theorem dX7_refresh_83 : decode cX7_refresh 83 = .ok (.invokevirtual 136, 3) := dX7_refresh_78g.2.2.2.1
theorem dX7_refresh_86 : decode cX7_refresh 86 = .ok (.istore_n 3, 1) := dX7_refresh_78g.2.2.2.2.1
theorem dX7_refresh_87 : decode cX7_refresh 87 = .ok (.iload_n 3, 1) := dX7_refresh_78g.2.2.2.2.2.1
theorem dX7_refresh_88 : decode cX7_refresh 88 = .ok (.ifCond .lt 43, 3) := dX7_refresh_78g.2.2.2.2.2.2.1
theorem dX7_refresh_91 : decode cX7_refresh 91 = .ok (.iload_n 3, 1) := dX7_refresh_78g.2.2.2.2.2.2.2.1
theorem dX7_refresh_92 : decode cX7_refresh 92 = .ok (.iload_n 2, 1) := dX7_refresh_78g.2.2.2.2.2.2.2.2.1
theorem dX7_refresh_93 : decode cX7_refresh 93 = .ok (.if_icmp .gt 38, 3) := dX7_refresh_78g.2.2.2.2.2.2.2.2.2
theorem dX7_refresh_96g : (decode cX7_refresh 96 = .ok (.iload_n 3, 1)) ∧ (decode cX7_refresh 97 = .ok (.bipush 96, 2)) ∧ (decode cX7_refresh 99 = .ok (.if_icmp .ge 32, 3)) ∧ (decode cX7_refresh 102 = .ok (.aload_n 0, 1)) ∧ (decode cX7_refresh 103 = .ok (.getfield 25, 3)) ∧ (decode cX7_refresh 106 = .ok (.iload_n 3, 1)) ∧ (decode cX7_refresh 107 = .ok (.dup2, 1)) ∧ (decode cX7_refresh 108 = .ok (.iaload, 1)) ∧ (decode cX7_refresh 109 = .ok (.iconst 1, 1)) ∧ (decode cX7_refresh 110 = .ok (.aload_n 0, 1)) := by decide +kernel
theorem dX7_refresh_96 : decode cX7_refresh 96 = .ok (.iload_n 3, 1) := dX7_refresh_96g.1
theorem dX7_refresh_97 : decode cX7_refresh 97 = .ok (.bipush 96, 2) := dX7_refresh_96g.2.1
theorem dX7_refresh_99 : decode cX7_refresh 99 = .ok (.if_icmp .ge 32, 3) := dX7_refresh_96g.2.2.1
theorem dX7_refresh_102 : decode cX7_refresh 102 = .ok (.aload_n 0, 1) := dX7_refresh_96g.2.2.2.1
theorem dX7_refresh_103 : decode cX7_refresh 103 = .ok (.getfield 25, 3) := dX7_refresh_96g.2.2.2.2.1
theorem dX7_refresh_106 : decode cX7_refresh 106 = .ok (.iload_n 3, 1) := dX7_refresh_96g.2.2.2.2.2.1
theorem dX7_refresh_107 : decode cX7_refresh 107 = .ok (.dup2, 1) := dX7_refresh_96g.2.2.2.2.2.2.1
theorem dX7_refresh_108 : decode cX7_refresh 108 = .ok (.iaload, 1) := dX7_refresh_96g.2.2.2.2.2.2.2.1
theorem dX7_refresh_109 : decode cX7_refresh 109 = .ok (.iconst 1, 1) := dX7_refresh_96g.2.2.2.2.2.2.2.2.1
theorem dX7_refresh_110 : decode cX7_refresh 110 = .ok (.aload_n 0, 1) := dX7_refresh_96g.2.2.2.2.2.2.2.2.2
theorem dX7_refresh_111g : (decode cX7_refresh 111 = .ok (.getfield 35, 3)) ∧ (decode cX7_refresh 114 = .ok (.getfield 126, 3)) ∧ (decode cX7_refresh 117 = .ok (.iload_n 1, 1)) ∧ (decode cX7_refresh 118 = .ok (.iconst 0, 1)) ∧ (decode cX7_refresh 119 = .ok (.invokevirtual 136, 3)) ∧ (decode cX7_refresh 122 = .ok (.ishl, 1)) ∧ (decode cX7_refresh 123 = .ok (.ior, 1)) ∧ (decode cX7_refresh 124 = .ok (.iastore, 1)) ∧ (decode cX7_refresh 125 = .ok (.iinc 3 1, 3)) ∧ (decode cX7_refresh 128 = .ok (.goto (-41), 3)) := by decide +kernel
theorem dX7_refresh_111 : decode cX7_refresh 111 = .ok (.getfield 35, 3) := dX7_refresh_111g.1
theorem dX7_refresh_114 : decode cX7_refresh 114 = .ok (.getfield 126, 3) := dX7_refresh_111g.2.1
theorem dX7_refresh_117 : decode cX7_refresh 117 = .ok (.iload_n 1, 1) := dX7_refresh_111g.2.2.1
theorem dX7_refresh_118 : decode cX7_refresh 118 = .ok (.iconst 0, 1) := dX7_refresh_111g.2.2.2.1
theorem dX7_refresh_119 : decode cX7_refresh 119 = .ok (.invokevirtual 136, 3) := dX7_refresh_111g.2.2.2.2.1
theorem dX7_refresh_122 : decode cX7_refresh 122 = .ok (.ishl, 1) := dX7_refresh_111g.2.2.2.2.2.1
theorem dX7_refresh_123 : decode cX7_refresh 123 = .ok (.ior, 1) := dX7_refresh_111g.2.2.2.2.2.2.1
theorem dX7_refresh_124 : decode cX7_refresh 124 = .ok (.iastore, 1) := dX7_refresh_111g.2.2.2.2.2.2.2.1
theorem dX7_refresh_125 : decode cX7_refresh 125 = .ok (.iinc 3 1, 3) := dX7_refresh_111g.2.2.2.2.2.2.2.2.1
theorem dX7_refresh_128 : decode cX7_refresh 128 = .ok (.goto (-41), 3) := dX7_refresh_111g.2.2.2.2.2.2.2.2.2
theorem dX7_refresh_131g : (decode cX7_refresh 131 = .ok (.iinc 1 1, 3)) ∧ (decode cX7_refresh 134 = .ok (.goto (-87), 3)) ∧ (decode cX7_refresh 137 = .ok (.iconst 0, 1)) ∧ (decode cX7_refresh 138 = .ok (.istore_n 1, 1)) ∧ (decode cX7_refresh 139 = .ok (.iload_n 1, 1)) ∧ (decode cX7_refresh 140 = .ok (.aload_n 0, 1)) ∧ (decode cX7_refresh 141 = .ok (.getfield 35, 3)) ∧ (decode cX7_refresh 144 = .ok (.getfield 139, 3)) ∧ (decode cX7_refresh 147 = .ok (.invokevirtual 130, 3)) ∧ (decode cX7_refresh 150 = .ok (.if_icmp .ge 39, 3)) := by decide +kernel
theorem dX7_refresh_131 : decode cX7_refresh 131 = .ok (.iinc 1 1, 3) := dX7_refresh_131g.1
theorem dX7_refresh_134 : decode cX7_refresh 134 = .ok (.goto (-87), 3) := dX7_refresh_131g.2.1
theorem dX7_refresh_137 : decode cX7_refresh 137 = .ok (.iconst 0, 1) := dX7_refresh_131g.2.2.1
theorem dX7_refresh_138 : decode cX7_refresh 138 = .ok (.istore_n 1, 1) := dX7_refresh_131g.2.2.2.1
theorem dX7_refresh_139 : decode cX7_refresh 139 = .ok (.iload_n 1, 1) := dX7_refresh_131g.2.2.2.2.1
theorem dX7_refresh_140 : decode cX7_refresh 140 = .ok (.aload_n 0, 1) := dX7_refresh_131g.2.2.2.2.2.1
theorem dX7_refresh_141 : decode cX7_refresh 141 = .ok (.getfield 35, 3) := dX7_refresh_131g.2.2.2.2.2.2.1
theorem dX7_refresh_144 : decode cX7_refresh 144 = .ok (.getfield 139, 3) := dX7_refresh_131g.2.2.2.2.2.2.2.1
theorem dX7_refresh_147 : decode cX7_refresh 147 = .ok (.invokevirtual 130, 3) := dX7_refresh_131g.2.2.2.2.2.2.2.2.1
theorem dX7_refresh_150 : decode cX7_refresh 150 = .ok (.if_icmp .ge 39, 3) := dX7_refresh_131g.2.2.2.2.2.2.2.2.2
theorem dX7_refresh_153g : (decode cX7_refresh 153 = .ok (.aload_n 0, 1)) ∧ (decode cX7_refresh 154 = .ok (.getfield 35, 3)) ∧ (decode cX7_refresh 157 = .ok (.getfield 139, 3)) ∧ (decode cX7_refresh 160 = .ok (.iload_n 1, 1)) ∧ (decode cX7_refresh 161 = .ok (.iconst 0, 1)) ∧ (decode cX7_refresh 162 = .ok (.invokevirtual 136, 3)) ∧ (decode cX7_refresh 165 = .ok (.istore_n 2, 1)) ∧ (decode cX7_refresh 166 = .ok (.iload_n 2, 1)) ∧ (decode cX7_refresh 167 = .ok (.invokestatic 43, 3)) ∧ (decode cX7_refresh 170 = .ok (.ifCond .eq 13, 3)) := by decide +kernel
theorem dX7_refresh_153 : decode cX7_refresh 153 = .ok (.aload_n 0, 1) := dX7_refresh_153g.1
theorem dX7_refresh_154 : decode cX7_refresh 154 = .ok (.getfield 35, 3) := dX7_refresh_153g.2.1
theorem dX7_refresh_157 : decode cX7_refresh 157 = .ok (.getfield 139, 3) := dX7_refresh_153g.2.2.1
theorem dX7_refresh_160 : decode cX7_refresh 160 = .ok (.iload_n 1, 1) := dX7_refresh_153g.2.2.2.1
theorem dX7_refresh_161 : decode cX7_refresh 161 = .ok (.iconst 0, 1) := dX7_refresh_153g.2.2.2.2.1
theorem dX7_refresh_162 : decode cX7_refresh 162 = .ok (.invokevirtual 136, 3) := dX7_refresh_153g.2.2.2.2.2.1
theorem dX7_refresh_165 : decode cX7_refresh 165 = .ok (.istore_n 2, 1) := dX7_refresh_153g.2.2.2.2.2.2.1
theorem dX7_refresh_166 : decode cX7_refresh 166 = .ok (.iload_n 2, 1) := dX7_refresh_153g.2.2.2.2.2.2.2.1
theorem dX7_refresh_167 : decode cX7_refresh 167 = .ok (.invokestatic 43, 3) := dX7_refresh_153g.2.2.2.2.2.2.2.2.1
theorem dX7_refresh_170 : decode cX7_refresh 170 = .ok (.ifCond .eq 13, 3) := dX7_refresh_153g.2.2.2.2.2.2.2.2.2
theorem dX7_refresh_173g : (decode cX7_refresh 173 = .ok (.aload_n 0, 1)) ∧ (decode cX7_refresh 174 = .ok (.getfield 28, 3)) ∧ (decode cX7_refresh 177 = .ok (.iload_n 2, 1)) ∧ (decode cX7_refresh 178 = .ok (.dup2, 1)) ∧ (decode cX7_refresh 179 = .ok (.iaload, 1)) ∧ (decode cX7_refresh 180 = .ok (.iconst 1, 1)) ∧ (decode cX7_refresh 181 = .ok (.iadd, 1)) ∧ (decode cX7_refresh 182 = .ok (.iastore, 1)) ∧ (decode cX7_refresh 183 = .ok (.iinc 1 1, 3)) ∧ (decode cX7_refresh 186 = .ok (.goto (-47), 3)) := by decide +kernel
theorem dX7_refresh_173 : decode cX7_refresh 173 = .ok (.aload_n 0, 1) := dX7_refresh_173g.1
theorem dX7_refresh_174 : decode cX7_refresh 174 = .ok (.getfield 28, 3) := dX7_refresh_173g.2.1
theorem dX7_refresh_177 : decode cX7_refresh 177 = .ok (.iload_n 2, 1) := dX7_refresh_173g.2.2.1
theorem dX7_refresh_178 : decode cX7_refresh 178 = .ok (.dup2, 1) := dX7_refresh_173g.2.2.2.1
theorem dX7_refresh_179 : decode cX7_refresh 179 = .ok (.iaload, 1) := dX7_refresh_173g.2.2.2.2.1
theorem dX7_refresh_180 : decode cX7_refresh 180 = .ok (.iconst 1, 1) := dX7_refresh_173g.2.2.2.2.2.1
theorem dX7_refresh_181 : decode cX7_refresh 181 = .ok (.iadd, 1) := dX7_refresh_173g.2.2.2.2.2.2.1
theorem dX7_refresh_182 : decode cX7_refresh 182 = .ok (.iastore, 1) := dX7_refresh_173g.2.2.2.2.2.2.2.1
theorem dX7_refresh_183 : decode cX7_refresh 183 = .ok (.iinc 1 1, 3) := dX7_refresh_173g.2.2.2.2.2.2.2.2.1
theorem dX7_refresh_186 : decode cX7_refresh 186 = .ok (.goto (-47), 3) := dX7_refresh_173g.2.2.2.2.2.2.2.2.2
theorem dX7_refresh_189 : decode cX7_refresh 189 = .ok (.return_, 1) := by decide +kernel
set_option maxHeartbeats 4000000 in
set_option maxRecDepth 100000 in
theorem c_X7_refresh (l : Launch) (E : Nat → Nat) (D : va_G) (G : th_G) (h0 : Nat) (hG0 : G h0 = some (9, 0)) : Met l yX7_refresh (tb (.code yX7_refresh cX7_refresh 4 none)) (rm 2) (va_Pc [.ref h0] (th_P E D G)) (QV E D G) 0 0 (th_A G) := by
  refine Met.ofW (cc := cX7_refresh) (maxL := 4) (ret := none) (by decide) rfl ?_
  intro p e s m args below meth c s₁ B hml hv
  obtain ⟨hav, hI, hN, hK⟩ := hv
  have hx := B.exec
  have hb := B.bytes
  have hr := B.returns
  have hts := atoms_spec (ws := tb (.code yX7_refresh cX7_refresh 4 none)) B.pre
  have hown : s.vm.findClass RX7 = some m.cls := findClass_of_methodNamed B.named
  have hlocks := B.notSynchronized
  have hS : va_S (th_A G) s.heap s.heap [] := va_S.rf
  have hl := lv_entry ([.ref h0]) (n := 4) (Nat.le_of_ble_eq_true rfl)
  rw [show entryFrame m args 4 = entryFrame m ([.ref h0] : List Value).toArray 4 from by rw [hav], lg_entry_eq]
  generalize (lg_sl ([.ref h0]) ++ List.replicate (4 - (lg_sl ([.ref h0])).length) Slot.unset).toArray = ls at hl ⊢
  have hl : lv_has ls 4 [(0, .ref h0)] := hl
  generalize hR : (headSpec (tb (.code yX7_refresh cX7_refresh 4 none)) (rm 2)).room = R
  have hR := hR.symm
  generalize hQ : MQ below (QV E D G) args s 0 0 (th_A G) = QF
  have hQ := hQ.symm
  have J_139 : ∀ (nn : Nat) (H : Heap) (locs : List Loc) (ls : Array Slot) (v10610 : Int32), (Int.toNat (6 - v10610.toInt) = nn) → lv_has ls 4 [(1, .int v10610), (0, .ref h0)] → ((0 : Int) ≤ v10610.toInt ∧ v10610.toInt ≤ 6) → th_I (okC E) D G [] H → va_S (th_A G) s.heap H locs → W p l e R s m args below meth c H locs 0 0 QF (F0 m 139 ls []) := by
    intro nn
    induction nn using Nat.strongRecOn with
    | ind nn ih_139 =>
      intro H locs ls v10610 hm hl k10611 hI hS
      refine lv_iload_n hx hb dX7_refresh_139 rfl (lv_at hl 0 rfl) ?_
      refine lv_aload_n hx hb dX7_refresh_140 rfl (lv_at hl 1 rfl) ?_
      obtain ⟨a10612, a10614, a10616, a10618, a10620, a10622, w10624, hO, hq10613, hq10615, hq10617, hq10619, hq10621, hq10623⟩ := op_9 hI hG0 List.not_mem_nil
      have hI := th_I.weak (a := h0) hI
      refine th_get hx hb hts inT7 hown hK hO rfl 0 (by decide) (hts _ (tb_c wd_189)) rfl rfl dX7_refresh_141 ?_
      have hI := th_I.close hI hG0 hO (ok_9 hq10613 hq10615 hq10617 hq10619 hq10621 hq10623)
      obtain ⟨a10625, a10627, a10629, a10631, a10633, a10635, a10637, a10639, a10641, a10643, w10645, w10648, w10649, w10650, hO, hq10626, hq10628, hq10630, hq10632, hq10634, hq10636, hq10638, hq10640, hq10642, hq10644, ⟨k10646, k10647⟩, k10651⟩ := op_6 hI hq10613 List.not_mem_nil
      have hI := th_I.weak (a := a10612) hI
      refine th_getN hx hb hts inT6 hown hK hN hO rfl 3 (by decide) wn_65 rfl rfl dX7_refresh_144 ?_
      have hI := th_I.close hI hq10613 hO (ok_6 hq10626 hq10628 hq10630 hq10632 hq10634 hq10636 hq10638 hq10640 hq10642 hq10644 ⟨by omega, by omega⟩ k10651)
      obtain ⟨a10653, w10655, hO, hq10654, ⟨k10656, k10657⟩, k10658⟩ := op_4 hI hq10632 List.not_mem_nil
      have hI := th_I.weak (a := a10631) hI
      have k10659 : (nI 6).toInt = ((6 : Nat) : Int) := nI_toInt (by omega)
      refine th_cVs (As := []) (rest := [.int v10610]) (n := 0) (d := 0) ⟨hx, hb, hml, hown, hts⟩ (c_X4_size l E D H a10631 6 a10653 w10655 hO (by omega) (by omega) (by omega)) wd_543 wd_507 wd_508 wd_3 wd_509 (by decide +kernel) ⟨by rw [hR]; exact Nat.le_of_ble_eq_true rfl, by rw [hR]; exact Nat.le_of_ble_eq_true rfl⟩ hN hK hS ⟨_, hO⟩ rfl rfl hl.1 rfl (Nat.le_of_ble_eq_true rfl) dX7_refresh_147 ⟨Nat.zero_le _, Nat.zero_le _⟩ (fun r10652 locs hp hS => ?_)
      have hp := hp.symm
      subst hp
      refine lv_icmp_ge (tgt := 189) hx hb dX7_refresh_150 (by decide) (fun c10660 => ?_) (fun c10660 => ?_)
      · skip
        have k10661 := iv_le (X := w10655.toInt) (Y := v10610.toInt) rfl rfl c10660
        have hI := th_I.close hI hq10632 hO (ok_4 hq10654 ⟨by omega, by omega⟩ (by omega))
        rw [hQ]
        exact W.vret hx hb hr (fun t ht hW => ⟨⟨(), rfl, trivial, by rw [ht]; exact hI, hN.warm hW, va_K.moved hW.alike hK⟩, hS.F ht⟩) hS.2.2 dX7_refresh_189
      · skip
        have k10662 := iv_nle (X := w10655.toInt) (Y := v10610.toInt) rfl rfl c10660
        refine lv_aload_n hx hb dX7_refresh_153 rfl (lv_at hl 1 rfl) ?_
        have hI := th_I.close hI hq10632 hO (ok_4 hq10654 ⟨by omega, by omega⟩ (by omega))
        obtain ⟨a10663, a10665, a10667, a10669, a10671, a10673, w10675, hO, hq10664, hq10666, hq10668, hq10670, hq10672, hq10674⟩ := op_9 hI hG0 List.not_mem_nil
        have hI := th_I.weak (a := h0) hI
        refine th_get hx hb hts inT7 hown hK hO rfl 0 (by decide) (hts _ (tb_c wd_189)) rfl rfl dX7_refresh_154 ?_
        have hI := th_I.close hI hG0 hO (ok_9 hq10664 hq10666 hq10668 hq10670 hq10672 hq10674)
        obtain ⟨a10676, a10678, a10680, a10682, a10684, a10686, a10688, a10690, a10692, a10694, w10696, w10699, w10700, w10701, hO, hq10677, hq10679, hq10681, hq10683, hq10685, hq10687, hq10689, hq10691, hq10693, hq10695, ⟨k10697, k10698⟩, k10702⟩ := op_6 hI hq10664 List.not_mem_nil
        have hI := th_I.weak (a := a10663) hI
        refine th_getN hx hb hts inT6 hown hK hN hO rfl 3 (by decide) wn_65 rfl rfl dX7_refresh_157 ?_
        refine lv_iload_n hx hb dX7_refresh_160 rfl (lv_at hl 0 rfl) ?_
        refine lv_iconst (v := 0) hx hb dX7_refresh_161 (by decide) ?_
        have hI := th_I.close hI hq10664 hO (ok_6 hq10677 hq10679 hq10681 hq10683 hq10685 hq10687 hq10689 hq10691 hq10693 hq10695 ⟨by omega, by omega⟩ k10702)
        refine th_cVi (As := [.int v10610, .int 0]) (rest := []) (n := 2) (d := 0) ⟨hx, hb, hml, hown, hts⟩ (c_X4_at l E D G a10682 (6) hq10683 v10610 0) wd_544 wd_519 wd_520 wd_3 wd_521 (by decide +kernel) ⟨by rw [hR]; exact Nat.le_of_ble_eq_true rfl, by rw [hR]; exact Nat.le_of_ble_eq_true rfl⟩ hI hN hK hS (rc_4 hI hq10683 List.not_mem_nil) rfl rfl hl.1 rfl (Nat.le_of_ble_eq_true rfl) dX7_refresh_162 ⟨Nat.zero_le _, Nat.zero_le _⟩ (fun r10703 H locs hp hI hS => ?_)
        refine lv_istore_n (lv' := [(2, .int r10703), (1, .int v10610), (0, .ref h0)]) hx hb dX7_refresh_165 rfl hl (by decide) rfl (fun ls hl => ?_)
        refine lv_iload_n hx hb dX7_refresh_166 rfl (lv_at hl 0 rfl) ?_
        refine th_cSN (As := [.int r10703]) (rest := []) (n := 1) (d := 0) ⟨hx, hb, hml, hown, hts⟩ (c_X11_isCell l H r10703) wn_534 wd_402 wd_1 wd_403 (by decide +kernel) ⟨by rw [hR]; exact Nat.le_of_ble_eq_true rfl, by rw [hR]; exact Nat.le_of_ble_eq_true rfl⟩ hN hS rfl hl.1 rfl (Nat.le_of_ble_eq_true rfl) dX7_refresh_167 ⟨Nat.zero_le _, Nat.zero_le _⟩ (fun r10704 locs hp hS => ?_)
        rcases hp with ⟨rfl, hp⟩ | ⟨rfl, hp⟩
        · skip
          try simp only [rg, not_and, Int.not_le] at hp
          have hp10705 := hp
          refine lv_if_eq (tgt := 183) hx hb dX7_refresh_170 (by decide) (fun c => absurd c (by decide)) (fun _ => ?_)
          refine lv_aload_n hx hb dX7_refresh_173 rfl (lv_at hl 2 rfl) ?_
          obtain ⟨a10706, a10708, a10710, a10712, a10714, a10716, w10718, hO, hq10707, hq10709, hq10711, hq10713, hq10715, hq10717⟩ := op_9 hI hG0 List.not_mem_nil
          have hI := th_I.weak (a := h0) hI
          refine th_get hx hb hts inT7 hown hK hO rfl 5 (by decide) (hts _ (tb_c wd_194)) rfl rfl dX7_refresh_174 ?_
          refine lv_iload_n hx hb dX7_refresh_177 rfl (lv_at hl 0 rfl) ?_
          refine lv_dup2_11 hx hb dX7_refresh_178 rfl rfl ?_
          obtain ⟨_, hA10719⟩ := op_0 hI hq10717 (th_ne hG0 hq10717 (show (9 : Nat) ≠ 0 by decide))
          refine th_iald hx hb hK hA10719 0 rfl (iv_in (X := r10703.toInt) rfl (by omega) (by omega)) dX7_refresh_179 (fun v10720 _ => ?_)
          refine lv_iconst (v := 1) hx hb dX7_refresh_180 (by decide) ?_
          refine lv_iadd hx hb dX7_refresh_181 ?_
          refine lv_topi (fun v10721 e10722 => ?_)
          try have tv10721 : v10721.toInt = v10720.toInt + (1) := iv_add rfl (by decide) e10722 (by omega) (by omega)
          obtain ⟨_, hA10723⟩ := op_0 hI hq10717 (th_ne hG0 hq10717 (show (9 : Nat) ≠ 0 by decide))
          refine th_iast hx hb hK hA10723 0 rfl hS ⟨_, hq10717⟩ (iv_in (X := r10703.toInt) rfl (by omega) (by omega)) dX7_refresh_182 (fun H locs hA10723 oq hS => ?_)
          have hI := th_I.put hI hq10717 hA10723 ok_0 oq
          have hO := hO.kept (oq _ (fun z => th_ne hG0 hq10717 (show (9 : Nat) ≠ 0 by decide) (List.mem_singleton.mpr z.symm)))
          obtain ⟨v10724, e10725⟩ : ∃ y : Int32, y = v10610 + (1) := ⟨_, rfl⟩
          have tv10724 : v10724.toInt = v10610.toInt + (1) := iv_add rfl (by decide) e10725 (by omega) (by omega)
          refine lv_iinc (v := v10724) (lv' := [(1, .int v10724), (2, .int r10703), (0, .ref h0)]) hx hb dX7_refresh_183 hl (k := 1) rfl (by rw [e10725]; rfl) (by decide) rfl (fun ls hl => ?_)
          refine lv_goto (tgt := 139) hx hb dX7_refresh_186 (by decide) ?_
          have hI := th_I.close hI hG0 hO (ok_9 hq10707 hq10709 hq10711 hq10713 hq10715 hq10717)
          exact ih_139 _ (by omega) H locs ls v10724 rfl (lv_sub hl [0, 2] rfl) ⟨by omega, by omega⟩ hI hS
        · skip
          try simp only [rg, not_and, Int.not_le] at hp
          have hp10726 := hp
          refine lv_if_eq (tgt := 183) hx hb dX7_refresh_170 (by decide) (fun _ => ?_) (fun c => absurd c (by decide))
          obtain ⟨v10727, e10728⟩ : ∃ y : Int32, y = v10610 + (1) := ⟨_, rfl⟩
          have tv10727 : v10727.toInt = v10610.toInt + (1) := iv_add rfl (by decide) e10728 (by omega) (by omega)
          refine lv_iinc (v := v10727) (lv' := [(1, .int v10727), (2, .int r10703), (0, .ref h0)]) hx hb dX7_refresh_183 hl (k := 1) rfl (by rw [e10728]; rfl) (by decide) rfl (fun ls hl => ?_)
          refine lv_goto (tgt := 139) hx hb dX7_refresh_186 (by decide) ?_
          exact ih_139 _ (by omega) H locs ls v10727 rfl (lv_sub hl [0, 2] rfl) ⟨by omega, by omega⟩ hI hS
  have J_47 : ∀ (nn : Nat) (H : Heap) (locs : List Loc) (ls : Array Slot) (v10729 : Int32), (Int.toNat (9 - v10729.toInt) = nn) → lv_has ls 4 [(1, .int v10729), (0, .ref h0)] → ((0 : Int) ≤ v10729.toInt ∧ v10729.toInt ≤ 9) → th_I (okC E) D G [] H → va_S (th_A G) s.heap H locs → W p l e R s m args below meth c H locs 0 0 QF (F0 m 47 ls []) := by
    intro nn
    induction nn using Nat.strongRecOn with
    | ind nn ih_47 =>
      intro H locs ls v10729 hm hl k10730 hI hS
      have J_131 : ∀ (H : Heap) (locs : List Loc) (ls : Array Slot) (v10731 : Int32) (v10732 : Int32), lv_has ls 4 [(3, .int v10731), (2, .int v10732), (1, .int v10729), (0, .ref h0)] → ((0 : Int) ≤ v10729.toInt ∧ v10729.toInt ≤ 8) → th_I (okC E) D G [] H → va_S (th_A G) s.heap H locs → W p l e R s m args below meth c H locs 0 0 QF (F0 m 131 ls []) := by
        intro H locs ls v10731 v10732 hl k10734 hI hS
        obtain ⟨v10735, e10736⟩ : ∃ y : Int32, y = v10729 + (1) := ⟨_, rfl⟩
        have tv10735 : v10735.toInt = v10729.toInt + (1) := iv_add rfl (by decide) e10736 (by omega) (by omega)
        refine lv_iinc (v := v10735) (lv' := [(1, .int v10735), (3, .int v10731), (2, .int v10732), (0, .ref h0)]) hx hb dX7_refresh_131 hl (k := 2) rfl (by rw [e10736]; rfl) (by decide) rfl (fun ls hl => ?_)
        refine lv_goto (tgt := 47) hx hb dX7_refresh_134 (by decide) ?_
        exact ih_47 _ (by omega) H locs ls v10735 rfl (lv_sub hl [0, 3] rfl) ⟨by omega, by omega⟩ hI hS
      have J_87 : ∀ (nn : Nat) (H : Heap) (locs : List Loc) (ls : Array Slot) (v10737 : Int32) (v10738 : Int32), (Int.toNat (96 - v10737.toInt) = nn) → lv_has ls 4 [(3, .int v10737), (2, .int v10738), (1, .int v10729), (0, .ref h0)] → ((0 : Int) ≤ v10729.toInt ∧ v10729.toInt ≤ 8) → th_I (okC E) D G [] H → va_S (th_A G) s.heap H locs → W p l e R s m args below meth c H locs 0 0 QF (F0 m 87 ls []) := by
        intro nn
        induction nn using Nat.strongRecOn with
        | ind nn ih_87 =>
          intro H locs ls v10737 v10738 hm hl k10740 hI hS
          refine lv_iload_n hx hb dX7_refresh_87 rfl (lv_at hl 0 rfl) ?_
          have k10741 := iv_lo v10737
          have k10742 := iv_hi v10737
          refine lv_if_lt (tgt := 131) hx hb dX7_refresh_88 (by decide) (fun c10743 => ?_) (fun c10743 => ?_)
          · skip
            have k10744 := iv_lt (X := v10737.toInt) (Y := (0)) rfl (by decide) c10743
            exact J_131 H locs ls v10737 v10738 (lv_sub hl [0, 1, 2, 3] rfl) ⟨by omega, by omega⟩ hI hS
          · skip
            have k10745 := iv_nlt (X := v10737.toInt) (Y := (0)) rfl (by decide) c10743
            refine lv_iload_n hx hb dX7_refresh_91 rfl (lv_at hl 0 rfl) ?_
            refine lv_iload_n hx hb dX7_refresh_92 rfl (lv_at hl 1 rfl) ?_
            have k10746 := iv_lo v10738
            have k10747 := iv_hi v10738
            refine lv_icmp_gt (tgt := 131) hx hb dX7_refresh_93 (by decide) (fun c10748 => ?_) (fun c10748 => ?_)
            · skip
              have k10749 := iv_lt (X := v10738.toInt) (Y := v10737.toInt) rfl rfl c10748
              exact J_131 H locs ls v10737 v10738 (lv_sub hl [0, 1, 2, 3] rfl) ⟨by omega, by omega⟩ hI hS
            · skip
              have k10750 := iv_nlt (X := v10738.toInt) (Y := v10737.toInt) rfl rfl c10748
              refine lv_iload_n hx hb dX7_refresh_96 rfl (lv_at hl 0 rfl) ?_
              refine lv_bipush (v := 96) hx hb dX7_refresh_97 (by decide) ?_
              refine lv_icmp_ge (tgt := 131) hx hb dX7_refresh_99 (by decide) (fun c10751 => ?_) (fun c10751 => ?_)
              · skip
                have k10752 := iv_le (X := (96)) (Y := v10737.toInt) (by decide) rfl c10751
                exact J_131 H locs ls v10737 v10738 (lv_sub hl [0, 1, 2, 3] rfl) ⟨by omega, by omega⟩ hI hS
              · skip
                have k10753 := iv_nle (X := (96)) (Y := v10737.toInt) (by decide) rfl c10751
                refine lv_aload_n hx hb dX7_refresh_102 rfl (lv_at hl 3 rfl) ?_
                obtain ⟨a10754, a10756, a10758, a10760, a10762, a10764, w10766, hO, hq10755, hq10757, hq10759, hq10761, hq10763, hq10765⟩ := op_9 hI hG0 List.not_mem_nil
                have hI := th_I.weak (a := h0) hI
                refine th_get hx hb hts inT7 hown hK hO rfl 4 (by decide) (hts _ (tb_c wd_193)) rfl rfl dX7_refresh_103 ?_
                refine lv_iload_n hx hb dX7_refresh_106 rfl (lv_at hl 0 rfl) ?_
                refine lv_dup2_11 hx hb dX7_refresh_107 rfl rfl ?_
                obtain ⟨_, hA10767⟩ := op_0 hI hq10763 (th_ne hG0 hq10763 (show (9 : Nat) ≠ 0 by decide))
                refine th_iald hx hb hK hA10767 0 rfl (iv_in (X := v10737.toInt) rfl (by omega) (by omega)) dX7_refresh_108 (fun v10768 _ => ?_)
                refine lv_iconst (v := 1) hx hb dX7_refresh_109 (by decide) ?_
                refine lv_aload_n hx hb dX7_refresh_110 rfl (lv_at hl 3 rfl) ?_
                refine th_get hx hb hts inT7 hown hK hO rfl 0 (by decide) (hts _ (tb_c wd_189)) rfl rfl dX7_refresh_111 ?_
                have hI := th_I.close hI hG0 hO (ok_9 hq10755 hq10757 hq10759 hq10761 hq10763 hq10765)
                obtain ⟨a10769, a10771, a10773, a10775, a10777, a10779, a10781, a10783, a10785, a10787, w10789, w10792, w10793, w10794, hO, hq10770, hq10772, hq10774, hq10776, hq10778, hq10780, hq10782, hq10784, hq10786, hq10788, ⟨k10790, k10791⟩, k10795⟩ := op_6 hI hq10755 List.not_mem_nil
                have hI := th_I.weak (a := a10754) hI
                refine th_getN hx hb hts inT6 hown hK hN hO rfl 2 (by decide) wn_62 rfl rfl dX7_refresh_114 ?_
                refine lv_iload_n hx hb dX7_refresh_117 rfl (lv_at hl 2 rfl) ?_
                refine lv_iconst (v := 0) hx hb dX7_refresh_118 (by decide) ?_
                have hI := th_I.close hI hq10755 hO (ok_6 hq10770 hq10772 hq10774 hq10776 hq10778 hq10780 hq10782 hq10784 hq10786 hq10788 ⟨by omega, by omega⟩ k10795)
                refine th_cVi (As := [.int v10729, .int 0]) (rest := [.int 1, .int v10768, .int v10737, .ref a10762]) (n := 2) (d := 0) ⟨hx, hb, hml, hown, hts⟩ (c_X4_at l E D G a10773 (8) hq10774 v10729 0) wd_544 wd_519 wd_520 wd_3 wd_521 (by decide +kernel) ⟨by rw [hR]; exact Nat.le_of_ble_eq_true rfl, by rw [hR]; exact Nat.le_of_ble_eq_true rfl⟩ hI hN hK hS (rc_4 hI hq10774 List.not_mem_nil) rfl rfl hl.1 rfl (Nat.le_of_ble_eq_true rfl) dX7_refresh_119 ⟨Nat.zero_le _, Nat.zero_le _⟩ (fun r10796 H locs hp hI hS => ?_)
                refine lv_ishl hx hb dX7_refresh_122 ?_
                refine lv_topi (fun v10797 e10798 => ?_)
                refine lv_ior hx hb dX7_refresh_123 ?_
                refine lv_topi (fun v10799 e10800 => ?_)
                obtain ⟨_, hA10801⟩ := op_0 hI hq10763 List.not_mem_nil
                refine th_iast hx hb hK hA10801 0 rfl hS ⟨_, hq10763⟩ (iv_in (X := v10737.toInt) rfl (by omega) (by omega)) dX7_refresh_124 (fun H locs hA10801 oq hS => ?_)
                have hI := th_I.put hI hq10763 hA10801 ok_0 oq
                obtain ⟨v10802, e10803⟩ : ∃ y : Int32, y = v10737 + (1) := ⟨_, rfl⟩
                have tv10802 : v10802.toInt = v10737.toInt + (1) := iv_add rfl (by decide) e10803 (by omega) (by omega)
                refine lv_iinc (v := v10802) (lv' := [(3, .int v10802), (2, .int v10738), (1, .int v10729), (0, .ref h0)]) hx hb dX7_refresh_125 hl (k := 0) rfl (by rw [e10803]; rfl) (by decide) rfl (fun ls hl => ?_)
                refine lv_goto (tgt := 87) hx hb dX7_refresh_128 (by decide) ?_
                exact ih_87 _ (by omega) H locs ls v10802 v10738 rfl (lv_sub hl [0, 1, 2, 3] rfl) ⟨by omega, by omega⟩ hI hS
      refine lv_iload_n hx hb dX7_refresh_47 rfl (lv_at hl 0 rfl) ?_
      refine lv_aload_n hx hb dX7_refresh_48 rfl (lv_at hl 1 rfl) ?_
      obtain ⟨a10804, a10806, a10808, a10810, a10812, a10814, w10816, hO, hq10805, hq10807, hq10809, hq10811, hq10813, hq10815⟩ := op_9 hI hG0 List.not_mem_nil
      have hI := th_I.weak (a := h0) hI
      refine th_get hx hb hts inT7 hown hK hO rfl 0 (by decide) (hts _ (tb_c wd_189)) rfl rfl dX7_refresh_49 ?_
      have hI := th_I.close hI hG0 hO (ok_9 hq10805 hq10807 hq10809 hq10811 hq10813 hq10815)
      obtain ⟨a10817, a10819, a10821, a10823, a10825, a10827, a10829, a10831, a10833, a10835, w10837, w10840, w10841, w10842, hO, hq10818, hq10820, hq10822, hq10824, hq10826, hq10828, hq10830, hq10832, hq10834, hq10836, ⟨k10838, k10839⟩, k10843⟩ := op_6 hI hq10805 List.not_mem_nil
      have hI := th_I.weak (a := a10804) hI
      refine th_getN hx hb hts inT6 hown hK hN hO rfl 2 (by decide) wn_62 rfl rfl dX7_refresh_52 ?_
      have hI := th_I.close hI hq10805 hO (ok_6 hq10818 hq10820 hq10822 hq10824 hq10826 hq10828 hq10830 hq10832 hq10834 hq10836 ⟨by omega, by omega⟩ k10843)
      obtain ⟨a10845, w10847, hO, hq10846, ⟨k10848, k10849⟩, k10850⟩ := op_4 hI hq10822 List.not_mem_nil
      have hI := th_I.weak (a := a10821) hI
      have k10851 : (nI 8).toInt = ((8 : Nat) : Int) := nI_toInt (by omega)
      refine th_cVs (As := []) (rest := [.int v10729]) (n := 0) (d := 0) ⟨hx, hb, hml, hown, hts⟩ (c_X4_size l E D H a10821 8 a10845 w10847 hO (by omega) (by omega) (by omega)) wd_543 wd_507 wd_508 wd_3 wd_509 (by decide +kernel) ⟨by rw [hR]; exact Nat.le_of_ble_eq_true rfl, by rw [hR]; exact Nat.le_of_ble_eq_true rfl⟩ hN hK hS ⟨_, hO⟩ rfl rfl hl.1 rfl (Nat.le_of_ble_eq_true rfl) dX7_refresh_55 ⟨Nat.zero_le _, Nat.zero_le _⟩ (fun r10844 locs hp hS => ?_)
      have hp := hp.symm
      subst hp
      refine lv_icmp_ge (tgt := 137) hx hb dX7_refresh_58 (by decide) (fun c10852 => ?_) (fun c10852 => ?_)
      · skip
        have k10853 := iv_le (X := w10847.toInt) (Y := v10729.toInt) rfl rfl c10852
        refine lv_iconst (v := 0) hx hb dX7_refresh_137 (by decide) ?_
        refine lv_istore_n (lv' := [(1, .int 0), (0, .ref h0)]) hx hb dX7_refresh_138 rfl hl (by decide) rfl (fun ls hl => ?_)
        have hI := th_I.close hI hq10822 hO (ok_4 hq10846 ⟨by omega, by omega⟩ (by omega))
        have zl : (0 : Int32).toInt = 0 := by decide
        exact J_139 _ H locs ls 0 rfl (lv_sub hl [0, 1] rfl) ⟨by decide, by decide⟩ hI hS
      · skip
        have k10854 := iv_nle (X := w10847.toInt) (Y := v10729.toInt) rfl rfl c10852
        refine lv_aload_n hx hb dX7_refresh_61 rfl (lv_at hl 1 rfl) ?_
        have hI := th_I.close hI hq10822 hO (ok_4 hq10846 ⟨by omega, by omega⟩ (by omega))
        obtain ⟨a10855, a10857, a10859, a10861, a10863, a10865, w10867, hO, hq10856, hq10858, hq10860, hq10862, hq10864, hq10866⟩ := op_9 hI hG0 List.not_mem_nil
        have hI := th_I.weak (a := h0) hI
        refine th_get hx hb hts inT7 hown hK hO rfl 0 (by decide) (hts _ (tb_c wd_189)) rfl rfl dX7_refresh_62 ?_
        have hI := th_I.close hI hG0 hO (ok_9 hq10856 hq10858 hq10860 hq10862 hq10864 hq10866)
        obtain ⟨a10868, a10870, a10872, a10874, a10876, a10878, a10880, a10882, a10884, a10886, w10888, w10891, w10892, w10893, hO, hq10869, hq10871, hq10873, hq10875, hq10877, hq10879, hq10881, hq10883, hq10885, hq10887, ⟨k10889, k10890⟩, k10894⟩ := op_6 hI hq10856 List.not_mem_nil
        have hI := th_I.weak (a := a10855) hI
        refine th_getN hx hb hts inT6 hown hK hN hO rfl 2 (by decide) wn_62 rfl rfl dX7_refresh_65 ?_
        refine lv_iload_n hx hb dX7_refresh_68 rfl (lv_at hl 0 rfl) ?_
        refine lv_iconst (v := 2) hx hb dX7_refresh_69 (by decide) ?_
        have hI := th_I.close hI hq10856 hO (ok_6 hq10869 hq10871 hq10873 hq10875 hq10877 hq10879 hq10881 hq10883 hq10885 hq10887 ⟨by omega, by omega⟩ k10894)
        refine th_cVi (As := [.int v10729, .int 2]) (rest := []) (n := 2) (d := 0) ⟨hx, hb, hml, hown, hts⟩ (c_X4_at l E D G a10872 (8) hq10873 v10729 2) wd_544 wd_519 wd_520 wd_3 wd_521 (by decide +kernel) ⟨by rw [hR]; exact Nat.le_of_ble_eq_true rfl, by rw [hR]; exact Nat.le_of_ble_eq_true rfl⟩ hI hN hK hS (rc_4 hI hq10873 List.not_mem_nil) rfl rfl hl.1 rfl (Nat.le_of_ble_eq_true rfl) dX7_refresh_70 ⟨Nat.zero_le _, Nat.zero_le _⟩ (fun r10895 H locs hp hI hS => ?_)
        refine lv_istore_n (lv' := [(2, .int r10895), (1, .int v10729), (0, .ref h0)]) hx hb dX7_refresh_73 rfl hl (by decide) rfl (fun ls hl => ?_)
        refine lv_aload_n hx hb dX7_refresh_74 rfl (lv_at hl 2 rfl) ?_
        obtain ⟨a10896, a10898, a10900, a10902, a10904, a10906, w10908, hO, hq10897, hq10899, hq10901, hq10903, hq10905, hq10907⟩ := op_9 hI hG0 List.not_mem_nil
        have hI := th_I.weak (a := h0) hI
        refine th_get hx hb hts inT7 hown hK hO rfl 0 (by decide) (hts _ (tb_c wd_189)) rfl rfl dX7_refresh_75 ?_
        have hI := th_I.close hI hG0 hO (ok_9 hq10897 hq10899 hq10901 hq10903 hq10905 hq10907)
        obtain ⟨a10909, a10911, a10913, a10915, a10917, a10919, a10921, a10923, a10925, a10927, w10929, w10932, w10933, w10934, hO, hq10910, hq10912, hq10914, hq10916, hq10918, hq10920, hq10922, hq10924, hq10926, hq10928, ⟨k10930, k10931⟩, k10935⟩ := op_6 hI hq10897 List.not_mem_nil
        have hI := th_I.weak (a := a10896) hI
        refine th_getN hx hb hts inT6 hown hK hN hO rfl 2 (by decide) wn_62 rfl rfl dX7_refresh_78 ?_
        refine lv_iload_n hx hb dX7_refresh_81 rfl (lv_at hl 1 rfl) ?_
        refine lv_iconst (v := 1) hx hb dX7_refresh_82 (by decide) ?_
        have hI := th_I.close hI hq10897 hO (ok_6 hq10910 hq10912 hq10914 hq10916 hq10918 hq10920 hq10922 hq10924 hq10926 hq10928 ⟨by omega, by omega⟩ k10935)
        refine th_cVi (As := [.int v10729, .int 1]) (rest := []) (n := 2) (d := 0) ⟨hx, hb, hml, hown, hts⟩ (c_X4_at l E D G a10913 (8) hq10914 v10729 1) wd_544 wd_519 wd_520 wd_3 wd_521 (by decide +kernel) ⟨by rw [hR]; exact Nat.le_of_ble_eq_true rfl, by rw [hR]; exact Nat.le_of_ble_eq_true rfl⟩ hI hN hK hS (rc_4 hI hq10914 List.not_mem_nil) rfl rfl hl.1 rfl (Nat.le_of_ble_eq_true rfl) dX7_refresh_83 ⟨Nat.zero_le _, Nat.zero_le _⟩ (fun r10936 H locs hp hI hS => ?_)
        refine lv_istore_n (lv' := [(3, .int r10936), (2, .int r10895), (1, .int v10729), (0, .ref h0)]) hx hb dX7_refresh_86 rfl hl (by decide) rfl (fun ls hl => ?_)
        exact J_87 _ H locs ls r10936 r10895 rfl (lv_sub hl [0, 1, 2, 3] rfl) ⟨by omega, by omega⟩ hI hS
  refine lv_aload_n hx hb dX7_refresh_0 rfl (lv_at hl 0 rfl) ?_
  obtain ⟨a10937, a10939, a10941, a10943, a10945, a10947, w10949, hO, hq10938, hq10940, hq10942, hq10944, hq10946, hq10948⟩ := op_9 hI hG0 List.not_mem_nil
  have hI := th_I.weak (a := h0) hI
  refine th_get hx hb hts inT7 hown hK hO rfl 6 (by decide) (hts _ (tb_c wd_195)) rfl rfl dX7_refresh_1 ?_
  have k10950 := iv_lo w10949
  have k10951 := iv_hi w10949
  refine lv_if_ne (tgt := 8) hx hb dX7_refresh_4 (by decide) (fun c10952 => ?_) (fun c10952 => ?_)
  · skip
    have k10953 := iv_ne (X := w10949.toInt) (Y := (0)) rfl (by decide) c10952
    refine lv_aload_n hx hb dX7_refresh_8 rfl (lv_at hl 0 rfl) ?_
    refine lv_iconst (v := 0) hx hb dX7_refresh_9 (by decide) ?_
    refine th_put (ty := .boolean) hx hb hts inT7 tyX7 tyX7_ok nmX7 hown hK hO hS ⟨_, hG0⟩ rfl 6 (by decide) (hts _ (tb_c wd_195)) rfl rfl (by decide +kernel) (by decide) rfl (Nat.le_of_ble_eq_true rfl) dX7_refresh_10 (fun H locs hO oq hS => ?_)
    have hI := th_I.moved hI oq
    have hO : va_at D vwCl (h0, .inr (7, [.ref a10937, .ref a10939, .ref a10941, .ref a10943, .ref a10945, .ref a10947, .int 0])) H := hO
    refine lv_aload_n hx hb dX7_refresh_13 rfl (lv_at hl 0 rfl) ?_
    refine th_get hx hb hts inT7 hown hK hO rfl 2 (by decide) (hts _ (tb_c wd_191)) rfl rfl dX7_refresh_14 ?_
    refine lv_iconst (v := 0) hx hb dX7_refresh_17 (by decide) ?_
    have hI := th_I.close hI hG0 hO (ok_9 hq10938 hq10940 hq10942 hq10944 hq10946 hq10948)
    refine th_cSv (As := [.ref a10941, .int 0]) (rest := []) (n := 2) (d := 0) ⟨hx, hb, hml, hown, hts⟩ (c_J7_fill_53178 l E D G a10941 (2304) hq10942 (by omega) 0) wd_540 wd_541 wd_15 wd_542 (by decide +kernel) ⟨by rw [hR]; exact Nat.le_of_ble_eq_true rfl, by rw [hR]; exact Nat.le_of_ble_eq_true rfl⟩ hI hN hK hS rfl hl.1 rfl (Nat.le_of_ble_eq_true rfl) dX7_refresh_18 ⟨Nat.zero_le _, Nat.zero_le _⟩ (fun H locs hI hS => ?_)
    refine lv_aload_n hx hb dX7_refresh_21 rfl (lv_at hl 0 rfl) ?_
    obtain ⟨a10955, a10957, a10959, a10961, a10963, a10965, w10967, hO, hq10956, hq10958, hq10960, hq10962, hq10964, hq10966⟩ := op_9 hI hG0 List.not_mem_nil
    have hI := th_I.weak (a := h0) hI
    refine th_get hx hb hts inT7 hown hK hO rfl 3 (by decide) (hts _ (tb_c wd_192)) rfl rfl dX7_refresh_22 ?_
    refine lv_iconst (v := 0) hx hb dX7_refresh_25 (by decide) ?_
    have hI := th_I.close hI hG0 hO (ok_9 hq10956 hq10958 hq10960 hq10962 hq10964 hq10966)
    refine th_cSv (As := [.ref a10961, .int 0]) (rest := []) (n := 2) (d := 0) ⟨hx, hb, hml, hown, hts⟩ (c_J7_fill_53178 l E D G a10961 (2304) hq10962 (by omega) 0) wd_540 wd_541 wd_15 wd_542 (by decide +kernel) ⟨by rw [hR]; exact Nat.le_of_ble_eq_true rfl, by rw [hR]; exact Nat.le_of_ble_eq_true rfl⟩ hI hN hK hS rfl hl.1 rfl (Nat.le_of_ble_eq_true rfl) dX7_refresh_26 ⟨Nat.zero_le _, Nat.zero_le _⟩ (fun H locs hI hS => ?_)
    refine lv_aload_n hx hb dX7_refresh_29 rfl (lv_at hl 0 rfl) ?_
    obtain ⟨a10969, a10971, a10973, a10975, a10977, a10979, w10981, hO, hq10970, hq10972, hq10974, hq10976, hq10978, hq10980⟩ := op_9 hI hG0 List.not_mem_nil
    have hI := th_I.weak (a := h0) hI
    refine th_get hx hb hts inT7 hown hK hO rfl 4 (by decide) (hts _ (tb_c wd_193)) rfl rfl dX7_refresh_30 ?_
    refine lv_iconst (v := 0) hx hb dX7_refresh_33 (by decide) ?_
    have hI := th_I.close hI hG0 hO (ok_9 hq10970 hq10972 hq10974 hq10976 hq10978 hq10980)
    refine th_cSv (As := [.ref a10977, .int 0]) (rest := []) (n := 2) (d := 0) ⟨hx, hb, hml, hown, hts⟩ (c_J7_fill_53178 l E D G a10977 (96) hq10978 (by omega) 0) wd_540 wd_541 wd_15 wd_542 (by decide +kernel) ⟨by rw [hR]; exact Nat.le_of_ble_eq_true rfl, by rw [hR]; exact Nat.le_of_ble_eq_true rfl⟩ hI hN hK hS rfl hl.1 rfl (Nat.le_of_ble_eq_true rfl) dX7_refresh_34 ⟨Nat.zero_le _, Nat.zero_le _⟩ (fun H locs hI hS => ?_)
    refine lv_aload_n hx hb dX7_refresh_37 rfl (lv_at hl 0 rfl) ?_
    obtain ⟨a10983, a10985, a10987, a10989, a10991, a10993, w10995, hO, hq10984, hq10986, hq10988, hq10990, hq10992, hq10994⟩ := op_9 hI hG0 List.not_mem_nil
    have hI := th_I.weak (a := h0) hI
    refine th_get hx hb hts inT7 hown hK hO rfl 5 (by decide) (hts _ (tb_c wd_194)) rfl rfl dX7_refresh_38 ?_
    refine lv_iconst (v := 0) hx hb dX7_refresh_41 (by decide) ?_
    have hI := th_I.close hI hG0 hO (ok_9 hq10984 hq10986 hq10988 hq10990 hq10992 hq10994)
    refine th_cSv (As := [.ref a10993, .int 0]) (rest := []) (n := 2) (d := 0) ⟨hx, hb, hml, hown, hts⟩ (c_J7_fill_53178 l E D G a10993 (24) hq10994 (by omega) 0) wd_540 wd_541 wd_15 wd_542 (by decide +kernel) ⟨by rw [hR]; exact Nat.le_of_ble_eq_true rfl, by rw [hR]; exact Nat.le_of_ble_eq_true rfl⟩ hI hN hK hS rfl hl.1 rfl (Nat.le_of_ble_eq_true rfl) dX7_refresh_42 ⟨Nat.zero_le _, Nat.zero_le _⟩ (fun H locs hI hS => ?_)
    refine lv_iconst (v := 0) hx hb dX7_refresh_45 (by decide) ?_
    refine lv_istore_n (lv' := [(1, .int 0), (0, .ref h0)]) hx hb dX7_refresh_46 rfl hl (by decide) rfl (fun ls hl => ?_)
    have zl : (0 : Int32).toInt = 0 := by decide
    exact J_47 _ H locs ls 0 rfl (lv_sub hl [0, 1] rfl) ⟨by decide, by decide⟩ hI hS
  · skip
    have k10997 := iv_eq (X := w10949.toInt) (Y := (0)) rfl (by decide) c10952
    have hI := th_I.close hI hG0 hO (ok_9 hq10938 hq10940 hq10942 hq10944 hq10946 hq10948)
    rw [hQ]
    exact W.vret hx hb hr (fun t ht hW => ⟨⟨(), rfl, trivial, by rw [ht]; exact hI, hN.warm hW, va_K.moved hW.alike hK⟩, hS.F ht⟩) hS.2.2 dX7_refresh_7
theorem dX7_walk_0g : (decode cX7_walk 0 = .ok (.iload_n 2, 1)) ∧ (decode cX7_walk 1 = .ok (.invokestatic 47, 3)) ∧ (decode cX7_walk 4 = .ok (.ifCond .eq 12, 3)) ∧ (decode cX7_walk 7 = .ok (.aload_n 0, 1)) ∧ (decode cX7_walk 8 = .ok (.getfield 25, 3)) ∧ (decode cX7_walk 11 = .ok (.iload_n 2, 1)) ∧ (decode cX7_walk 12 = .ok (.iaload, 1)) ∧ (decode cX7_walk 13 = .ok (.goto 4, 3)) ∧ (decode cX7_walk 16 = .ok (.iconst 0, 1)) ∧ (decode cX7_walk 17 = .ok (.istore 4, 2)) := by decide +kernel
theorem dX7_walk_0 : decode cX7_walk 0 = .ok (.iload_n 2, 1) := dX7_walk_0g.1
theorem dX7_walk_1 : decode cX7_walk 1 = .ok (.invokestatic 47, 3) := dX7_walk_0g.2.1
theorem dX7_walk_4 : decode cX7_walk 4 = .ok (.ifCond .eq 12, 3) := dX7_walk_0g.2.2.1
theorem dX7_walk_7 : decode cX7_walk 7 = .ok (.aload_n 0, 1) := dX7_walk_0g.2.2.2.1
theorem dX7_walk_8 : decode cX7_walk 8 = .ok (.getfield 25, 3) := dX7_walk_0g.2.2.2.2.1
theorem dX7_walk_11 : decode cX7_walk 11 = .ok (.iload_n 2, 1) := dX7_walk_0g.2.2.2.2.2.1
theorem dX7_walk_12 : decode cX7_walk 12 = .ok (.iaload, 1) := dX7_walk_0g.2.2.2.2.2.2.1
theorem dX7_walk_13 : decode cX7_walk 13 = .ok (.goto 4, 3) := dX7_walk_0g.2.2.2.2.2.2.2.1
theorem dX7_walk_16 : decode cX7_walk 16 = .ok (.iconst 0, 1) := dX7_walk_0g.2.2.2.2.2.2.2.2.1
theorem dX7_walk_17 : decode cX7_walk 17 = .ok (.istore 4, 2) := dX7_walk_0g.2.2.2.2.2.2.2.2.2
theorem dX7_walk_19g : (decode cX7_walk 19 = .ok (.iload_n 1, 1)) ∧ (decode cX7_walk 20 = .ok (.istore 5, 2)) ∧ (decode cX7_walk 22 = .ok (.iconst 0, 1)) ∧ (decode cX7_walk 23 = .ok (.istore 6, 2)) ∧ (decode cX7_walk 25 = .ok (.iload 6, 2)) ∧ (decode cX7_walk 27 = .ok (.iload_n 3, 1)) ∧ (decode cX7_walk 28 = .ok (.if_icmp .ge 29, 3)) ∧ (decode cX7_walk 31 = .ok (.iload 5, 2)) ∧ (decode cX7_walk 33 = .ok (.bipush 24, 2)) ∧ (decode cX7_walk 35 = .ok (.if_icmp .ge 22, 3)) := by decide +kernel
theorem dX7_walk_19 : decode cX7_walk 19 = .ok (.iload_n 1, 1) := dX7_walk_19g.1
theorem dX7_walk_20 : decode cX7_walk 20 = .ok (.istore 5, 2) := dX7_walk_19g.2.1
theorem dX7_walk_22 : decode cX7_walk 22 = .ok (.iconst 0, 1) := dX7_walk_19g.2.2.1
theorem dX7_walk_23 : decode cX7_walk 23 = .ok (.istore 6, 2) := dX7_walk_19g.2.2.2.1
theorem dX7_walk_25 : decode cX7_walk 25 = .ok (.iload 6, 2) := dX7_walk_19g.2.2.2.2.1
theorem dX7_walk_27 : decode cX7_walk 27 = .ok (.iload_n 3, 1) := dX7_walk_19g.2.2.2.2.2.1
theorem dX7_walk_28 : decode cX7_walk 28 = .ok (.if_icmp .ge 29, 3) := dX7_walk_19g.2.2.2.2.2.2.1
theorem dX7_walk_31 : decode cX7_walk 31 = .ok (.iload 5, 2) := dX7_walk_19g.2.2.2.2.2.2.2.1
theorem dX7_walk_33 : decode cX7_walk 33 = .ok (.bipush 24, 2) := dX7_walk_19g.2.2.2.2.2.2.2.2.1
theorem dX7_walk_35 : decode cX7_walk 35 = .ok (.if_icmp .ge 22, 3) := dX7_walk_19g.2.2.2.2.2.2.2.2.2
theorem dX7_walk_38g : (decode cX7_walk 38 = .ok (.iload 4, 2)) ∧ (decode cX7_walk 40 = .ok (.iload 5, 2)) ∧ (decode cX7_walk 42 = .ok (.ishr, 1)) ∧ (decode cX7_walk 43 = .ok (.iconst 1, 1)) ∧ (decode cX7_walk 44 = .ok (.iand, 1)) ∧ (decode cX7_walk 45 = .ok (.ifCond .ne 12, 3)) ∧ (decode cX7_walk 48 = .ok (.iinc 5 1, 3)) ∧ (decode cX7_walk 51 = .ok (.iinc 6 1, 3)) ∧ (decode cX7_walk 54 = .ok (.goto (-29), 3)) ∧ (decode cX7_walk 57 = .ok (.iconst 0, 1)) := by decide +kernel
theorem dX7_walk_38 : decode cX7_walk 38 = .ok (.iload 4, 2) := dX7_walk_38g.1
theorem dX7_walk_40 : decode cX7_walk 40 = .ok (.iload 5, 2) := dX7_walk_38g.2.1
theorem dX7_walk_42 : decode cX7_walk 42 = .ok (.ishr, 1) := dX7_walk_38g.2.2.1
theorem dX7_walk_43 : decode cX7_walk 43 = .ok (.iconst 1, 1) := dX7_walk_38g.2.2.2.1
theorem dX7_walk_44 : decode cX7_walk 44 = .ok (.iand, 1) := dX7_walk_38g.2.2.2.2.1
theorem dX7_walk_45 : decode cX7_walk 45 = .ok (.ifCond .ne 12, 3) := dX7_walk_38g.2.2.2.2.2.1
theorem dX7_walk_48 : decode cX7_walk 48 = .ok (.iinc 5 1, 3) := dX7_walk_38g.2.2.2.2.2.2.1
theorem dX7_walk_51 : decode cX7_walk 51 = .ok (.iinc 6 1, 3) := dX7_walk_38g.2.2.2.2.2.2.2.1
theorem dX7_walk_54 : decode cX7_walk 54 = .ok (.goto (-29), 3) := dX7_walk_38g.2.2.2.2.2.2.2.2.1
theorem dX7_walk_57 : decode cX7_walk 57 = .ok (.iconst 0, 1) := dX7_walk_38g.2.2.2.2.2.2.2.2.2
theorem dX7_walk_58g : (decode cX7_walk 58 = .ok (.istore 6, 2)) ∧ (decode cX7_walk 60 = .ok (.iload 6, 2)) ∧ (decode cX7_walk 62 = .ok (.iload_n 3, 1)) ∧ (decode cX7_walk 63 = .ok (.if_icmp .le 29, 3)) ∧ (decode cX7_walk 66 = .ok (.iload 5, 2)) ∧ (decode cX7_walk 68 = .ok (.ifCond .le 24, 3)) ∧ (decode cX7_walk 71 = .ok (.iload 4, 2)) ∧ (decode cX7_walk 73 = .ok (.iload 5, 2)) ∧ (decode cX7_walk 75 = .ok (.iconst 1, 1)) ∧ (decode cX7_walk 76 = .ok (.isub, 1)) := by decide +kernel
theorem dX7_walk_58 : decode cX7_walk 58 = .ok (.istore 6, 2) := dX7_walk_58g.1
theorem dX7_walk_60 : decode cX7_walk 60 = .ok (.iload 6, 2) := dX7_walk_58g.2.1
theorem dX7_walk_62 : decode cX7_walk 62 = .ok (.iload_n 3, 1) := dX7_walk_58g.2.2.1
theorem dX7_walk_63 : decode cX7_walk 63 = .ok (.if_icmp .le 29, 3) := dX7_walk_58g.2.2.2.1
theorem dX7_walk_66 : decode cX7_walk 66 = .ok (.iload 5, 2) := dX7_walk_58g.2.2.2.2.1
theorem dX7_walk_68 : decode cX7_walk 68 = .ok (.ifCond .le 24, 3) := dX7_walk_58g.2.2.2.2.2.1
theorem dX7_walk_71 : decode cX7_walk 71 = .ok (.iload 4, 2) := dX7_walk_58g.2.2.2.2.2.2.1
theorem dX7_walk_73 : decode cX7_walk 73 = .ok (.iload 5, 2) := dX7_walk_58g.2.2.2.2.2.2.2.1
theorem dX7_walk_75 : decode cX7_walk 75 = .ok (.iconst 1, 1) := dX7_walk_58g.2.2.2.2.2.2.2.2.1
theorem dX7_walk_76 : decode cX7_walk 76 = .ok (.isub, 1) := dX7_walk_58g.2.2.2.2.2.2.2.2.2
theorem dX7_walk_77g : (decode cX7_walk 77 = .ok (.ishr, 1)) ∧ (decode cX7_walk 78 = .ok (.iconst 1, 1)) ∧ (decode cX7_walk 79 = .ok (.iand, 1)) ∧ (decode cX7_walk 80 = .ok (.ifCond .ne 12, 3)) ∧ (decode cX7_walk 83 = .ok (.iinc 5 (-1), 3)) ∧ (decode cX7_walk 86 = .ok (.iinc 6 (-1), 3)) ∧ (decode cX7_walk 89 = .ok (.goto (-29), 3)) ∧ (decode cX7_walk 92 = .ok (.iload 5, 2)) ∧ (decode cX7_walk 94 = .ok (.ireturn, 1)) := by decide +kernel
theorem dX7_walk_77 : decode cX7_walk 77 = .ok (.ishr, 1) := dX7_walk_77g.1
theorem dX7_walk_78 : decode cX7_walk 78 = .ok (.iconst 1, 1) := dX7_walk_77g.2.1
theorem dX7_walk_79 : decode cX7_walk 79 = .ok (.iand, 1) := dX7_walk_77g.2.2.1
theorem dX7_walk_80 : decode cX7_walk 80 = .ok (.ifCond .ne 12, 3) := dX7_walk_77g.2.2.2.1
theorem dX7_walk_83 : decode cX7_walk 83 = .ok (.iinc 5 (-1), 3) := dX7_walk_77g.2.2.2.2.1
theorem dX7_walk_86 : decode cX7_walk 86 = .ok (.iinc 6 (-1), 3) := dX7_walk_77g.2.2.2.2.2.1
theorem dX7_walk_89 : decode cX7_walk 89 = .ok (.goto (-29), 3) := dX7_walk_77g.2.2.2.2.2.2.1
theorem dX7_walk_92 : decode cX7_walk 92 = .ok (.iload 5, 2) := dX7_walk_77g.2.2.2.2.2.2.2.1
theorem dX7_walk_94 : decode cX7_walk 94 = .ok (.ireturn, 1) := dX7_walk_77g.2.2.2.2.2.2.2.2
set_option maxHeartbeats 4000000 in
set_option maxRecDepth 100000 in
theorem c_X7_walk (l : Launch) (E : Nat → Nat) (D : va_G) (G : th_G) (h0 : Nat) (hG0 : G h0 = some (9, 0)) (x1 x2 x3 : Int32) : Met l yX7_walk (tb (.code yX7_walk cX7_walk 7 (some .int))) (rm 1) (va_Pc [.ref h0, .int x1, .int x2, .int x3] (th_P E D G)) (QI E D G (fun r => True)) 0 0 (th_A G) := by
  refine Met.ofW (cc := cX7_walk) (maxL := 7) (ret := (some .int)) (by decide) rfl ?_
  intro p e s m args below meth c s₁ B hml hv
  obtain ⟨hav, hI, hN, hK⟩ := hv
  have hx := B.exec
  have hb := B.bytes
  have hr := B.returns
  have hts := atoms_spec (ws := tb (.code yX7_walk cX7_walk 7 (some .int))) B.pre
  have hown : s.vm.findClass RX7 = some m.cls := findClass_of_methodNamed B.named
  have hlocks := B.notSynchronized
  have hS : va_S (th_A G) s.heap s.heap [] := va_S.rf
  have hl := lv_entry ([.ref h0, .int x1, .int x2, .int x3]) (n := 7) (Nat.le_of_ble_eq_true rfl)
  rw [show entryFrame m args 7 = entryFrame m ([.ref h0, .int x1, .int x2, .int x3] : List Value).toArray 7 from by rw [hav], lg_entry_eq]
  generalize (lg_sl ([.ref h0, .int x1, .int x2, .int x3]) ++ List.replicate (7 - (lg_sl ([.ref h0, .int x1, .int x2, .int x3])).length) Slot.unset).toArray = ls at hl ⊢
  have hl : lv_has ls 7 [(0, .ref h0), (1, .int x1), (2, .int x2), (3, .int x3)] := hl
  generalize hR : (headSpec (tb (.code yX7_walk cX7_walk 7 (some .int))) (rm 1)).room = R
  have hR := hR.symm
  generalize hQ : MQ below (QI E D G (fun r => True)) args s 0 0 (th_A G) = QF
  have hQ := hQ.symm
  have J_60 : ∀ (nn : Nat) (H : Heap) (locs : List Loc) (ls : Array Slot) (v2425 : Int32) (v2426 : Int32) (v2427 : Int32), (Int.toNat (v2426.toInt - (0)) = nn) → lv_has ls 7 [(6, .int v2425), (5, .int v2426), (4, .int v2427), (0, .ref h0), (1, .int x1), (2, .int x2), (3, .int x3)] → (v2425.toInt ≤ 0) → th_I (okC E) D G [] H → va_S (th_A G) s.heap H locs → W p l e R s m args below meth c H locs 0 0 QF (F0 m 60 ls []) := by
    intro nn
    induction nn using Nat.strongRecOn with
    | ind nn ih_60 =>
      intro H locs ls v2425 v2426 v2427 hm hl k2428 hI hS
      refine lv_iload hx hb dX7_walk_60 (lv_at hl 0 rfl) ?_
      refine lv_iload_n hx hb dX7_walk_62 rfl (lv_at hl 6 rfl) ?_
      have k2429 := iv_lo v2425
      have k2430 := iv_hi v2425
      have k2431 := iv_lo x3
      have k2432 := iv_hi x3
      refine lv_icmp_le (tgt := 92) hx hb dX7_walk_63 (by decide) (fun c2433 => ?_) (fun c2433 => ?_)
      · skip
        have k2434 := iv_le (X := v2425.toInt) (Y := x3.toInt) rfl rfl c2433
        refine lv_iload hx hb dX7_walk_92 (lv_at hl 1 rfl) ?_
        have hpost : True := trivial
        rw [hQ]
        exact W.iret (v := v2426) hx hb hr (fun t ht hW => ⟨⟨v2426, (), rfl, hpost, by rw [ht]; exact hI, hN.warm hW, va_K.moved hW.alike hK⟩, hS.F ht⟩) hS.2.2 dX7_walk_94
      · skip
        have k2435 := iv_nle (X := v2425.toInt) (Y := x3.toInt) rfl rfl c2433
        refine lv_iload hx hb dX7_walk_66 (lv_at hl 1 rfl) ?_
        have k2436 := iv_lo v2426
        have k2437 := iv_hi v2426
        refine lv_if_le (tgt := 92) hx hb dX7_walk_68 (by decide) (fun c2438 => ?_) (fun c2438 => ?_)
        · skip
          have k2439 := iv_le (X := v2426.toInt) (Y := (0)) rfl (by decide) c2438
          refine lv_iload hx hb dX7_walk_92 (lv_at hl 1 rfl) ?_
          have hpost : True := trivial
          rw [hQ]
          exact W.iret (v := v2426) hx hb hr (fun t ht hW => ⟨⟨v2426, (), rfl, hpost, by rw [ht]; exact hI, hN.warm hW, va_K.moved hW.alike hK⟩, hS.F ht⟩) hS.2.2 dX7_walk_94
        · skip
          have k2440 := iv_nle (X := v2426.toInt) (Y := (0)) rfl (by decide) c2438
          refine lv_iload hx hb dX7_walk_71 (lv_at hl 2 rfl) ?_
          refine lv_iload hx hb dX7_walk_73 (lv_at hl 1 rfl) ?_
          refine lv_iconst (v := 1) hx hb dX7_walk_75 (by decide) ?_
          refine lv_isub hx hb dX7_walk_76 ?_
          refine lv_topi (fun v2441 e2442 => ?_)
          have tv2441 : v2441.toInt = v2426.toInt - (1) := iv_sub rfl (by decide) e2442 (by omega) (by omega)
          refine lv_ishr hx hb dX7_walk_77 ?_
          refine lv_topi (fun v2443 e2444 => ?_)
          refine lv_iconst (v := 1) hx hb dX7_walk_78 (by decide) ?_
          refine lv_iand hx hb dX7_walk_79 ?_
          refine lv_topi (fun v2445 e2446 => ?_)
          have tv2445 := iv_andr (m := 1) (M := 1) e2446 (by decide) (by decide)
          refine lv_if_ne (tgt := 92) hx hb dX7_walk_80 (by decide) (fun c2447 => ?_) (fun c2447 => ?_)
          · skip
            have k2448 := iv_ne (X := v2445.toInt) (Y := (0)) rfl (by decide) c2447
            refine lv_iload hx hb dX7_walk_92 (lv_at hl 1 rfl) ?_
            have hpost : True := trivial
            rw [hQ]
            exact W.iret (v := v2426) hx hb hr (fun t ht hW => ⟨⟨v2426, (), rfl, hpost, by rw [ht]; exact hI, hN.warm hW, va_K.moved hW.alike hK⟩, hS.F ht⟩) hS.2.2 dX7_walk_94
          · skip
            have k2449 := iv_eq (X := v2445.toInt) (Y := (0)) rfl (by decide) c2447
            obtain ⟨v2450, e2451⟩ : ∃ y : Int32, y = v2426 + (-1) := ⟨_, rfl⟩
            have tv2450 : v2450.toInt = v2426.toInt + (-1) := iv_add rfl (by decide) e2451 (by omega) (by omega)
            refine lv_iinc (v := v2450) (lv' := [(5, .int v2450), (6, .int v2425), (4, .int v2427), (0, .ref h0), (1, .int x1), (2, .int x2), (3, .int x3)]) hx hb dX7_walk_83 hl (k := 1) rfl (by rw [e2451]; rfl) (by decide) rfl (fun ls hl => ?_)
            obtain ⟨v2452, e2453⟩ : ∃ y : Int32, y = v2425 + (-1) := ⟨_, rfl⟩
            have tv2452 : v2452.toInt = v2425.toInt + (-1) := iv_add rfl (by decide) e2453 (by omega) (by omega)
            refine lv_iinc (v := v2452) (lv' := [(6, .int v2452), (5, .int v2450), (4, .int v2427), (0, .ref h0), (1, .int x1), (2, .int x2), (3, .int x3)]) hx hb dX7_walk_86 hl (k := 1) rfl (by rw [e2453]; rfl) (by decide) rfl (fun ls hl => ?_)
            refine lv_goto (tgt := 60) hx hb dX7_walk_89 (by decide) ?_
            exact ih_60 _ (by omega) H locs ls v2452 v2450 v2427 rfl (lv_sub hl [0, 1, 2, 3, 4, 5, 6] rfl) (by omega) hI hS
  have J_57 : ∀ (H : Heap) (locs : List Loc) (ls : Array Slot) (v2454 : Int32) (v2455 : Int32) (v2456 : Int32), lv_has ls 7 [(6, .int v2454), (5, .int v2455), (4, .int v2456), (0, .ref h0), (1, .int x1), (2, .int x2), (3, .int x3)] → ((0 : Int) ≤ v2454.toInt) → th_I (okC E) D G [] H → va_S (th_A G) s.heap H locs → W p l e R s m args below meth c H locs 0 0 QF (F0 m 57 ls []) := by
    intro H locs ls v2454 v2455 v2456 hl k2457 hI hS
    refine lv_iconst (v := 0) hx hb dX7_walk_57 (by decide) ?_
    refine lv_istore (lv' := [(6, .int 0), (5, .int v2455), (4, .int v2456), (0, .ref h0), (1, .int x1), (2, .int x2), (3, .int x3)]) hx hb dX7_walk_58 hl (by decide) rfl (fun ls hl => ?_)
    exact J_60 _ H locs ls 0 v2455 v2456 rfl (lv_sub hl [0, 1, 2, 3, 4, 5, 6] rfl) (by decide) hI hS
  have J_25 : ∀ (nn : Nat) (H : Heap) (locs : List Loc) (ls : Array Slot) (v2458 : Int32) (v2459 : Int32) (v2460 : Int32), (Int.toNat (24 - v2459.toInt) = nn) → lv_has ls 7 [(6, .int v2458), (5, .int v2459), (4, .int v2460), (0, .ref h0), (1, .int x1), (2, .int x2), (3, .int x3)] → ((0 : Int) ≤ v2458.toInt) → th_I (okC E) D G [] H → va_S (th_A G) s.heap H locs → W p l e R s m args below meth c H locs 0 0 QF (F0 m 25 ls []) := by
    intro nn
    induction nn using Nat.strongRecOn with
    | ind nn ih_25 =>
      intro H locs ls v2458 v2459 v2460 hm hl k2461 hI hS
      refine lv_iload hx hb dX7_walk_25 (lv_at hl 0 rfl) ?_
      refine lv_iload_n hx hb dX7_walk_27 rfl (lv_at hl 6 rfl) ?_
      have k2462 := iv_lo v2458
      have k2463 := iv_hi v2458
      have k2464 := iv_lo x3
      have k2465 := iv_hi x3
      refine lv_icmp_ge (tgt := 57) hx hb dX7_walk_28 (by decide) (fun c2466 => ?_) (fun c2466 => ?_)
      · skip
        have k2467 := iv_le (X := x3.toInt) (Y := v2458.toInt) rfl rfl c2466
        exact J_57 H locs ls v2458 v2459 v2460 (lv_sub hl [0, 1, 2, 3, 4, 5, 6] rfl) (by omega) hI hS
      · skip
        have k2468 := iv_nle (X := x3.toInt) (Y := v2458.toInt) rfl rfl c2466
        refine lv_iload hx hb dX7_walk_31 (lv_at hl 1 rfl) ?_
        refine lv_bipush (v := 24) hx hb dX7_walk_33 (by decide) ?_
        have k2469 := iv_lo v2459
        have k2470 := iv_hi v2459
        refine lv_icmp_ge (tgt := 57) hx hb dX7_walk_35 (by decide) (fun c2471 => ?_) (fun c2471 => ?_)
        · skip
          have k2472 := iv_le (X := (24)) (Y := v2459.toInt) (by decide) rfl c2471
          exact J_57 H locs ls v2458 v2459 v2460 (lv_sub hl [0, 1, 2, 3, 4, 5, 6] rfl) (by omega) hI hS
        · skip
          have k2473 := iv_nle (X := (24)) (Y := v2459.toInt) (by decide) rfl c2471
          refine lv_iload hx hb dX7_walk_38 (lv_at hl 2 rfl) ?_
          refine lv_iload hx hb dX7_walk_40 (lv_at hl 1 rfl) ?_
          refine lv_ishr hx hb dX7_walk_42 ?_
          refine lv_topi (fun v2474 e2475 => ?_)
          refine lv_iconst (v := 1) hx hb dX7_walk_43 (by decide) ?_
          refine lv_iand hx hb dX7_walk_44 ?_
          refine lv_topi (fun v2476 e2477 => ?_)
          have tv2476 := iv_andr (m := 1) (M := 1) e2477 (by decide) (by decide)
          refine lv_if_ne (tgt := 57) hx hb dX7_walk_45 (by decide) (fun c2478 => ?_) (fun c2478 => ?_)
          · skip
            have k2479 := iv_ne (X := v2476.toInt) (Y := (0)) rfl (by decide) c2478
            exact J_57 H locs ls v2458 v2459 v2460 (lv_sub hl [0, 1, 2, 3, 4, 5, 6] rfl) (by omega) hI hS
          · skip
            have k2480 := iv_eq (X := v2476.toInt) (Y := (0)) rfl (by decide) c2478
            obtain ⟨v2481, e2482⟩ : ∃ y : Int32, y = v2459 + (1) := ⟨_, rfl⟩
            have tv2481 : v2481.toInt = v2459.toInt + (1) := iv_add rfl (by decide) e2482 (by omega) (by omega)
            refine lv_iinc (v := v2481) (lv' := [(5, .int v2481), (6, .int v2458), (4, .int v2460), (0, .ref h0), (1, .int x1), (2, .int x2), (3, .int x3)]) hx hb dX7_walk_48 hl (k := 1) rfl (by rw [e2482]; rfl) (by decide) rfl (fun ls hl => ?_)
            obtain ⟨v2483, e2484⟩ : ∃ y : Int32, y = v2458 + (1) := ⟨_, rfl⟩
            have tv2483 : v2483.toInt = v2458.toInt + (1) := iv_add rfl (by decide) e2484 (by omega) (by omega)
            refine lv_iinc (v := v2483) (lv' := [(6, .int v2483), (5, .int v2481), (4, .int v2460), (0, .ref h0), (1, .int x1), (2, .int x2), (3, .int x3)]) hx hb dX7_walk_51 hl (k := 1) rfl (by rw [e2484]; rfl) (by decide) rfl (fun ls hl => ?_)
            refine lv_goto (tgt := 25) hx hb dX7_walk_54 (by decide) ?_
            exact ih_25 _ (by omega) H locs ls v2483 v2481 v2460 rfl (lv_sub hl [0, 1, 2, 3, 4, 5, 6] rfl) (by omega) hI hS
  have J_17 : ∀ (H : Heap) (locs : List Loc) (ls : Array Slot) (v2485 : Int32), lv_has ls 7 [(0, .ref h0), (1, .int x1), (2, .int x2), (3, .int x3)] → th_I (okC E) D G [] H → va_S (th_A G) s.heap H locs → W p l e R s m args below meth c H locs 0 0 QF (F0 m 17 ls [.int v2485]) := by
    intro H locs ls v2485 hl  hI hS
    refine lv_istore (lv' := [(4, .int v2485), (0, .ref h0), (1, .int x1), (2, .int x2), (3, .int x3)]) hx hb dX7_walk_17 hl (by decide) rfl (fun ls hl => ?_)
    refine lv_iload_n hx hb dX7_walk_19 rfl (lv_at hl 2 rfl) ?_
    refine lv_istore (lv' := [(5, .int x1), (4, .int v2485), (0, .ref h0), (1, .int x1), (2, .int x2), (3, .int x3)]) hx hb dX7_walk_20 hl (by decide) rfl (fun ls hl => ?_)
    refine lv_iconst (v := 0) hx hb dX7_walk_22 (by decide) ?_
    refine lv_istore (lv' := [(6, .int 0), (5, .int x1), (4, .int v2485), (0, .ref h0), (1, .int x1), (2, .int x2), (3, .int x3)]) hx hb dX7_walk_23 hl (by decide) rfl (fun ls hl => ?_)
    exact J_25 _ H locs ls 0 x1 v2485 rfl (lv_sub hl [0, 1, 2, 3, 4, 5, 6] rfl) (by decide) hI hS
  refine lv_iload_n hx hb dX7_walk_0 rfl (lv_at hl 2 rfl) ?_
  refine th_cSN (As := [.int x2]) (rest := []) (n := 1) (d := 0) ⟨hx, hb, hml, hown, hts⟩ (c_X11_isHour l s.heap x2) wn_535 wd_467 wd_1 wd_468 (by decide +kernel) ⟨by rw [hR]; exact Nat.le_of_ble_eq_true rfl, by rw [hR]; exact Nat.le_of_ble_eq_true rfl⟩ hN hS rfl hl.1 rfl (Nat.le_of_ble_eq_true rfl) dX7_walk_1 ⟨Nat.zero_le _, Nat.zero_le _⟩ (fun r2486 locs hp hS => ?_)
  rcases hp with ⟨rfl, hp⟩ | ⟨rfl, hp⟩
  · skip
    try simp only [rg, not_and, Int.not_le] at hp
    have hp2487 := hp
    refine lv_if_eq (tgt := 16) hx hb dX7_walk_4 (by decide) (fun c => absurd c (by decide)) (fun _ => ?_)
    refine lv_aload_n hx hb dX7_walk_7 rfl (lv_at hl 0 rfl) ?_
    obtain ⟨a2488, a2490, a2492, a2494, a2496, a2498, w2500, hO, hq2489, hq2491, hq2493, hq2495, hq2497, hq2499⟩ := op_9 hI hG0 List.not_mem_nil
    have hI := th_I.weak (a := h0) hI
    refine th_get hx hb hts inT7 hown hK hO rfl 4 (by decide) (hts _ (tb_c wd_193)) rfl rfl dX7_walk_8 ?_
    refine lv_iload_n hx hb dX7_walk_11 rfl (lv_at hl 2 rfl) ?_
    obtain ⟨_, hA2501⟩ := op_0 hI hq2497 (th_ne hG0 hq2497 (show (9 : Nat) ≠ 0 by decide))
    refine th_iald hx hb hK hA2501 0 rfl (iv_in (X := x2.toInt) rfl (by omega) (by omega)) dX7_walk_12 (fun v2502 _ => ?_)
    refine lv_goto (tgt := 17) hx hb dX7_walk_13 (by decide) ?_
    have hI := th_I.close hI hG0 hO (ok_9 hq2489 hq2491 hq2493 hq2495 hq2497 hq2499)
    exact J_17 s.heap locs ls v2502 (lv_sub hl [0, 1, 2, 3] rfl)  hI hS
  · skip
    try simp only [rg, not_and, Int.not_le] at hp
    have hp2503 := hp
    refine lv_if_eq (tgt := 16) hx hb dX7_walk_4 (by decide) (fun _ => ?_) (fun c => absurd c (by decide))
    refine lv_iconst (v := 0) hx hb dX7_walk_16 (by decide) ?_
    exact J_17 s.heap locs ls 0 (lv_sub hl [0, 1, 2, 3] rfl)  hI hS
