theorem wn_534 : (Cond.methodLinkNest RX7 (43 : Nat) yX11_isCell "NineRiver") ∈ lw_tbl := List.mem_append_right _ (List.mem_of_getElem? (i := 534) (by decide +kernel))
theorem wn_535 : (Cond.methodLinkNest RX7 (47 : Nat) yX11_isHour "NineRiver") ∈ lw_tbl := List.mem_append_right _ (List.mem_of_getElem? (i := 535) (by decide +kernel))
theorem wn_62 : (Cond.fieldLinkNest RX7 (126 : Nat) "NineRiver$State" "gates" "LNineRiver$Rows;" "NineRiver") ∈ lw_tbl := List.mem_append_right _ (List.mem_of_getElem? (i := 62) (by decide +kernel))
theorem wn_65 : (Cond.fieldLinkNest RX7 (139 : Nat) "NineRiver$State" "mills" "LNineRiver$Rows;" "NineRiver") ∈ lw_tbl := List.mem_append_right _ (List.mem_of_getElem? (i := 65) (by decide +kernel))
theorem wd_15 : (Cond.initialized RJ7) ∈ TB := tw 15 (by decide +kernel) (by decide +kernel)
theorem wd_189 : (Cond.fieldLink RX7 (35 : Nat) "NineRiver$Stream" "state" "LNineRiver$State;") ∈ TB := tw 189 (by decide +kernel) (by decide +kernel)
theorem wd_191 : (Cond.fieldLink RX7 (18 : Nat) "NineRiver$Stream" "ways" "[I") ∈ TB := tw 191 (by decide +kernel) (by decide +kernel)
theorem wd_192 : (Cond.fieldLink RX7 (22 : Nat) "NineRiver$Stream" "prices" "[I") ∈ TB := tw 192 (by decide +kernel) (by decide +kernel)
theorem wd_193 : (Cond.fieldLink RX7 (25 : Nat) "NineRiver$Stream" "shutGates" "[I") ∈ TB := tw 193 (by decide +kernel) (by decide +kernel)
theorem wd_194 : (Cond.fieldLink RX7 (28 : Nat) "NineRiver$Stream" "millsAt" "[I") ∈ TB := tw 194 (by decide +kernel) (by decide +kernel)
theorem wd_507 : (Jvm.Cond.instanceMethod yX4_size) ∈ TB := tw 507 (by decide +kernel) (by decide +kernel)
theorem wd_508 : (Cond.selects RX4 yX4_size yX4_size) ∈ TB := tw 508 (by decide +kernel) (by decide +kernel)
theorem wd_509 : (Cond.code yX4_size cX4_size 1 (Option.some Jvm.ClassFile.FieldType.int)) ∈ TB := tw 509 (by decide +kernel) (by decide +kernel)
theorem wd_519 : (Jvm.Cond.instanceMethod yX4_at) ∈ TB := tw 519 (by decide +kernel) (by decide +kernel)
theorem wd_520 : (Cond.selects RX4 yX4_at yX4_at) ∈ TB := tw 520 (by decide +kernel) (by decide +kernel)
theorem wd_521 : (Cond.code yX4_at cX4_at 3 (Option.some Jvm.ClassFile.FieldType.int)) ∈ TB := tw 521 (by decide +kernel) (by decide +kernel)
theorem wd_540 : (Cond.methodLink RX7 (120 : Nat) yJ7_fill_53178) ∈ TB := tw 540 (by decide +kernel) (by decide +kernel)
theorem wd_541 : (Jvm.Cond.static yJ7_fill_53178) ∈ TB := tw 541 (by decide +kernel) (by decide +kernel)
theorem wd_542 : (Cond.code yJ7_fill_53178 cJ7_fill_53178 4 (Option.none : Option Jvm.ClassFile.FieldType)) ∈ TB := tw 542 (by decide +kernel) (by decide +kernel)
theorem wd_543 : (Cond.methodLink RX7 (130 : Nat) yX4_size) ∈ TB := tw 543 (by decide +kernel) (by decide +kernel)
theorem wd_544 : (Cond.methodLink RX7 (136 : Nat) yX4_at) ∈ TB := tw 544 (by decide +kernel) (by decide +kernel)
theorem dJ7_fill_53178_0g : (decode cJ7_fill_53178 0 = .ok (.iconst 0, 1)) ∧ (decode cJ7_fill_53178 1 = .ok (.istore_n 2, 1)) ∧ (decode cJ7_fill_53178 2 = .ok (.aload_n 0, 1)) ∧ (decode cJ7_fill_53178 3 = .ok (.arraylength, 1)) ∧ (decode cJ7_fill_53178 4 = .ok (.istore_n 3, 1)) ∧ (decode cJ7_fill_53178 5 = .ok (.iload_n 2, 1)) ∧ (decode cJ7_fill_53178 6 = .ok (.iload_n 3, 1)) ∧ (decode cJ7_fill_53178 7 = .ok (.if_icmp .ge 13, 3)) ∧ (decode cJ7_fill_53178 10 = .ok (.aload_n 0, 1)) ∧ (decode cJ7_fill_53178 11 = .ok (.iload_n 2, 1)) := by decide +kernel
theorem dJ7_fill_53178_0 : decode cJ7_fill_53178 0 = .ok (.iconst 0, 1) := dJ7_fill_53178_0g.1
theorem dJ7_fill_53178_1 : decode cJ7_fill_53178 1 = .ok (.istore_n 2, 1) := dJ7_fill_53178_0g.2.1
theorem dJ7_fill_53178_2 : decode cJ7_fill_53178 2 = .ok (.aload_n 0, 1) := dJ7_fill_53178_0g.2.2.1
theorem dJ7_fill_53178_3 : decode cJ7_fill_53178 3 = .ok (.arraylength, 1) := dJ7_fill_53178_0g.2.2.2.1
theorem dJ7_fill_53178_4 : decode cJ7_fill_53178 4 = .ok (.istore_n 3, 1) := dJ7_fill_53178_0g.2.2.2.2.1
theorem dJ7_fill_53178_5 : decode cJ7_fill_53178 5 = .ok (.iload_n 2, 1) := dJ7_fill_53178_0g.2.2.2.2.2.1
theorem dJ7_fill_53178_6 : decode cJ7_fill_53178 6 = .ok (.iload_n 3, 1) := dJ7_fill_53178_0g.2.2.2.2.2.2.1
theorem dJ7_fill_53178_7 : decode cJ7_fill_53178 7 = .ok (.if_icmp .ge 13, 3) := dJ7_fill_53178_0g.2.2.2.2.2.2.2.1
theorem dJ7_fill_53178_10 : decode cJ7_fill_53178 10 = .ok (.aload_n 0, 1) := dJ7_fill_53178_0g.2.2.2.2.2.2.2.2.1
theorem dJ7_fill_53178_11 : decode cJ7_fill_53178 11 = .ok (.iload_n 2, 1) := dJ7_fill_53178_0g.2.2.2.2.2.2.2.2.2
theorem dJ7_fill_53178_12g : (decode cJ7_fill_53178 12 = .ok (.iload_n 1, 1)) ∧ (decode cJ7_fill_53178 13 = .ok (.iastore, 1)) ∧ (decode cJ7_fill_53178 14 = .ok (.iinc 2 1, 3)) ∧ (decode cJ7_fill_53178 17 = .ok (.goto (-12), 3)) ∧ (decode cJ7_fill_53178 20 = .ok (.return_, 1)) := by decide +kernel
theorem dJ7_fill_53178_12 : decode cJ7_fill_53178 12 = .ok (.iload_n 1, 1) := dJ7_fill_53178_12g.1
theorem dJ7_fill_53178_13 : decode cJ7_fill_53178 13 = .ok (.iastore, 1) := dJ7_fill_53178_12g.2.1
theorem dJ7_fill_53178_14 : decode cJ7_fill_53178 14 = .ok (.iinc 2 1, 3) := dJ7_fill_53178_12g.2.2.1
theorem dJ7_fill_53178_17 : decode cJ7_fill_53178 17 = .ok (.goto (-12), 3) := dJ7_fill_53178_12g.2.2.2.1
theorem dJ7_fill_53178_20 : decode cJ7_fill_53178 20 = .ok (.return_, 1) := dJ7_fill_53178_12g.2.2.2.2
set_option maxHeartbeats 4000000 in
set_option maxRecDepth 100000 in
theorem c_J7_fill_53178 (l : Launch) (E : Nat → Nat) (D : va_G) (G : th_G) (h0 n : Nat) (hG0 : G h0 = some (0, n)) (hn : n < 2147483648) (x1 : Int32) : Met l yJ7_fill_53178 (tb (.code yJ7_fill_53178 cJ7_fill_53178 4 none)) (rm 0) (va_Pc [.ref h0, .int x1] (th_P E D G)) (QV E D G) 0 0 (th_A G) := by
  refine Met.ofW (cc := cJ7_fill_53178) (maxL := 4) (ret := none) (by decide) rfl ?_
  intro p e s m args below meth c s₁ B hml hv
  obtain ⟨hav, hI, hN, hK⟩ := hv
  have hx := B.exec
  have hb := B.bytes
  have hr := B.returns
  have hts := atoms_spec (ws := tb (.code yJ7_fill_53178 cJ7_fill_53178 4 none)) B.pre
  have hown : s.vm.findClass RJ7 = some m.cls := findClass_of_methodNamed B.named
  have hlocks := B.notSynchronized
  have hS : va_S (th_A G) s.heap s.heap [] := va_S.rf
  have hl := lv_entry ([.ref h0, .int x1]) (n := 4) (Nat.le_of_ble_eq_true rfl)
  rw [show entryFrame m args 4 = entryFrame m ([.ref h0, .int x1] : List Value).toArray 4 from by rw [hav], lg_entry_eq]
  generalize (lg_sl ([.ref h0, .int x1]) ++ List.replicate (4 - (lg_sl ([.ref h0, .int x1])).length) Slot.unset).toArray = ls at hl ⊢
  have hl : lv_has ls 4 [(0, .ref h0), (1, .int x1)] := hl
  generalize hR : (headSpec (tb (.code yJ7_fill_53178 cJ7_fill_53178 4 none)) (rm 0)).room = R
  have hR := hR.symm
  generalize hQ : MQ below (QV E D G) args s 0 0 (th_A G) = QF
  have hQ := hQ.symm
  have J_5 : ∀ (nn : Nat) (H : Heap) (locs : List Loc) (ls : Array Slot) (v433 : Int32) (v434 : Int32), (Int.toNat (v433.toInt - v434.toInt) = nn) → lv_has ls 4 [(3, .int v433), (2, .int v434), (0, .ref h0), (1, .int x1)] → ((0 : Int) ≤ v433.toInt) → ((0 : Int) ≤ v434.toInt) → (v433.toInt = ((n : Nat) : Int)) → th_I (okC E) D G [] H → va_S (th_A G) s.heap H locs → W p l e R s m args below meth c H locs 0 0 QF (F0 m 5 ls []) := by
    intro nn
    induction nn using Nat.strongRecOn with
    | ind nn ih_5 =>
      intro H locs ls v433 v434 hm hl k435 k436 k437 hI hS
      refine lv_iload_n hx hb dJ7_fill_53178_5 rfl (lv_at hl 1 rfl) ?_
      refine lv_iload_n hx hb dJ7_fill_53178_6 rfl (lv_at hl 0 rfl) ?_
      have k438 := iv_lo v434
      have k439 := iv_hi v434
      have k440 := iv_lo v433
      have k441 := iv_hi v433
      refine lv_icmp_ge (tgt := 20) hx hb dJ7_fill_53178_7 (by decide) (fun c442 => ?_) (fun c442 => ?_)
      · skip
        have k443 := iv_le (X := v433.toInt) (Y := v434.toInt) rfl rfl c442
        rw [hQ]
        exact W.vret hx hb hr (fun t ht hW => ⟨⟨(), rfl, trivial, by rw [ht]; exact hI, hN.warm hW, va_K.moved hW.alike hK⟩, hS.F ht⟩) hS.2.2 dJ7_fill_53178_20
      · skip
        have k444 := iv_nle (X := v433.toInt) (Y := v434.toInt) rfl rfl c442
        refine lv_aload_n hx hb dJ7_fill_53178_10 rfl (lv_at hl 2 rfl) ?_
        refine lv_iload_n hx hb dJ7_fill_53178_11 rfl (lv_at hl 1 rfl) ?_
        refine lv_iload_n hx hb dJ7_fill_53178_12 rfl (lv_at hl 3 rfl) ?_
        obtain ⟨_, hA445⟩ := op_0 hI hG0 List.not_mem_nil
        refine th_iast hx hb hK hA445 0 rfl hS ⟨_, hG0⟩ (iv_in (X := v434.toInt) rfl (by omega) (by omega)) dJ7_fill_53178_13 (fun H locs hA445 oq hS => ?_)
        have hI := th_I.put hI hG0 hA445 ok_0 oq
        obtain ⟨v446, e447⟩ : ∃ y : Int32, y = v434 + (1) := ⟨_, rfl⟩
        have tv446 : v446.toInt = v434.toInt + (1) := iv_add rfl (by decide) e447 (by omega) (by omega)
        refine lv_iinc (v := v446) (lv' := [(2, .int v446), (3, .int v433), (0, .ref h0), (1, .int x1)]) hx hb dJ7_fill_53178_14 hl (k := 1) rfl (by rw [e447]; rfl) (by decide) rfl (fun ls hl => ?_)
        refine lv_goto (tgt := 5) hx hb dJ7_fill_53178_17 (by decide) ?_
        exact ih_5 _ (by omega) H locs ls v433 v446 rfl (lv_sub hl [1, 0, 2, 3] rfl) (by omega) (by omega) (by omega) hI hS
  refine lv_iconst (v := 0) hx hb dJ7_fill_53178_0 (by decide) ?_
  refine lv_istore_n (lv' := [(2, .int 0), (0, .ref h0), (1, .int x1)]) hx hb dJ7_fill_53178_1 rfl hl (by decide) rfl (fun ls hl => ?_)
  refine lv_aload_n hx hb dJ7_fill_53178_2 rfl (lv_at hl 1 rfl) ?_
  obtain ⟨_, hA448⟩ := op_0 hI hG0 List.not_mem_nil
  refine va_alen hx hb hK (th_one hA448) 0 0 rfl (v := nI (n)) rfl rfl dJ7_fill_53178_3 ?_
  refine lv_topi (fun v449 e450 => ?_)
  have tv449 : v449.toInt = ((n : Nat) : Int) := by rw [e450]; exact nI_toInt (by omega)
  refine lv_istore_n (lv' := [(3, .int v449), (2, .int 0), (0, .ref h0), (1, .int x1)]) hx hb dJ7_fill_53178_4 rfl hl (by decide) rfl (fun ls hl => ?_)
  have zl : (0 : Int32).toInt = 0 := by decide
  exact J_5 _ s.heap [] ls v449 0 rfl (lv_sub hl [0, 1, 2, 3] rfl) (by omega) (by decide) (by omega) hI hS
theorem dX7_refresh_0g : (decode cX7_refresh 0 = .ok (.aload_n 0, 1)) ∧ (decode cX7_refresh 1 = .ok (.getfield 31, 3)) ∧ (decode cX7_refresh 4 = .ok (.ifCond .ne 4, 3)) ∧ (decode cX7_refresh 7 = .ok (.return_, 1)) ∧ (decode cX7_refresh 8 = .ok (.aload_n 0, 1)) ∧ (decode cX7_refresh 9 = .ok (.iconst 0, 1)) ∧ (decode cX7_refresh 10 = .ok (.putfield 31, 3)) ∧ (decode cX7_refresh 13 = .ok (.aload_n 0, 1)) ∧ (decode cX7_refresh 14 = .ok (.getfield 18, 3)) ∧ (decode cX7_refresh 17 = .ok (.iconst 0, 1)) := by decide +kernel
theorem dX7_refresh_0 : decode cX7_refresh 0 = .ok (.aload_n 0, 1) := dX7_refresh_0g.1
theorem dX7_refresh_1 : decode cX7_refresh 1 = .ok (.getfield 31, 3) := dX7_refresh_0g.2.1
theorem dX7_refresh_4 : decode cX7_refresh 4 = .ok (.ifCond .ne 4, 3) := dX7_refresh_0g.2.2.1
theorem dX7_refresh_7 : decode cX7_refresh 7 = .ok (.return_, 1) := dX7_refresh_0g.2.2.2.1
theorem dX7_refresh_8 : decode cX7_refresh 8 = .ok (.aload_n 0, 1) := dX7_refresh_0g.2.2.2.2.1
theorem dX7_refresh_9 : decode cX7_refresh 9 = .ok (.iconst 0, 1) := dX7_refresh_0g.2.2.2.2.2.1
theorem dX7_refresh_10 : decode cX7_refresh 10 = .ok (.putfield 31, 3) := dX7_refresh_0g.2.2.2.2.2.2.1
theorem dX7_refresh_13 : decode cX7_refresh 13 = .ok (.aload_n 0, 1) := dX7_refresh_0g.2.2.2.2.2.2.2.1
theorem dX7_refresh_14 : decode cX7_refresh 14 = .ok (.getfield 18, 3) := dX7_refresh_0g.2.2.2.2.2.2.2.2.1
theorem dX7_refresh_17 : decode cX7_refresh 17 = .ok (.iconst 0, 1) := dX7_refresh_0g.2.2.2.2.2.2.2.2.2
theorem dX7_refresh_18g : (decode cX7_refresh 18 = .ok (.invokestatic 120, 3)) ∧ (decode cX7_refresh 21 = .ok (.aload_n 0, 1)) ∧ (decode cX7_refresh 22 = .ok (.getfield 22, 3)) ∧ (decode cX7_refresh 25 = .ok (.iconst 0, 1)) ∧ (decode cX7_refresh 26 = .ok (.invokestatic 120, 3)) ∧ (decode cX7_refresh 29 = .ok (.aload_n 0, 1)) ∧ (decode cX7_refresh 30 = .ok (.getfield 25, 3)) ∧ (decode cX7_refresh 33 = .ok (.iconst 0, 1)) ∧ (decode cX7_refresh 34 = .ok (.invokestatic 120, 3)) ∧ (decode cX7_refresh 37 = .ok (.aload_n 0, 1)) := by decide +kernel
theorem dX7_refresh_18 : decode cX7_refresh 18 = .ok (.invokestatic 120, 3) := dX7_refresh_18g.1
theorem dX7_refresh_21 : decode cX7_refresh 21 = .ok (.aload_n 0, 1) := dX7_refresh_18g.2.1
theorem dX7_refresh_22 : decode cX7_refresh 22 = .ok (.getfield 22, 3) := dX7_refresh_18g.2.2.1
theorem dX7_refresh_25 : decode cX7_refresh 25 = .ok (.iconst 0, 1) := dX7_refresh_18g.2.2.2.1
theorem dX7_refresh_26 : decode cX7_refresh 26 = .ok (.invokestatic 120, 3) := dX7_refresh_18g.2.2.2.2.1
theorem dX7_refresh_29 : decode cX7_refresh 29 = .ok (.aload_n 0, 1) := dX7_refresh_18g.2.2.2.2.2.1
theorem dX7_refresh_30 : decode cX7_refresh 30 = .ok (.getfield 25, 3) := dX7_refresh_18g.2.2.2.2.2.2.1
theorem dX7_refresh_33 : decode cX7_refresh 33 = .ok (.iconst 0, 1) := dX7_refresh_18g.2.2.2.2.2.2.2.1
theorem dX7_refresh_34 : decode cX7_refresh 34 = .ok (.invokestatic 120, 3) := dX7_refresh_18g.2.2.2.2.2.2.2.2.1
theorem dX7_refresh_37 : decode cX7_refresh 37 = .ok (.aload_n 0, 1) := dX7_refresh_18g.2.2.2.2.2.2.2.2.2
theorem dX7_refresh_38g : (decode cX7_refresh 38 = .ok (.getfield 28, 3)) ∧ (decode cX7_refresh 41 = .ok (.iconst 0, 1)) ∧ (decode cX7_refresh 42 = .ok (.invokestatic 120, 3)) ∧ (decode cX7_refresh 45 = .ok (.iconst 0, 1)) ∧ (decode cX7_refresh 46 = .ok (.istore_n 1, 1)) ∧ (decode cX7_refresh 47 = .ok (.iload_n 1, 1)) ∧ (decode cX7_refresh 48 = .ok (.aload_n 0, 1)) ∧ (decode cX7_refresh 49 = .ok (.getfield 35, 3)) ∧ (decode cX7_refresh 52 = .ok (.getfield 126, 3)) ∧ (decode cX7_refresh 55 = .ok (.invokevirtual 130, 3)) := by decide +kernel
theorem dX7_refresh_38 : decode cX7_refresh 38 = .ok (.getfield 28, 3) := dX7_refresh_38g.1
theorem dX7_refresh_41 : decode cX7_refresh 41 = .ok (.iconst 0, 1) := dX7_refresh_38g.2.1
theorem dX7_refresh_42 : decode cX7_refresh 42 = .ok (.invokestatic 120, 3) := dX7_refresh_38g.2.2.1
theorem dX7_refresh_45 : decode cX7_refresh 45 = .ok (.iconst 0, 1) := dX7_refresh_38g.2.2.2.1
theorem dX7_refresh_46 : decode cX7_refresh 46 = .ok (.istore_n 1, 1) := dX7_refresh_38g.2.2.2.2.1
theorem dX7_refresh_47 : decode cX7_refresh 47 = .ok (.iload_n 1, 1) := dX7_refresh_38g.2.2.2.2.2.1
theorem dX7_refresh_48 : decode cX7_refresh 48 = .ok (.aload_n 0, 1) := dX7_refresh_38g.2.2.2.2.2.2.1
theorem dX7_refresh_49 : decode cX7_refresh 49 = .ok (.getfield 35, 3) := dX7_refresh_38g.2.2.2.2.2.2.2.1
theorem dX7_refresh_52 : decode cX7_refresh 52 = .ok (.getfield 126, 3) := dX7_refresh_38g.2.2.2.2.2.2.2.2.1
theorem dX7_refresh_55 : decode cX7_refresh 55 = .ok (.invokevirtual 130, 3) := dX7_refresh_38g.2.2.2.2.2.2.2.2.2
theorem dX7_refresh_58g : (decode cX7_refresh 58 = .ok (.if_icmp .ge 79, 3)) ∧ (decode cX7_refresh 61 = .ok (.aload_n 0, 1)) ∧ (decode cX7_refresh 62 = .ok (.getfield 35, 3)) ∧ (decode cX7_refresh 65 = .ok (.getfield 126, 3)) ∧ (decode cX7_refresh 68 = .ok (.iload_n 1, 1)) ∧ (decode cX7_refresh 69 = .ok (.iconst 2, 1)) ∧ (decode cX7_refresh 70 = .ok (.invokevirtual 136, 3)) ∧ (decode cX7_refresh 73 = .ok (.istore_n 2, 1)) ∧ (decode cX7_refresh 74 = .ok (.aload_n 0, 1)) ∧ (decode cX7_refresh 75 = .ok (.getfield 35, 3)) := by decide +kernel
theorem dX7_refresh_58 : decode cX7_refresh 58 = .ok (.if_icmp .ge 79, 3) := dX7_refresh_58g.1
theorem dX7_refresh_61 : decode cX7_refresh 61 = .ok (.aload_n 0, 1) := dX7_refresh_58g.2.1
theorem dX7_refresh_62 : decode cX7_refresh 62 = .ok (.getfield 35, 3) := dX7_refresh_58g.2.2.1
theorem dX7_refresh_65 : decode cX7_refresh 65 = .ok (.getfield 126, 3) := dX7_refresh_58g.2.2.2.1
theorem dX7_refresh_68 : decode cX7_refresh 68 = .ok (.iload_n 1, 1) := dX7_refresh_58g.2.2.2.2.1
theorem dX7_refresh_69 : decode cX7_refresh 69 = .ok (.iconst 2, 1) := dX7_refresh_58g.2.2.2.2.2.1
theorem dX7_refresh_70 : decode cX7_refresh 70 = .ok (.invokevirtual 136, 3) := dX7_refresh_58g.2.2.2.2.2.2.1
theorem dX7_refresh_73 : decode cX7_refresh 73 = .ok (.istore_n 2, 1) := dX7_refresh_58g.2.2.2.2.2.2.2.1
theorem dX7_refresh_74 : decode cX7_refresh 74 = .ok (.aload_n 0, 1) := dX7_refresh_58g.2.2.2.2.2.2.2.2.1
theorem dX7_refresh_75 : decode cX7_refresh 75 = .ok (.getfield 35, 3) := dX7_refresh_58g.2.2.2.2.2.2.2.2.2
theorem dX7_refresh_78g : (decode cX7_refresh 78 = .ok (.getfield 126, 3)) ∧ (decode cX7_refresh 81 = .ok (.iload_n 1, 1)) ∧ (decode cX7_refresh 82 = .ok (.iconst 1, 1)) ∧ (decode cX7_refresh 83 = .ok (.invokevirtual 136, 3)) ∧ (decode cX7_refresh 86 = .ok (.istore_n 3, 1)) ∧ (decode cX7_refresh 87 = .ok (.iload_n 3, 1)) ∧ (decode cX7_refresh 88 = .ok (.ifCond .lt 43, 3)) ∧ (decode cX7_refresh 91 = .ok (.iload_n 3, 1)) ∧ (decode cX7_refresh 92 = .ok (.iload_n 2, 1)) ∧ (decode cX7_refresh 93 = .ok (.if_icmp .gt 38, 3)) := by decide +kernel
theorem dX7_refresh_78 : decode cX7_refresh 78 = .ok (.getfield 126, 3) := dX7_refresh_78g.1
theorem dX7_refresh_81 : decode cX7_refresh 81 = .ok (.iload_n 1, 1) := dX7_refresh_78g.2.1
theorem dX7_refresh_82 : decode cX7_refresh 82 = .ok (.iconst 1, 1) := dX7_refresh_78g.2.2.1
theorem dX7_refresh_83 : decode cX7_refresh 83 = .ok (.invokevirtual 136, 3) := dX7_refresh_78g.2.2.2.1
theorem dX7_refresh_86 : decode cX7_refresh 86 = .ok (.istore_n 3, 1) := dX7_refresh_78g.2.2.2.2.1
theorem dX7_refresh_87 : decode cX7_refresh 87 = .ok (.iload_n 3, 1) := dX7_refresh_78g.2.2.2.2.2.1
theorem dX7_refresh_88 : decode cX7_refresh 88 = .ok (.ifCond .lt 43, 3) := dX7_refresh_78g.2.2.2.2.2.2.1
theorem dX7_refresh_91 : decode cX7_refresh 91 = .ok (.iload_n 3, 1) := dX7_refresh_78g.2.2.2.2.2.2.2.1
theorem dX7_refresh_92 : decode cX7_refresh 92 = .ok (.iload_n 2, 1) := dX7_refresh_78g.2.2.2.2.2.2.2.2.1
theorem dX7_refresh_93 : decode cX7_refresh 93 = .ok (.if_icmp .gt 38, 3) := dX7_refresh_78g.2.2.2.2.2.2.2.2.2
theorem dX7_refresh_96g : (decode cX7_refresh 96 = .ok (.iload_n 3, 1)) ∧ (decode cX7_refresh 97 = .ok (.bipush 96, 2)) ∧ (decode cX7_refresh 99 = .ok (.if_icmp .ge 32, 3)) ∧ (decode cX7_refresh 102 = .ok (.aload_n 0, 1)) ∧ (decode cX7_refresh 103 = .ok (.getfield 25, 3)) ∧ (decode cX7_refresh 106 = .ok (.iload_n 3, 1)) ∧ (decode cX7_refresh 107 = .ok (.dup2, 1)) ∧ (decode cX7_refresh 108 = .ok (.iaload, 1)) ∧ (decode cX7_refresh 109 = .ok (.iconst 1, 1)) ∧ (decode cX7_refresh 110 = .ok (.aload_n 0, 1)) := by decide +kernel
theorem dX7_refresh_96 : decode cX7_refresh 96 = .ok (.iload_n 3, 1) := dX7_refresh_96g.1
theorem dX7_refresh_97 : decode cX7_refresh 97 = .ok (.bipush 96, 2) := dX7_refresh_96g.2.1
theorem dX7_refresh_99 : decode cX7_refresh 99 = .ok (.if_icmp .ge 32, 3) := dX7_refresh_96g.2.2.1
theorem dX7_refresh_102 : decode cX7_refresh 102 = .ok (.aload_n 0, 1) := dX7_refresh_96g.2.2.2.1
theorem dX7_refresh_103 : decode cX7_refresh 103 = .ok (.getfield 25, 3) := dX7_refresh_96g.2.2.2.2.1
theorem dX7_refresh_106 : decode cX7_refresh 106 = .ok (.iload_n 3, 1) := dX7_refresh_96g.2.2.2.2.2.1
theorem dX7_refresh_107 : decode cX7_refresh 107 = .ok (.dup2, 1) := dX7_refresh_96g.2.2.2.2.2.2.1
theorem dX7_refresh_108 : decode cX7_refresh 108 = .ok (.iaload, 1) := dX7_refresh_96g.2.2.2.2.2.2.2.1
theorem dX7_refresh_109 : decode cX7_refresh 109 = .ok (.iconst 1, 1) := dX7_refresh_96g.2.2.2.2.2.2.2.2.1
theorem dX7_refresh_110 : decode cX7_refresh 110 = .ok (.aload_n 0, 1) := dX7_refresh_96g.2.2.2.2.2.2.2.2.2
theorem dX7_refresh_111g : (decode cX7_refresh 111 = .ok (.getfield 35, 3)) ∧ (decode cX7_refresh 114 = .ok (.getfield 126, 3)) ∧ (decode cX7_refresh 117 = .ok (.iload_n 1, 1)) ∧ (decode cX7_refresh 118 = .ok (.iconst 0, 1)) ∧ (decode cX7_refresh 119 = .ok (.invokevirtual 136, 3)) ∧ (decode cX7_refresh 122 = .ok (.ishl, 1)) ∧ (decode cX7_refresh 123 = .ok (.ior, 1)) ∧ (decode cX7_refresh 124 = .ok (.iastore, 1)) ∧ (decode cX7_refresh 125 = .ok (.iinc 3 1, 3)) ∧ (decode cX7_refresh 128 = .ok (.goto (-41), 3)) := by decide +kernel
theorem dX7_refresh_111 : decode cX7_refresh 111 = .ok (.getfield 35, 3) := dX7_refresh_111g.1
theorem dX7_refresh_114 : decode cX7_refresh 114 = .ok (.getfield 126, 3) := dX7_refresh_111g.2.1
theorem dX7_refresh_117 : decode cX7_refresh 117 = .ok (.iload_n 1, 1) := dX7_refresh_111g.2.2.1
theorem dX7_refresh_118 : decode cX7_refresh 118 = .ok (.iconst 0, 1) := dX7_refresh_111g.2.2.2.1
theorem dX7_refresh_119 : decode cX7_refresh 119 = .ok (.invokevirtual 136, 3) := dX7_refresh_111g.2.2.2.2.1
theorem dX7_refresh_122 : decode cX7_refresh 122 = .ok (.ishl, 1) := dX7_refresh_111g.2.2.2.2.2.1
theorem dX7_refresh_123 : decode cX7_refresh 123 = .ok (.ior, 1) := dX7_refresh_111g.2.2.2.2.2.2.1
theorem dX7_refresh_124 : decode cX7_refresh 124 = .ok (.iastore, 1) := dX7_refresh_111g.2.2.2.2.2.2.2.1
theorem dX7_refresh_125 : decode cX7_refresh 125 = .ok (.iinc 3 1, 3) := dX7_refresh_111g.2.2.2.2.2.2.2.2.1
theorem dX7_refresh_128 : decode cX7_refresh 128 = .ok (.goto (-41), 3) := dX7_refresh_111g.2.2.2.2.2.2.2.2.2
theorem dX7_refresh_131g : (decode cX7_refresh 131 = .ok (.iinc 1 1, 3)) ∧ (decode cX7_refresh 134 = .ok (.goto (-87), 3)) ∧ (decode cX7_refresh 137 = .ok (.iconst 0, 1)) ∧ (decode cX7_refresh 138 = .ok (.istore_n 1, 1)) ∧ (decode cX7_refresh 139 = .ok (.iload_n 1, 1)) ∧ (decode cX7_refresh 140 = .ok (.aload_n 0, 1)) ∧ (decode cX7_refresh 141 = .ok (.getfield 35, 3)) ∧ (decode cX7_refresh 144 = .ok (.getfield 139, 3)) ∧ (decode cX7_refresh 147 = .ok (.invokevirtual 130, 3)) ∧ (decode cX7_refresh 150 = .ok (.if_icmp .ge 39, 3)) := by decide +kernel
theorem dX7_refresh_131 : decode cX7_refresh 131 = .ok (.iinc 1 1, 3) := dX7_refresh_131g.1
theorem dX7_refresh_134 : decode cX7_refresh 134 = .ok (.goto (-87), 3) := dX7_refresh_131g.2.1
theorem dX7_refresh_137 : decode cX7_refresh 137 = .ok (.iconst 0, 1) := dX7_refresh_131g.2.2.1
theorem dX7_refresh_138 : decode cX7_refresh 138 = .ok (.istore_n 1, 1) := dX7_refresh_131g.2.2.2.1
theorem dX7_refresh_139 : decode cX7_refresh 139 = .ok (.iload_n 1, 1) := dX7_refresh_131g.2.2.2.2.1
theorem dX7_refresh_140 : decode cX7_refresh 140 = .ok (.aload_n 0, 1) := dX7_refresh_131g.2.2.2.2.2.1
theorem dX7_refresh_141 : decode cX7_refresh 141 = .ok (.getfield 35, 3) := dX7_refresh_131g.2.2.2.2.2.2.1
theorem dX7_refresh_144 : decode cX7_refresh 144 = .ok (.getfield 139, 3) := dX7_refresh_131g.2.2.2.2.2.2.2.1
theorem dX7_refresh_147 : decode cX7_refresh 147 = .ok (.invokevirtual 130, 3) := dX7_refresh_131g.2.2.2.2.2.2.2.2.1
theorem dX7_refresh_150 : decode cX7_refresh 150 = .ok (.if_icmp .ge 39, 3) := dX7_refresh_131g.2.2.2.2.2.2.2.2.2
theorem dX7_refresh_153g : (decode cX7_refresh 153 = .ok (.aload_n 0, 1)) ∧ (decode cX7_refresh 154 = .ok (.getfield 35, 3)) ∧ (decode cX7_refresh 157 = .ok (.getfield 139, 3)) ∧ (decode cX7_refresh 160 = .ok (.iload_n 1, 1)) ∧ (decode cX7_refresh 161 = .ok (.iconst 0, 1)) ∧ (decode cX7_refresh 162 = .ok (.invokevirtual 136, 3)) ∧ (decode cX7_refresh 165 = .ok (.istore_n 2, 1)) ∧ (decode cX7_refresh 166 = .ok (.iload_n 2, 1)) ∧ (decode cX7_refresh 167 = .ok (.invokestatic 43, 3)) ∧ (decode cX7_refresh 170 = .ok (.ifCond .eq 13, 3)) := by decide +kernel
theorem dX7_refresh_153 : decode cX7_refresh 153 = .ok (.aload_n 0, 1) := dX7_refresh_153g.1
theorem dX7_refresh_154 : decode cX7_refresh 154 = .ok (.getfield 35, 3) := dX7_refresh_153g.2.1
theorem dX7_refresh_157 : decode cX7_refresh 157 = .ok (.getfield 139, 3) := dX7_refresh_153g.2.2.1
theorem dX7_refresh_160 : decode cX7_refresh 160 = .ok (.iload_n 1, 1) := dX7_refresh_153g.2.2.2.1
theorem dX7_refresh_161 : decode cX7_refresh 161 = .ok (.iconst 0, 1) := dX7_refresh_153g.2.2.2.2.1
theorem dX7_refresh_162 : decode cX7_refresh 162 = .ok (.invokevirtual 136, 3) := dX7_refresh_153g.2.2.2.2.2.1
theorem dX7_refresh_165 : decode cX7_refresh 165 = .ok (.istore_n 2, 1) := dX7_refresh_153g.2.2.2.2.2.2.1
theorem dX7_refresh_166 : decode cX7_refresh 166 = .ok (.iload_n 2, 1) := dX7_refresh_153g.2.2.2.2.2.2.2.1
theorem dX7_refresh_167 : decode cX7_refresh 167 = .ok (.invokestatic 43, 3) := dX7_refresh_153g.2.2.2.2.2.2.2.2.1
theorem dX7_refresh_170 : decode cX7_refresh 170 = .ok (.ifCond .eq 13, 3) := dX7_refresh_153g.2.2.2.2.2.2.2.2.2
theorem dX7_refresh_173g : (decode cX7_refresh 173 = .ok (.aload_n 0, 1)) ∧ (decode cX7_refresh 174 = .ok (.getfield 28, 3)) ∧ (decode cX7_refresh 177 = .ok (.iload_n 2, 1)) ∧ (decode cX7_refresh 178 = .ok (.dup2, 1)) ∧ (decode cX7_refresh 179 = .ok (.iaload, 1)) ∧ (decode cX7_refresh 180 = .ok (.iconst 1, 1)) ∧ (decode cX7_refresh 181 = .ok (.iadd, 1)) ∧ (decode cX7_refresh 182 = .ok (.iastore, 1)) ∧ (decode cX7_refresh 183 = .ok (.iinc 1 1, 3)) ∧ (decode cX7_refresh 186 = .ok (.goto (-47), 3)) := by decide +kernel
theorem dX7_refresh_173 : decode cX7_refresh 173 = .ok (.aload_n 0, 1) := dX7_refresh_173g.1
theorem dX7_refresh_174 : decode cX7_refresh 174 = .ok (.getfield 28, 3) := dX7_refresh_173g.2.1
theorem dX7_refresh_177 : decode cX7_refresh 177 = .ok (.iload_n 2, 1) := dX7_refresh_173g.2.2.1
theorem dX7_refresh_178 : decode cX7_refresh 178 = .ok (.dup2, 1) := dX7_refresh_173g.2.2.2.1
theorem dX7_refresh_179 : decode cX7_refresh 179 = .ok (.iaload, 1) := dX7_refresh_173g.2.2.2.2.1
theorem dX7_refresh_180 : decode cX7_refresh 180 = .ok (.iconst 1, 1) := dX7_refresh_173g.2.2.2.2.2.1
theorem dX7_refresh_181 : decode cX7_refresh 181 = .ok (.iadd, 1) := dX7_refresh_173g.2.2.2.2.2.2.1
theorem dX7_refresh_182 : decode cX7_refresh 182 = .ok (.iastore, 1) := dX7_refresh_173g.2.2.2.2.2.2.2.1
theorem dX7_refresh_183 : decode cX7_refresh 183 = .ok (.iinc 1 1, 3) := dX7_refresh_173g.2.2.2.2.2.2.2.2.1
theorem dX7_refresh_186 : decode cX7_refresh 186 = .ok (.goto (-47), 3) := dX7_refresh_173g.2.2.2.2.2.2.2.2.2
theorem dX7_refresh_189 : decode cX7_refresh 189 = .ok (.return_, 1) := by decide +kernel
set_option maxHeartbeats 4000000 in
set_option maxRecDepth 100000 in
theorem c_X7_refresh (l : Launch) (E : Nat → Nat) (D : va_G) (G : th_G) (h0 : Nat) (hG0 : G h0 = some (9, 0)) : Met l yX7_refresh (tb (.code yX7_refresh cX7_refresh 4 none)) (rm 2) (va_Pc [.ref h0] (th_P E D G)) (QV E D G) 0 0 (th_A G) := by
  refine Met.ofW (cc := cX7_refresh) (maxL := 4) (ret := none) (by decide) rfl ?_
  intro p e s m args below meth c s₁ B hml hv
  obtain ⟨hav, hI, hN, hK⟩ := hv
  have hx := B.exec
  have hb := B.bytes
  have hr := B.returns
  have hts := atoms_spec (ws := tb (.code yX7_refresh cX7_refresh 4 none)) B.pre
  have hown : s.vm.findClass RX7 = some m.cls := findClass_of_methodNamed B.named
  have hlocks := B.notSynchronized
  have hS : va_S (th_A G) s.heap s.heap [] := va_S.rf
  have hl := lv_entry ([.ref h0]) (n := 4) (Nat.le_of_ble_eq_true rfl)
  rw [show entryFrame m args 4 = entryFrame m ([.ref h0] : List Value).toArray 4 from by rw [hav], lg_entry_eq]
  generalize (lg_sl ([.ref h0]) ++ List.replicate (4 - (lg_sl ([.ref h0])).length) Slot.unset).toArray = ls at hl ⊢
  have hl : lv_has ls 4 [(0, .ref h0)] := hl
  generalize hR : (headSpec (tb (.code yX7_refresh cX7_refresh 4 none)) (rm 2)).room = R
  have hR := hR.symm
  generalize hQ : MQ below (QV E D G) args s 0 0 (th_A G) = QF
  have hQ := hQ.symm
  have J_139 : ∀ (nn : Nat) (H : Heap) (locs : List Loc) (ls : Array Slot) (v10665 : Int32), (Int.toNat (6 - v10665.toInt) = nn) → lv_has ls 4 [(1, .int v10665), (0, .ref h0)] → ((0 : Int) ≤ v10665.toInt ∧ v10665.toInt ≤ 6) → th_I (okC E) D G [] H → va_S (th_A G) s.heap H locs → W p l e R s m args below meth c H locs 0 0 QF (F0 m 139 ls []) := by
    intro nn
    induction nn using Nat.strongRecOn with
    | ind nn ih_139 =>
      intro H locs ls v10665 hm hl k10666 hI hS
      refine lv_iload_n hx hb dX7_refresh_139 rfl (lv_at hl 0 rfl) ?_
      refine lv_aload_n hx hb dX7_refresh_140 rfl (lv_at hl 1 rfl) ?_
      obtain ⟨a10667, a10669, a10671, a10673, a10675, a10677, w10679, hO, hq10668, hq10670, hq10672, hq10674, hq10676, hq10678⟩ := op_9 hI hG0 List.not_mem_nil
      have hI := th_I.weak (a := h0) hI
      refine th_get hx hb hts inT7 hown hK hO rfl 0 (by decide) (hts _ (tb_c wd_189)) rfl rfl dX7_refresh_141 ?_
      have hI := th_I.close hI hG0 hO (ok_9 hq10668 hq10670 hq10672 hq10674 hq10676 hq10678)
      obtain ⟨a10680, a10682, a10684, a10686, a10688, a10690, a10692, a10694, a10696, a10698, w10700, w10703, w10704, w10705, hO, hq10681, hq10683, hq10685, hq10687, hq10689, hq10691, hq10693, hq10695, hq10697, hq10699, ⟨k10701, k10702⟩, k10706⟩ := op_6 hI hq10668 List.not_mem_nil
      have hI := th_I.weak (a := a10667) hI
      refine th_getN hx hb hts inT6 hown hK hN hO rfl 3 (by decide) wn_65 rfl rfl dX7_refresh_144 ?_
      have hI := th_I.close hI hq10668 hO (ok_6 hq10681 hq10683 hq10685 hq10687 hq10689 hq10691 hq10693 hq10695 hq10697 hq10699 ⟨by omega, by omega⟩ k10706)
      obtain ⟨a10708, w10710, hO, hq10709, ⟨k10711, k10712⟩, k10713⟩ := op_4 hI hq10687 List.not_mem_nil
      have hI := th_I.weak (a := a10686) hI
      have k10714 : (nI (6 % 32)).toInt = ((6 % 32 : Nat) : Int) := nI_toInt (by omega)
      have k10715 := k10713.1
      refine th_cVs (As := []) (rest := [.int v10665]) (n := 0) (d := 0) ⟨hx, hb, hml, hown, hts⟩ (c_X4_size l E D H a10686 (6 % 32) a10708 w10710 hO (by omega) (by omega) (by omega)) wd_543 wd_507 wd_508 wd_3 wd_509 (by decide +kernel) ⟨by rw [hR]; exact Nat.le_of_ble_eq_true rfl, by rw [hR]; exact Nat.le_of_ble_eq_true rfl⟩ hN hK hS ⟨_, hO⟩ rfl rfl hl.1 rfl (Nat.le_of_ble_eq_true rfl) dX7_refresh_147 ⟨Nat.zero_le _, Nat.zero_le _⟩ (fun r10707 locs hp hS => ?_)
      have hp := hp.symm
      subst hp
      refine lv_icmp_ge (tgt := 189) hx hb dX7_refresh_150 (by decide) (fun c10716 => ?_) (fun c10716 => ?_)
      · skip
        have k10717 := iv_le (X := w10710.toInt) (Y := v10665.toInt) rfl rfl c10716
        have hI := th_I.close hI hq10687 hO (ok_4 hq10709 ⟨by omega, by omega⟩ k10713)
        rw [hQ]
        exact W.vret hx hb hr (fun t ht hW => ⟨⟨(), rfl, trivial, by rw [ht]; exact hI, hN.warm hW, va_K.moved hW.alike hK⟩, hS.F ht⟩) hS.2.2 dX7_refresh_189
      · skip
        have k10718 := iv_nle (X := w10710.toInt) (Y := v10665.toInt) rfl rfl c10716
        refine lv_aload_n hx hb dX7_refresh_153 rfl (lv_at hl 1 rfl) ?_
        have hI := th_I.close hI hq10687 hO (ok_4 hq10709 ⟨by omega, by omega⟩ k10713)
        obtain ⟨a10719, a10721, a10723, a10725, a10727, a10729, w10731, hO, hq10720, hq10722, hq10724, hq10726, hq10728, hq10730⟩ := op_9 hI hG0 List.not_mem_nil
        have hI := th_I.weak (a := h0) hI
        refine th_get hx hb hts inT7 hown hK hO rfl 0 (by decide) (hts _ (tb_c wd_189)) rfl rfl dX7_refresh_154 ?_
        have hI := th_I.close hI hG0 hO (ok_9 hq10720 hq10722 hq10724 hq10726 hq10728 hq10730)
        obtain ⟨a10732, a10734, a10736, a10738, a10740, a10742, a10744, a10746, a10748, a10750, w10752, w10755, w10756, w10757, hO, hq10733, hq10735, hq10737, hq10739, hq10741, hq10743, hq10745, hq10747, hq10749, hq10751, ⟨k10753, k10754⟩, k10758⟩ := op_6 hI hq10720 List.not_mem_nil
        have hI := th_I.weak (a := a10719) hI
        refine th_getN hx hb hts inT6 hown hK hN hO rfl 3 (by decide) wn_65 rfl rfl dX7_refresh_157 ?_
        refine lv_iload_n hx hb dX7_refresh_160 rfl (lv_at hl 0 rfl) ?_
        refine lv_iconst (v := 0) hx hb dX7_refresh_161 (by decide) ?_
        have hI := th_I.close hI hq10720 hO (ok_6 hq10733 hq10735 hq10737 hq10739 hq10741 hq10743 hq10745 hq10747 hq10749 hq10751 ⟨by omega, by omega⟩ k10758)
        refine th_cVi (As := [.int v10665, .int 0]) (rest := []) (n := 2) (d := 0) ⟨hx, hb, hml, hown, hts⟩ (c_X4_at l E D G a10738 (6) hq10739 v10665 0) wd_544 wd_519 wd_520 wd_3 wd_521 (by decide +kernel) ⟨by rw [hR]; exact Nat.le_of_ble_eq_true rfl, by rw [hR]; exact Nat.le_of_ble_eq_true rfl⟩ hI hN hK hS (rc_4 hI hq10739 List.not_mem_nil) rfl rfl hl.1 rfl (Nat.le_of_ble_eq_true rfl) dX7_refresh_162 ⟨Nat.zero_le _, Nat.zero_le _⟩ (fun r10759 H locs hp hI hS => ?_)
        refine lv_istore_n (lv' := [(2, .int r10759), (1, .int v10665), (0, .ref h0)]) hx hb dX7_refresh_165 rfl hl (by decide) rfl (fun ls hl => ?_)
        refine lv_iload_n hx hb dX7_refresh_166 rfl (lv_at hl 0 rfl) ?_
        refine th_cSN (As := [.int r10759]) (rest := []) (n := 1) (d := 0) ⟨hx, hb, hml, hown, hts⟩ (c_X11_isCell l H r10759) wn_534 wd_402 wd_1 wd_403 (by decide +kernel) ⟨by rw [hR]; exact Nat.le_of_ble_eq_true rfl, by rw [hR]; exact Nat.le_of_ble_eq_true rfl⟩ hN hS rfl hl.1 rfl (Nat.le_of_ble_eq_true rfl) dX7_refresh_167 ⟨Nat.zero_le _, Nat.zero_le _⟩ (fun r10760 locs hp hS => ?_)
        rcases hp with ⟨rfl, hp⟩ | ⟨rfl, hp⟩
        · skip
          try simp only [rg, not_and, Int.not_le] at hp
          have hp10761 := hp
          refine lv_if_eq (tgt := 183) hx hb dX7_refresh_170 (by decide) (fun c => absurd c (by decide)) (fun _ => ?_)
          refine lv_aload_n hx hb dX7_refresh_173 rfl (lv_at hl 2 rfl) ?_
          obtain ⟨a10762, a10764, a10766, a10768, a10770, a10772, w10774, hO, hq10763, hq10765, hq10767, hq10769, hq10771, hq10773⟩ := op_9 hI hG0 List.not_mem_nil
          have hI := th_I.weak (a := h0) hI
          refine th_get hx hb hts inT7 hown hK hO rfl 5 (by decide) (hts _ (tb_c wd_194)) rfl rfl dX7_refresh_174 ?_
          refine lv_iload_n hx hb dX7_refresh_177 rfl (lv_at hl 0 rfl) ?_
          refine lv_dup2_11 hx hb dX7_refresh_178 rfl rfl ?_
          obtain ⟨_, hA10775⟩ := op_0 hI hq10773 (th_ne hG0 hq10773 (show (9 : Nat) ≠ 0 by decide))
          refine th_iald hx hb hK hA10775 0 rfl (iv_in (X := r10759.toInt) rfl (by omega) (by omega)) dX7_refresh_179 (fun v10776 _ => ?_)
          refine lv_iconst (v := 1) hx hb dX7_refresh_180 (by decide) ?_
          refine lv_iadd hx hb dX7_refresh_181 ?_
          refine lv_topi (fun v10777 e10778 => ?_)
          try have tv10777 : v10777.toInt = v10776.toInt + (1) := iv_add rfl (by decide) e10778 (by omega) (by omega)
          obtain ⟨_, hA10779⟩ := op_0 hI hq10773 (th_ne hG0 hq10773 (show (9 : Nat) ≠ 0 by decide))
          refine th_iast hx hb hK hA10779 0 rfl hS ⟨_, hq10773⟩ (iv_in (X := r10759.toInt) rfl (by omega) (by omega)) dX7_refresh_182 (fun H locs hA10779 oq hS => ?_)
          have hI := th_I.put hI hq10773 hA10779 ok_0 oq
          have hO := hO.kept (oq _ (fun z => th_ne hG0 hq10773 (show (9 : Nat) ≠ 0 by decide) (List.mem_singleton.mpr z.symm)))
          obtain ⟨v10780, e10781⟩ : ∃ y : Int32, y = v10665 + (1) := ⟨_, rfl⟩
          have tv10780 : v10780.toInt = v10665.toInt + (1) := iv_add rfl (by decide) e10781 (by omega) (by omega)
          refine lv_iinc (v := v10780) (lv' := [(1, .int v10780), (2, .int r10759), (0, .ref h0)]) hx hb dX7_refresh_183 hl (k := 1) rfl (by rw [e10781]; rfl) (by decide) rfl (fun ls hl => ?_)
          refine lv_goto (tgt := 139) hx hb dX7_refresh_186 (by decide) ?_
          have hI := th_I.close hI hG0 hO (ok_9 hq10763 hq10765 hq10767 hq10769 hq10771 hq10773)
          exact ih_139 _ (by omega) H locs ls v10780 rfl (lv_sub hl [0, 2] rfl) ⟨by omega, by omega⟩ hI hS
        · skip
          try simp only [rg, not_and, Int.not_le] at hp
          have hp10782 := hp
          refine lv_if_eq (tgt := 183) hx hb dX7_refresh_170 (by decide) (fun _ => ?_) (fun c => absurd c (by decide))
          obtain ⟨v10783, e10784⟩ : ∃ y : Int32, y = v10665 + (1) := ⟨_, rfl⟩
          have tv10783 : v10783.toInt = v10665.toInt + (1) := iv_add rfl (by decide) e10784 (by omega) (by omega)
          refine lv_iinc (v := v10783) (lv' := [(1, .int v10783), (2, .int r10759), (0, .ref h0)]) hx hb dX7_refresh_183 hl (k := 1) rfl (by rw [e10784]; rfl) (by decide) rfl (fun ls hl => ?_)
          refine lv_goto (tgt := 139) hx hb dX7_refresh_186 (by decide) ?_
          exact ih_139 _ (by omega) H locs ls v10783 rfl (lv_sub hl [0, 2] rfl) ⟨by omega, by omega⟩ hI hS
  have J_47 : ∀ (nn : Nat) (H : Heap) (locs : List Loc) (ls : Array Slot) (v10785 : Int32), (Int.toNat (9 - v10785.toInt) = nn) → lv_has ls 4 [(1, .int v10785), (0, .ref h0)] → ((0 : Int) ≤ v10785.toInt ∧ v10785.toInt ≤ 9) → th_I (okC E) D G [] H → va_S (th_A G) s.heap H locs → W p l e R s m args below meth c H locs 0 0 QF (F0 m 47 ls []) := by
    intro nn
    induction nn using Nat.strongRecOn with
    | ind nn ih_47 =>
      intro H locs ls v10785 hm hl k10786 hI hS
      have J_131 : ∀ (H : Heap) (locs : List Loc) (ls : Array Slot) (v10787 : Int32) (v10788 : Int32), lv_has ls 4 [(3, .int v10787), (2, .int v10788), (1, .int v10785), (0, .ref h0)] → ((0 : Int) ≤ v10785.toInt ∧ v10785.toInt ≤ 8) → th_I (okC E) D G [] H → va_S (th_A G) s.heap H locs → W p l e R s m args below meth c H locs 0 0 QF (F0 m 131 ls []) := by
        intro H locs ls v10787 v10788 hl k10790 hI hS
        obtain ⟨v10791, e10792⟩ : ∃ y : Int32, y = v10785 + (1) := ⟨_, rfl⟩
        have tv10791 : v10791.toInt = v10785.toInt + (1) := iv_add rfl (by decide) e10792 (by omega) (by omega)
        refine lv_iinc (v := v10791) (lv' := [(1, .int v10791), (3, .int v10787), (2, .int v10788), (0, .ref h0)]) hx hb dX7_refresh_131 hl (k := 2) rfl (by rw [e10792]; rfl) (by decide) rfl (fun ls hl => ?_)
        refine lv_goto (tgt := 47) hx hb dX7_refresh_134 (by decide) ?_
        exact ih_47 _ (by omega) H locs ls v10791 rfl (lv_sub hl [0, 3] rfl) ⟨by omega, by omega⟩ hI hS
      have J_87 : ∀ (nn : Nat) (H : Heap) (locs : List Loc) (ls : Array Slot) (v10793 : Int32) (v10794 : Int32), (Int.toNat (96 - v10793.toInt) = nn) → lv_has ls 4 [(3, .int v10793), (2, .int v10794), (1, .int v10785), (0, .ref h0)] → ((0 : Int) ≤ v10785.toInt ∧ v10785.toInt ≤ 8) → th_I (okC E) D G [] H → va_S (th_A G) s.heap H locs → W p l e R s m args below meth c H locs 0 0 QF (F0 m 87 ls []) := by
        intro nn
        induction nn using Nat.strongRecOn with
        | ind nn ih_87 =>
          intro H locs ls v10793 v10794 hm hl k10796 hI hS
          refine lv_iload_n hx hb dX7_refresh_87 rfl (lv_at hl 0 rfl) ?_
          have k10797 := iv_lo v10793
          have k10798 := iv_hi v10793
          refine lv_if_lt (tgt := 131) hx hb dX7_refresh_88 (by decide) (fun c10799 => ?_) (fun c10799 => ?_)
          · skip
            have k10800 := iv_lt (X := v10793.toInt) (Y := (0)) rfl (by decide) c10799
            exact J_131 H locs ls v10793 v10794 (lv_sub hl [0, 1, 2, 3] rfl) ⟨by omega, by omega⟩ hI hS
          · skip
            have k10801 := iv_nlt (X := v10793.toInt) (Y := (0)) rfl (by decide) c10799
            refine lv_iload_n hx hb dX7_refresh_91 rfl (lv_at hl 0 rfl) ?_
            refine lv_iload_n hx hb dX7_refresh_92 rfl (lv_at hl 1 rfl) ?_
            have k10802 := iv_lo v10794
            have k10803 := iv_hi v10794
            refine lv_icmp_gt (tgt := 131) hx hb dX7_refresh_93 (by decide) (fun c10804 => ?_) (fun c10804 => ?_)
            · skip
              have k10805 := iv_lt (X := v10794.toInt) (Y := v10793.toInt) rfl rfl c10804
              exact J_131 H locs ls v10793 v10794 (lv_sub hl [0, 1, 2, 3] rfl) ⟨by omega, by omega⟩ hI hS
            · skip
              have k10806 := iv_nlt (X := v10794.toInt) (Y := v10793.toInt) rfl rfl c10804
              refine lv_iload_n hx hb dX7_refresh_96 rfl (lv_at hl 0 rfl) ?_
              refine lv_bipush (v := 96) hx hb dX7_refresh_97 (by decide) ?_
              refine lv_icmp_ge (tgt := 131) hx hb dX7_refresh_99 (by decide) (fun c10807 => ?_) (fun c10807 => ?_)
              · skip
                have k10808 := iv_le (X := (96)) (Y := v10793.toInt) (by decide) rfl c10807
                exact J_131 H locs ls v10793 v10794 (lv_sub hl [0, 1, 2, 3] rfl) ⟨by omega, by omega⟩ hI hS
              · skip
                have k10809 := iv_nle (X := (96)) (Y := v10793.toInt) (by decide) rfl c10807
                refine lv_aload_n hx hb dX7_refresh_102 rfl (lv_at hl 3 rfl) ?_
                obtain ⟨a10810, a10812, a10814, a10816, a10818, a10820, w10822, hO, hq10811, hq10813, hq10815, hq10817, hq10819, hq10821⟩ := op_9 hI hG0 List.not_mem_nil
                have hI := th_I.weak (a := h0) hI
                refine th_get hx hb hts inT7 hown hK hO rfl 4 (by decide) (hts _ (tb_c wd_193)) rfl rfl dX7_refresh_103 ?_
                refine lv_iload_n hx hb dX7_refresh_106 rfl (lv_at hl 0 rfl) ?_
                refine lv_dup2_11 hx hb dX7_refresh_107 rfl rfl ?_
                obtain ⟨_, hA10823⟩ := op_0 hI hq10819 (th_ne hG0 hq10819 (show (9 : Nat) ≠ 0 by decide))
                refine th_iald hx hb hK hA10823 0 rfl (iv_in (X := v10793.toInt) rfl (by omega) (by omega)) dX7_refresh_108 (fun v10824 _ => ?_)
                refine lv_iconst (v := 1) hx hb dX7_refresh_109 (by decide) ?_
                refine lv_aload_n hx hb dX7_refresh_110 rfl (lv_at hl 3 rfl) ?_
                refine th_get hx hb hts inT7 hown hK hO rfl 0 (by decide) (hts _ (tb_c wd_189)) rfl rfl dX7_refresh_111 ?_
                have hI := th_I.close hI hG0 hO (ok_9 hq10811 hq10813 hq10815 hq10817 hq10819 hq10821)
                obtain ⟨a10825, a10827, a10829, a10831, a10833, a10835, a10837, a10839, a10841, a10843, w10845, w10848, w10849, w10850, hO, hq10826, hq10828, hq10830, hq10832, hq10834, hq10836, hq10838, hq10840, hq10842, hq10844, ⟨k10846, k10847⟩, k10851⟩ := op_6 hI hq10811 List.not_mem_nil
                have hI := th_I.weak (a := a10810) hI
                refine th_getN hx hb hts inT6 hown hK hN hO rfl 2 (by decide) wn_62 rfl rfl dX7_refresh_114 ?_
                refine lv_iload_n hx hb dX7_refresh_117 rfl (lv_at hl 2 rfl) ?_
                refine lv_iconst (v := 0) hx hb dX7_refresh_118 (by decide) ?_
                have hI := th_I.close hI hq10811 hO (ok_6 hq10826 hq10828 hq10830 hq10832 hq10834 hq10836 hq10838 hq10840 hq10842 hq10844 ⟨by omega, by omega⟩ k10851)
                refine th_cVi (As := [.int v10785, .int 0]) (rest := [.int 1, .int v10824, .int v10793, .ref a10818]) (n := 2) (d := 0) ⟨hx, hb, hml, hown, hts⟩ (c_X4_at l E D G a10829 (8) hq10830 v10785 0) wd_544 wd_519 wd_520 wd_3 wd_521 (by decide +kernel) ⟨by rw [hR]; exact Nat.le_of_ble_eq_true rfl, by rw [hR]; exact Nat.le_of_ble_eq_true rfl⟩ hI hN hK hS (rc_4 hI hq10830 List.not_mem_nil) rfl rfl hl.1 rfl (Nat.le_of_ble_eq_true rfl) dX7_refresh_119 ⟨Nat.zero_le _, Nat.zero_le _⟩ (fun r10852 H locs hp hI hS => ?_)
                refine lv_ishl hx hb dX7_refresh_122 ?_
                refine lv_topi (fun v10853 e10854 => ?_)
                refine lv_ior hx hb dX7_refresh_123 ?_
                refine lv_topi (fun v10855 e10856 => ?_)
                obtain ⟨_, hA10857⟩ := op_0 hI hq10819 List.not_mem_nil
                refine th_iast hx hb hK hA10857 0 rfl hS ⟨_, hq10819⟩ (iv_in (X := v10793.toInt) rfl (by omega) (by omega)) dX7_refresh_124 (fun H locs hA10857 oq hS => ?_)
                have hI := th_I.put hI hq10819 hA10857 ok_0 oq
                obtain ⟨v10858, e10859⟩ : ∃ y : Int32, y = v10793 + (1) := ⟨_, rfl⟩
                have tv10858 : v10858.toInt = v10793.toInt + (1) := iv_add rfl (by decide) e10859 (by omega) (by omega)
                refine lv_iinc (v := v10858) (lv' := [(3, .int v10858), (2, .int v10794), (1, .int v10785), (0, .ref h0)]) hx hb dX7_refresh_125 hl (k := 0) rfl (by rw [e10859]; rfl) (by decide) rfl (fun ls hl => ?_)
                refine lv_goto (tgt := 87) hx hb dX7_refresh_128 (by decide) ?_
                exact ih_87 _ (by omega) H locs ls v10858 v10794 rfl (lv_sub hl [0, 1, 2, 3] rfl) ⟨by omega, by omega⟩ hI hS
      refine lv_iload_n hx hb dX7_refresh_47 rfl (lv_at hl 0 rfl) ?_
      refine lv_aload_n hx hb dX7_refresh_48 rfl (lv_at hl 1 rfl) ?_
      obtain ⟨a10860, a10862, a10864, a10866, a10868, a10870, w10872, hO, hq10861, hq10863, hq10865, hq10867, hq10869, hq10871⟩ := op_9 hI hG0 List.not_mem_nil
      have hI := th_I.weak (a := h0) hI
      refine th_get hx hb hts inT7 hown hK hO rfl 0 (by decide) (hts _ (tb_c wd_189)) rfl rfl dX7_refresh_49 ?_
      have hI := th_I.close hI hG0 hO (ok_9 hq10861 hq10863 hq10865 hq10867 hq10869 hq10871)
      obtain ⟨a10873, a10875, a10877, a10879, a10881, a10883, a10885, a10887, a10889, a10891, w10893, w10896, w10897, w10898, hO, hq10874, hq10876, hq10878, hq10880, hq10882, hq10884, hq10886, hq10888, hq10890, hq10892, ⟨k10894, k10895⟩, k10899⟩ := op_6 hI hq10861 List.not_mem_nil
      have hI := th_I.weak (a := a10860) hI
      refine th_getN hx hb hts inT6 hown hK hN hO rfl 2 (by decide) wn_62 rfl rfl dX7_refresh_52 ?_
      have hI := th_I.close hI hq10861 hO (ok_6 hq10874 hq10876 hq10878 hq10880 hq10882 hq10884 hq10886 hq10888 hq10890 hq10892 ⟨by omega, by omega⟩ k10899)
      obtain ⟨a10901, w10903, hO, hq10902, ⟨k10904, k10905⟩, k10906⟩ := op_4 hI hq10878 List.not_mem_nil
      have hI := th_I.weak (a := a10877) hI
      have k10907 : (nI (8 % 32)).toInt = ((8 % 32 : Nat) : Int) := nI_toInt (by omega)
      have k10908 := k10906.1
      refine th_cVs (As := []) (rest := [.int v10785]) (n := 0) (d := 0) ⟨hx, hb, hml, hown, hts⟩ (c_X4_size l E D H a10877 (8 % 32) a10901 w10903 hO (by omega) (by omega) (by omega)) wd_543 wd_507 wd_508 wd_3 wd_509 (by decide +kernel) ⟨by rw [hR]; exact Nat.le_of_ble_eq_true rfl, by rw [hR]; exact Nat.le_of_ble_eq_true rfl⟩ hN hK hS ⟨_, hO⟩ rfl rfl hl.1 rfl (Nat.le_of_ble_eq_true rfl) dX7_refresh_55 ⟨Nat.zero_le _, Nat.zero_le _⟩ (fun r10900 locs hp hS => ?_)
      have hp := hp.symm
      subst hp
      refine lv_icmp_ge (tgt := 137) hx hb dX7_refresh_58 (by decide) (fun c10909 => ?_) (fun c10909 => ?_)
      · skip
        have k10910 := iv_le (X := w10903.toInt) (Y := v10785.toInt) rfl rfl c10909
        refine lv_iconst (v := 0) hx hb dX7_refresh_137 (by decide) ?_
        refine lv_istore_n (lv' := [(1, .int 0), (0, .ref h0)]) hx hb dX7_refresh_138 rfl hl (by decide) rfl (fun ls hl => ?_)
        have hI := th_I.close hI hq10878 hO (ok_4 hq10902 ⟨by omega, by omega⟩ k10906)
        have zl : (0 : Int32).toInt = 0 := by decide
        exact J_139 _ H locs ls 0 rfl (lv_sub hl [0, 1] rfl) ⟨by decide, by decide⟩ hI hS
      · skip
        have k10911 := iv_nle (X := w10903.toInt) (Y := v10785.toInt) rfl rfl c10909
        refine lv_aload_n hx hb dX7_refresh_61 rfl (lv_at hl 1 rfl) ?_
        have hI := th_I.close hI hq10878 hO (ok_4 hq10902 ⟨by omega, by omega⟩ k10906)
        obtain ⟨a10912, a10914, a10916, a10918, a10920, a10922, w10924, hO, hq10913, hq10915, hq10917, hq10919, hq10921, hq10923⟩ := op_9 hI hG0 List.not_mem_nil
        have hI := th_I.weak (a := h0) hI
        refine th_get hx hb hts inT7 hown hK hO rfl 0 (by decide) (hts _ (tb_c wd_189)) rfl rfl dX7_refresh_62 ?_
        have hI := th_I.close hI hG0 hO (ok_9 hq10913 hq10915 hq10917 hq10919 hq10921 hq10923)
        obtain ⟨a10925, a10927, a10929, a10931, a10933, a10935, a10937, a10939, a10941, a10943, w10945, w10948, w10949, w10950, hO, hq10926, hq10928, hq10930, hq10932, hq10934, hq10936, hq10938, hq10940, hq10942, hq10944, ⟨k10946, k10947⟩, k10951⟩ := op_6 hI hq10913 List.not_mem_nil
        have hI := th_I.weak (a := a10912) hI
        refine th_getN hx hb hts inT6 hown hK hN hO rfl 2 (by decide) wn_62 rfl rfl dX7_refresh_65 ?_
        refine lv_iload_n hx hb dX7_refresh_68 rfl (lv_at hl 0 rfl) ?_
        refine lv_iconst (v := 2) hx hb dX7_refresh_69 (by decide) ?_
        have hI := th_I.close hI hq10913 hO (ok_6 hq10926 hq10928 hq10930 hq10932 hq10934 hq10936 hq10938 hq10940 hq10942 hq10944 ⟨by omega, by omega⟩ k10951)
        refine th_cVi (As := [.int v10785, .int 2]) (rest := []) (n := 2) (d := 0) ⟨hx, hb, hml, hown, hts⟩ (c_X4_at l E D G a10929 (8) hq10930 v10785 2) wd_544 wd_519 wd_520 wd_3 wd_521 (by decide +kernel) ⟨by rw [hR]; exact Nat.le_of_ble_eq_true rfl, by rw [hR]; exact Nat.le_of_ble_eq_true rfl⟩ hI hN hK hS (rc_4 hI hq10930 List.not_mem_nil) rfl rfl hl.1 rfl (Nat.le_of_ble_eq_true rfl) dX7_refresh_70 ⟨Nat.zero_le _, Nat.zero_le _⟩ (fun r10952 H locs hp hI hS => ?_)
        refine lv_istore_n (lv' := [(2, .int r10952), (1, .int v10785), (0, .ref h0)]) hx hb dX7_refresh_73 rfl hl (by decide) rfl (fun ls hl => ?_)
        refine lv_aload_n hx hb dX7_refresh_74 rfl (lv_at hl 2 rfl) ?_
        obtain ⟨a10953, a10955, a10957, a10959, a10961, a10963, w10965, hO, hq10954, hq10956, hq10958, hq10960, hq10962, hq10964⟩ := op_9 hI hG0 List.not_mem_nil
        have hI := th_I.weak (a := h0) hI
        refine th_get hx hb hts inT7 hown hK hO rfl 0 (by decide) (hts _ (tb_c wd_189)) rfl rfl dX7_refresh_75 ?_
        have hI := th_I.close hI hG0 hO (ok_9 hq10954 hq10956 hq10958 hq10960 hq10962 hq10964)
        obtain ⟨a10966, a10968, a10970, a10972, a10974, a10976, a10978, a10980, a10982, a10984, w10986, w10989, w10990, w10991, hO, hq10967, hq10969, hq10971, hq10973, hq10975, hq10977, hq10979, hq10981, hq10983, hq10985, ⟨k10987, k10988⟩, k10992⟩ := op_6 hI hq10954 List.not_mem_nil
        have hI := th_I.weak (a := a10953) hI
        refine th_getN hx hb hts inT6 hown hK hN hO rfl 2 (by decide) wn_62 rfl rfl dX7_refresh_78 ?_
        refine lv_iload_n hx hb dX7_refresh_81 rfl (lv_at hl 1 rfl) ?_
        refine lv_iconst (v := 1) hx hb dX7_refresh_82 (by decide) ?_
        have hI := th_I.close hI hq10954 hO (ok_6 hq10967 hq10969 hq10971 hq10973 hq10975 hq10977 hq10979 hq10981 hq10983 hq10985 ⟨by omega, by omega⟩ k10992)
        refine th_cVi (As := [.int v10785, .int 1]) (rest := []) (n := 2) (d := 0) ⟨hx, hb, hml, hown, hts⟩ (c_X4_at l E D G a10970 (8) hq10971 v10785 1) wd_544 wd_519 wd_520 wd_3 wd_521 (by decide +kernel) ⟨by rw [hR]; exact Nat.le_of_ble_eq_true rfl, by rw [hR]; exact Nat.le_of_ble_eq_true rfl⟩ hI hN hK hS (rc_4 hI hq10971 List.not_mem_nil) rfl rfl hl.1 rfl (Nat.le_of_ble_eq_true rfl) dX7_refresh_83 ⟨Nat.zero_le _, Nat.zero_le _⟩ (fun r10993 H locs hp hI hS => ?_)
        refine lv_istore_n (lv' := [(3, .int r10993), (2, .int r10952), (1, .int v10785), (0, .ref h0)]) hx hb dX7_refresh_86 rfl hl (by decide) rfl (fun ls hl => ?_)
        exact J_87 _ H locs ls r10993 r10952 rfl (lv_sub hl [0, 1, 2, 3] rfl) ⟨by omega, by omega⟩ hI hS
  refine lv_aload_n hx hb dX7_refresh_0 rfl (lv_at hl 0 rfl) ?_
  obtain ⟨a10994, a10996, a10998, a11000, a11002, a11004, w11006, hO, hq10995, hq10997, hq10999, hq11001, hq11003, hq11005⟩ := op_9 hI hG0 List.not_mem_nil
  have hI := th_I.weak (a := h0) hI
  refine th_get hx hb hts inT7 hown hK hO rfl 6 (by decide) (hts _ (tb_c wd_195)) rfl rfl dX7_refresh_1 ?_
  have k11007 := iv_lo w11006
  have k11008 := iv_hi w11006
  refine lv_if_ne (tgt := 8) hx hb dX7_refresh_4 (by decide) (fun c11009 => ?_) (fun c11009 => ?_)
  · skip
    have k11010 := iv_ne (X := w11006.toInt) (Y := (0)) rfl (by decide) c11009
    refine lv_aload_n hx hb dX7_refresh_8 rfl (lv_at hl 0 rfl) ?_
    refine lv_iconst (v := 0) hx hb dX7_refresh_9 (by decide) ?_
    refine th_put (ty := .boolean) hx hb hts inT7 tyX7 tyX7_ok nmX7 hown hK hO hS ⟨_, hG0⟩ rfl 6 (by decide) (hts _ (tb_c wd_195)) rfl rfl (by decide +kernel) (by decide) rfl (Nat.le_of_ble_eq_true rfl) dX7_refresh_10 (fun H locs hO oq hS => ?_)
    have hI := th_I.moved hI oq
    have hO : va_at D vwCl (h0, .inr (7, [.ref a10994, .ref a10996, .ref a10998, .ref a11000, .ref a11002, .ref a11004, .int 0])) H := hO
    refine lv_aload_n hx hb dX7_refresh_13 rfl (lv_at hl 0 rfl) ?_
    refine th_get hx hb hts inT7 hown hK hO rfl 2 (by decide) (hts _ (tb_c wd_191)) rfl rfl dX7_refresh_14 ?_
    refine lv_iconst (v := 0) hx hb dX7_refresh_17 (by decide) ?_
    have hI := th_I.close hI hG0 hO (ok_9 hq10995 hq10997 hq10999 hq11001 hq11003 hq11005)
    refine th_cSv (As := [.ref a10998, .int 0]) (rest := []) (n := 2) (d := 0) ⟨hx, hb, hml, hown, hts⟩ (c_J7_fill_53178 l E D G a10998 (2304) hq10999 (by omega) 0) wd_540 wd_541 wd_15 wd_542 (by decide +kernel) ⟨by rw [hR]; exact Nat.le_of_ble_eq_true rfl, by rw [hR]; exact Nat.le_of_ble_eq_true rfl⟩ hI hN hK hS rfl hl.1 rfl (Nat.le_of_ble_eq_true rfl) dX7_refresh_18 ⟨Nat.zero_le _, Nat.zero_le _⟩ (fun H locs hI hS => ?_)
    refine lv_aload_n hx hb dX7_refresh_21 rfl (lv_at hl 0 rfl) ?_
    obtain ⟨a11012, a11014, a11016, a11018, a11020, a11022, w11024, hO, hq11013, hq11015, hq11017, hq11019, hq11021, hq11023⟩ := op_9 hI hG0 List.not_mem_nil
    have hI := th_I.weak (a := h0) hI
    refine th_get hx hb hts inT7 hown hK hO rfl 3 (by decide) (hts _ (tb_c wd_192)) rfl rfl dX7_refresh_22 ?_
    refine lv_iconst (v := 0) hx hb dX7_refresh_25 (by decide) ?_
    have hI := th_I.close hI hG0 hO (ok_9 hq11013 hq11015 hq11017 hq11019 hq11021 hq11023)
    refine th_cSv (As := [.ref a11018, .int 0]) (rest := []) (n := 2) (d := 0) ⟨hx, hb, hml, hown, hts⟩ (c_J7_fill_53178 l E D G a11018 (2304) hq11019 (by omega) 0) wd_540 wd_541 wd_15 wd_542 (by decide +kernel) ⟨by rw [hR]; exact Nat.le_of_ble_eq_true rfl, by rw [hR]; exact Nat.le_of_ble_eq_true rfl⟩ hI hN hK hS rfl hl.1 rfl (Nat.le_of_ble_eq_true rfl) dX7_refresh_26 ⟨Nat.zero_le _, Nat.zero_le _⟩ (fun H locs hI hS => ?_)
    refine lv_aload_n hx hb dX7_refresh_29 rfl (lv_at hl 0 rfl) ?_
    obtain ⟨a11026, a11028, a11030, a11032, a11034, a11036, w11038, hO, hq11027, hq11029, hq11031, hq11033, hq11035, hq11037⟩ := op_9 hI hG0 List.not_mem_nil
    have hI := th_I.weak (a := h0) hI
    refine th_get hx hb hts inT7 hown hK hO rfl 4 (by decide) (hts _ (tb_c wd_193)) rfl rfl dX7_refresh_30 ?_
    refine lv_iconst (v := 0) hx hb dX7_refresh_33 (by decide) ?_
    have hI := th_I.close hI hG0 hO (ok_9 hq11027 hq11029 hq11031 hq11033 hq11035 hq11037)
    refine th_cSv (As := [.ref a11034, .int 0]) (rest := []) (n := 2) (d := 0) ⟨hx, hb, hml, hown, hts⟩ (c_J7_fill_53178 l E D G a11034 (96) hq11035 (by omega) 0) wd_540 wd_541 wd_15 wd_542 (by decide +kernel) ⟨by rw [hR]; exact Nat.le_of_ble_eq_true rfl, by rw [hR]; exact Nat.le_of_ble_eq_true rfl⟩ hI hN hK hS rfl hl.1 rfl (Nat.le_of_ble_eq_true rfl) dX7_refresh_34 ⟨Nat.zero_le _, Nat.zero_le _⟩ (fun H locs hI hS => ?_)
    refine lv_aload_n hx hb dX7_refresh_37 rfl (lv_at hl 0 rfl) ?_
    obtain ⟨a11040, a11042, a11044, a11046, a11048, a11050, w11052, hO, hq11041, hq11043, hq11045, hq11047, hq11049, hq11051⟩ := op_9 hI hG0 List.not_mem_nil
    have hI := th_I.weak (a := h0) hI
    refine th_get hx hb hts inT7 hown hK hO rfl 5 (by decide) (hts _ (tb_c wd_194)) rfl rfl dX7_refresh_38 ?_
    refine lv_iconst (v := 0) hx hb dX7_refresh_41 (by decide) ?_
    have hI := th_I.close hI hG0 hO (ok_9 hq11041 hq11043 hq11045 hq11047 hq11049 hq11051)
    refine th_cSv (As := [.ref a11050, .int 0]) (rest := []) (n := 2) (d := 0) ⟨hx, hb, hml, hown, hts⟩ (c_J7_fill_53178 l E D G a11050 (24) hq11051 (by omega) 0) wd_540 wd_541 wd_15 wd_542 (by decide +kernel) ⟨by rw [hR]; exact Nat.le_of_ble_eq_true rfl, by rw [hR]; exact Nat.le_of_ble_eq_true rfl⟩ hI hN hK hS rfl hl.1 rfl (Nat.le_of_ble_eq_true rfl) dX7_refresh_42 ⟨Nat.zero_le _, Nat.zero_le _⟩ (fun H locs hI hS => ?_)
    refine lv_iconst (v := 0) hx hb dX7_refresh_45 (by decide) ?_
    refine lv_istore_n (lv' := [(1, .int 0), (0, .ref h0)]) hx hb dX7_refresh_46 rfl hl (by decide) rfl (fun ls hl => ?_)
    have zl : (0 : Int32).toInt = 0 := by decide
    exact J_47 _ H locs ls 0 rfl (lv_sub hl [0, 1] rfl) ⟨by decide, by decide⟩ hI hS
  · skip
    have k11054 := iv_eq (X := w11006.toInt) (Y := (0)) rfl (by decide) c11009
    have hI := th_I.close hI hG0 hO (ok_9 hq10995 hq10997 hq10999 hq11001 hq11003 hq11005)
    rw [hQ]
    exact W.vret hx hb hr (fun t ht hW => ⟨⟨(), rfl, trivial, by rw [ht]; exact hI, hN.warm hW, va_K.moved hW.alike hK⟩, hS.F ht⟩) hS.2.2 dX7_refresh_7
theorem dX7_walk_0g : (decode cX7_walk 0 = .ok (.iload_n 2, 1)) ∧ (decode cX7_walk 1 = .ok (.invokestatic 47, 3)) ∧ (decode cX7_walk 4 = .ok (.ifCond .eq 12, 3)) ∧ (decode cX7_walk 7 = .ok (.aload_n 0, 1)) ∧ (decode cX7_walk 8 = .ok (.getfield 25, 3)) ∧ (decode cX7_walk 11 = .ok (.iload_n 2, 1)) ∧ (decode cX7_walk 12 = .ok (.iaload, 1)) ∧ (decode cX7_walk 13 = .ok (.goto 4, 3)) ∧ (decode cX7_walk 16 = .ok (.iconst 0, 1)) ∧ (decode cX7_walk 17 = .ok (.istore 4, 2)) := by decide +kernel
theorem dX7_walk_0 : decode cX7_walk 0 = .ok (.iload_n 2, 1) := dX7_walk_0g.1
theorem dX7_walk_1 : decode cX7_walk 1 = .ok (.invokestatic 47, 3) := dX7_walk_0g.2.1
theorem dX7_walk_4 : decode cX7_walk 4 = .ok (.ifCond .eq 12, 3) := dX7_walk_0g.2.2.1
theorem dX7_walk_7 : decode cX7_walk 7 = .ok (.aload_n 0, 1) := dX7_walk_0g.2.2.2.1
theorem dX7_walk_8 : decode cX7_walk 8 = .ok (.getfield 25, 3) := dX7_walk_0g.2.2.2.2.1
theorem dX7_walk_11 : decode cX7_walk 11 = .ok (.iload_n 2, 1) := dX7_walk_0g.2.2.2.2.2.1
theorem dX7_walk_12 : decode cX7_walk 12 = .ok (.iaload, 1) := dX7_walk_0g.2.2.2.2.2.2.1
theorem dX7_walk_13 : decode cX7_walk 13 = .ok (.goto 4, 3) := dX7_walk_0g.2.2.2.2.2.2.2.1
theorem dX7_walk_16 : decode cX7_walk 16 = .ok (.iconst 0, 1) := dX7_walk_0g.2.2.2.2.2.2.2.2.1
theorem dX7_walk_17 : decode cX7_walk 17 = .ok (.istore 4, 2) := dX7_walk_0g.2.2.2.2.2.2.2.2.2
theorem dX7_walk_19g : (decode cX7_walk 19 = .ok (.iload_n 1, 1)) ∧ (decode cX7_walk 20 = .ok (.istore 5, 2)) ∧ (decode cX7_walk 22 = .ok (.iconst 0, 1)) ∧ (decode cX7_walk 23 = .ok (.istore 6, 2)) ∧ (decode cX7_walk 25 = .ok (.iload 6, 2)) ∧ (decode cX7_walk 27 = .ok (.iload_n 3, 1)) ∧ (decode cX7_walk 28 = .ok (.if_icmp .ge 29, 3)) ∧ (decode cX7_walk 31 = .ok (.iload 5, 2)) ∧ (decode cX7_walk 33 = .ok (.bipush 24, 2)) ∧ (decode cX7_walk 35 = .ok (.if_icmp .ge 22, 3)) := by decide +kernel
theorem dX7_walk_19 : decode cX7_walk 19 = .ok (.iload_n 1, 1) := dX7_walk_19g.1
theorem dX7_walk_20 : decode cX7_walk 20 = .ok (.istore 5, 2) := dX7_walk_19g.2.1
theorem dX7_walk_22 : decode cX7_walk 22 = .ok (.iconst 0, 1) := dX7_walk_19g.2.2.1
theorem dX7_walk_23 : decode cX7_walk 23 = .ok (.istore 6, 2) := dX7_walk_19g.2.2.2.1
theorem dX7_walk_25 : decode cX7_walk 25 = .ok (.iload 6, 2) := dX7_walk_19g.2.2.2.2.1
theorem dX7_walk_27 : decode cX7_walk 27 = .ok (.iload_n 3, 1) := dX7_walk_19g.2.2.2.2.2.1
theorem dX7_walk_28 : decode cX7_walk 28 = .ok (.if_icmp .ge 29, 3) := dX7_walk_19g.2.2.2.2.2.2.1
theorem dX7_walk_31 : decode cX7_walk 31 = .ok (.iload 5, 2) := dX7_walk_19g.2.2.2.2.2.2.2.1
theorem dX7_walk_33 : decode cX7_walk 33 = .ok (.bipush 24, 2) := dX7_walk_19g.2.2.2.2.2.2.2.2.1
theorem dX7_walk_35 : decode cX7_walk 35 = .ok (.if_icmp .ge 22, 3) := dX7_walk_19g.2.2.2.2.2.2.2.2.2
theorem dX7_walk_38g : (decode cX7_walk 38 = .ok (.iload 4, 2)) ∧ (decode cX7_walk 40 = .ok (.iload 5, 2)) ∧ (decode cX7_walk 42 = .ok (.ishr, 1)) ∧ (decode cX7_walk 43 = .ok (.iconst 1, 1)) ∧ (decode cX7_walk 44 = .ok (.iand, 1)) ∧ (decode cX7_walk 45 = .ok (.ifCond .ne 12, 3)) ∧ (decode cX7_walk 48 = .ok (.iinc 5 1, 3)) ∧ (decode cX7_walk 51 = .ok (.iinc 6 1, 3)) ∧ (decode cX7_walk 54 = .ok (.goto (-29), 3)) ∧ (decode cX7_walk 57 = .ok (.iconst 0, 1)) := by decide +kernel
theorem dX7_walk_38 : decode cX7_walk 38 = .ok (.iload 4, 2) := dX7_walk_38g.1
theorem dX7_walk_40 : decode cX7_walk 40 = .ok (.iload 5, 2) := dX7_walk_38g.2.1
theorem dX7_walk_42 : decode cX7_walk 42 = .ok (.ishr, 1) := dX7_walk_38g.2.2.1
theorem dX7_walk_43 : decode cX7_walk 43 = .ok (.iconst 1, 1) := dX7_walk_38g.2.2.2.1
theorem dX7_walk_44 : decode cX7_walk 44 = .ok (.iand, 1) := dX7_walk_38g.2.2.2.2.1
theorem dX7_walk_45 : decode cX7_walk 45 = .ok (.ifCond .ne 12, 3) := dX7_walk_38g.2.2.2.2.2.1
theorem dX7_walk_48 : decode cX7_walk 48 = .ok (.iinc 5 1, 3) := dX7_walk_38g.2.2.2.2.2.2.1
theorem dX7_walk_51 : decode cX7_walk 51 = .ok (.iinc 6 1, 3) := dX7_walk_38g.2.2.2.2.2.2.2.1
theorem dX7_walk_54 : decode cX7_walk 54 = .ok (.goto (-29), 3) := dX7_walk_38g.2.2.2.2.2.2.2.2.1
theorem dX7_walk_57 : decode cX7_walk 57 = .ok (.iconst 0, 1) := dX7_walk_38g.2.2.2.2.2.2.2.2.2
theorem dX7_walk_58g : (decode cX7_walk 58 = .ok (.istore 6, 2)) ∧ (decode cX7_walk 60 = .ok (.iload 6, 2)) ∧ (decode cX7_walk 62 = .ok (.iload_n 3, 1)) ∧ (decode cX7_walk 63 = .ok (.if_icmp .le 29, 3)) ∧ (decode cX7_walk 66 = .ok (.iload 5, 2)) ∧ (decode cX7_walk 68 = .ok (.ifCond .le 24, 3)) ∧ (decode cX7_walk 71 = .ok (.iload 4, 2)) ∧ (decode cX7_walk 73 = .ok (.iload 5, 2)) ∧ (decode cX7_walk 75 = .ok (.iconst 1, 1)) ∧ (decode cX7_walk 76 = .ok (.isub, 1)) := by decide +kernel
theorem dX7_walk_58 : decode cX7_walk 58 = .ok (.istore 6, 2) := dX7_walk_58g.1
theorem dX7_walk_60 : decode cX7_walk 60 = .ok (.iload 6, 2) := dX7_walk_58g.2.1
theorem dX7_walk_62 : decode cX7_walk 62 = .ok (.iload_n 3, 1) := dX7_walk_58g.2.2.1
theorem dX7_walk_63 : decode cX7_walk 63 = .ok (.if_icmp .le 29, 3) := dX7_walk_58g.2.2.2.1
theorem dX7_walk_66 : decode cX7_walk 66 = .ok (.iload 5, 2) := dX7_walk_58g.2.2.2.2.1
theorem dX7_walk_68 : decode cX7_walk 68 = .ok (.ifCond .le 24, 3) := dX7_walk_58g.2.2.2.2.2.1
theorem dX7_walk_71 : decode cX7_walk 71 = .ok (.iload 4, 2) := dX7_walk_58g.2.2.2.2.2.2.1
theorem dX7_walk_73 : decode cX7_walk 73 = .ok (.iload 5, 2) := dX7_walk_58g.2.2.2.2.2.2.2.1
theorem dX7_walk_75 : decode cX7_walk 75 = .ok (.iconst 1, 1) := dX7_walk_58g.2.2.2.2.2.2.2.2.1
theorem dX7_walk_76 : decode cX7_walk 76 = .ok (.isub, 1) := dX7_walk_58g.2.2.2.2.2.2.2.2.2
theorem dX7_walk_77g : (decode cX7_walk 77 = .ok (.ishr, 1)) ∧ (decode cX7_walk 78 = .ok (.iconst 1, 1)) ∧ (decode cX7_walk 79 = .ok (.iand, 1)) ∧ (decode cX7_walk 80 = .ok (.ifCond .ne 12, 3)) ∧ (decode cX7_walk 83 = .ok (.iinc 5 (-1), 3)) ∧ (decode cX7_walk 86 = .ok (.iinc 6 (-1), 3)) ∧ (decode cX7_walk 89 = .ok (.goto (-29), 3)) ∧ (decode cX7_walk 92 = .ok (.iload 5, 2)) ∧ (decode cX7_walk 94 = .ok (.ireturn, 1)) := by decide +kernel
theorem dX7_walk_77 : decode cX7_walk 77 = .ok (.ishr, 1) := dX7_walk_77g.1
theorem dX7_walk_78 : decode cX7_walk 78 = .ok (.iconst 1, 1) := dX7_walk_77g.2.1
theorem dX7_walk_79 : decode cX7_walk 79 = .ok (.iand, 1) := dX7_walk_77g.2.2.1
theorem dX7_walk_80 : decode cX7_walk 80 = .ok (.ifCond .ne 12, 3) := dX7_walk_77g.2.2.2.1
theorem dX7_walk_83 : decode cX7_walk 83 = .ok (.iinc 5 (-1), 3) := dX7_walk_77g.2.2.2.2.1
theorem dX7_walk_86 : decode cX7_walk 86 = .ok (.iinc 6 (-1), 3) := dX7_walk_77g.2.2.2.2.2.1
theorem dX7_walk_89 : decode cX7_walk 89 = .ok (.goto (-29), 3) := dX7_walk_77g.2.2.2.2.2.2.1
theorem dX7_walk_92 : decode cX7_walk 92 = .ok (.iload 5, 2) := dX7_walk_77g.2.2.2.2.2.2.2.1
theorem dX7_walk_94 : decode cX7_walk 94 = .ok (.ireturn, 1) := dX7_walk_77g.2.2.2.2.2.2.2.2
set_option maxHeartbeats 4000000 in
set_option maxRecDepth 100000 in
theorem c_X7_walk (l : Launch) (E : Nat → Nat) (D : va_G) (G : th_G) (h0 : Nat) (hG0 : G h0 = some (9, 0)) (x1 x2 x3 : Int32) : Met l yX7_walk (tb (.code yX7_walk cX7_walk 7 (some .int))) (rm 1) (va_Pc [.ref h0, .int x1, .int x2, .int x3] (th_P E D G)) (QI E D G (fun r => True)) 0 0 (th_A G) := by
  refine Met.ofW (cc := cX7_walk) (maxL := 7) (ret := (some .int)) (by decide) rfl ?_
  intro p e s m args below meth c s₁ B hml hv
  obtain ⟨hav, hI, hN, hK⟩ := hv
  have hx := B.exec
  have hb := B.bytes
  have hr := B.returns
  have hts := atoms_spec (ws := tb (.code yX7_walk cX7_walk 7 (some .int))) B.pre
  have hown : s.vm.findClass RX7 = some m.cls := findClass_of_methodNamed B.named
  have hlocks := B.notSynchronized
  have hS : va_S (th_A G) s.heap s.heap [] := va_S.rf
  have hl := lv_entry ([.ref h0, .int x1, .int x2, .int x3]) (n := 7) (Nat.le_of_ble_eq_true rfl)
  rw [show entryFrame m args 7 = entryFrame m ([.ref h0, .int x1, .int x2, .int x3] : List Value).toArray 7 from by rw [hav], lg_entry_eq]
  generalize (lg_sl ([.ref h0, .int x1, .int x2, .int x3]) ++ List.replicate (7 - (lg_sl ([.ref h0, .int x1, .int x2, .int x3])).length) Slot.unset).toArray = ls at hl ⊢
  have hl : lv_has ls 7 [(0, .ref h0), (1, .int x1), (2, .int x2), (3, .int x3)] := hl
  generalize hR : (headSpec (tb (.code yX7_walk cX7_walk 7 (some .int))) (rm 1)).room = R
  have hR := hR.symm
  generalize hQ : MQ below (QI E D G (fun r => True)) args s 0 0 (th_A G) = QF
  have hQ := hQ.symm
  have J_60 : ∀ (nn : Nat) (H : Heap) (locs : List Loc) (ls : Array Slot) (v2425 : Int32) (v2426 : Int32) (v2427 : Int32), (Int.toNat (v2426.toInt - (0)) = nn) → lv_has ls 7 [(6, .int v2425), (5, .int v2426), (4, .int v2427), (0, .ref h0), (1, .int x1), (2, .int x2), (3, .int x3)] → (v2425.toInt ≤ 0) → th_I (okC E) D G [] H → va_S (th_A G) s.heap H locs → W p l e R s m args below meth c H locs 0 0 QF (F0 m 60 ls []) := by
    intro nn
    induction nn using Nat.strongRecOn with
    | ind nn ih_60 =>
      intro H locs ls v2425 v2426 v2427 hm hl k2428 hI hS
      refine lv_iload hx hb dX7_walk_60 (lv_at hl 0 rfl) ?_
      refine lv_iload_n hx hb dX7_walk_62 rfl (lv_at hl 6 rfl) ?_
      have k2429 := iv_lo v2425
      have k2430 := iv_hi v2425
      have k2431 := iv_lo x3
      have k2432 := iv_hi x3
      refine lv_icmp_le (tgt := 92) hx hb dX7_walk_63 (by decide) (fun c2433 => ?_) (fun c2433 => ?_)
      · skip
        have k2434 := iv_le (X := v2425.toInt) (Y := x3.toInt) rfl rfl c2433
        refine lv_iload hx hb dX7_walk_92 (lv_at hl 1 rfl) ?_
        have hpost : True := trivial
        rw [hQ]
        exact W.iret (v := v2426) hx hb hr (fun t ht hW => ⟨⟨v2426, (), rfl, hpost, by rw [ht]; exact hI, hN.warm hW, va_K.moved hW.alike hK⟩, hS.F ht⟩) hS.2.2 dX7_walk_94
      · skip
        have k2435 := iv_nle (X := v2425.toInt) (Y := x3.toInt) rfl rfl c2433
        refine lv_iload hx hb dX7_walk_66 (lv_at hl 1 rfl) ?_
        have k2436 := iv_lo v2426
        have k2437 := iv_hi v2426
        refine lv_if_le (tgt := 92) hx hb dX7_walk_68 (by decide) (fun c2438 => ?_) (fun c2438 => ?_)
        · skip
          have k2439 := iv_le (X := v2426.toInt) (Y := (0)) rfl (by decide) c2438
          refine lv_iload hx hb dX7_walk_92 (lv_at hl 1 rfl) ?_
          have hpost : True := trivial
          rw [hQ]
          exact W.iret (v := v2426) hx hb hr (fun t ht hW => ⟨⟨v2426, (), rfl, hpost, by rw [ht]; exact hI, hN.warm hW, va_K.moved hW.alike hK⟩, hS.F ht⟩) hS.2.2 dX7_walk_94
        · skip
          have k2440 := iv_nle (X := v2426.toInt) (Y := (0)) rfl (by decide) c2438
          refine lv_iload hx hb dX7_walk_71 (lv_at hl 2 rfl) ?_
          refine lv_iload hx hb dX7_walk_73 (lv_at hl 1 rfl) ?_
          refine lv_iconst (v := 1) hx hb dX7_walk_75 (by decide) ?_
          refine lv_isub hx hb dX7_walk_76 ?_
          refine lv_topi (fun v2441 e2442 => ?_)
          have tv2441 : v2441.toInt = v2426.toInt - (1) := iv_sub rfl (by decide) e2442 (by omega) (by omega)
          refine lv_ishr hx hb dX7_walk_77 ?_
          refine lv_topi (fun v2443 e2444 => ?_)
          refine lv_iconst (v := 1) hx hb dX7_walk_78 (by decide) ?_
          refine lv_iand hx hb dX7_walk_79 ?_
          refine lv_topi (fun v2445 e2446 => ?_)
          have tv2445 := iv_andr (m := 1) (M := 1) e2446 (by decide) (by decide)
          refine lv_if_ne (tgt := 92) hx hb dX7_walk_80 (by decide) (fun c2447 => ?_) (fun c2447 => ?_)
          · skip
            have k2448 := iv_ne (X := v2445.toInt) (Y := (0)) rfl (by decide) c2447
            refine lv_iload hx hb dX7_walk_92 (lv_at hl 1 rfl) ?_
            have hpost : True := trivial
            rw [hQ]
            exact W.iret (v := v2426) hx hb hr (fun t ht hW => ⟨⟨v2426, (), rfl, hpost, by rw [ht]; exact hI, hN.warm hW, va_K.moved hW.alike hK⟩, hS.F ht⟩) hS.2.2 dX7_walk_94
          · skip
            have k2449 := iv_eq (X := v2445.toInt) (Y := (0)) rfl (by decide) c2447
            obtain ⟨v2450, e2451⟩ : ∃ y : Int32, y = v2426 + (-1) := ⟨_, rfl⟩
            have tv2450 : v2450.toInt = v2426.toInt + (-1) := iv_add rfl (by decide) e2451 (by omega) (by omega)
            refine lv_iinc (v := v2450) (lv' := [(5, .int v2450), (6, .int v2425), (4, .int v2427), (0, .ref h0), (1, .int x1), (2, .int x2), (3, .int x3)]) hx hb dX7_walk_83 hl (k := 1) rfl (by rw [e2451]; rfl) (by decide) rfl (fun ls hl => ?_)
            obtain ⟨v2452, e2453⟩ : ∃ y : Int32, y = v2425 + (-1) := ⟨_, rfl⟩
            have tv2452 : v2452.toInt = v2425.toInt + (-1) := iv_add rfl (by decide) e2453 (by omega) (by omega)
            refine lv_iinc (v := v2452) (lv' := [(6, .int v2452), (5, .int v2450), (4, .int v2427), (0, .ref h0), (1, .int x1), (2, .int x2), (3, .int x3)]) hx hb dX7_walk_86 hl (k := 1) rfl (by rw [e2453]; rfl) (by decide) rfl (fun ls hl => ?_)
            refine lv_goto (tgt := 60) hx hb dX7_walk_89 (by decide) ?_
            exact ih_60 _ (by omega) H locs ls v2452 v2450 v2427 rfl (lv_sub hl [0, 1, 2, 3, 4, 5, 6] rfl) (by omega) hI hS
  have J_57 : ∀ (H : Heap) (locs : List Loc) (ls : Array Slot) (v2454 : Int32) (v2455 : Int32) (v2456 : Int32), lv_has ls 7 [(6, .int v2454), (5, .int v2455), (4, .int v2456), (0, .ref h0), (1, .int x1), (2, .int x2), (3, .int x3)] → ((0 : Int) ≤ v2454.toInt) → th_I (okC E) D G [] H → va_S (th_A G) s.heap H locs → W p l e R s m args below meth c H locs 0 0 QF (F0 m 57 ls []) := by
    intro H locs ls v2454 v2455 v2456 hl k2457 hI hS
    refine lv_iconst (v := 0) hx hb dX7_walk_57 (by decide) ?_
    refine lv_istore (lv' := [(6, .int 0), (5, .int v2455), (4, .int v2456), (0, .ref h0), (1, .int x1), (2, .int x2), (3, .int x3)]) hx hb dX7_walk_58 hl (by decide) rfl (fun ls hl => ?_)
    exact J_60 _ H locs ls 0 v2455 v2456 rfl (lv_sub hl [0, 1, 2, 3, 4, 5, 6] rfl) (by decide) hI hS
  have J_25 : ∀ (nn : Nat) (H : Heap) (locs : List Loc) (ls : Array Slot) (v2458 : Int32) (v2459 : Int32) (v2460 : Int32), (Int.toNat (24 - v2459.toInt) = nn) → lv_has ls 7 [(6, .int v2458), (5, .int v2459), (4, .int v2460), (0, .ref h0), (1, .int x1), (2, .int x2), (3, .int x3)] → ((0 : Int) ≤ v2458.toInt) → th_I (okC E) D G [] H → va_S (th_A G) s.heap H locs → W p l e R s m args below meth c H locs 0 0 QF (F0 m 25 ls []) := by
    intro nn
    induction nn using Nat.strongRecOn with
    | ind nn ih_25 =>
      intro H locs ls v2458 v2459 v2460 hm hl k2461 hI hS
      refine lv_iload hx hb dX7_walk_25 (lv_at hl 0 rfl) ?_
      refine lv_iload_n hx hb dX7_walk_27 rfl (lv_at hl 6 rfl) ?_
      have k2462 := iv_lo v2458
      have k2463 := iv_hi v2458
      have k2464 := iv_lo x3
      have k2465 := iv_hi x3
      refine lv_icmp_ge (tgt := 57) hx hb dX7_walk_28 (by decide) (fun c2466 => ?_) (fun c2466 => ?_)
      · skip
        have k2467 := iv_le (X := x3.toInt) (Y := v2458.toInt) rfl rfl c2466
        exact J_57 H locs ls v2458 v2459 v2460 (lv_sub hl [0, 1, 2, 3, 4, 5, 6] rfl) (by omega) hI hS
      · skip
        have k2468 := iv_nle (X := x3.toInt) (Y := v2458.toInt) rfl rfl c2466
        refine lv_iload hx hb dX7_walk_31 (lv_at hl 1 rfl) ?_
        refine lv_bipush (v := 24) hx hb dX7_walk_33 (by decide) ?_
        have k2469 := iv_lo v2459
        have k2470 := iv_hi v2459
        refine lv_icmp_ge (tgt := 57) hx hb dX7_walk_35 (by decide) (fun c2471 => ?_) (fun c2471 => ?_)
        · skip
          have k2472 := iv_le (X := (24)) (Y := v2459.toInt) (by decide) rfl c2471
          exact J_57 H locs ls v2458 v2459 v2460 (lv_sub hl [0, 1, 2, 3, 4, 5, 6] rfl) (by omega) hI hS
        · skip
          have k2473 := iv_nle (X := (24)) (Y := v2459.toInt) (by decide) rfl c2471
          refine lv_iload hx hb dX7_walk_38 (lv_at hl 2 rfl) ?_
          refine lv_iload hx hb dX7_walk_40 (lv_at hl 1 rfl) ?_
          refine lv_ishr hx hb dX7_walk_42 ?_
          refine lv_topi (fun v2474 e2475 => ?_)
          refine lv_iconst (v := 1) hx hb dX7_walk_43 (by decide) ?_
          refine lv_iand hx hb dX7_walk_44 ?_
          refine lv_topi (fun v2476 e2477 => ?_)
          have tv2476 := iv_andr (m := 1) (M := 1) e2477 (by decide) (by decide)
          refine lv_if_ne (tgt := 57) hx hb dX7_walk_45 (by decide) (fun c2478 => ?_) (fun c2478 => ?_)
          · skip
            have k2479 := iv_ne (X := v2476.toInt) (Y := (0)) rfl (by decide) c2478
            exact J_57 H locs ls v2458 v2459 v2460 (lv_sub hl [0, 1, 2, 3, 4, 5, 6] rfl) (by omega) hI hS
          · skip
            have k2480 := iv_eq (X := v2476.toInt) (Y := (0)) rfl (by decide) c2478
            obtain ⟨v2481, e2482⟩ : ∃ y : Int32, y = v2459 + (1) := ⟨_, rfl⟩
            have tv2481 : v2481.toInt = v2459.toInt + (1) := iv_add rfl (by decide) e2482 (by omega) (by omega)
            refine lv_iinc (v := v2481) (lv' := [(5, .int v2481), (6, .int v2458), (4, .int v2460), (0, .ref h0), (1, .int x1), (2, .int x2), (3, .int x3)]) hx hb dX7_walk_48 hl (k := 1) rfl (by rw [e2482]; rfl) (by decide) rfl (fun ls hl => ?_)
            obtain ⟨v2483, e2484⟩ : ∃ y : Int32, y = v2458 + (1) := ⟨_, rfl⟩
            have tv2483 : v2483.toInt = v2458.toInt + (1) := iv_add rfl (by decide) e2484 (by omega) (by omega)
            refine lv_iinc (v := v2483) (lv' := [(6, .int v2483), (5, .int v2481), (4, .int v2460), (0, .ref h0), (1, .int x1), (2, .int x2), (3, .int x3)]) hx hb dX7_walk_51 hl (k := 1) rfl (by rw [e2484]; rfl) (by decide) rfl (fun ls hl => ?_)
            refine lv_goto (tgt := 25) hx hb dX7_walk_54 (by decide) ?_
            exact ih_25 _ (by omega) H locs ls v2483 v2481 v2460 rfl (lv_sub hl [0, 1, 2, 3, 4, 5, 6] rfl) (by omega) hI hS
  have J_17 : ∀ (H : Heap) (locs : List Loc) (ls : Array Slot) (v2485 : Int32), lv_has ls 7 [(0, .ref h0), (1, .int x1), (2, .int x2), (3, .int x3)] → th_I (okC E) D G [] H → va_S (th_A G) s.heap H locs → W p l e R s m args below meth c H locs 0 0 QF (F0 m 17 ls [.int v2485]) := by
    intro H locs ls v2485 hl  hI hS
    refine lv_istore (lv' := [(4, .int v2485), (0, .ref h0), (1, .int x1), (2, .int x2), (3, .int x3)]) hx hb dX7_walk_17 hl (by decide) rfl (fun ls hl => ?_)
    refine lv_iload_n hx hb dX7_walk_19 rfl (lv_at hl 2 rfl) ?_
    refine lv_istore (lv' := [(5, .int x1), (4, .int v2485), (0, .ref h0), (1, .int x1), (2, .int x2), (3, .int x3)]) hx hb dX7_walk_20 hl (by decide) rfl (fun ls hl => ?_)
    refine lv_iconst (v := 0) hx hb dX7_walk_22 (by decide) ?_
    refine lv_istore (lv' := [(6, .int 0), (5, .int x1), (4, .int v2485), (0, .ref h0), (1, .int x1), (2, .int x2), (3, .int x3)]) hx hb dX7_walk_23 hl (by decide) rfl (fun ls hl => ?_)
    exact J_25 _ H locs ls 0 x1 v2485 rfl (lv_sub hl [0, 1, 2, 3, 4, 5, 6] rfl) (by decide) hI hS
  refine lv_iload_n hx hb dX7_walk_0 rfl (lv_at hl 2 rfl) ?_
  refine th_cSN (As := [.int x2]) (rest := []) (n := 1) (d := 0) ⟨hx, hb, hml, hown, hts⟩ (c_X11_isHour l s.heap x2) wn_535 wd_467 wd_1 wd_468 (by decide +kernel) ⟨by rw [hR]; exact Nat.le_of_ble_eq_true rfl, by rw [hR]; exact Nat.le_of_ble_eq_true rfl⟩ hN hS rfl hl.1 rfl (Nat.le_of_ble_eq_true rfl) dX7_walk_1 ⟨Nat.zero_le _, Nat.zero_le _⟩ (fun r2486 locs hp hS => ?_)
  rcases hp with ⟨rfl, hp⟩ | ⟨rfl, hp⟩
  · skip
    try simp only [rg, not_and, Int.not_le] at hp
    have hp2487 := hp
    refine lv_if_eq (tgt := 16) hx hb dX7_walk_4 (by decide) (fun c => absurd c (by decide)) (fun _ => ?_)
    refine lv_aload_n hx hb dX7_walk_7 rfl (lv_at hl 0 rfl) ?_
    obtain ⟨a2488, a2490, a2492, a2494, a2496, a2498, w2500, hO, hq2489, hq2491, hq2493, hq2495, hq2497, hq2499⟩ := op_9 hI hG0 List.not_mem_nil
    have hI := th_I.weak (a := h0) hI
    refine th_get hx hb hts inT7 hown hK hO rfl 4 (by decide) (hts _ (tb_c wd_193)) rfl rfl dX7_walk_8 ?_
    refine lv_iload_n hx hb dX7_walk_11 rfl (lv_at hl 2 rfl) ?_
    obtain ⟨_, hA2501⟩ := op_0 hI hq2497 (th_ne hG0 hq2497 (show (9 : Nat) ≠ 0 by decide))
    refine th_iald hx hb hK hA2501 0 rfl (iv_in (X := x2.toInt) rfl (by omega) (by omega)) dX7_walk_12 (fun v2502 _ => ?_)
    refine lv_goto (tgt := 17) hx hb dX7_walk_13 (by decide) ?_
    have hI := th_I.close hI hG0 hO (ok_9 hq2489 hq2491 hq2493 hq2495 hq2497 hq2499)
    exact J_17 s.heap locs ls v2502 (lv_sub hl [0, 1, 2, 3] rfl)  hI hS
  · skip
    try simp only [rg, not_and, Int.not_le] at hp
    have hp2503 := hp
    refine lv_if_eq (tgt := 16) hx hb dX7_walk_4 (by decide) (fun _ => ?_) (fun c => absurd c (by decide))
    refine lv_iconst (v := 0) hx hb dX7_walk_16 (by decide) ?_
    exact J_17 s.heap locs ls 0 (lv_sub hl [0, 1, 2, 3] rfl)  hI hS
