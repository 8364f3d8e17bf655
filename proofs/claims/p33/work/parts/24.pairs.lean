theorem wp_30 : Cond.selects RX5 yX5_gatherParts yX5_gatherParts ∈ TB := tv 30 (by decide +kernel) (by decide +kernel)
theorem wd_1024 : (Cond.methodLink RX11 (304 : Nat) yX5_countTogether) ∈ TB := tw 1024 (by decide +kernel) (by decide +kernel)
theorem wd_1025 : (Jvm.Cond.instanceMethod yX5_countTogether) ∈ TB := tw 1025 (by decide +kernel) (by decide +kernel)
theorem wd_1026 : (Cond.selects RX5 yX5_countTogether yX5_countTogether) ∈ TB := tw 1026 (by decide +kernel) (by decide +kernel)
theorem wd_1027 : (Cond.code yX5_countTogether cX5_countTogether 9 (Option.some Jvm.ClassFile.FieldType.int)) ∈ TB := tw 1027 (by decide +kernel) (by decide +kernel)
theorem wd_1028 : (Cond.methodLink RX5 (38 : Nat) yJ7_fill_d0a16) ∈ TB := tw 1028 (by decide +kernel) (by decide +kernel)
theorem wd_1029 : (Jvm.Cond.static yJ7_fill_d0a16) ∈ TB := tw 1029 (by decide +kernel) (by decide +kernel)
theorem wd_1030 : (Cond.code yJ7_fill_d0a16 cJ7_fill_d0a16 5 (Option.none : Option Jvm.ClassFile.FieldType)) ∈ TB := tw 1030 (by decide +kernel) (by decide +kernel)
theorem wd_1031 : (Cond.methodLink RX5 (44 : Nat) yX5_gatherParts) ∈ TB := tw 1031 (by decide +kernel) (by decide +kernel)
theorem wd_1033 : (Jvm.Cond.instanceMethod yX5_gatherParts) ∈ TB := tw 1033 (by decide +kernel) (by decide +kernel)
theorem wd_1034 : (Cond.code yX5_gatherParts cX5_gatherParts 3 (Option.none : Option Jvm.ClassFile.FieldType)) ∈ TB := tw 1034 (by decide +kernel) (by decide +kernel)
theorem wd_1035 : (Cond.methodLink RX5 (47 : Nat) yJ6_bitCount_0f7a4) ∈ TB := tw 1035 (by decide +kernel) (by decide +kernel)
theorem wd_1036 : (Jvm.Cond.static yJ6_bitCount_0f7a4) ∈ TB := tw 1036 (by decide +kernel) (by decide +kernel)
theorem wd_1037 : (Cond.code yJ6_bitCount_0f7a4 cJ6_bitCount_0f7a4 1 (Option.some Jvm.ClassFile.FieldType.int)) ∈ TB := tw 1037 (by decide +kernel) (by decide +kernel)
theorem wd_1038 : (Cond.constant RJ6 (265 : Nat) (1431655765 : Int32)) ∈ TB := tw 1038 (by decide +kernel) (by decide +kernel)
theorem wd_1039 : (Cond.constant RJ6 (266 : Nat) (858993459 : Int32)) ∈ TB := tw 1039 (by decide +kernel) (by decide +kernel)
theorem wd_1040 : (Cond.constant RJ6 (267 : Nat) (252645135 : Int32)) ∈ TB := tw 1040 (by decide +kernel) (by decide +kernel)
theorem wd_1041 : (Cond.constantLong RX5 (53 : Nat) (2 : Int64)) ∈ TB := tw 1041 (by decide +kernel) (by decide +kernel)
theorem wd_21 : (Cond.initialized RJ6) ∈ TB := tw 21 (by decide +kernel) (by decide +kernel)
theorem wd_279 : (Cond.fieldLink RX5 (15 : Nat) "NineRiver$Sleuth" "tally" "[J") ∈ TB := tw 279 (by decide +kernel) (by decide +kernel)
theorem dJ7_fill_d0a16_0g : (decode cJ7_fill_d0a16 0 = .ok (.iconst 0, 1)) ∧ (decode cJ7_fill_d0a16 1 = .ok (.istore_n 3, 1)) ∧ (decode cJ7_fill_d0a16 2 = .ok (.aload_n 0, 1)) ∧ (decode cJ7_fill_d0a16 3 = .ok (.arraylength, 1)) ∧ (decode cJ7_fill_d0a16 4 = .ok (.istore 4, 2)) ∧ (decode cJ7_fill_d0a16 6 = .ok (.iload_n 3, 1)) ∧ (decode cJ7_fill_d0a16 7 = .ok (.iload 4, 2)) ∧ (decode cJ7_fill_d0a16 9 = .ok (.if_icmp .ge 13, 3)) ∧ (decode cJ7_fill_d0a16 12 = .ok (.aload_n 0, 1)) ∧ (decode cJ7_fill_d0a16 13 = .ok (.iload_n 3, 1)) := by decide +kernel
theorem dJ7_fill_d0a16_0 : decode cJ7_fill_d0a16 0 = .ok (.iconst 0, 1) := dJ7_fill_d0a16_0g.1
theorem dJ7_fill_d0a16_1 : decode cJ7_fill_d0a16 1 = .ok (.istore_n 3, 1) := dJ7_fill_d0a16_0g.2.1
theorem dJ7_fill_d0a16_2 : decode cJ7_fill_d0a16 2 = .ok (.aload_n 0, 1) := dJ7_fill_d0a16_0g.2.2.1
theorem dJ7_fill_d0a16_3 : decode cJ7_fill_d0a16 3 = .ok (.arraylength, 1) := dJ7_fill_d0a16_0g.2.2.2.1
theorem dJ7_fill_d0a16_4 : decode cJ7_fill_d0a16 4 = .ok (.istore 4, 2) := dJ7_fill_d0a16_0g.2.2.2.2.1
theorem dJ7_fill_d0a16_6 : decode cJ7_fill_d0a16 6 = .ok (.iload_n 3, 1) := dJ7_fill_d0a16_0g.2.2.2.2.2.1
theorem dJ7_fill_d0a16_7 : decode cJ7_fill_d0a16 7 = .ok (.iload 4, 2) := dJ7_fill_d0a16_0g.2.2.2.2.2.2.1
theorem dJ7_fill_d0a16_9 : decode cJ7_fill_d0a16 9 = .ok (.if_icmp .ge 13, 3) := dJ7_fill_d0a16_0g.2.2.2.2.2.2.2.1
theorem dJ7_fill_d0a16_12 : decode cJ7_fill_d0a16 12 = .ok (.aload_n 0, 1) := dJ7_fill_d0a16_0g.2.2.2.2.2.2.2.2.1
theorem dJ7_fill_d0a16_13 : decode cJ7_fill_d0a16 13 = .ok (.iload_n 3, 1) := dJ7_fill_d0a16_0g.2.2.2.2.2.2.2.2.2
theorem dJ7_fill_d0a16_14g : (decode cJ7_fill_d0a16 14 = .ok (.lload_n 1, 1)) ∧ (decode cJ7_fill_d0a16 15 = .ok (.lastore, 1)) ∧ (decode cJ7_fill_d0a16 16 = .ok (.iinc 3 1, 3)) ∧ (decode cJ7_fill_d0a16 19 = .ok (.goto (-13), 3)) ∧ (decode cJ7_fill_d0a16 22 = .ok (.return_, 1)) := by decide +kernel
theorem dJ7_fill_d0a16_14 : decode cJ7_fill_d0a16 14 = .ok (.lload_n 1, 1) := dJ7_fill_d0a16_14g.1
theorem dJ7_fill_d0a16_15 : decode cJ7_fill_d0a16 15 = .ok (.lastore, 1) := dJ7_fill_d0a16_14g.2.1
theorem dJ7_fill_d0a16_16 : decode cJ7_fill_d0a16 16 = .ok (.iinc 3 1, 3) := dJ7_fill_d0a16_14g.2.2.1
theorem dJ7_fill_d0a16_19 : decode cJ7_fill_d0a16 19 = .ok (.goto (-13), 3) := dJ7_fill_d0a16_14g.2.2.2.1
theorem dJ7_fill_d0a16_22 : decode cJ7_fill_d0a16 22 = .ok (.return_, 1) := dJ7_fill_d0a16_14g.2.2.2.2
set_option maxHeartbeats 4000000 in
set_option maxRecDepth 100000 in
theorem c_J7_fill_d0a16 (l : Launch) (E : Nat → Nat) (D : va_G) (G : th_G) (h0 n : Nat) (hG0 : G h0 = some (1, n)) (hn : n < 2147483648) (x1 : Int64) : Met l yJ7_fill_d0a16 (tb (.code yJ7_fill_d0a16 cJ7_fill_d0a16 5 none)) (rm 0) (va_Pc [.ref h0, .long x1] (th_P E D G)) (QV E D G) 0 0 (th_A G) := by
  refine Met.ofW (cc := cJ7_fill_d0a16) (maxL := 5) (ret := none) (by decide) rfl ?_
  intro p e s m args below meth c s₁ B hml hv
  obtain ⟨hav, hI, hN, hK⟩ := hv
  have hx := B.exec
  have hb := B.bytes
  have hr := B.returns
  have hts := atoms_spec (ws := tb (.code yJ7_fill_d0a16 cJ7_fill_d0a16 5 none)) B.pre
  have hown : s.vm.findClass RJ7 = some m.cls := findClass_of_methodNamed B.named
  have hlocks := B.notSynchronized
  have hS : va_S (th_A G) s.heap s.heap [] := va_S.rf
  have hl := lv_entry ([.ref h0, .long x1]) (n := 5) (Nat.le_of_ble_eq_true rfl)
  rw [show entryFrame m args 5 = entryFrame m ([.ref h0, .long x1] : List Value).toArray 5 from by rw [hav], lg_entry_eq]
  generalize (lg_sl ([.ref h0, .long x1]) ++ List.replicate (5 - (lg_sl ([.ref h0, .long x1])).length) Slot.unset).toArray = ls at hl ⊢
  have hl : lv_has ls 5 [(0, .ref h0), (1, .long x1)] := hl
  generalize hR : (headSpec (tb (.code yJ7_fill_d0a16 cJ7_fill_d0a16 5 none)) (rm 0)).room = R
  have hR := hR.symm
  generalize hQ : MQ below (QV E D G) args s 0 0 (th_A G) = QF
  have hQ := hQ.symm
  have J_6 : ∀ (nn : Nat) (H : Heap) (locs : List Loc) (ls : Array Slot) (v433 : Int32) (v434 : Int32), (Int.toNat (v433.toInt - v434.toInt) = nn) → lv_has ls 5 [(4, .int v433), (3, .int v434), (0, .ref h0), (1, .long x1)] → ((0 : Int) ≤ v433.toInt) → ((0 : Int) ≤ v434.toInt) → (v433.toInt = ((n : Nat) : Int)) → th_I (okC E) D G [] H → va_S (th_A G) s.heap H locs → W p l e R s m args below meth c H locs 0 0 QF (F0 m 6 ls []) := by
    intro nn
    induction nn using Nat.strongRecOn with
    | ind nn ih_6 =>
      intro H locs ls v433 v434 hm hl k435 k436 k437 hI hS
      refine lv_iload_n hx hb dJ7_fill_d0a16_6 rfl (lv_at hl 1 rfl) ?_
      refine lv_iload hx hb dJ7_fill_d0a16_7 (lv_at hl 0 rfl) ?_
      have k438 := iv_lo v434
      have k439 := iv_hi v434
      have k440 := iv_lo v433
      have k441 := iv_hi v433
      refine lv_icmp_ge (tgt := 22) hx hb dJ7_fill_d0a16_9 (by decide) (fun c442 => ?_) (fun c442 => ?_)
      · skip
        have k443 := iv_le (X := v433.toInt) (Y := v434.toInt) rfl rfl c442
        rw [hQ]
        exact W.vret hx hb hr (fun t ht hW => ⟨⟨(), rfl, trivial, by rw [ht]; exact hI, hN.warm hW, va_K.moved hW.alike hK⟩, hS.F ht⟩) hS.2.2 dJ7_fill_d0a16_22
      · skip
        have k444 := iv_nle (X := v433.toInt) (Y := v434.toInt) rfl rfl c442
        refine lv_aload_n hx hb dJ7_fill_d0a16_12 rfl (lv_at hl 2 rfl) ?_
        refine lv_iload_n hx hb dJ7_fill_d0a16_13 rfl (lv_at hl 1 rfl) ?_
        refine lv_lload_n hx hb dJ7_fill_d0a16_14 rfl (lv_at hl 3 rfl) ?_
        obtain ⟨_, hA445⟩ := op_1 hI hG0 List.not_mem_nil
        refine th_last hx hb hK hA445 1 rfl hS ⟨_, hG0⟩ (iv_in (X := v434.toInt) rfl (by omega) (by omega)) dJ7_fill_d0a16_15 (fun H locs hA445 oq hS => ?_)
        have hI := th_I.put hI hG0 hA445 ok_1 oq
        obtain ⟨v446, e447⟩ : ∃ y : Int32, y = v434 + (1) := ⟨_, rfl⟩
        have tv446 : v446.toInt = v434.toInt + (1) := iv_add rfl (by decide) e447 (by omega) (by omega)
        refine lv_iinc (v := v446) (lv' := [(3, .int v446), (4, .int v433), (0, .ref h0), (1, .long x1)]) hx hb dJ7_fill_d0a16_16 hl (k := 1) rfl (by rw [e447]; rfl) (by decide) rfl (fun ls hl => ?_)
        refine lv_goto (tgt := 6) hx hb dJ7_fill_d0a16_19 (by decide) ?_
        exact ih_6 _ (by omega) H locs ls v433 v446 rfl (lv_sub hl [1, 0, 2, 3] rfl) (by omega) (by omega) (by omega) hI hS
  refine lv_iconst (v := 0) hx hb dJ7_fill_d0a16_0 (by decide) ?_
  refine lv_istore_n (lv' := [(3, .int 0), (0, .ref h0), (1, .long x1)]) hx hb dJ7_fill_d0a16_1 rfl hl (by decide) rfl (fun ls hl => ?_)
  refine lv_aload_n hx hb dJ7_fill_d0a16_2 rfl (lv_at hl 1 rfl) ?_
  obtain ⟨_, hA448⟩ := op_1 hI hG0 List.not_mem_nil
  refine va_alen hx hb hK (th_one hA448) 0 1 rfl (v := nI (n)) rfl rfl dJ7_fill_d0a16_3 ?_
  refine lv_topi (fun v449 e450 => ?_)
  have tv449 : v449.toInt = ((n : Nat) : Int) := by rw [e450]; exact nI_toInt (by omega)
  refine lv_istore (lv' := [(4, .int v449), (3, .int 0), (0, .ref h0), (1, .long x1)]) hx hb dJ7_fill_d0a16_4 hl (by decide) rfl (fun ls hl => ?_)
  have zl : (0 : Int32).toInt = 0 := by decide
  exact J_6 _ s.heap [] ls v449 0 rfl (lv_sub hl [0, 1, 2, 3] rfl) (by omega) (by decide) (by omega) hI hS
theorem dJ6_bitCount_0f7a4_0g : (decode cJ6_bitCount_0f7a4 0 = .ok (.iload_n 0, 1)) ∧ (decode cJ6_bitCount_0f7a4 1 = .ok (.iload_n 0, 1)) ∧ (decode cJ6_bitCount_0f7a4 2 = .ok (.iconst 1, 1)) ∧ (decode cJ6_bitCount_0f7a4 3 = .ok (.iushr, 1)) ∧ (decode cJ6_bitCount_0f7a4 4 = .ok (.ldc_w 265, 3)) ∧ (decode cJ6_bitCount_0f7a4 7 = .ok (.iand, 1)) ∧ (decode cJ6_bitCount_0f7a4 8 = .ok (.isub, 1)) ∧ (decode cJ6_bitCount_0f7a4 9 = .ok (.istore_n 0, 1)) ∧ (decode cJ6_bitCount_0f7a4 10 = .ok (.iload_n 0, 1)) ∧ (decode cJ6_bitCount_0f7a4 11 = .ok (.ldc_w 266, 3)) := by decide +kernel
theorem dJ6_bitCount_0f7a4_0 : decode cJ6_bitCount_0f7a4 0 = .ok (.iload_n 0, 1) := dJ6_bitCount_0f7a4_0g.1
theorem dJ6_bitCount_0f7a4_1 : decode cJ6_bitCount_0f7a4 1 = .ok (.iload_n 0, 1) := dJ6_bitCount_0f7a4_0g.2.1
theorem dJ6_bitCount_0f7a4_2 : decode cJ6_bitCount_0f7a4 2 = .ok (.iconst 1, 1) := dJ6_bitCount_0f7a4_0g.2.2.1
theorem dJ6_bitCount_0f7a4_3 : decode cJ6_bitCount_0f7a4 3 = .ok (.iushr, 1) := dJ6_bitCount_0f7a4_0g.2.2.2.1
theorem dJ6_bitCount_0f7a4_4 : decode cJ6_bitCount_0f7a4 4 = .ok (.ldc_w 265, 3) := dJ6_bitCount_0f7a4_0g.2.2.2.2.1
theorem dJ6_bitCount_0f7a4_7 : decode cJ6_bitCount_0f7a4 7 = .ok (.iand, 1) := dJ6_bitCount_0f7a4_0g.2.2.2.2.2.1
theorem dJ6_bitCount_0f7a4_8 : decode cJ6_bitCount_0f7a4 8 = .ok (.isub, 1) := dJ6_bitCount_0f7a4_0g.2.2.2.2.2.2.1
theorem dJ6_bitCount_0f7a4_9 : decode cJ6_bitCount_0f7a4 9 = .ok (.istore_n 0, 1) := dJ6_bitCount_0f7a4_0g.2.2.2.2.2.2.2.1
theorem dJ6_bitCount_0f7a4_10 : decode cJ6_bitCount_0f7a4 10 = .ok (.iload_n 0, 1) := dJ6_bitCount_0f7a4_0g.2.2.2.2.2.2.2.2.1
theorem dJ6_bitCount_0f7a4_11 : decode cJ6_bitCount_0f7a4 11 = .ok (.ldc_w 266, 3) := dJ6_bitCount_0f7a4_0g.2.2.2.2.2.2.2.2.2
theorem dJ6_bitCount_0f7a4_14g : (decode cJ6_bitCount_0f7a4 14 = .ok (.iand, 1)) ∧ (decode cJ6_bitCount_0f7a4 15 = .ok (.iload_n 0, 1)) ∧ (decode cJ6_bitCount_0f7a4 16 = .ok (.iconst 2, 1)) ∧ (decode cJ6_bitCount_0f7a4 17 = .ok (.iushr, 1)) ∧ (decode cJ6_bitCount_0f7a4 18 = .ok (.ldc_w 266, 3)) ∧ (decode cJ6_bitCount_0f7a4 21 = .ok (.iand, 1)) ∧ (decode cJ6_bitCount_0f7a4 22 = .ok (.iadd, 1)) ∧ (decode cJ6_bitCount_0f7a4 23 = .ok (.istore_n 0, 1)) ∧ (decode cJ6_bitCount_0f7a4 24 = .ok (.iload_n 0, 1)) ∧ (decode cJ6_bitCount_0f7a4 25 = .ok (.iload_n 0, 1)) := by decide +kernel
theorem dJ6_bitCount_0f7a4_14 : decode cJ6_bitCount_0f7a4 14 = .ok (.iand, 1) := dJ6_bitCount_0f7a4_14g.1
theorem dJ6_bitCount_0f7a4_15 : decode cJ6_bitCount_0f7a4 15 = .ok (.iload_n 0, 1) := dJ6_bitCount_0f7a4_14g.2.1
theorem dJ6_bitCount_0f7a4_16 : decode cJ6_bitCount_0f7a4 16 = .ok (.iconst 2, 1) := dJ6_bitCount_0f7a4_14g.2.2.1
theorem dJ6_bitCount_0f7a4_17 : decode cJ6_bitCount_0f7a4 17 = .ok (.iushr, 1) := dJ6_bitCount_0f7a4_14g.2.2.2.1
theorem dJ6_bitCount_0f7a4_18 : decode cJ6_bitCount_0f7a4 18 = .ok (.ldc_w 266, 3) := dJ6_bitCount_0f7a4_14g.2.2.2.2.1
theorem dJ6_bitCount_0f7a4_21 : decode cJ6_bitCount_0f7a4 21 = .ok (.iand, 1) := dJ6_bitCount_0f7a4_14g.2.2.2.2.2.1
theorem dJ6_bitCount_0f7a4_22 : decode cJ6_bitCount_0f7a4 22 = .ok (.iadd, 1) := dJ6_bitCount_0f7a4_14g.2.2.2.2.2.2.1
theorem dJ6_bitCount_0f7a4_23 : decode cJ6_bitCount_0f7a4 23 = .ok (.istore_n 0, 1) := dJ6_bitCount_0f7a4_14g.2.2.2.2.2.2.2.1
theorem dJ6_bitCount_0f7a4_24 : decode cJ6_bitCount_0f7a4 24 = .ok (.iload_n 0, 1) := dJ6_bitCount_0f7a4_14g.2.2.2.2.2.2.2.2.1
theorem dJ6_bitCount_0f7a4_25 : decode cJ6_bitCount_0f7a4 25 = .ok (.iload_n 0, 1) := dJ6_bitCount_0f7a4_14g.2.2.2.2.2.2.2.2.2
theorem dJ6_bitCount_0f7a4_26g : (decode cJ6_bitCount_0f7a4 26 = .ok (.iconst 4, 1)) ∧ (decode cJ6_bitCount_0f7a4 27 = .ok (.iushr, 1)) ∧ (decode cJ6_bitCount_0f7a4 28 = .ok (.iadd, 1)) ∧ (decode cJ6_bitCount_0f7a4 29 = .ok (.ldc_w 267, 3)) ∧ (decode cJ6_bitCount_0f7a4 32 = .ok (.iand, 1)) ∧ (decode cJ6_bitCount_0f7a4 33 = .ok (.istore_n 0, 1)) ∧ (decode cJ6_bitCount_0f7a4 34 = .ok (.iload_n 0, 1)) ∧ (decode cJ6_bitCount_0f7a4 35 = .ok (.iload_n 0, 1)) ∧ (decode cJ6_bitCount_0f7a4 36 = .ok (.bipush 8, 2)) ∧ (decode cJ6_bitCount_0f7a4 38 = .ok (.iushr, 1)) := by decide +kernel
theorem dJ6_bitCount_0f7a4_26 : decode cJ6_bitCount_0f7a4 26 = .ok (.iconst 4, 1) := dJ6_bitCount_0f7a4_26g.1
theorem dJ6_bitCount_0f7a4_27 : decode cJ6_bitCount_0f7a4 27 = .ok (.iushr, 1) := dJ6_bitCount_0f7a4_26g.2.1
theorem dJ6_bitCount_0f7a4_28 : decode cJ6_bitCount_0f7a4 28 = .ok (.iadd, 1) := dJ6_bitCount_0f7a4_26g.2.2.1
theorem dJ6_bitCount_0f7a4_29 : decode cJ6_bitCount_0f7a4 29 = .ok (.ldc_w 267, 3) := dJ6_bitCount_0f7a4_26g.2.2.2.1
theorem dJ6_bitCount_0f7a4_32 : decode cJ6_bitCount_0f7a4 32 = .ok (.iand, 1) := dJ6_bitCount_0f7a4_26g.2.2.2.2.1
theorem dJ6_bitCount_0f7a4_33 : decode cJ6_bitCount_0f7a4 33 = .ok (.istore_n 0, 1) := dJ6_bitCount_0f7a4_26g.2.2.2.2.2.1
theorem dJ6_bitCount_0f7a4_34 : decode cJ6_bitCount_0f7a4 34 = .ok (.iload_n 0, 1) := dJ6_bitCount_0f7a4_26g.2.2.2.2.2.2.1
theorem dJ6_bitCount_0f7a4_35 : decode cJ6_bitCount_0f7a4 35 = .ok (.iload_n 0, 1) := dJ6_bitCount_0f7a4_26g.2.2.2.2.2.2.2.1
theorem dJ6_bitCount_0f7a4_36 : decode cJ6_bitCount_0f7a4 36 = .ok (.bipush 8, 2) := dJ6_bitCount_0f7a4_26g.2.2.2.2.2.2.2.2.1
theorem dJ6_bitCount_0f7a4_38 : decode cJ6_bitCount_0f7a4 38 = .ok (.iushr, 1) := dJ6_bitCount_0f7a4_26g.2.2.2.2.2.2.2.2.2
theorem dJ6_bitCount_0f7a4_39g : (decode cJ6_bitCount_0f7a4 39 = .ok (.iadd, 1)) ∧ (decode cJ6_bitCount_0f7a4 40 = .ok (.istore_n 0, 1)) ∧ (decode cJ6_bitCount_0f7a4 41 = .ok (.iload_n 0, 1)) ∧ (decode cJ6_bitCount_0f7a4 42 = .ok (.iload_n 0, 1)) ∧ (decode cJ6_bitCount_0f7a4 43 = .ok (.bipush 16, 2)) ∧ (decode cJ6_bitCount_0f7a4 45 = .ok (.iushr, 1)) ∧ (decode cJ6_bitCount_0f7a4 46 = .ok (.iadd, 1)) ∧ (decode cJ6_bitCount_0f7a4 47 = .ok (.istore_n 0, 1)) ∧ (decode cJ6_bitCount_0f7a4 48 = .ok (.iload_n 0, 1)) ∧ (decode cJ6_bitCount_0f7a4 49 = .ok (.bipush 63, 2)) := by decide +kernel
theorem dJ6_bitCount_0f7a4_39 : decode cJ6_bitCount_0f7a4 39 = .ok (.iadd, 1) := dJ6_bitCount_0f7a4_39g.1
theorem dJ6_bitCount_0f7a4_40 : decode cJ6_bitCount_0f7a4 40 = .ok (.istore_n 0, 1) := dJ6_bitCount_0f7a4_39g.2.1
theorem dJ6_bitCount_0f7a4_41 : decode cJ6_bitCount_0f7a4 41 = .ok (.iload_n 0, 1) := dJ6_bitCount_0f7a4_39g.2.2.1
theorem dJ6_bitCount_0f7a4_42 : decode cJ6_bitCount_0f7a4 42 = .ok (.iload_n 0, 1) := dJ6_bitCount_0f7a4_39g.2.2.2.1
theorem dJ6_bitCount_0f7a4_43 : decode cJ6_bitCount_0f7a4 43 = .ok (.bipush 16, 2) := dJ6_bitCount_0f7a4_39g.2.2.2.2.1
theorem dJ6_bitCount_0f7a4_45 : decode cJ6_bitCount_0f7a4 45 = .ok (.iushr, 1) := dJ6_bitCount_0f7a4_39g.2.2.2.2.2.1
theorem dJ6_bitCount_0f7a4_46 : decode cJ6_bitCount_0f7a4 46 = .ok (.iadd, 1) := dJ6_bitCount_0f7a4_39g.2.2.2.2.2.2.1
theorem dJ6_bitCount_0f7a4_47 : decode cJ6_bitCount_0f7a4 47 = .ok (.istore_n 0, 1) := dJ6_bitCount_0f7a4_39g.2.2.2.2.2.2.2.1
theorem dJ6_bitCount_0f7a4_48 : decode cJ6_bitCount_0f7a4 48 = .ok (.iload_n 0, 1) := dJ6_bitCount_0f7a4_39g.2.2.2.2.2.2.2.2.1
theorem dJ6_bitCount_0f7a4_49 : decode cJ6_bitCount_0f7a4 49 = .ok (.bipush 63, 2) := dJ6_bitCount_0f7a4_39g.2.2.2.2.2.2.2.2.2
theorem dJ6_bitCount_0f7a4_51g : (decode cJ6_bitCount_0f7a4 51 = .ok (.iand, 1)) ∧ (decode cJ6_bitCount_0f7a4 52 = .ok (.ireturn, 1)) := by decide +kernel
theorem dJ6_bitCount_0f7a4_51 : decode cJ6_bitCount_0f7a4 51 = .ok (.iand, 1) := dJ6_bitCount_0f7a4_51g.1
theorem dJ6_bitCount_0f7a4_52 : decode cJ6_bitCount_0f7a4 52 = .ok (.ireturn, 1) := dJ6_bitCount_0f7a4_51g.2
set_option maxHeartbeats 4000000 in
set_option maxRecDepth 100000 in
theorem c_J6_bitCount_0f7a4 (l : Launch) (H0 : Heap) (x0 : Int32) : Met l yJ6_bitCount_0f7a4 (tb (.code yJ6_bitCount_0f7a4 cJ6_bitCount_0f7a4 1 (some .int))) (rm 0) (va_Pc [.int x0] (PS H0)) (QS H0 (fun r => True)) 0 0 (fun _ => False) := by
  refine Met.ofW (cc := cJ6_bitCount_0f7a4) (maxL := 1) (ret := (some .int)) (by decide) rfl ?_
  intro p e s m args below meth c s₁ B hml hv
  obtain ⟨hav, rfl, hN⟩ := hv
  have hx := B.exec
  have hb := B.bytes
  have hr := B.returns
  have hts := atoms_spec (ws := tb (.code yJ6_bitCount_0f7a4 cJ6_bitCount_0f7a4 1 (some .int))) B.pre
  have hown : s.vm.findClass RJ6 = some m.cls := findClass_of_methodNamed B.named
  have hlocks := B.notSynchronized
  have hS : va_S (fun _ => False) s.heap s.heap [] := va_S.rf
  have hl := lv_entry ([.int x0]) (n := 1) (Nat.le_of_ble_eq_true rfl)
  rw [show entryFrame m args 1 = entryFrame m ([.int x0] : List Value).toArray 1 from by rw [hav], lg_entry_eq]
  generalize (lg_sl ([.int x0]) ++ List.replicate (1 - (lg_sl ([.int x0])).length) Slot.unset).toArray = ls at hl ⊢
  have hl : lv_has ls 1 [(0, .int x0)] := hl
  generalize hR : (headSpec (tb (.code yJ6_bitCount_0f7a4 cJ6_bitCount_0f7a4 1 (some .int))) (rm 0)).room = R
  have hR := hR.symm
  generalize hQ : MQ below (QS s.heap (fun r => True)) args s 0 0 (fun _ => False) = QF
  have hQ := hQ.symm
  refine lv_iload_n hx hb dJ6_bitCount_0f7a4_0 rfl (lv_at hl 0 rfl) ?_
  refine lv_iload_n hx hb dJ6_bitCount_0f7a4_1 rfl (lv_at hl 0 rfl) ?_
  refine lv_iconst (v := 1) hx hb dJ6_bitCount_0f7a4_2 (by decide) ?_
  refine lv_iushr hx hb dJ6_bitCount_0f7a4_3 rfl ?_
  refine lv_topi (fun v1 e2 => ?_)
  refine lv_ldcw hx hb hown (hts _ (tb_c wd_1038)) dJ6_bitCount_0f7a4_4 ?_
  refine lv_iand hx hb dJ6_bitCount_0f7a4_7 ?_
  refine lv_topi (fun v3 e4 => ?_)
  have tv3 := iv_andr (m := 1431655765) (M := 1431655765) e4 (by decide) (by decide)
  refine lv_isub hx hb dJ6_bitCount_0f7a4_8 ?_
  refine lv_topi (fun v5 e6 => ?_)
  try have tv5 : v5.toInt = x0.toInt - v3.toInt := iv_sub rfl rfl e6 (by omega) (by omega)
  refine lv_istore_n (lv' := [(0, .int v5)]) hx hb dJ6_bitCount_0f7a4_9 rfl hl (by decide) rfl (fun ls hl => ?_)
  refine lv_iload_n hx hb dJ6_bitCount_0f7a4_10 rfl (lv_at hl 0 rfl) ?_
  refine lv_ldcw hx hb hown (hts _ (tb_c wd_1039)) dJ6_bitCount_0f7a4_11 ?_
  refine lv_iand hx hb dJ6_bitCount_0f7a4_14 ?_
  refine lv_topi (fun v7 e8 => ?_)
  have tv7 := iv_andr (m := 858993459) (M := 858993459) e8 (by decide) (by decide)
  refine lv_iload_n hx hb dJ6_bitCount_0f7a4_15 rfl (lv_at hl 0 rfl) ?_
  refine lv_iconst (v := 2) hx hb dJ6_bitCount_0f7a4_16 (by decide) ?_
  refine lv_iushr hx hb dJ6_bitCount_0f7a4_17 rfl ?_
  refine lv_topi (fun v9 e10 => ?_)
  refine lv_ldcw hx hb hown (hts _ (tb_c wd_1039)) dJ6_bitCount_0f7a4_18 ?_
  refine lv_iand hx hb dJ6_bitCount_0f7a4_21 ?_
  refine lv_topi (fun v11 e12 => ?_)
  have tv11 := iv_andr (m := 858993459) (M := 858993459) e12 (by decide) (by decide)
  refine lv_iadd hx hb dJ6_bitCount_0f7a4_22 ?_
  refine lv_topi (fun v13 e14 => ?_)
  have tv13 : v13.toInt = v7.toInt + v11.toInt := iv_add rfl rfl e14 (by omega) (by omega)
  refine lv_istore_n (lv' := [(0, .int v13)]) hx hb dJ6_bitCount_0f7a4_23 rfl hl (by decide) rfl (fun ls hl => ?_)
  refine lv_iload_n hx hb dJ6_bitCount_0f7a4_24 rfl (lv_at hl 0 rfl) ?_
  refine lv_iload_n hx hb dJ6_bitCount_0f7a4_25 rfl (lv_at hl 0 rfl) ?_
  refine lv_iconst (v := 4) hx hb dJ6_bitCount_0f7a4_26 (by decide) ?_
  refine lv_iushr hx hb dJ6_bitCount_0f7a4_27 rfl ?_
  refine lv_topi (fun v15 e16 => ?_)
  refine lv_iadd hx hb dJ6_bitCount_0f7a4_28 ?_
  refine lv_topi (fun v17 e18 => ?_)
  try have tv17 : v17.toInt = v13.toInt + v15.toInt := iv_add rfl rfl e18 (by omega) (by omega)
  refine lv_ldcw hx hb hown (hts _ (tb_c wd_1040)) dJ6_bitCount_0f7a4_29 ?_
  refine lv_iand hx hb dJ6_bitCount_0f7a4_32 ?_
  refine lv_topi (fun v19 e20 => ?_)
  have tv19 := iv_andr (m := 252645135) (M := 252645135) e20 (by decide) (by decide)
  refine lv_istore_n (lv' := [(0, .int v19)]) hx hb dJ6_bitCount_0f7a4_33 rfl hl (by decide) rfl (fun ls hl => ?_)
  refine lv_iload_n hx hb dJ6_bitCount_0f7a4_34 rfl (lv_at hl 0 rfl) ?_
  refine lv_iload_n hx hb dJ6_bitCount_0f7a4_35 rfl (lv_at hl 0 rfl) ?_
  refine lv_bipush (v := 8) hx hb dJ6_bitCount_0f7a4_36 (by decide) ?_
  refine lv_iushr hx hb dJ6_bitCount_0f7a4_38 rfl ?_
  refine lv_topi (fun v21 e22 => ?_)
  refine lv_iadd hx hb dJ6_bitCount_0f7a4_39 ?_
  refine lv_topi (fun v23 e24 => ?_)
  try have tv23 : v23.toInt = v19.toInt + v21.toInt := iv_add rfl rfl e24 (by omega) (by omega)
  refine lv_istore_n (lv' := [(0, .int v23)]) hx hb dJ6_bitCount_0f7a4_40 rfl hl (by decide) rfl (fun ls hl => ?_)
  refine lv_iload_n hx hb dJ6_bitCount_0f7a4_41 rfl (lv_at hl 0 rfl) ?_
  refine lv_iload_n hx hb dJ6_bitCount_0f7a4_42 rfl (lv_at hl 0 rfl) ?_
  refine lv_bipush (v := 16) hx hb dJ6_bitCount_0f7a4_43 (by decide) ?_
  refine lv_iushr hx hb dJ6_bitCount_0f7a4_45 rfl ?_
  refine lv_topi (fun v25 e26 => ?_)
  refine lv_iadd hx hb dJ6_bitCount_0f7a4_46 ?_
  refine lv_topi (fun v27 e28 => ?_)
  try have tv27 : v27.toInt = v23.toInt + v25.toInt := iv_add rfl rfl e28 (by omega) (by omega)
  refine lv_istore_n (lv' := [(0, .int v27)]) hx hb dJ6_bitCount_0f7a4_47 rfl hl (by decide) rfl (fun ls hl => ?_)
  refine lv_iload_n hx hb dJ6_bitCount_0f7a4_48 rfl (lv_at hl 0 rfl) ?_
  refine lv_bipush (v := 63) hx hb dJ6_bitCount_0f7a4_49 (by decide) ?_
  refine lv_iand hx hb dJ6_bitCount_0f7a4_51 ?_
  refine lv_topi (fun v29 e30 => ?_)
  have tv29 := iv_andr (m := 63) (M := 63) e30 (by decide) (by decide)
  have hpost : True := trivial
  rw [hQ]
  exact W.iret (v := v29) hx hb hr (fun t ht hW => ⟨⟨v29, (), rfl, hpost, ht⟩, hS.F ht⟩) hS.2.2 dJ6_bitCount_0f7a4_52
theorem dX5_gatherParts_0g : (decode cX5_gatherParts 0 = .ok (.iconst 1, 1)) ∧ (decode cX5_gatherParts 1 = .ok (.istore_n 1, 1)) ∧ (decode cX5_gatherParts 2 = .ok (.iload_n 1, 1)) ∧ (decode cX5_gatherParts 3 = .ok (.aload_n 0, 1)) ∧ (decode cX5_gatherParts 4 = .ok (.getfield 23, 3)) ∧ (decode cX5_gatherParts 7 = .ok (.if_icmp .gt 63, 3)) ∧ (decode cX5_gatherParts 10 = .ok (.iload_n 1, 1)) ∧ (decode cX5_gatherParts 11 = .ok (.sipush 1024, 3)) ∧ (decode cX5_gatherParts 14 = .ok (.if_icmp .ge 56, 3)) ∧ (decode cX5_gatherParts 17 = .ok (.iconst 0, 1)) := by decide +kernel
theorem dX5_gatherParts_0 : decode cX5_gatherParts 0 = .ok (.iconst 1, 1) := dX5_gatherParts_0g.1
theorem dX5_gatherParts_1 : decode cX5_gatherParts 1 = .ok (.istore_n 1, 1) := dX5_gatherParts_0g.2.1
theorem dX5_gatherParts_2 : decode cX5_gatherParts 2 = .ok (.iload_n 1, 1) := dX5_gatherParts_0g.2.2.1
theorem dX5_gatherParts_3 : decode cX5_gatherParts 3 = .ok (.aload_n 0, 1) := dX5_gatherParts_0g.2.2.2.1
theorem dX5_gatherParts_4 : decode cX5_gatherParts 4 = .ok (.getfield 23, 3) := dX5_gatherParts_0g.2.2.2.2.1
theorem dX5_gatherParts_7 : decode cX5_gatherParts 7 = .ok (.if_icmp .gt 63, 3) := dX5_gatherParts_0g.2.2.2.2.2.1
theorem dX5_gatherParts_10 : decode cX5_gatherParts 10 = .ok (.iload_n 1, 1) := dX5_gatherParts_0g.2.2.2.2.2.2.1
theorem dX5_gatherParts_11 : decode cX5_gatherParts 11 = .ok (.sipush 1024, 3) := dX5_gatherParts_0g.2.2.2.2.2.2.2.1
theorem dX5_gatherParts_14 : decode cX5_gatherParts 14 = .ok (.if_icmp .ge 56, 3) := dX5_gatherParts_0g.2.2.2.2.2.2.2.2.1
theorem dX5_gatherParts_17 : decode cX5_gatherParts 17 = .ok (.iconst 0, 1) := dX5_gatherParts_0g.2.2.2.2.2.2.2.2.2
theorem dX5_gatherParts_18g : (decode cX5_gatherParts 18 = .ok (.istore_n 2, 1)) ∧ (decode cX5_gatherParts 19 = .ok (.iload_n 2, 1)) ∧ (decode cX5_gatherParts 20 = .ok (.aload_n 0, 1)) ∧ (decode cX5_gatherParts 21 = .ok (.getfield 23, 3)) ∧ (decode cX5_gatherParts 24 = .ok (.if_icmp .gt 39, 3)) ∧ (decode cX5_gatherParts 27 = .ok (.iload_n 2, 1)) ∧ (decode cX5_gatherParts 28 = .ok (.sipush 1024, 3)) ∧ (decode cX5_gatherParts 31 = .ok (.if_icmp .ge 32, 3)) ∧ (decode cX5_gatherParts 34 = .ok (.iload_n 2, 1)) ∧ (decode cX5_gatherParts 35 = .ok (.iload_n 1, 1)) := by decide +kernel
theorem dX5_gatherParts_18 : decode cX5_gatherParts 18 = .ok (.istore_n 2, 1) := dX5_gatherParts_18g.1
theorem dX5_gatherParts_19 : decode cX5_gatherParts 19 = .ok (.iload_n 2, 1) := dX5_gatherParts_18g.2.1
theorem dX5_gatherParts_20 : decode cX5_gatherParts 20 = .ok (.aload_n 0, 1) := dX5_gatherParts_18g.2.2.1
theorem dX5_gatherParts_21 : decode cX5_gatherParts 21 = .ok (.getfield 23, 3) := dX5_gatherParts_18g.2.2.2.1
theorem dX5_gatherParts_24 : decode cX5_gatherParts 24 = .ok (.if_icmp .gt 39, 3) := dX5_gatherParts_18g.2.2.2.2.1
theorem dX5_gatherParts_27 : decode cX5_gatherParts 27 = .ok (.iload_n 2, 1) := dX5_gatherParts_18g.2.2.2.2.2.1
theorem dX5_gatherParts_28 : decode cX5_gatherParts 28 = .ok (.sipush 1024, 3) := dX5_gatherParts_18g.2.2.2.2.2.2.1
theorem dX5_gatherParts_31 : decode cX5_gatherParts 31 = .ok (.if_icmp .ge 32, 3) := dX5_gatherParts_18g.2.2.2.2.2.2.2.1
theorem dX5_gatherParts_34 : decode cX5_gatherParts 34 = .ok (.iload_n 2, 1) := dX5_gatherParts_18g.2.2.2.2.2.2.2.2.1
theorem dX5_gatherParts_35 : decode cX5_gatherParts 35 = .ok (.iload_n 1, 1) := dX5_gatherParts_18g.2.2.2.2.2.2.2.2.2
theorem dX5_gatherParts_36g : (decode cX5_gatherParts 36 = .ok (.iand, 1)) ∧ (decode cX5_gatherParts 37 = .ok (.ifCond .eq 20, 3)) ∧ (decode cX5_gatherParts 40 = .ok (.aload_n 0, 1)) ∧ (decode cX5_gatherParts 41 = .ok (.getfield 15, 3)) ∧ (decode cX5_gatherParts 44 = .ok (.iload_n 2, 1)) ∧ (decode cX5_gatherParts 45 = .ok (.dup2, 1)) ∧ (decode cX5_gatherParts 46 = .ok (.laload, 1)) ∧ (decode cX5_gatherParts 47 = .ok (.aload_n 0, 1)) ∧ (decode cX5_gatherParts 48 = .ok (.getfield 15, 3)) ∧ (decode cX5_gatherParts 51 = .ok (.iload_n 2, 1)) := by decide +kernel
theorem dX5_gatherParts_36 : decode cX5_gatherParts 36 = .ok (.iand, 1) := dX5_gatherParts_36g.1
theorem dX5_gatherParts_37 : decode cX5_gatherParts 37 = .ok (.ifCond .eq 20, 3) := dX5_gatherParts_36g.2.1
theorem dX5_gatherParts_40 : decode cX5_gatherParts 40 = .ok (.aload_n 0, 1) := dX5_gatherParts_36g.2.2.1
theorem dX5_gatherParts_41 : decode cX5_gatherParts 41 = .ok (.getfield 15, 3) := dX5_gatherParts_36g.2.2.2.1
theorem dX5_gatherParts_44 : decode cX5_gatherParts 44 = .ok (.iload_n 2, 1) := dX5_gatherParts_36g.2.2.2.2.1
theorem dX5_gatherParts_45 : decode cX5_gatherParts 45 = .ok (.dup2, 1) := dX5_gatherParts_36g.2.2.2.2.2.1
theorem dX5_gatherParts_46 : decode cX5_gatherParts 46 = .ok (.laload, 1) := dX5_gatherParts_36g.2.2.2.2.2.2.1
theorem dX5_gatherParts_47 : decode cX5_gatherParts 47 = .ok (.aload_n 0, 1) := dX5_gatherParts_36g.2.2.2.2.2.2.2.1
theorem dX5_gatherParts_48 : decode cX5_gatherParts 48 = .ok (.getfield 15, 3) := dX5_gatherParts_36g.2.2.2.2.2.2.2.2.1
theorem dX5_gatherParts_51 : decode cX5_gatherParts 51 = .ok (.iload_n 2, 1) := dX5_gatherParts_36g.2.2.2.2.2.2.2.2.2
theorem dX5_gatherParts_52g : (decode cX5_gatherParts 52 = .ok (.iload_n 1, 1)) ∧ (decode cX5_gatherParts 53 = .ok (.ixor, 1)) ∧ (decode cX5_gatherParts 54 = .ok (.laload, 1)) ∧ (decode cX5_gatherParts 55 = .ok (.ladd, 1)) ∧ (decode cX5_gatherParts 56 = .ok (.lastore, 1)) ∧ (decode cX5_gatherParts 57 = .ok (.iinc 2 1, 3)) ∧ (decode cX5_gatherParts 60 = .ok (.goto (-41), 3)) ∧ (decode cX5_gatherParts 63 = .ok (.iload_n 1, 1)) ∧ (decode cX5_gatherParts 64 = .ok (.iconst 1, 1)) ∧ (decode cX5_gatherParts 65 = .ok (.ishl, 1)) := by decide +kernel
theorem dX5_gatherParts_52 : decode cX5_gatherParts 52 = .ok (.iload_n 1, 1) := dX5_gatherParts_52g.1
theorem dX5_gatherParts_53 : decode cX5_gatherParts 53 = .ok (.ixor, 1) := dX5_gatherParts_52g.2.1
theorem dX5_gatherParts_54 : decode cX5_gatherParts 54 = .ok (.laload, 1) := dX5_gatherParts_52g.2.2.1
theorem dX5_gatherParts_55 : decode cX5_gatherParts 55 = .ok (.ladd, 1) := dX5_gatherParts_52g.2.2.2.1
theorem dX5_gatherParts_56 : decode cX5_gatherParts 56 = .ok (.lastore, 1) := dX5_gatherParts_52g.2.2.2.2.1
theorem dX5_gatherParts_57 : decode cX5_gatherParts 57 = .ok (.iinc 2 1, 3) := dX5_gatherParts_52g.2.2.2.2.2.1
theorem dX5_gatherParts_60 : decode cX5_gatherParts 60 = .ok (.goto (-41), 3) := dX5_gatherParts_52g.2.2.2.2.2.2.1
theorem dX5_gatherParts_63 : decode cX5_gatherParts 63 = .ok (.iload_n 1, 1) := dX5_gatherParts_52g.2.2.2.2.2.2.2.1
theorem dX5_gatherParts_64 : decode cX5_gatherParts 64 = .ok (.iconst 1, 1) := dX5_gatherParts_52g.2.2.2.2.2.2.2.2.1
theorem dX5_gatherParts_65 : decode cX5_gatherParts 65 = .ok (.ishl, 1) := dX5_gatherParts_52g.2.2.2.2.2.2.2.2.2
theorem dX5_gatherParts_66g : (decode cX5_gatherParts 66 = .ok (.istore_n 1, 1)) ∧ (decode cX5_gatherParts 67 = .ok (.goto (-65), 3)) ∧ (decode cX5_gatherParts 70 = .ok (.return_, 1)) := by decide +kernel
theorem dX5_gatherParts_66 : decode cX5_gatherParts 66 = .ok (.istore_n 1, 1) := dX5_gatherParts_66g.1
theorem dX5_gatherParts_67 : decode cX5_gatherParts 67 = .ok (.goto (-65), 3) := dX5_gatherParts_66g.2.1
theorem dX5_gatherParts_70 : decode cX5_gatherParts 70 = .ok (.return_, 1) := dX5_gatherParts_66g.2.2
set_option maxHeartbeats 4000000 in
set_option maxRecDepth 100000 in
theorem c_X5_gatherParts (l : Launch) (E : Nat → Nat) (D : va_G) (G : th_G) (h0 : Nat) (hG0 : G h0 = some (12, 0)) : Met l yX5_gatherParts (tb (.code yX5_gatherParts cX5_gatherParts 3 none)) (rm 0) (va_Pc [.ref h0] (th_P E D G)) (QV E D G) 0 0 (th_A G) := by
  refine Met.ofW (cc := cX5_gatherParts) (maxL := 3) (ret := none) (by decide) rfl ?_
  intro p e s m args below meth c s₁ B hml hv
  obtain ⟨hav, hI, hN, hK⟩ := hv
  have hx := B.exec
  have hb := B.bytes
  have hr := B.returns
  have hts := atoms_spec (ws := tb (.code yX5_gatherParts cX5_gatherParts 3 none)) B.pre
  have hown : s.vm.findClass RX5 = some m.cls := findClass_of_methodNamed B.named
  have hlocks := B.notSynchronized
  have hS : va_S (th_A G) s.heap s.heap [] := va_S.rf
  have hl := lv_entry ([.ref h0]) (n := 3) (Nat.le_of_ble_eq_true rfl)
  rw [show entryFrame m args 3 = entryFrame m ([.ref h0] : List Value).toArray 3 from by rw [hav], lg_entry_eq]
  generalize (lg_sl ([.ref h0]) ++ List.replicate (3 - (lg_sl ([.ref h0])).length) Slot.unset).toArray = ls at hl ⊢
  have hl : lv_has ls 3 [(0, .ref h0)] := hl
  generalize hR : (headSpec (tb (.code yX5_gatherParts cX5_gatherParts 3 none)) (rm 0)).room = R
  have hR := hR.symm
  generalize hQ : MQ below (QV E D G) args s 0 0 (th_A G) = QF
  have hQ := hQ.symm
  have J_2 : ∀ (nn : Nat) (H : Heap) (locs : List Loc) (ls : Array Slot) (v1908 : Int32), (Int.toNat (2048 - v1908.toInt) = nn) → lv_has ls 3 [(1, .int v1908), (0, .ref h0)] → ((1 : Int) ≤ v1908.toInt ∧ v1908.toInt ≤ 2046) → th_I (okC E) D G [] H → va_S (th_A G) s.heap H locs → W p l e R s m args below meth c H locs 0 0 QF (F0 m 2 ls []) := by
    intro nn
    induction nn using Nat.strongRecOn with
    | ind nn ih_2 =>
      intro H locs ls v1908 hm hl k1909 hI hS
      have J_19 : ∀ (nn : Nat) (H : Heap) (locs : List Loc) (ls : Array Slot) (v1910 : Int32), (Int.toNat (1024 - v1910.toInt) = nn) → lv_has ls 3 [(2, .int v1910), (1, .int v1908), (0, .ref h0)] → ((0 : Int) ≤ v1910.toInt ∧ v1910.toInt ≤ 1024) → ((1 : Int) ≤ v1908.toInt ∧ v1908.toInt ≤ 1023) → th_I (okC E) D G [] H → va_S (th_A G) s.heap H locs → W p l e R s m args below meth c H locs 0 0 QF (F0 m 19 ls []) := by
        intro nn
        induction nn using Nat.strongRecOn with
        | ind nn ih_19 =>
          intro H locs ls v1910 hm hl k1912 k1913 hI hS
          refine lv_iload_n hx hb dX5_gatherParts_19 rfl (lv_at hl 0 rfl) ?_
          refine lv_aload_n hx hb dX5_gatherParts_20 rfl (lv_at hl 2 rfl) ?_
          obtain ⟨a1914, a1916, a1918, a1920, w1922, w1923, hO, hq1915, hq1917, hq1919, hq1921⟩ := op_12 hI hG0 List.not_mem_nil
          have hI := th_I.weak (a := h0) hI
          refine th_get hx hb hts inT5 hown hK hO rfl 5 (by decide) (hts _ (tb_c wd_281)) rfl rfl dX5_gatherParts_21 ?_
          have k1924 := iv_lo w1923
          have k1925 := iv_hi w1923
          refine lv_icmp_gt (tgt := 63) hx hb dX5_gatherParts_24 (by decide) (fun c1926 => ?_) (fun c1926 => ?_)
          · skip
            have k1927 := iv_lt (X := w1923.toInt) (Y := v1910.toInt) rfl rfl c1926
            refine lv_iload_n hx hb dX5_gatherParts_63 rfl (lv_at hl 1 rfl) ?_
            refine lv_iconst (v := 1) hx hb dX5_gatherParts_64 (by decide) ?_
            refine lv_ishl hx hb dX5_gatherParts_65 ?_
            refine lv_topi (fun v1928 e1929 => ?_)
            have tv1928 := iv_sh1 (X := v1908.toInt) rfl e1929 (by omega) (by omega)
            refine lv_istore_n (lv' := [(1, .int v1928), (2, .int v1910), (0, .ref h0)]) hx hb dX5_gatherParts_66 rfl hl (by decide) rfl (fun ls hl => ?_)
            refine lv_goto (tgt := 2) hx hb dX5_gatherParts_67 (by decide) ?_
            have hI := th_I.close hI hG0 hO (ok_12 hq1915 hq1917 hq1919 hq1921)
            exact ih_2 _ (by omega) H locs ls v1928 rfl (lv_sub hl [0, 2] rfl) ⟨by omega, by omega⟩ hI hS
          · skip
            have k1930 := iv_nlt (X := w1923.toInt) (Y := v1910.toInt) rfl rfl c1926
            refine lv_iload_n hx hb dX5_gatherParts_27 rfl (lv_at hl 0 rfl) ?_
            refine lv_sipush (v := 1024) hx hb dX5_gatherParts_28 (by decide) ?_
            refine lv_icmp_ge (tgt := 63) hx hb dX5_gatherParts_31 (by decide) (fun c1931 => ?_) (fun c1931 => ?_)
            · skip
              have k1932 := iv_le (X := (1024)) (Y := v1910.toInt) (by decide) rfl c1931
              refine lv_iload_n hx hb dX5_gatherParts_63 rfl (lv_at hl 1 rfl) ?_
              refine lv_iconst (v := 1) hx hb dX5_gatherParts_64 (by decide) ?_
              refine lv_ishl hx hb dX5_gatherParts_65 ?_
              refine lv_topi (fun v1933 e1934 => ?_)
              have tv1933 := iv_sh1 (X := v1908.toInt) rfl e1934 (by omega) (by omega)
              refine lv_istore_n (lv' := [(1, .int v1933), (2, .int v1910), (0, .ref h0)]) hx hb dX5_gatherParts_66 rfl hl (by decide) rfl (fun ls hl => ?_)
              refine lv_goto (tgt := 2) hx hb dX5_gatherParts_67 (by decide) ?_
              have hI := th_I.close hI hG0 hO (ok_12 hq1915 hq1917 hq1919 hq1921)
              exact ih_2 _ (by omega) H locs ls v1933 rfl (lv_sub hl [0, 2] rfl) ⟨by omega, by omega⟩ hI hS
            · skip
              have k1935 := iv_nle (X := (1024)) (Y := v1910.toInt) (by decide) rfl c1931
              refine lv_iload_n hx hb dX5_gatherParts_34 rfl (lv_at hl 0 rfl) ?_
              refine lv_iload_n hx hb dX5_gatherParts_35 rfl (lv_at hl 1 rfl) ?_
              refine lv_iand hx hb dX5_gatherParts_36 ?_
              refine lv_topi (fun v1936 e1937 => ?_)
              have k1938 := iv_lo v1936
              have k1939 := iv_hi v1936
              refine lv_if_eq (tgt := 57) hx hb dX5_gatherParts_37 (by decide) (fun c1940 => ?_) (fun c1940 => ?_)
              · skip
                have k1941 := iv_eq (X := v1936.toInt) (Y := (0)) rfl (by decide) c1940
                obtain ⟨v1942, e1943⟩ : ∃ y : Int32, y = v1910 + (1) := ⟨_, rfl⟩
                have tv1942 : v1942.toInt = v1910.toInt + (1) := iv_add rfl (by decide) e1943 (by omega) (by omega)
                refine lv_iinc (v := v1942) (lv' := [(2, .int v1942), (1, .int v1908), (0, .ref h0)]) hx hb dX5_gatherParts_57 hl (k := 0) rfl (by rw [e1943]; rfl) (by decide) rfl (fun ls hl => ?_)
                refine lv_goto (tgt := 19) hx hb dX5_gatherParts_60 (by decide) ?_
                have hI := th_I.close hI hG0 hO (ok_12 hq1915 hq1917 hq1919 hq1921)
                exact ih_19 _ (by omega) H locs ls v1942 rfl (lv_sub hl [0, 1, 2] rfl) ⟨by omega, by omega⟩ ⟨by omega, by omega⟩ hI hS
              · skip
                have k1944 := iv_ne (X := v1936.toInt) (Y := (0)) rfl (by decide) c1940
                refine lv_aload_n hx hb dX5_gatherParts_40 rfl (lv_at hl 2 rfl) ?_
                refine th_get hx hb hts inT5 hown hK hO rfl 3 (by decide) (hts _ (tb_c wd_279)) rfl rfl dX5_gatherParts_41 ?_
                refine lv_iload_n hx hb dX5_gatherParts_44 rfl (lv_at hl 0 rfl) ?_
                refine lv_dup2_11 hx hb dX5_gatherParts_45 rfl rfl ?_
                obtain ⟨_, hA1945⟩ := op_1 hI hq1921 (th_ne hG0 hq1921 (show (12 : Nat) ≠ 1 by decide))
                refine va_lald hx hb hK (th_one hA1945) 0 1 rfl rfl (iv_in (X := v1910.toInt) rfl (by omega) (by omega)) dX5_gatherParts_46 ?_
                refine lv_topl (fun l1946 e1947 => ?_)
                refine lv_aload_n hx hb dX5_gatherParts_47 rfl (lv_at hl 2 rfl) ?_
                refine th_get hx hb hts inT5 hown hK hO rfl 3 (by decide) (hts _ (tb_c wd_279)) rfl rfl dX5_gatherParts_48 ?_
                refine lv_iload_n hx hb dX5_gatherParts_51 rfl (lv_at hl 0 rfl) ?_
                refine lv_iload_n hx hb dX5_gatherParts_52 rfl (lv_at hl 1 rfl) ?_
                refine lv_ixor hx hb dX5_gatherParts_53 ?_
                refine lv_topi (fun v1948 e1949 => ?_)
                have tv1948 := iv_xor (X := v1910.toInt) (Y := v1908.toInt) rfl rfl e1949 (by omega) (by omega) (by omega) (by omega)
                obtain ⟨_, hA1950⟩ := op_1 hI hq1921 (th_ne hG0 hq1921 (show (12 : Nat) ≠ 1 by decide))
                refine va_lald hx hb hK (th_one hA1950) 0 1 rfl rfl (iv_in (X := v1948.toInt) rfl (by omega) (by omega)) dX5_gatherParts_54 ?_
                refine lv_topl (fun l1951 e1952 => ?_)
                refine lv_ladd hx hb dX5_gatherParts_55 ?_
                refine lv_topl (fun l1953 e1954 => ?_)
                obtain ⟨_, hA1955⟩ := op_1 hI hq1921 (th_ne hG0 hq1921 (show (12 : Nat) ≠ 1 by decide))
                refine th_last hx hb hK hA1955 1 rfl hS ⟨_, hq1921⟩ (iv_in (X := v1910.toInt) rfl (by omega) (by omega)) dX5_gatherParts_56 (fun H locs hA1955 oq hS => ?_)
                have hI := th_I.put hI hq1921 hA1955 ok_1 oq
                have hO := hO.kept (oq _ (fun z => th_ne hG0 hq1921 (show (12 : Nat) ≠ 1 by decide) (List.mem_singleton.mpr z.symm)))
                obtain ⟨v1956, e1957⟩ : ∃ y : Int32, y = v1910 + (1) := ⟨_, rfl⟩
                have tv1956 : v1956.toInt = v1910.toInt + (1) := iv_add rfl (by decide) e1957 (by omega) (by omega)
                refine lv_iinc (v := v1956) (lv' := [(2, .int v1956), (1, .int v1908), (0, .ref h0)]) hx hb dX5_gatherParts_57 hl (k := 0) rfl (by rw [e1957]; rfl) (by decide) rfl (fun ls hl => ?_)
                refine lv_goto (tgt := 19) hx hb dX5_gatherParts_60 (by decide) ?_
                have hI := th_I.close hI hG0 hO (ok_12 hq1915 hq1917 hq1919 hq1921)
                exact ih_19 _ (by omega) H locs ls v1956 rfl (lv_sub hl [0, 1, 2] rfl) ⟨by omega, by omega⟩ ⟨by omega, by omega⟩ hI hS
      refine lv_iload_n hx hb dX5_gatherParts_2 rfl (lv_at hl 0 rfl) ?_
      refine lv_aload_n hx hb dX5_gatherParts_3 rfl (lv_at hl 1 rfl) ?_
      obtain ⟨a1958, a1960, a1962, a1964, w1966, w1967, hO, hq1959, hq1961, hq1963, hq1965⟩ := op_12 hI hG0 List.not_mem_nil
      have hI := th_I.weak (a := h0) hI
      refine th_get hx hb hts inT5 hown hK hO rfl 5 (by decide) (hts _ (tb_c wd_281)) rfl rfl dX5_gatherParts_4 ?_
      have k1968 := iv_lo w1967
      have k1969 := iv_hi w1967
      refine lv_icmp_gt (tgt := 70) hx hb dX5_gatherParts_7 (by decide) (fun c1970 => ?_) (fun c1970 => ?_)
      · skip
        have k1971 := iv_lt (X := w1967.toInt) (Y := v1908.toInt) rfl rfl c1970
        have hI := th_I.close hI hG0 hO (ok_12 hq1959 hq1961 hq1963 hq1965)
        rw [hQ]
        exact W.vret hx hb hr (fun t ht hW => ⟨⟨(), rfl, trivial, by rw [ht]; exact hI, hN.warm hW, va_K.moved hW.alike hK⟩, hS.F ht⟩) hS.2.2 dX5_gatherParts_70
      · skip
        have k1972 := iv_nlt (X := w1967.toInt) (Y := v1908.toInt) rfl rfl c1970
        refine lv_iload_n hx hb dX5_gatherParts_10 rfl (lv_at hl 0 rfl) ?_
        refine lv_sipush (v := 1024) hx hb dX5_gatherParts_11 (by decide) ?_
        refine lv_icmp_ge (tgt := 70) hx hb dX5_gatherParts_14 (by decide) (fun c1973 => ?_) (fun c1973 => ?_)
        · skip
          have k1974 := iv_le (X := (1024)) (Y := v1908.toInt) (by decide) rfl c1973
          have hI := th_I.close hI hG0 hO (ok_12 hq1959 hq1961 hq1963 hq1965)
          rw [hQ]
          exact W.vret hx hb hr (fun t ht hW => ⟨⟨(), rfl, trivial, by rw [ht]; exact hI, hN.warm hW, va_K.moved hW.alike hK⟩, hS.F ht⟩) hS.2.2 dX5_gatherParts_70
        · skip
          have k1975 := iv_nle (X := (1024)) (Y := v1908.toInt) (by decide) rfl c1973
          refine lv_iconst (v := 0) hx hb dX5_gatherParts_17 (by decide) ?_
          refine lv_istore_n (lv' := [(2, .int 0), (1, .int v1908), (0, .ref h0)]) hx hb dX5_gatherParts_18 rfl hl (by decide) rfl (fun ls hl => ?_)
          have hI := th_I.close hI hG0 hO (ok_12 hq1959 hq1961 hq1963 hq1965)
          have zl : (0 : Int32).toInt = 0 := by decide
          exact J_19 _ H locs ls 0 rfl (lv_sub hl [0, 1, 2] rfl) ⟨by decide, by decide⟩ ⟨by omega, by omega⟩ hI hS
  refine lv_iconst (v := 1) hx hb dX5_gatherParts_0 (by decide) ?_
  refine lv_istore_n (lv' := [(1, .int 1), (0, .ref h0)]) hx hb dX5_gatherParts_1 rfl hl (by decide) rfl (fun ls hl => ?_)
  have zl : (1 : Int32).toInt = 1 := by decide
  exact J_2 _ s.heap [] ls 1 rfl (lv_sub hl [0, 1] rfl) ⟨by decide, by decide⟩ hI hS
theorem dX5_countTogether_0g : (decode cX5_countTogether 0 = .ok (.aload_n 0, 1)) ∧ (decode cX5_countTogether 1 = .ok (.iload_n 1, 1)) ∧ (decode cX5_countTogether 2 = .ok (.invokevirtual 34, 3)) ∧ (decode cX5_countTogether 5 = .ok (.aload_n 0, 1)) ∧ (decode cX5_countTogether 6 = .ok (.getfield 15, 3)) ∧ (decode cX5_countTogether 9 = .ok (.lconst 0, 1)) ∧ (decode cX5_countTogether 10 = .ok (.invokestatic 38, 3)) ∧ (decode cX5_countTogether 13 = .ok (.aload_n 0, 1)) ∧ (decode cX5_countTogether 14 = .ok (.getfield 11, 3)) ∧ (decode cX5_countTogether 17 = .ok (.astore_n 2, 1)) := by decide +kernel
theorem dX5_countTogether_0 : decode cX5_countTogether 0 = .ok (.aload_n 0, 1) := dX5_countTogether_0g.1
theorem dX5_countTogether_1 : decode cX5_countTogether 1 = .ok (.iload_n 1, 1) := dX5_countTogether_0g.2.1
theorem dX5_countTogether_2 : decode cX5_countTogether 2 = .ok (.invokevirtual 34, 3) := dX5_countTogether_0g.2.2.1
theorem dX5_countTogether_5 : decode cX5_countTogether 5 = .ok (.aload_n 0, 1) := dX5_countTogether_0g.2.2.2.1
theorem dX5_countTogether_6 : decode cX5_countTogether 6 = .ok (.getfield 15, 3) := dX5_countTogether_0g.2.2.2.2.1
theorem dX5_countTogether_9 : decode cX5_countTogether 9 = .ok (.lconst 0, 1) := dX5_countTogether_0g.2.2.2.2.2.1
theorem dX5_countTogether_10 : decode cX5_countTogether 10 = .ok (.invokestatic 38, 3) := dX5_countTogether_0g.2.2.2.2.2.2.1
theorem dX5_countTogether_13 : decode cX5_countTogether 13 = .ok (.aload_n 0, 1) := dX5_countTogether_0g.2.2.2.2.2.2.2.1
theorem dX5_countTogether_14 : decode cX5_countTogether 14 = .ok (.getfield 11, 3) := dX5_countTogether_0g.2.2.2.2.2.2.2.2.1
theorem dX5_countTogether_17 : decode cX5_countTogether 17 = .ok (.astore_n 2, 1) := dX5_countTogether_0g.2.2.2.2.2.2.2.2.2
theorem dX5_countTogether_18g : (decode cX5_countTogether 18 = .ok (.aload_n 2, 1)) ∧ (decode cX5_countTogether 19 = .ok (.arraylength, 1)) ∧ (decode cX5_countTogether 20 = .ok (.istore_n 3, 1)) ∧ (decode cX5_countTogether 21 = .ok (.iconst 0, 1)) ∧ (decode cX5_countTogether 22 = .ok (.istore 4, 2)) ∧ (decode cX5_countTogether 24 = .ok (.iload 4, 2)) ∧ (decode cX5_countTogether 26 = .ok (.iload_n 3, 1)) ∧ (decode cX5_countTogether 27 = .ok (.if_icmp .ge 39, 3)) ∧ (decode cX5_countTogether 30 = .ok (.aload_n 2, 1)) ∧ (decode cX5_countTogether 31 = .ok (.iload 4, 2)) := by decide +kernel
theorem dX5_countTogether_18 : decode cX5_countTogether 18 = .ok (.aload_n 2, 1) := dX5_countTogether_18g.1
theorem dX5_countTogether_19 : decode cX5_countTogether 19 = .ok (.arraylength, 1) := dX5_countTogether_18g.2.1
theorem dX5_countTogether_20 : decode cX5_countTogether 20 = .ok (.istore_n 3, 1) := dX5_countTogether_18g.2.2.1
theorem dX5_countTogether_21 : decode cX5_countTogether 21 = .ok (.iconst 0, 1) := dX5_countTogether_18g.2.2.2.1
theorem dX5_countTogether_22 : decode cX5_countTogether 22 = .ok (.istore 4, 2) := dX5_countTogether_18g.2.2.2.2.1
theorem dX5_countTogether_24 : decode cX5_countTogether 24 = .ok (.iload 4, 2) := dX5_countTogether_18g.2.2.2.2.2.1
theorem dX5_countTogether_26 : decode cX5_countTogether 26 = .ok (.iload_n 3, 1) := dX5_countTogether_18g.2.2.2.2.2.2.1
theorem dX5_countTogether_27 : decode cX5_countTogether 27 = .ok (.if_icmp .ge 39, 3) := dX5_countTogether_18g.2.2.2.2.2.2.2.1
theorem dX5_countTogether_30 : decode cX5_countTogether 30 = .ok (.aload_n 2, 1) := dX5_countTogether_18g.2.2.2.2.2.2.2.2.1
theorem dX5_countTogether_31 : decode cX5_countTogether 31 = .ok (.iload 4, 2) := dX5_countTogether_18g.2.2.2.2.2.2.2.2.2
theorem dX5_countTogether_33g : (decode cX5_countTogether 33 = .ok (.iaload, 1)) ∧ (decode cX5_countTogether 34 = .ok (.istore 5, 2)) ∧ (decode cX5_countTogether 36 = .ok (.iload 5, 2)) ∧ (decode cX5_countTogether 38 = .ok (.ifCond .lt 22, 3)) ∧ (decode cX5_countTogether 41 = .ok (.iload 5, 2)) ∧ (decode cX5_countTogether 43 = .ok (.sipush 1024, 3)) ∧ (decode cX5_countTogether 46 = .ok (.if_icmp .ge 14, 3)) ∧ (decode cX5_countTogether 49 = .ok (.aload_n 0, 1)) ∧ (decode cX5_countTogether 50 = .ok (.getfield 15, 3)) ∧ (decode cX5_countTogether 53 = .ok (.iload 5, 2)) := by decide +kernel
theorem dX5_countTogether_33 : decode cX5_countTogether 33 = .ok (.iaload, 1) := dX5_countTogether_33g.1
theorem dX5_countTogether_34 : decode cX5_countTogether 34 = .ok (.istore 5, 2) := dX5_countTogether_33g.2.1
theorem dX5_countTogether_36 : decode cX5_countTogether 36 = .ok (.iload 5, 2) := dX5_countTogether_33g.2.2.1
theorem dX5_countTogether_38 : decode cX5_countTogether 38 = .ok (.ifCond .lt 22, 3) := dX5_countTogether_33g.2.2.2.1
theorem dX5_countTogether_41 : decode cX5_countTogether 41 = .ok (.iload 5, 2) := dX5_countTogether_33g.2.2.2.2.1
theorem dX5_countTogether_43 : decode cX5_countTogether 43 = .ok (.sipush 1024, 3) := dX5_countTogether_33g.2.2.2.2.2.1
theorem dX5_countTogether_46 : decode cX5_countTogether 46 = .ok (.if_icmp .ge 14, 3) := dX5_countTogether_33g.2.2.2.2.2.2.1
theorem dX5_countTogether_49 : decode cX5_countTogether 49 = .ok (.aload_n 0, 1) := dX5_countTogether_33g.2.2.2.2.2.2.2.1
theorem dX5_countTogether_50 : decode cX5_countTogether 50 = .ok (.getfield 15, 3) := dX5_countTogether_33g.2.2.2.2.2.2.2.2.1
theorem dX5_countTogether_53 : decode cX5_countTogether 53 = .ok (.iload 5, 2) := dX5_countTogether_33g.2.2.2.2.2.2.2.2.2
theorem dX5_countTogether_55g : (decode cX5_countTogether 55 = .ok (.dup2, 1)) ∧ (decode cX5_countTogether 56 = .ok (.laload, 1)) ∧ (decode cX5_countTogether 57 = .ok (.lconst 1, 1)) ∧ (decode cX5_countTogether 58 = .ok (.ladd, 1)) ∧ (decode cX5_countTogether 59 = .ok (.lastore, 1)) ∧ (decode cX5_countTogether 60 = .ok (.iinc 4 1, 3)) ∧ (decode cX5_countTogether 63 = .ok (.goto (-39), 3)) ∧ (decode cX5_countTogether 66 = .ok (.aload_n 0, 1)) ∧ (decode cX5_countTogether 67 = .ok (.getfield 15, 3)) ∧ (decode cX5_countTogether 70 = .ok (.aload_n 0, 1)) := by decide +kernel
theorem dX5_countTogether_55 : decode cX5_countTogether 55 = .ok (.dup2, 1) := dX5_countTogether_55g.1
theorem dX5_countTogether_56 : decode cX5_countTogether 56 = .ok (.laload, 1) := dX5_countTogether_55g.2.1
theorem dX5_countTogether_57 : decode cX5_countTogether 57 = .ok (.lconst 1, 1) := dX5_countTogether_55g.2.2.1
theorem dX5_countTogether_58 : decode cX5_countTogether 58 = .ok (.ladd, 1) := dX5_countTogether_55g.2.2.2.1
theorem dX5_countTogether_59 : decode cX5_countTogether 59 = .ok (.lastore, 1) := dX5_countTogether_55g.2.2.2.2.1
theorem dX5_countTogether_60 : decode cX5_countTogether 60 = .ok (.iinc 4 1, 3) := dX5_countTogether_55g.2.2.2.2.2.1
theorem dX5_countTogether_63 : decode cX5_countTogether 63 = .ok (.goto (-39), 3) := dX5_countTogether_55g.2.2.2.2.2.2.1
theorem dX5_countTogether_66 : decode cX5_countTogether 66 = .ok (.aload_n 0, 1) := dX5_countTogether_55g.2.2.2.2.2.2.2.1
theorem dX5_countTogether_67 : decode cX5_countTogether 67 = .ok (.getfield 15, 3) := dX5_countTogether_55g.2.2.2.2.2.2.2.2.1
theorem dX5_countTogether_70 : decode cX5_countTogether 70 = .ok (.aload_n 0, 1) := dX5_countTogether_55g.2.2.2.2.2.2.2.2.2
theorem dX5_countTogether_71g : (decode cX5_countTogether 71 = .ok (.getfield 23, 3)) ∧ (decode cX5_countTogether 74 = .ok (.sipush 1023, 3)) ∧ (decode cX5_countTogether 77 = .ok (.iand, 1)) ∧ (decode cX5_countTogether 78 = .ok (.laload, 1)) ∧ (decode cX5_countTogether 79 = .ok (.lstore_n 2, 1)) ∧ (decode cX5_countTogether 80 = .ok (.aload_n 0, 1)) ∧ (decode cX5_countTogether 81 = .ok (.invokevirtual 44, 3)) ∧ (decode cX5_countTogether 84 = .ok (.lconst 0, 1)) ∧ (decode cX5_countTogether 85 = .ok (.lstore 4, 2)) ∧ (decode cX5_countTogether 87 = .ok (.iconst 0, 1)) := by decide +kernel
theorem dX5_countTogether_71 : decode cX5_countTogether 71 = .ok (.getfield 23, 3) := dX5_countTogether_71g.1
theorem dX5_countTogether_74 : decode cX5_countTogether 74 = .ok (.sipush 1023, 3) := dX5_countTogether_71g.2.1
theorem dX5_countTogether_77 : decode cX5_countTogether 77 = .ok (.iand, 1) := dX5_countTogether_71g.2.2.1
theorem dX5_countTogether_78 : decode cX5_countTogether 78 = .ok (.laload, 1) := dX5_countTogether_71g.2.2.2.1
theorem dX5_countTogether_79 : decode cX5_countTogether 79 = .ok (.lstore_n 2, 1) := dX5_countTogether_71g.2.2.2.2.1
theorem dX5_countTogether_80 : decode cX5_countTogether 80 = .ok (.aload_n 0, 1) := dX5_countTogether_71g.2.2.2.2.2.1
theorem dX5_countTogether_81 : decode cX5_countTogether 81 = .ok (.invokevirtual 44, 3) := dX5_countTogether_71g.2.2.2.2.2.2.1
theorem dX5_countTogether_84 : decode cX5_countTogether 84 = .ok (.lconst 0, 1) := dX5_countTogether_71g.2.2.2.2.2.2.2.1
theorem dX5_countTogether_85 : decode cX5_countTogether 85 = .ok (.lstore 4, 2) := dX5_countTogether_71g.2.2.2.2.2.2.2.2.1
theorem dX5_countTogether_87 : decode cX5_countTogether 87 = .ok (.iconst 0, 1) := dX5_countTogether_71g.2.2.2.2.2.2.2.2.2
theorem dX5_countTogether_88g : (decode cX5_countTogether 88 = .ok (.istore 6, 2)) ∧ (decode cX5_countTogether 90 = .ok (.iload 6, 2)) ∧ (decode cX5_countTogether 92 = .ok (.aload_n 0, 1)) ∧ (decode cX5_countTogether 93 = .ok (.getfield 23, 3)) ∧ (decode cX5_countTogether 96 = .ok (.if_icmp .gt 74, 3)) ∧ (decode cX5_countTogether 99 = .ok (.iload 6, 2)) ∧ (decode cX5_countTogether 101 = .ok (.sipush 1024, 3)) ∧ (decode cX5_countTogether 104 = .ok (.if_icmp .ge 66, 3)) ∧ (decode cX5_countTogether 107 = .ok (.iload 6, 2)) ∧ (decode cX5_countTogether 109 = .ok (.aload_n 0, 1)) := by decide +kernel
theorem dX5_countTogether_88 : decode cX5_countTogether 88 = .ok (.istore 6, 2) := dX5_countTogether_88g.1
theorem dX5_countTogether_90 : decode cX5_countTogether 90 = .ok (.iload 6, 2) := dX5_countTogether_88g.2.1
theorem dX5_countTogether_92 : decode cX5_countTogether 92 = .ok (.aload_n 0, 1) := dX5_countTogether_88g.2.2.1
theorem dX5_countTogether_93 : decode cX5_countTogether 93 = .ok (.getfield 23, 3) := dX5_countTogether_88g.2.2.2.1
theorem dX5_countTogether_96 : decode cX5_countTogether 96 = .ok (.if_icmp .gt 74, 3) := dX5_countTogether_88g.2.2.2.2.1
theorem dX5_countTogether_99 : decode cX5_countTogether 99 = .ok (.iload 6, 2) := dX5_countTogether_88g.2.2.2.2.2.1
theorem dX5_countTogether_101 : decode cX5_countTogether 101 = .ok (.sipush 1024, 3) := dX5_countTogether_88g.2.2.2.2.2.2.1
theorem dX5_countTogether_104 : decode cX5_countTogether 104 = .ok (.if_icmp .ge 66, 3) := dX5_countTogether_88g.2.2.2.2.2.2.2.1
theorem dX5_countTogether_107 : decode cX5_countTogether 107 = .ok (.iload 6, 2) := dX5_countTogether_88g.2.2.2.2.2.2.2.2.1
theorem dX5_countTogether_109 : decode cX5_countTogether 109 = .ok (.aload_n 0, 1) := dX5_countTogether_88g.2.2.2.2.2.2.2.2.2
theorem dX5_countTogether_110g : (decode cX5_countTogether 110 = .ok (.getfield 23, 3)) ∧ (decode cX5_countTogether 113 = .ok (.iconst (-1), 1)) ∧ (decode cX5_countTogether 114 = .ok (.ixor, 1)) ∧ (decode cX5_countTogether 115 = .ok (.iand, 1)) ∧ (decode cX5_countTogether 116 = .ok (.ifCond .ne 48, 3)) ∧ (decode cX5_countTogether 119 = .ok (.aload_n 0, 1)) ∧ (decode cX5_countTogether 120 = .ok (.getfield 15, 3)) ∧ (decode cX5_countTogether 123 = .ok (.iload 6, 2)) ∧ (decode cX5_countTogether 125 = .ok (.laload, 1)) ∧ (decode cX5_countTogether 126 = .ok (.aload_n 0, 1)) := by decide +kernel
theorem dX5_countTogether_110 : decode cX5_countTogether 110 = .ok (.getfield 23, 3) := dX5_countTogether_110g.1
theorem dX5_countTogether_113 : decode cX5_countTogether 113 = .ok (.iconst (-1), 1) := dX5_countTogether_110g.2.1
theorem dX5_countTogether_114 : decode cX5_countTogether 114 = .ok (.ixor, 1) := dX5_countTogether_110g.2.2.1
theorem dX5_countTogether_115 : decode cX5_countTogether 115 = .ok (.iand, 1) := dX5_countTogether_110g.2.2.2.1
theorem dX5_countTogether_116 : decode cX5_countTogether 116 = .ok (.ifCond .ne 48, 3) := dX5_countTogether_110g.2.2.2.2.1
theorem dX5_countTogether_119 : decode cX5_countTogether 119 = .ok (.aload_n 0, 1) := dX5_countTogether_110g.2.2.2.2.2.1
theorem dX5_countTogether_120 : decode cX5_countTogether 120 = .ok (.getfield 15, 3) := dX5_countTogether_110g.2.2.2.2.2.2.1
theorem dX5_countTogether_123 : decode cX5_countTogether 123 = .ok (.iload 6, 2) := dX5_countTogether_110g.2.2.2.2.2.2.2.1
theorem dX5_countTogether_125 : decode cX5_countTogether 125 = .ok (.laload, 1) := dX5_countTogether_110g.2.2.2.2.2.2.2.2.1
theorem dX5_countTogether_126 : decode cX5_countTogether 126 = .ok (.aload_n 0, 1) := dX5_countTogether_110g.2.2.2.2.2.2.2.2.2
theorem dX5_countTogether_127g : (decode cX5_countTogether 127 = .ok (.getfield 15, 3)) ∧ (decode cX5_countTogether 130 = .ok (.iload 6, 2)) ∧ (decode cX5_countTogether 132 = .ok (.laload, 1)) ∧ (decode cX5_countTogether 133 = .ok (.lmul, 1)) ∧ (decode cX5_countTogether 134 = .ok (.lstore 7, 2)) ∧ (decode cX5_countTogether 136 = .ok (.lload 4, 2)) ∧ (decode cX5_countTogether 138 = .ok (.aload_n 0, 1)) ∧ (decode cX5_countTogether 139 = .ok (.getfield 23, 3)) ∧ (decode cX5_countTogether 142 = .ok (.iload 6, 2)) ∧ (decode cX5_countTogether 144 = .ok (.ixor, 1)) := by decide +kernel
theorem dX5_countTogether_127 : decode cX5_countTogether 127 = .ok (.getfield 15, 3) := dX5_countTogether_127g.1
theorem dX5_countTogether_130 : decode cX5_countTogether 130 = .ok (.iload 6, 2) := dX5_countTogether_127g.2.1
theorem dX5_countTogether_132 : decode cX5_countTogether 132 = .ok (.laload, 1) := dX5_countTogether_127g.2.2.1
theorem dX5_countTogether_133 : decode cX5_countTogether 133 = .ok (.lmul, 1) := dX5_countTogether_127g.2.2.2.1
theorem dX5_countTogether_134 : decode cX5_countTogether 134 = .ok (.lstore 7, 2) := dX5_countTogether_127g.2.2.2.2.1
theorem dX5_countTogether_136 : decode cX5_countTogether 136 = .ok (.lload 4, 2) := dX5_countTogether_127g.2.2.2.2.2.1
theorem dX5_countTogether_138 : decode cX5_countTogether 138 = .ok (.aload_n 0, 1) := dX5_countTogether_127g.2.2.2.2.2.2.1
theorem dX5_countTogether_139 : decode cX5_countTogether 139 = .ok (.getfield 23, 3) := dX5_countTogether_127g.2.2.2.2.2.2.2.1
theorem dX5_countTogether_142 : decode cX5_countTogether 142 = .ok (.iload 6, 2) := dX5_countTogether_127g.2.2.2.2.2.2.2.2.1
theorem dX5_countTogether_144 : decode cX5_countTogether 144 = .ok (.ixor, 1) := dX5_countTogether_127g.2.2.2.2.2.2.2.2.2
theorem dX5_countTogether_145g : (decode cX5_countTogether 145 = .ok (.invokestatic 47, 3)) ∧ (decode cX5_countTogether 148 = .ok (.iconst 2, 1)) ∧ (decode cX5_countTogether 149 = .ok (.irem, 1)) ∧ (decode cX5_countTogether 150 = .ok (.ifCond .ne 8, 3)) ∧ (decode cX5_countTogether 153 = .ok (.lload 7, 2)) ∧ (decode cX5_countTogether 155 = .ok (.goto 6, 3)) ∧ (decode cX5_countTogether 158 = .ok (.lload 7, 2)) ∧ (decode cX5_countTogether 160 = .ok (.lneg, 1)) ∧ (decode cX5_countTogether 161 = .ok (.ladd, 1)) ∧ (decode cX5_countTogether 162 = .ok (.lstore 4, 2)) := by decide +kernel
theorem dX5_countTogether_145 : decode cX5_countTogether 145 = .ok (.invokestatic 47, 3) := dX5_countTogether_145g.1
theorem dX5_countTogether_148 : decode cX5_countTogether 148 = .ok (.iconst 2, 1) := dX5_countTogether_145g.2.1
theorem dX5_countTogether_149 : decode cX5_countTogether 149 = .ok (.irem, 1) := dX5_countTogether_145g.2.2.1
theorem dX5_countTogether_150 : decode cX5_countTogether 150 = .ok (.ifCond .ne 8, 3) := dX5_countTogether_145g.2.2.2.1
theorem dX5_countTogether_153 : decode cX5_countTogether 153 = .ok (.lload 7, 2) := dX5_countTogether_145g.2.2.2.2.1
theorem dX5_countTogether_155 : decode cX5_countTogether 155 = .ok (.goto 6, 3) := dX5_countTogether_145g.2.2.2.2.2.1
theorem dX5_countTogether_158 : decode cX5_countTogether 158 = .ok (.lload 7, 2) := dX5_countTogether_145g.2.2.2.2.2.2.1
theorem dX5_countTogether_160 : decode cX5_countTogether 160 = .ok (.lneg, 1) := dX5_countTogether_145g.2.2.2.2.2.2.2.1
theorem dX5_countTogether_161 : decode cX5_countTogether 161 = .ok (.ladd, 1) := dX5_countTogether_145g.2.2.2.2.2.2.2.2.1
theorem dX5_countTogether_162 : decode cX5_countTogether 162 = .ok (.lstore 4, 2) := dX5_countTogether_145g.2.2.2.2.2.2.2.2.2
theorem dX5_countTogether_164g : (decode cX5_countTogether 164 = .ok (.iinc 6 1, 3)) ∧ (decode cX5_countTogether 167 = .ok (.goto (-77), 3)) ∧ (decode cX5_countTogether 170 = .ok (.lload 4, 2)) ∧ (decode cX5_countTogether 172 = .ok (.lload_n 2, 1)) ∧ (decode cX5_countTogether 173 = .ok (.lsub, 1)) ∧ (decode cX5_countTogether 174 = .ok (.ldc2_w 53, 3)) ∧ (decode cX5_countTogether 177 = .ok (.ldiv, 1)) ∧ (decode cX5_countTogether 178 = .ok (.l2i, 1)) ∧ (decode cX5_countTogether 179 = .ok (.ireturn, 1)) := by decide +kernel
theorem dX5_countTogether_164 : decode cX5_countTogether 164 = .ok (.iinc 6 1, 3) := dX5_countTogether_164g.1
theorem dX5_countTogether_167 : decode cX5_countTogether 167 = .ok (.goto (-77), 3) := dX5_countTogether_164g.2.1
theorem dX5_countTogether_170 : decode cX5_countTogether 170 = .ok (.lload 4, 2) := dX5_countTogether_164g.2.2.1
theorem dX5_countTogether_172 : decode cX5_countTogether 172 = .ok (.lload_n 2, 1) := dX5_countTogether_164g.2.2.2.1
theorem dX5_countTogether_173 : decode cX5_countTogether 173 = .ok (.lsub, 1) := dX5_countTogether_164g.2.2.2.2.1
theorem dX5_countTogether_174 : decode cX5_countTogether 174 = .ok (.ldc2_w 53, 3) := dX5_countTogether_164g.2.2.2.2.2.1
theorem dX5_countTogether_177 : decode cX5_countTogether 177 = .ok (.ldiv, 1) := dX5_countTogether_164g.2.2.2.2.2.2.1
theorem dX5_countTogether_178 : decode cX5_countTogether 178 = .ok (.l2i, 1) := dX5_countTogether_164g.2.2.2.2.2.2.2.1
theorem dX5_countTogether_179 : decode cX5_countTogether 179 = .ok (.ireturn, 1) := dX5_countTogether_164g.2.2.2.2.2.2.2.2
set_option maxHeartbeats 4000000 in
set_option maxRecDepth 100000 in
theorem c_X5_countTogether (l : Launch) (E : Nat → Nat) (D : va_G) (G : th_G) (h0 : Nat) (hG0 : G h0 = some (12, 0)) (x1 : Int32) : Met l yX5_countTogether (tb (.code yX5_countTogether cX5_countTogether 9 (some .int))) (rm 7) (va_Pc [.ref h0, .int x1] (th_P E D G)) (QI E D G (fun r => True)) 0 0 (th_A G) := by
  refine Met.ofW (cc := cX5_countTogether) (maxL := 9) (ret := (some .int)) (by decide) rfl ?_
  intro p e s m args below meth c s₁ B hml hv
  obtain ⟨hav, hI, hN, hK⟩ := hv
  have hx := B.exec
  have hb := B.bytes
  have hr := B.returns
  have hts := atoms_spec (ws := tb (.code yX5_countTogether cX5_countTogether 9 (some .int))) B.pre
  have hown : s.vm.findClass RX5 = some m.cls := findClass_of_methodNamed B.named
  have hlocks := B.notSynchronized
  have hS : va_S (th_A G) s.heap s.heap [] := va_S.rf
  have hl := lv_entry ([.ref h0, .int x1]) (n := 9) (Nat.le_of_ble_eq_true rfl)
  rw [show entryFrame m args 9 = entryFrame m ([.ref h0, .int x1] : List Value).toArray 9 from by rw [hav], lg_entry_eq]
  generalize (lg_sl ([.ref h0, .int x1]) ++ List.replicate (9 - (lg_sl ([.ref h0, .int x1])).length) Slot.unset).toArray = ls at hl ⊢
  have hl : lv_has ls 9 [(0, .ref h0), (1, .int x1)] := hl
  generalize hR : (headSpec (tb (.code yX5_countTogether cX5_countTogether 9 (some .int))) (rm 7)).room = R
  have hR := hR.symm
  generalize hQ : MQ below (QI E D G (fun r => True)) args s 0 0 (th_A G) = QF
  have hQ := hQ.symm
  have J_90 : ∀ (nn : Nat) (H : Heap) (locs : List Loc) (ls : Array Slot) (v11776 : Int32) (l11777 : Int64) (l11778 : Int64), (Int.toNat (1024 - v11776.toInt) = nn) → lv_has ls 9 [(6, .int v11776), (4, .long l11777), (2, .long l11778), (0, .ref h0), (1, .int x1)] → ((0 : Int) ≤ v11776.toInt ∧ v11776.toInt ≤ 1024) → th_I (okC E) D G [] H → va_S (th_A G) s.heap H locs → W p l e R s m args below meth c H locs 0 0 QF (F0 m 90 ls []) := by
    intro nn
    induction nn using Nat.strongRecOn with
    | ind nn ih_90 =>
      intro H locs ls v11776 l11777 l11778 hm hl k11779 hI hS
      have J_164 : ∀ (H : Heap) (locs : List Loc) (ls : Array Slot) (l11781 : Int64), lv_has ls 9 [(6, .int v11776), (4, .long l11781), (2, .long l11778), (0, .ref h0), (1, .int x1)] → ((0 : Int) ≤ v11776.toInt ∧ v11776.toInt ≤ 1023) → th_I (okC E) D G [] H → va_S (th_A G) s.heap H locs → W p l e R s m args below meth c H locs 0 0 QF (F0 m 164 ls []) := by
        intro H locs ls l11781 hl k11783 hI hS
        obtain ⟨v11784, e11785⟩ : ∃ y : Int32, y = v11776 + (1) := ⟨_, rfl⟩
        have tv11784 : v11784.toInt = v11776.toInt + (1) := iv_add rfl (by decide) e11785 (by omega) (by omega)
        refine lv_iinc (v := v11784) (lv' := [(6, .int v11784), (4, .long l11781), (2, .long l11778), (0, .ref h0), (1, .int x1)]) hx hb dX5_countTogether_164 hl (k := 0) rfl (by rw [e11785]; rfl) (by decide) rfl (fun ls hl => ?_)
        refine lv_goto (tgt := 90) hx hb dX5_countTogether_167 (by decide) ?_
        exact ih_90 _ (by omega) H locs ls v11784 l11781 l11778 rfl (lv_sub hl [0, 1, 2, 3, 4] rfl) ⟨by omega, by omega⟩ hI hS
      have J_161 : ∀ (H : Heap) (locs : List Loc) (ls : Array Slot) (l11786 : Int64) (l11790 : Int64) (l11791 : Int64), lv_has ls 9 [(7, .long l11786), (6, .int v11776), (4, .long l11777), (2, .long l11778), (0, .ref h0), (1, .int x1)] → ((0 : Int) ≤ v11776.toInt ∧ v11776.toInt ≤ 1023) → th_I (okC E) D G [] H → va_S (th_A G) s.heap H locs → W p l e R s m args below meth c H locs 0 0 QF (F0 m 161 ls [.long l11790, .long l11791]) := by
        intro H locs ls l11786 l11790 l11791 hl k11792 hI hS
        refine lv_ladd hx hb dX5_countTogether_161 ?_
        refine lv_topl (fun l11793 e11794 => ?_)
        refine lv_lstore (lv' := [(4, .long l11793), (7, .long l11786), (6, .int v11776), (2, .long l11778), (0, .ref h0), (1, .int x1)]) hx hb dX5_countTogether_162 hl (by decide) rfl (fun ls hl => ?_)
        exact J_164 H locs ls l11793 (lv_sub hl [2, 0, 3, 4, 5] rfl) ⟨by omega, by omega⟩ hI hS
      refine lv_iload hx hb dX5_countTogether_90 (lv_at hl 0 rfl) ?_
      refine lv_aload_n hx hb dX5_countTogether_92 rfl (lv_at hl 3 rfl) ?_
      obtain ⟨a11795, a11797, a11799, a11801, w11803, w11804, hO, hq11796, hq11798, hq11800, hq11802⟩ := op_12 hI hG0 List.not_mem_nil
      have hI := th_I.weak (a := h0) hI
      refine th_get hx hb hts inT5 hown hK hO rfl 5 (by decide) (hts _ (tb_c wd_281)) rfl rfl dX5_countTogether_93 ?_
      have k11805 := iv_lo w11804
      have k11806 := iv_hi w11804
      refine lv_icmp_gt (tgt := 170) hx hb dX5_countTogether_96 (by decide) (fun c11807 => ?_) (fun c11807 => ?_)
      · skip
        have k11808 := iv_lt (X := w11804.toInt) (Y := v11776.toInt) rfl rfl c11807
        refine lv_lload hx hb dX5_countTogether_170 (lv_at hl 1 rfl) ?_
        refine lv_lload_n hx hb dX5_countTogether_172 rfl (lv_at hl 2 rfl) ?_
        refine lv_lsub hx hb dX5_countTogether_173 ?_
        refine lv_topl (fun l11809 e11810 => ?_)
        refine lv_ldc2 hx hb hown (hts _ (tb_c wd_1041)) dX5_countTogether_174 ?_
        refine lv_topl (fun l11811 e11812 => ?_)
        refine lv_ldiv hx hb dX5_countTogether_177 (by rw [e11812]; decide) ?_
        refine lv_topl (fun l11813 e11814 => ?_)
        refine lv_l2i hx hb dX5_countTogether_178 rfl ?_
        refine lv_topi (fun v11815 e11816 => ?_)
        have hI := th_I.close hI hG0 hO (ok_12 hq11796 hq11798 hq11800 hq11802)
        have hpost : True := trivial
        rw [hQ]
        exact W.iret (v := v11815) hx hb hr (fun t ht hW => ⟨⟨v11815, (), rfl, hpost, by rw [ht]; exact hI, hN.warm hW, va_K.moved hW.alike hK⟩, hS.F ht⟩) hS.2.2 dX5_countTogether_179
      · skip
        have k11817 := iv_nlt (X := w11804.toInt) (Y := v11776.toInt) rfl rfl c11807
        refine lv_iload hx hb dX5_countTogether_99 (lv_at hl 0 rfl) ?_
        refine lv_sipush (v := 1024) hx hb dX5_countTogether_101 (by decide) ?_
        refine lv_icmp_ge (tgt := 170) hx hb dX5_countTogether_104 (by decide) (fun c11818 => ?_) (fun c11818 => ?_)
        · skip
          have k11819 := iv_le (X := (1024)) (Y := v11776.toInt) (by decide) rfl c11818
          refine lv_lload hx hb dX5_countTogether_170 (lv_at hl 1 rfl) ?_
          refine lv_lload_n hx hb dX5_countTogether_172 rfl (lv_at hl 2 rfl) ?_
          refine lv_lsub hx hb dX5_countTogether_173 ?_
          refine lv_topl (fun l11820 e11821 => ?_)
          refine lv_ldc2 hx hb hown (hts _ (tb_c wd_1041)) dX5_countTogether_174 ?_
          refine lv_topl (fun l11822 e11823 => ?_)
          refine lv_ldiv hx hb dX5_countTogether_177 (by rw [e11823]; decide) ?_
          refine lv_topl (fun l11824 e11825 => ?_)
          refine lv_l2i hx hb dX5_countTogether_178 rfl ?_
          refine lv_topi (fun v11826 e11827 => ?_)
          have hI := th_I.close hI hG0 hO (ok_12 hq11796 hq11798 hq11800 hq11802)
          have hpost : True := trivial
          rw [hQ]
          exact W.iret (v := v11826) hx hb hr (fun t ht hW => ⟨⟨v11826, (), rfl, hpost, by rw [ht]; exact hI, hN.warm hW, va_K.moved hW.alike hK⟩, hS.F ht⟩) hS.2.2 dX5_countTogether_179
        · skip
          have k11828 := iv_nle (X := (1024)) (Y := v11776.toInt) (by decide) rfl c11818
          refine lv_iload hx hb dX5_countTogether_107 (lv_at hl 0 rfl) ?_
          refine lv_aload_n hx hb dX5_countTogether_109 rfl (lv_at hl 3 rfl) ?_
          refine th_get hx hb hts inT5 hown hK hO rfl 5 (by decide) (hts _ (tb_c wd_281)) rfl rfl dX5_countTogether_110 ?_
          refine lv_iconst (v := (-1)) hx hb dX5_countTogether_113 (by decide) ?_
          refine lv_ixor hx hb dX5_countTogether_114 ?_
          refine lv_topi (fun v11829 e11830 => ?_)
          refine lv_iand hx hb dX5_countTogether_115 ?_
          refine lv_topi (fun v11831 e11832 => ?_)
          have k11833 := iv_lo v11831
          have k11834 := iv_hi v11831
          refine lv_if_ne (tgt := 164) hx hb dX5_countTogether_116 (by decide) (fun c11835 => ?_) (fun c11835 => ?_)
          · skip
            have k11836 := iv_ne (X := v11831.toInt) (Y := (0)) rfl (by decide) c11835
            have hI := th_I.close hI hG0 hO (ok_12 hq11796 hq11798 hq11800 hq11802)
            exact J_164 H locs ls l11777 (lv_sub hl [0, 1, 2, 3, 4] rfl) ⟨by omega, by omega⟩ hI hS
          · skip
            have k11837 := iv_eq (X := v11831.toInt) (Y := (0)) rfl (by decide) c11835
            refine lv_aload_n hx hb dX5_countTogether_119 rfl (lv_at hl 3 rfl) ?_
            refine th_get hx hb hts inT5 hown hK hO rfl 3 (by decide) (hts _ (tb_c wd_279)) rfl rfl dX5_countTogether_120 ?_
            refine lv_iload hx hb dX5_countTogether_123 (lv_at hl 0 rfl) ?_
            obtain ⟨_, hA11838⟩ := op_1 hI hq11802 (th_ne hG0 hq11802 (show (12 : Nat) ≠ 1 by decide))
            refine va_lald hx hb hK (th_one hA11838) 0 1 rfl rfl (iv_in (X := v11776.toInt) rfl (by omega) (by omega)) dX5_countTogether_125 ?_
            refine lv_topl (fun l11839 e11840 => ?_)
            refine lv_aload_n hx hb dX5_countTogether_126 rfl (lv_at hl 3 rfl) ?_
            refine th_get hx hb hts inT5 hown hK hO rfl 3 (by decide) (hts _ (tb_c wd_279)) rfl rfl dX5_countTogether_127 ?_
            refine lv_iload hx hb dX5_countTogether_130 (lv_at hl 0 rfl) ?_
            obtain ⟨_, hA11841⟩ := op_1 hI hq11802 (th_ne hG0 hq11802 (show (12 : Nat) ≠ 1 by decide))
            refine va_lald hx hb hK (th_one hA11841) 0 1 rfl rfl (iv_in (X := v11776.toInt) rfl (by omega) (by omega)) dX5_countTogether_132 ?_
            refine lv_topl (fun l11842 e11843 => ?_)
            refine lv_lmul hx hb dX5_countTogether_133 ?_
            refine lv_topl (fun l11844 e11845 => ?_)
            refine lv_lstore (lv' := [(7, .long l11844), (6, .int v11776), (4, .long l11777), (2, .long l11778), (0, .ref h0), (1, .int x1)]) hx hb dX5_countTogether_134 hl (by decide) rfl (fun ls hl => ?_)
            refine lv_lload hx hb dX5_countTogether_136 (lv_at hl 2 rfl) ?_
            refine lv_aload_n hx hb dX5_countTogether_138 rfl (lv_at hl 4 rfl) ?_
            refine th_get hx hb hts inT5 hown hK hO rfl 5 (by decide) (hts _ (tb_c wd_281)) rfl rfl dX5_countTogether_139 ?_
            refine lv_iload hx hb dX5_countTogether_142 (lv_at hl 1 rfl) ?_
            refine lv_ixor hx hb dX5_countTogether_144 ?_
            refine lv_topi (fun v11846 e11847 => ?_)
            refine th_cSs (As := [.int v11846]) (rest := [.long l11777]) (n := 1) (d := 0) ⟨hx, hb, hml, hown, hts⟩ (c_J6_bitCount_0f7a4 l H v11846) wd_1035 wd_1036 wd_21 wd_1037 (by decide +kernel) ⟨by rw [hR]; exact Nat.le_of_ble_eq_true rfl, by rw [hR]; exact Nat.le_of_ble_eq_true rfl⟩ hN hS rfl hl.1 rfl (Nat.le_of_ble_eq_true rfl) dX5_countTogether_145 ⟨Nat.zero_le _, Nat.zero_le _⟩ (fun r11848 locs hp hS => ?_)
            refine lv_iconst (v := 2) hx hb dX5_countTogether_148 (by decide) ?_
            refine lv_irem hx hb dX5_countTogether_149 (by decide) ?_
            refine lv_topi (fun v11849 e11850 => ?_)
            have k11851 := iv_lo v11849
            have k11852 := iv_hi v11849
            refine lv_if_ne (tgt := 158) hx hb dX5_countTogether_150 (by decide) (fun c11853 => ?_) (fun c11853 => ?_)
            · skip
              have k11854 := iv_ne (X := v11849.toInt) (Y := (0)) rfl (by decide) c11853
              refine lv_lload hx hb dX5_countTogether_158 (lv_at hl 0 rfl) ?_
              refine lv_lneg hx hb dX5_countTogether_160 ?_
              refine lv_topl (fun l11855 e11856 => ?_)
              have hI := th_I.close hI hG0 hO (ok_12 hq11796 hq11798 hq11800 hq11802)
              exact J_161 H locs ls l11844 l11855 l11777 (lv_sub hl [0, 1, 2, 3, 4, 5] rfl) ⟨by omega, by omega⟩ hI hS
            · skip
              have k11857 := iv_eq (X := v11849.toInt) (Y := (0)) rfl (by decide) c11853
              refine lv_lload hx hb dX5_countTogether_153 (lv_at hl 0 rfl) ?_
              refine lv_goto (tgt := 161) hx hb dX5_countTogether_155 (by decide) ?_
              have hI := th_I.close hI hG0 hO (ok_12 hq11796 hq11798 hq11800 hq11802)
              exact J_161 H locs ls l11844 l11844 l11777 (lv_sub hl [0, 1, 2, 3, 4, 5] rfl) ⟨by omega, by omega⟩ hI hS
  have J_24 : ∀ (nn : Nat) (H : Heap) (locs : List Loc) (ls : Array Slot) (v11858 : Int32) (a11859 : Nat), (Int.toNat (2304 - v11858.toInt) = nn) → lv_has ls 9 [(4, .int v11858), (3, .int 2304), (2, .ref a11859), (0, .ref h0), (1, .int x1)] → ((0 : Int) ≤ v11858.toInt ∧ v11858.toInt ≤ 2304) → G a11859 = some (0, 2304) → th_I (okC E) D G [] H → va_S (th_A G) s.heap H locs → W p l e R s m args below meth c H locs 0 0 QF (F0 m 24 ls []) := by
    intro nn
    induction nn using Nat.strongRecOn with
    | ind nn ih_24 =>
      intro H locs ls v11858 a11859 hm hl k11860 ha11859 hI hS
      have J_60 : ∀ (H : Heap) (locs : List Loc) (ls : Array Slot) (v11861 : Int32), lv_has ls 9 [(5, .int v11861), (4, .int v11858), (3, .int 2304), (2, .ref a11859), (0, .ref h0), (1, .int x1)] → ((0 : Int) ≤ v11858.toInt ∧ v11858.toInt ≤ 2303) → th_I (okC E) D G [] H → va_S (th_A G) s.heap H locs → W p l e R s m args below meth c H locs 0 0 QF (F0 m 60 ls []) := by
        intro H locs ls v11861 hl k11864 hI hS
        obtain ⟨v11865, e11866⟩ : ∃ y : Int32, y = v11858 + (1) := ⟨_, rfl⟩
        have tv11865 : v11865.toInt = v11858.toInt + (1) := iv_add rfl (by decide) e11866 (by omega) (by omega)
        refine lv_iinc (v := v11865) (lv' := [(4, .int v11865), (5, .int v11861), (3, .int 2304), (2, .ref a11859), (0, .ref h0), (1, .int x1)]) hx hb dX5_countTogether_60 hl (k := 1) rfl (by rw [e11866]; rfl) (by decide) rfl (fun ls hl => ?_)
        refine lv_goto (tgt := 24) hx hb dX5_countTogether_63 (by decide) ?_
        exact ih_24 _ (by omega) H locs ls v11865 a11859 rfl (lv_sub hl [0, 2, 3, 4, 5] rfl) ⟨by omega, by omega⟩ ha11859 hI hS
      refine lv_iload hx hb dX5_countTogether_24 (lv_at hl 0 rfl) ?_
      refine lv_iload_n hx hb dX5_countTogether_26 rfl (lv_at hl 1 rfl) ?_
      refine lv_icmp_ge (tgt := 66) hx hb dX5_countTogether_27 (by decide) (fun c11867 => ?_) (fun c11867 => ?_)
      · skip
        have k11868 := iv_le (X := (2304)) (Y := v11858.toInt) (by decide) rfl c11867
        refine lv_aload_n hx hb dX5_countTogether_66 rfl (lv_at hl 3 rfl) ?_
        obtain ⟨a11869, a11871, a11873, a11875, w11877, w11878, hO, hq11870, hq11872, hq11874, hq11876⟩ := op_12 hI hG0 List.not_mem_nil
        have hI := th_I.weak (a := h0) hI
        refine th_get hx hb hts inT5 hown hK hO rfl 3 (by decide) (hts _ (tb_c wd_279)) rfl rfl dX5_countTogether_67 ?_
        refine lv_aload_n hx hb dX5_countTogether_70 rfl (lv_at hl 3 rfl) ?_
        refine th_get hx hb hts inT5 hown hK hO rfl 5 (by decide) (hts _ (tb_c wd_281)) rfl rfl dX5_countTogether_71 ?_
        refine lv_sipush (v := 1023) hx hb dX5_countTogether_74 (by decide) ?_
        refine lv_iand hx hb dX5_countTogether_77 ?_
        refine lv_topi (fun v11879 e11880 => ?_)
        have tv11879 := iv_andr (m := 1023) (M := 1023) e11880 (by decide) (by decide)
        obtain ⟨_, hA11881⟩ := op_1 hI hq11876 (th_ne hG0 hq11876 (show (12 : Nat) ≠ 1 by decide))
        refine va_lald hx hb hK (th_one hA11881) 0 1 rfl rfl (iv_in (X := v11879.toInt) rfl (by omega) (by omega)) dX5_countTogether_78 ?_
        refine lv_topl (fun l11882 e11883 => ?_)
        refine lv_lstore_n (lv' := [(2, .long l11882), (4, .int v11858), (0, .ref h0), (1, .int x1)]) hx hb dX5_countTogether_79 rfl hl (by decide) rfl (fun ls hl => ?_)
        refine lv_aload_n hx hb dX5_countTogether_80 rfl (lv_at hl 2 rfl) ?_
        have hI := th_I.close hI hG0 hO (ok_12 hq11870 hq11872 hq11874 hq11876)
        refine th_cVv (As := []) (rest := []) (n := 0) (d := 0) ⟨hx, hb, hml, hown, hts⟩ (c_X5_gatherParts l E D G h0 hG0 ) wd_1031 wd_1033 wp_30 wd_10 wd_1034 (by decide +kernel) ⟨by rw [hR]; exact Nat.le_of_ble_eq_true rfl, by rw [hR]; exact Nat.le_of_ble_eq_true rfl⟩ hI hN hK hS (rc_12 hI hG0 List.not_mem_nil) rfl rfl hl.1 rfl (Nat.le_of_ble_eq_true rfl) dX5_countTogether_81 ⟨Nat.zero_le _, Nat.zero_le _⟩ (fun H locs hI hS => ?_)
        refine lv_lconst hx hb dX5_countTogether_84 rfl ?_
        refine lv_topl (fun l11885 e11886 => ?_)
        refine lv_lstore (lv' := [(4, .long l11885), (2, .long l11882), (0, .ref h0), (1, .int x1)]) hx hb dX5_countTogether_85 hl (by decide) rfl (fun ls hl => ?_)
        refine lv_iconst (v := 0) hx hb dX5_countTogether_87 (by decide) ?_
        refine lv_istore (lv' := [(6, .int 0), (4, .long l11885), (2, .long l11882), (0, .ref h0), (1, .int x1)]) hx hb dX5_countTogether_88 hl (by decide) rfl (fun ls hl => ?_)
        have zl : (0 : Int32).toInt = 0 := by decide
        exact J_90 _ H locs ls 0 l11885 l11882 rfl (lv_sub hl [0, 1, 2, 3, 4] rfl) ⟨by decide, by decide⟩ hI hS
      · skip
        have k11887 := iv_nle (X := (2304)) (Y := v11858.toInt) (by decide) rfl c11867
        refine lv_aload_n hx hb dX5_countTogether_30 rfl (lv_at hl 2 rfl) ?_
        refine lv_iload hx hb dX5_countTogether_31 (lv_at hl 0 rfl) ?_
        obtain ⟨_, hA11888⟩ := op_0 hI ha11859 List.not_mem_nil
        refine th_iald hx hb hK hA11888 0 rfl (iv_in (X := v11858.toInt) rfl (by omega) (by omega)) dX5_countTogether_33 (fun v11889 _ => ?_)
        refine lv_istore (lv' := [(5, .int v11889), (4, .int v11858), (3, .int 2304), (2, .ref a11859), (0, .ref h0), (1, .int x1)]) hx hb dX5_countTogether_34 hl (by decide) rfl (fun ls hl => ?_)
        refine lv_iload hx hb dX5_countTogether_36 (lv_at hl 0 rfl) ?_
        have k11890 := iv_lo v11889
        have k11891 := iv_hi v11889
        refine lv_if_lt (tgt := 60) hx hb dX5_countTogether_38 (by decide) (fun c11892 => ?_) (fun c11892 => ?_)
        · skip
          have k11893 := iv_lt (X := v11889.toInt) (Y := (0)) rfl (by decide) c11892
          exact J_60 H locs ls v11889 (lv_sub hl [0, 1, 2, 3, 4, 5] rfl) ⟨by omega, by omega⟩ hI hS
        · skip
          have k11894 := iv_nlt (X := v11889.toInt) (Y := (0)) rfl (by decide) c11892
          refine lv_iload hx hb dX5_countTogether_41 (lv_at hl 0 rfl) ?_
          refine lv_sipush (v := 1024) hx hb dX5_countTogether_43 (by decide) ?_
          refine lv_icmp_ge (tgt := 60) hx hb dX5_countTogether_46 (by decide) (fun c11895 => ?_) (fun c11895 => ?_)
          · skip
            have k11896 := iv_le (X := (1024)) (Y := v11889.toInt) (by decide) rfl c11895
            exact J_60 H locs ls v11889 (lv_sub hl [0, 1, 2, 3, 4, 5] rfl) ⟨by omega, by omega⟩ hI hS
          · skip
            have k11897 := iv_nle (X := (1024)) (Y := v11889.toInt) (by decide) rfl c11895
            refine lv_aload_n hx hb dX5_countTogether_49 rfl (lv_at hl 4 rfl) ?_
            obtain ⟨a11898, a11900, a11902, a11904, w11906, w11907, hO, hq11899, hq11901, hq11903, hq11905⟩ := op_12 hI hG0 List.not_mem_nil
            have hI := th_I.weak (a := h0) hI
            refine th_get hx hb hts inT5 hown hK hO rfl 3 (by decide) (hts _ (tb_c wd_279)) rfl rfl dX5_countTogether_50 ?_
            refine lv_iload hx hb dX5_countTogether_53 (lv_at hl 0 rfl) ?_
            refine lv_dup2_11 hx hb dX5_countTogether_55 rfl rfl ?_
            obtain ⟨_, hA11908⟩ := op_1 hI hq11905 (th_ne hG0 hq11905 (show (12 : Nat) ≠ 1 by decide))
            refine va_lald hx hb hK (th_one hA11908) 0 1 rfl rfl (iv_in (X := v11889.toInt) rfl (by omega) (by omega)) dX5_countTogether_56 ?_
            refine lv_topl (fun l11909 e11910 => ?_)
            refine lv_lconst hx hb dX5_countTogether_57 rfl ?_
            refine lv_topl (fun l11911 e11912 => ?_)
            refine lv_ladd hx hb dX5_countTogether_58 ?_
            refine lv_topl (fun l11913 e11914 => ?_)
            obtain ⟨_, hA11915⟩ := op_1 hI hq11905 (th_ne hG0 hq11905 (show (12 : Nat) ≠ 1 by decide))
            refine th_last hx hb hK hA11915 1 rfl hS ⟨_, hq11905⟩ (iv_in (X := v11889.toInt) rfl (by omega) (by omega)) dX5_countTogether_59 (fun H locs hA11915 oq hS => ?_)
            have hI := th_I.put hI hq11905 hA11915 ok_1 oq
            have hO := hO.kept (oq _ (fun z => th_ne hG0 hq11905 (show (12 : Nat) ≠ 1 by decide) (List.mem_singleton.mpr z.symm)))
            have hI := th_I.close hI hG0 hO (ok_12 hq11899 hq11901 hq11903 hq11905)
            exact J_60 H locs ls v11889 (lv_sub hl [0, 1, 2, 3, 4, 5] rfl) ⟨by omega, by omega⟩ hI hS
  refine lv_aload_n hx hb dX5_countTogether_0 rfl (lv_at hl 0 rfl) ?_
  refine lv_iload_n hx hb dX5_countTogether_1 rfl (lv_at hl 1 rfl) ?_
  refine th_cVv (As := [.int x1]) (rest := []) (n := 1) (d := 6) ⟨hx, hb, hml, hown, hts⟩ (c_X5_look l E D G h0 hG0 x1) wd_999 wd_1001 wp_28 wd_10 wd_1002 (by decide +kernel) ⟨by rw [hR]; exact Nat.le_of_ble_eq_true rfl, by rw [hR]; exact Nat.le_of_ble_eq_true rfl⟩ hI hN hK hS (rc_12 hI hG0 List.not_mem_nil) rfl rfl hl.1 rfl (Nat.le_of_ble_eq_true rfl) dX5_countTogether_2 ⟨Nat.zero_le _, Nat.zero_le _⟩ (fun H locs hI hS => ?_)
  refine lv_aload_n hx hb dX5_countTogether_5 rfl (lv_at hl 0 rfl) ?_
  obtain ⟨a11917, a11919, a11921, a11923, w11925, w11926, hO, hq11918, hq11920, hq11922, hq11924⟩ := op_12 hI hG0 List.not_mem_nil
  have hI := th_I.weak (a := h0) hI
  refine th_get hx hb hts inT5 hown hK hO rfl 3 (by decide) (hts _ (tb_c wd_279)) rfl rfl dX5_countTogether_6 ?_
  refine lv_lconst hx hb dX5_countTogether_9 rfl ?_
  refine lv_topl (fun l11927 e11928 => ?_)
  have hI := th_I.close hI hG0 hO (ok_12 hq11918 hq11920 hq11922 hq11924)
  refine th_cSv (As := [.ref a11923, .long l11927]) (rest := []) (n := 2) (d := 0) ⟨hx, hb, hml, hown, hts⟩ (c_J7_fill_d0a16 l E D G a11923 (1024) hq11924 (by omega) l11927) wd_1028 wd_1029 wd_15 wd_1030 (by decide +kernel) ⟨by rw [hR]; exact Nat.le_of_ble_eq_true rfl, by rw [hR]; exact Nat.le_of_ble_eq_true rfl⟩ hI hN hK hS rfl hl.1 rfl (Nat.le_of_ble_eq_true rfl) dX5_countTogether_10 ⟨Nat.zero_le _, Nat.zero_le _⟩ (fun H locs hI hS => ?_)
  refine lv_aload_n hx hb dX5_countTogether_13 rfl (lv_at hl 0 rfl) ?_
  obtain ⟨a11930, a11932, a11934, a11936, w11938, w11939, hO, hq11931, hq11933, hq11935, hq11937⟩ := op_12 hI hG0 List.not_mem_nil
  have hI := th_I.weak (a := h0) hI
  refine th_get hx hb hts inT5 hown hK hO rfl 2 (by decide) (hts _ (tb_c wd_278)) rfl rfl dX5_countTogether_14 ?_
  refine lv_astore_n (lv' := [(2, .ref a11934), (0, .ref h0), (1, .int x1)]) hx hb dX5_countTogether_17 rfl hl (by decide) rfl (fun ls hl => ?_)
  refine lv_aload_n hx hb dX5_countTogether_18 rfl (lv_at hl 0 rfl) ?_
  obtain ⟨_, hA11940⟩ := op_0 hI hq11935 (th_ne hG0 hq11935 (show (12 : Nat) ≠ 0 by decide))
  refine va_alen hx hb hK (th_one hA11940) 0 0 rfl (v := 2304) rfl (show Int32.ofNat 2304 = (2304 : Int32) from by decide) dX5_countTogether_19 ?_
  refine lv_istore_n (lv' := [(3, .int 2304), (2, .ref a11934), (0, .ref h0), (1, .int x1)]) hx hb dX5_countTogether_20 rfl hl (by decide) rfl (fun ls hl => ?_)
  refine lv_iconst (v := 0) hx hb dX5_countTogether_21 (by decide) ?_
  refine lv_istore (lv' := [(4, .int 0), (3, .int 2304), (2, .ref a11934), (0, .ref h0), (1, .int x1)]) hx hb dX5_countTogether_22 hl (by decide) rfl (fun ls hl => ?_)
  have hI := th_I.close hI hG0 hO (ok_12 hq11931 hq11933 hq11935 hq11937)
  have zl : (0 : Int32).toInt = 0 := by decide
  exact J_24 _ H locs ls 0 a11934 rfl (lv_sub hl [0, 1, 2, 3, 4] rfl) ⟨by decide, by decide⟩ hq11935 hI hS
theorem dX11_pairs_0g : (decode cX11_pairs 0 = .ok (.iload_n 1, 1)) ∧ (decode cX11_pairs 1 = .ok (.invokestatic 269, 3)) ∧ (decode cX11_pairs 4 = .ok (.ifCond .eq 14, 3)) ∧ (decode cX11_pairs 7 = .ok (.aload_n 0, 1)) ∧ (decode cX11_pairs 8 = .ok (.getfield 69, 3)) ∧ (decode cX11_pairs 11 = .ok (.iload_n 1, 1)) ∧ (decode cX11_pairs 12 = .ok (.invokevirtual 304, 3)) ∧ (decode cX11_pairs 15 = .ok (.goto 4, 3)) ∧ (decode cX11_pairs 18 = .ok (.iconst (-1), 1)) ∧ (decode cX11_pairs 19 = .ok (.ireturn, 1)) := by decide +kernel
theorem dX11_pairs_0 : decode cX11_pairs 0 = .ok (.iload_n 1, 1) := dX11_pairs_0g.1
theorem dX11_pairs_1 : decode cX11_pairs 1 = .ok (.invokestatic 269, 3) := dX11_pairs_0g.2.1
theorem dX11_pairs_4 : decode cX11_pairs 4 = .ok (.ifCond .eq 14, 3) := dX11_pairs_0g.2.2.1
theorem dX11_pairs_7 : decode cX11_pairs 7 = .ok (.aload_n 0, 1) := dX11_pairs_0g.2.2.2.1
theorem dX11_pairs_8 : decode cX11_pairs 8 = .ok (.getfield 69, 3) := dX11_pairs_0g.2.2.2.2.1
theorem dX11_pairs_11 : decode cX11_pairs 11 = .ok (.iload_n 1, 1) := dX11_pairs_0g.2.2.2.2.2.1
theorem dX11_pairs_12 : decode cX11_pairs 12 = .ok (.invokevirtual 304, 3) := dX11_pairs_0g.2.2.2.2.2.2.1
theorem dX11_pairs_15 : decode cX11_pairs 15 = .ok (.goto 4, 3) := dX11_pairs_0g.2.2.2.2.2.2.2.1
theorem dX11_pairs_18 : decode cX11_pairs 18 = .ok (.iconst (-1), 1) := dX11_pairs_0g.2.2.2.2.2.2.2.2.1
theorem dX11_pairs_19 : decode cX11_pairs 19 = .ok (.ireturn, 1) := dX11_pairs_0g.2.2.2.2.2.2.2.2.2
set_option maxHeartbeats 4000000 in
set_option maxRecDepth 100000 in
theorem c_X11_pairs (l : Launch) (E : Nat → Nat) (D : va_G) (G : th_G) (h0 n : Nat) (hG0 : G h0 = some (15, n)) (x1 : Int32) : Met l yX11_pairs (tb (.code yX11_pairs cX11_pairs 2 (some .int))) (rm 8) (va_Pc [.ref h0, .int x1] (th_P E D G)) (QI E D G (fun r => True)) 0 0 (th_A G) := by
  refine Met.ofW (cc := cX11_pairs) (maxL := 2) (ret := (some .int)) (by decide) rfl ?_
  intro p e s m args below meth c s₁ B hml hv
  obtain ⟨hav, hI, hN, hK⟩ := hv
  have hx := B.exec
  have hb := B.bytes
  have hr := B.returns
  have hts := atoms_spec (ws := tb (.code yX11_pairs cX11_pairs 2 (some .int))) B.pre
  have hown : s.vm.findClass RX11 = some m.cls := findClass_of_methodNamed B.named
  have hlocks := B.notSynchronized
  have hS : va_S (th_A G) s.heap s.heap [] := va_S.rf
  have hl := lv_entry ([.ref h0, .int x1]) (n := 2) (Nat.le_of_ble_eq_true rfl)
  rw [show entryFrame m args 2 = entryFrame m ([.ref h0, .int x1] : List Value).toArray 2 from by rw [hav], lg_entry_eq]
  generalize (lg_sl ([.ref h0, .int x1]) ++ List.replicate (2 - (lg_sl ([.ref h0, .int x1])).length) Slot.unset).toArray = ls at hl ⊢
  have hl : lv_has ls 2 [(0, .ref h0), (1, .int x1)] := hl
  generalize hR : (headSpec (tb (.code yX11_pairs cX11_pairs 2 (some .int))) (rm 8)).room = R
  have hR := hR.symm
  generalize hQ : MQ below (QI E D G (fun r => True)) args s 0 0 (th_A G) = QF
  have hQ := hQ.symm
  refine lv_iload_n hx hb dX11_pairs_0 rfl (lv_at hl 1 rfl) ?_
  refine th_cSs (As := [.int x1]) (rest := []) (n := 1) (d := 0) ⟨hx, hb, hml, hown, hts⟩ (c_X11_isColour l s.heap x1) wd_620 wd_621 wd_1 wd_622 (by decide +kernel) ⟨by rw [hR]; exact Nat.le_of_ble_eq_true rfl, by rw [hR]; exact Nat.le_of_ble_eq_true rfl⟩ hN hS rfl hl.1 rfl (Nat.le_of_ble_eq_true rfl) dX11_pairs_1 ⟨Nat.zero_le _, Nat.zero_le _⟩ (fun r1 locs hp hS => ?_)
  rcases hp with ⟨rfl, hp⟩ | ⟨rfl, hp⟩
  · skip
    try simp only [rg, not_and, Int.not_le] at hp
    have hp2 := hp
    refine lv_if_eq (tgt := 18) hx hb dX11_pairs_4 (by decide) (fun c => absurd c (by decide)) (fun _ => ?_)
    refine lv_aload_n hx hb dX11_pairs_7 rfl (lv_at hl 0 rfl) ?_
    obtain ⟨a3, a6, a8, a10, a12, a14, a16, a18, a20, a22, a24, w26, w29, w30, w31, w32, hO, hq4, hq5, hq7, hq9, hq11, hq13, hq15, hq17, hq19, hq21, hq23, hq25, ⟨k27, k28⟩, k33⟩ := op_15 hI hG0 List.not_mem_nil
    have hI := th_I.weak (a := h0) hI
    refine th_get hx hb hts inT11 hown hK hO rfl 9 (by decide) (hts _ (tb_c wd_354)) rfl rfl dX11_pairs_8 ?_
    refine lv_iload_n hx hb dX11_pairs_11 rfl (lv_at hl 1 rfl) ?_
    have hI := th_I.close hI hG0 hO (ok_15 hq4 hq5 hq7 hq9 hq11 hq13 hq15 hq17 hq19 hq21 hq23 hq25 ⟨by omega, by omega⟩ k33)
    refine th_cVi (As := [.int x1]) (rest := []) (n := 1) (d := 7) ⟨hx, hb, hml, hown, hts⟩ (c_X5_countTogether l E D G a20 hq21 x1) wd_1024 wd_1025 wd_1026 wd_10 wd_1027 (by decide +kernel) ⟨by rw [hR]; exact Nat.le_of_ble_eq_true rfl, by rw [hR]; exact Nat.le_of_ble_eq_true rfl⟩ hI hN hK hS (rc_12 hI hq21 List.not_mem_nil) rfl rfl hl.1 rfl (Nat.le_of_ble_eq_true rfl) dX11_pairs_12 ⟨Nat.zero_le _, Nat.zero_le _⟩ (fun r34 H locs hp hI hS => ?_)
    refine lv_goto (tgt := 19) hx hb dX11_pairs_15 (by decide) ?_
    have hpost : True := trivial
    rw [hQ]
    exact W.iret (v := r34) hx hb hr (fun t ht hW => ⟨⟨r34, (), rfl, hpost, by rw [ht]; exact hI, hN.warm hW, va_K.moved hW.alike hK⟩, hS.F ht⟩) hS.2.2 dX11_pairs_19
  · skip
    try simp only [rg, not_and, Int.not_le] at hp
    have hp35 := hp
    refine lv_if_eq (tgt := 18) hx hb dX11_pairs_4 (by decide) (fun _ => ?_) (fun c => absurd c (by decide))
    refine lv_iconst (v := (-1)) hx hb dX11_pairs_18 (by decide) ?_
    have hpost : True := trivial
    rw [hQ]
    exact W.iret (v := (-1)) hx hb hr (fun t ht hW => ⟨⟨(-1), (), rfl, hpost, by rw [ht]; exact hI, hN.warm hW, va_K.moved hW.alike hK⟩, hS.F ht⟩) hS.2.2 dX11_pairs_19
