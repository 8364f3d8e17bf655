theorem wn_83 : (Cond.fieldLinkNest RX11 (194 : Nat) "NineRiver$State" "lawCount" "I" "NineRiver") ∈ lw_tbl := List.mem_append_right _ (List.mem_of_getElem? (i := 83) (by decide +kernel))
theorem wn_85 : (Cond.fieldLinkNest RX11 (208 : Nat) "NineRiver$State" "inForce" "I" "NineRiver") ∈ lw_tbl := List.mem_append_right _ (List.mem_of_getElem? (i := 85) (by decide +kernel))
theorem wn_88 : (Cond.fieldLinkNest RX11 (179 : Nat) "NineRiver$State" "natural" "I" "NineRiver") ∈ lw_tbl := List.mem_append_right _ (List.mem_of_getElem? (i := 88) (by decide +kernel))
theorem wn_92 : (Cond.fieldLinkNest RX11 (182 : Nat) "NineRiver$State" "year" "I" "NineRiver") ∈ lw_tbl := List.mem_append_right _ (List.mem_of_getElem? (i := 92) (by decide +kernel))
theorem wp_0 : Cond.selects RX11 yX11_refuse yX11_refuse ∈ TB := tv 0 (by decide +kernel) (by decide +kernel)
theorem wp_1 : Cond.selects RX11 yX11_turnRiver yX11_turnRiver ∈ TB := tv 1 (by decide +kernel) (by decide +kernel)
theorem wp_2 : Cond.selects RX11 yX11_turnLists yX11_turnLists ∈ TB := tv 2 (by decide +kernel) (by decide +kernel)
theorem wp_3 : Cond.selects RX11 yX11_accept yX11_accept ∈ TB := tv 3 (by decide +kernel) (by decide +kernel)
theorem wp_8 : Cond.selects RX11 yX11_write yX11_write ∈ TB := tv 8 (by decide +kernel) (by decide +kernel)
theorem wd_10 : (Cond.initialized RX5) ∈ TB := tw 10 (by decide +kernel) (by decide +kernel)
theorem wd_12 : (Cond.initialized RX10) ∈ TB := tw 12 (by decide +kernel) (by decide +kernel)
theorem wd_178 : (Cond.fieldLink RX0 (9 : Nat) "NineRiver$Asker" "words" "[I") ∈ TB := tw 178 (by decide +kernel) (by decide +kernel)
theorem wd_195 : (Cond.fieldLink RX7 (31 : Nat) "NineRiver$Stream" "isSpoilt" "Z") ∈ TB := tw 195 (by decide +kernel) (by decide +kernel)
theorem wd_246 : (Cond.fieldLink RX1 (34 : Nat) "NineRiver$Dyes" "isSpoilt" "Z") ∈ TB := tw 246 (by decide +kernel) (by decide +kernel)
theorem wd_280 : (Cond.fieldLink RX5 (19 : Nat) "NineRiver$Sleuth" "looked" "I") ∈ TB := tw 280 (by decide +kernel) (by decide +kernel)
theorem wd_331 : (Cond.fieldLink RX10 (18 : Nat) "NineRiver$Tuner" "tunedPump" "I") ∈ TB := tw 331 (by decide +kernel) (by decide +kernel)
theorem wd_345 : (Cond.fieldLink RX11 (12 : Nat) "NineRiver" "state" "LNineRiver$State;") ∈ TB := tw 345 (by decide +kernel) (by decide +kernel)
theorem wd_347 : (Cond.fieldLink RX11 (20 : Nat) "NineRiver" "tape" "[I") ∈ TB := tw 347 (by decide +kernel) (by decide +kernel)
theorem wd_348 : (Cond.fieldLink RX11 (24 : Nat) "NineRiver" "refusals" "[I") ∈ TB := tw 348 (by decide +kernel) (by decide +kernel)
theorem wd_351 : (Cond.fieldLink RX11 (42 : Nat) "NineRiver" "stream" "LNineRiver$Stream;") ∈ TB := tw 351 (by decide +kernel) (by decide +kernel)
theorem wd_353 : (Cond.fieldLink RX11 (60 : Nat) "NineRiver" "dyes" "LNineRiver$Dyes;") ∈ TB := tw 353 (by decide +kernel) (by decide +kernel)
theorem wd_354 : (Cond.fieldLink RX11 (69 : Nat) "NineRiver" "sleuth" "LNineRiver$Sleuth;") ∈ TB := tw 354 (by decide +kernel) (by decide +kernel)
theorem wd_356 : (Cond.fieldLink RX11 (85 : Nat) "NineRiver" "tuner" "LNineRiver$Tuner;") ∈ TB := tw 356 (by decide +kernel) (by decide +kernel)
theorem wd_357 : (Cond.fieldLink RX11 (89 : Nat) "NineRiver" "tapeSize" "I") ∈ TB := tw 357 (by decide +kernel) (by decide +kernel)
theorem wd_358 : (Cond.fieldLink RX11 (93 : Nat) "NineRiver" "faultAt" "I") ∈ TB := tw 358 (by decide +kernel) (by decide +kernel)
theorem wd_359 : (Cond.fieldLink RX11 (96 : Nat) "NineRiver" "foamed" "I") ∈ TB := tw 359 (by decide +kernel) (by decide +kernel)
theorem wd_360 : (Cond.fieldLink RX11 (99 : Nat) "NineRiver" "refusedBy" "I") ∈ TB := tw 360 (by decide +kernel) (by decide +kernel)
theorem wd_404 : (Cond.methodLink RX11 (110 : Nat) yX11_isClock) ∈ TB := tw 404 (by decide +kernel) (by decide +kernel)
theorem wd_405 : (Jvm.Cond.static yX11_isClock) ∈ TB := tw 405 (by decide +kernel) (by decide +kernel)
theorem wd_406 : (Cond.code yX11_isClock cX11_isClock 1 (Option.some Jvm.ClassFile.FieldType.boolean)) ∈ TB := tw 406 (by decide +kernel) (by decide +kernel)
theorem wd_407 : (Cond.methodLink RX11 (113 : Nat) yX11_refuse) ∈ TB := tw 407 (by decide +kernel) (by decide +kernel)
theorem wd_409 : (Jvm.Cond.instanceMethod yX11_refuse) ∈ TB := tw 409 (by decide +kernel) (by decide +kernel)
theorem wd_410 : (Cond.code yX11_refuse cX11_refuse 3 (Option.some Jvm.ClassFile.FieldType.int)) ∈ TB := tw 410 (by decide +kernel) (by decide +kernel)
theorem wd_411 : (Cond.methodLink RX11 (117 : Nat) yX11_isPump) ∈ TB := tw 411 (by decide +kernel) (by decide +kernel)
theorem wd_414 : (Cond.methodLink RX11 (120 : Nat) yX6_tellPump) ∈ TB := tw 414 (by decide +kernel) (by decide +kernel)
theorem wd_415 : (Jvm.Cond.instanceMethod yX6_tellPump) ∈ TB := tw 415 (by decide +kernel) (by decide +kernel)
theorem wd_416 : (Cond.selects RX6 yX6_tellPump yX6_tellPump) ∈ TB := tw 416 (by decide +kernel) (by decide +kernel)
theorem wd_417 : (Cond.code yX6_tellPump cX6_tellPump 8 (Option.none : Option Jvm.ClassFile.FieldType)) ∈ TB := tw 417 (by decide +kernel) (by decide +kernel)
theorem wd_423 : (Cond.methodLink RX11 (124 : Nat) yX11_turnRiver) ∈ TB := tw 423 (by decide +kernel) (by decide +kernel)
theorem wd_425 : (Jvm.Cond.instanceMethod yX11_turnRiver) ∈ TB := tw 425 (by decide +kernel) (by decide +kernel)
theorem wd_426 : (Cond.code yX11_turnRiver cX11_turnRiver 1 (Option.none : Option Jvm.ClassFile.FieldType)) ∈ TB := tw 426 (by decide +kernel) (by decide +kernel)
theorem wd_427 : (Cond.methodLink RX11 (348 : Nat) yX7_spoil) ∈ TB := tw 427 (by decide +kernel) (by decide +kernel)
theorem wd_428 : (Jvm.Cond.instanceMethod yX7_spoil) ∈ TB := tw 428 (by decide +kernel) (by decide +kernel)
theorem wd_429 : (Cond.selects RX7 yX7_spoil yX7_spoil) ∈ TB := tw 429 (by decide +kernel) (by decide +kernel)
theorem wd_430 : (Cond.code yX7_spoil cX7_spoil 1 (Option.none : Option Jvm.ClassFile.FieldType)) ∈ TB := tw 430 (by decide +kernel) (by decide +kernel)
theorem wd_431 : (Cond.methodLink RX11 (191 : Nat) yX11_turnLists) ∈ TB := tw 431 (by decide +kernel) (by decide +kernel)
theorem wd_433 : (Jvm.Cond.instanceMethod yX11_turnLists) ∈ TB := tw 433 (by decide +kernel) (by decide +kernel)
theorem wd_434 : (Cond.code yX11_turnLists cX11_turnLists 1 (Option.none : Option Jvm.ClassFile.FieldType)) ∈ TB := tw 434 (by decide +kernel) (by decide +kernel)
theorem wd_435 : (Cond.methodLink RX11 (351 : Nat) yX1_spoil) ∈ TB := tw 435 (by decide +kernel) (by decide +kernel)
theorem wd_436 : (Jvm.Cond.instanceMethod yX1_spoil) ∈ TB := tw 436 (by decide +kernel) (by decide +kernel)
theorem wd_437 : (Cond.selects RX1 yX1_spoil yX1_spoil) ∈ TB := tw 437 (by decide +kernel) (by decide +kernel)
theorem wd_438 : (Cond.code yX1_spoil cX1_spoil 1 (Option.none : Option Jvm.ClassFile.FieldType)) ∈ TB := tw 438 (by decide +kernel) (by decide +kernel)
theorem wd_439 : (Cond.methodLink RX11 (352 : Nat) yX5_spoil) ∈ TB := tw 439 (by decide +kernel) (by decide +kernel)
theorem wd_440 : (Jvm.Cond.instanceMethod yX5_spoil) ∈ TB := tw 440 (by decide +kernel) (by decide +kernel)
theorem wd_441 : (Cond.selects RX5 yX5_spoil yX5_spoil) ∈ TB := tw 441 (by decide +kernel) (by decide +kernel)
theorem wd_442 : (Cond.code yX5_spoil cX5_spoil 1 (Option.none : Option Jvm.ClassFile.FieldType)) ∈ TB := tw 442 (by decide +kernel) (by decide +kernel)
theorem wd_443 : (Cond.methodLink RX11 (353 : Nat) yX10_spoil) ∈ TB := tw 443 (by decide +kernel) (by decide +kernel)
theorem wd_444 : (Jvm.Cond.instanceMethod yX10_spoil) ∈ TB := tw 444 (by decide +kernel) (by decide +kernel)
theorem wd_445 : (Cond.selects RX10 yX10_spoil yX10_spoil) ∈ TB := tw 445 (by decide +kernel) (by decide +kernel)
theorem wd_446 : (Cond.code yX10_spoil cX10_spoil 1 (Option.none : Option Jvm.ClassFile.FieldType)) ∈ TB := tw 446 (by decide +kernel) (by decide +kernel)
theorem wd_447 : (Cond.methodLink RX11 (127 : Nat) yX11_accept) ∈ TB := tw 447 (by decide +kernel) (by decide +kernel)
theorem wd_449 : (Jvm.Cond.instanceMethod yX11_accept) ∈ TB := tw 449 (by decide +kernel) (by decide +kernel)
theorem wd_450 : (Cond.code yX11_accept cX11_accept 2 (Option.some Jvm.ClassFile.FieldType.int)) ∈ TB := tw 450 (by decide +kernel) (by decide +kernel)
theorem wd_455 : (Cond.methodLink RX11 (130 : Nat) yX6_pumpPart) ∈ TB := tw 455 (by decide +kernel) (by decide +kernel)
theorem wd_463 : (Cond.methodLink RX11 (134 : Nat) yX11_isSpan) ∈ TB := tw 463 (by decide +kernel) (by decide +kernel)
theorem wd_464 : (Jvm.Cond.static yX11_isSpan) ∈ TB := tw 464 (by decide +kernel) (by decide +kernel)
theorem wd_465 : (Cond.code yX11_isSpan cX11_isSpan 2 (Option.some Jvm.ClassFile.FieldType.boolean)) ∈ TB := tw 465 (by decide +kernel) (by decide +kernel)
theorem wd_469 : (Cond.methodLink RX11 (138 : Nat) yX11_isFlag) ∈ TB := tw 469 (by decide +kernel) (by decide +kernel)
theorem wd_470 : (Jvm.Cond.static yX11_isFlag) ∈ TB := tw 470 (by decide +kernel) (by decide +kernel)
theorem wd_471 : (Cond.code yX11_isFlag cX11_isFlag 1 (Option.some Jvm.ClassFile.FieldType.boolean)) ∈ TB := tw 471 (by decide +kernel) (by decide +kernel)
theorem wd_472 : (Cond.methodLink RX11 (141 : Nat) yX6_tellStrikes) ∈ TB := tw 472 (by decide +kernel) (by decide +kernel)
theorem wd_473 : (Jvm.Cond.instanceMethod yX6_tellStrikes) ∈ TB := tw 473 (by decide +kernel) (by decide +kernel)
theorem wd_474 : (Cond.selects RX6 yX6_tellStrikes yX6_tellStrikes) ∈ TB := tw 474 (by decide +kernel) (by decide +kernel)
theorem wd_475 : (Cond.code yX6_tellStrikes cX6_tellStrikes 6 (Option.some Jvm.ClassFile.FieldType.int)) ∈ TB := tw 475 (by decide +kernel) (by decide +kernel)
theorem wd_6 : (Cond.initialized RX7) ∈ TB := tw 6 (by decide +kernel) (by decide +kernel)
theorem wd_601 : (Cond.methodLink RX11 (185 : Nat) yX11_write) ∈ TB := tw 601 (by decide +kernel) (by decide +kernel)
theorem wd_603 : (Jvm.Cond.instanceMethod yX11_write) ∈ TB := tw 603 (by decide +kernel) (by decide +kernel)
theorem wd_604 : (Cond.code yX11_write cX11_write 3 (Option.none : Option Jvm.ClassFile.FieldType)) ∈ TB := tw 604 (by decide +kernel) (by decide +kernel)
theorem wd_9 : (Cond.initialized RX1) ∈ TB := tw 9 (by decide +kernel) (by decide +kernel)
theorem dX0_going_0 : decode cX0_going 0 = .ok (.aload_n 0, 1) := by decide +kernel
theorem dX0_going_1 : decode cX0_going 1 = .ok (.getfield 9, 3) := by decide +kernel
theorem dX0_going_4 : decode cX0_going 4 = .ok (.bipush 7, 2) := by decide +kernel
theorem dX0_going_6 : decode cX0_going 6 = .ok (.iload_n 1, 1) := by decide +kernel
theorem dX0_going_7 : decode cX0_going 7 = .ok (.iastore, 1) := by decide +kernel
theorem dX0_going_8 : decode cX0_going 8 = .ok (.return_, 1) := by decide +kernel
set_option maxHeartbeats 4000000 in
set_option maxRecDepth 100000 in
theorem c_X0_going (l : Launch) (E : Nat → ClassId) (D : va_G) (G : th_G) (h0 : Nat) (hG0 : G h0 = some (8, 0)) (x1 : Int32) : Met l yX0_going (tb (.code yX0_going cX0_going 2 none)) (rm 0) (va_Pc [.ref h0, .int x1] (th_P E D G)) (QV E D G) 0 0 (th_A G) := by
  refine Met.ofW (cc := cX0_going) (maxL := 2) (ret := none) (by decide) rfl ?_
  intro p e s m args below meth c s₁ B hml hv
  obtain ⟨hav, hI, hN, hK⟩ := hv
  have hx := B.exec
  have hb := B.bytes
  have hr := B.returns
  have hts := atoms_spec (ws := tb (.code yX0_going cX0_going 2 none)) B.pre
  have hown : s.vm.findClass RX0 = some m.cls := findClass_of_methodNamed B.named
  have hlocks := B.notSynchronized
  have hS : va_S (th_A G) s.heap s.heap [] := va_S.rf
  have hl := lv_entry ([.ref h0, .int x1]) (n := 2) (Nat.le_of_ble_eq_true rfl)
  rw [show entryFrame m args 2 = entryFrame m ([.ref h0, .int x1] : List Value).toArray 2 from by rw [hav], lg_entry_eq]
  generalize (lg_sl ([.ref h0, .int x1]) ++ List.replicate (2 - (lg_sl ([.ref h0, .int x1])).length) Slot.unset).toArray = ls at hl ⊢
  have hl : lv_has ls 2 [(0, .ref h0), (1, .int x1)] := hl
  generalize hR : (headSpec (tb (.code yX0_going cX0_going 2 none)) (rm 0)).room = R
  have hR := hR.symm
  generalize hQ : MQ below (QV E D G) args s 0 0 (th_A G) = QF
  have hQ := hQ.symm
  refine lv_aload_n hx hb dX0_going_0 rfl (lv_at hl 0 rfl) ?_
  obtain ⟨a1, a3, w5, hO, hq2, hq4⟩ := op_8 hI hG0 List.not_mem_nil
  have hI := th_I.weak (a := h0) hI
  refine th_get hx hb hts inT0 hown hK hO rfl 0 (by decide) (hts _ (tb_c wd_178)) rfl rfl dX0_going_1 ?_
  refine lv_bipush (v := 7) hx hb dX0_going_4 (by decide) ?_
  refine lv_iload_n hx hb dX0_going_6 rfl (lv_at hl 1 rfl) ?_
  obtain ⟨_, hA6⟩ := op_0 hI hq2 (th_ne hG0 hq2 (show (8 : Nat) ≠ 0 by decide))
  refine th_iast hx hb hK hA6 0 rfl hS ⟨_, hq2⟩ (iv_in (X := (7)) (by decide) (by omega) (by omega)) dX0_going_7 (fun H locs hA6 oq hS => ?_)
  have hI := th_I.put hI hq2 hA6 ok_0 oq
  have hO := hO.kept (oq _ (fun z => th_ne hG0 hq2 (show (8 : Nat) ≠ 0 by decide) (List.mem_singleton.mpr z.symm)))
  have hI := th_I.close hI hG0 hO (ok_8 hq2 hq4)
  rw [hQ]
  exact W.vret hx hb hr (fun t ht hW => ⟨⟨(), rfl, trivial, by rw [ht]; exact hI, hN.warm hW, va_K.moved hW.alike hK⟩, hS.F ht⟩) hS.2.2 dX0_going_8
theorem dX7_spoil_0 : decode cX7_spoil 0 = .ok (.aload_n 0, 1) := by decide +kernel
theorem dX7_spoil_1 : decode cX7_spoil 1 = .ok (.iconst 1, 1) := by decide +kernel
theorem dX7_spoil_2 : decode cX7_spoil 2 = .ok (.putfield 31, 3) := by decide +kernel
theorem dX7_spoil_5 : decode cX7_spoil 5 = .ok (.return_, 1) := by decide +kernel
set_option maxHeartbeats 4000000 in
set_option maxRecDepth 100000 in
theorem c_X7_spoil (l : Launch) (E : Nat → ClassId) (D : va_G) (G : th_G) (h0 : Nat) (hG0 : G h0 = some (9, 0)) : Met l yX7_spoil (tb (.code yX7_spoil cX7_spoil 1 none)) (rm 0) (va_Pc [.ref h0] (th_P E D G)) (QV E D G) 0 0 (th_A G) := by
  refine Met.ofW (cc := cX7_spoil) (maxL := 1) (ret := none) (by decide) rfl ?_
  intro p e s m args below meth c s₁ B hml hv
  obtain ⟨hav, hI, hN, hK⟩ := hv
  have hx := B.exec
  have hb := B.bytes
  have hr := B.returns
  have hts := atoms_spec (ws := tb (.code yX7_spoil cX7_spoil 1 none)) B.pre
  have hown : s.vm.findClass RX7 = some m.cls := findClass_of_methodNamed B.named
  have hlocks := B.notSynchronized
  have hS : va_S (th_A G) s.heap s.heap [] := va_S.rf
  have hl := lv_entry ([.ref h0]) (n := 1) (Nat.le_of_ble_eq_true rfl)
  rw [show entryFrame m args 1 = entryFrame m ([.ref h0] : List Value).toArray 1 from by rw [hav], lg_entry_eq]
  generalize (lg_sl ([.ref h0]) ++ List.replicate (1 - (lg_sl ([.ref h0])).length) Slot.unset).toArray = ls at hl ⊢
  have hl : lv_has ls 1 [(0, .ref h0)] := hl
  generalize hR : (headSpec (tb (.code yX7_spoil cX7_spoil 1 none)) (rm 0)).room = R
  have hR := hR.symm
  generalize hQ : MQ below (QV E D G) args s 0 0 (th_A G) = QF
  have hQ := hQ.symm
  refine lv_aload_n hx hb dX7_spoil_0 rfl (lv_at hl 0 rfl) ?_
  refine lv_iconst (v := 1) hx hb dX7_spoil_1 (by decide) ?_
  obtain ⟨a1, a3, a5, a7, a9, a11, w13, hO, hq2, hq4, hq6, hq8, hq10, hq12⟩ := op_9 hI hG0 List.not_mem_nil
  have hI := th_I.weak (a := h0) hI
  refine th_put (ty := .boolean) hx hb hts inT7 tyX7 tyX7_ok nmX7 hown hK hO hS ⟨_, hG0⟩ rfl 6 (by decide) (hts _ (tb_c wd_195)) rfl rfl (by decide +kernel) (by decide) rfl (Nat.le_of_ble_eq_true rfl) dX7_spoil_2 (fun H locs hO oq hS => ?_)
  have hI := th_I.moved hI oq
  have hO : va_at D vwCl (h0, .inr (7, [.ref a1, .ref a3, .ref a5, .ref a7, .ref a9, .ref a11, .int 1])) H := hO
  have hI := th_I.close hI hG0 hO (ok_9 hq2 hq4 hq6 hq8 hq10 hq12)
  rw [hQ]
  exact W.vret hx hb hr (fun t ht hW => ⟨⟨(), rfl, trivial, by rw [ht]; exact hI, hN.warm hW, va_K.moved hW.alike hK⟩, hS.F ht⟩) hS.2.2 dX7_spoil_5
theorem dX1_spoil_0 : decode cX1_spoil 0 = .ok (.aload_n 0, 1) := by decide +kernel
theorem dX1_spoil_1 : decode cX1_spoil 1 = .ok (.iconst 1, 1) := by decide +kernel
theorem dX1_spoil_2 : decode cX1_spoil 2 = .ok (.putfield 34, 3) := by decide +kernel
theorem dX1_spoil_5 : decode cX1_spoil 5 = .ok (.return_, 1) := by decide +kernel
set_option maxHeartbeats 4000000 in
set_option maxRecDepth 100000 in
theorem c_X1_spoil (l : Launch) (E : Nat → ClassId) (D : va_G) (G : th_G) (h0 : Nat) (hG0 : G h0 = some (11, 0)) : Met l yX1_spoil (tb (.code yX1_spoil cX1_spoil 1 none)) (rm 0) (va_Pc [.ref h0] (th_P E D G)) (QV E D G) 0 0 (th_A G) := by
  refine Met.ofW (cc := cX1_spoil) (maxL := 1) (ret := none) (by decide) rfl ?_
  intro p e s m args below meth c s₁ B hml hv
  obtain ⟨hav, hI, hN, hK⟩ := hv
  have hx := B.exec
  have hb := B.bytes
  have hr := B.returns
  have hts := atoms_spec (ws := tb (.code yX1_spoil cX1_spoil 1 none)) B.pre
  have hown : s.vm.findClass RX1 = some m.cls := findClass_of_methodNamed B.named
  have hlocks := B.notSynchronized
  have hS : va_S (th_A G) s.heap s.heap [] := va_S.rf
  have hl := lv_entry ([.ref h0]) (n := 1) (Nat.le_of_ble_eq_true rfl)
  rw [show entryFrame m args 1 = entryFrame m ([.ref h0] : List Value).toArray 1 from by rw [hav], lg_entry_eq]
  generalize (lg_sl ([.ref h0]) ++ List.replicate (1 - (lg_sl ([.ref h0])).length) Slot.unset).toArray = ls at hl ⊢
  have hl : lv_has ls 1 [(0, .ref h0)] := hl
  generalize hR : (headSpec (tb (.code yX1_spoil cX1_spoil 1 none)) (rm 0)).room = R
  have hR := hR.symm
  generalize hQ : MQ below (QV E D G) args s 0 0 (th_A G) = QF
  have hQ := hQ.symm
  refine lv_aload_n hx hb dX1_spoil_0 rfl (lv_at hl 0 rfl) ?_
  refine lv_iconst (v := 1) hx hb dX1_spoil_1 (by decide) ?_
  obtain ⟨a1, a3, a5, a7, a9, a11, a13, a15, w17, w18, w19, hO, hq2, hq4, hq6, hq8, hq10, hq12, hq14, hq16⟩ := op_11 hI hG0 List.not_mem_nil
  have hI := th_I.weak (a := h0) hI
  refine th_put (ty := .boolean) hx hb hts inT1 tyX1 tyX1_ok nmX1 hown hK hO hS ⟨_, hG0⟩ rfl 10 (by decide) (hts _ (tb_c wd_246)) rfl rfl (by decide +kernel) (by decide) rfl (Nat.le_of_ble_eq_true rfl) dX1_spoil_2 (fun H locs hO oq hS => ?_)
  have hI := th_I.moved hI oq
  have hO : va_at D vwCl (h0, .inr (1, [.ref a1, .ref a3, .ref a5, .ref a7, .ref a9, .ref a11, .ref a13, .ref a15, .int w17, .int w18, .int 1])) H := hO
  have hI := th_I.close hI hG0 hO (ok_11 hq2 hq4 hq6 hq8 hq10 hq12 hq14 hq16)
  rw [hQ]
  exact W.vret hx hb hr (fun t ht hW => ⟨⟨(), rfl, trivial, by rw [ht]; exact hI, hN.warm hW, va_K.moved hW.alike hK⟩, hS.F ht⟩) hS.2.2 dX1_spoil_5
theorem dX5_spoil_0 : decode cX5_spoil 0 = .ok (.aload_n 0, 1) := by decide +kernel
theorem dX5_spoil_1 : decode cX5_spoil 1 = .ok (.iconst (-1), 1) := by decide +kernel
theorem dX5_spoil_2 : decode cX5_spoil 2 = .ok (.putfield 19, 3) := by decide +kernel
theorem dX5_spoil_5 : decode cX5_spoil 5 = .ok (.return_, 1) := by decide +kernel
set_option maxHeartbeats 4000000 in
set_option maxRecDepth 100000 in
theorem c_X5_spoil (l : Launch) (E : Nat → ClassId) (D : va_G) (G : th_G) (h0 : Nat) (hG0 : G h0 = some (12, 0)) : Met l yX5_spoil (tb (.code yX5_spoil cX5_spoil 1 none)) (rm 0) (va_Pc [.ref h0] (th_P E D G)) (QV E D G) 0 0 (th_A G) := by
  refine Met.ofW (cc := cX5_spoil) (maxL := 1) (ret := none) (by decide) rfl ?_
  intro p e s m args below meth c s₁ B hml hv
  obtain ⟨hav, hI, hN, hK⟩ := hv
  have hx := B.exec
  have hb := B.bytes
  have hr := B.returns
  have hts := atoms_spec (ws := tb (.code yX5_spoil cX5_spoil 1 none)) B.pre
  have hown : s.vm.findClass RX5 = some m.cls := findClass_of_methodNamed B.named
  have hlocks := B.notSynchronized
  have hS : va_S (th_A G) s.heap s.heap [] := va_S.rf
  have hl := lv_entry ([.ref h0]) (n := 1) (Nat.le_of_ble_eq_true rfl)
  rw [show entryFrame m args 1 = entryFrame m ([.ref h0] : List Value).toArray 1 from by rw [hav], lg_entry_eq]
  generalize (lg_sl ([.ref h0]) ++ List.replicate (1 - (lg_sl ([.ref h0])).length) Slot.unset).toArray = ls at hl ⊢
  have hl : lv_has ls 1 [(0, .ref h0)] := hl
  generalize hR : (headSpec (tb (.code yX5_spoil cX5_spoil 1 none)) (rm 0)).room = R
  have hR := hR.symm
  generalize hQ : MQ below (QV E D G) args s 0 0 (th_A G) = QF
  have hQ := hQ.symm
  refine lv_aload_n hx hb dX5_spoil_0 rfl (lv_at hl 0 rfl) ?_
  refine lv_iconst (v := (-1)) hx hb dX5_spoil_1 (by decide) ?_
  obtain ⟨a1, a3, a5, a7, w9, w10, hO, hq2, hq4, hq6, hq8⟩ := op_12 hI hG0 List.not_mem_nil
  have hI := th_I.weak (a := h0) hI
  refine th_put (ty := .int) hx hb hts inT5 tyX5 tyX5_ok nmX5 hown hK hO hS ⟨_, hG0⟩ rfl 4 (by decide) (hts _ (tb_c wd_280)) rfl rfl (by decide +kernel) rfl rfl (Nat.le_of_ble_eq_true rfl) dX5_spoil_2 (fun H locs hO oq hS => ?_)
  have hI := th_I.moved hI oq
  have hO : va_at D vwCl (h0, .inr (5, [.ref a1, .ref a3, .ref a5, .ref a7, .int (-1), .int w10])) H := hO
  have hI := th_I.close hI hG0 hO (ok_12 hq2 hq4 hq6 hq8)
  rw [hQ]
  exact W.vret hx hb hr (fun t ht hW => ⟨⟨(), rfl, trivial, by rw [ht]; exact hI, hN.warm hW, va_K.moved hW.alike hK⟩, hS.F ht⟩) hS.2.2 dX5_spoil_5
theorem dX10_spoil_0 : decode cX10_spoil 0 = .ok (.aload_n 0, 1) := by decide +kernel
theorem dX10_spoil_1 : decode cX10_spoil 1 = .ok (.iconst (-1), 1) := by decide +kernel
theorem dX10_spoil_2 : decode cX10_spoil 2 = .ok (.putfield 18, 3) := by decide +kernel
theorem dX10_spoil_5 : decode cX10_spoil 5 = .ok (.return_, 1) := by decide +kernel
set_option maxHeartbeats 4000000 in
set_option maxRecDepth 100000 in
theorem c_X10_spoil (l : Launch) (E : Nat → ClassId) (D : va_G) (G : th_G) (h0 : Nat) (hG0 : G h0 = some (14, 0)) : Met l yX10_spoil (tb (.code yX10_spoil cX10_spoil 1 none)) (rm 0) (va_Pc [.ref h0] (th_P E D G)) (QV E D G) 0 0 (th_A G) := by
  refine Met.ofW (cc := cX10_spoil) (maxL := 1) (ret := none) (by decide) rfl ?_
  intro p e s m args below meth c s₁ B hml hv
  obtain ⟨hav, hI, hN, hK⟩ := hv
  have hx := B.exec
  have hb := B.bytes
  have hr := B.returns
  have hts := atoms_spec (ws := tb (.code yX10_spoil cX10_spoil 1 none)) B.pre
  have hown : s.vm.findClass RX10 = some m.cls := findClass_of_methodNamed B.named
  have hlocks := B.notSynchronized
  have hS : va_S (th_A G) s.heap s.heap [] := va_S.rf
  have hl := lv_entry ([.ref h0]) (n := 1) (Nat.le_of_ble_eq_true rfl)
  rw [show entryFrame m args 1 = entryFrame m ([.ref h0] : List Value).toArray 1 from by rw [hav], lg_entry_eq]
  generalize (lg_sl ([.ref h0]) ++ List.replicate (1 - (lg_sl ([.ref h0])).length) Slot.unset).toArray = ls at hl ⊢
  have hl : lv_has ls 1 [(0, .ref h0)] := hl
  generalize hR : (headSpec (tb (.code yX10_spoil cX10_spoil 1 none)) (rm 0)).room = R
  have hR := hR.symm
  generalize hQ : MQ below (QV E D G) args s 0 0 (th_A G) = QF
  have hQ := hQ.symm
  refine lv_aload_n hx hb dX10_spoil_0 rfl (lv_at hl 0 rfl) ?_
  refine lv_iconst (v := (-1)) hx hb dX10_spoil_1 (by decide) ?_
  obtain ⟨a1, a3, a5, a7, a9, w11, hO, hq2, hq4, hq6, hq8, hq10⟩ := op_14 hI hG0 List.not_mem_nil
  have hI := th_I.weak (a := h0) hI
  refine th_put (ty := .int) hx hb hts inT10 tyX10 tyX10_ok nmX10 hown hK hO hS ⟨_, hG0⟩ rfl 5 (by decide) (hts _ (tb_c wd_331)) rfl rfl (by decide +kernel) rfl rfl (Nat.le_of_ble_eq_true rfl) dX10_spoil_2 (fun H locs hO oq hS => ?_)
  have hI := th_I.moved hI oq
  have hO : va_at D vwCl (h0, .inr (10, [.ref a1, .ref a3, .ref a5, .ref a7, .ref a9, .int (-1)])) H := hO
  have hI := th_I.close hI hG0 hO (ok_14 hq2 hq4 hq6 hq8 hq10)
  rw [hQ]
  exact W.vret hx hb hr (fun t ht hW => ⟨⟨(), rfl, trivial, by rw [ht]; exact hI, hN.warm hW, va_K.moved hW.alike hK⟩, hS.F ht⟩) hS.2.2 dX10_spoil_5
theorem dX11_turnLists_0 : decode cX11_turnLists 0 = .ok (.aload_n 0, 1) := by decide +kernel
theorem dX11_turnLists_1 : decode cX11_turnLists 1 = .ok (.getfield 60, 3) := by decide +kernel
theorem dX11_turnLists_4 : decode cX11_turnLists 4 = .ok (.invokevirtual 351, 3) := by decide +kernel
theorem dX11_turnLists_7 : decode cX11_turnLists 7 = .ok (.aload_n 0, 1) := by decide +kernel
theorem dX11_turnLists_8 : decode cX11_turnLists 8 = .ok (.getfield 69, 3) := by decide +kernel
theorem dX11_turnLists_11 : decode cX11_turnLists 11 = .ok (.invokevirtual 352, 3) := by decide +kernel
theorem dX11_turnLists_14 : decode cX11_turnLists 14 = .ok (.aload_n 0, 1) := by decide +kernel
theorem dX11_turnLists_15 : decode cX11_turnLists 15 = .ok (.getfield 85, 3) := by decide +kernel
theorem dX11_turnLists_18 : decode cX11_turnLists 18 = .ok (.invokevirtual 353, 3) := by decide +kernel
theorem dX11_turnLists_21 : decode cX11_turnLists 21 = .ok (.return_, 1) := by decide +kernel
set_option maxHeartbeats 4000000 in
set_option maxRecDepth 100000 in
theorem c_X11_turnLists (l : Launch) (E : Nat → ClassId) (D : va_G) (G : th_G) (h0 n : Nat) (hG0 : G h0 = some (15, n)) : Met l yX11_turnLists (tb (.code yX11_turnLists cX11_turnLists 1 none)) (rm 1) (va_Pc [.ref h0] (th_P E D G)) (QV E D G) 0 0 (th_A G) := by
  refine Met.ofW (cc := cX11_turnLists) (maxL := 1) (ret := none) (by decide) rfl ?_
  intro p e s m args below meth c s₁ B hml hv
  obtain ⟨hav, hI, hN, hK⟩ := hv
  have hx := B.exec
  have hb := B.bytes
  have hr := B.returns
  have hts := atoms_spec (ws := tb (.code yX11_turnLists cX11_turnLists 1 none)) B.pre
  have hown : s.vm.findClass RX11 = some m.cls := findClass_of_methodNamed B.named
  have hlocks := B.notSynchronized
  have hS : va_S (th_A G) s.heap s.heap [] := va_S.rf
  have hl := lv_entry ([.ref h0]) (n := 1) (Nat.le_of_ble_eq_true rfl)
  rw [show entryFrame m args 1 = entryFrame m ([.ref h0] : List Value).toArray 1 from by rw [hav], lg_entry_eq]
  generalize (lg_sl ([.ref h0]) ++ List.replicate (1 - (lg_sl ([.ref h0])).length) Slot.unset).toArray = ls at hl ⊢
  have hl : lv_has ls 1 [(0, .ref h0)] := hl
  generalize hR : (headSpec (tb (.code yX11_turnLists cX11_turnLists 1 none)) (rm 1)).room = R
  have hR := hR.symm
  generalize hQ : MQ below (QV E D G) args s 0 0 (th_A G) = QF
  have hQ := hQ.symm
  refine lv_aload_n hx hb dX11_turnLists_0 rfl (lv_at hl 0 rfl) ?_
  obtain ⟨a1, a4, a6, a8, a10, a12, a14, a16, a18, a20, a22, w24, w25, w26, w27, hO, hq2, hq3, hq5, hq7, hq9, hq11, hq13, hq15, hq17, hq19, hq21, hq23⟩ := op_15 hI hG0 List.not_mem_nil
  have hI := th_I.weak (a := h0) hI
  have k28 : (nI (n % 401)).toInt = ((n % 401 : Nat) : Int) := nI_toInt (by omega)
  refine th_get hx hb hts inT11 hown hK hO rfl 8 (by decide) (hts _ (tb_c wd_353)) rfl rfl dX11_turnLists_1 ?_
  have hI := th_I.close hI hG0 hO (ok_15 hq2 hq3 hq5 hq7 hq9 hq11 hq13 hq15 hq17 hq19 hq21 hq23)
  refine th_cVv (As := []) (rest := []) (n := 0) (d := 0) ⟨hx, hb, hml, hown, hts⟩ (c_X1_spoil l E D G a16 hq17 ) wd_435 wd_436 wd_437 wd_9 wd_438 (by decide +kernel) ⟨by rw [hR]; exact Nat.le_of_ble_eq_true rfl, by rw [hR]; exact Nat.le_of_ble_eq_true rfl⟩ hI hN hK hS (rc_11 hI hq17 List.not_mem_nil) rfl rfl hl.1 rfl (Nat.le_of_ble_eq_true rfl) dX11_turnLists_4 ⟨Nat.zero_le _, Nat.zero_le _⟩ (fun H locs hI hS => ?_)
  refine lv_aload_n hx hb dX11_turnLists_7 rfl (lv_at hl 0 rfl) ?_
  obtain ⟨a30, a33, a35, a37, a39, a41, a43, a45, a47, a49, a51, w53, w54, w55, w56, hO, hq31, hq32, hq34, hq36, hq38, hq40, hq42, hq44, hq46, hq48, hq50, hq52⟩ := op_15 hI hG0 List.not_mem_nil
  have hI := th_I.weak (a := h0) hI
  have k57 : (nI (n % 401)).toInt = ((n % 401 : Nat) : Int) := nI_toInt (by omega)
  refine th_get hx hb hts inT11 hown hK hO rfl 9 (by decide) (hts _ (tb_c wd_354)) rfl rfl dX11_turnLists_8 ?_
  have hI := th_I.close hI hG0 hO (ok_15 hq31 hq32 hq34 hq36 hq38 hq40 hq42 hq44 hq46 hq48 hq50 hq52)
  refine th_cVv (As := []) (rest := []) (n := 0) (d := 0) ⟨hx, hb, hml, hown, hts⟩ (c_X5_spoil l E D G a47 hq48 ) wd_439 wd_440 wd_441 wd_10 wd_442 (by decide +kernel) ⟨by rw [hR]; exact Nat.le_of_ble_eq_true rfl, by rw [hR]; exact Nat.le_of_ble_eq_true rfl⟩ hI hN hK hS (rc_12 hI hq48 List.not_mem_nil) rfl rfl hl.1 rfl (Nat.le_of_ble_eq_true rfl) dX11_turnLists_11 ⟨Nat.zero_le _, Nat.zero_le _⟩ (fun H locs hI hS => ?_)
  refine lv_aload_n hx hb dX11_turnLists_14 rfl (lv_at hl 0 rfl) ?_
  obtain ⟨a59, a62, a64, a66, a68, a70, a72, a74, a76, a78, a80, w82, w83, w84, w85, hO, hq60, hq61, hq63, hq65, hq67, hq69, hq71, hq73, hq75, hq77, hq79, hq81⟩ := op_15 hI hG0 List.not_mem_nil
  have hI := th_I.weak (a := h0) hI
  have k86 : (nI (n % 401)).toInt = ((n % 401 : Nat) : Int) := nI_toInt (by omega)
  refine th_get hx hb hts inT11 hown hK hO rfl 11 (by decide) (hts _ (tb_c wd_356)) rfl rfl dX11_turnLists_15 ?_
  have hI := th_I.close hI hG0 hO (ok_15 hq60 hq61 hq63 hq65 hq67 hq69 hq71 hq73 hq75 hq77 hq79 hq81)
  refine th_cVv (As := []) (rest := []) (n := 0) (d := 0) ⟨hx, hb, hml, hown, hts⟩ (c_X10_spoil l E D G a80 hq81 ) wd_443 wd_444 wd_445 wd_12 wd_446 (by decide +kernel) ⟨by rw [hR]; exact Nat.le_of_ble_eq_true rfl, by rw [hR]; exact Nat.le_of_ble_eq_true rfl⟩ hI hN hK hS (rc_14 hI hq81 List.not_mem_nil) rfl rfl hl.1 rfl (Nat.le_of_ble_eq_true rfl) dX11_turnLists_18 ⟨Nat.zero_le _, Nat.zero_le _⟩ (fun H locs hI hS => ?_)
  rw [hQ]
  exact W.vret hx hb hr (fun t ht hW => ⟨⟨(), rfl, trivial, by rw [ht]; exact hI, hN.warm hW, va_K.moved hW.alike hK⟩, hS.F ht⟩) hS.2.2 dX11_turnLists_21
theorem dX11_turnRiver_0 : decode cX11_turnRiver 0 = .ok (.aload_n 0, 1) := by decide +kernel
theorem dX11_turnRiver_1 : decode cX11_turnRiver 1 = .ok (.getfield 42, 3) := by decide +kernel
theorem dX11_turnRiver_4 : decode cX11_turnRiver 4 = .ok (.invokevirtual 348, 3) := by decide +kernel
theorem dX11_turnRiver_7 : decode cX11_turnRiver 7 = .ok (.aload_n 0, 1) := by decide +kernel
theorem dX11_turnRiver_8 : decode cX11_turnRiver 8 = .ok (.invokevirtual 191, 3) := by decide +kernel
theorem dX11_turnRiver_11 : decode cX11_turnRiver 11 = .ok (.return_, 1) := by decide +kernel
set_option maxHeartbeats 4000000 in
set_option maxRecDepth 100000 in
theorem c_X11_turnRiver (l : Launch) (E : Nat → ClassId) (D : va_G) (G : th_G) (h0 n : Nat) (hG0 : G h0 = some (15, n)) : Met l yX11_turnRiver (tb (.code yX11_turnRiver cX11_turnRiver 1 none)) (rm 2) (va_Pc [.ref h0] (th_P E D G)) (QV E D G) 0 0 (th_A G) := by
  refine Met.ofW (cc := cX11_turnRiver) (maxL := 1) (ret := none) (by decide) rfl ?_
  intro p e s m args below meth c s₁ B hml hv
  obtain ⟨hav, hI, hN, hK⟩ := hv
  have hx := B.exec
  have hb := B.bytes
  have hr := B.returns
  have hts := atoms_spec (ws := tb (.code yX11_turnRiver cX11_turnRiver 1 none)) B.pre
  have hown : s.vm.findClass RX11 = some m.cls := findClass_of_methodNamed B.named
  have hlocks := B.notSynchronized
  have hS : va_S (th_A G) s.heap s.heap [] := va_S.rf
  have hl := lv_entry ([.ref h0]) (n := 1) (Nat.le_of_ble_eq_true rfl)
  rw [show entryFrame m args 1 = entryFrame m ([.ref h0] : List Value).toArray 1 from by rw [hav], lg_entry_eq]
  generalize (lg_sl ([.ref h0]) ++ List.replicate (1 - (lg_sl ([.ref h0])).length) Slot.unset).toArray = ls at hl ⊢
  have hl : lv_has ls 1 [(0, .ref h0)] := hl
  generalize hR : (headSpec (tb (.code yX11_turnRiver cX11_turnRiver 1 none)) (rm 2)).room = R
  have hR := hR.symm
  generalize hQ : MQ below (QV E D G) args s 0 0 (th_A G) = QF
  have hQ := hQ.symm
  refine lv_aload_n hx hb dX11_turnRiver_0 rfl (lv_at hl 0 rfl) ?_
  obtain ⟨a1, a4, a6, a8, a10, a12, a14, a16, a18, a20, a22, w24, w25, w26, w27, hO, hq2, hq3, hq5, hq7, hq9, hq11, hq13, hq15, hq17, hq19, hq21, hq23⟩ := op_15 hI hG0 List.not_mem_nil
  have hI := th_I.weak (a := h0) hI
  have k28 : (nI (n % 401)).toInt = ((n % 401 : Nat) : Int) := nI_toInt (by omega)
  refine th_get hx hb hts inT11 hown hK hO rfl 6 (by decide) (hts _ (tb_c wd_351)) rfl rfl dX11_turnRiver_1 ?_
  have hI := th_I.close hI hG0 hO (ok_15 hq2 hq3 hq5 hq7 hq9 hq11 hq13 hq15 hq17 hq19 hq21 hq23)
  refine th_cVv (As := []) (rest := []) (n := 0) (d := 0) ⟨hx, hb, hml, hown, hts⟩ (c_X7_spoil l E D G a12 hq13 ) wd_427 wd_428 wd_429 wd_6 wd_430 (by decide +kernel) ⟨by rw [hR]; exact Nat.le_of_ble_eq_true rfl, by rw [hR]; exact Nat.le_of_ble_eq_true rfl⟩ hI hN hK hS (rc_9 hI hq13 List.not_mem_nil) rfl rfl hl.1 rfl (Nat.le_of_ble_eq_true rfl) dX11_turnRiver_4 ⟨Nat.zero_le _, Nat.zero_le _⟩ (fun H locs hI hS => ?_)
  refine lv_aload_n hx hb dX11_turnRiver_7 rfl (lv_at hl 0 rfl) ?_
  refine th_cVv (As := []) (rest := []) (n := 0) (d := 1) ⟨hx, hb, hml, hown, hts⟩ (c_X11_turnLists l E D G h0 (n) hG0 ) wd_431 wd_433 wp_2 wd_1 wd_434 (by decide +kernel) ⟨by rw [hR]; exact Nat.le_of_ble_eq_true rfl, by rw [hR]; exact Nat.le_of_ble_eq_true rfl⟩ hI hN hK hS (rc_15 hI hG0 List.not_mem_nil) rfl rfl hl.1 rfl (Nat.le_of_ble_eq_true rfl) dX11_turnRiver_8 ⟨Nat.zero_le _, Nat.zero_le _⟩ (fun H locs hI hS => ?_)
  rw [hQ]
  exact W.vret hx hb hr (fun t ht hW => ⟨⟨(), rfl, trivial, by rw [ht]; exact hI, hN.warm hW, va_K.moved hW.alike hK⟩, hS.F ht⟩) hS.2.2 dX11_turnRiver_11
theorem dX11_accept_0 : decode cX11_accept 0 = .ok (.aload_n 0, 1) := by decide +kernel
theorem dX11_accept_1 : decode cX11_accept 1 = .ok (.iconst 0, 1) := by decide +kernel
theorem dX11_accept_2 : decode cX11_accept 2 = .ok (.putfield 99, 3) := by decide +kernel
theorem dX11_accept_5 : decode cX11_accept 5 = .ok (.iload_n 1, 1) := by decide +kernel
theorem dX11_accept_6 : decode cX11_accept 6 = .ok (.ireturn, 1) := by decide +kernel
set_option maxHeartbeats 4000000 in
set_option maxRecDepth 100000 in
theorem c_X11_accept (l : Launch) (E : Nat → ClassId) (D : va_G) (G : th_G) (h0 n : Nat) (hG0 : G h0 = some (15, n)) (x1 : Int32) : Met l yX11_accept (tb (.code yX11_accept cX11_accept 2 (some .int))) (rm 0) (va_Pc [.ref h0, .int x1] (th_P E D G)) (QI E D G (fun r => (r : Int32) = x1)) 0 0 (th_A G) := by
  refine Met.ofW (cc := cX11_accept) (maxL := 2) (ret := (some .int)) (by decide) rfl ?_
  intro p e s m args below meth c s₁ B hml hv
  obtain ⟨hav, hI, hN, hK⟩ := hv
  have hx := B.exec
  have hb := B.bytes
  have hr := B.returns
  have hts := atoms_spec (ws := tb (.code yX11_accept cX11_accept 2 (some .int))) B.pre
  have hown : s.vm.findClass RX11 = some m.cls := findClass_of_methodNamed B.named
  have hlocks := B.notSynchronized
  have hS : va_S (th_A G) s.heap s.heap [] := va_S.rf
  have hl := lv_entry ([.ref h0, .int x1]) (n := 2) (Nat.le_of_ble_eq_true rfl)
  rw [show entryFrame m args 2 = entryFrame m ([.ref h0, .int x1] : List Value).toArray 2 from by rw [hav], lg_entry_eq]
  generalize (lg_sl ([.ref h0, .int x1]) ++ List.replicate (2 - (lg_sl ([.ref h0, .int x1])).length) Slot.unset).toArray = ls at hl ⊢
  have hl : lv_has ls 2 [(0, .ref h0), (1, .int x1)] := hl
  generalize hR : (headSpec (tb (.code yX11_accept cX11_accept 2 (some .int))) (rm 0)).room = R
  have hR := hR.symm
  generalize hQ : MQ below (QI E D G (fun r => (r : Int32) = x1)) args s 0 0 (th_A G) = QF
  have hQ := hQ.symm
  refine lv_aload_n hx hb dX11_accept_0 rfl (lv_at hl 0 rfl) ?_
  refine lv_iconst (v := 0) hx hb dX11_accept_1 (by decide) ?_
  obtain ⟨a1, a4, a6, a8, a10, a12, a14, a16, a18, a20, a22, w24, w25, w26, w27, hO, hq2, hq3, hq5, hq7, hq9, hq11, hq13, hq15, hq17, hq19, hq21, hq23⟩ := op_15 hI hG0 List.not_mem_nil
  have hI := th_I.weak (a := h0) hI
  have k28 : (nI (n % 401)).toInt = ((n % 401 : Nat) : Int) := nI_toInt (by omega)
  refine th_put (ty := .int) hx hb hts inT11 tyX11 tyX11_ok nmX11 hown hK hO hS ⟨_, hG0⟩ rfl 15 (by decide) (hts _ (tb_c wd_360)) rfl rfl (by decide +kernel) rfl rfl (Nat.le_of_ble_eq_true rfl) dX11_accept_2 (fun H locs hO oq hS => ?_)
  have hI := th_I.moved hI oq
  have hO : va_at D vwCl (h0, .inr (11, [.ref a1, .ref (n / 401), .ref a4, .ref a6, .ref a8, .ref a10, .ref a12, .ref a14, .ref a16, .ref a18, .ref a20, .ref a22, .int (nI (n % 401)), .int w24, .int w25, .int 0, .int w27])) H := hO
  refine lv_iload_n hx hb dX11_accept_5 rfl (lv_at hl 1 rfl) ?_
  have hI := th_I.close hI hG0 hO (ok_15 hq2 hq3 hq5 hq7 hq9 hq11 hq13 hq15 hq17 hq19 hq21 hq23)
  have hpost : (x1 : Int32) = x1 := rfl
  rw [hQ]
  exact W.iret (v := x1) hx hb hr (fun t ht hW => ⟨⟨x1, (), rfl, hpost, by rw [ht]; exact hI, hN.warm hW, va_K.moved hW.alike hK⟩, hS.F ht⟩) hS.2.2 dX11_accept_6
theorem dX11_refuse_0 : decode cX11_refuse 0 = .ok (.aload_n 0, 1) := by decide +kernel
theorem dX11_refuse_1 : decode cX11_refuse 1 = .ok (.iload_n 1, 1) := by decide +kernel
theorem dX11_refuse_2 : decode cX11_refuse 2 = .ok (.putfield 99, 3) := by decide +kernel
theorem dX11_refuse_5 : decode cX11_refuse 5 = .ok (.iload_n 1, 1) := by decide +kernel
theorem dX11_refuse_6 : decode cX11_refuse 6 = .ok (.bipush (-3), 2) := by decide +kernel
theorem dX11_refuse_8 : decode cX11_refuse 8 = .ok (.if_icmp .lt 9, 3) := by decide +kernel
theorem dX11_refuse_11 : decode cX11_refuse 11 = .ok (.iconst (-1), 1) := by decide +kernel
theorem dX11_refuse_12 : decode cX11_refuse 12 = .ok (.iload_n 1, 1) := by decide +kernel
theorem dX11_refuse_13 : decode cX11_refuse 13 = .ok (.isub, 1) := by decide +kernel
theorem dX11_refuse_14 : decode cX11_refuse 14 = .ok (.goto 7, 3) := by decide +kernel
theorem dX11_refuse_17 : decode cX11_refuse 17 = .ok (.bipush (-2), 2) := by decide +kernel
theorem dX11_refuse_19 : decode cX11_refuse 19 = .ok (.iload_n 1, 1) := by decide +kernel
theorem dX11_refuse_20 : decode cX11_refuse 20 = .ok (.isub, 1) := by decide +kernel
theorem dX11_refuse_21 : decode cX11_refuse 21 = .ok (.istore_n 2, 1) := by decide +kernel
theorem dX11_refuse_22 : decode cX11_refuse 22 = .ok (.iload_n 2, 1) := by decide +kernel
theorem dX11_refuse_23 : decode cX11_refuse 23 = .ok (.ifCond .lt 22, 3) := by decide +kernel
theorem dX11_refuse_26 : decode cX11_refuse 26 = .ok (.iload_n 2, 1) := by decide +kernel
theorem dX11_refuse_27 : decode cX11_refuse 27 = .ok (.aload_n 0, 1) := by decide +kernel
theorem dX11_refuse_28 : decode cX11_refuse 28 = .ok (.getfield 24, 3) := by decide +kernel
theorem dX11_refuse_31 : decode cX11_refuse 31 = .ok (.arraylength, 1) := by decide +kernel
theorem dX11_refuse_32 : decode cX11_refuse 32 = .ok (.if_icmp .ge 13, 3) := by decide +kernel
theorem dX11_refuse_35 : decode cX11_refuse 35 = .ok (.aload_n 0, 1) := by decide +kernel
theorem dX11_refuse_36 : decode cX11_refuse 36 = .ok (.getfield 24, 3) := by decide +kernel
theorem dX11_refuse_39 : decode cX11_refuse 39 = .ok (.iload_n 2, 1) := by decide +kernel
theorem dX11_refuse_40 : decode cX11_refuse 40 = .ok (.dup2, 1) := by decide +kernel
theorem dX11_refuse_41 : decode cX11_refuse 41 = .ok (.iaload, 1) := by decide +kernel
theorem dX11_refuse_42 : decode cX11_refuse 42 = .ok (.iconst 1, 1) := by decide +kernel
theorem dX11_refuse_43 : decode cX11_refuse 43 = .ok (.iadd, 1) := by decide +kernel
theorem dX11_refuse_44 : decode cX11_refuse 44 = .ok (.iastore, 1) := by decide +kernel
theorem dX11_refuse_45 : decode cX11_refuse 45 = .ok (.iload_n 1, 1) := by decide +kernel
theorem dX11_refuse_46 : decode cX11_refuse 46 = .ok (.ireturn, 1) := by decide +kernel
set_option maxHeartbeats 4000000 in
set_option maxRecDepth 100000 in
theorem c_X11_refuse (l : Launch) (E : Nat → ClassId) (D : va_G) (G : th_G) (h0 n : Nat) (hG0 : G h0 = some (15, n)) (x1 : Int32) : Met l yX11_refuse (tb (.code yX11_refuse cX11_refuse 3 (some .int))) (rm 0) (va_Pc [.ref h0, .int x1] (th_P E D G)) (QI E D G (fun r => (r : Int32) = x1)) 0 0 (th_A G) := by
  refine Met.ofW (cc := cX11_refuse) (maxL := 3) (ret := (some .int)) (by decide) rfl ?_
  intro p e s m args below meth c s₁ B hml hv
  obtain ⟨hav, hI, hN, hK⟩ := hv
  have hx := B.exec
  have hb := B.bytes
  have hr := B.returns
  have hts := atoms_spec (ws := tb (.code yX11_refuse cX11_refuse 3 (some .int))) B.pre
  have hown : s.vm.findClass RX11 = some m.cls := findClass_of_methodNamed B.named
  have hlocks := B.notSynchronized
  have hS : va_S (th_A G) s.heap s.heap [] := va_S.rf
  have hl := lv_entry ([.ref h0, .int x1]) (n := 3) (Nat.le_of_ble_eq_true rfl)
  rw [show entryFrame m args 3 = entryFrame m ([.ref h0, .int x1] : List Value).toArray 3 from by rw [hav], lg_entry_eq]
  generalize (lg_sl ([.ref h0, .int x1]) ++ List.replicate (3 - (lg_sl ([.ref h0, .int x1])).length) Slot.unset).toArray = ls at hl ⊢
  have hl : lv_has ls 3 [(0, .ref h0), (1, .int x1)] := hl
  generalize hR : (headSpec (tb (.code yX11_refuse cX11_refuse 3 (some .int))) (rm 0)).room = R
  have hR := hR.symm
  generalize hQ : MQ below (QI E D G (fun r => (r : Int32) = x1)) args s 0 0 (th_A G) = QF
  have hQ := hQ.symm
  have J_21 : ∀ (H : Heap) (locs : List Loc) (ls : Array Slot) (v598 : Int32), lv_has ls 3 [(0, .ref h0), (1, .int x1)] → th_I (okC E) D G [] H → va_S (th_A G) s.heap H locs → W p l e R s m args below meth c H locs 0 0 QF (F0 m 21 ls [.int v598]) := by
    intro H locs ls v598 hl  hI hS
    refine lv_istore_n (lv' := [(2, .int v598), (0, .ref h0), (1, .int x1)]) hx hb dX11_refuse_21 rfl hl (by decide) rfl (fun ls hl => ?_)
    refine lv_iload_n hx hb dX11_refuse_22 rfl (lv_at hl 0 rfl) ?_
    have k599 := iv_lo v598
    have k600 := iv_hi v598
    refine lv_if_lt (tgt := 45) hx hb dX11_refuse_23 (by decide) (fun c601 => ?_) (fun c601 => ?_)
    · skip
      have k602 := iv_lt (X := v598.toInt) (Y := (0)) rfl (by decide) c601
      refine lv_iload_n hx hb dX11_refuse_45 rfl (lv_at hl 2 rfl) ?_
      have hpost : (x1 : Int32) = x1 := rfl
      rw [hQ]
      exact W.iret (v := x1) hx hb hr (fun t ht hW => ⟨⟨x1, (), rfl, hpost, by rw [ht]; exact hI, hN.warm hW, va_K.moved hW.alike hK⟩, hS.F ht⟩) hS.2.2 dX11_refuse_46
    · skip
      have k603 := iv_nlt (X := v598.toInt) (Y := (0)) rfl (by decide) c601
      refine lv_iload_n hx hb dX11_refuse_26 rfl (lv_at hl 0 rfl) ?_
      refine lv_aload_n hx hb dX11_refuse_27 rfl (lv_at hl 1 rfl) ?_
      obtain ⟨a604, a607, a609, a611, a613, a615, a617, a619, a621, a623, a625, w627, w628, w629, w630, hO, hq605, hq606, hq608, hq610, hq612, hq614, hq616, hq618, hq620, hq622, hq624, hq626⟩ := op_15 hI hG0 List.not_mem_nil
      have hI := th_I.weak (a := h0) hI
      have k631 : (nI (n % 401)).toInt = ((n % 401 : Nat) : Int) := nI_toInt (by omega)
      refine th_get hx hb hts inT11 hown hK hO rfl 3 (by decide) (hts _ (tb_c wd_348)) rfl rfl dX11_refuse_28 ?_
      obtain ⟨_, hA632⟩ := op_0 hI hq610 (th_ne hG0 hq610 (show (15 : Nat) ≠ 0 by decide))
      refine va_alen hx hb hK (th_one hA632) 0 0 rfl (v := 5) rfl (show Int32.ofNat 5 = (5 : Int32) from by decide) dX11_refuse_31 ?_
      refine lv_icmp_ge (tgt := 45) hx hb dX11_refuse_32 (by decide) (fun c633 => ?_) (fun c633 => ?_)
      · skip
        have k634 := iv_le (X := (5)) (Y := v598.toInt) (by decide) rfl c633
        refine lv_iload_n hx hb dX11_refuse_45 rfl (lv_at hl 2 rfl) ?_
        have hI := th_I.close hI hG0 hO (ok_15 hq605 hq606 hq608 hq610 hq612 hq614 hq616 hq618 hq620 hq622 hq624 hq626)
        have hpost : (x1 : Int32) = x1 := rfl
        rw [hQ]
        exact W.iret (v := x1) hx hb hr (fun t ht hW => ⟨⟨x1, (), rfl, hpost, by rw [ht]; exact hI, hN.warm hW, va_K.moved hW.alike hK⟩, hS.F ht⟩) hS.2.2 dX11_refuse_46
      · skip
        have k635 := iv_nle (X := (5)) (Y := v598.toInt) (by decide) rfl c633
        refine lv_aload_n hx hb dX11_refuse_35 rfl (lv_at hl 1 rfl) ?_
        refine th_get hx hb hts inT11 hown hK hO rfl 3 (by decide) (hts _ (tb_c wd_348)) rfl rfl dX11_refuse_36 ?_
        refine lv_iload_n hx hb dX11_refuse_39 rfl (lv_at hl 0 rfl) ?_
        refine lv_dup2_11 hx hb dX11_refuse_40 rfl rfl ?_
        obtain ⟨_, hA636⟩ := op_0 hI hq610 (th_ne hG0 hq610 (show (15 : Nat) ≠ 0 by decide))
        refine th_iald hx hb hK hA636 0 rfl (iv_in (X := v598.toInt) rfl (by omega) (by omega)) dX11_refuse_41 (fun v637 _ => ?_)
        refine lv_iconst (v := 1) hx hb dX11_refuse_42 (by decide) ?_
        refine lv_iadd hx hb dX11_refuse_43 ?_
        refine lv_topi (fun v638 e639 => ?_)
        try have tv638 : v638.toInt = v637.toInt + (1) := iv_add rfl (by decide) e639 (by omega) (by omega)
        obtain ⟨_, hA640⟩ := op_0 hI hq610 (th_ne hG0 hq610 (show (15 : Nat) ≠ 0 by decide))
        refine th_iast hx hb hK hA640 0 rfl hS ⟨_, hq610⟩ (iv_in (X := v598.toInt) rfl (by omega) (by omega)) dX11_refuse_44 (fun H locs hA640 oq hS => ?_)
        have hI := th_I.put hI hq610 hA640 ok_0 oq
        have hO := hO.kept (oq _ (fun z => th_ne hG0 hq610 (show (15 : Nat) ≠ 0 by decide) (List.mem_singleton.mpr z.symm)))
        refine lv_iload_n hx hb dX11_refuse_45 rfl (lv_at hl 2 rfl) ?_
        have hI := th_I.close hI hG0 hO (ok_15 hq605 hq606 hq608 hq610 hq612 hq614 hq616 hq618 hq620 hq622 hq624 hq626)
        have hpost : (x1 : Int32) = x1 := rfl
        rw [hQ]
        exact W.iret (v := x1) hx hb hr (fun t ht hW => ⟨⟨x1, (), rfl, hpost, by rw [ht]; exact hI, hN.warm hW, va_K.moved hW.alike hK⟩, hS.F ht⟩) hS.2.2 dX11_refuse_46
  refine lv_aload_n hx hb dX11_refuse_0 rfl (lv_at hl 0 rfl) ?_
  refine lv_iload_n hx hb dX11_refuse_1 rfl (lv_at hl 1 rfl) ?_
  obtain ⟨a641, a644, a646, a648, a650, a652, a654, a656, a658, a660, a662, w664, w665, w666, w667, hO, hq642, hq643, hq645, hq647, hq649, hq651, hq653, hq655, hq657, hq659, hq661, hq663⟩ := op_15 hI hG0 List.not_mem_nil
  have hI := th_I.weak (a := h0) hI
  have k668 : (nI (n % 401)).toInt = ((n % 401 : Nat) : Int) := nI_toInt (by omega)
  refine th_put (ty := .int) hx hb hts inT11 tyX11 tyX11_ok nmX11 hown hK hO hS ⟨_, hG0⟩ rfl 15 (by decide) (hts _ (tb_c wd_360)) rfl rfl (by decide +kernel) rfl rfl (Nat.le_of_ble_eq_true rfl) dX11_refuse_2 (fun H locs hO oq hS => ?_)
  have hI := th_I.moved hI oq
  have hO : va_at D vwCl (h0, .inr (11, [.ref a641, .ref (n / 401), .ref a644, .ref a646, .ref a648, .ref a650, .ref a652, .ref a654, .ref a656, .ref a658, .ref a660, .ref a662, .int (nI (n % 401)), .int w664, .int w665, .int x1, .int w667])) H := hO
  refine lv_iload_n hx hb dX11_refuse_5 rfl (lv_at hl 1 rfl) ?_
  refine lv_bipush (v := (-3)) hx hb dX11_refuse_6 (by decide) ?_
  have k669 := iv_lo x1
  have k670 := iv_hi x1
  refine lv_icmp_lt (tgt := 17) hx hb dX11_refuse_8 (by decide) (fun c671 => ?_) (fun c671 => ?_)
  · skip
    have k672 := iv_lt (X := x1.toInt) (Y := (-3)) rfl (by decide) c671
    refine lv_bipush (v := (-2)) hx hb dX11_refuse_17 (by decide) ?_
    refine lv_iload_n hx hb dX11_refuse_19 rfl (lv_at hl 1 rfl) ?_
    refine lv_isub hx hb dX11_refuse_20 ?_
    refine lv_topi (fun v673 e674 => ?_)
    have tv673 : v673.toInt = (-2) - x1.toInt := iv_sub (by decide) rfl e674 (by omega) (by omega)
    have hI := th_I.close hI hG0 hO (ok_15 hq642 hq643 hq645 hq647 hq649 hq651 hq653 hq655 hq657 hq659 hq661 hq663)
    exact J_21 H locs ls v673 (lv_sub hl [0, 1] rfl)  hI hS
  · skip
    have k675 := iv_nlt (X := x1.toInt) (Y := (-3)) rfl (by decide) c671
    refine lv_iconst (v := (-1)) hx hb dX11_refuse_11 (by decide) ?_
    refine lv_iload_n hx hb dX11_refuse_12 rfl (lv_at hl 1 rfl) ?_
    refine lv_isub hx hb dX11_refuse_13 ?_
    refine lv_topi (fun v676 e677 => ?_)
    have tv676 : v676.toInt = (-1) - x1.toInt := iv_sub (by decide) rfl e677 (by omega) (by omega)
    refine lv_goto (tgt := 21) hx hb dX11_refuse_14 (by decide) ?_
    have hI := th_I.close hI hG0 hO (ok_15 hq642 hq643 hq645 hq647 hq649 hq651 hq653 hq655 hq657 hq659 hq661 hq663)
    exact J_21 H locs ls v676 (lv_sub hl [0, 1] rfl)  hI hS
theorem dX11_write_0 : decode cX11_write 0 = .ok (.bipush 24, 2) := by decide +kernel
theorem dX11_write_2 : decode cX11_write 2 = .ok (.istore_n 2, 1) := by decide +kernel
theorem dX11_write_3 : decode cX11_write 3 = .ok (.iload_n 2, 1) := by decide +kernel
theorem dX11_write_4 : decode cX11_write 4 = .ok (.ifCond .lt 45, 3) := by decide +kernel
theorem dX11_write_7 : decode cX11_write 7 = .ok (.aload_n 0, 1) := by decide +kernel
theorem dX11_write_8 : decode cX11_write 8 = .ok (.getfield 89, 3) := by decide +kernel
theorem dX11_write_11 : decode cX11_write 11 = .ok (.sipush 400, 3) := by decide +kernel
theorem dX11_write_14 : decode cX11_write 14 = .ok (.if_icmp .ge 35, 3) := by decide +kernel
theorem dX11_write_17 : decode cX11_write 17 = .ok (.aload_n 0, 1) := by decide +kernel
theorem dX11_write_18 : decode cX11_write 18 = .ok (.getfield 20, 3) := by decide +kernel
theorem dX11_write_21 : decode cX11_write 21 = .ok (.aload_n 0, 1) := by decide +kernel
theorem dX11_write_22 : decode cX11_write 22 = .ok (.getfield 89, 3) := by decide +kernel
theorem dX11_write_25 : decode cX11_write 25 = .ok (.iload_n 1, 1) := by decide +kernel
theorem dX11_write_26 : decode cX11_write 26 = .ok (.iload_n 2, 1) := by decide +kernel
theorem dX11_write_27 : decode cX11_write 27 = .ok (.ishr, 1) := by decide +kernel
theorem dX11_write_28 : decode cX11_write 28 = .ok (.sipush 255, 3) := by decide +kernel
theorem dX11_write_31 : decode cX11_write 31 = .ok (.iand, 1) := by decide +kernel
theorem dX11_write_32 : decode cX11_write 32 = .ok (.iastore, 1) := by decide +kernel
theorem dX11_write_33 : decode cX11_write 33 = .ok (.aload_n 0, 1) := by decide +kernel
theorem dX11_write_34 : decode cX11_write 34 = .ok (.dup, 1) := by decide +kernel
theorem dX11_write_35 : decode cX11_write 35 = .ok (.getfield 89, 3) := by decide +kernel
theorem dX11_write_38 : decode cX11_write 38 = .ok (.iconst 1, 1) := by decide +kernel
theorem dX11_write_39 : decode cX11_write 39 = .ok (.iadd, 1) := by decide +kernel
theorem dX11_write_40 : decode cX11_write 40 = .ok (.putfield 89, 3) := by decide +kernel
theorem dX11_write_43 : decode cX11_write 43 = .ok (.iinc 2 (-8), 3) := by decide +kernel
theorem dX11_write_46 : decode cX11_write 46 = .ok (.goto (-43), 3) := by decide +kernel
theorem dX11_write_49 : decode cX11_write 49 = .ok (.return_, 1) := by decide +kernel
set_option maxHeartbeats 4000000 in
set_option maxRecDepth 100000 in
theorem c_X11_write (l : Launch) (E : Nat → ClassId) (D : va_G) (Gi : th_G) (h0 n : Nat) (hG0 : Gi h0 = some (15, n)) (x1 : Int32) (hn4 : n % 401 + 4 ≤ 400) : Met l yX11_write (tb (.code yX11_write cX11_write 3 none)) (rm 0) (va_Pc [.ref h0, .int x1] (th_P E D Gi)) (QV E D (gu Gi h0 (15, n + 4))) 0 0 (th_A (gu Gi h0 (15, n + 4))) := by
  refine Met.ofW (cc := cX11_write) (maxL := 3) (ret := none) (by decide) rfl ?_
  intro p e s m args below meth c s₁ B hml hv
  obtain ⟨hav, hI, hN, hK⟩ := hv
  have hx := B.exec
  have hb := B.bytes
  have hr := B.returns
  have hts := atoms_spec (ws := tb (.code yX11_write cX11_write 3 none)) B.pre
  have hown : s.vm.findClass RX11 = some m.cls := findClass_of_methodNamed B.named
  have hlocks := B.notSynchronized
  obtain ⟨G, hGe, hI, hG0, hS⟩ : ∃ G2 : th_G, G2 = gu Gi h0 (15, n) ∧ th_I (okC E) D G2 [] s.heap ∧ G2 h0 = some (15, n) ∧ va_S (th_A G2) s.heap s.heap [] := ⟨Gi, (gu_id hG0).symm, hI, hG0, va_S.rf⟩
  have hl := lv_entry ([.ref h0, .int x1]) (n := 3) (Nat.le_of_ble_eq_true rfl)
  rw [show entryFrame m args 3 = entryFrame m ([.ref h0, .int x1] : List Value).toArray 3 from by rw [hav], lg_entry_eq]
  generalize (lg_sl ([.ref h0, .int x1]) ++ List.replicate (3 - (lg_sl ([.ref h0, .int x1])).length) Slot.unset).toArray = ls at hl ⊢
  have hl : lv_has ls 3 [(0, .ref h0), (1, .int x1)] := hl
  generalize hR : (headSpec (tb (.code yX11_write cX11_write 3 none)) (rm 0)).room = R
  have hR := hR.symm
  generalize hQ : MQ below (QV E D (gu Gi h0 (15, n + 4))) args s 0 0 (th_A (gu Gi h0 (15, n + 4))) = QF
  have hQ := hQ.symm
  refine lv_bipush (v := 24) hx hb dX11_write_0 (by decide) ?_
  refine lv_istore_n (lv' := [(2, .int 24), (0, .ref h0), (1, .int x1)]) hx hb dX11_write_2 rfl hl (by decide) rfl (fun ls hl => ?_)
  refine lv_iload_n hx hb dX11_write_3 rfl (lv_at hl 0 rfl) ?_
  refine lv_if_lt (tgt := 49) hx hb dX11_write_4 (by decide) (fun c => absurd c (by decide)) (fun _ => ?_)
  refine lv_aload_n hx hb dX11_write_7 rfl (lv_at hl 1 rfl) ?_
  obtain ⟨a1, a4, a6, a8, a10, a12, a14, a16, a18, a20, a22, w24, w25, w26, w27, hO, hq2, hq3, hq5, hq7, hq9, hq11, hq13, hq15, hq17, hq19, hq21, hq23⟩ := op_15 hI hG0 List.not_mem_nil
  have hI := th_I.weak (a := h0) hI
  have k28 : (nI (n % 401)).toInt = ((n % 401 : Nat) : Int) := nI_toInt (by omega)
  refine th_get hx hb hts inT11 hown hK hO rfl 12 (by decide) (hts _ (tb_c wd_357)) rfl rfl dX11_write_8 ?_
  refine lv_sipush (v := 400) hx hb dX11_write_11 (by decide) ?_
  refine lv_icmp_ge (tgt := 49) hx hb dX11_write_14 (by decide) (fun c29 => ?_) (fun c29 => ?_)
  · skip
    have k30 := iv_le (X := (400)) (Y := (nI (n % 401)).toInt) (by decide) rfl c29
    have hI := th_I.close hI hG0 hO (ok_15 hq2 hq3 hq5 hq7 hq9 hq11 hq13 hq15 hq17 hq19 hq21 hq23)
    have hGt : G = gu Gi h0 (15, n + 4) := by rw [hGe]; exact congrArg (fun z => gu Gi h0 (15, z)) (show n = n + 4 from by omega)
    rw [hGt] at hI hS
    rw [hQ]
    exact W.vret hx hb hr (fun t ht hW => ⟨⟨(), rfl, trivial, by rw [ht]; exact hI, hN.warm hW, va_K.moved hW.alike hK⟩, hS.F ht⟩) hS.2.2 dX11_write_49
  · skip
    have k31 := iv_nle (X := (400)) (Y := (nI (n % 401)).toInt) (by decide) rfl c29
    refine lv_aload_n hx hb dX11_write_17 rfl (lv_at hl 1 rfl) ?_
    refine th_get hx hb hts inT11 hown hK hO rfl 2 (by decide) (hts _ (tb_c wd_347)) rfl rfl dX11_write_18 ?_
    refine lv_aload_n hx hb dX11_write_21 rfl (lv_at hl 1 rfl) ?_
    refine th_get hx hb hts inT11 hown hK hO rfl 12 (by decide) (hts _ (tb_c wd_357)) rfl rfl dX11_write_22 ?_
    refine lv_iload_n hx hb dX11_write_25 rfl (lv_at hl 2 rfl) ?_
    refine lv_iload_n hx hb dX11_write_26 rfl (lv_at hl 0 rfl) ?_
    refine lv_ishr hx hb dX11_write_27 ?_
    refine lv_topi (fun v32 e33 => ?_)
    refine lv_sipush (v := 255) hx hb dX11_write_28 (by decide) ?_
    refine lv_iand hx hb dX11_write_31 ?_
    refine lv_topi (fun v34 e35 => ?_)
    have tv34 := iv_andr (m := 255) (M := 255) e35 (by decide) (by decide)
    obtain ⟨_, hA36⟩ := op_0 hI hq5 (th_ne hG0 hq5 (show (15 : Nat) ≠ 0 by decide))
    refine th_iast hx hb hK hA36 0 rfl hS ⟨_, hq5⟩ (iv_in (X := (nI (n % 401)).toInt) rfl (by omega) (by omega)) dX11_write_32 (fun H locs hA36 oq hS => ?_)
    have hI := th_I.put hI hq5 hA36 ok_0 oq
    have hO := hO.kept (oq _ (fun z => th_ne hG0 hq5 (show (15 : Nat) ≠ 0 by decide) (List.mem_singleton.mpr z.symm)))
    refine lv_aload_n hx hb dX11_write_33 rfl (lv_at hl 1 rfl) ?_
    refine lv_dup hx hb dX11_write_34 rfl ?_
    refine th_get hx hb hts inT11 hown hK hO rfl 12 (by decide) (hts _ (tb_c wd_357)) rfl rfl dX11_write_35 ?_
    refine lv_iconst (v := 1) hx hb dX11_write_38 (by decide) ?_
    refine lv_iadd hx hb dX11_write_39 ?_
    refine lv_topi (fun v37 e38 => ?_)
    have tv37 : v37.toInt = (nI (n % 401)).toInt + (1) := iv_add rfl (by decide) e38 (by omega) (by omega)
    refine th_put (ty := .int) hx hb hts inT11 tyX11 tyX11_ok nmX11 hown hK hO hS ⟨_, hG0⟩ rfl 12 (by decide) (hts _ (tb_c wd_357)) rfl rfl (by decide +kernel) rfl rfl (Nat.le_of_ble_eq_true rfl) dX11_write_40 (fun H locs hO oq hS => ?_)
    have hI := th_I.moved hI oq
    obtain ⟨m39, e40, e41⟩ : ∃ m : Nat, m / 401 = n / 401 ∧ ((m % 401 : Nat) : Int) = v37.toInt := ⟨n / 401 * 401 + (v37.toInt).toNat, by omega, by omega⟩
    have e42 : nI (m39 % 401) = v37 := Int32.toInt_inj.mp (by rw [nI_toInt (by omega)]; omega)
    have hO : va_at D vwCl (h0, .inr (11, [.ref a1, .ref (m39 / 401), .ref a4, .ref a6, .ref a8, .ref a10, .ref a12, .ref a14, .ref a16, .ref a18, .ref a20, .ref a22, .int (nI (m39 % 401)), .int w24, .int w25, .int w26, .int w27])) H := by rw [e40, e42]; exact hO
    obtain ⟨G, hGe, hI, hG0, hS⟩ : ∃ G2 : th_G, G2 = gu Gi h0 (15, m39) ∧ th_I (okC E) D G2 [] H ∧ G2 h0 = some (15, m39) ∧ va_S (th_A G2) s.heap H locs := ⟨gu G h0 (15, m39), by rw [hGe, gu_gu], tp_close hI hG0 hO (ok_15 (gu_tag hG0 hq2 (by decide)) (by rw [e40]; exact gu_tag hG0 hq3 (by decide)) (gu_tag hG0 hq5 (by decide)) (gu_tag hG0 hq7 (by decide)) (gu_tag hG0 hq9 (by decide)) (gu_tag hG0 hq11 (by decide)) (gu_tag hG0 hq13 (by decide)) (gu_tag hG0 hq15 (by decide)) (gu_tag hG0 hq17 (by decide)) (gu_tag hG0 hq19 (by decide)) (gu_tag hG0 hq21 (by decide)) (gu_tag hG0 hq23 (by decide))), gu_at, by rw [gu_A hG0]; exact hS⟩
    obtain ⟨v43, e44⟩ : ∃ y : Int32, y = 24 + (-8) := ⟨_, rfl⟩
    have tv43 : v43.toInt = (24) + (-8) := iv_add (by decide) (by decide) e44 (by omega) (by omega)
    refine lv_iinc (v := v43) (lv' := [(2, .int v43), (0, .ref h0), (1, .int x1)]) hx hb dX11_write_43 hl (k := 0) rfl (by rw [e44]; rfl) (by decide) rfl (fun ls hl => ?_)
    refine lv_goto (tgt := 3) hx hb dX11_write_46 (by decide) ?_
    refine lv_iload_n hx hb dX11_write_3 rfl (lv_at hl 0 rfl) ?_
    refine lv_if_lt (tgt := 49) hx hb dX11_write_4 (by decide) (fun c45 => ?_) (fun c45 => ?_)
    · skip
      have k46 := iv_lt (X := v43.toInt) (Y := (0)) rfl (by decide) c45
      exfalso; omega
    · skip
      have k47 := iv_nlt (X := v43.toInt) (Y := (0)) rfl (by decide) c45
      refine lv_aload_n hx hb dX11_write_7 rfl (lv_at hl 1 rfl) ?_
      obtain ⟨a48, a51, a53, a55, a57, a59, a61, a63, a65, a67, a69, w71, w72, w73, w74, hO, hq49, hq50, hq52, hq54, hq56, hq58, hq60, hq62, hq64, hq66, hq68, hq70⟩ := op_15 hI hG0 List.not_mem_nil
      have hI := th_I.weak (a := h0) hI
      have k75 : (nI (m39 % 401)).toInt = ((m39 % 401 : Nat) : Int) := nI_toInt (by omega)
      refine th_get hx hb hts inT11 hown hK hO rfl 12 (by decide) (hts _ (tb_c wd_357)) rfl rfl dX11_write_8 ?_
      refine lv_sipush (v := 400) hx hb dX11_write_11 (by decide) ?_
      refine lv_icmp_ge (tgt := 49) hx hb dX11_write_14 (by decide) (fun c76 => ?_) (fun c76 => ?_)
      · skip
        have k77 := iv_le (X := (400)) (Y := (nI (m39 % 401)).toInt) (by decide) rfl c76
        have hI := th_I.close hI hG0 hO (ok_15 hq49 hq50 hq52 hq54 hq56 hq58 hq60 hq62 hq64 hq66 hq68 hq70)
        have hGt : G = gu Gi h0 (15, n + 4) := by rw [hGe]; exact congrArg (fun z => gu Gi h0 (15, z)) (show m39 = n + 4 from by omega)
        rw [hGt] at hI hS
        rw [hQ]
        exact W.vret hx hb hr (fun t ht hW => ⟨⟨(), rfl, trivial, by rw [ht]; exact hI, hN.warm hW, va_K.moved hW.alike hK⟩, hS.F ht⟩) hS.2.2 dX11_write_49
      · skip
        have k78 := iv_nle (X := (400)) (Y := (nI (m39 % 401)).toInt) (by decide) rfl c76
        refine lv_aload_n hx hb dX11_write_17 rfl (lv_at hl 1 rfl) ?_
        refine th_get hx hb hts inT11 hown hK hO rfl 2 (by decide) (hts _ (tb_c wd_347)) rfl rfl dX11_write_18 ?_
        refine lv_aload_n hx hb dX11_write_21 rfl (lv_at hl 1 rfl) ?_
        refine th_get hx hb hts inT11 hown hK hO rfl 12 (by decide) (hts _ (tb_c wd_357)) rfl rfl dX11_write_22 ?_
        refine lv_iload_n hx hb dX11_write_25 rfl (lv_at hl 2 rfl) ?_
        refine lv_iload_n hx hb dX11_write_26 rfl (lv_at hl 0 rfl) ?_
        refine lv_ishr hx hb dX11_write_27 ?_
        refine lv_topi (fun v79 e80 => ?_)
        refine lv_sipush (v := 255) hx hb dX11_write_28 (by decide) ?_
        refine lv_iand hx hb dX11_write_31 ?_
        refine lv_topi (fun v81 e82 => ?_)
        have tv81 := iv_andr (m := 255) (M := 255) e82 (by decide) (by decide)
        obtain ⟨_, hA83⟩ := op_0 hI hq52 (th_ne hG0 hq52 (show (15 : Nat) ≠ 0 by decide))
        refine th_iast hx hb hK hA83 0 rfl hS ⟨_, hq52⟩ (iv_in (X := (nI (m39 % 401)).toInt) rfl (by omega) (by omega)) dX11_write_32 (fun H locs hA83 oq hS => ?_)
        have hI := th_I.put hI hq52 hA83 ok_0 oq
        have hO := hO.kept (oq _ (fun z => th_ne hG0 hq52 (show (15 : Nat) ≠ 0 by decide) (List.mem_singleton.mpr z.symm)))
        refine lv_aload_n hx hb dX11_write_33 rfl (lv_at hl 1 rfl) ?_
        refine lv_dup hx hb dX11_write_34 rfl ?_
        refine th_get hx hb hts inT11 hown hK hO rfl 12 (by decide) (hts _ (tb_c wd_357)) rfl rfl dX11_write_35 ?_
        refine lv_iconst (v := 1) hx hb dX11_write_38 (by decide) ?_
        refine lv_iadd hx hb dX11_write_39 ?_
        refine lv_topi (fun v84 e85 => ?_)
        have tv84 : v84.toInt = (nI (m39 % 401)).toInt + (1) := iv_add rfl (by decide) e85 (by omega) (by omega)
        refine th_put (ty := .int) hx hb hts inT11 tyX11 tyX11_ok nmX11 hown hK hO hS ⟨_, hG0⟩ rfl 12 (by decide) (hts _ (tb_c wd_357)) rfl rfl (by decide +kernel) rfl rfl (Nat.le_of_ble_eq_true rfl) dX11_write_40 (fun H locs hO oq hS => ?_)
        have hI := th_I.moved hI oq
        obtain ⟨m86, e87, e88⟩ : ∃ m : Nat, m / 401 = m39 / 401 ∧ ((m % 401 : Nat) : Int) = v84.toInt := ⟨m39 / 401 * 401 + (v84.toInt).toNat, by omega, by omega⟩
        have e89 : nI (m86 % 401) = v84 := Int32.toInt_inj.mp (by rw [nI_toInt (by omega)]; omega)
        have hO : va_at D vwCl (h0, .inr (11, [.ref a48, .ref (m86 / 401), .ref a51, .ref a53, .ref a55, .ref a57, .ref a59, .ref a61, .ref a63, .ref a65, .ref a67, .ref a69, .int (nI (m86 % 401)), .int w71, .int w72, .int w73, .int w74])) H := by rw [e87, e89]; exact hO
        obtain ⟨G, hGe, hI, hG0, hS⟩ : ∃ G2 : th_G, G2 = gu Gi h0 (15, m86) ∧ th_I (okC E) D G2 [] H ∧ G2 h0 = some (15, m86) ∧ va_S (th_A G2) s.heap H locs := ⟨gu G h0 (15, m86), by rw [hGe, gu_gu], tp_close hI hG0 hO (ok_15 (gu_tag hG0 hq49 (by decide)) (by rw [e87]; exact gu_tag hG0 hq50 (by decide)) (gu_tag hG0 hq52 (by decide)) (gu_tag hG0 hq54 (by decide)) (gu_tag hG0 hq56 (by decide)) (gu_tag hG0 hq58 (by decide)) (gu_tag hG0 hq60 (by decide)) (gu_tag hG0 hq62 (by decide)) (gu_tag hG0 hq64 (by decide)) (gu_tag hG0 hq66 (by decide)) (gu_tag hG0 hq68 (by decide)) (gu_tag hG0 hq70 (by decide))), gu_at, by rw [gu_A hG0]; exact hS⟩
        obtain ⟨v90, e91⟩ : ∃ y : Int32, y = v43 + (-8) := ⟨_, rfl⟩
        have tv90 : v90.toInt = v43.toInt + (-8) := iv_add rfl (by decide) e91 (by omega) (by omega)
        refine lv_iinc (v := v90) (lv' := [(2, .int v90), (0, .ref h0), (1, .int x1)]) hx hb dX11_write_43 hl (k := 0) rfl (by rw [e91]; rfl) (by decide) rfl (fun ls hl => ?_)
        refine lv_goto (tgt := 3) hx hb dX11_write_46 (by decide) ?_
        refine lv_iload_n hx hb dX11_write_3 rfl (lv_at hl 0 rfl) ?_
        refine lv_if_lt (tgt := 49) hx hb dX11_write_4 (by decide) (fun c92 => ?_) (fun c92 => ?_)
        · skip
          have k93 := iv_lt (X := v90.toInt) (Y := (0)) rfl (by decide) c92
          exfalso; omega
        · skip
          have k94 := iv_nlt (X := v90.toInt) (Y := (0)) rfl (by decide) c92
          refine lv_aload_n hx hb dX11_write_7 rfl (lv_at hl 1 rfl) ?_
          obtain ⟨a95, a98, a100, a102, a104, a106, a108, a110, a112, a114, a116, w118, w119, w120, w121, hO, hq96, hq97, hq99, hq101, hq103, hq105, hq107, hq109, hq111, hq113, hq115, hq117⟩ := op_15 hI hG0 List.not_mem_nil
          have hI := th_I.weak (a := h0) hI
          have k122 : (nI (m86 % 401)).toInt = ((m86 % 401 : Nat) : Int) := nI_toInt (by omega)
          refine th_get hx hb hts inT11 hown hK hO rfl 12 (by decide) (hts _ (tb_c wd_357)) rfl rfl dX11_write_8 ?_
          refine lv_sipush (v := 400) hx hb dX11_write_11 (by decide) ?_
          refine lv_icmp_ge (tgt := 49) hx hb dX11_write_14 (by decide) (fun c123 => ?_) (fun c123 => ?_)
          · skip
            have k124 := iv_le (X := (400)) (Y := (nI (m86 % 401)).toInt) (by decide) rfl c123
            have hI := th_I.close hI hG0 hO (ok_15 hq96 hq97 hq99 hq101 hq103 hq105 hq107 hq109 hq111 hq113 hq115 hq117)
            have hGt : G = gu Gi h0 (15, n + 4) := by rw [hGe]; exact congrArg (fun z => gu Gi h0 (15, z)) (show m86 = n + 4 from by omega)
            rw [hGt] at hI hS
            rw [hQ]
            exact W.vret hx hb hr (fun t ht hW => ⟨⟨(), rfl, trivial, by rw [ht]; exact hI, hN.warm hW, va_K.moved hW.alike hK⟩, hS.F ht⟩) hS.2.2 dX11_write_49
          · skip
            have k125 := iv_nle (X := (400)) (Y := (nI (m86 % 401)).toInt) (by decide) rfl c123
            refine lv_aload_n hx hb dX11_write_17 rfl (lv_at hl 1 rfl) ?_
            refine th_get hx hb hts inT11 hown hK hO rfl 2 (by decide) (hts _ (tb_c wd_347)) rfl rfl dX11_write_18 ?_
            refine lv_aload_n hx hb dX11_write_21 rfl (lv_at hl 1 rfl) ?_
            refine th_get hx hb hts inT11 hown hK hO rfl 12 (by decide) (hts _ (tb_c wd_357)) rfl rfl dX11_write_22 ?_
            refine lv_iload_n hx hb dX11_write_25 rfl (lv_at hl 2 rfl) ?_
            refine lv_iload_n hx hb dX11_write_26 rfl (lv_at hl 0 rfl) ?_
            refine lv_ishr hx hb dX11_write_27 ?_
            refine lv_topi (fun v126 e127 => ?_)
            refine lv_sipush (v := 255) hx hb dX11_write_28 (by decide) ?_
            refine lv_iand hx hb dX11_write_31 ?_
            refine lv_topi (fun v128 e129 => ?_)
            have tv128 := iv_andr (m := 255) (M := 255) e129 (by decide) (by decide)
            obtain ⟨_, hA130⟩ := op_0 hI hq99 (th_ne hG0 hq99 (show (15 : Nat) ≠ 0 by decide))
            refine th_iast hx hb hK hA130 0 rfl hS ⟨_, hq99⟩ (iv_in (X := (nI (m86 % 401)).toInt) rfl (by omega) (by omega)) dX11_write_32 (fun H locs hA130 oq hS => ?_)
            have hI := th_I.put hI hq99 hA130 ok_0 oq
            have hO := hO.kept (oq _ (fun z => th_ne hG0 hq99 (show (15 : Nat) ≠ 0 by decide) (List.mem_singleton.mpr z.symm)))
            refine lv_aload_n hx hb dX11_write_33 rfl (lv_at hl 1 rfl) ?_
            refine lv_dup hx hb dX11_write_34 rfl ?_
            refine th_get hx hb hts inT11 hown hK hO rfl 12 (by decide) (hts _ (tb_c wd_357)) rfl rfl dX11_write_35 ?_
            refine lv_iconst (v := 1) hx hb dX11_write_38 (by decide) ?_
            refine lv_iadd hx hb dX11_write_39 ?_
            refine lv_topi (fun v131 e132 => ?_)
            have tv131 : v131.toInt = (nI (m86 % 401)).toInt + (1) := iv_add rfl (by decide) e132 (by omega) (by omega)
            refine th_put (ty := .int) hx hb hts inT11 tyX11 tyX11_ok nmX11 hown hK hO hS ⟨_, hG0⟩ rfl 12 (by decide) (hts _ (tb_c wd_357)) rfl rfl (by decide +kernel) rfl rfl (Nat.le_of_ble_eq_true rfl) dX11_write_40 (fun H locs hO oq hS => ?_)
            have hI := th_I.moved hI oq
            obtain ⟨m133, e134, e135⟩ : ∃ m : Nat, m / 401 = m86 / 401 ∧ ((m % 401 : Nat) : Int) = v131.toInt := ⟨m86 / 401 * 401 + (v131.toInt).toNat, by omega, by omega⟩
            have e136 : nI (m133 % 401) = v131 := Int32.toInt_inj.mp (by rw [nI_toInt (by omega)]; omega)
            have hO : va_at D vwCl (h0, .inr (11, [.ref a95, .ref (m133 / 401), .ref a98, .ref a100, .ref a102, .ref a104, .ref a106, .ref a108, .ref a110, .ref a112, .ref a114, .ref a116, .int (nI (m133 % 401)), .int w118, .int w119, .int w120, .int w121])) H := by rw [e134, e136]; exact hO
            obtain ⟨G, hGe, hI, hG0, hS⟩ : ∃ G2 : th_G, G2 = gu Gi h0 (15, m133) ∧ th_I (okC E) D G2 [] H ∧ G2 h0 = some (15, m133) ∧ va_S (th_A G2) s.heap H locs := ⟨gu G h0 (15, m133), by rw [hGe, gu_gu], tp_close hI hG0 hO (ok_15 (gu_tag hG0 hq96 (by decide)) (by rw [e134]; exact gu_tag hG0 hq97 (by decide)) (gu_tag hG0 hq99 (by decide)) (gu_tag hG0 hq101 (by decide)) (gu_tag hG0 hq103 (by decide)) (gu_tag hG0 hq105 (by decide)) (gu_tag hG0 hq107 (by decide)) (gu_tag hG0 hq109 (by decide)) (gu_tag hG0 hq111 (by decide)) (gu_tag hG0 hq113 (by decide)) (gu_tag hG0 hq115 (by decide)) (gu_tag hG0 hq117 (by decide))), gu_at, by rw [gu_A hG0]; exact hS⟩
            obtain ⟨v137, e138⟩ : ∃ y : Int32, y = v90 + (-8) := ⟨_, rfl⟩
            have tv137 : v137.toInt = v90.toInt + (-8) := iv_add rfl (by decide) e138 (by omega) (by omega)
            refine lv_iinc (v := v137) (lv' := [(2, .int v137), (0, .ref h0), (1, .int x1)]) hx hb dX11_write_43 hl (k := 0) rfl (by rw [e138]; rfl) (by decide) rfl (fun ls hl => ?_)
            refine lv_goto (tgt := 3) hx hb dX11_write_46 (by decide) ?_
            refine lv_iload_n hx hb dX11_write_3 rfl (lv_at hl 0 rfl) ?_
            refine lv_if_lt (tgt := 49) hx hb dX11_write_4 (by decide) (fun c139 => ?_) (fun c139 => ?_)
            · skip
              have k140 := iv_lt (X := v137.toInt) (Y := (0)) rfl (by decide) c139
              exfalso; omega
            · skip
              have k141 := iv_nlt (X := v137.toInt) (Y := (0)) rfl (by decide) c139
              refine lv_aload_n hx hb dX11_write_7 rfl (lv_at hl 1 rfl) ?_
              obtain ⟨a142, a145, a147, a149, a151, a153, a155, a157, a159, a161, a163, w165, w166, w167, w168, hO, hq143, hq144, hq146, hq148, hq150, hq152, hq154, hq156, hq158, hq160, hq162, hq164⟩ := op_15 hI hG0 List.not_mem_nil
              have hI := th_I.weak (a := h0) hI
              have k169 : (nI (m133 % 401)).toInt = ((m133 % 401 : Nat) : Int) := nI_toInt (by omega)
              refine th_get hx hb hts inT11 hown hK hO rfl 12 (by decide) (hts _ (tb_c wd_357)) rfl rfl dX11_write_8 ?_
              refine lv_sipush (v := 400) hx hb dX11_write_11 (by decide) ?_
              refine lv_icmp_ge (tgt := 49) hx hb dX11_write_14 (by decide) (fun c170 => ?_) (fun c170 => ?_)
              · skip
                have k171 := iv_le (X := (400)) (Y := (nI (m133 % 401)).toInt) (by decide) rfl c170
                have hI := th_I.close hI hG0 hO (ok_15 hq143 hq144 hq146 hq148 hq150 hq152 hq154 hq156 hq158 hq160 hq162 hq164)
                have hGt : G = gu Gi h0 (15, n + 4) := by rw [hGe]; exact congrArg (fun z => gu Gi h0 (15, z)) (show m133 = n + 4 from by omega)
                rw [hGt] at hI hS
                rw [hQ]
                exact W.vret hx hb hr (fun t ht hW => ⟨⟨(), rfl, trivial, by rw [ht]; exact hI, hN.warm hW, va_K.moved hW.alike hK⟩, hS.F ht⟩) hS.2.2 dX11_write_49
              · skip
                have k172 := iv_nle (X := (400)) (Y := (nI (m133 % 401)).toInt) (by decide) rfl c170
                refine lv_aload_n hx hb dX11_write_17 rfl (lv_at hl 1 rfl) ?_
                refine th_get hx hb hts inT11 hown hK hO rfl 2 (by decide) (hts _ (tb_c wd_347)) rfl rfl dX11_write_18 ?_
                refine lv_aload_n hx hb dX11_write_21 rfl (lv_at hl 1 rfl) ?_
                refine th_get hx hb hts inT11 hown hK hO rfl 12 (by decide) (hts _ (tb_c wd_357)) rfl rfl dX11_write_22 ?_
                refine lv_iload_n hx hb dX11_write_25 rfl (lv_at hl 2 rfl) ?_
                refine lv_iload_n hx hb dX11_write_26 rfl (lv_at hl 0 rfl) ?_
                refine lv_ishr hx hb dX11_write_27 ?_
                refine lv_topi (fun v173 e174 => ?_)
                refine lv_sipush (v := 255) hx hb dX11_write_28 (by decide) ?_
                refine lv_iand hx hb dX11_write_31 ?_
                refine lv_topi (fun v175 e176 => ?_)
                have tv175 := iv_andr (m := 255) (M := 255) e176 (by decide) (by decide)
                obtain ⟨_, hA177⟩ := op_0 hI hq146 (th_ne hG0 hq146 (show (15 : Nat) ≠ 0 by decide))
                refine th_iast hx hb hK hA177 0 rfl hS ⟨_, hq146⟩ (iv_in (X := (nI (m133 % 401)).toInt) rfl (by omega) (by omega)) dX11_write_32 (fun H locs hA177 oq hS => ?_)
                have hI := th_I.put hI hq146 hA177 ok_0 oq
                have hO := hO.kept (oq _ (fun z => th_ne hG0 hq146 (show (15 : Nat) ≠ 0 by decide) (List.mem_singleton.mpr z.symm)))
                refine lv_aload_n hx hb dX11_write_33 rfl (lv_at hl 1 rfl) ?_
                refine lv_dup hx hb dX11_write_34 rfl ?_
                refine th_get hx hb hts inT11 hown hK hO rfl 12 (by decide) (hts _ (tb_c wd_357)) rfl rfl dX11_write_35 ?_
                refine lv_iconst (v := 1) hx hb dX11_write_38 (by decide) ?_
                refine lv_iadd hx hb dX11_write_39 ?_
                refine lv_topi (fun v178 e179 => ?_)
                have tv178 : v178.toInt = (nI (m133 % 401)).toInt + (1) := iv_add rfl (by decide) e179 (by omega) (by omega)
                refine th_put (ty := .int) hx hb hts inT11 tyX11 tyX11_ok nmX11 hown hK hO hS ⟨_, hG0⟩ rfl 12 (by decide) (hts _ (tb_c wd_357)) rfl rfl (by decide +kernel) rfl rfl (Nat.le_of_ble_eq_true rfl) dX11_write_40 (fun H locs hO oq hS => ?_)
                have hI := th_I.moved hI oq
                obtain ⟨m180, e181, e182⟩ : ∃ m : Nat, m / 401 = m133 / 401 ∧ ((m % 401 : Nat) : Int) = v178.toInt := ⟨m133 / 401 * 401 + (v178.toInt).toNat, by omega, by omega⟩
                have e183 : nI (m180 % 401) = v178 := Int32.toInt_inj.mp (by rw [nI_toInt (by omega)]; omega)
                have hO : va_at D vwCl (h0, .inr (11, [.ref a142, .ref (m180 / 401), .ref a145, .ref a147, .ref a149, .ref a151, .ref a153, .ref a155, .ref a157, .ref a159, .ref a161, .ref a163, .int (nI (m180 % 401)), .int w165, .int w166, .int w167, .int w168])) H := by rw [e181, e183]; exact hO
                obtain ⟨G, hGe, hI, hG0, hS⟩ : ∃ G2 : th_G, G2 = gu Gi h0 (15, m180) ∧ th_I (okC E) D G2 [] H ∧ G2 h0 = some (15, m180) ∧ va_S (th_A G2) s.heap H locs := ⟨gu G h0 (15, m180), by rw [hGe, gu_gu], tp_close hI hG0 hO (ok_15 (gu_tag hG0 hq143 (by decide)) (by rw [e181]; exact gu_tag hG0 hq144 (by decide)) (gu_tag hG0 hq146 (by decide)) (gu_tag hG0 hq148 (by decide)) (gu_tag hG0 hq150 (by decide)) (gu_tag hG0 hq152 (by decide)) (gu_tag hG0 hq154 (by decide)) (gu_tag hG0 hq156 (by decide)) (gu_tag hG0 hq158 (by decide)) (gu_tag hG0 hq160 (by decide)) (gu_tag hG0 hq162 (by decide)) (gu_tag hG0 hq164 (by decide))), gu_at, by rw [gu_A hG0]; exact hS⟩
                obtain ⟨v184, e185⟩ : ∃ y : Int32, y = v137 + (-8) := ⟨_, rfl⟩
                have tv184 : v184.toInt = v137.toInt + (-8) := iv_add rfl (by decide) e185 (by omega) (by omega)
                refine lv_iinc (v := v184) (lv' := [(2, .int v184), (0, .ref h0), (1, .int x1)]) hx hb dX11_write_43 hl (k := 0) rfl (by rw [e185]; rfl) (by decide) rfl (fun ls hl => ?_)
                refine lv_goto (tgt := 3) hx hb dX11_write_46 (by decide) ?_
                refine lv_iload_n hx hb dX11_write_3 rfl (lv_at hl 0 rfl) ?_
                refine lv_if_lt (tgt := 49) hx hb dX11_write_4 (by decide) (fun c186 => ?_) (fun c186 => ?_)
                · skip
                  have k187 := iv_lt (X := v184.toInt) (Y := (0)) rfl (by decide) c186
                  have hGt : G = gu Gi h0 (15, n + 4) := by rw [hGe]; exact congrArg (fun z => gu Gi h0 (15, z)) (show m180 = n + 4 from by omega)
                  rw [hGt] at hI hS
                  rw [hQ]
                  exact W.vret hx hb hr (fun t ht hW => ⟨⟨(), rfl, trivial, by rw [ht]; exact hI, hN.warm hW, va_K.moved hW.alike hK⟩, hS.F ht⟩) hS.2.2 dX11_write_49
                · skip
                  have k188 := iv_nlt (X := v184.toInt) (Y := (0)) rfl (by decide) c186
                  exfalso; omega
theorem dX11_end_0 : decode cX11_end 0 = .ok (.iload_n 1, 1) := by decide +kernel
theorem dX11_end_1 : decode cX11_end 1 = .ok (.ifCond .lt 11, 3) := by decide +kernel
theorem dX11_end_4 : decode cX11_end 4 = .ok (.iload_n 1, 1) := by decide +kernel
theorem dX11_end_5 : decode cX11_end 5 = .ok (.aload_n 0, 1) := by decide +kernel
theorem dX11_end_6 : decode cX11_end 6 = .ok (.getfield 89, 3) := by decide +kernel
theorem dX11_end_9 : decode cX11_end 9 = .ok (.if_icmp .le 5, 3) := by decide +kernel
theorem dX11_end_12 : decode cX11_end 12 = .ok (.iconst (-1), 1) := by decide +kernel
theorem dX11_end_13 : decode cX11_end 13 = .ok (.ireturn, 1) := by decide +kernel
theorem dX11_end_14 : decode cX11_end 14 = .ok (.aload_n 0, 1) := by decide +kernel
theorem dX11_end_15 : decode cX11_end 15 = .ok (.iload_n 1, 1) := by decide +kernel
theorem dX11_end_16 : decode cX11_end 16 = .ok (.putfield 89, 3) := by decide +kernel
theorem dX11_end_19 : decode cX11_end 19 = .ok (.iload_n 1, 1) := by decide +kernel
theorem dX11_end_20 : decode cX11_end 20 = .ok (.ireturn, 1) := by decide +kernel
set_option maxHeartbeats 4000000 in
set_option maxRecDepth 100000 in
theorem c_X11_end (l : Launch) (E : Nat → ClassId) (D : va_G) (Gi : th_G) (h0 n : Nat) (hG0 : Gi h0 = some (15, n)) (x1 : Int32) : Met l yX11_end (tb (.code yX11_end cX11_end 2 (some .int))) (rm 0) (va_Pc [.ref h0, .int x1] (th_P E D Gi)) (QI E D (gu Gi h0 (15, eN n x1)) (fun r => ((r : Int32) = -1 ∧ ¬ (0 ≤ x1.toInt ∧ x1.toInt ≤ ((n % 401 : Nat) : Int))) ∨ ((r : Int32) = x1 ∧ (0 ≤ x1.toInt ∧ x1.toInt ≤ ((n % 401 : Nat) : Int))))) 0 0 (th_A (gu Gi h0 (15, eN n x1))) := by
  refine Met.ofW (cc := cX11_end) (maxL := 2) (ret := (some .int)) (by decide) rfl ?_
  intro p e s m args below meth c s₁ B hml hv
  obtain ⟨hav, hI, hN, hK⟩ := hv
  have hx := B.exec
  have hb := B.bytes
  have hr := B.returns
  have hts := atoms_spec (ws := tb (.code yX11_end cX11_end 2 (some .int))) B.pre
  have hown : s.vm.findClass RX11 = some m.cls := findClass_of_methodNamed B.named
  have hlocks := B.notSynchronized
  obtain ⟨G, hGe, hI, hG0, hS⟩ : ∃ G2 : th_G, G2 = gu Gi h0 (15, n) ∧ th_I (okC E) D G2 [] s.heap ∧ G2 h0 = some (15, n) ∧ va_S (th_A G2) s.heap s.heap [] := ⟨Gi, (gu_id hG0).symm, hI, hG0, va_S.rf⟩
  have hl := lv_entry ([.ref h0, .int x1]) (n := 2) (Nat.le_of_ble_eq_true rfl)
  rw [show entryFrame m args 2 = entryFrame m ([.ref h0, .int x1] : List Value).toArray 2 from by rw [hav], lg_entry_eq]
  generalize (lg_sl ([.ref h0, .int x1]) ++ List.replicate (2 - (lg_sl ([.ref h0, .int x1])).length) Slot.unset).toArray = ls at hl ⊢
  have hl : lv_has ls 2 [(0, .ref h0), (1, .int x1)] := hl
  generalize hR : (headSpec (tb (.code yX11_end cX11_end 2 (some .int))) (rm 0)).room = R
  have hR := hR.symm
  generalize hQ : MQ below (QI E D (gu Gi h0 (15, eN n x1)) (fun r => ((r : Int32) = -1 ∧ ¬ (0 ≤ x1.toInt ∧ x1.toInt ≤ ((n % 401 : Nat) : Int))) ∨ ((r : Int32) = x1 ∧ (0 ≤ x1.toInt ∧ x1.toInt ≤ ((n % 401 : Nat) : Int))))) args s 0 0 (th_A (gu Gi h0 (15, eN n x1))) = QF
  have hQ := hQ.symm
  refine lv_iload_n hx hb dX11_end_0 rfl (lv_at hl 1 rfl) ?_
  have k1 := iv_lo x1
  have k2 := iv_hi x1
  refine lv_if_lt (tgt := 12) hx hb dX11_end_1 (by decide) (fun c3 => ?_) (fun c3 => ?_)
  · skip
    have k4 := iv_lt (X := x1.toInt) (Y := (0)) rfl (by decide) c3
    refine lv_iconst (v := (-1)) hx hb dX11_end_12 (by decide) ?_
    have hGt : G = gu Gi h0 (15, eN n x1) := by rw [hGe]; exact congrArg (fun z => gu Gi h0 (15, z)) (show n = eN n x1 from by unfold eN; split <;> omega)
    rw [hGt] at hI hS
    have hpost : (((-1) : Int32) = -1 ∧ ¬ (0 ≤ x1.toInt ∧ x1.toInt ≤ ((n % 401 : Nat) : Int))) ∨ (((-1) : Int32) = x1 ∧ (0 ≤ x1.toInt ∧ x1.toInt ≤ ((n % 401 : Nat) : Int))) := by first | exact Or.inl ⟨rfl, by omega⟩ | exact Or.inr ⟨rfl, by omega⟩
    rw [hQ]
    exact W.iret (v := (-1)) hx hb hr (fun t ht hW => ⟨⟨(-1), (), rfl, hpost, by rw [ht]; exact hI, hN.warm hW, va_K.moved hW.alike hK⟩, hS.F ht⟩) hS.2.2 dX11_end_13
  · skip
    have k5 := iv_nlt (X := x1.toInt) (Y := (0)) rfl (by decide) c3
    refine lv_iload_n hx hb dX11_end_4 rfl (lv_at hl 1 rfl) ?_
    refine lv_aload_n hx hb dX11_end_5 rfl (lv_at hl 0 rfl) ?_
    obtain ⟨a6, a9, a11, a13, a15, a17, a19, a21, a23, a25, a27, w29, w30, w31, w32, hO, hq7, hq8, hq10, hq12, hq14, hq16, hq18, hq20, hq22, hq24, hq26, hq28⟩ := op_15 hI hG0 List.not_mem_nil
    have hI := th_I.weak (a := h0) hI
    have k33 : (nI (n % 401)).toInt = ((n % 401 : Nat) : Int) := nI_toInt (by omega)
    refine th_get hx hb hts inT11 hown hK hO rfl 12 (by decide) (hts _ (tb_c wd_357)) rfl rfl dX11_end_6 ?_
    refine lv_icmp_le (tgt := 14) hx hb dX11_end_9 (by decide) (fun c34 => ?_) (fun c34 => ?_)
    · skip
      have k35 := iv_le (X := x1.toInt) (Y := (nI (n % 401)).toInt) rfl rfl c34
      refine lv_aload_n hx hb dX11_end_14 rfl (lv_at hl 0 rfl) ?_
      refine lv_iload_n hx hb dX11_end_15 rfl (lv_at hl 1 rfl) ?_
      refine th_put (ty := .int) hx hb hts inT11 tyX11 tyX11_ok nmX11 hown hK hO hS ⟨_, hG0⟩ rfl 12 (by decide) (hts _ (tb_c wd_357)) rfl rfl (by decide +kernel) rfl rfl (Nat.le_of_ble_eq_true rfl) dX11_end_16 (fun H locs hO oq hS => ?_)
      have hI := th_I.moved hI oq
      obtain ⟨m36, e37, e38⟩ : ∃ m : Nat, m / 401 = n / 401 ∧ ((m % 401 : Nat) : Int) = x1.toInt := ⟨n / 401 * 401 + (x1.toInt).toNat, by omega, by omega⟩
      have e39 : nI (m36 % 401) = x1 := Int32.toInt_inj.mp (by rw [nI_toInt (by omega)]; omega)
      have hO : va_at D vwCl (h0, .inr (11, [.ref a6, .ref (m36 / 401), .ref a9, .ref a11, .ref a13, .ref a15, .ref a17, .ref a19, .ref a21, .ref a23, .ref a25, .ref a27, .int (nI (m36 % 401)), .int w29, .int w30, .int w31, .int w32])) H := by rw [e37, e39]; exact hO
      obtain ⟨G, hGe, hI, hG0, hS⟩ : ∃ G2 : th_G, G2 = gu Gi h0 (15, m36) ∧ th_I (okC E) D G2 [] H ∧ G2 h0 = some (15, m36) ∧ va_S (th_A G2) s.heap H locs := ⟨gu G h0 (15, m36), by rw [hGe, gu_gu], tp_close hI hG0 hO (ok_15 (gu_tag hG0 hq7 (by decide)) (by rw [e37]; exact gu_tag hG0 hq8 (by decide)) (gu_tag hG0 hq10 (by decide)) (gu_tag hG0 hq12 (by decide)) (gu_tag hG0 hq14 (by decide)) (gu_tag hG0 hq16 (by decide)) (gu_tag hG0 hq18 (by decide)) (gu_tag hG0 hq20 (by decide)) (gu_tag hG0 hq22 (by decide)) (gu_tag hG0 hq24 (by decide)) (gu_tag hG0 hq26 (by decide)) (gu_tag hG0 hq28 (by decide))), gu_at, by rw [gu_A hG0]; exact hS⟩
      refine lv_iload_n hx hb dX11_end_19 rfl (lv_at hl 1 rfl) ?_
      have hGt : G = gu Gi h0 (15, eN n x1) := by rw [hGe]; exact congrArg (fun z => gu Gi h0 (15, z)) (show m36 = eN n x1 from by unfold eN; split <;> omega)
      rw [hGt] at hI hS
      have hpost : ((x1 : Int32) = -1 ∧ ¬ (0 ≤ x1.toInt ∧ x1.toInt ≤ ((n % 401 : Nat) : Int))) ∨ ((x1 : Int32) = x1 ∧ (0 ≤ x1.toInt ∧ x1.toInt ≤ ((n % 401 : Nat) : Int))) := by first | exact Or.inl ⟨rfl, by omega⟩ | exact Or.inr ⟨rfl, by omega⟩
      rw [hQ]
      exact W.iret (v := x1) hx hb hr (fun t ht hW => ⟨⟨x1, (), rfl, hpost, by rw [ht]; exact hI, hN.warm hW, va_K.moved hW.alike hK⟩, hS.F ht⟩) hS.2.2 dX11_end_20
    · skip
      have k40 := iv_nle (X := x1.toInt) (Y := (nI (n % 401)).toInt) rfl rfl c34
      refine lv_iconst (v := (-1)) hx hb dX11_end_12 (by decide) ?_
      have hI := th_I.close hI hG0 hO (ok_15 hq7 hq8 hq10 hq12 hq14 hq16 hq18 hq20 hq22 hq24 hq26 hq28)
      have hGt : G = gu Gi h0 (15, eN n x1) := by rw [hGe]; exact congrArg (fun z => gu Gi h0 (15, z)) (show n = eN n x1 from by unfold eN; split <;> omega)
      rw [hGt] at hI hS
      have hpost : (((-1) : Int32) = -1 ∧ ¬ (0 ≤ x1.toInt ∧ x1.toInt ≤ ((n % 401 : Nat) : Int))) ∨ (((-1) : Int32) = x1 ∧ (0 ≤ x1.toInt ∧ x1.toInt ≤ ((n % 401 : Nat) : Int))) := by first | exact Or.inl ⟨rfl, by omega⟩ | exact Or.inr ⟨rfl, by omega⟩
      rw [hQ]
      exact W.iret (v := (-1)) hx hb hr (fun t ht hW => ⟨⟨(-1), (), rfl, hpost, by rw [ht]; exact hI, hN.warm hW, va_K.moved hW.alike hK⟩, hS.F ht⟩) hS.2.2 dX11_end_13
theorem dX11_of_0 : decode cX11_of 0 = .ok (.iload_n 1, 1) := by decide +kernel
theorem dX11_of_1 : decode cX11_of 1 = .ok (.invokestatic 117, 3) := by decide +kernel
theorem dX11_of_4 : decode cX11_of 4 = .ok (.ifCond .eq 24, 3) := by decide +kernel
theorem dX11_of_7 : decode cX11_of 7 = .ok (.iload_n 2, 1) := by decide +kernel
theorem dX11_of_8 : decode cX11_of 8 = .ok (.ifCond .lt 20, 3) := by decide +kernel
theorem dX11_of_11 : decode cX11_of 11 = .ok (.iload_n 2, 1) := by decide +kernel
theorem dX11_of_12 : decode cX11_of 12 = .ok (.iconst 5, 1) := by decide +kernel
theorem dX11_of_13 : decode cX11_of 13 = .ok (.if_icmp .ge 15, 3) := by decide +kernel
theorem dX11_of_16 : decode cX11_of 16 = .ok (.aload_n 0, 1) := by decide +kernel
theorem dX11_of_17 : decode cX11_of 17 = .ok (.getfield 12, 3) := by decide +kernel
theorem dX11_of_20 : decode cX11_of 20 = .ok (.iload_n 1, 1) := by decide +kernel
theorem dX11_of_21 : decode cX11_of 21 = .ok (.iload_n 2, 1) := by decide +kernel
theorem dX11_of_22 : decode cX11_of 22 = .ok (.invokevirtual 130, 3) := by decide +kernel
theorem dX11_of_25 : decode cX11_of 25 = .ok (.goto 4, 3) := by decide +kernel
theorem dX11_of_28 : decode cX11_of 28 = .ok (.iconst (-1), 1) := by decide +kernel
theorem dX11_of_29 : decode cX11_of 29 = .ok (.ireturn, 1) := by decide +kernel
set_option maxHeartbeats 4000000 in
set_option maxRecDepth 100000 in
theorem c_X11_of (l : Launch) (E : Nat → ClassId) (D : va_G) (G : th_G) (h0 n : Nat) (hG0 : G h0 = some (15, n)) (x1 x2 : Int32) : Met l yX11_of (tb (.code yX11_of cX11_of 3 (some .int))) (rm 2) (va_Pc [.ref h0, .int x1, .int x2] (th_P E D G)) (QI E D G (fun r => True)) 0 0 (th_A G) := by
  refine Met.ofW (cc := cX11_of) (maxL := 3) (ret := (some .int)) (by decide) rfl ?_
  intro p e s m args below meth c s₁ B hml hv
  obtain ⟨hav, hI, hN, hK⟩ := hv
  have hx := B.exec
  have hb := B.bytes
  have hr := B.returns
  have hts := atoms_spec (ws := tb (.code yX11_of cX11_of 3 (some .int))) B.pre
  have hown : s.vm.findClass RX11 = some m.cls := findClass_of_methodNamed B.named
  have hlocks := B.notSynchronized
  have hS : va_S (th_A G) s.heap s.heap [] := va_S.rf
  have hl := lv_entry ([.ref h0, .int x1, .int x2]) (n := 3) (Nat.le_of_ble_eq_true rfl)
  rw [show entryFrame m args 3 = entryFrame m ([.ref h0, .int x1, .int x2] : List Value).toArray 3 from by rw [hav], lg_entry_eq]
  generalize (lg_sl ([.ref h0, .int x1, .int x2]) ++ List.replicate (3 - (lg_sl ([.ref h0, .int x1, .int x2])).length) Slot.unset).toArray = ls at hl ⊢
  have hl : lv_has ls 3 [(0, .ref h0), (1, .int x1), (2, .int x2)] := hl
  generalize hR : (headSpec (tb (.code yX11_of cX11_of 3 (some .int))) (rm 2)).room = R
  have hR := hR.symm
  generalize hQ : MQ below (QI E D G (fun r => True)) args s 0 0 (th_A G) = QF
  have hQ := hQ.symm
  refine lv_iload_n hx hb dX11_of_0 rfl (lv_at hl 1 rfl) ?_
  refine th_cSs (As := [.int x1]) (rest := []) (n := 1) (d := 0) ⟨hx, hb, hml, hown, hts⟩ (c_X11_isPump l s.heap x1) wd_411 wd_412 wd_1 wd_413 (by decide +kernel) ⟨by rw [hR]; exact Nat.le_of_ble_eq_true rfl, by rw [hR]; exact Nat.le_of_ble_eq_true rfl⟩ hN hS rfl hl.1 rfl (Nat.le_of_ble_eq_true rfl) dX11_of_1 ⟨Nat.zero_le _, Nat.zero_le _⟩ (fun r1 locs hp hS => ?_)
  rcases hp with ⟨rfl, hp⟩ | ⟨rfl, hp⟩
  · skip
    try simp only [rg, not_and, Int.not_le] at hp
    have hp2 := hp
    refine lv_if_eq (tgt := 28) hx hb dX11_of_4 (by decide) (fun c => absurd c (by decide)) (fun _ => ?_)
    refine lv_iload_n hx hb dX11_of_7 rfl (lv_at hl 2 rfl) ?_
    have k3 := iv_lo x2
    have k4 := iv_hi x2
    refine lv_if_lt (tgt := 28) hx hb dX11_of_8 (by decide) (fun c5 => ?_) (fun c5 => ?_)
    · skip
      have k6 := iv_lt (X := x2.toInt) (Y := (0)) rfl (by decide) c5
      refine lv_iconst (v := (-1)) hx hb dX11_of_28 (by decide) ?_
      have hpost : True := trivial
      rw [hQ]
      exact W.iret (v := (-1)) hx hb hr (fun t ht hW => ⟨⟨(-1), (), rfl, hpost, by rw [ht]; exact hI, hN.warm hW, va_K.moved hW.alike hK⟩, hS.F ht⟩) hS.2.2 dX11_of_29
    · skip
      have k7 := iv_nlt (X := x2.toInt) (Y := (0)) rfl (by decide) c5
      refine lv_iload_n hx hb dX11_of_11 rfl (lv_at hl 2 rfl) ?_
      refine lv_iconst (v := 5) hx hb dX11_of_12 (by decide) ?_
      refine lv_icmp_ge (tgt := 28) hx hb dX11_of_13 (by decide) (fun c8 => ?_) (fun c8 => ?_)
      · skip
        have k9 := iv_le (X := (5)) (Y := x2.toInt) (by decide) rfl c8
        refine lv_iconst (v := (-1)) hx hb dX11_of_28 (by decide) ?_
        have hpost : True := trivial
        rw [hQ]
        exact W.iret (v := (-1)) hx hb hr (fun t ht hW => ⟨⟨(-1), (), rfl, hpost, by rw [ht]; exact hI, hN.warm hW, va_K.moved hW.alike hK⟩, hS.F ht⟩) hS.2.2 dX11_of_29
      · skip
        have k10 := iv_nle (X := (5)) (Y := x2.toInt) (by decide) rfl c8
        refine lv_aload_n hx hb dX11_of_16 rfl (lv_at hl 0 rfl) ?_
        obtain ⟨a11, a14, a16, a18, a20, a22, a24, a26, a28, a30, a32, w34, w35, w36, w37, hO, hq12, hq13, hq15, hq17, hq19, hq21, hq23, hq25, hq27, hq29, hq31, hq33⟩ := op_15 hI hG0 List.not_mem_nil
        have hI := th_I.weak (a := h0) hI
        have k38 : (nI (n % 401)).toInt = ((n % 401 : Nat) : Int) := nI_toInt (by omega)
        refine th_get hx hb hts inT11 hown hK hO rfl 0 (by decide) (hts _ (tb_c wd_345)) rfl rfl dX11_of_17 ?_
        refine lv_iload_n hx hb dX11_of_20 rfl (lv_at hl 1 rfl) ?_
        refine lv_iload_n hx hb dX11_of_21 rfl (lv_at hl 2 rfl) ?_
        have hI := th_I.close hI hG0 hO (ok_15 hq12 hq13 hq15 hq17 hq19 hq21 hq23 hq25 hq27 hq29 hq31 hq33)
        refine th_cVi (As := [.int x1, .int x2]) (rest := []) (n := 2) (d := 1) ⟨hx, hb, hml, hown, hts⟩ (c_X6_pumpPart l E D G a11 hq12 x1 x2) wd_455 wd_456 wd_457 wd_2 wd_458 (by decide +kernel) ⟨by rw [hR]; exact Nat.le_of_ble_eq_true rfl, by rw [hR]; exact Nat.le_of_ble_eq_true rfl⟩ hI hN hK hS (rc_6 hI hq12 List.not_mem_nil) rfl rfl hl.1 rfl (Nat.le_of_ble_eq_true rfl) dX11_of_22 ⟨Nat.zero_le _, Nat.zero_le _⟩ (fun r39 H locs hp hI hS => ?_)
        refine lv_goto (tgt := 29) hx hb dX11_of_25 (by decide) ?_
        have hpost : True := trivial
        rw [hQ]
        exact W.iret (v := r39) hx hb hr (fun t ht hW => ⟨⟨r39, (), rfl, hpost, by rw [ht]; exact hI, hN.warm hW, va_K.moved hW.alike hK⟩, hS.F ht⟩) hS.2.2 dX11_of_29
  · skip
    try simp only [rg, not_and, Int.not_le] at hp
    have hp40 := hp
    refine lv_if_eq (tgt := 28) hx hb dX11_of_4 (by decide) (fun _ => ?_) (fun c => absurd c (by decide))
    refine lv_iconst (v := (-1)) hx hb dX11_of_28 (by decide) ?_
    have hpost : True := trivial
    rw [hQ]
    exact W.iret (v := (-1)) hx hb hr (fun t ht hW => ⟨⟨(-1), (), rfl, hpost, by rw [ht]; exact hI, hN.warm hW, va_K.moved hW.alike hK⟩, hS.F ht⟩) hS.2.2 dX11_of_29
theorem dX11_pump_0 : decode cX11_pump 0 = .ok (.iload_n 2, 1) := by decide +kernel
theorem dX11_pump_1 : decode cX11_pump 1 = .ok (.invokestatic 106, 3) := by decide +kernel
theorem dX11_pump_4 : decode cX11_pump 4 = .ok (.ifCond .eq 43, 3) := by decide +kernel
theorem dX11_pump_7 : decode cX11_pump 7 = .ok (.iload_n 3, 1) := by decide +kernel
theorem dX11_pump_8 : decode cX11_pump 8 = .ok (.invokestatic 106, 3) := by decide +kernel
theorem dX11_pump_11 : decode cX11_pump 11 = .ok (.ifCond .eq 36, 3) := by decide +kernel
theorem dX11_pump_14 : decode cX11_pump 14 = .ok (.iload_n 3, 1) := by decide +kernel
theorem dX11_pump_15 : decode cX11_pump 15 = .ok (.iload_n 2, 1) := by decide +kernel
theorem dX11_pump_16 : decode cX11_pump 16 = .ok (.if_icmp .lt 31, 3) := by decide +kernel
theorem dX11_pump_19 : decode cX11_pump 19 = .ok (.iload 4, 2) := by decide +kernel
theorem dX11_pump_21 : decode cX11_pump 21 = .ok (.invokestatic 110, 3) := by decide +kernel
theorem dX11_pump_24 : decode cX11_pump 24 = .ok (.ifCond .eq 23, 3) := by decide +kernel
theorem dX11_pump_27 : decode cX11_pump 27 = .ok (.iload 5, 2) := by decide +kernel
theorem dX11_pump_29 : decode cX11_pump 29 = .ok (.invokestatic 110, 3) := by decide +kernel
theorem dX11_pump_32 : decode cX11_pump 32 = .ok (.ifCond .eq 15, 3) := by decide +kernel
theorem dX11_pump_35 : decode cX11_pump 35 = .ok (.iload 6, 2) := by decide +kernel
theorem dX11_pump_37 : decode cX11_pump 37 = .ok (.ifCond .lt 10, 3) := by decide +kernel
theorem dX11_pump_40 : decode cX11_pump 40 = .ok (.iload 6, 2) := by decide +kernel
theorem dX11_pump_42 : decode cX11_pump 42 = .ok (.bipush 6, 2) := by decide +kernel
theorem dX11_pump_44 : decode cX11_pump 44 = .ok (.if_icmp .le 9, 3) := by decide +kernel
theorem dX11_pump_47 : decode cX11_pump 47 = .ok (.aload_n 0, 1) := by decide +kernel
theorem dX11_pump_48 : decode cX11_pump 48 = .ok (.iconst (-1), 1) := by decide +kernel
theorem dX11_pump_49 : decode cX11_pump 49 = .ok (.invokevirtual 113, 3) := by decide +kernel
theorem dX11_pump_52 : decode cX11_pump 52 = .ok (.ireturn, 1) := by decide +kernel
theorem dX11_pump_53 : decode cX11_pump 53 = .ok (.iload_n 1, 1) := by decide +kernel
theorem dX11_pump_54 : decode cX11_pump 54 = .ok (.invokestatic 117, 3) := by decide +kernel
theorem dX11_pump_57 : decode cX11_pump 57 = .ok (.ifCond .ne 10, 3) := by decide +kernel
theorem dX11_pump_60 : decode cX11_pump 60 = .ok (.aload_n 0, 1) := by decide +kernel
theorem dX11_pump_61 : decode cX11_pump 61 = .ok (.bipush (-2), 2) := by decide +kernel
theorem dX11_pump_63 : decode cX11_pump 63 = .ok (.invokevirtual 113, 3) := by decide +kernel
theorem dX11_pump_66 : decode cX11_pump 66 = .ok (.ireturn, 1) := by decide +kernel
theorem dX11_pump_67 : decode cX11_pump 67 = .ok (.aload_n 0, 1) := by decide +kernel
theorem dX11_pump_68 : decode cX11_pump 68 = .ok (.getfield 12, 3) := by decide +kernel
theorem dX11_pump_71 : decode cX11_pump 71 = .ok (.iload_n 1, 1) := by decide +kernel
theorem dX11_pump_72 : decode cX11_pump 72 = .ok (.iload_n 2, 1) := by decide +kernel
theorem dX11_pump_73 : decode cX11_pump 73 = .ok (.iload_n 3, 1) := by decide +kernel
theorem dX11_pump_74 : decode cX11_pump 74 = .ok (.iload 4, 2) := by decide +kernel
theorem dX11_pump_76 : decode cX11_pump 76 = .ok (.iload 5, 2) := by decide +kernel
theorem dX11_pump_78 : decode cX11_pump 78 = .ok (.iload 6, 2) := by decide +kernel
theorem dX11_pump_80 : decode cX11_pump 80 = .ok (.invokevirtual 120, 3) := by decide +kernel
theorem dX11_pump_83 : decode cX11_pump 83 = .ok (.aload_n 0, 1) := by decide +kernel
theorem dX11_pump_84 : decode cX11_pump 84 = .ok (.invokevirtual 124, 3) := by decide +kernel
theorem dX11_pump_87 : decode cX11_pump 87 = .ok (.aload_n 0, 1) := by decide +kernel
theorem dX11_pump_88 : decode cX11_pump 88 = .ok (.iconst 0, 1) := by decide +kernel
theorem dX11_pump_89 : decode cX11_pump 89 = .ok (.invokevirtual 127, 3) := by decide +kernel
theorem dX11_pump_92 : decode cX11_pump 92 = .ok (.ireturn, 1) := by decide +kernel
set_option maxHeartbeats 4000000 in
set_option maxRecDepth 100000 in
theorem c_X11_pump (l : Launch) (E : Nat → ClassId) (D : va_G) (G : th_G) (h0 n : Nat) (hG0 : G h0 = some (15, n)) (x1 x2 x3 x4 x5 x6 : Int32) : Met l yX11_pump (tb (.code yX11_pump cX11_pump 7 (some .int))) (rm 3) (va_Pc [.ref h0, .int x1, .int x2, .int x3, .int x4, .int x5, .int x6] (th_P E D G)) (QI E D G (fun r => ((r : Int32) = -1 ∧ ¬ (rg x2 0 23 ∧ rg x3 0 23 ∧ x2.toInt ≤ x3.toInt ∧ rg x4 0 23 ∧ rg x5 0 23 ∧ rg x6 0 6)) ∨ ((r : Int32) = -2 ∧ (rg x2 0 23 ∧ rg x3 0 23 ∧ x2.toInt ≤ x3.toInt ∧ rg x4 0 23 ∧ rg x5 0 23 ∧ rg x6 0 6) ∧ ¬ rg x1 0 1) ∨ ((r : Int32) = 0 ∧ (rg x2 0 23 ∧ rg x3 0 23 ∧ x2.toInt ≤ x3.toInt ∧ rg x4 0 23 ∧ rg x5 0 23 ∧ rg x6 0 6) ∧ rg x1 0 1))) 0 0 (th_A G) := by
  refine Met.ofW (cc := cX11_pump) (maxL := 7) (ret := (some .int)) (by decide) rfl ?_
  intro p e s m args below meth c s₁ B hml hv
  obtain ⟨hav, hI, hN, hK⟩ := hv
  have hx := B.exec
  have hb := B.bytes
  have hr := B.returns
  have hts := atoms_spec (ws := tb (.code yX11_pump cX11_pump 7 (some .int))) B.pre
  have hown : s.vm.findClass RX11 = some m.cls := findClass_of_methodNamed B.named
  have hlocks := B.notSynchronized
  have hS : va_S (th_A G) s.heap s.heap [] := va_S.rf
  have hl := lv_entry ([.ref h0, .int x1, .int x2, .int x3, .int x4, .int x5, .int x6]) (n := 7) (Nat.le_of_ble_eq_true rfl)
  rw [show entryFrame m args 7 = entryFrame m ([.ref h0, .int x1, .int x2, .int x3, .int x4, .int x5, .int x6] : List Value).toArray 7 from by rw [hav], lg_entry_eq]
  generalize (lg_sl ([.ref h0, .int x1, .int x2, .int x3, .int x4, .int x5, .int x6]) ++ List.replicate (7 - (lg_sl ([.ref h0, .int x1, .int x2, .int x3, .int x4, .int x5, .int x6])).length) Slot.unset).toArray = ls at hl ⊢
  have hl : lv_has ls 7 [(0, .ref h0), (1, .int x1), (2, .int x2), (3, .int x3), (4, .int x4), (5, .int x5), (6, .int x6)] := hl
  generalize hR : (headSpec (tb (.code yX11_pump cX11_pump 7 (some .int))) (rm 3)).room = R
  have hR := hR.symm
  generalize hQ : MQ below (QI E D G (fun r => ((r : Int32) = -1 ∧ ¬ (rg x2 0 23 ∧ rg x3 0 23 ∧ x2.toInt ≤ x3.toInt ∧ rg x4 0 23 ∧ rg x5 0 23 ∧ rg x6 0 6)) ∨ ((r : Int32) = -2 ∧ (rg x2 0 23 ∧ rg x3 0 23 ∧ x2.toInt ≤ x3.toInt ∧ rg x4 0 23 ∧ rg x5 0 23 ∧ rg x6 0 6) ∧ ¬ rg x1 0 1) ∨ ((r : Int32) = 0 ∧ (rg x2 0 23 ∧ rg x3 0 23 ∧ x2.toInt ≤ x3.toInt ∧ rg x4 0 23 ∧ rg x5 0 23 ∧ rg x6 0 6) ∧ rg x1 0 1))) args s 0 0 (th_A G) = QF
  have hQ := hQ.symm
  refine lv_iload_n hx hb dX11_pump_0 rfl (lv_at hl 2 rfl) ?_
  refine th_cSs (As := [.int x2]) (rest := []) (n := 1) (d := 0) ⟨hx, hb, hml, hown, hts⟩ (c_X11_isCell l s.heap x2) wd_401 wd_402 wd_1 wd_403 (by decide +kernel) ⟨by rw [hR]; exact Nat.le_of_ble_eq_true rfl, by rw [hR]; exact Nat.le_of_ble_eq_true rfl⟩ hN hS rfl hl.1 rfl (Nat.le_of_ble_eq_true rfl) dX11_pump_1 ⟨Nat.zero_le _, Nat.zero_le _⟩ (fun r1 locs hp hS => ?_)
  rcases hp with ⟨rfl, hp⟩ | ⟨rfl, hp⟩
  · skip
    try simp only [rg, not_and, Int.not_le] at hp
    have hp2 := hp
    refine lv_if_eq (tgt := 47) hx hb dX11_pump_4 (by decide) (fun c => absurd c (by decide)) (fun _ => ?_)
    refine lv_iload_n hx hb dX11_pump_7 rfl (lv_at hl 3 rfl) ?_
    refine th_cSs (As := [.int x3]) (rest := []) (n := 1) (d := 0) ⟨hx, hb, hml, hown, hts⟩ (c_X11_isCell l s.heap x3) wd_401 wd_402 wd_1 wd_403 (by decide +kernel) ⟨by rw [hR]; exact Nat.le_of_ble_eq_true rfl, by rw [hR]; exact Nat.le_of_ble_eq_true rfl⟩ hN hS rfl hl.1 rfl (Nat.le_of_ble_eq_true rfl) dX11_pump_8 ⟨Nat.zero_le _, Nat.zero_le _⟩ (fun r3 locs hp hS => ?_)
    rcases hp with ⟨rfl, hp⟩ | ⟨rfl, hp⟩
    · skip
      try simp only [rg, not_and, Int.not_le] at hp
      have hp4 := hp
      refine lv_if_eq (tgt := 47) hx hb dX11_pump_11 (by decide) (fun c => absurd c (by decide)) (fun _ => ?_)
      refine lv_iload_n hx hb dX11_pump_14 rfl (lv_at hl 3 rfl) ?_
      refine lv_iload_n hx hb dX11_pump_15 rfl (lv_at hl 2 rfl) ?_
      refine lv_icmp_lt (tgt := 47) hx hb dX11_pump_16 (by decide) (fun c5 => ?_) (fun c5 => ?_)
      · skip
        have k6 := iv_lt (X := x3.toInt) (Y := x2.toInt) rfl rfl c5
        refine lv_aload_n hx hb dX11_pump_47 rfl (lv_at hl 0 rfl) ?_
        refine lv_iconst (v := (-1)) hx hb dX11_pump_48 (by decide) ?_
        refine th_cVi (As := [.int (-1)]) (rest := []) (n := 1) (d := 0) ⟨hx, hb, hml, hown, hts⟩ (c_X11_refuse l E D G h0 (n) hG0 (-1)) wd_407 wd_409 wp_0 wd_1 wd_410 (by decide +kernel) ⟨by rw [hR]; exact Nat.le_of_ble_eq_true rfl, by rw [hR]; exact Nat.le_of_ble_eq_true rfl⟩ hI hN hK hS (rc_15 hI hG0 List.not_mem_nil) rfl rfl hl.1 rfl (Nat.le_of_ble_eq_true rfl) dX11_pump_49 ⟨Nat.zero_le _, Nat.zero_le _⟩ (fun r7 H locs hp hI hS => ?_)
        have hp := hp.symm
        subst hp
        have hpost : (((-1) : Int32) = -1 ∧ ¬ (rg x2 0 23 ∧ rg x3 0 23 ∧ x2.toInt ≤ x3.toInt ∧ rg x4 0 23 ∧ rg x5 0 23 ∧ rg x6 0 6)) ∨ (((-1) : Int32) = -2 ∧ (rg x2 0 23 ∧ rg x3 0 23 ∧ x2.toInt ≤ x3.toInt ∧ rg x4 0 23 ∧ rg x5 0 23 ∧ rg x6 0 6) ∧ ¬ rg x1 0 1) ∨ (((-1) : Int32) = 0 ∧ (rg x2 0 23 ∧ rg x3 0 23 ∧ x2.toInt ≤ x3.toInt ∧ rg x4 0 23 ∧ rg x5 0 23 ∧ rg x6 0 6) ∧ rg x1 0 1) := by first | exact Or.inl ⟨rfl, by simp only [rg]; omega⟩ | exact Or.inr (Or.inl ⟨rfl, by simp only [rg]; omega⟩) | exact Or.inr (Or.inr ⟨rfl, by simp only [rg]; omega⟩)
        rw [hQ]
        exact W.iret (v := (-1)) hx hb hr (fun t ht hW => ⟨⟨(-1), (), rfl, hpost, by rw [ht]; exact hI, hN.warm hW, va_K.moved hW.alike hK⟩, hS.F ht⟩) hS.2.2 dX11_pump_52
      · skip
        have k8 := iv_nlt (X := x3.toInt) (Y := x2.toInt) rfl rfl c5
        refine lv_iload hx hb dX11_pump_19 (lv_at hl 4 rfl) ?_
        refine th_cSs (As := [.int x4]) (rest := []) (n := 1) (d := 0) ⟨hx, hb, hml, hown, hts⟩ (c_X11_isClock l s.heap x4) wd_404 wd_405 wd_1 wd_406 (by decide +kernel) ⟨by rw [hR]; exact Nat.le_of_ble_eq_true rfl, by rw [hR]; exact Nat.le_of_ble_eq_true rfl⟩ hN hS rfl hl.1 rfl (Nat.le_of_ble_eq_true rfl) dX11_pump_21 ⟨Nat.zero_le _, Nat.zero_le _⟩ (fun r9 locs hp hS => ?_)
        rcases hp with ⟨rfl, hp⟩ | ⟨rfl, hp⟩
        · skip
          try simp only [rg, not_and, Int.not_le] at hp
          have hp10 := hp
          refine lv_if_eq (tgt := 47) hx hb dX11_pump_24 (by decide) (fun c => absurd c (by decide)) (fun _ => ?_)
          refine lv_iload hx hb dX11_pump_27 (lv_at hl 5 rfl) ?_
          refine th_cSs (As := [.int x5]) (rest := []) (n := 1) (d := 0) ⟨hx, hb, hml, hown, hts⟩ (c_X11_isClock l s.heap x5) wd_404 wd_405 wd_1 wd_406 (by decide +kernel) ⟨by rw [hR]; exact Nat.le_of_ble_eq_true rfl, by rw [hR]; exact Nat.le_of_ble_eq_true rfl⟩ hN hS rfl hl.1 rfl (Nat.le_of_ble_eq_true rfl) dX11_pump_29 ⟨Nat.zero_le _, Nat.zero_le _⟩ (fun r11 locs hp hS => ?_)
          rcases hp with ⟨rfl, hp⟩ | ⟨rfl, hp⟩
          · skip
            try simp only [rg, not_and, Int.not_le] at hp
            have hp12 := hp
            refine lv_if_eq (tgt := 47) hx hb dX11_pump_32 (by decide) (fun c => absurd c (by decide)) (fun _ => ?_)
            refine lv_iload hx hb dX11_pump_35 (lv_at hl 6 rfl) ?_
            have k13 := iv_lo x6
            have k14 := iv_hi x6
            refine lv_if_lt (tgt := 47) hx hb dX11_pump_37 (by decide) (fun c15 => ?_) (fun c15 => ?_)
            · skip
              have k16 := iv_lt (X := x6.toInt) (Y := (0)) rfl (by decide) c15
              refine lv_aload_n hx hb dX11_pump_47 rfl (lv_at hl 0 rfl) ?_
              refine lv_iconst (v := (-1)) hx hb dX11_pump_48 (by decide) ?_
              refine th_cVi (As := [.int (-1)]) (rest := []) (n := 1) (d := 0) ⟨hx, hb, hml, hown, hts⟩ (c_X11_refuse l E D G h0 (n) hG0 (-1)) wd_407 wd_409 wp_0 wd_1 wd_410 (by decide +kernel) ⟨by rw [hR]; exact Nat.le_of_ble_eq_true rfl, by rw [hR]; exact Nat.le_of_ble_eq_true rfl⟩ hI hN hK hS (rc_15 hI hG0 List.not_mem_nil) rfl rfl hl.1 rfl (Nat.le_of_ble_eq_true rfl) dX11_pump_49 ⟨Nat.zero_le _, Nat.zero_le _⟩ (fun r17 H locs hp hI hS => ?_)
              have hp := hp.symm
              subst hp
              have hpost : (((-1) : Int32) = -1 ∧ ¬ (rg x2 0 23 ∧ rg x3 0 23 ∧ x2.toInt ≤ x3.toInt ∧ rg x4 0 23 ∧ rg x5 0 23 ∧ rg x6 0 6)) ∨ (((-1) : Int32) = -2 ∧ (rg x2 0 23 ∧ rg x3 0 23 ∧ x2.toInt ≤ x3.toInt ∧ rg x4 0 23 ∧ rg x5 0 23 ∧ rg x6 0 6) ∧ ¬ rg x1 0 1) ∨ (((-1) : Int32) = 0 ∧ (rg x2 0 23 ∧ rg x3 0 23 ∧ x2.toInt ≤ x3.toInt ∧ rg x4 0 23 ∧ rg x5 0 23 ∧ rg x6 0 6) ∧ rg x1 0 1) := by first | exact Or.inl ⟨rfl, by simp only [rg]; omega⟩ | exact Or.inr (Or.inl ⟨rfl, by simp only [rg]; omega⟩) | exact Or.inr (Or.inr ⟨rfl, by simp only [rg]; omega⟩)
              rw [hQ]
              exact W.iret (v := (-1)) hx hb hr (fun t ht hW => ⟨⟨(-1), (), rfl, hpost, by rw [ht]; exact hI, hN.warm hW, va_K.moved hW.alike hK⟩, hS.F ht⟩) hS.2.2 dX11_pump_52
            · skip
              have k18 := iv_nlt (X := x6.toInt) (Y := (0)) rfl (by decide) c15
              refine lv_iload hx hb dX11_pump_40 (lv_at hl 6 rfl) ?_
              refine lv_bipush (v := 6) hx hb dX11_pump_42 (by decide) ?_
              refine lv_icmp_le (tgt := 53) hx hb dX11_pump_44 (by decide) (fun c19 => ?_) (fun c19 => ?_)
              · skip
                have k20 := iv_le (X := x6.toInt) (Y := (6)) rfl (by decide) c19
                refine lv_iload_n hx hb dX11_pump_53 rfl (lv_at hl 1 rfl) ?_
                refine th_cSs (As := [.int x1]) (rest := []) (n := 1) (d := 0) ⟨hx, hb, hml, hown, hts⟩ (c_X11_isPump l s.heap x1) wd_411 wd_412 wd_1 wd_413 (by decide +kernel) ⟨by rw [hR]; exact Nat.le_of_ble_eq_true rfl, by rw [hR]; exact Nat.le_of_ble_eq_true rfl⟩ hN hS rfl hl.1 rfl (Nat.le_of_ble_eq_true rfl) dX11_pump_54 ⟨Nat.zero_le _, Nat.zero_le _⟩ (fun r21 locs hp hS => ?_)
                rcases hp with ⟨rfl, hp⟩ | ⟨rfl, hp⟩
                · skip
                  try simp only [rg, not_and, Int.not_le] at hp
                  have hp22 := hp
                  refine lv_if_ne (tgt := 67) hx hb dX11_pump_57 (by decide) (fun _ => ?_) (fun c => absurd c (by decide))
                  refine lv_aload_n hx hb dX11_pump_67 rfl (lv_at hl 0 rfl) ?_
                  obtain ⟨a23, a26, a28, a30, a32, a34, a36, a38, a40, a42, a44, w46, w47, w48, w49, hO, hq24, hq25, hq27, hq29, hq31, hq33, hq35, hq37, hq39, hq41, hq43, hq45⟩ := op_15 hI hG0 List.not_mem_nil
                  have hI := th_I.weak (a := h0) hI
                  have k50 : (nI (n % 401)).toInt = ((n % 401 : Nat) : Int) := nI_toInt (by omega)
                  refine th_get hx hb hts inT11 hown hK hO rfl 0 (by decide) (hts _ (tb_c wd_345)) rfl rfl dX11_pump_68 ?_
                  refine lv_iload_n hx hb dX11_pump_71 rfl (lv_at hl 1 rfl) ?_
                  refine lv_iload_n hx hb dX11_pump_72 rfl (lv_at hl 2 rfl) ?_
                  refine lv_iload_n hx hb dX11_pump_73 rfl (lv_at hl 3 rfl) ?_
                  refine lv_iload hx hb dX11_pump_74 (lv_at hl 4 rfl) ?_
                  refine lv_iload hx hb dX11_pump_76 (lv_at hl 5 rfl) ?_
                  refine lv_iload hx hb dX11_pump_78 (lv_at hl 6 rfl) ?_
                  have hI := th_I.close hI hG0 hO (ok_15 hq24 hq25 hq27 hq29 hq31 hq33 hq35 hq37 hq39 hq41 hq43 hq45)
                  refine th_cVv (As := [.int x1, .int x2, .int x3, .int x4, .int x5, .int x6]) (rest := []) (n := 6) (d := 2) ⟨hx, hb, hml, hown, hts⟩ (c_X6_tellPump l E D G a23 hq24 x1 x2 x3 x4 x5 x6) wd_414 wd_415 wd_416 wd_2 wd_417 (by decide +kernel) ⟨by rw [hR]; exact Nat.le_of_ble_eq_true rfl, by rw [hR]; exact Nat.le_of_ble_eq_true rfl⟩ hI hN hK hS (rc_6 hI hq24 List.not_mem_nil) rfl rfl hl.1 rfl (Nat.le_of_ble_eq_true rfl) dX11_pump_80 ⟨Nat.zero_le _, Nat.zero_le _⟩ (fun H locs hI hS => ?_)
                  refine lv_aload_n hx hb dX11_pump_83 rfl (lv_at hl 0 rfl) ?_
                  refine th_cVv (As := []) (rest := []) (n := 0) (d := 2) ⟨hx, hb, hml, hown, hts⟩ (c_X11_turnRiver l E D G h0 (n) hG0 ) wd_423 wd_425 wp_1 wd_1 wd_426 (by decide +kernel) ⟨by rw [hR]; exact Nat.le_of_ble_eq_true rfl, by rw [hR]; exact Nat.le_of_ble_eq_true rfl⟩ hI hN hK hS (rc_15 hI hG0 List.not_mem_nil) rfl rfl hl.1 rfl (Nat.le_of_ble_eq_true rfl) dX11_pump_84 ⟨Nat.zero_le _, Nat.zero_le _⟩ (fun H locs hI hS => ?_)
                  refine lv_aload_n hx hb dX11_pump_87 rfl (lv_at hl 0 rfl) ?_
                  refine lv_iconst (v := 0) hx hb dX11_pump_88 (by decide) ?_
                  refine th_cVi (As := [.int 0]) (rest := []) (n := 1) (d := 0) ⟨hx, hb, hml, hown, hts⟩ (c_X11_accept l E D G h0 (n) hG0 0) wd_447 wd_449 wp_3 wd_1 wd_450 (by decide +kernel) ⟨by rw [hR]; exact Nat.le_of_ble_eq_true rfl, by rw [hR]; exact Nat.le_of_ble_eq_true rfl⟩ hI hN hK hS (rc_15 hI hG0 List.not_mem_nil) rfl rfl hl.1 rfl (Nat.le_of_ble_eq_true rfl) dX11_pump_89 ⟨Nat.zero_le _, Nat.zero_le _⟩ (fun r53 H locs hp hI hS => ?_)
                  have hp := hp.symm
                  subst hp
                  have hpost : ((0 : Int32) = -1 ∧ ¬ (rg x2 0 23 ∧ rg x3 0 23 ∧ x2.toInt ≤ x3.toInt ∧ rg x4 0 23 ∧ rg x5 0 23 ∧ rg x6 0 6)) ∨ ((0 : Int32) = -2 ∧ (rg x2 0 23 ∧ rg x3 0 23 ∧ x2.toInt ≤ x3.toInt ∧ rg x4 0 23 ∧ rg x5 0 23 ∧ rg x6 0 6) ∧ ¬ rg x1 0 1) ∨ ((0 : Int32) = 0 ∧ (rg x2 0 23 ∧ rg x3 0 23 ∧ x2.toInt ≤ x3.toInt ∧ rg x4 0 23 ∧ rg x5 0 23 ∧ rg x6 0 6) ∧ rg x1 0 1) := by first | exact Or.inl ⟨rfl, by simp only [rg]; omega⟩ | exact Or.inr (Or.inl ⟨rfl, by simp only [rg]; omega⟩) | exact Or.inr (Or.inr ⟨rfl, by simp only [rg]; omega⟩)
                  rw [hQ]
                  exact W.iret (v := 0) hx hb hr (fun t ht hW => ⟨⟨0, (), rfl, hpost, by rw [ht]; exact hI, hN.warm hW, va_K.moved hW.alike hK⟩, hS.F ht⟩) hS.2.2 dX11_pump_92
                · skip
                  try simp only [rg, not_and, Int.not_le] at hp
                  have hp54 := hp
                  refine lv_if_ne (tgt := 67) hx hb dX11_pump_57 (by decide) (fun c => absurd c (by decide)) (fun _ => ?_)
                  refine lv_aload_n hx hb dX11_pump_60 rfl (lv_at hl 0 rfl) ?_
                  refine lv_bipush (v := (-2)) hx hb dX11_pump_61 (by decide) ?_
                  refine th_cVi (As := [.int (-2)]) (rest := []) (n := 1) (d := 0) ⟨hx, hb, hml, hown, hts⟩ (c_X11_refuse l E D G h0 (n) hG0 (-2)) wd_407 wd_409 wp_0 wd_1 wd_410 (by decide +kernel) ⟨by rw [hR]; exact Nat.le_of_ble_eq_true rfl, by rw [hR]; exact Nat.le_of_ble_eq_true rfl⟩ hI hN hK hS (rc_15 hI hG0 List.not_mem_nil) rfl rfl hl.1 rfl (Nat.le_of_ble_eq_true rfl) dX11_pump_63 ⟨Nat.zero_le _, Nat.zero_le _⟩ (fun r55 H locs hp hI hS => ?_)
                  have hp := hp.symm
                  subst hp
                  have hpost : (((-2) : Int32) = -1 ∧ ¬ (rg x2 0 23 ∧ rg x3 0 23 ∧ x2.toInt ≤ x3.toInt ∧ rg x4 0 23 ∧ rg x5 0 23 ∧ rg x6 0 6)) ∨ (((-2) : Int32) = -2 ∧ (rg x2 0 23 ∧ rg x3 0 23 ∧ x2.toInt ≤ x3.toInt ∧ rg x4 0 23 ∧ rg x5 0 23 ∧ rg x6 0 6) ∧ ¬ rg x1 0 1) ∨ (((-2) : Int32) = 0 ∧ (rg x2 0 23 ∧ rg x3 0 23 ∧ x2.toInt ≤ x3.toInt ∧ rg x4 0 23 ∧ rg x5 0 23 ∧ rg x6 0 6) ∧ rg x1 0 1) := by first | exact Or.inl ⟨rfl, by simp only [rg]; omega⟩ | exact Or.inr (Or.inl ⟨rfl, by simp only [rg]; omega⟩) | exact Or.inr (Or.inr ⟨rfl, by simp only [rg]; omega⟩)
                  rw [hQ]
                  exact W.iret (v := (-2)) hx hb hr (fun t ht hW => ⟨⟨(-2), (), rfl, hpost, by rw [ht]; exact hI, hN.warm hW, va_K.moved hW.alike hK⟩, hS.F ht⟩) hS.2.2 dX11_pump_66
              · skip
                have k56 := iv_nle (X := x6.toInt) (Y := (6)) rfl (by decide) c19
                refine lv_aload_n hx hb dX11_pump_47 rfl (lv_at hl 0 rfl) ?_
                refine lv_iconst (v := (-1)) hx hb dX11_pump_48 (by decide) ?_
                refine th_cVi (As := [.int (-1)]) (rest := []) (n := 1) (d := 0) ⟨hx, hb, hml, hown, hts⟩ (c_X11_refuse l E D G h0 (n) hG0 (-1)) wd_407 wd_409 wp_0 wd_1 wd_410 (by decide +kernel) ⟨by rw [hR]; exact Nat.le_of_ble_eq_true rfl, by rw [hR]; exact Nat.le_of_ble_eq_true rfl⟩ hI hN hK hS (rc_15 hI hG0 List.not_mem_nil) rfl rfl hl.1 rfl (Nat.le_of_ble_eq_true rfl) dX11_pump_49 ⟨Nat.zero_le _, Nat.zero_le _⟩ (fun r57 H locs hp hI hS => ?_)
                have hp := hp.symm
                subst hp
                have hpost : (((-1) : Int32) = -1 ∧ ¬ (rg x2 0 23 ∧ rg x3 0 23 ∧ x2.toInt ≤ x3.toInt ∧ rg x4 0 23 ∧ rg x5 0 23 ∧ rg x6 0 6)) ∨ (((-1) : Int32) = -2 ∧ (rg x2 0 23 ∧ rg x3 0 23 ∧ x2.toInt ≤ x3.toInt ∧ rg x4 0 23 ∧ rg x5 0 23 ∧ rg x6 0 6) ∧ ¬ rg x1 0 1) ∨ (((-1) : Int32) = 0 ∧ (rg x2 0 23 ∧ rg x3 0 23 ∧ x2.toInt ≤ x3.toInt ∧ rg x4 0 23 ∧ rg x5 0 23 ∧ rg x6 0 6) ∧ rg x1 0 1) := by first | exact Or.inl ⟨rfl, by simp only [rg]; omega⟩ | exact Or.inr (Or.inl ⟨rfl, by simp only [rg]; omega⟩) | exact Or.inr (Or.inr ⟨rfl, by simp only [rg]; omega⟩)
                rw [hQ]
                exact W.iret (v := (-1)) hx hb hr (fun t ht hW => ⟨⟨(-1), (), rfl, hpost, by rw [ht]; exact hI, hN.warm hW, va_K.moved hW.alike hK⟩, hS.F ht⟩) hS.2.2 dX11_pump_52
          · skip
            try simp only [rg, not_and, Int.not_le] at hp
            have hp58 := hp
            refine lv_if_eq (tgt := 47) hx hb dX11_pump_32 (by decide) (fun _ => ?_) (fun c => absurd c (by decide))
            refine lv_aload_n hx hb dX11_pump_47 rfl (lv_at hl 0 rfl) ?_
            refine lv_iconst (v := (-1)) hx hb dX11_pump_48 (by decide) ?_
            refine th_cVi (As := [.int (-1)]) (rest := []) (n := 1) (d := 0) ⟨hx, hb, hml, hown, hts⟩ (c_X11_refuse l E D G h0 (n) hG0 (-1)) wd_407 wd_409 wp_0 wd_1 wd_410 (by decide +kernel) ⟨by rw [hR]; exact Nat.le_of_ble_eq_true rfl, by rw [hR]; exact Nat.le_of_ble_eq_true rfl⟩ hI hN hK hS (rc_15 hI hG0 List.not_mem_nil) rfl rfl hl.1 rfl (Nat.le_of_ble_eq_true rfl) dX11_pump_49 ⟨Nat.zero_le _, Nat.zero_le _⟩ (fun r59 H locs hp hI hS => ?_)
            have hp := hp.symm
            subst hp
            have hpost : (((-1) : Int32) = -1 ∧ ¬ (rg x2 0 23 ∧ rg x3 0 23 ∧ x2.toInt ≤ x3.toInt ∧ rg x4 0 23 ∧ rg x5 0 23 ∧ rg x6 0 6)) ∨ (((-1) : Int32) = -2 ∧ (rg x2 0 23 ∧ rg x3 0 23 ∧ x2.toInt ≤ x3.toInt ∧ rg x4 0 23 ∧ rg x5 0 23 ∧ rg x6 0 6) ∧ ¬ rg x1 0 1) ∨ (((-1) : Int32) = 0 ∧ (rg x2 0 23 ∧ rg x3 0 23 ∧ x2.toInt ≤ x3.toInt ∧ rg x4 0 23 ∧ rg x5 0 23 ∧ rg x6 0 6) ∧ rg x1 0 1) := by first | exact Or.inl ⟨rfl, by simp only [rg]; omega⟩ | exact Or.inr (Or.inl ⟨rfl, by simp only [rg]; omega⟩) | exact Or.inr (Or.inr ⟨rfl, by simp only [rg]; omega⟩)
            rw [hQ]
            exact W.iret (v := (-1)) hx hb hr (fun t ht hW => ⟨⟨(-1), (), rfl, hpost, by rw [ht]; exact hI, hN.warm hW, va_K.moved hW.alike hK⟩, hS.F ht⟩) hS.2.2 dX11_pump_52
        · skip
          try simp only [rg, not_and, Int.not_le] at hp
          have hp60 := hp
          refine lv_if_eq (tgt := 47) hx hb dX11_pump_24 (by decide) (fun _ => ?_) (fun c => absurd c (by decide))
          refine lv_aload_n hx hb dX11_pump_47 rfl (lv_at hl 0 rfl) ?_
          refine lv_iconst (v := (-1)) hx hb dX11_pump_48 (by decide) ?_
          refine th_cVi (As := [.int (-1)]) (rest := []) (n := 1) (d := 0) ⟨hx, hb, hml, hown, hts⟩ (c_X11_refuse l E D G h0 (n) hG0 (-1)) wd_407 wd_409 wp_0 wd_1 wd_410 (by decide +kernel) ⟨by rw [hR]; exact Nat.le_of_ble_eq_true rfl, by rw [hR]; exact Nat.le_of_ble_eq_true rfl⟩ hI hN hK hS (rc_15 hI hG0 List.not_mem_nil) rfl rfl hl.1 rfl (Nat.le_of_ble_eq_true rfl) dX11_pump_49 ⟨Nat.zero_le _, Nat.zero_le _⟩ (fun r61 H locs hp hI hS => ?_)
          have hp := hp.symm
          subst hp
          have hpost : (((-1) : Int32) = -1 ∧ ¬ (rg x2 0 23 ∧ rg x3 0 23 ∧ x2.toInt ≤ x3.toInt ∧ rg x4 0 23 ∧ rg x5 0 23 ∧ rg x6 0 6)) ∨ (((-1) : Int32) = -2 ∧ (rg x2 0 23 ∧ rg x3 0 23 ∧ x2.toInt ≤ x3.toInt ∧ rg x4 0 23 ∧ rg x5 0 23 ∧ rg x6 0 6) ∧ ¬ rg x1 0 1) ∨ (((-1) : Int32) = 0 ∧ (rg x2 0 23 ∧ rg x3 0 23 ∧ x2.toInt ≤ x3.toInt ∧ rg x4 0 23 ∧ rg x5 0 23 ∧ rg x6 0 6) ∧ rg x1 0 1) := by first | exact Or.inl ⟨rfl, by simp only [rg]; omega⟩ | exact Or.inr (Or.inl ⟨rfl, by simp only [rg]; omega⟩) | exact Or.inr (Or.inr ⟨rfl, by simp only [rg]; omega⟩)
          rw [hQ]
          exact W.iret (v := (-1)) hx hb hr (fun t ht hW => ⟨⟨(-1), (), rfl, hpost, by rw [ht]; exact hI, hN.warm hW, va_K.moved hW.alike hK⟩, hS.F ht⟩) hS.2.2 dX11_pump_52
    · skip
      try simp only [rg, not_and, Int.not_le] at hp
      have hp62 := hp
      refine lv_if_eq (tgt := 47) hx hb dX11_pump_11 (by decide) (fun _ => ?_) (fun c => absurd c (by decide))
      refine lv_aload_n hx hb dX11_pump_47 rfl (lv_at hl 0 rfl) ?_
      refine lv_iconst (v := (-1)) hx hb dX11_pump_48 (by decide) ?_
      refine th_cVi (As := [.int (-1)]) (rest := []) (n := 1) (d := 0) ⟨hx, hb, hml, hown, hts⟩ (c_X11_refuse l E D G h0 (n) hG0 (-1)) wd_407 wd_409 wp_0 wd_1 wd_410 (by decide +kernel) ⟨by rw [hR]; exact Nat.le_of_ble_eq_true rfl, by rw [hR]; exact Nat.le_of_ble_eq_true rfl⟩ hI hN hK hS (rc_15 hI hG0 List.not_mem_nil) rfl rfl hl.1 rfl (Nat.le_of_ble_eq_true rfl) dX11_pump_49 ⟨Nat.zero_le _, Nat.zero_le _⟩ (fun r63 H locs hp hI hS => ?_)
      have hp := hp.symm
      subst hp
      have hpost : (((-1) : Int32) = -1 ∧ ¬ (rg x2 0 23 ∧ rg x3 0 23 ∧ x2.toInt ≤ x3.toInt ∧ rg x4 0 23 ∧ rg x5 0 23 ∧ rg x6 0 6)) ∨ (((-1) : Int32) = -2 ∧ (rg x2 0 23 ∧ rg x3 0 23 ∧ x2.toInt ≤ x3.toInt ∧ rg x4 0 23 ∧ rg x5 0 23 ∧ rg x6 0 6) ∧ ¬ rg x1 0 1) ∨ (((-1) : Int32) = 0 ∧ (rg x2 0 23 ∧ rg x3 0 23 ∧ x2.toInt ≤ x3.toInt ∧ rg x4 0 23 ∧ rg x5 0 23 ∧ rg x6 0 6) ∧ rg x1 0 1) := by first | exact Or.inl ⟨rfl, by simp only [rg]; omega⟩ | exact Or.inr (Or.inl ⟨rfl, by simp only [rg]; omega⟩) | exact Or.inr (Or.inr ⟨rfl, by simp only [rg]; omega⟩)
      rw [hQ]
      exact W.iret (v := (-1)) hx hb hr (fun t ht hW => ⟨⟨(-1), (), rfl, hpost, by rw [ht]; exact hI, hN.warm hW, va_K.moved hW.alike hK⟩, hS.F ht⟩) hS.2.2 dX11_pump_52
  · skip
    try simp only [rg, not_and, Int.not_le] at hp
    have hp64 := hp
    refine lv_if_eq (tgt := 47) hx hb dX11_pump_4 (by decide) (fun _ => ?_) (fun c => absurd c (by decide))
    refine lv_aload_n hx hb dX11_pump_47 rfl (lv_at hl 0 rfl) ?_
    refine lv_iconst (v := (-1)) hx hb dX11_pump_48 (by decide) ?_
    refine th_cVi (As := [.int (-1)]) (rest := []) (n := 1) (d := 0) ⟨hx, hb, hml, hown, hts⟩ (c_X11_refuse l E D G h0 (n) hG0 (-1)) wd_407 wd_409 wp_0 wd_1 wd_410 (by decide +kernel) ⟨by rw [hR]; exact Nat.le_of_ble_eq_true rfl, by rw [hR]; exact Nat.le_of_ble_eq_true rfl⟩ hI hN hK hS (rc_15 hI hG0 List.not_mem_nil) rfl rfl hl.1 rfl (Nat.le_of_ble_eq_true rfl) dX11_pump_49 ⟨Nat.zero_le _, Nat.zero_le _⟩ (fun r65 H locs hp hI hS => ?_)
    have hp := hp.symm
    subst hp
    have hpost : (((-1) : Int32) = -1 ∧ ¬ (rg x2 0 23 ∧ rg x3 0 23 ∧ x2.toInt ≤ x3.toInt ∧ rg x4 0 23 ∧ rg x5 0 23 ∧ rg x6 0 6)) ∨ (((-1) : Int32) = -2 ∧ (rg x2 0 23 ∧ rg x3 0 23 ∧ x2.toInt ≤ x3.toInt ∧ rg x4 0 23 ∧ rg x5 0 23 ∧ rg x6 0 6) ∧ ¬ rg x1 0 1) ∨ (((-1) : Int32) = 0 ∧ (rg x2 0 23 ∧ rg x3 0 23 ∧ x2.toInt ≤ x3.toInt ∧ rg x4 0 23 ∧ rg x5 0 23 ∧ rg x6 0 6) ∧ rg x1 0 1) := by first | exact Or.inl ⟨rfl, by simp only [rg]; omega⟩ | exact Or.inr (Or.inl ⟨rfl, by simp only [rg]; omega⟩) | exact Or.inr (Or.inr ⟨rfl, by simp only [rg]; omega⟩)
    rw [hQ]
    exact W.iret (v := (-1)) hx hb hr (fun t ht hW => ⟨⟨(-1), (), rfl, hpost, by rw [ht]; exact hI, hN.warm hW, va_K.moved hW.alike hK⟩, hS.F ht⟩) hS.2.2 dX11_pump_52
theorem dX11_strike_0 : decode cX11_strike 0 = .ok (.iload_n 1, 1) := by decide +kernel
theorem dX11_strike_1 : decode cX11_strike 1 = .ok (.iload_n 2, 1) := by decide +kernel
theorem dX11_strike_2 : decode cX11_strike 2 = .ok (.invokestatic 134, 3) := by decide +kernel
theorem dX11_strike_5 : decode cX11_strike 5 = .ok (.ifCond .eq 10, 3) := by decide +kernel
theorem dX11_strike_8 : decode cX11_strike 8 = .ok (.iload_n 3, 1) := by decide +kernel
theorem dX11_strike_9 : decode cX11_strike 9 = .ok (.invokestatic 138, 3) := by decide +kernel
theorem dX11_strike_12 : decode cX11_strike 12 = .ok (.ifCond .ne 9, 3) := by decide +kernel
theorem dX11_strike_15 : decode cX11_strike 15 = .ok (.aload_n 0, 1) := by decide +kernel
theorem dX11_strike_16 : decode cX11_strike 16 = .ok (.iconst (-1), 1) := by decide +kernel
theorem dX11_strike_17 : decode cX11_strike 17 = .ok (.invokevirtual 113, 3) := by decide +kernel
theorem dX11_strike_20 : decode cX11_strike 20 = .ok (.ireturn, 1) := by decide +kernel
theorem dX11_strike_21 : decode cX11_strike 21 = .ok (.aload_n 0, 1) := by decide +kernel
theorem dX11_strike_22 : decode cX11_strike 22 = .ok (.getfield 12, 3) := by decide +kernel
theorem dX11_strike_25 : decode cX11_strike 25 = .ok (.iload_n 1, 1) := by decide +kernel
theorem dX11_strike_26 : decode cX11_strike 26 = .ok (.iload_n 2, 1) := by decide +kernel
theorem dX11_strike_27 : decode cX11_strike 27 = .ok (.iload_n 3, 1) := by decide +kernel
theorem dX11_strike_28 : decode cX11_strike 28 = .ok (.invokevirtual 141, 3) := by decide +kernel
theorem dX11_strike_31 : decode cX11_strike 31 = .ok (.istore 4, 2) := by decide +kernel
theorem dX11_strike_33 : decode cX11_strike 33 = .ok (.iload 4, 2) := by decide +kernel
theorem dX11_strike_35 : decode cX11_strike 35 = .ok (.ifCond .le 7, 3) := by decide +kernel
theorem dX11_strike_38 : decode cX11_strike 38 = .ok (.aload_n 0, 1) := by decide +kernel
theorem dX11_strike_39 : decode cX11_strike 39 = .ok (.invokevirtual 124, 3) := by decide +kernel
theorem dX11_strike_42 : decode cX11_strike 42 = .ok (.aload_n 0, 1) := by decide +kernel
theorem dX11_strike_43 : decode cX11_strike 43 = .ok (.iload 4, 2) := by decide +kernel
theorem dX11_strike_45 : decode cX11_strike 45 = .ok (.invokevirtual 127, 3) := by decide +kernel
theorem dX11_strike_48 : decode cX11_strike 48 = .ok (.ireturn, 1) := by decide +kernel
set_option maxHeartbeats 4000000 in
set_option maxRecDepth 100000 in
theorem c_X11_strike (l : Launch) (E : Nat → ClassId) (D : va_G) (G : th_G) (h0 n : Nat) (hG0 : G h0 = some (15, n)) (x1 x2 x3 : Int32) : Met l yX11_strike (tb (.code yX11_strike cX11_strike 5 (some .int))) (rm 3) (va_Pc [.ref h0, .int x1, .int x2, .int x3] (th_P E D G)) (QI E D G (fun r => True)) 0 0 (th_A G) := by
  refine Met.ofW (cc := cX11_strike) (maxL := 5) (ret := (some .int)) (by decide) rfl ?_
  intro p e s m args below meth c s₁ B hml hv
  obtain ⟨hav, hI, hN, hK⟩ := hv
  have hx := B.exec
  have hb := B.bytes
  have hr := B.returns
  have hts := atoms_spec (ws := tb (.code yX11_strike cX11_strike 5 (some .int))) B.pre
  have hown : s.vm.findClass RX11 = some m.cls := findClass_of_methodNamed B.named
  have hlocks := B.notSynchronized
  have hS : va_S (th_A G) s.heap s.heap [] := va_S.rf
  have hl := lv_entry ([.ref h0, .int x1, .int x2, .int x3]) (n := 5) (Nat.le_of_ble_eq_true rfl)
  rw [show entryFrame m args 5 = entryFrame m ([.ref h0, .int x1, .int x2, .int x3] : List Value).toArray 5 from by rw [hav], lg_entry_eq]
  generalize (lg_sl ([.ref h0, .int x1, .int x2, .int x3]) ++ List.replicate (5 - (lg_sl ([.ref h0, .int x1, .int x2, .int x3])).length) Slot.unset).toArray = ls at hl ⊢
  have hl : lv_has ls 5 [(0, .ref h0), (1, .int x1), (2, .int x2), (3, .int x3)] := hl
  generalize hR : (headSpec (tb (.code yX11_strike cX11_strike 5 (some .int))) (rm 3)).room = R
  have hR := hR.symm
  generalize hQ : MQ below (QI E D G (fun r => True)) args s 0 0 (th_A G) = QF
  have hQ := hQ.symm
  have J_15 : ∀ (H : Heap) (locs : List Loc) (ls : Array Slot) , lv_has ls 5 [(0, .ref h0), (1, .int x1), (2, .int x2), (3, .int x3)] → th_I (okC E) D G [] H → va_S (th_A G) s.heap H locs → W p l e R s m args below meth c H locs 0 0 QF (F0 m 15 ls []) := by
    intro H locs ls  hl  hI hS
    refine lv_aload_n hx hb dX11_strike_15 rfl (lv_at hl 0 rfl) ?_
    refine lv_iconst (v := (-1)) hx hb dX11_strike_16 (by decide) ?_
    refine th_cVi (As := [.int (-1)]) (rest := []) (n := 1) (d := 0) ⟨hx, hb, hml, hown, hts⟩ (c_X11_refuse l E D G h0 (n) hG0 (-1)) wd_407 wd_409 wp_0 wd_1 wd_410 (by decide +kernel) ⟨by rw [hR]; exact Nat.le_of_ble_eq_true rfl, by rw [hR]; exact Nat.le_of_ble_eq_true rfl⟩ hI hN hK hS (rc_15 hI hG0 List.not_mem_nil) rfl rfl hl.1 rfl (Nat.le_of_ble_eq_true rfl) dX11_strike_17 ⟨Nat.zero_le _, Nat.zero_le _⟩ (fun r352 H locs hp hI hS => ?_)
    have hp := hp.symm
    subst hp
    have hpost : True := trivial
    rw [hQ]
    exact W.iret (v := (-1)) hx hb hr (fun t ht hW => ⟨⟨(-1), (), rfl, hpost, by rw [ht]; exact hI, hN.warm hW, va_K.moved hW.alike hK⟩, hS.F ht⟩) hS.2.2 dX11_strike_20
  refine lv_iload_n hx hb dX11_strike_0 rfl (lv_at hl 1 rfl) ?_
  refine lv_iload_n hx hb dX11_strike_1 rfl (lv_at hl 2 rfl) ?_
  refine th_cSs (As := [.int x1, .int x2]) (rest := []) (n := 2) (d := 1) ⟨hx, hb, hml, hown, hts⟩ (c_X11_isSpan l s.heap x1 x2) wd_463 wd_464 wd_1 wd_465 (by decide +kernel) ⟨by rw [hR]; exact Nat.le_of_ble_eq_true rfl, by rw [hR]; exact Nat.le_of_ble_eq_true rfl⟩ hN hS rfl hl.1 rfl (Nat.le_of_ble_eq_true rfl) dX11_strike_2 ⟨Nat.zero_le _, Nat.zero_le _⟩ (fun r353 locs hp hS => ?_)
  rcases hp with ⟨rfl, hp⟩ | ⟨rfl, hp⟩
  · skip
    try simp only [rg, not_and, Int.not_le] at hp
    have hp354 := hp
    refine lv_if_eq (tgt := 15) hx hb dX11_strike_5 (by decide) (fun c => absurd c (by decide)) (fun _ => ?_)
    refine lv_iload_n hx hb dX11_strike_8 rfl (lv_at hl 3 rfl) ?_
    refine th_cSs (As := [.int x3]) (rest := []) (n := 1) (d := 0) ⟨hx, hb, hml, hown, hts⟩ (c_X11_isFlag l s.heap x3) wd_469 wd_470 wd_1 wd_471 (by decide +kernel) ⟨by rw [hR]; exact Nat.le_of_ble_eq_true rfl, by rw [hR]; exact Nat.le_of_ble_eq_true rfl⟩ hN hS rfl hl.1 rfl (Nat.le_of_ble_eq_true rfl) dX11_strike_9 ⟨Nat.zero_le _, Nat.zero_le _⟩ (fun r355 locs hp hS => ?_)
    rcases hp with ⟨rfl, hp⟩ | ⟨rfl, hp⟩
    · skip
      try simp only [rg, not_and, Int.not_le] at hp
      have hp356 := hp
      refine lv_if_ne (tgt := 21) hx hb dX11_strike_12 (by decide) (fun _ => ?_) (fun c => absurd c (by decide))
      refine lv_aload_n hx hb dX11_strike_21 rfl (lv_at hl 0 rfl) ?_
      obtain ⟨a357, a360, a362, a364, a366, a368, a370, a372, a374, a376, a378, w380, w381, w382, w383, hO, hq358, hq359, hq361, hq363, hq365, hq367, hq369, hq371, hq373, hq375, hq377, hq379⟩ := op_15 hI hG0 List.not_mem_nil
      have hI := th_I.weak (a := h0) hI
      have k384 : (nI (n % 401)).toInt = ((n % 401 : Nat) : Int) := nI_toInt (by omega)
      refine th_get hx hb hts inT11 hown hK hO rfl 0 (by decide) (hts _ (tb_c wd_345)) rfl rfl dX11_strike_22 ?_
      refine lv_iload_n hx hb dX11_strike_25 rfl (lv_at hl 1 rfl) ?_
      refine lv_iload_n hx hb dX11_strike_26 rfl (lv_at hl 2 rfl) ?_
      refine lv_iload_n hx hb dX11_strike_27 rfl (lv_at hl 3 rfl) ?_
      have hI := th_I.close hI hG0 hO (ok_15 hq358 hq359 hq361 hq363 hq365 hq367 hq369 hq371 hq373 hq375 hq377 hq379)
      refine th_cVi (As := [.int x1, .int x2, .int x3]) (rest := []) (n := 3) (d := 1) ⟨hx, hb, hml, hown, hts⟩ (c_X6_tellStrikes l E D G a357 hq358 x1 x2 x3) wd_472 wd_473 wd_474 wd_2 wd_475 (by decide +kernel) ⟨by rw [hR]; exact Nat.le_of_ble_eq_true rfl, by rw [hR]; exact Nat.le_of_ble_eq_true rfl⟩ hI hN hK hS (rc_6 hI hq358 List.not_mem_nil) rfl rfl hl.1 rfl (Nat.le_of_ble_eq_true rfl) dX11_strike_28 ⟨Nat.zero_le _, Nat.zero_le _⟩ (fun r385 H locs hp hI hS => ?_)
      refine lv_istore (lv' := [(4, .int r385), (0, .ref h0), (1, .int x1), (2, .int x2), (3, .int x3)]) hx hb dX11_strike_31 hl (by decide) rfl (fun ls hl => ?_)
      refine lv_iload hx hb dX11_strike_33 (lv_at hl 0 rfl) ?_
      have k386 := iv_lo r385
      have k387 := iv_hi r385
      refine lv_if_le (tgt := 42) hx hb dX11_strike_35 (by decide) (fun c388 => ?_) (fun c388 => ?_)
      · skip
        have k389 := iv_le (X := r385.toInt) (Y := (0)) rfl (by decide) c388
        refine lv_aload_n hx hb dX11_strike_42 rfl (lv_at hl 1 rfl) ?_
        refine lv_iload hx hb dX11_strike_43 (lv_at hl 0 rfl) ?_
        refine th_cVi (As := [.int r385]) (rest := []) (n := 1) (d := 0) ⟨hx, hb, hml, hown, hts⟩ (c_X11_accept l E D G h0 (n) hG0 r385) wd_447 wd_449 wp_3 wd_1 wd_450 (by decide +kernel) ⟨by rw [hR]; exact Nat.le_of_ble_eq_true rfl, by rw [hR]; exact Nat.le_of_ble_eq_true rfl⟩ hI hN hK hS (rc_15 hI hG0 List.not_mem_nil) rfl rfl hl.1 rfl (Nat.le_of_ble_eq_true rfl) dX11_strike_45 ⟨Nat.zero_le _, Nat.zero_le _⟩ (fun r390 H locs hp hI hS => ?_)
        have hp := hp.symm
        subst hp
        have hpost : True := trivial
        rw [hQ]
        exact W.iret (v := r385) hx hb hr (fun t ht hW => ⟨⟨r385, (), rfl, hpost, by rw [ht]; exact hI, hN.warm hW, va_K.moved hW.alike hK⟩, hS.F ht⟩) hS.2.2 dX11_strike_48
      · skip
        have k391 := iv_nle (X := r385.toInt) (Y := (0)) rfl (by decide) c388
        refine lv_aload_n hx hb dX11_strike_38 rfl (lv_at hl 1 rfl) ?_
        refine th_cVv (As := []) (rest := []) (n := 0) (d := 2) ⟨hx, hb, hml, hown, hts⟩ (c_X11_turnRiver l E D G h0 (n) hG0 ) wd_423 wd_425 wp_1 wd_1 wd_426 (by decide +kernel) ⟨by rw [hR]; exact Nat.le_of_ble_eq_true rfl, by rw [hR]; exact Nat.le_of_ble_eq_true rfl⟩ hI hN hK hS (rc_15 hI hG0 List.not_mem_nil) rfl rfl hl.1 rfl (Nat.le_of_ble_eq_true rfl) dX11_strike_39 ⟨Nat.zero_le _, Nat.zero_le _⟩ (fun H locs hI hS => ?_)
        refine lv_aload_n hx hb dX11_strike_42 rfl (lv_at hl 1 rfl) ?_
        refine lv_iload hx hb dX11_strike_43 (lv_at hl 0 rfl) ?_
        refine th_cVi (As := [.int r385]) (rest := []) (n := 1) (d := 0) ⟨hx, hb, hml, hown, hts⟩ (c_X11_accept l E D G h0 (n) hG0 r385) wd_447 wd_449 wp_3 wd_1 wd_450 (by decide +kernel) ⟨by rw [hR]; exact Nat.le_of_ble_eq_true rfl, by rw [hR]; exact Nat.le_of_ble_eq_true rfl⟩ hI hN hK hS (rc_15 hI hG0 List.not_mem_nil) rfl rfl hl.1 rfl (Nat.le_of_ble_eq_true rfl) dX11_strike_45 ⟨Nat.zero_le _, Nat.zero_le _⟩ (fun r393 H locs hp hI hS => ?_)
        have hp := hp.symm
        subst hp
        have hpost : True := trivial
        rw [hQ]
        exact W.iret (v := r385) hx hb hr (fun t ht hW => ⟨⟨r385, (), rfl, hpost, by rw [ht]; exact hI, hN.warm hW, va_K.moved hW.alike hK⟩, hS.F ht⟩) hS.2.2 dX11_strike_48
    · skip
      try simp only [rg, not_and, Int.not_le] at hp
      have hp394 := hp
      refine lv_if_ne (tgt := 21) hx hb dX11_strike_12 (by decide) (fun c => absurd c (by decide)) (fun _ => ?_)
      exact J_15 s.heap locs ls  (lv_sub hl [0, 1, 2, 3] rfl)  hI hS
  · skip
    try simp only [rg, not_and, Int.not_le] at hp
    have hp395 := hp
    refine lv_if_eq (tgt := 15) hx hb dX11_strike_5 (by decide) (fun _ => ?_) (fun c => absurd c (by decide))
    exact J_15 s.heap locs ls  (lv_sub hl [0, 1, 2, 3] rfl)  hI hS
theorem dX11_terms_0 : decode cX11_terms 0 = .ok (.iload_n 1, 1) := by decide +kernel
theorem dX11_terms_1 : decode cX11_terms 1 = .ok (.ifCond .ne 18, 3) := by decide +kernel
theorem dX11_terms_4 : decode cX11_terms 4 = .ok (.iload_n 2, 1) := by decide +kernel
theorem dX11_terms_5 : decode cX11_terms 5 = .ok (.bipush (-3), 2) := by decide +kernel
theorem dX11_terms_7 : decode cX11_terms 7 = .ok (.if_icmp .lt 12, 3) := by decide +kernel
theorem dX11_terms_10 : decode cX11_terms 10 = .ok (.iload_n 2, 1) := by decide +kernel
theorem dX11_terms_11 : decode cX11_terms 11 = .ok (.iconst 3, 1) := by decide +kernel
theorem dX11_terms_12 : decode cX11_terms 12 = .ok (.if_icmp .gt 7, 3) := by decide +kernel
theorem dX11_terms_15 : decode cX11_terms 15 = .ok (.iconst 1, 1) := by decide +kernel
theorem dX11_terms_16 : decode cX11_terms 16 = .ok (.goto 4, 3) := by decide +kernel
theorem dX11_terms_19 : decode cX11_terms 19 = .ok (.iconst 0, 1) := by decide +kernel
theorem dX11_terms_20 : decode cX11_terms 20 = .ok (.istore_n 3, 1) := by decide +kernel
theorem dX11_terms_21 : decode cX11_terms 21 = .ok (.iload_n 1, 1) := by decide +kernel
theorem dX11_terms_22 : decode cX11_terms 22 = .ok (.iconst 1, 1) := by decide +kernel
theorem dX11_terms_23 : decode cX11_terms 23 = .ok (.if_icmp .ne 17, 3) := by decide +kernel
theorem dX11_terms_26 : decode cX11_terms 26 = .ok (.iload_n 2, 1) := by decide +kernel
theorem dX11_terms_27 : decode cX11_terms 27 = .ok (.ifCond .lt 13, 3) := by decide +kernel
theorem dX11_terms_30 : decode cX11_terms 30 = .ok (.iload_n 2, 1) := by decide +kernel
theorem dX11_terms_31 : decode cX11_terms 31 = .ok (.bipush 99, 2) := by decide +kernel
theorem dX11_terms_33 : decode cX11_terms 33 = .ok (.if_icmp .gt 7, 3) := by decide +kernel
theorem dX11_terms_36 : decode cX11_terms 36 = .ok (.iconst 1, 1) := by decide +kernel
theorem dX11_terms_37 : decode cX11_terms 37 = .ok (.goto 4, 3) := by decide +kernel
theorem dX11_terms_40 : decode cX11_terms 40 = .ok (.iconst 0, 1) := by decide +kernel
theorem dX11_terms_41 : decode cX11_terms 41 = .ok (.istore 4, 2) := by decide +kernel
theorem dX11_terms_43 : decode cX11_terms 43 = .ok (.iload_n 3, 1) := by decide +kernel
theorem dX11_terms_44 : decode cX11_terms 44 = .ok (.ifCond .ne 18, 3) := by decide +kernel
theorem dX11_terms_47 : decode cX11_terms 47 = .ok (.iload 4, 2) := by decide +kernel
theorem dX11_terms_49 : decode cX11_terms 49 = .ok (.ifCond .ne 13, 3) := by decide +kernel
theorem dX11_terms_52 : decode cX11_terms 52 = .ok (.aload_n 0, 1) := by decide +kernel
theorem dX11_terms_53 : decode cX11_terms 53 = .ok (.iconst (-1), 1) := by decide +kernel
theorem dX11_terms_54 : decode cX11_terms 54 = .ok (.invokevirtual 113, 3) := by decide +kernel
theorem dX11_terms_57 : decode cX11_terms 57 = .ok (.pop, 1) := by decide +kernel
theorem dX11_terms_58 : decode cX11_terms 58 = .ok (.sipush (-1000), 3) := by decide +kernel
theorem dX11_terms_61 : decode cX11_terms 61 = .ok (.ireturn, 1) := by decide +kernel
theorem dX11_terms_62 : decode cX11_terms 62 = .ok (.iload_n 3, 1) := by decide +kernel
theorem dX11_terms_63 : decode cX11_terms 63 = .ok (.ifCond .eq 13, 3) := by decide +kernel
theorem dX11_terms_66 : decode cX11_terms 66 = .ok (.aload_n 0, 1) := by decide +kernel
theorem dX11_terms_67 : decode cX11_terms 67 = .ok (.getfield 12, 3) := by decide +kernel
theorem dX11_terms_70 : decode cX11_terms 70 = .ok (.getfield 179, 3) := by decide +kernel
theorem dX11_terms_73 : decode cX11_terms 73 = .ok (.goto 10, 3) := by decide +kernel
theorem dX11_terms_76 : decode cX11_terms 76 = .ok (.aload_n 0, 1) := by decide +kernel
theorem dX11_terms_77 : decode cX11_terms 77 = .ok (.getfield 12, 3) := by decide +kernel
theorem dX11_terms_80 : decode cX11_terms 80 = .ok (.getfield 182, 3) := by decide +kernel
theorem dX11_terms_83 : decode cX11_terms 83 = .ok (.istore 5, 2) := by decide +kernel
theorem dX11_terms_85 : decode cX11_terms 85 = .ok (.iload_n 3, 1) := by decide +kernel
theorem dX11_terms_86 : decode cX11_terms 86 = .ok (.ifCond .eq 14, 3) := by decide +kernel
theorem dX11_terms_89 : decode cX11_terms 89 = .ok (.aload_n 0, 1) := by decide +kernel
theorem dX11_terms_90 : decode cX11_terms 90 = .ok (.getfield 12, 3) := by decide +kernel
theorem dX11_terms_93 : decode cX11_terms 93 = .ok (.iload_n 2, 1) := by decide +kernel
theorem dX11_terms_94 : decode cX11_terms 94 = .ok (.putfield 179, 3) := by decide +kernel
theorem dX11_terms_97 : decode cX11_terms 97 = .ok (.goto 11, 3) := by decide +kernel
theorem dX11_terms_100 : decode cX11_terms 100 = .ok (.aload_n 0, 1) := by decide +kernel
theorem dX11_terms_101 : decode cX11_terms 101 = .ok (.getfield 12, 3) := by decide +kernel
theorem dX11_terms_104 : decode cX11_terms 104 = .ok (.iload_n 2, 1) := by decide +kernel
theorem dX11_terms_105 : decode cX11_terms 105 = .ok (.putfield 182, 3) := by decide +kernel
theorem dX11_terms_108 : decode cX11_terms 108 = .ok (.aload_n 0, 1) := by decide +kernel
theorem dX11_terms_109 : decode cX11_terms 109 = .ok (.invokevirtual 124, 3) := by decide +kernel
theorem dX11_terms_112 : decode cX11_terms 112 = .ok (.aload_n 0, 1) := by decide +kernel
theorem dX11_terms_113 : decode cX11_terms 113 = .ok (.iload 5, 2) := by decide +kernel
theorem dX11_terms_115 : decode cX11_terms 115 = .ok (.invokevirtual 127, 3) := by decide +kernel
theorem dX11_terms_118 : decode cX11_terms 118 = .ok (.ireturn, 1) := by decide +kernel
set_option maxHeartbeats 4000000 in
set_option maxRecDepth 100000 in
theorem c_X11_terms (l : Launch) (E : Nat → ClassId) (D : va_G) (G : th_G) (h0 n : Nat) (hG0 : G h0 = some (15, n)) (x1 x2 : Int32) : Met l yX11_terms (tb (.code yX11_terms cX11_terms 6 (some .int))) (rm 3) (va_Pc [.ref h0, .int x1, .int x2] (th_P E D G)) (QI E D G (fun r => True)) 0 0 (th_A G) := by
  refine Met.ofW (cc := cX11_terms) (maxL := 6) (ret := (some .int)) (by decide) rfl ?_
  intro p e s m args below meth c s₁ B hml hv
  obtain ⟨hav, hI, hN, hK⟩ := hv
  have hx := B.exec
  have hb := B.bytes
  have hr := B.returns
  have hts := atoms_spec (ws := tb (.code yX11_terms cX11_terms 6 (some .int))) B.pre
  have hown : s.vm.findClass RX11 = some m.cls := findClass_of_methodNamed B.named
  have hlocks := B.notSynchronized
  have hS : va_S (th_A G) s.heap s.heap [] := va_S.rf
  have hl := lv_entry ([.ref h0, .int x1, .int x2]) (n := 6) (Nat.le_of_ble_eq_true rfl)
  rw [show entryFrame m args 6 = entryFrame m ([.ref h0, .int x1, .int x2] : List Value).toArray 6 from by rw [hav], lg_entry_eq]
  generalize (lg_sl ([.ref h0, .int x1, .int x2]) ++ List.replicate (6 - (lg_sl ([.ref h0, .int x1, .int x2])).length) Slot.unset).toArray = ls at hl ⊢
  have hl : lv_has ls 6 [(0, .ref h0), (1, .int x1), (2, .int x2)] := hl
  generalize hR : (headSpec (tb (.code yX11_terms cX11_terms 6 (some .int))) (rm 3)).room = R
  have hR := hR.symm
  generalize hQ : MQ below (QI E D G (fun r => True)) args s 0 0 (th_A G) = QF
  have hQ := hQ.symm
  have J_83 : ∀ (H : Heap) (locs : List Loc) (ls : Array Slot) (v2388 : Int32) (v2389 : Int32) (v2390 : Int32), lv_has ls 6 [(4, .int v2388), (3, .int v2389), (0, .ref h0), (1, .int x1), (2, .int x2)] → ((0 : Int) ≤ v2388.toInt ∧ v2388.toInt ≤ 1) → ((0 : Int) ≤ v2389.toInt ∧ v2389.toInt ≤ 1) → th_I (okC E) D G [] H → va_S (th_A G) s.heap H locs → W p l e R s m args below meth c H locs 0 0 QF (F0 m 83 ls [.int v2390]) := by
    intro H locs ls v2388 v2389 v2390 hl k2391 k2392 hI hS
    refine lv_istore (lv' := [(5, .int v2390), (4, .int v2388), (3, .int v2389), (0, .ref h0), (1, .int x1), (2, .int x2)]) hx hb dX11_terms_83 hl (by decide) rfl (fun ls hl => ?_)
    refine lv_iload_n hx hb dX11_terms_85 rfl (lv_at hl 2 rfl) ?_
    refine lv_if_eq (tgt := 100) hx hb dX11_terms_86 (by decide) (fun c2393 => ?_) (fun c2393 => ?_)
    · skip
      have k2394 := iv_eq (X := v2389.toInt) (Y := (0)) rfl (by decide) c2393
      refine lv_aload_n hx hb dX11_terms_100 rfl (lv_at hl 3 rfl) ?_
      obtain ⟨a2395, a2398, a2400, a2402, a2404, a2406, a2408, a2410, a2412, a2414, a2416, w2418, w2419, w2420, w2421, hO, hq2396, hq2397, hq2399, hq2401, hq2403, hq2405, hq2407, hq2409, hq2411, hq2413, hq2415, hq2417⟩ := op_15 hI hG0 List.not_mem_nil
      have hI := th_I.weak (a := h0) hI
      have k2422 : (nI (n % 401)).toInt = ((n % 401 : Nat) : Int) := nI_toInt (by omega)
      refine th_get hx hb hts inT11 hown hK hO rfl 0 (by decide) (hts _ (tb_c wd_345)) rfl rfl dX11_terms_101 ?_
      refine lv_iload_n hx hb dX11_terms_104 rfl (lv_at hl 5 rfl) ?_
      have hI := th_I.close hI hG0 hO (ok_15 hq2396 hq2397 hq2399 hq2401 hq2403 hq2405 hq2407 hq2409 hq2411 hq2413 hq2415 hq2417)
      obtain ⟨a2423, a2425, a2427, a2429, a2431, a2433, a2435, a2437, a2439, a2441, w2443, w2446, w2447, w2448, hO, hq2424, hq2426, hq2428, hq2430, hq2432, hq2434, hq2436, hq2438, hq2440, hq2442, ⟨k2444, k2445⟩⟩ := op_6 hI hq2396 List.not_mem_nil
      have hI := th_I.weak (a := a2395) hI
      refine th_putN (ty := .int) hx hb hts inT6 tyX6 tyX6_ok nmX6 hown hK hN hO hS ⟨_, hq2396⟩ rfl 13 (by decide) wn_92 rfl rfl (by decide +kernel) rfl rfl (Nat.le_of_ble_eq_true rfl) dX11_terms_105 (fun H locs hO oq hS => ?_)
      have hI := th_I.moved hI oq
      have hO : va_at D vwCl (a2395, .inr (6, [.ref a2423, .ref a2425, .ref a2427, .ref a2429, .ref a2431, .ref a2433, .ref a2435, .ref a2437, .ref a2439, .ref a2441, .int w2443, .int w2446, .int w2447, .int x2])) H := hO
      refine lv_aload_n hx hb dX11_terms_108 rfl (lv_at hl 3 rfl) ?_
      have hI := th_I.close hI hq2396 hO (ok_6 hq2424 hq2426 hq2428 hq2430 hq2432 hq2434 hq2436 hq2438 hq2440 hq2442 ⟨by omega, by omega⟩)
      refine th_cVv (As := []) (rest := []) (n := 0) (d := 2) ⟨hx, hb, hml, hown, hts⟩ (c_X11_turnRiver l E D G h0 (n) hG0 ) wd_423 wd_425 wp_1 wd_1 wd_426 (by decide +kernel) ⟨by rw [hR]; exact Nat.le_of_ble_eq_true rfl, by rw [hR]; exact Nat.le_of_ble_eq_true rfl⟩ hI hN hK hS (rc_15 hI hG0 List.not_mem_nil) rfl rfl hl.1 rfl (Nat.le_of_ble_eq_true rfl) dX11_terms_109 ⟨Nat.zero_le _, Nat.zero_le _⟩ (fun H locs hI hS => ?_)
      refine lv_aload_n hx hb dX11_terms_112 rfl (lv_at hl 3 rfl) ?_
      refine lv_iload hx hb dX11_terms_113 (lv_at hl 0 rfl) ?_
      refine th_cVi (As := [.int v2390]) (rest := []) (n := 1) (d := 0) ⟨hx, hb, hml, hown, hts⟩ (c_X11_accept l E D G h0 (n) hG0 v2390) wd_447 wd_449 wp_3 wd_1 wd_450 (by decide +kernel) ⟨by rw [hR]; exact Nat.le_of_ble_eq_true rfl, by rw [hR]; exact Nat.le_of_ble_eq_true rfl⟩ hI hN hK hS (rc_15 hI hG0 List.not_mem_nil) rfl rfl hl.1 rfl (Nat.le_of_ble_eq_true rfl) dX11_terms_115 ⟨Nat.zero_le _, Nat.zero_le _⟩ (fun r2450 H locs hp hI hS => ?_)
      have hp := hp.symm
      subst hp
      have hpost : True := trivial
      rw [hQ]
      exact W.iret (v := v2390) hx hb hr (fun t ht hW => ⟨⟨v2390, (), rfl, hpost, by rw [ht]; exact hI, hN.warm hW, va_K.moved hW.alike hK⟩, hS.F ht⟩) hS.2.2 dX11_terms_118
    · skip
      have k2451 := iv_ne (X := v2389.toInt) (Y := (0)) rfl (by decide) c2393
      refine lv_aload_n hx hb dX11_terms_89 rfl (lv_at hl 3 rfl) ?_
      obtain ⟨a2452, a2455, a2457, a2459, a2461, a2463, a2465, a2467, a2469, a2471, a2473, w2475, w2476, w2477, w2478, hO, hq2453, hq2454, hq2456, hq2458, hq2460, hq2462, hq2464, hq2466, hq2468, hq2470, hq2472, hq2474⟩ := op_15 hI hG0 List.not_mem_nil
      have hI := th_I.weak (a := h0) hI
      have k2479 : (nI (n % 401)).toInt = ((n % 401 : Nat) : Int) := nI_toInt (by omega)
      refine th_get hx hb hts inT11 hown hK hO rfl 0 (by decide) (hts _ (tb_c wd_345)) rfl rfl dX11_terms_90 ?_
      refine lv_iload_n hx hb dX11_terms_93 rfl (lv_at hl 5 rfl) ?_
      have hI := th_I.close hI hG0 hO (ok_15 hq2453 hq2454 hq2456 hq2458 hq2460 hq2462 hq2464 hq2466 hq2468 hq2470 hq2472 hq2474)
      obtain ⟨a2480, a2482, a2484, a2486, a2488, a2490, a2492, a2494, a2496, a2498, w2500, w2503, w2504, w2505, hO, hq2481, hq2483, hq2485, hq2487, hq2489, hq2491, hq2493, hq2495, hq2497, hq2499, ⟨k2501, k2502⟩⟩ := op_6 hI hq2453 List.not_mem_nil
      have hI := th_I.weak (a := a2452) hI
      refine th_putN (ty := .int) hx hb hts inT6 tyX6 tyX6_ok nmX6 hown hK hN hO hS ⟨_, hq2453⟩ rfl 12 (by decide) wn_88 rfl rfl (by decide +kernel) rfl rfl (Nat.le_of_ble_eq_true rfl) dX11_terms_94 (fun H locs hO oq hS => ?_)
      have hI := th_I.moved hI oq
      have hO : va_at D vwCl (a2452, .inr (6, [.ref a2480, .ref a2482, .ref a2484, .ref a2486, .ref a2488, .ref a2490, .ref a2492, .ref a2494, .ref a2496, .ref a2498, .int w2500, .int w2503, .int x2, .int w2505])) H := hO
      refine lv_goto (tgt := 108) hx hb dX11_terms_97 (by decide) ?_
      refine lv_aload_n hx hb dX11_terms_108 rfl (lv_at hl 3 rfl) ?_
      have hI := th_I.close hI hq2453 hO (ok_6 hq2481 hq2483 hq2485 hq2487 hq2489 hq2491 hq2493 hq2495 hq2497 hq2499 ⟨by omega, by omega⟩)
      refine th_cVv (As := []) (rest := []) (n := 0) (d := 2) ⟨hx, hb, hml, hown, hts⟩ (c_X11_turnRiver l E D G h0 (n) hG0 ) wd_423 wd_425 wp_1 wd_1 wd_426 (by decide +kernel) ⟨by rw [hR]; exact Nat.le_of_ble_eq_true rfl, by rw [hR]; exact Nat.le_of_ble_eq_true rfl⟩ hI hN hK hS (rc_15 hI hG0 List.not_mem_nil) rfl rfl hl.1 rfl (Nat.le_of_ble_eq_true rfl) dX11_terms_109 ⟨Nat.zero_le _, Nat.zero_le _⟩ (fun H locs hI hS => ?_)
      refine lv_aload_n hx hb dX11_terms_112 rfl (lv_at hl 3 rfl) ?_
      refine lv_iload hx hb dX11_terms_113 (lv_at hl 0 rfl) ?_
      refine th_cVi (As := [.int v2390]) (rest := []) (n := 1) (d := 0) ⟨hx, hb, hml, hown, hts⟩ (c_X11_accept l E D G h0 (n) hG0 v2390) wd_447 wd_449 wp_3 wd_1 wd_450 (by decide +kernel) ⟨by rw [hR]; exact Nat.le_of_ble_eq_true rfl, by rw [hR]; exact Nat.le_of_ble_eq_true rfl⟩ hI hN hK hS (rc_15 hI hG0 List.not_mem_nil) rfl rfl hl.1 rfl (Nat.le_of_ble_eq_true rfl) dX11_terms_115 ⟨Nat.zero_le _, Nat.zero_le _⟩ (fun r2507 H locs hp hI hS => ?_)
      have hp := hp.symm
      subst hp
      have hpost : True := trivial
      rw [hQ]
      exact W.iret (v := v2390) hx hb hr (fun t ht hW => ⟨⟨v2390, (), rfl, hpost, by rw [ht]; exact hI, hN.warm hW, va_K.moved hW.alike hK⟩, hS.F ht⟩) hS.2.2 dX11_terms_118
  have J_62 : ∀ (H : Heap) (locs : List Loc) (ls : Array Slot) (v2508 : Int32) (v2509 : Int32), lv_has ls 6 [(4, .int v2508), (3, .int v2509), (0, .ref h0), (1, .int x1), (2, .int x2)] → ((0 : Int) ≤ v2508.toInt ∧ v2508.toInt ≤ 1) → ((0 : Int) ≤ v2509.toInt ∧ v2509.toInt ≤ 1) → th_I (okC E) D G [] H → va_S (th_A G) s.heap H locs → W p l e R s m args below meth c H locs 0 0 QF (F0 m 62 ls []) := by
    intro H locs ls v2508 v2509 hl k2510 k2511 hI hS
    refine lv_iload_n hx hb dX11_terms_62 rfl (lv_at hl 1 rfl) ?_
    refine lv_if_eq (tgt := 76) hx hb dX11_terms_63 (by decide) (fun c2512 => ?_) (fun c2512 => ?_)
    · skip
      have k2513 := iv_eq (X := v2509.toInt) (Y := (0)) rfl (by decide) c2512
      refine lv_aload_n hx hb dX11_terms_76 rfl (lv_at hl 2 rfl) ?_
      obtain ⟨a2514, a2517, a2519, a2521, a2523, a2525, a2527, a2529, a2531, a2533, a2535, w2537, w2538, w2539, w2540, hO, hq2515, hq2516, hq2518, hq2520, hq2522, hq2524, hq2526, hq2528, hq2530, hq2532, hq2534, hq2536⟩ := op_15 hI hG0 List.not_mem_nil
      have hI := th_I.weak (a := h0) hI
      have k2541 : (nI (n % 401)).toInt = ((n % 401 : Nat) : Int) := nI_toInt (by omega)
      refine th_get hx hb hts inT11 hown hK hO rfl 0 (by decide) (hts _ (tb_c wd_345)) rfl rfl dX11_terms_77 ?_
      have hI := th_I.close hI hG0 hO (ok_15 hq2515 hq2516 hq2518 hq2520 hq2522 hq2524 hq2526 hq2528 hq2530 hq2532 hq2534 hq2536)
      obtain ⟨a2542, a2544, a2546, a2548, a2550, a2552, a2554, a2556, a2558, a2560, w2562, w2565, w2566, w2567, hO, hq2543, hq2545, hq2547, hq2549, hq2551, hq2553, hq2555, hq2557, hq2559, hq2561, ⟨k2563, k2564⟩⟩ := op_6 hI hq2515 List.not_mem_nil
      have hI := th_I.weak (a := a2514) hI
      refine th_getN hx hb hts inT6 hown hK hN hO rfl 13 (by decide) wn_92 rfl rfl dX11_terms_80 ?_
      have hI := th_I.close hI hq2515 hO (ok_6 hq2543 hq2545 hq2547 hq2549 hq2551 hq2553 hq2555 hq2557 hq2559 hq2561 ⟨by omega, by omega⟩)
      exact J_83 H locs ls v2508 v2509 w2567 (lv_sub hl [0, 1, 2, 3, 4] rfl) ⟨by omega, by omega⟩ ⟨by omega, by omega⟩ hI hS
    · skip
      have k2568 := iv_ne (X := v2509.toInt) (Y := (0)) rfl (by decide) c2512
      refine lv_aload_n hx hb dX11_terms_66 rfl (lv_at hl 2 rfl) ?_
      obtain ⟨a2569, a2572, a2574, a2576, a2578, a2580, a2582, a2584, a2586, a2588, a2590, w2592, w2593, w2594, w2595, hO, hq2570, hq2571, hq2573, hq2575, hq2577, hq2579, hq2581, hq2583, hq2585, hq2587, hq2589, hq2591⟩ := op_15 hI hG0 List.not_mem_nil
      have hI := th_I.weak (a := h0) hI
      have k2596 : (nI (n % 401)).toInt = ((n % 401 : Nat) : Int) := nI_toInt (by omega)
      refine th_get hx hb hts inT11 hown hK hO rfl 0 (by decide) (hts _ (tb_c wd_345)) rfl rfl dX11_terms_67 ?_
      have hI := th_I.close hI hG0 hO (ok_15 hq2570 hq2571 hq2573 hq2575 hq2577 hq2579 hq2581 hq2583 hq2585 hq2587 hq2589 hq2591)
      obtain ⟨a2597, a2599, a2601, a2603, a2605, a2607, a2609, a2611, a2613, a2615, w2617, w2620, w2621, w2622, hO, hq2598, hq2600, hq2602, hq2604, hq2606, hq2608, hq2610, hq2612, hq2614, hq2616, ⟨k2618, k2619⟩⟩ := op_6 hI hq2570 List.not_mem_nil
      have hI := th_I.weak (a := a2569) hI
      refine th_getN hx hb hts inT6 hown hK hN hO rfl 12 (by decide) wn_88 rfl rfl dX11_terms_70 ?_
      refine lv_goto (tgt := 83) hx hb dX11_terms_73 (by decide) ?_
      have hI := th_I.close hI hq2570 hO (ok_6 hq2598 hq2600 hq2602 hq2604 hq2606 hq2608 hq2610 hq2612 hq2614 hq2616 ⟨by omega, by omega⟩)
      exact J_83 H locs ls v2508 v2509 w2621 (lv_sub hl [0, 1, 2, 3, 4] rfl) ⟨by omega, by omega⟩ ⟨by omega, by omega⟩ hI hS
  have J_41 : ∀ (H : Heap) (locs : List Loc) (ls : Array Slot) (v2623 : Int32) (v2624 : Int32), lv_has ls 6 [(3, .int v2623), (0, .ref h0), (1, .int x1), (2, .int x2)] → ((0 : Int) ≤ v2623.toInt ∧ v2623.toInt ≤ 1) → ((0 : Int) ≤ v2624.toInt ∧ v2624.toInt ≤ 1) → th_I (okC E) D G [] H → va_S (th_A G) s.heap H locs → W p l e R s m args below meth c H locs 0 0 QF (F0 m 41 ls [.int v2624]) := by
    intro H locs ls v2623 v2624 hl k2625 k2626 hI hS
    refine lv_istore (lv' := [(4, .int v2624), (3, .int v2623), (0, .ref h0), (1, .int x1), (2, .int x2)]) hx hb dX11_terms_41 hl (by decide) rfl (fun ls hl => ?_)
    refine lv_iload_n hx hb dX11_terms_43 rfl (lv_at hl 1 rfl) ?_
    refine lv_if_ne (tgt := 62) hx hb dX11_terms_44 (by decide) (fun c2627 => ?_) (fun c2627 => ?_)
    · skip
      have k2628 := iv_ne (X := v2623.toInt) (Y := (0)) rfl (by decide) c2627
      exact J_62 H locs ls v2624 v2623 (lv_sub hl [0, 1, 2, 3, 4] rfl) ⟨by omega, by omega⟩ ⟨by omega, by omega⟩ hI hS
    · skip
      have k2629 := iv_eq (X := v2623.toInt) (Y := (0)) rfl (by decide) c2627
      refine lv_iload hx hb dX11_terms_47 (lv_at hl 0 rfl) ?_
      refine lv_if_ne (tgt := 62) hx hb dX11_terms_49 (by decide) (fun c2630 => ?_) (fun c2630 => ?_)
      · skip
        have k2631 := iv_ne (X := v2624.toInt) (Y := (0)) rfl (by decide) c2630
        exact J_62 H locs ls v2624 v2623 (lv_sub hl [0, 1, 2, 3, 4] rfl) ⟨by omega, by omega⟩ ⟨by omega, by omega⟩ hI hS
      · skip
        have k2632 := iv_eq (X := v2624.toInt) (Y := (0)) rfl (by decide) c2630
        refine lv_aload_n hx hb dX11_terms_52 rfl (lv_at hl 2 rfl) ?_
        refine lv_iconst (v := (-1)) hx hb dX11_terms_53 (by decide) ?_
        refine th_cVi (As := [.int (-1)]) (rest := []) (n := 1) (d := 0) ⟨hx, hb, hml, hown, hts⟩ (c_X11_refuse l E D G h0 (n) hG0 (-1)) wd_407 wd_409 wp_0 wd_1 wd_410 (by decide +kernel) ⟨by rw [hR]; exact Nat.le_of_ble_eq_true rfl, by rw [hR]; exact Nat.le_of_ble_eq_true rfl⟩ hI hN hK hS (rc_15 hI hG0 List.not_mem_nil) rfl rfl hl.1 rfl (Nat.le_of_ble_eq_true rfl) dX11_terms_54 ⟨Nat.zero_le _, Nat.zero_le _⟩ (fun r2633 H locs hp hI hS => ?_)
        have hp := hp.symm
        subst hp
        refine lv_pop hx hb dX11_terms_57 rfl ?_
        refine lv_sipush (v := (-1000)) hx hb dX11_terms_58 (by decide) ?_
        have hpost : True := trivial
        rw [hQ]
        exact W.iret (v := (-1000)) hx hb hr (fun t ht hW => ⟨⟨(-1000), (), rfl, hpost, by rw [ht]; exact hI, hN.warm hW, va_K.moved hW.alike hK⟩, hS.F ht⟩) hS.2.2 dX11_terms_61
  have J_40 : ∀ (H : Heap) (locs : List Loc) (ls : Array Slot) (v2634 : Int32), lv_has ls 6 [(3, .int v2634), (0, .ref h0), (1, .int x1), (2, .int x2)] → ((0 : Int) ≤ v2634.toInt ∧ v2634.toInt ≤ 1) → th_I (okC E) D G [] H → va_S (th_A G) s.heap H locs → W p l e R s m args below meth c H locs 0 0 QF (F0 m 40 ls []) := by
    intro H locs ls v2634 hl k2635 hI hS
    refine lv_iconst (v := 0) hx hb dX11_terms_40 (by decide) ?_
    exact J_41 H locs ls v2634 0 (lv_sub hl [0, 1, 2, 3] rfl) ⟨by omega, by omega⟩ ⟨by decide, by decide⟩ hI hS
  have J_20 : ∀ (H : Heap) (locs : List Loc) (ls : Array Slot) (v2636 : Int32), lv_has ls 6 [(0, .ref h0), (1, .int x1), (2, .int x2)] → ((0 : Int) ≤ v2636.toInt ∧ v2636.toInt ≤ 1) → th_I (okC E) D G [] H → va_S (th_A G) s.heap H locs → W p l e R s m args below meth c H locs 0 0 QF (F0 m 20 ls [.int v2636]) := by
    intro H locs ls v2636 hl k2637 hI hS
    refine lv_istore_n (lv' := [(3, .int v2636), (0, .ref h0), (1, .int x1), (2, .int x2)]) hx hb dX11_terms_20 rfl hl (by decide) rfl (fun ls hl => ?_)
    refine lv_iload_n hx hb dX11_terms_21 rfl (lv_at hl 2 rfl) ?_
    refine lv_iconst (v := 1) hx hb dX11_terms_22 (by decide) ?_
    have k2638 := iv_lo x1
    have k2639 := iv_hi x1
    refine lv_icmp_ne (tgt := 40) hx hb dX11_terms_23 (by decide) (fun c2640 => ?_) (fun c2640 => ?_)
    · skip
      have k2641 := iv_ne (X := x1.toInt) (Y := (1)) rfl (by decide) c2640
      exact J_40 H locs ls v2636 (lv_sub hl [0, 1, 2, 3] rfl) ⟨by omega, by omega⟩ hI hS
    · skip
      have k2642 := iv_eq (X := x1.toInt) (Y := (1)) rfl (by decide) c2640
      refine lv_iload_n hx hb dX11_terms_26 rfl (lv_at hl 3 rfl) ?_
      have k2643 := iv_lo x2
      have k2644 := iv_hi x2
      refine lv_if_lt (tgt := 40) hx hb dX11_terms_27 (by decide) (fun c2645 => ?_) (fun c2645 => ?_)
      · skip
        have k2646 := iv_lt (X := x2.toInt) (Y := (0)) rfl (by decide) c2645
        exact J_40 H locs ls v2636 (lv_sub hl [0, 1, 2, 3] rfl) ⟨by omega, by omega⟩ hI hS
      · skip
        have k2647 := iv_nlt (X := x2.toInt) (Y := (0)) rfl (by decide) c2645
        refine lv_iload_n hx hb dX11_terms_30 rfl (lv_at hl 3 rfl) ?_
        refine lv_bipush (v := 99) hx hb dX11_terms_31 (by decide) ?_
        refine lv_icmp_gt (tgt := 40) hx hb dX11_terms_33 (by decide) (fun c2648 => ?_) (fun c2648 => ?_)
        · skip
          have k2649 := iv_lt (X := (99)) (Y := x2.toInt) (by decide) rfl c2648
          exact J_40 H locs ls v2636 (lv_sub hl [0, 1, 2, 3] rfl) ⟨by omega, by omega⟩ hI hS
        · skip
          have k2650 := iv_nlt (X := (99)) (Y := x2.toInt) (by decide) rfl c2648
          refine lv_iconst (v := 1) hx hb dX11_terms_36 (by decide) ?_
          refine lv_goto (tgt := 41) hx hb dX11_terms_37 (by decide) ?_
          exact J_41 H locs ls v2636 1 (lv_sub hl [0, 1, 2, 3] rfl) ⟨by omega, by omega⟩ ⟨by decide, by decide⟩ hI hS
  have J_19 : ∀ (H : Heap) (locs : List Loc) (ls : Array Slot) , lv_has ls 6 [(0, .ref h0), (1, .int x1), (2, .int x2)] → th_I (okC E) D G [] H → va_S (th_A G) s.heap H locs → W p l e R s m args below meth c H locs 0 0 QF (F0 m 19 ls []) := by
    intro H locs ls  hl  hI hS
    refine lv_iconst (v := 0) hx hb dX11_terms_19 (by decide) ?_
    exact J_20 H locs ls 0 (lv_sub hl [0, 1, 2] rfl) ⟨by decide, by decide⟩ hI hS
  refine lv_iload_n hx hb dX11_terms_0 rfl (lv_at hl 1 rfl) ?_
  have k2651 := iv_lo x1
  have k2652 := iv_hi x1
  refine lv_if_ne (tgt := 19) hx hb dX11_terms_1 (by decide) (fun c2653 => ?_) (fun c2653 => ?_)
  · skip
    have k2654 := iv_ne (X := x1.toInt) (Y := (0)) rfl (by decide) c2653
    exact J_19 s.heap [] ls  (lv_sub hl [0, 1, 2] rfl)  hI hS
  · skip
    have k2655 := iv_eq (X := x1.toInt) (Y := (0)) rfl (by decide) c2653
    refine lv_iload_n hx hb dX11_terms_4 rfl (lv_at hl 2 rfl) ?_
    refine lv_bipush (v := (-3)) hx hb dX11_terms_5 (by decide) ?_
    have k2656 := iv_lo x2
    have k2657 := iv_hi x2
    refine lv_icmp_lt (tgt := 19) hx hb dX11_terms_7 (by decide) (fun c2658 => ?_) (fun c2658 => ?_)
    · skip
      have k2659 := iv_lt (X := x2.toInt) (Y := (-3)) rfl (by decide) c2658
      exact J_19 s.heap [] ls  (lv_sub hl [0, 1, 2] rfl)  hI hS
    · skip
      have k2660 := iv_nlt (X := x2.toInt) (Y := (-3)) rfl (by decide) c2658
      refine lv_iload_n hx hb dX11_terms_10 rfl (lv_at hl 2 rfl) ?_
      refine lv_iconst (v := 3) hx hb dX11_terms_11 (by decide) ?_
      refine lv_icmp_gt (tgt := 19) hx hb dX11_terms_12 (by decide) (fun c2661 => ?_) (fun c2661 => ?_)
      · skip
        have k2662 := iv_lt (X := (3)) (Y := x2.toInt) (by decide) rfl c2661
        exact J_19 s.heap [] ls  (lv_sub hl [0, 1, 2] rfl)  hI hS
      · skip
        have k2663 := iv_nlt (X := (3)) (Y := x2.toInt) (by decide) rfl c2661
        refine lv_iconst (v := 1) hx hb dX11_terms_15 (by decide) ?_
        refine lv_goto (tgt := 20) hx hb dX11_terms_16 (by decide) ?_
        exact J_20 s.heap [] ls 1 (lv_sub hl [0, 1, 2] rfl) ⟨by decide, by decide⟩ hI hS
theorem dX11_feed_0 : decode cX11_feed 0 = .ok (.aload_n 0, 1) := by decide +kernel
theorem dX11_feed_1 : decode cX11_feed 1 = .ok (.getfield 89, 3) := by decide +kernel
theorem dX11_feed_4 : decode cX11_feed 4 = .ok (.bipush 20, 2) := by decide +kernel
theorem dX11_feed_6 : decode cX11_feed 6 = .ok (.iadd, 1) := by decide +kernel
theorem dX11_feed_7 : decode cX11_feed 7 = .ok (.sipush 400, 3) := by decide +kernel
theorem dX11_feed_10 : decode cX11_feed 10 = .ok (.if_icmp .le 5, 3) := by decide +kernel
theorem dX11_feed_13 : decode cX11_feed 13 = .ok (.iconst (-1), 1) := by decide +kernel
theorem dX11_feed_14 : decode cX11_feed 14 = .ok (.ireturn, 1) := by decide +kernel
theorem dX11_feed_15 : decode cX11_feed 15 = .ok (.aload_n 0, 1) := by decide +kernel
theorem dX11_feed_16 : decode cX11_feed 16 = .ok (.iload_n 1, 1) := by decide +kernel
theorem dX11_feed_17 : decode cX11_feed 17 = .ok (.invokevirtual 185, 3) := by decide +kernel
theorem dX11_feed_20 : decode cX11_feed 20 = .ok (.aload_n 0, 1) := by decide +kernel
theorem dX11_feed_21 : decode cX11_feed 21 = .ok (.iload_n 2, 1) := by decide +kernel
theorem dX11_feed_22 : decode cX11_feed 22 = .ok (.invokevirtual 185, 3) := by decide +kernel
theorem dX11_feed_25 : decode cX11_feed 25 = .ok (.aload_n 0, 1) := by decide +kernel
theorem dX11_feed_26 : decode cX11_feed 26 = .ok (.iload_n 3, 1) := by decide +kernel
theorem dX11_feed_27 : decode cX11_feed 27 = .ok (.invokevirtual 185, 3) := by decide +kernel
theorem dX11_feed_30 : decode cX11_feed 30 = .ok (.aload_n 0, 1) := by decide +kernel
theorem dX11_feed_31 : decode cX11_feed 31 = .ok (.iload 4, 2) := by decide +kernel
theorem dX11_feed_33 : decode cX11_feed 33 = .ok (.invokevirtual 185, 3) := by decide +kernel
theorem dX11_feed_36 : decode cX11_feed 36 = .ok (.aload_n 0, 1) := by decide +kernel
theorem dX11_feed_37 : decode cX11_feed 37 = .ok (.iload 5, 2) := by decide +kernel
theorem dX11_feed_39 : decode cX11_feed 39 = .ok (.invokevirtual 185, 3) := by decide +kernel
theorem dX11_feed_42 : decode cX11_feed 42 = .ok (.aload_n 0, 1) := by decide +kernel
theorem dX11_feed_43 : decode cX11_feed 43 = .ok (.getfield 89, 3) := by decide +kernel
theorem dX11_feed_46 : decode cX11_feed 46 = .ok (.ireturn, 1) := by decide +kernel
set_option maxHeartbeats 4000000 in
set_option maxRecDepth 100000 in
theorem c_X11_feed (l : Launch) (E : Nat → ClassId) (D : va_G) (Gi : th_G) (h0 n : Nat) (hG0 : Gi h0 = some (15, n)) (x1 x2 x3 x4 x5 : Int32) : Met l yX11_feed (tb (.code yX11_feed cX11_feed 6 (some .int))) (rm 1) (va_Pc [.ref h0, .int x1, .int x2, .int x3, .int x4, .int x5] (th_P E D Gi)) (QI E D (gu Gi h0 (15, fN n)) (fun r => ((r : Int32) = -1 ∧ ¬ n % 401 + 20 ≤ 400) ∨ ((r : Int32) = nI (n % 401 + 20) ∧ n % 401 + 20 ≤ 400))) 0 0 (th_A (gu Gi h0 (15, fN n))) := by
  refine Met.ofW (cc := cX11_feed) (maxL := 6) (ret := (some .int)) (by decide) rfl ?_
  intro p e s m args below meth c s₁ B hml hv
  obtain ⟨hav, hI, hN, hK⟩ := hv
  have hx := B.exec
  have hb := B.bytes
  have hr := B.returns
  have hts := atoms_spec (ws := tb (.code yX11_feed cX11_feed 6 (some .int))) B.pre
  have hown : s.vm.findClass RX11 = some m.cls := findClass_of_methodNamed B.named
  have hlocks := B.notSynchronized
  obtain ⟨G, hGe, hI, hG0, hS⟩ : ∃ G2 : th_G, G2 = gu Gi h0 (15, n) ∧ th_I (okC E) D G2 [] s.heap ∧ G2 h0 = some (15, n) ∧ va_S (th_A G2) s.heap s.heap [] := ⟨Gi, (gu_id hG0).symm, hI, hG0, va_S.rf⟩
  have hl := lv_entry ([.ref h0, .int x1, .int x2, .int x3, .int x4, .int x5]) (n := 6) (Nat.le_of_ble_eq_true rfl)
  rw [show entryFrame m args 6 = entryFrame m ([.ref h0, .int x1, .int x2, .int x3, .int x4, .int x5] : List Value).toArray 6 from by rw [hav], lg_entry_eq]
  generalize (lg_sl ([.ref h0, .int x1, .int x2, .int x3, .int x4, .int x5]) ++ List.replicate (6 - (lg_sl ([.ref h0, .int x1, .int x2, .int x3, .int x4, .int x5])).length) Slot.unset).toArray = ls at hl ⊢
  have hl : lv_has ls 6 [(0, .ref h0), (1, .int x1), (2, .int x2), (3, .int x3), (4, .int x4), (5, .int x5)] := hl
  generalize hR : (headSpec (tb (.code yX11_feed cX11_feed 6 (some .int))) (rm 1)).room = R
  have hR := hR.symm
  generalize hQ : MQ below (QI E D (gu Gi h0 (15, fN n)) (fun r => ((r : Int32) = -1 ∧ ¬ n % 401 + 20 ≤ 400) ∨ ((r : Int32) = nI (n % 401 + 20) ∧ n % 401 + 20 ≤ 400))) args s 0 0 (th_A (gu Gi h0 (15, fN n))) = QF
  have hQ := hQ.symm
  refine lv_aload_n hx hb dX11_feed_0 rfl (lv_at hl 0 rfl) ?_
  obtain ⟨a1, a4, a6, a8, a10, a12, a14, a16, a18, a20, a22, w24, w25, w26, w27, hO, hq2, hq3, hq5, hq7, hq9, hq11, hq13, hq15, hq17, hq19, hq21, hq23⟩ := op_15 hI hG0 List.not_mem_nil
  have hI := th_I.weak (a := h0) hI
  have k28 : (nI (n % 401)).toInt = ((n % 401 : Nat) : Int) := nI_toInt (by omega)
  refine th_get hx hb hts inT11 hown hK hO rfl 12 (by decide) (hts _ (tb_c wd_357)) rfl rfl dX11_feed_1 ?_
  refine lv_bipush (v := 20) hx hb dX11_feed_4 (by decide) ?_
  refine lv_iadd hx hb dX11_feed_6 ?_
  refine lv_topi (fun v29 e30 => ?_)
  have tv29 : v29.toInt = (nI (n % 401)).toInt + (20) := iv_add rfl (by decide) e30 (by omega) (by omega)
  refine lv_sipush (v := 400) hx hb dX11_feed_7 (by decide) ?_
  refine lv_icmp_le (tgt := 15) hx hb dX11_feed_10 (by decide) (fun c31 => ?_) (fun c31 => ?_)
  · skip
    have k32 := iv_le (X := v29.toInt) (Y := (400)) rfl (by decide) c31
    refine lv_aload_n hx hb dX11_feed_15 rfl (lv_at hl 0 rfl) ?_
    refine lv_iload_n hx hb dX11_feed_16 rfl (lv_at hl 1 rfl) ?_
    have hI := th_I.close hI hG0 hO (ok_15 hq2 hq3 hq5 hq7 hq9 hq11 hq13 hq15 hq17 hq19 hq21 hq23)
    refine th_cVg (gu_A hG0) (As := [.int x1]) (rest := []) (n := 1) (d := 0) ⟨hx, hb, hml, hown, hts⟩ (c_X11_write l E D G h0 (n) hG0 x1 (by omega)) wd_601 wd_603 wp_8 wd_1 wd_604 (by decide +kernel) ⟨by rw [hR]; exact Nat.le_of_ble_eq_true rfl, by rw [hR]; exact Nat.le_of_ble_eq_true rfl⟩ hI hN hK hS (rc_15 hI hG0 List.not_mem_nil) rfl rfl hl.1 rfl (Nat.le_of_ble_eq_true rfl) dX11_feed_17 ⟨Nat.zero_le _, Nat.zero_le _⟩ (fun H locs hI hS => ?_)
    obtain ⟨m34, e35⟩ : ∃ m : Nat, m = (n) + 4 := ⟨_, rfl⟩
    rw [← e35] at hI hS
    obtain ⟨G, hGe, hI, hG0, hS⟩ : ∃ G2 : th_G, G2 = gu Gi h0 (15, m34) ∧ th_I (okC E) D G2 [] H ∧ G2 h0 = some (15, m34) ∧ va_S (th_A G2) s.heap H locs := ⟨gu G h0 (15, m34), by rw [hGe, gu_gu], hI, gu_at, hS⟩
    refine lv_aload_n hx hb dX11_feed_20 rfl (lv_at hl 0 rfl) ?_
    refine lv_iload_n hx hb dX11_feed_21 rfl (lv_at hl 2 rfl) ?_
    refine th_cVg (gu_A hG0) (As := [.int x2]) (rest := []) (n := 1) (d := 0) ⟨hx, hb, hml, hown, hts⟩ (c_X11_write l E D G h0 (m34) hG0 x2 (by omega)) wd_601 wd_603 wp_8 wd_1 wd_604 (by decide +kernel) ⟨by rw [hR]; exact Nat.le_of_ble_eq_true rfl, by rw [hR]; exact Nat.le_of_ble_eq_true rfl⟩ hI hN hK hS (rc_15 hI hG0 List.not_mem_nil) rfl rfl hl.1 rfl (Nat.le_of_ble_eq_true rfl) dX11_feed_22 ⟨Nat.zero_le _, Nat.zero_le _⟩ (fun H locs hI hS => ?_)
    obtain ⟨m37, e38⟩ : ∃ m : Nat, m = (m34) + 4 := ⟨_, rfl⟩
    rw [← e38] at hI hS
    obtain ⟨G, hGe, hI, hG0, hS⟩ : ∃ G2 : th_G, G2 = gu Gi h0 (15, m37) ∧ th_I (okC E) D G2 [] H ∧ G2 h0 = some (15, m37) ∧ va_S (th_A G2) s.heap H locs := ⟨gu G h0 (15, m37), by rw [hGe, gu_gu], hI, gu_at, hS⟩
    refine lv_aload_n hx hb dX11_feed_25 rfl (lv_at hl 0 rfl) ?_
    refine lv_iload_n hx hb dX11_feed_26 rfl (lv_at hl 3 rfl) ?_
    refine th_cVg (gu_A hG0) (As := [.int x3]) (rest := []) (n := 1) (d := 0) ⟨hx, hb, hml, hown, hts⟩ (c_X11_write l E D G h0 (m37) hG0 x3 (by omega)) wd_601 wd_603 wp_8 wd_1 wd_604 (by decide +kernel) ⟨by rw [hR]; exact Nat.le_of_ble_eq_true rfl, by rw [hR]; exact Nat.le_of_ble_eq_true rfl⟩ hI hN hK hS (rc_15 hI hG0 List.not_mem_nil) rfl rfl hl.1 rfl (Nat.le_of_ble_eq_true rfl) dX11_feed_27 ⟨Nat.zero_le _, Nat.zero_le _⟩ (fun H locs hI hS => ?_)
    obtain ⟨m40, e41⟩ : ∃ m : Nat, m = (m37) + 4 := ⟨_, rfl⟩
    rw [← e41] at hI hS
    obtain ⟨G, hGe, hI, hG0, hS⟩ : ∃ G2 : th_G, G2 = gu Gi h0 (15, m40) ∧ th_I (okC E) D G2 [] H ∧ G2 h0 = some (15, m40) ∧ va_S (th_A G2) s.heap H locs := ⟨gu G h0 (15, m40), by rw [hGe, gu_gu], hI, gu_at, hS⟩
    refine lv_aload_n hx hb dX11_feed_30 rfl (lv_at hl 0 rfl) ?_
    refine lv_iload hx hb dX11_feed_31 (lv_at hl 4 rfl) ?_
    refine th_cVg (gu_A hG0) (As := [.int x4]) (rest := []) (n := 1) (d := 0) ⟨hx, hb, hml, hown, hts⟩ (c_X11_write l E D G h0 (m40) hG0 x4 (by omega)) wd_601 wd_603 wp_8 wd_1 wd_604 (by decide +kernel) ⟨by rw [hR]; exact Nat.le_of_ble_eq_true rfl, by rw [hR]; exact Nat.le_of_ble_eq_true rfl⟩ hI hN hK hS (rc_15 hI hG0 List.not_mem_nil) rfl rfl hl.1 rfl (Nat.le_of_ble_eq_true rfl) dX11_feed_33 ⟨Nat.zero_le _, Nat.zero_le _⟩ (fun H locs hI hS => ?_)
    obtain ⟨m43, e44⟩ : ∃ m : Nat, m = (m40) + 4 := ⟨_, rfl⟩
    rw [← e44] at hI hS
    obtain ⟨G, hGe, hI, hG0, hS⟩ : ∃ G2 : th_G, G2 = gu Gi h0 (15, m43) ∧ th_I (okC E) D G2 [] H ∧ G2 h0 = some (15, m43) ∧ va_S (th_A G2) s.heap H locs := ⟨gu G h0 (15, m43), by rw [hGe, gu_gu], hI, gu_at, hS⟩
    refine lv_aload_n hx hb dX11_feed_36 rfl (lv_at hl 0 rfl) ?_
    refine lv_iload hx hb dX11_feed_37 (lv_at hl 5 rfl) ?_
    refine th_cVg (gu_A hG0) (As := [.int x5]) (rest := []) (n := 1) (d := 0) ⟨hx, hb, hml, hown, hts⟩ (c_X11_write l E D G h0 (m43) hG0 x5 (by omega)) wd_601 wd_603 wp_8 wd_1 wd_604 (by decide +kernel) ⟨by rw [hR]; exact Nat.le_of_ble_eq_true rfl, by rw [hR]; exact Nat.le_of_ble_eq_true rfl⟩ hI hN hK hS (rc_15 hI hG0 List.not_mem_nil) rfl rfl hl.1 rfl (Nat.le_of_ble_eq_true rfl) dX11_feed_39 ⟨Nat.zero_le _, Nat.zero_le _⟩ (fun H locs hI hS => ?_)
    obtain ⟨m46, e47⟩ : ∃ m : Nat, m = (m43) + 4 := ⟨_, rfl⟩
    rw [← e47] at hI hS
    obtain ⟨G, hGe, hI, hG0, hS⟩ : ∃ G2 : th_G, G2 = gu Gi h0 (15, m46) ∧ th_I (okC E) D G2 [] H ∧ G2 h0 = some (15, m46) ∧ va_S (th_A G2) s.heap H locs := ⟨gu G h0 (15, m46), by rw [hGe, gu_gu], hI, gu_at, hS⟩
    refine lv_aload_n hx hb dX11_feed_42 rfl (lv_at hl 0 rfl) ?_
    obtain ⟨a48, a51, a53, a55, a57, a59, a61, a63, a65, a67, a69, w71, w72, w73, w74, hO, hq49, hq50, hq52, hq54, hq56, hq58, hq60, hq62, hq64, hq66, hq68, hq70⟩ := op_15 hI hG0 List.not_mem_nil
    have hI := th_I.weak (a := h0) hI
    have k75 : (nI (m46 % 401)).toInt = ((m46 % 401 : Nat) : Int) := nI_toInt (by omega)
    refine th_get hx hb hts inT11 hown hK hO rfl 12 (by decide) (hts _ (tb_c wd_357)) rfl rfl dX11_feed_43 ?_
    have hI := th_I.close hI hG0 hO (ok_15 hq49 hq50 hq52 hq54 hq56 hq58 hq60 hq62 hq64 hq66 hq68 hq70)
    have hGt : G = gu Gi h0 (15, fN n) := by rw [hGe]; exact congrArg (fun z => gu Gi h0 (15, z)) (show m46 = fN n from by unfold fN; split <;> omega)
    rw [hGt] at hI hS
    have hpost : (((nI (m46 % 401)) : Int32) = -1 ∧ ¬ n % 401 + 20 ≤ 400) ∨ (((nI (m46 % 401)) : Int32) = nI (n % 401 + 20) ∧ n % 401 + 20 ≤ 400) := by first | exact Or.inl ⟨rfl, by omega⟩ | exact Or.inr ⟨congrArg nI (by omega), by omega⟩
    rw [hQ]
    exact W.iret (v := (nI (m46 % 401))) hx hb hr (fun t ht hW => ⟨⟨(nI (m46 % 401)), (), rfl, hpost, by rw [ht]; exact hI, hN.warm hW, va_K.moved hW.alike hK⟩, hS.F ht⟩) hS.2.2 dX11_feed_46
  · skip
    have k76 := iv_nle (X := v29.toInt) (Y := (400)) rfl (by decide) c31
    refine lv_iconst (v := (-1)) hx hb dX11_feed_13 (by decide) ?_
    have hI := th_I.close hI hG0 hO (ok_15 hq2 hq3 hq5 hq7 hq9 hq11 hq13 hq15 hq17 hq19 hq21 hq23)
    have hGt : G = gu Gi h0 (15, fN n) := by rw [hGe]; exact congrArg (fun z => gu Gi h0 (15, z)) (show n = fN n from by unfold fN; split <;> omega)
    rw [hGt] at hI hS
    have hpost : (((-1) : Int32) = -1 ∧ ¬ n % 401 + 20 ≤ 400) ∨ (((-1) : Int32) = nI (n % 401 + 20) ∧ n % 401 + 20 ≤ 400) := by first | exact Or.inl ⟨rfl, by omega⟩ | exact Or.inr ⟨congrArg nI (by omega), by omega⟩
    rw [hQ]
    exact W.iret (v := (-1)) hx hb hr (fun t ht hW => ⟨⟨(-1), (), rfl, hpost, by rw [ht]; exact hI, hN.warm hW, va_K.moved hW.alike hK⟩, hS.F ht⟩) hS.2.2 dX11_feed_14
theorem dX11_foam_0 : decode cX11_foam 0 = .ok (.aload_n 0, 1) := by decide +kernel
theorem dX11_foam_1 : decode cX11_foam 1 = .ok (.getfield 96, 3) := by decide +kernel
theorem dX11_foam_4 : decode cX11_foam 4 = .ok (.ireturn, 1) := by decide +kernel
set_option maxHeartbeats 4000000 in
set_option maxRecDepth 100000 in
theorem c_X11_foam (l : Launch) (E : Nat → ClassId) (D : va_G) (G : th_G) (h0 n : Nat) (hG0 : G h0 = some (15, n)) : Met l yX11_foam (tb (.code yX11_foam cX11_foam 1 (some .int))) (rm 0) (va_Pc [.ref h0] (th_P E D G)) (QI E D G (fun r => True)) 0 0 (th_A G) := by
  refine Met.ofW (cc := cX11_foam) (maxL := 1) (ret := (some .int)) (by decide) rfl ?_
  intro p e s m args below meth c s₁ B hml hv
  obtain ⟨hav, hI, hN, hK⟩ := hv
  have hx := B.exec
  have hb := B.bytes
  have hr := B.returns
  have hts := atoms_spec (ws := tb (.code yX11_foam cX11_foam 1 (some .int))) B.pre
  have hown : s.vm.findClass RX11 = some m.cls := findClass_of_methodNamed B.named
  have hlocks := B.notSynchronized
  have hS : va_S (th_A G) s.heap s.heap [] := va_S.rf
  have hl := lv_entry ([.ref h0]) (n := 1) (Nat.le_of_ble_eq_true rfl)
  rw [show entryFrame m args 1 = entryFrame m ([.ref h0] : List Value).toArray 1 from by rw [hav], lg_entry_eq]
  generalize (lg_sl ([.ref h0]) ++ List.replicate (1 - (lg_sl ([.ref h0])).length) Slot.unset).toArray = ls at hl ⊢
  have hl : lv_has ls 1 [(0, .ref h0)] := hl
  generalize hR : (headSpec (tb (.code yX11_foam cX11_foam 1 (some .int))) (rm 0)).room = R
  have hR := hR.symm
  generalize hQ : MQ below (QI E D G (fun r => True)) args s 0 0 (th_A G) = QF
  have hQ := hQ.symm
  refine lv_aload_n hx hb dX11_foam_0 rfl (lv_at hl 0 rfl) ?_
  obtain ⟨a1, a4, a6, a8, a10, a12, a14, a16, a18, a20, a22, w24, w25, w26, w27, hO, hq2, hq3, hq5, hq7, hq9, hq11, hq13, hq15, hq17, hq19, hq21, hq23⟩ := op_15 hI hG0 List.not_mem_nil
  have hI := th_I.weak (a := h0) hI
  have k28 : (nI (n % 401)).toInt = ((n % 401 : Nat) : Int) := nI_toInt (by omega)
  refine th_get hx hb hts inT11 hown hK hO rfl 14 (by decide) (hts _ (tb_c wd_359)) rfl rfl dX11_foam_1 ?_
  have hI := th_I.close hI hG0 hO (ok_15 hq2 hq3 hq5 hq7 hq9 hq11 hq13 hq15 hq17 hq19 hq21 hq23)
  have hpost : True := trivial
  rw [hQ]
  exact W.iret (v := w25) hx hb hr (fun t ht hW => ⟨⟨w25, (), rfl, hpost, by rw [ht]; exact hI, hN.warm hW, va_K.moved hW.alike hK⟩, hS.F ht⟩) hS.2.2 dX11_foam_4
theorem dX11_fault_0 : decode cX11_fault 0 = .ok (.aload_n 0, 1) := by decide +kernel
theorem dX11_fault_1 : decode cX11_fault 1 = .ok (.getfield 93, 3) := by decide +kernel
theorem dX11_fault_4 : decode cX11_fault 4 = .ok (.ireturn, 1) := by decide +kernel
set_option maxHeartbeats 4000000 in
set_option maxRecDepth 100000 in
theorem c_X11_fault (l : Launch) (E : Nat → ClassId) (D : va_G) (G : th_G) (h0 n : Nat) (hG0 : G h0 = some (15, n)) : Met l yX11_fault (tb (.code yX11_fault cX11_fault 1 (some .int))) (rm 0) (va_Pc [.ref h0] (th_P E D G)) (QI E D G (fun r => True)) 0 0 (th_A G) := by
  refine Met.ofW (cc := cX11_fault) (maxL := 1) (ret := (some .int)) (by decide) rfl ?_
  intro p e s m args below meth c s₁ B hml hv
  obtain ⟨hav, hI, hN, hK⟩ := hv
  have hx := B.exec
  have hb := B.bytes
  have hr := B.returns
  have hts := atoms_spec (ws := tb (.code yX11_fault cX11_fault 1 (some .int))) B.pre
  have hown : s.vm.findClass RX11 = some m.cls := findClass_of_methodNamed B.named
  have hlocks := B.notSynchronized
  have hS : va_S (th_A G) s.heap s.heap [] := va_S.rf
  have hl := lv_entry ([.ref h0]) (n := 1) (Nat.le_of_ble_eq_true rfl)
  rw [show entryFrame m args 1 = entryFrame m ([.ref h0] : List Value).toArray 1 from by rw [hav], lg_entry_eq]
  generalize (lg_sl ([.ref h0]) ++ List.replicate (1 - (lg_sl ([.ref h0])).length) Slot.unset).toArray = ls at hl ⊢
  have hl : lv_has ls 1 [(0, .ref h0)] := hl
  generalize hR : (headSpec (tb (.code yX11_fault cX11_fault 1 (some .int))) (rm 0)).room = R
  have hR := hR.symm
  generalize hQ : MQ below (QI E D G (fun r => True)) args s 0 0 (th_A G) = QF
  have hQ := hQ.symm
  refine lv_aload_n hx hb dX11_fault_0 rfl (lv_at hl 0 rfl) ?_
  obtain ⟨a1, a4, a6, a8, a10, a12, a14, a16, a18, a20, a22, w24, w25, w26, w27, hO, hq2, hq3, hq5, hq7, hq9, hq11, hq13, hq15, hq17, hq19, hq21, hq23⟩ := op_15 hI hG0 List.not_mem_nil
  have hI := th_I.weak (a := h0) hI
  have k28 : (nI (n % 401)).toInt = ((n % 401 : Nat) : Int) := nI_toInt (by omega)
  refine th_get hx hb hts inT11 hown hK hO rfl 13 (by decide) (hts _ (tb_c wd_358)) rfl rfl dX11_fault_1 ?_
  have hI := th_I.close hI hG0 hO (ok_15 hq2 hq3 hq5 hq7 hq9 hq11 hq13 hq15 hq17 hq19 hq21 hq23)
  have hpost : True := trivial
  rw [hQ]
  exact W.iret (v := w24) hx hb hr (fun t ht hW => ⟨⟨w24, (), rfl, hpost, by rw [ht]; exact hI, hN.warm hW, va_K.moved hW.alike hK⟩, hS.F ht⟩) hS.2.2 dX11_fault_4
theorem dX11_status_0 : decode cX11_status 0 = .ok (.aload_n 0, 1) := by decide +kernel
theorem dX11_status_1 : decode cX11_status 1 = .ok (.getfield 99, 3) := by decide +kernel
theorem dX11_status_4 : decode cX11_status 4 = .ok (.ireturn, 1) := by decide +kernel
set_option maxHeartbeats 4000000 in
set_option maxRecDepth 100000 in
theorem c_X11_status (l : Launch) (E : Nat → ClassId) (D : va_G) (G : th_G) (h0 n : Nat) (hG0 : G h0 = some (15, n)) : Met l yX11_status (tb (.code yX11_status cX11_status 1 (some .int))) (rm 0) (va_Pc [.ref h0] (th_P E D G)) (QI E D G (fun r => True)) 0 0 (th_A G) := by
  refine Met.ofW (cc := cX11_status) (maxL := 1) (ret := (some .int)) (by decide) rfl ?_
  intro p e s m args below meth c s₁ B hml hv
  obtain ⟨hav, hI, hN, hK⟩ := hv
  have hx := B.exec
  have hb := B.bytes
  have hr := B.returns
  have hts := atoms_spec (ws := tb (.code yX11_status cX11_status 1 (some .int))) B.pre
  have hown : s.vm.findClass RX11 = some m.cls := findClass_of_methodNamed B.named
  have hlocks := B.notSynchronized
  have hS : va_S (th_A G) s.heap s.heap [] := va_S.rf
  have hl := lv_entry ([.ref h0]) (n := 1) (Nat.le_of_ble_eq_true rfl)
  rw [show entryFrame m args 1 = entryFrame m ([.ref h0] : List Value).toArray 1 from by rw [hav], lg_entry_eq]
  generalize (lg_sl ([.ref h0]) ++ List.replicate (1 - (lg_sl ([.ref h0])).length) Slot.unset).toArray = ls at hl ⊢
  have hl : lv_has ls 1 [(0, .ref h0)] := hl
  generalize hR : (headSpec (tb (.code yX11_status cX11_status 1 (some .int))) (rm 0)).room = R
  have hR := hR.symm
  generalize hQ : MQ below (QI E D G (fun r => True)) args s 0 0 (th_A G) = QF
  have hQ := hQ.symm
  refine lv_aload_n hx hb dX11_status_0 rfl (lv_at hl 0 rfl) ?_
  obtain ⟨a1, a4, a6, a8, a10, a12, a14, a16, a18, a20, a22, w24, w25, w26, w27, hO, hq2, hq3, hq5, hq7, hq9, hq11, hq13, hq15, hq17, hq19, hq21, hq23⟩ := op_15 hI hG0 List.not_mem_nil
  have hI := th_I.weak (a := h0) hI
  have k28 : (nI (n % 401)).toInt = ((n % 401 : Nat) : Int) := nI_toInt (by omega)
  refine th_get hx hb hts inT11 hown hK hO rfl 15 (by decide) (hts _ (tb_c wd_360)) rfl rfl dX11_status_1 ?_
  have hI := th_I.close hI hG0 hO (ok_15 hq2 hq3 hq5 hq7 hq9 hq11 hq13 hq15 hq17 hq19 hq21 hq23)
  have hpost : True := trivial
  rw [hQ]
  exact W.iret (v := w26) hx hb hr (fun t ht hW => ⟨⟨w26, (), rfl, hpost, by rw [ht]; exact hI, hN.warm hW, va_K.moved hW.alike hK⟩, hS.F ht⟩) hS.2.2 dX11_status_4
theorem dX11_force_0 : decode cX11_force 0 = .ok (.iload_n 1, 1) := by decide +kernel
theorem dX11_force_1 : decode cX11_force 1 = .ok (.iconst (-1), 1) := by decide +kernel
theorem dX11_force_2 : decode cX11_force 2 = .ok (.if_icmp .lt 14, 3) := by decide +kernel
theorem dX11_force_5 : decode cX11_force 5 = .ok (.iload_n 1, 1) := by decide +kernel
theorem dX11_force_6 : decode cX11_force 6 = .ok (.aload_n 0, 1) := by decide +kernel
theorem dX11_force_7 : decode cX11_force 7 = .ok (.getfield 12, 3) := by decide +kernel
theorem dX11_force_10 : decode cX11_force 10 = .ok (.getfield 194, 3) := by decide +kernel
theorem dX11_force_13 : decode cX11_force 13 = .ok (.if_icmp .lt 10, 3) := by decide +kernel
theorem dX11_force_16 : decode cX11_force 16 = .ok (.aload_n 0, 1) := by decide +kernel
theorem dX11_force_17 : decode cX11_force 17 = .ok (.bipush (-2), 2) := by decide +kernel
theorem dX11_force_19 : decode cX11_force 19 = .ok (.invokevirtual 113, 3) := by decide +kernel
theorem dX11_force_22 : decode cX11_force 22 = .ok (.ireturn, 1) := by decide +kernel
theorem dX11_force_23 : decode cX11_force 23 = .ok (.aload_n 0, 1) := by decide +kernel
theorem dX11_force_24 : decode cX11_force 24 = .ok (.getfield 12, 3) := by decide +kernel
theorem dX11_force_27 : decode cX11_force 27 = .ok (.getfield 208, 3) := by decide +kernel
theorem dX11_force_30 : decode cX11_force 30 = .ok (.istore_n 2, 1) := by decide +kernel
theorem dX11_force_31 : decode cX11_force 31 = .ok (.aload_n 0, 1) := by decide +kernel
theorem dX11_force_32 : decode cX11_force 32 = .ok (.getfield 12, 3) := by decide +kernel
theorem dX11_force_35 : decode cX11_force 35 = .ok (.iload_n 1, 1) := by decide +kernel
theorem dX11_force_36 : decode cX11_force 36 = .ok (.putfield 208, 3) := by decide +kernel
theorem dX11_force_39 : decode cX11_force 39 = .ok (.aload_n 0, 1) := by decide +kernel
theorem dX11_force_40 : decode cX11_force 40 = .ok (.invokevirtual 124, 3) := by decide +kernel
theorem dX11_force_43 : decode cX11_force 43 = .ok (.aload_n 0, 1) := by decide +kernel
theorem dX11_force_44 : decode cX11_force 44 = .ok (.iload_n 2, 1) := by decide +kernel
theorem dX11_force_45 : decode cX11_force 45 = .ok (.invokevirtual 127, 3) := by decide +kernel
theorem dX11_force_48 : decode cX11_force 48 = .ok (.ireturn, 1) := by decide +kernel
set_option maxHeartbeats 4000000 in
set_option maxRecDepth 100000 in
theorem c_X11_force (l : Launch) (E : Nat → ClassId) (D : va_G) (G : th_G) (h0 n : Nat) (hG0 : G h0 = some (15, n)) (x1 : Int32) : Met l yX11_force (tb (.code yX11_force cX11_force 3 (some .int))) (rm 3) (va_Pc [.ref h0, .int x1] (th_P E D G)) (QI E D G (fun r => True)) 0 0 (th_A G) := by
  refine Met.ofW (cc := cX11_force) (maxL := 3) (ret := (some .int)) (by decide) rfl ?_
  intro p e s m args below meth c s₁ B hml hv
  obtain ⟨hav, hI, hN, hK⟩ := hv
  have hx := B.exec
  have hb := B.bytes
  have hr := B.returns
  have hts := atoms_spec (ws := tb (.code yX11_force cX11_force 3 (some .int))) B.pre
  have hown : s.vm.findClass RX11 = some m.cls := findClass_of_methodNamed B.named
  have hlocks := B.notSynchronized
  have hS : va_S (th_A G) s.heap s.heap [] := va_S.rf
  have hl := lv_entry ([.ref h0, .int x1]) (n := 3) (Nat.le_of_ble_eq_true rfl)
  rw [show entryFrame m args 3 = entryFrame m ([.ref h0, .int x1] : List Value).toArray 3 from by rw [hav], lg_entry_eq]
  generalize (lg_sl ([.ref h0, .int x1]) ++ List.replicate (3 - (lg_sl ([.ref h0, .int x1])).length) Slot.unset).toArray = ls at hl ⊢
  have hl : lv_has ls 3 [(0, .ref h0), (1, .int x1)] := hl
  generalize hR : (headSpec (tb (.code yX11_force cX11_force 3 (some .int))) (rm 3)).room = R
  have hR := hR.symm
  generalize hQ : MQ below (QI E D G (fun r => True)) args s 0 0 (th_A G) = QF
  have hQ := hQ.symm
  have J_16 : ∀ (H : Heap) (locs : List Loc) (ls : Array Slot) , lv_has ls 3 [(0, .ref h0), (1, .int x1)] → th_I (okC E) D G [] H → va_S (th_A G) s.heap H locs → W p l e R s m args below meth c H locs 0 0 QF (F0 m 16 ls []) := by
    intro H locs ls  hl  hI hS
    refine lv_aload_n hx hb dX11_force_16 rfl (lv_at hl 0 rfl) ?_
    refine lv_bipush (v := (-2)) hx hb dX11_force_17 (by decide) ?_
    refine th_cVi (As := [.int (-2)]) (rest := []) (n := 1) (d := 0) ⟨hx, hb, hml, hown, hts⟩ (c_X11_refuse l E D G h0 (n) hG0 (-2)) wd_407 wd_409 wp_0 wd_1 wd_410 (by decide +kernel) ⟨by rw [hR]; exact Nat.le_of_ble_eq_true rfl, by rw [hR]; exact Nat.le_of_ble_eq_true rfl⟩ hI hN hK hS (rc_15 hI hG0 List.not_mem_nil) rfl rfl hl.1 rfl (Nat.le_of_ble_eq_true rfl) dX11_force_19 ⟨Nat.zero_le _, Nat.zero_le _⟩ (fun r1384 H locs hp hI hS => ?_)
    have hp := hp.symm
    subst hp
    have hpost : True := trivial
    rw [hQ]
    exact W.iret (v := (-2)) hx hb hr (fun t ht hW => ⟨⟨(-2), (), rfl, hpost, by rw [ht]; exact hI, hN.warm hW, va_K.moved hW.alike hK⟩, hS.F ht⟩) hS.2.2 dX11_force_22
  refine lv_iload_n hx hb dX11_force_0 rfl (lv_at hl 1 rfl) ?_
  refine lv_iconst (v := (-1)) hx hb dX11_force_1 (by decide) ?_
  have k1385 := iv_lo x1
  have k1386 := iv_hi x1
  refine lv_icmp_lt (tgt := 16) hx hb dX11_force_2 (by decide) (fun c1387 => ?_) (fun c1387 => ?_)
  · skip
    have k1388 := iv_lt (X := x1.toInt) (Y := (-1)) rfl (by decide) c1387
    exact J_16 s.heap [] ls  (lv_sub hl [0, 1] rfl)  hI hS
  · skip
    have k1389 := iv_nlt (X := x1.toInt) (Y := (-1)) rfl (by decide) c1387
    refine lv_iload_n hx hb dX11_force_5 rfl (lv_at hl 1 rfl) ?_
    refine lv_aload_n hx hb dX11_force_6 rfl (lv_at hl 0 rfl) ?_
    obtain ⟨a1390, a1393, a1395, a1397, a1399, a1401, a1403, a1405, a1407, a1409, a1411, w1413, w1414, w1415, w1416, hO, hq1391, hq1392, hq1394, hq1396, hq1398, hq1400, hq1402, hq1404, hq1406, hq1408, hq1410, hq1412⟩ := op_15 hI hG0 List.not_mem_nil
    have hI := th_I.weak (a := h0) hI
    have k1417 : (nI (n % 401)).toInt = ((n % 401 : Nat) : Int) := nI_toInt (by omega)
    refine th_get hx hb hts inT11 hown hK hO rfl 0 (by decide) (hts _ (tb_c wd_345)) rfl rfl dX11_force_7 ?_
    have hI := th_I.close hI hG0 hO (ok_15 hq1391 hq1392 hq1394 hq1396 hq1398 hq1400 hq1402 hq1404 hq1406 hq1408 hq1410 hq1412)
    obtain ⟨a1418, a1420, a1422, a1424, a1426, a1428, a1430, a1432, a1434, a1436, w1438, w1441, w1442, w1443, hO, hq1419, hq1421, hq1423, hq1425, hq1427, hq1429, hq1431, hq1433, hq1435, hq1437, ⟨k1439, k1440⟩⟩ := op_6 hI hq1391 List.not_mem_nil
    have hI := th_I.weak (a := a1390) hI
    refine th_getN hx hb hts inT6 hown hK hN hO rfl 10 (by decide) wn_83 rfl rfl dX11_force_10 ?_
    refine lv_icmp_lt (tgt := 23) hx hb dX11_force_13 (by decide) (fun c1444 => ?_) (fun c1444 => ?_)
    · skip
      have k1445 := iv_lt (X := x1.toInt) (Y := w1438.toInt) rfl rfl c1444
      refine lv_aload_n hx hb dX11_force_23 rfl (lv_at hl 0 rfl) ?_
      have hI := th_I.close hI hq1391 hO (ok_6 hq1419 hq1421 hq1423 hq1425 hq1427 hq1429 hq1431 hq1433 hq1435 hq1437 ⟨by omega, by omega⟩)
      obtain ⟨a1446, a1449, a1451, a1453, a1455, a1457, a1459, a1461, a1463, a1465, a1467, w1469, w1470, w1471, w1472, hO, hq1447, hq1448, hq1450, hq1452, hq1454, hq1456, hq1458, hq1460, hq1462, hq1464, hq1466, hq1468⟩ := op_15 hI hG0 List.not_mem_nil
      have hI := th_I.weak (a := h0) hI
      have k1473 : (nI (n % 401)).toInt = ((n % 401 : Nat) : Int) := nI_toInt (by omega)
      refine th_get hx hb hts inT11 hown hK hO rfl 0 (by decide) (hts _ (tb_c wd_345)) rfl rfl dX11_force_24 ?_
      have hI := th_I.close hI hG0 hO (ok_15 hq1447 hq1448 hq1450 hq1452 hq1454 hq1456 hq1458 hq1460 hq1462 hq1464 hq1466 hq1468)
      obtain ⟨a1474, a1476, a1478, a1480, a1482, a1484, a1486, a1488, a1490, a1492, w1494, w1497, w1498, w1499, hO, hq1475, hq1477, hq1479, hq1481, hq1483, hq1485, hq1487, hq1489, hq1491, hq1493, ⟨k1495, k1496⟩⟩ := op_6 hI hq1447 List.not_mem_nil
      have hI := th_I.weak (a := a1446) hI
      refine th_getN hx hb hts inT6 hown hK hN hO rfl 11 (by decide) wn_85 rfl rfl dX11_force_27 ?_
      refine lv_istore_n (lv' := [(2, .int w1497), (0, .ref h0), (1, .int x1)]) hx hb dX11_force_30 rfl hl (by decide) rfl (fun ls hl => ?_)
      refine lv_aload_n hx hb dX11_force_31 rfl (lv_at hl 1 rfl) ?_
      have hI := th_I.close hI hq1447 hO (ok_6 hq1475 hq1477 hq1479 hq1481 hq1483 hq1485 hq1487 hq1489 hq1491 hq1493 ⟨by omega, by omega⟩)
      obtain ⟨a1500, a1503, a1505, a1507, a1509, a1511, a1513, a1515, a1517, a1519, a1521, w1523, w1524, w1525, w1526, hO, hq1501, hq1502, hq1504, hq1506, hq1508, hq1510, hq1512, hq1514, hq1516, hq1518, hq1520, hq1522⟩ := op_15 hI hG0 List.not_mem_nil
      have hI := th_I.weak (a := h0) hI
      have k1527 : (nI (n % 401)).toInt = ((n % 401 : Nat) : Int) := nI_toInt (by omega)
      refine th_get hx hb hts inT11 hown hK hO rfl 0 (by decide) (hts _ (tb_c wd_345)) rfl rfl dX11_force_32 ?_
      refine lv_iload_n hx hb dX11_force_35 rfl (lv_at hl 2 rfl) ?_
      have hI := th_I.close hI hG0 hO (ok_15 hq1501 hq1502 hq1504 hq1506 hq1508 hq1510 hq1512 hq1514 hq1516 hq1518 hq1520 hq1522)
      obtain ⟨a1528, a1530, a1532, a1534, a1536, a1538, a1540, a1542, a1544, a1546, w1548, w1551, w1552, w1553, hO, hq1529, hq1531, hq1533, hq1535, hq1537, hq1539, hq1541, hq1543, hq1545, hq1547, ⟨k1549, k1550⟩⟩ := op_6 hI hq1501 List.not_mem_nil
      have hI := th_I.weak (a := a1500) hI
      refine th_putN (ty := .int) hx hb hts inT6 tyX6 tyX6_ok nmX6 hown hK hN hO hS ⟨_, hq1501⟩ rfl 11 (by decide) wn_85 rfl rfl (by decide +kernel) rfl rfl (Nat.le_of_ble_eq_true rfl) dX11_force_36 (fun H locs hO oq hS => ?_)
      have hI := th_I.moved hI oq
      have hO : va_at D vwCl (a1500, .inr (6, [.ref a1528, .ref a1530, .ref a1532, .ref a1534, .ref a1536, .ref a1538, .ref a1540, .ref a1542, .ref a1544, .ref a1546, .int w1548, .int x1, .int w1552, .int w1553])) H := hO
      refine lv_aload_n hx hb dX11_force_39 rfl (lv_at hl 1 rfl) ?_
      have hI := th_I.close hI hq1501 hO (ok_6 hq1529 hq1531 hq1533 hq1535 hq1537 hq1539 hq1541 hq1543 hq1545 hq1547 ⟨by omega, by omega⟩)
      refine th_cVv (As := []) (rest := []) (n := 0) (d := 2) ⟨hx, hb, hml, hown, hts⟩ (c_X11_turnRiver l E D G h0 (n) hG0 ) wd_423 wd_425 wp_1 wd_1 wd_426 (by decide +kernel) ⟨by rw [hR]; exact Nat.le_of_ble_eq_true rfl, by rw [hR]; exact Nat.le_of_ble_eq_true rfl⟩ hI hN hK hS (rc_15 hI hG0 List.not_mem_nil) rfl rfl hl.1 rfl (Nat.le_of_ble_eq_true rfl) dX11_force_40 ⟨Nat.zero_le _, Nat.zero_le _⟩ (fun H locs hI hS => ?_)
      refine lv_aload_n hx hb dX11_force_43 rfl (lv_at hl 1 rfl) ?_
      refine lv_iload_n hx hb dX11_force_44 rfl (lv_at hl 0 rfl) ?_
      refine th_cVi (As := [.int w1497]) (rest := []) (n := 1) (d := 0) ⟨hx, hb, hml, hown, hts⟩ (c_X11_accept l E D G h0 (n) hG0 w1497) wd_447 wd_449 wp_3 wd_1 wd_450 (by decide +kernel) ⟨by rw [hR]; exact Nat.le_of_ble_eq_true rfl, by rw [hR]; exact Nat.le_of_ble_eq_true rfl⟩ hI hN hK hS (rc_15 hI hG0 List.not_mem_nil) rfl rfl hl.1 rfl (Nat.le_of_ble_eq_true rfl) dX11_force_45 ⟨Nat.zero_le _, Nat.zero_le _⟩ (fun r1555 H locs hp hI hS => ?_)
      have hp := hp.symm
      subst hp
      have hpost : True := trivial
      rw [hQ]
      exact W.iret (v := w1497) hx hb hr (fun t ht hW => ⟨⟨w1497, (), rfl, hpost, by rw [ht]; exact hI, hN.warm hW, va_K.moved hW.alike hK⟩, hS.F ht⟩) hS.2.2 dX11_force_48
    · skip
      have k1556 := iv_nlt (X := x1.toInt) (Y := w1438.toInt) rfl rfl c1444
      have hI := th_I.close hI hq1391 hO (ok_6 hq1419 hq1421 hq1423 hq1425 hq1427 hq1429 hq1431 hq1433 hq1435 hq1437 ⟨by omega, by omega⟩)
      exact J_16 s.heap [] ls  (lv_sub hl [0, 1] rfl)  hI hS
