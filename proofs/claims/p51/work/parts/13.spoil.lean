theorem wn_83 : (Cond.fieldLinkNest RX11 (194 : Nat) "NineRiver$State" "lawCount" "I" "NineRiver") ∈ lw_tbl := List.mem_append_right _ (List.mem_of_getElem? (i := 83) (by decide +kernel))
theorem wn_85 : (Cond.fieldLinkNest RX11 (208 : Nat) "NineRiver$State" "inForce" "I" "NineRiver") ∈ lw_tbl := List.mem_append_right _ (List.mem_of_getElem? (i := 85) (by decide +kernel))
theorem wn_88 : (Cond.fieldLinkNest RX11 (179 : Nat) "NineRiver$State" "natural" "I" "NineRiver") ∈ lw_tbl := List.mem_append_right _ (List.mem_of_getElem? (i := 88) (by decide +kernel))
theorem wn_92 : (Cond.fieldLinkNest RX11 (182 : Nat) "NineRiver$State" "year" "I" "NineRiver") ∈ lw_tbl := List.mem_append_right _ (List.mem_of_getElem? (i := 92) (by decide +kernel))
theorem wp_0 : Cond.selects RX11 yX11_refuse yX11_refuse ∈ TB := tv 0 (by decide +kernel) (by decide +kernel)
theorem wp_1 : Cond.selects RX11 yX11_turnRiver yX11_turnRiver ∈ TB := tv 1 (by decide +kernel) (by decide +kernel)
theorem wp_2 : Cond.selects RX11 yX11_turnLists yX11_turnLists ∈ TB := tv 2 (by decide +kernel) (by decide +kernel)
theorem wp_3 : Cond.selects RX11 yX11_accept yX11_accept ∈ TB := tv 3 (by decide +kernel) (by decide +kernel)
theorem wp_8 : Cond.selects RX11 yX11_write yX11_write ∈ TB := tv 8 (by decide +kernel) (by decide +kernel)
theorem wd_10 : (Cond.initialized RX5) ∈ TB := tw 10 (by decide +kernel) (by decide +kernel)
theorem wd_12 : (Cond.initialized RX10) ∈ TB := tw 12 (by decide +kernel) (by decide +kernel)
theorem wd_178 : (Cond.fieldLink RX0 (9 : Nat) "NineRiver$Asker" "words" "[I") ∈ TB := tw 178 (by decide +kernel) (by decide +kernel)
theorem wd_195 : (Cond.fieldLink RX7 (31 : Nat) "NineRiver$Stream" "isSpoilt" "Z") ∈ TB := tw 195 (by decide +kernel) (by decide +kernel)
theorem wd_246 : (Cond.fieldLink RX1 (34 : Nat) "NineRiver$Dyes" "isSpoilt" "Z") ∈ TB := tw 246 (by decide +kernel) (by decide +kernel)
theorem wd_280 : (Cond.fieldLink RX5 (19 : Nat) "NineRiver$Sleuth" "looked" "I") ∈ TB := tw 280 (by decide +kernel) (by decide +kernel)
theorem wd_331 : (Cond.fieldLink RX10 (18 : Nat) "NineRiver$Tuner" "tunedPump" "I") ∈ TB := tw 331 (by decide +kernel) (by decide +kernel)
theorem wd_345 : (Cond.fieldLink RX11 (12 : Nat) "NineRiver" "state" "LNineRiver$State;") ∈ TB := tw 345 (by decide +kernel) (by decide +kernel)
theorem wd_347 : (Cond.fieldLink RX11 (20 : Nat) "NineRiver" "tape" "[I") ∈ TB := tw 347 (by decide +kernel) (by decide +kernel)
theorem wd_348 : (Cond.fieldLink RX11 (24 : Nat) "NineRiver" "refusals" "[I") ∈ TB := tw 348 (by decide +kernel) (by decide +kernel)
theorem wd_351 : (Cond.fieldLink RX11 (42 : Nat) "NineRiver" "stream" "LNineRiver$Stream;") ∈ TB := tw 351 (by decide +kernel) (by decide +kernel)
theorem wd_353 : (Cond.fieldLink RX11 (60 : Nat) "NineRiver" "dyes" "LNineRiver$Dyes;") ∈ TB := tw 353 (by decide +kernel) (by decide +kernel)
theorem wd_354 : (Cond.fieldLink RX11 (69 : Nat) "NineRiver" "sleuth" "LNineRiver$Sleuth;") ∈ TB := tw 354 (by decide +kernel) (by decide +kernel)
theorem wd_356 : (Cond.fieldLink RX11 (85 : Nat) "NineRiver" "tuner" "LNineRiver$Tuner;") ∈ TB := tw 356 (by decide +kernel) (by decide +kernel)
theorem wd_357 : (Cond.fieldLink RX11 (89 : Nat) "NineRiver" "tapeSize" "I") ∈ TB := tw 357 (by decide +kernel) (by decide +kernel)
theorem wd_358 : (Cond.fieldLink RX11 (93 : Nat) "NineRiver" "faultAt" "I") ∈ TB := tw 358 (by decide +kernel) (by decide +kernel)
theorem wd_359 : (Cond.fieldLink RX11 (96 : Nat) "NineRiver" "foamed" "I") ∈ TB := tw 359 (by decide +kernel) (by decide +kernel)
theorem wd_360 : (Cond.fieldLink RX11 (99 : Nat) "NineRiver" "refusedBy" "I") ∈ TB := tw 360 (by decide +kernel) (by decide +kernel)
theorem wd_404 : (Cond.methodLink RX11 (110 : Nat) yX11_isClock) ∈ TB := tw 404 (by decide +kernel) (by decide +kernel)
theorem wd_405 : (Jvm.Cond.static yX11_isClock) ∈ TB := tw 405 (by decide +kernel) (by decide +kernel)
theorem wd_406 : (Cond.code yX11_isClock cX11_isClock 1 (Option.some Jvm.ClassFile.FieldType.boolean)) ∈ TB := tw 406 (by decide +kernel) (by decide +kernel)
theorem wd_407 : (Cond.methodLink RX11 (113 : Nat) yX11_refuse) ∈ TB := tw 407 (by decide +kernel) (by decide +kernel)
theorem wd_409 : (Jvm.Cond.instanceMethod yX11_refuse) ∈ TB := tw 409 (by decide +kernel) (by decide +kernel)
theorem wd_410 : (Cond.code yX11_refuse cX11_refuse 3 (Option.some Jvm.ClassFile.FieldType.int)) ∈ TB := tw 410 (by decide +kernel) (by decide +kernel)
theorem wd_411 : (Cond.methodLink RX11 (117 : Nat) yX11_isPump) ∈ TB := tw 411 (by decide +kernel) (by decide +kernel)
theorem wd_414 : (Cond.methodLink RX11 (120 : Nat) yX6_tellPump) ∈ TB := tw 414 (by decide +kernel) (by decide +kernel)
theorem wd_415 : (Jvm.Cond.instanceMethod yX6_tellPump) ∈ TB := tw 415 (by decide +kernel) (by decide +kernel)
theorem wd_416 : (Cond.selects RX6 yX6_tellPump yX6_tellPump) ∈ TB := tw 416 (by decide +kernel) (by decide +kernel)
theorem wd_417 : (Cond.code yX6_tellPump cX6_tellPump 8 (Option.none : Option Jvm.ClassFile.FieldType)) ∈ TB := tw 417 (by decide +kernel) (by decide +kernel)
theorem wd_423 : (Cond.methodLink RX11 (124 : Nat) yX11_turnRiver) ∈ TB := tw 423 (by decide +kernel) (by decide +kernel)
theorem wd_425 : (Jvm.Cond.instanceMethod yX11_turnRiver) ∈ TB := tw 425 (by decide +kernel) (by decide +kernel)
theorem wd_426 : (Cond.code yX11_turnRiver cX11_turnRiver 1 (Option.none : Option Jvm.ClassFile.FieldType)) ∈ TB := tw 426 (by decide +kernel) (by decide +kernel)
theorem wd_427 : (Cond.methodLink RX11 (348 : Nat) yX7_spoil) ∈ TB := tw 427 (by decide +kernel) (by decide +kernel)
theorem wd_428 : (Jvm.Cond.instanceMethod yX7_spoil) ∈ TB := tw 428 (by decide +kernel) (by decide +kernel)
theorem wd_429 : (Cond.selects RX7 yX7_spoil yX7_spoil) ∈ TB := tw 429 (by decide +kernel) (by decide +kernel)
theorem wd_430 : (Cond.code yX7_spoil cX7_spoil 1 (Option.none : Option Jvm.ClassFile.FieldType)) ∈ TB := tw 430 (by decide +kernel) (by decide +kernel)
theorem wd_431 : (Cond.methodLink RX11 (191 : Nat) yX11_turnLists) ∈ TB := tw 431 (by decide +kernel) (by decide +kernel)
theorem wd_433 : (Jvm.Cond.instanceMethod yX11_turnLists) ∈ TB := tw 433 (by decide +kernel) (by decide +kernel)
theorem wd_434 : (Cond.code yX11_turnLists cX11_turnLists 1 (Option.none : Option Jvm.ClassFile.FieldType)) ∈ TB := tw 434 (by decide +kernel) (by decide +kernel)
theorem wd_435 : (Cond.methodLink RX11 (351 : Nat) yX1_spoil) ∈ TB := tw 435 (by decide +kernel) (by decide +kernel)
theorem wd_436 : (Jvm.Cond.instanceMethod yX1_spoil) ∈ TB := tw 436 (by decide +kernel) (by decide +kernel)
theorem wd_437 : (Cond.selects RX1 yX1_spoil yX1_spoil) ∈ TB := tw 437 (by decide +kernel) (by decide +kernel)
theorem wd_438 : (Cond.code yX1_spoil cX1_spoil 1 (Option.none : Option Jvm.ClassFile.FieldType)) ∈ TB := tw 438 (by decide +kernel) (by decide +kernel)
theorem wd_439 : (Cond.methodLink RX11 (352 : Nat) yX5_spoil) ∈ TB := tw 439 (by decide +kernel) (by decide +kernel)
theorem wd_440 : (Jvm.Cond.instanceMethod yX5_spoil) ∈ TB := tw 440 (by decide +kernel) (by decide +kernel)
theorem wd_441 : (Cond.selects RX5 yX5_spoil yX5_spoil) ∈ TB := tw 441 (by decide +kernel) (by decide +kernel)
theorem wd_442 : (Cond.code yX5_spoil cX5_spoil 1 (Option.none : Option Jvm.ClassFile.FieldType)) ∈ TB := tw 442 (by decide +kernel) (by decide +kernel)
theorem wd_443 : (Cond.methodLink RX11 (353 : Nat) yX10_spoil) ∈ TB := tw 443 (by decide +kernel) (by decide +kernel)
theorem wd_444 : (Jvm.Cond.instanceMethod yX10_spoil) ∈ TB := tw 444 (by decide +kernel) (by decide +kernel)
theorem wd_445 : (Cond.selects RX10 yX10_spoil yX10_spoil) ∈ TB := tw 445 (by decide +kernel) (by decide +kernel)
theorem wd_446 : (Cond.code yX10_spoil cX10_spoil 1 (Option.none : Option Jvm.ClassFile.FieldType)) ∈ TB := tw 446 (by decide +kernel) (by decide +kernel)
theorem wd_447 : (Cond.methodLink RX11 (127 : Nat) yX11_accept) ∈ TB := tw 447 (by decide +kernel) (by decide +kernel)
theorem wd_449 : (Jvm.Cond.instanceMethod yX11_accept) ∈ TB := tw 449 (by decide +kernel) (by decide +kernel)
theorem wd_450 : (Cond.code yX11_accept cX11_accept 2 (Option.some Jvm.ClassFile.FieldType.int)) ∈ TB := tw 450 (by decide +kernel) (by decide +kernel)
theorem wd_455 : (Cond.methodLink RX11 (130 : Nat) yX6_pumpPart) ∈ TB := tw 455 (by decide +kernel) (by decide +kernel)
theorem wd_463 : (Cond.methodLink RX11 (134 : Nat) yX11_isSpan) ∈ TB := tw 463 (by decide +kernel) (by decide +kernel)
theorem wd_464 : (Jvm.Cond.static yX11_isSpan) ∈ TB := tw 464 (by decide +kernel) (by decide +kernel)
theorem wd_465 : (Cond.code yX11_isSpan cX11_isSpan 2 (Option.some Jvm.ClassFile.FieldType.boolean)) ∈ TB := tw 465 (by decide +kernel) (by decide +kernel)
theorem wd_469 : (Cond.methodLink RX11 (138 : Nat) yX11_isFlag) ∈ TB := tw 469 (by decide +kernel) (by decide +kernel)
theorem wd_470 : (Jvm.Cond.static yX11_isFlag) ∈ TB := tw 470 (by decide +kernel) (by decide +kernel)
theorem wd_471 : (Cond.code yX11_isFlag cX11_isFlag 1 (Option.some Jvm.ClassFile.FieldType.boolean)) ∈ TB := tw 471 (by decide +kernel) (by decide +kernel)
theorem wd_472 : (Cond.methodLink RX11 (141 : Nat) yX6_tellStrikes) ∈ TB := tw 472 (by decide +kernel) (by decide +kernel)
theorem wd_473 : (Jvm.Cond.instanceMethod yX6_tellStrikes) ∈ TB := tw 473 (by decide +kernel) (by decide +kernel)
theorem wd_474 : (Cond.selects RX6 yX6_tellStrikes yX6_tellStrikes) ∈ TB := tw 474 (by decide +kernel) (by decide +kernel)
theorem wd_475 : (Cond.code yX6_tellStrikes cX6_tellStrikes 6 (Option.some Jvm.ClassFile.FieldType.int)) ∈ TB := tw 475 (by decide +kernel) (by decide +kernel)
theorem wd_6 : (Cond.initialized RX7) ∈ TB := tw 6 (by decide +kernel) (by decide +kernel)
theorem wd_601 : (Cond.methodLink RX11 (185 : Nat) yX11_write) ∈ TB := tw 601 (by decide +kernel) (by decide +kernel)
theorem wd_603 : (Jvm.Cond.instanceMethod yX11_write) ∈ TB := tw 603 (by decide +kernel) (by decide +kernel)
theorem wd_604 : (Cond.code yX11_write cX11_write 3 (Option.none : Option Jvm.ClassFile.FieldType)) ∈ TB := tw 604 (by decide +kernel) (by decide +kernel)
theorem wd_9 : (Cond.initialized RX1) ∈ TB := tw 9 (by decide +kernel) (by decide +kernel)
theorem dX0_going_0 : decode cX0_going 0 = .ok (.aload_n 0, 1) := by decide +kernel
theorem dX0_going_1 : decode cX0_going 1 = .ok (.getfield 9, 3) := by decide +kernel
theorem dX0_going_4 : decode cX0_going 4 = .ok (.bipush 7, 2) := by decide +kernel
theorem dX0_going_6 : decode cX0_going 6 = .ok (.iload_n 1, 1) := by decide +kernel
theorem dX0_going_7 : decode cX0_going 7 = .ok (.iastore, 1) := by decide +kernel
theorem dX0_going_8 : decode cX0_going 8 = .ok (.return_, 1) := by decide +kernel
set_option maxHeartbeats 4000000 in
set_option maxRecDepth 100000 in
theorem c_X0_going (l : Launch) (E : Nat → ClassId) (D : va_G) (G : th_G) (h0 : Nat) (hG0 : G h0 = some (8, 0)) (x1 : Int32) : Met l yX0_going (tb (.code yX0_going cX0_going 2 none)) (rm 0) (va_Pc [.ref h0, .int x1] (th_P E D G)) (QV E D G) 0 0 (th_A G) := by
  refine Met.ofW (cc := cX0_going) (maxL := 2) (ret := none) (by decide) rfl ?_
  intro p e s m args below meth c s₁ B hml hv
  obtain ⟨hav, hI, hN, hK⟩ := hv
  have hx := B.exec
  have hb := B.bytes
  have hr := B.returns
  have hts := atoms_spec (ws := tb (.code yX0_going cX0_going 2 none)) B.pre
  have hown : s.vm.findClass RX0 = some m.cls := findClass_of_methodNamed B.named
  have hlocks := B.notSynchronized
  have hS : va_S (th_A G) s.heap s.heap [] := va_S.rf
  have hl := lv_entry ([.ref h0, .int x1]) (n := 2) (Nat.le_of_ble_eq_true rfl)
  rw [show entryFrame m args 2 = entryFrame m ([.ref h0, .int x1] : List Value).toArray 2 from by rw [hav], lg_entry_eq]
  generalize (lg_sl ([.ref h0, .int x1]) ++ List.replicate (2 - (lg_sl ([.ref h0, .int x1])).length) Slot.unset).toArray = ls at hl ⊢
  have hl : lv_has ls 2 [(0, .ref h0), (1, .int x1)] := hl
  generalize hR : (headSpec (tb (.code yX0_going cX0_going 2 none)) (rm 0)).room = R
  have hR := hR.symm
  generalize hQ : MQ below (QV E D G) args s 0 0 (th_A G) = QF
  have hQ := hQ.symm
  refine lv_aload_n hx hb dX0_going_0 rfl (lv_at hl 0 rfl) ?_
  obtain ⟨a1, a3, w5, hO, hq2, hq4⟩ := op_8 hI hG0 List.not_mem_nil
  have hI := th_I.weak (a := h0) hI
  refine th_get hx hb hts inT0 hown hK hO rfl 0 (by decide) (hts _ (tb_c wd_178)) rfl rfl dX0_going_1 ?_
  refine lv_bipush (v := 7) hx hb dX0_going_4 (by decide) ?_
  refine lv_iload_n hx hb dX0_going_6 rfl (lv_at hl 1 rfl) ?_
  obtain ⟨_, hA6⟩ := op_0 hI hq2 (th_ne hG0 hq2 (show (8 : Nat) ≠ 0 by decide))
  refine th_iast hx hb hK hA6 0 rfl hS ⟨_, hq2⟩ (iv_in (X := (7)) (by decide) (by omega) (by omega)) dX0_going_7 (fun H locs hA6 oq hS => ?_)
  have hI := th_I.put hI hq2 hA6 ok_0 oq
  have hO := hO.kept (oq _ (fun z => th_ne hG0 hq2 (show (8 : Nat) ≠ 0 by decide) (List.mem_singleton.mpr z.symm)))
  have hI := th_I.close hI hG0 hO (ok_8 hq2 hq4)
  rw [hQ]
  exact W.vret hx hb hr (fun t ht hW => ⟨⟨(), rfl, trivial, by rw [ht]; exact hI, hN.warm hW, va_K.moved hW.alike hK⟩, hS.F ht⟩) hS.2.2 dX0_going_8
theorem dX7_spoil_0 : decode cX7_spoil 0 = .ok (.aload_n 0, 1) := by decide +kernel
theorem dX7_spoil_1 : decode cX7_spoil 1 = .ok (.iconst 1, 1) := by decide +kernel
theorem dX7_spoil_2 : decode cX7_spoil 2 = .ok (.putfield 31, 3) := by decide +kernel
theorem dX7_spoil_5 : decode cX7_spoil 5 = .ok (.return_, 1) := by decide +kernel
set_option maxHeartbeats 4000000 in
set_option maxRecDepth 100000 in
theorem c_X7_spoil (l : Launch) (E : Nat → ClassId) (D : va_G) (G : th_G) (h0 : Nat) (hG0 : G h0 = some (9, 0)) : Met l yX7_spoil (tb (.code yX7_spoil cX7_spoil 1 none)) (rm 0) (va_Pc [.ref h0] (th_P E D G)) (QV E D G) 0 0 (th_A G) := by
  refine Met.ofW (cc := cX7_spoil) (maxL := 1) (ret := none) (by decide) rfl ?_
  intro p e s m args below meth c s₁ B hml hv
  obtain ⟨hav, hI, hN, hK⟩ := hv
  have hx := B.exec
  have hb := B.bytes
  have hr := B.returns
  have hts := atoms_spec (ws := tb (.code yX7_spoil cX7_spoil 1 none)) B.pre
  have hown : s.vm.findClass RX7 = some m.cls := findClass_of_methodNamed B.named
  have hlocks := B.notSynchronized
  have hS : va_S (th_A G) s.heap s.heap [] := va_S.rf
  have hl := lv_entry ([.ref h0]) (n := 1) (Nat.le_of_ble_eq_true rfl)
  rw [show entryFrame m args 1 = entryFrame m ([.ref h0] : List Value).toArray 1 from by rw [hav], lg_entry_eq]
  generalize (lg_sl ([.ref h0]) ++ List.replicate (1 - (lg_sl ([.ref h0])).length) Slot.unset).toArray = ls at hl ⊢
  have hl : lv_has ls 1 [(0, .ref h0)] := hl
  generalize hR : (headSpec (tb (.code yX7_spoil cX7_spoil 1 none)) (rm 0)).room = R
  have hR := hR.symm
  generalize hQ : MQ below (QV E D G) args s 0 0 (th_A G) = QF
  have hQ := hQ.symm
  refine lv_aload_n hx hb dX7_spoil_0 rfl (lv_at hl 0 rfl) ?_
  refine lv_iconst (v := 1) hx hb dX7_spoil_1 (by decide) ?_
  obtain ⟨a1, a3, a5, a7, a9, a11, w13, hO, hq2, hq4, hq6, hq8, hq10, hq12⟩ := op_9 hI hG0 List.not_mem_nil
  have hI := th_I.weak (a := h0) hI
  refine th_put (ty := .boolean) hx hb hts inT7 tyX7 tyX7_ok nmX7 hown hK hO hS ⟨_, hG0⟩ rfl 6 (by decide) (hts _ (tb_c wd_195)) rfl rfl (by decide +kernel) (by decide) rfl (Nat.le_of_ble_eq_true rfl) dX7_spoil_2 (fun H locs hO oq hS => ?_)
  have hI := th_I.moved hI oq
  have hO : va_at D vwCl (h0, .inr (7, [.ref a1, .ref a3, .ref a5, .ref a7, .ref a9, .ref a11, .int 1])) H := hO
  have hI := th_I.close hI hG0 hO (ok_9 hq2 hq4 hq6 hq8 hq10 hq12)
  rw [hQ]
  exact W.vret hx hb hr (fun t ht hW => ⟨⟨(), rfl, trivial, by rw [ht]; exact hI, hN.warm hW, va_K.moved hW.alike hK⟩, hS.F ht⟩) hS.2.2 dX7_spoil_5
theorem dX1_spoil_0 : decode cX1_spoil 0 = .ok (.aload_n 0, 1) := by decide +kernel
theorem dX1_spoil_1 : decode cX1_spoil 1 = .ok (.iconst 1, 1) := by decide +kernel
theorem dX1_spoil_2 : decode cX1_spoil 2 = .ok (.putfield 34, 3) := by decide +kernel
theorem dX1_spoil_5 : decode cX1_spoil 5 = .ok (.return_, 1) := by decide +kernel
set_option maxHeartbeats 4000000 in
set_option maxRecDepth 100000 in
theorem c_X1_spoil (l : Launch) (E : Nat → ClassId) (D : va_G) (G : th_G) (h0 : Nat) (hG0 : G h0 = some (11, 0)) : Met l yX1_spoil (tb (.code yX1_spoil cX1_spoil 1 none)) (rm 0) (va_Pc [.ref h0] (th_P E D G)) (QV E D G) 0 0 (th_A G) := by
  refine Met.ofW (cc := cX1_spoil) (maxL := 1) (ret := none) (by decide) rfl ?_
  intro p e s m args below meth c s₁ B hml hv
  obtain ⟨hav, hI, hN, hK⟩ := hv
  have hx := B.exec
  have hb := B.bytes
  have hr := B.returns
  have hts := atoms_spec (ws := tb (.code yX1_spoil cX1_spoil 1 none)) B.pre
  have hown : s.vm.findClass RX1 = some m.cls := findClass_of_methodNamed B.named
  have hlocks := B.notSynchronized
  have hS : va_S (th_A G) s.heap s.heap [] := va_S.rf
  have hl := lv_entry ([.ref h0]) (n := 1) (Nat.le_of_ble_eq_true rfl)
  rw [show entryFrame m args 1 = entryFrame m ([.ref h0] : List Value).toArray 1 from by rw [hav], lg_entry_eq]
  generalize (lg_sl ([.ref h0]) ++ List.replicate (1 - (lg_sl ([.ref h0])).length) Slot.unset).toArray = ls at hl ⊢
  have hl : lv_has ls 1 [(0, .ref h0)] := hl
  generalize hR : (headSpec (tb (.code yX1_spoil cX1_spoil 1 none)) (rm 0)).room = R
  have hR := hR.symm
  generalize hQ : MQ below (QV E D G) args s 0 0 (th_A G) = QF
  have hQ := hQ.symm
  refine lv_aload_n hx hb dX1_spoil_0 rfl (lv_at hl 0 rfl) ?_
  refine lv_iconst (v := 1) hx hb dX1_spoil_1 (by decide) ?_
  obtain ⟨a1, a3, a5, a7, a9, a11, a13, a15, w17, w18, w19, hO, hq2, hq4, hq6, hq8, hq10, hq12, hq14, hq16⟩ := op_11 hI hG0 List.not_mem_nil
  have hI := th_I.weak (a := h0) hI
  refine th_put (ty := .boolean) hx hb hts inT1 tyX1 tyX1_ok nmX1 hown hK hO hS ⟨_, hG0⟩ rfl 10 (by decide) (hts _ (tb_c wd_246)) rfl rfl (by decide +kernel) (by decide) rfl (Nat.le_of_ble_eq_true rfl) dX1_spoil_2 (fun H locs hO oq hS => ?_)
  have hI := th_I.moved hI oq
  have hO : va_at D vwCl (h0, .inr (1, [.ref a1, .ref a3, .ref a5, .ref a7, .ref a9, .ref a11, .ref a13, .ref a15, .int w17, .int w18, .int 1])) H := hO
  have hI := th_I.close hI hG0 hO (ok_11 hq2 hq4 hq6 hq8 hq10 hq12 hq14 hq16)
  rw [hQ]
  exact W.vret hx hb hr (fun t ht hW => ⟨⟨(), rfl, trivial, by rw [ht]; exact hI, hN.warm hW, va_K.moved hW.alike hK⟩, hS.F ht⟩) hS.2.2 dX1_spoil_5
theorem dX5_spoil_0 : decode cX5_spoil 0 = .ok (.aload_n 0, 1) := by decide +kernel
theorem dX5_spoil_1 : decode cX5_spoil 1 = .ok (.iconst (-1), 1) := by decide +kernel
theorem dX5_spoil_2 : decode cX5_spoil 2 = .ok (.putfield 19, 3) := by decide +kernel
theorem dX5_spoil_5 : decode cX5_spoil 5 = .ok (.return_, 1) := by decide +kernel
set_option maxHeartbeats 4000000 in
set_option maxRecDepth 100000 in
theorem c_X5_spoil (l : Launch) (E : Nat → ClassId) (D : va_G) (G : th_G) (h0 : Nat) (hG0 : G h0 = some (12, 0)) : Met l yX5_spoil (tb (.code yX5_spoil cX5_spoil 1 none)) (rm 0) (va_Pc [.ref h0] (th_P E D G)) (QV E D G) 0 0 (th_A G) := by
  refine Met.ofW (cc := cX5_spoil) (maxL := 1) (ret := none) (by decide) rfl ?_
  intro p e s m args below meth c s₁ B hml hv
  obtain ⟨hav, hI, hN, hK⟩ := hv
  have hx := B.exec
  have hb := B.bytes
  have hr := B.returns
  have hts := atoms_spec (ws := tb (.code yX5_spoil cX5_spoil 1 none)) B.pre
  have hown : s.vm.findClass RX5 = some m.cls := findClass_of_methodNamed B.named
  have hlocks := B.notSynchronized
  have hS : va_S (th_A G) s.heap s.heap [] := va_S.rf
  have hl := lv_entry ([.ref h0]) (n := 1) (Nat.le_of_ble_eq_true rfl)
  rw [show entryFrame m args 1 = entryFrame m ([.ref h0] : List Value).toArray 1 from by rw [hav], lg_entry_eq]
  generalize (lg_sl ([.ref h0]) ++ List.replicate (1 - (lg_sl ([.ref h0])).length) Slot.unset).toArray = ls at hl ⊢
  have hl : lv_has ls 1 [(0, .ref h0)] := hl
  generalize hR : (headSpec (tb (.code yX5_spoil cX5_spoil 1 none)) (rm 0)).room = R
  have hR := hR.symm
  generalize hQ : MQ below (QV E D G) args s 0 0 (th_A G) = QF
  have hQ := hQ.symm
  refine lv_aload_n hx hb dX5_spoil_0 rfl (lv_at hl 0 rfl) ?_
  refine lv_iconst (v := (-1)) hx hb dX5_spoil_1 (by decide) ?_
  obtain ⟨a1, a3, a5, a7, w9, w10, hO, hq2, hq4, hq6, hq8⟩ := op_12 hI hG0 List.not_mem_nil
  have hI := th_I.weak (a := h0) hI
  refine th_put (ty := .int) hx hb hts inT5 tyX5 tyX5_ok nmX5 hown hK hO hS ⟨_, hG0⟩ rfl 4 (by decide) (hts _ (tb_c wd_280)) rfl rfl (by decide +kernel) rfl rfl (Nat.le_of_ble_eq_true rfl) dX5_spoil_2 (fun H locs hO oq hS => ?_)
  have hI := th_I.moved hI oq
  have hO : va_at D vwCl (h0, .inr (5, [.ref a1, .ref a3, .ref a5, .ref a7, .int (-1), .int w10])) H := hO
  have hI := th_I.close hI hG0 hO (ok_12 hq2 hq4 hq6 hq8)
  rw [hQ]
  exact W.vret hx hb hr (fun t ht hW => ⟨⟨(), rfl, trivial, by rw [ht]; exact hI, hN.warm hW, va_K.moved hW.alike hK⟩, hS.F ht⟩) hS.2.2 dX5_spoil_5
theorem dX10_spoil_0 : decode cX10_spoil 0 = .ok (.aload_n 0, 1) := by decide +kernel
theorem dX10_spoil_1 : decode cX10_spoil 1 = .ok (.iconst (-1), 1) := by decide +kernel
theorem dX10_spoil_2 : decode cX10_spoil 2 = .ok (.putfield 18, 3) := by decide +kernel
theorem dX10_spoil_5 : decode cX10_spoil 5 = .ok (.return_, 1) := by decide +kernel
set_option maxHeartbeats 4000000 in
set_option maxRecDepth 100000 in
theorem c_X10_spoil (l : Launch) (E : Nat → ClassId) (D : va_G) (G : th_G) (h0 : Nat) (hG0 : G h0 = some (14, 0)) : Met l yX10_spoil (tb (.code yX10_spoil cX10_spoil 1 none)) (rm 0) (va_Pc [.ref h0] (th_P E D G)) (QV E D G) 0 0 (th_A G) := by
  refine Met.ofW (cc := cX10_spoil) (maxL := 1) (ret := none) (by decide) rfl ?_
  intro p e s m args below meth c s₁ B hml hv
  obtain ⟨hav, hI, hN, hK⟩ := hv
  have hx := B.exec
  have hb := B.bytes
  have hr := B.returns
  have hts := atoms_spec (ws := tb (.code yX10_spoil cX10_spoil 1 none)) B.pre
  have hown : s.vm.findClass RX10 = some m.cls := findClass_of_methodNamed B.named
  have hlocks := B.notSynchronized
  have hS : va_S (th_A G) s.heap s.heap [] := va_S.rf
  have hl := lv_entry ([.ref h0]) (n := 1) (Nat.le_of_ble_eq_true rfl)
  rw [show entryFrame m args 1 = entryFrame m ([.ref h0] : List Value).toArray 1 from by rw [hav], lg_entry_eq]
  generalize (lg_sl ([.ref h0]) ++ List.replicate (1 - (lg_sl ([.ref h0])).length) Slot.unset).toArray = ls at hl ⊢
  have hl : lv_has ls 1 [(0, .ref h0)] := hl
  generalize hR : (headSpec (tb (.code yX10_spoil cX10_spoil 1 none)) (rm 0)).room = R
  have hR := hR.symm
  generalize hQ : MQ below (QV E D G) args s 0 0 (th_A G) = QF
  have hQ := hQ.symm
  refine lv_aload_n hx hb dX10_spoil_0 rfl (lv_at hl 0 rfl) ?_
  refine lv_iconst (v := (-1)) hx hb dX10_spoil_1 (by decide) ?_
  obtain ⟨a1, a3, a5, a7, a9, w11, hO, hq2, hq4, hq6, hq8, hq10⟩ := op_14 hI hG0 List.not_mem_nil
  have hI := th_I.weak (a := h0) hI
  refine th_put (ty := .int) hx hb hts inT10 tyX10 tyX10_ok nmX10 hown hK hO hS ⟨_, hG0⟩ rfl 5 (by decide) (hts _ (tb_c wd_331)) rfl rfl (by decide +kernel) rfl rfl (Nat.le_of_ble_eq_true rfl) dX10_spoil_2 (fun H locs hO oq hS => ?_)
  have hI := th_I.moved hI oq
  have hO : va_at D vwCl (h0, .inr (10, [.ref a1, .ref a3, .ref a5, .ref a7, .ref a9, .int (-1)])) H := hO
  have hI := th_I.close hI hG0 hO (ok_14 hq2 hq4 hq6 hq8 hq10)
  rw [hQ]
  exact W.vret hx hb hr (fun t ht hW => ⟨⟨(), rfl, trivial, by rw [ht]; exact hI, hN.warm hW, va_K.moved hW.alike hK⟩, hS.F ht⟩) hS.2.2 dX10_spoil_5
theorem dX11_turnLists_0 : decode cX11_turnLists 0 = .ok (.aload_n 0, 1) := by decide +kernel
theorem dX11_turnLists_1 : decode cX11_turnLists 1 = .ok (.getfield 60, 3) := by decide +kernel
theorem dX11_turnLists_4 : decode cX11_turnLists 4 = .ok (.invokevirtual 351, 3) := by decide +kernel
theorem dX11_turnLists_7 : decode cX11_turnLists 7 = .ok (.aload_n 0, 1) := by decide +kernel
theorem dX11_turnLists_8 : decode cX11_turnLists 8 = .ok (.getfield 69, 3) := by decide +kernel
theorem dX11_turnLists_11 : decode cX11_turnLists 11 = .ok (.invokevirtual 352, 3) := by decide +kernel
theorem dX11_turnLists_14 : decode cX11_turnLists 14 = .ok (.aload_n 0, 1) := by decide +kernel
theorem dX11_turnLists_15 : decode cX11_turnLists 15 = .ok (.getfield 85, 3) := by decide +kernel
theorem dX11_turnLists_18 : decode cX11_turnLists 18 = .ok (.invokevirtual 353, 3) := by decide +kernel
theorem dX11_turnLists_21 : decode cX11_turnLists 21 = .ok (.return_, 1) := by decide +kernel
set_option maxHeartbeats 4000000 in
set_option maxRecDepth 100000 in
theorem c_X11_turnLists (l : Launch) (E : Nat → ClassId) (D : va_G) (G : th_G) (h0 n : Nat) (hG0 : G h0 = some (15, n)) : Met l yX11_turnLists (tb (.code yX11_turnLists cX11_turnLists 1 none)) (rm 1) (va_Pc [.ref h0] (th_P E D G)) (QV E D G) 0 0 (th_A G) := by
  refine Met.ofW (cc := cX11_turnLists) (maxL := 1) (ret := none) (by decide) rfl ?_
  intro p e s m args below meth c s₁ B hml hv
  obtain ⟨hav, hI, hN, hK⟩ := hv
  have hx := B.exec
  have hb := B.bytes
  have hr := B.returns
  have hts := atoms_spec (ws := tb (.code yX11_turnLists cX11_turnLists 1 none)) B.pre
  have hown : s.vm.findClass RX11 = some m.cls := findClass_of_methodNamed B.named
  have hlocks := B.notSynchronized
  have hS : va_S (th_A G) s.heap s.heap [] := va_S.rf
  have hl := lv_entry ([.ref h0]) (n := 1) (Nat.le_of_ble_eq_true rfl)
  rw [show entryFrame m args 1 = entryFrame m ([.ref h0] : List Value).toArray 1 from by rw [hav], lg_entry_eq]
  generalize (lg_sl ([.ref h0]) ++ List.replicate (1 - (lg_sl ([.ref h0])).length) Slot.unset).toArray = ls at hl ⊢
  have hl : lv_has ls 1 [(0, .ref h0)] := hl
  generalize hR : (headSpec (tb (.code yX11_turnLists cX11_turnLists 1 none)) (rm 1)).room = R
  have hR := hR.symm
  generalize hQ : MQ below (QV E D G) args s 0 0 (th_A G) = QF
  have hQ := hQ.symm
  refine lv_aload_n hx hb dX11_turnLists_0 rfl (lv_at hl 0 rfl) ?_
  obtain ⟨a1, a5, a7, a9, a11, a13, a15, a17, a19, a21, a23, w25, w28, w29, w30, w31, hO, hq2, ⟨m4, hq3⟩, hq6, hq8, hq10, hq12, hq14, hq16, hq18, hq20, hq22, hq24, ⟨k26, k27⟩⟩ := op_15 hI hG0 List.not_mem_nil
  have hI := th_I.weak (a := h0) hI
  refine th_get hx hb hts inT11 hown hK hO rfl 8 (by decide) (hts _ (tb_c wd_353)) rfl rfl dX11_turnLists_1 ?_
  have hI := th_I.close hI hG0 hO (ok_15 hq2 ⟨_, hq3⟩ hq6 hq8 hq10 hq12 hq14 hq16 hq18 hq20 hq22 hq24 ⟨by omega, by omega⟩)
  refine th_cVv (As := []) (rest := []) (n := 0) (d := 0) ⟨hx, hb, hml, hown, hts⟩ (c_X1_spoil l E D G a17 hq18 ) wd_435 wd_436 wd_437 wd_9 wd_438 (by decide +kernel) ⟨by rw [hR]; exact Nat.le_of_ble_eq_true rfl, by rw [hR]; exact Nat.le_of_ble_eq_true rfl⟩ hI hN hK hS (rc_11 hI hq18 List.not_mem_nil) rfl rfl hl.1 rfl (Nat.le_of_ble_eq_true rfl) dX11_turnLists_4 ⟨Nat.zero_le _, Nat.zero_le _⟩ (fun H locs hI hS => ?_)
  refine lv_aload_n hx hb dX11_turnLists_7 rfl (lv_at hl 0 rfl) ?_
  obtain ⟨a33, a37, a39, a41, a43, a45, a47, a49, a51, a53, a55, w57, w60, w61, w62, w63, hO, hq34, ⟨m36, hq35⟩, hq38, hq40, hq42, hq44, hq46, hq48, hq50, hq52, hq54, hq56, ⟨k58, k59⟩⟩ := op_15 hI hG0 List.not_mem_nil
  have hI := th_I.weak (a := h0) hI
  refine th_get hx hb hts inT11 hown hK hO rfl 9 (by decide) (hts _ (tb_c wd_354)) rfl rfl dX11_turnLists_8 ?_
  have hI := th_I.close hI hG0 hO (ok_15 hq34 ⟨_, hq35⟩ hq38 hq40 hq42 hq44 hq46 hq48 hq50 hq52 hq54 hq56 ⟨by omega, by omega⟩)
  refine th_cVv (As := []) (rest := []) (n := 0) (d := 0) ⟨hx, hb, hml, hown, hts⟩ (c_X5_spoil l E D G a51 hq52 ) wd_439 wd_440 wd_441 wd_10 wd_442 (by decide +kernel) ⟨by rw [hR]; exact Nat.le_of_ble_eq_true rfl, by rw [hR]; exact Nat.le_of_ble_eq_true rfl⟩ hI hN hK hS (rc_12 hI hq52 List.not_mem_nil) rfl rfl hl.1 rfl (Nat.le_of_ble_eq_true rfl) dX11_turnLists_11 ⟨Nat.zero_le _, Nat.zero_le _⟩ (fun H locs hI hS => ?_)
  refine lv_aload_n hx hb dX11_turnLists_14 rfl (lv_at hl 0 rfl) ?_
  obtain ⟨a65, a69, a71, a73, a75, a77, a79, a81, a83, a85, a87, w89, w92, w93, w94, w95, hO, hq66, ⟨m68, hq67⟩, hq70, hq72, hq74, hq76, hq78, hq80, hq82, hq84, hq86, hq88, ⟨k90, k91⟩⟩ := op_15 hI hG0 List.not_mem_nil
  have hI := th_I.weak (a := h0) hI
  refine th_get hx hb hts inT11 hown hK hO rfl 11 (by decide) (hts _ (tb_c wd_356)) rfl rfl dX11_turnLists_15 ?_
  have hI := th_I.close hI hG0 hO (ok_15 hq66 ⟨_, hq67⟩ hq70 hq72 hq74 hq76 hq78 hq80 hq82 hq84 hq86 hq88 ⟨by omega, by omega⟩)
  refine th_cVv (As := []) (rest := []) (n := 0) (d := 0) ⟨hx, hb, hml, hown, hts⟩ (c_X10_spoil l E D G a87 hq88 ) wd_443 wd_444 wd_445 wd_12 wd_446 (by decide +kernel) ⟨by rw [hR]; exact Nat.le_of_ble_eq_true rfl, by rw [hR]; exact Nat.le_of_ble_eq_true rfl⟩ hI hN hK hS (rc_14 hI hq88 List.not_mem_nil) rfl rfl hl.1 rfl (Nat.le_of_ble_eq_true rfl) dX11_turnLists_18 ⟨Nat.zero_le _, Nat.zero_le _⟩ (fun H locs hI hS => ?_)
  rw [hQ]
  exact W.vret hx hb hr (fun t ht hW => ⟨⟨(), rfl, trivial, by rw [ht]; exact hI, hN.warm hW, va_K.moved hW.alike hK⟩, hS.F ht⟩) hS.2.2 dX11_turnLists_21
theorem dX11_turnRiver_0 : decode cX11_turnRiver 0 = .ok (.aload_n 0, 1) := by decide +kernel
theorem dX11_turnRiver_1 : decode cX11_turnRiver 1 = .ok (.getfield 42, 3) := by decide +kernel
theorem dX11_turnRiver_4 : decode cX11_turnRiver 4 = .ok (.invokevirtual 348, 3) := by decide +kernel
theorem dX11_turnRiver_7 : decode cX11_turnRiver 7 = .ok (.aload_n 0, 1) := by decide +kernel
theorem dX11_turnRiver_8 : decode cX11_turnRiver 8 = .ok (.invokevirtual 191, 3) := by decide +kernel
theorem dX11_turnRiver_11 : decode cX11_turnRiver 11 = .ok (.return_, 1) := by decide +kernel
set_option maxHeartbeats 4000000 in
set_option maxRecDepth 100000 in
theorem c_X11_turnRiver (l : Launch) (E : Nat → ClassId) (D : va_G) (G : th_G) (h0 n : Nat) (hG0 : G h0 = some (15, n)) : Met l yX11_turnRiver (tb (.code yX11_turnRiver cX11_turnRiver 1 none)) (rm 2) (va_Pc [.ref h0] (th_P E D G)) (QV E D G) 0 0 (th_A G) := by
  refine Met.ofW (cc := cX11_turnRiver) (maxL := 1) (ret := none) (by decide) rfl ?_
  intro p e s m args below meth c s₁ B hml hv
  obtain ⟨hav, hI, hN, hK⟩ := hv
  have hx := B.exec
  have hb := B.bytes
  have hr := B.returns
  have hts := atoms_spec (ws := tb (.code yX11_turnRiver cX11_turnRiver 1 none)) B.pre
  have hown : s.vm.findClass RX11 = some m.cls := findClass_of_methodNamed B.named
  have hlocks := B.notSynchronized
  have hS : va_S (th_A G) s.heap s.heap [] := va_S.rf
  have hl := lv_entry ([.ref h0]) (n := 1) (Nat.le_of_ble_eq_true rfl)
  rw [show entryFrame m args 1 = entryFrame m ([.ref h0] : List Value).toArray 1 from by rw [hav], lg_entry_eq]
  generalize (lg_sl ([.ref h0]) ++ List.replicate (1 - (lg_sl ([.ref h0])).length) Slot.unset).toArray = ls at hl ⊢
  have hl : lv_has ls 1 [(0, .ref h0)] := hl
  generalize hR : (headSpec (tb (.code yX11_turnRiver cX11_turnRiver 1 none)) (rm 2)).room = R
  have hR := hR.symm
  generalize hQ : MQ below (QV E D G) args s 0 0 (th_A G) = QF
  have hQ := hQ.symm
  refine lv_aload_n hx hb dX11_turnRiver_0 rfl (lv_at hl 0 rfl) ?_
  obtain ⟨a1, a5, a7, a9, a11, a13, a15, a17, a19, a21, a23, w25, w28, w29, w30, w31, hO, hq2, ⟨m4, hq3⟩, hq6, hq8, hq10, hq12, hq14, hq16, hq18, hq20, hq22, hq24, ⟨k26, k27⟩⟩ := op_15 hI hG0 List.not_mem_nil
  have hI := th_I.weak (a := h0) hI
  refine th_get hx hb hts inT11 hown hK hO rfl 6 (by decide) (hts _ (tb_c wd_351)) rfl rfl dX11_turnRiver_1 ?_
  have hI := th_I.close hI hG0 hO (ok_15 hq2 ⟨_, hq3⟩ hq6 hq8 hq10 hq12 hq14 hq16 hq18 hq20 hq22 hq24 ⟨by omega, by omega⟩)
  refine th_cVv (As := []) (rest := []) (n := 0) (d := 0) ⟨hx, hb, hml, hown, hts⟩ (c_X7_spoil l E D G a13 hq14 ) wd_427 wd_428 wd_429 wd_6 wd_430 (by decide +kernel) ⟨by rw [hR]; exact Nat.le_of_ble_eq_true rfl, by rw [hR]; exact Nat.le_of_ble_eq_true rfl⟩ hI hN hK hS (rc_9 hI hq14 List.not_mem_nil) rfl rfl hl.1 rfl (Nat.le_of_ble_eq_true rfl) dX11_turnRiver_4 ⟨Nat.zero_le _, Nat.zero_le _⟩ (fun H locs hI hS => ?_)
  refine lv_aload_n hx hb dX11_turnRiver_7 rfl (lv_at hl 0 rfl) ?_
  refine th_cVv (As := []) (rest := []) (n := 0) (d := 1) ⟨hx, hb, hml, hown, hts⟩ (c_X11_turnLists l E D G h0 (n) hG0 ) wd_431 wd_433 wp_2 wd_1 wd_434 (by decide +kernel) ⟨by rw [hR]; exact Nat.le_of_ble_eq_true rfl, by rw [hR]; exact Nat.le_of_ble_eq_true rfl⟩ hI hN hK hS (rc_15 hI hG0 List.not_mem_nil) rfl rfl hl.1 rfl (Nat.le_of_ble_eq_true rfl) dX11_turnRiver_8 ⟨Nat.zero_le _, Nat.zero_le _⟩ (fun H locs hI hS => ?_)
  rw [hQ]
  exact W.vret hx hb hr (fun t ht hW => ⟨⟨(), rfl, trivial, by rw [ht]; exact hI, hN.warm hW, va_K.moved hW.alike hK⟩, hS.F ht⟩) hS.2.2 dX11_turnRiver_11
theorem dX11_accept_0 : decode cX11_accept 0 = .ok (.aload_n 0, 1) := by decide +kernel
theorem dX11_accept_1 : decode cX11_accept 1 = .ok (.iconst 0, 1) := by decide +kernel
theorem dX11_accept_2 : decode cX11_accept 2 = .ok (.putfield 99, 3) := by decide +kernel
theorem dX11_accept_5 : decode cX11_accept 5 = .ok (.iload_n 1, 1) := by decide +kernel
theorem dX11_accept_6 : decode cX11_accept 6 = .ok (.ireturn, 1) := by decide +kernel
set_option maxHeartbeats 4000000 in
set_option maxRecDepth 100000 in
theorem c_X11_accept (l : Launch) (E : Nat → ClassId) (D : va_G) (G : th_G) (h0 n : Nat) (hG0 : G h0 = some (15, n)) (x1 : Int32) : Met l yX11_accept (tb (.code yX11_accept cX11_accept 2 (some .int))) (rm 0) (va_Pc [.ref h0, .int x1] (th_P E D G)) (QI E D G (fun r => (r : Int32) = x1)) 0 0 (th_A G) := by
  refine Met.ofW (cc := cX11_accept) (maxL := 2) (ret := (some .int)) (by decide) rfl ?_
  intro p e s m args below meth c s₁ B hml hv
  obtain ⟨hav, hI, hN, hK⟩ := hv
  have hx := B.exec
  have hb := B.bytes
  have hr := B.returns
  have hts := atoms_spec (ws := tb (.code yX11_accept cX11_accept 2 (some .int))) B.pre
  have hown : s.vm.findClass RX11 = some m.cls := findClass_of_methodNamed B.named
  have hlocks := B.notSynchronized
  have hS : va_S (th_A G) s.heap s.heap [] := va_S.rf
  have hl := lv_entry ([.ref h0, .int x1]) (n := 2) (Nat.le_of_ble_eq_true rfl)
  rw [show entryFrame m args 2 = entryFrame m ([.ref h0, .int x1] : List Value).toArray 2 from by rw [hav], lg_entry_eq]
  generalize (lg_sl ([.ref h0, .int x1]) ++ List.replicate (2 - (lg_sl ([.ref h0, .int x1])).length) Slot.unset).toArray = ls at hl ⊢
  have hl : lv_has ls 2 [(0, .ref h0), (1, .int x1)] := hl
  generalize hR : (headSpec (tb (.code yX11_accept cX11_accept 2 (some .int))) (rm 0)).room = R
  have hR := hR.symm
  generalize hQ : MQ below (QI E D G (fun r => (r : Int32) = x1)) args s 0 0 (th_A G) = QF
  have hQ := hQ.symm
  refine lv_aload_n hx hb dX11_accept_0 rfl (lv_at hl 0 rfl) ?_
  refine lv_iconst (v := 0) hx hb dX11_accept_1 (by decide) ?_
  obtain ⟨a1, a5, a7, a9, a11, a13, a15, a17, a19, a21, a23, w25, w28, w29, w30, w31, hO, hq2, ⟨m4, hq3⟩, hq6, hq8, hq10, hq12, hq14, hq16, hq18, hq20, hq22, hq24, ⟨k26, k27⟩⟩ := op_15 hI hG0 List.not_mem_nil
  have hI := th_I.weak (a := h0) hI
  refine th_put (ty := .int) hx hb hts inT11 tyX11 tyX11_ok nmX11 hown hK hO hS ⟨_, hG0⟩ rfl 15 (by decide) (hts _ (tb_c wd_360)) rfl rfl (by decide +kernel) rfl rfl (Nat.le_of_ble_eq_true rfl) dX11_accept_2 (fun H locs hO oq hS => ?_)
  have hI := th_I.moved hI oq
  have hO : va_at D vwCl (h0, .inr (11, [.ref a1, .ref n, .ref a5, .ref a7, .ref a9, .ref a11, .ref a13, .ref a15, .ref a17, .ref a19, .ref a21, .ref a23, .int w25, .int w28, .int w29, .int 0, .int w31])) H := hO
  refine lv_iload_n hx hb dX11_accept_5 rfl (lv_at hl 1 rfl) ?_
  have hI := th_I.close hI hG0 hO (ok_15 hq2 ⟨_, hq3⟩ hq6 hq8 hq10 hq12 hq14 hq16 hq18 hq20 hq22 hq24 ⟨by omega, by omega⟩)
  have hpost : (x1 : Int32) = x1 := rfl
  rw [hQ]
  exact W.iret (v := x1) hx hb hr (fun t ht hW => ⟨⟨x1, (), rfl, hpost, by rw [ht]; exact hI, hN.warm hW, va_K.moved hW.alike hK⟩, hS.F ht⟩) hS.2.2 dX11_accept_6
theorem dX11_refuse_0 : decode cX11_refuse 0 = .ok (.aload_n 0, 1) := by decide +kernel
theorem dX11_refuse_1 : decode cX11_refuse 1 = .ok (.iload_n 1, 1) := by decide +kernel
theorem dX11_refuse_2 : decode cX11_refuse 2 = .ok (.putfield 99, 3) := by decide +kernel
theorem dX11_refuse_5 : decode cX11_refuse 5 = .ok (.iload_n 1, 1) := by decide +kernel
theorem dX11_refuse_6 : decode cX11_refuse 6 = .ok (.bipush (-3), 2) := by decide +kernel
theorem dX11_refuse_8 : decode cX11_refuse 8 = .ok (.if_icmp .lt 9, 3) := by decide +kernel
theorem dX11_refuse_11 : decode cX11_refuse 11 = .ok (.iconst (-1), 1) := by decide +kernel
theorem dX11_refuse_12 : decode cX11_refuse 12 = .ok (.iload_n 1, 1) := by decide +kernel
theorem dX11_refuse_13 : decode cX11_refuse 13 = .ok (.isub, 1) := by decide +kernel
theorem dX11_refuse_14 : decode cX11_refuse 14 = .ok (.goto 7, 3) := by decide +kernel
theorem dX11_refuse_17 : decode cX11_refuse 17 = .ok (.bipush (-2), 2) := by decide +kernel
theorem dX11_refuse_19 : decode cX11_refuse 19 = .ok (.iload_n 1, 1) := by decide +kernel
theorem dX11_refuse_20 : decode cX11_refuse 20 = .ok (.isub, 1) := by decide +kernel
theorem dX11_refuse_21 : decode cX11_refuse 21 = .ok (.istore_n 2, 1) := by decide +kernel
theorem dX11_refuse_22 : decode cX11_refuse 22 = .ok (.iload_n 2, 1) := by decide +kernel
theorem dX11_refuse_23 : decode cX11_refuse 23 = .ok (.ifCond .lt 22, 3) := by decide +kernel
theorem dX11_refuse_26 : decode cX11_refuse 26 = .ok (.iload_n 2, 1) := by decide +kernel
theorem dX11_refuse_27 : decode cX11_refuse 27 = .ok (.aload_n 0, 1) := by decide +kernel
theorem dX11_refuse_28 : decode cX11_refuse 28 = .ok (.getfield 24, 3) := by decide +kernel
theorem dX11_refuse_31 : decode cX11_refuse 31 = .ok (.arraylength, 1) := by decide +kernel
theorem dX11_refuse_32 : decode cX11_refuse 32 = .ok (.if_icmp .ge 13, 3) := by decide +kernel
theorem dX11_refuse_35 : decode cX11_refuse 35 = .ok (.aload_n 0, 1) := by decide +kernel
theorem dX11_refuse_36 : decode cX11_refuse 36 = .ok (.getfield 24, 3) := by decide +kernel
theorem dX11_refuse_39 : decode cX11_refuse 39 = .ok (.iload_n 2, 1) := by decide +kernel
theorem dX11_refuse_40 : decode cX11_refuse 40 = .ok (.dup2, 1) := by decide +kernel
theorem dX11_refuse_41 : decode cX11_refuse 41 = .ok (.iaload, 1) := by decide +kernel
theorem dX11_refuse_42 : decode cX11_refuse 42 = .ok (.iconst 1, 1) := by decide +kernel
theorem dX11_refuse_43 : decode cX11_refuse 43 = .ok (.iadd, 1) := by decide +kernel
theorem dX11_refuse_44 : decode cX11_refuse 44 = .ok (.iastore, 1) := by decide +kernel
theorem dX11_refuse_45 : decode cX11_refuse 45 = .ok (.iload_n 1, 1) := by decide +kernel
theorem dX11_refuse_46 : decode cX11_refuse 46 = .ok (.ireturn, 1) := by decide +kernel
set_option maxHeartbeats 4000000 in
set_option maxRecDepth 100000 in
theorem c_X11_refuse (l : Launch) (E : Nat → ClassId) (D : va_G) (G : th_G) (h0 n : Nat) (hG0 : G h0 = some (15, n)) (x1 : Int32) : Met l yX11_refuse (tb (.code yX11_refuse cX11_refuse 3 (some .int))) (rm 0) (va_Pc [.ref h0, .int x1] (th_P E D G)) (QI E D G (fun r => (r : Int32) = x1)) 0 0 (th_A G) := by
  refine Met.ofW (cc := cX11_refuse) (maxL := 3) (ret := (some .int)) (by decide) rfl ?_
  intro p e s m args below meth c s₁ B hml hv
  obtain ⟨hav, hI, hN, hK⟩ := hv
  have hx := B.exec
  have hb := B.bytes
  have hr := B.returns
  have hts := atoms_spec (ws := tb (.code yX11_refuse cX11_refuse 3 (some .int))) B.pre
  have hown : s.vm.findClass RX11 = some m.cls := findClass_of_methodNamed B.named
  have hlocks := B.notSynchronized
  have hS : va_S (th_A G) s.heap s.heap [] := va_S.rf
  have hl := lv_entry ([.ref h0, .int x1]) (n := 3) (Nat.le_of_ble_eq_true rfl)
  rw [show entryFrame m args 3 = entryFrame m ([.ref h0, .int x1] : List Value).toArray 3 from by rw [hav], lg_entry_eq]
  generalize (lg_sl ([.ref h0, .int x1]) ++ List.replicate (3 - (lg_sl ([.ref h0, .int x1])).length) Slot.unset).toArray = ls at hl ⊢
  have hl : lv_has ls 3 [(0, .ref h0), (1, .int x1)] := hl
  generalize hR : (headSpec (tb (.code yX11_refuse cX11_refuse 3 (some .int))) (rm 0)).room = R
  have hR := hR.symm
  generalize hQ : MQ below (QI E D G (fun r => (r : Int32) = x1)) args s 0 0 (th_A G) = QF
  have hQ := hQ.symm
  have J_21 : ∀ (H : Heap) (locs : List Loc) (ls : Array Slot) (v643 : Int32), lv_has ls 3 [(0, .ref h0), (1, .int x1)] → th_I (okC E) D G [] H → va_S (th_A G) s.heap H locs → W p l e R s m args below meth c H locs 0 0 QF (F0 m 21 ls [.int v643]) := by
    intro H locs ls v643 hl  hI hS
    refine lv_istore_n (lv' := [(2, .int v643), (0, .ref h0), (1, .int x1)]) hx hb dX11_refuse_21 rfl hl (by decide) rfl (fun ls hl => ?_)
    refine lv_iload_n hx hb dX11_refuse_22 rfl (lv_at hl 0 rfl) ?_
    have k644 := iv_lo v643
    have k645 := iv_hi v643
    refine lv_if_lt (tgt := 45) hx hb dX11_refuse_23 (by decide) (fun c646 => ?_) (fun c646 => ?_)
    · skip
      have k647 := iv_lt (X := v643.toInt) (Y := (0)) rfl (by decide) c646
      refine lv_iload_n hx hb dX11_refuse_45 rfl (lv_at hl 2 rfl) ?_
      have hpost : (x1 : Int32) = x1 := rfl
      rw [hQ]
      exact W.iret (v := x1) hx hb hr (fun t ht hW => ⟨⟨x1, (), rfl, hpost, by rw [ht]; exact hI, hN.warm hW, va_K.moved hW.alike hK⟩, hS.F ht⟩) hS.2.2 dX11_refuse_46
    · skip
      have k648 := iv_nlt (X := v643.toInt) (Y := (0)) rfl (by decide) c646
      refine lv_iload_n hx hb dX11_refuse_26 rfl (lv_at hl 0 rfl) ?_
      refine lv_aload_n hx hb dX11_refuse_27 rfl (lv_at hl 1 rfl) ?_
      obtain ⟨a649, a653, a655, a657, a659, a661, a663, a665, a667, a669, a671, w673, w676, w677, w678, w679, hO, hq650, ⟨m652, hq651⟩, hq654, hq656, hq658, hq660, hq662, hq664, hq666, hq668, hq670, hq672, ⟨k674, k675⟩⟩ := op_15 hI hG0 List.not_mem_nil
      have hI := th_I.weak (a := h0) hI
      refine th_get hx hb hts inT11 hown hK hO rfl 3 (by decide) (hts _ (tb_c wd_348)) rfl rfl dX11_refuse_28 ?_
      obtain ⟨_, hA680⟩ := op_0 hI hq656 (th_ne hG0 hq656 (show (15 : Nat) ≠ 0 by decide))
      refine va_alen hx hb hK (th_one hA680) 0 0 rfl (v := 5) rfl (show Int32.ofNat 5 = (5 : Int32) from by decide) dX11_refuse_31 ?_
      refine lv_icmp_ge (tgt := 45) hx hb dX11_refuse_32 (by decide) (fun c681 => ?_) (fun c681 => ?_)
      · skip
        have k682 := iv_le (X := (5)) (Y := v643.toInt) (by decide) rfl c681
        refine lv_iload_n hx hb dX11_refuse_45 rfl (lv_at hl 2 rfl) ?_
        have hI := th_I.close hI hG0 hO (ok_15 hq650 ⟨_, hq651⟩ hq654 hq656 hq658 hq660 hq662 hq664 hq666 hq668 hq670 hq672 ⟨by omega, by omega⟩)
        have hpost : (x1 : Int32) = x1 := rfl
        rw [hQ]
        exact W.iret (v := x1) hx hb hr (fun t ht hW => ⟨⟨x1, (), rfl, hpost, by rw [ht]; exact hI, hN.warm hW, va_K.moved hW.alike hK⟩, hS.F ht⟩) hS.2.2 dX11_refuse_46
      · skip
        have k683 := iv_nle (X := (5)) (Y := v643.toInt) (by decide) rfl c681
        refine lv_aload_n hx hb dX11_refuse_35 rfl (lv_at hl 1 rfl) ?_
        refine th_get hx hb hts inT11 hown hK hO rfl 3 (by decide) (hts _ (tb_c wd_348)) rfl rfl dX11_refuse_36 ?_
        refine lv_iload_n hx hb dX11_refuse_39 rfl (lv_at hl 0 rfl) ?_
        refine lv_dup2_11 hx hb dX11_refuse_40 rfl rfl ?_
        obtain ⟨_, hA684⟩ := op_0 hI hq656 (th_ne hG0 hq656 (show (15 : Nat) ≠ 0 by decide))
        refine th_iald hx hb hK hA684 0 rfl (iv_in (X := v643.toInt) rfl (by omega) (by omega)) dX11_refuse_41 (fun v685 _ => ?_)
        refine lv_iconst (v := 1) hx hb dX11_refuse_42 (by decide) ?_
        refine lv_iadd hx hb dX11_refuse_43 ?_
        refine lv_topi (fun v686 e687 => ?_)
        try have tv686 : v686.toInt = v685.toInt + (1) := iv_add rfl (by decide) e687 (by omega) (by omega)
        obtain ⟨_, hA688⟩ := op_0 hI hq656 (th_ne hG0 hq656 (show (15 : Nat) ≠ 0 by decide))
        refine th_iast hx hb hK hA688 0 rfl hS ⟨_, hq656⟩ (iv_in (X := v643.toInt) rfl (by omega) (by omega)) dX11_refuse_44 (fun H locs hA688 oq hS => ?_)
        have hI := th_I.put hI hq656 hA688 ok_0 oq
        have hO := hO.kept (oq _ (fun z => th_ne hG0 hq656 (show (15 : Nat) ≠ 0 by decide) (List.mem_singleton.mpr z.symm)))
        refine lv_iload_n hx hb dX11_refuse_45 rfl (lv_at hl 2 rfl) ?_
        have hI := th_I.close hI hG0 hO (ok_15 hq650 ⟨_, hq651⟩ hq654 hq656 hq658 hq660 hq662 hq664 hq666 hq668 hq670 hq672 ⟨by omega, by omega⟩)
        have hpost : (x1 : Int32) = x1 := rfl
        rw [hQ]
        exact W.iret (v := x1) hx hb hr (fun t ht hW => ⟨⟨x1, (), rfl, hpost, by rw [ht]; exact hI, hN.warm hW, va_K.moved hW.alike hK⟩, hS.F ht⟩) hS.2.2 dX11_refuse_46
  refine lv_aload_n hx hb dX11_refuse_0 rfl (lv_at hl 0 rfl) ?_
  refine lv_iload_n hx hb dX11_refuse_1 rfl (lv_at hl 1 rfl) ?_
  obtain ⟨a689, a693, a695, a697, a699, a701, a703, a705, a707, a709, a711, w713, w716, w717, w718, w719, hO, hq690, ⟨m692, hq691⟩, hq694, hq696, hq698, hq700, hq702, hq704, hq706, hq708, hq710, hq712, ⟨k714, k715⟩⟩ := op_15 hI hG0 List.not_mem_nil
  have hI := th_I.weak (a := h0) hI
  refine th_put (ty := .int) hx hb hts inT11 tyX11 tyX11_ok nmX11 hown hK hO hS ⟨_, hG0⟩ rfl 15 (by decide) (hts _ (tb_c wd_360)) rfl rfl (by decide +kernel) rfl rfl (Nat.le_of_ble_eq_true rfl) dX11_refuse_2 (fun H locs hO oq hS => ?_)
  have hI := th_I.moved hI oq
  have hO : va_at D vwCl (h0, .inr (11, [.ref a689, .ref n, .ref a693, .ref a695, .ref a697, .ref a699, .ref a701, .ref a703, .ref a705, .ref a707, .ref a709, .ref a711, .int w713, .int w716, .int w717, .int x1, .int w719])) H := hO
  refine lv_iload_n hx hb dX11_refuse_5 rfl (lv_at hl 1 rfl) ?_
  refine lv_bipush (v := (-3)) hx hb dX11_refuse_6 (by decide) ?_
  have k720 := iv_lo x1
  have k721 := iv_hi x1
  refine lv_icmp_lt (tgt := 17) hx hb dX11_refuse_8 (by decide) (fun c722 => ?_) (fun c722 => ?_)
  · skip
    have k723 := iv_lt (X := x1.toInt) (Y := (-3)) rfl (by decide) c722
    refine lv_bipush (v := (-2)) hx hb dX11_refuse_17 (by decide) ?_
    refine lv_iload_n hx hb dX11_refuse_19 rfl (lv_at hl 1 rfl) ?_
    refine lv_isub hx hb dX11_refuse_20 ?_
    refine lv_topi (fun v724 e725 => ?_)
    have tv724 : v724.toInt = (-2) - x1.toInt := iv_sub (by decide) rfl e725 (by omega) (by omega)
    have hI := th_I.close hI hG0 hO (ok_15 hq690 ⟨_, hq691⟩ hq694 hq696 hq698 hq700 hq702 hq704 hq706 hq708 hq710 hq712 ⟨by omega, by omega⟩)
    exact J_21 H locs ls v724 (lv_sub hl [0, 1] rfl)  hI hS
  · skip
    have k726 := iv_nlt (X := x1.toInt) (Y := (-3)) rfl (by decide) c722
    refine lv_iconst (v := (-1)) hx hb dX11_refuse_11 (by decide) ?_
    refine lv_iload_n hx hb dX11_refuse_12 rfl (lv_at hl 1 rfl) ?_
    refine lv_isub hx hb dX11_refuse_13 ?_
    refine lv_topi (fun v727 e728 => ?_)
    have tv727 : v727.toInt = (-1) - x1.toInt := iv_sub (by decide) rfl e728 (by omega) (by omega)
    refine lv_goto (tgt := 21) hx hb dX11_refuse_14 (by decide) ?_
    have hI := th_I.close hI hG0 hO (ok_15 hq690 ⟨_, hq691⟩ hq694 hq696 hq698 hq700 hq702 hq704 hq706 hq708 hq710 hq712 ⟨by omega, by omega⟩)
    exact J_21 H locs ls v727 (lv_sub hl [0, 1] rfl)  hI hS
theorem dX11_write_0 : decode cX11_write 0 = .ok (.bipush 24, 2) := by decide +kernel
theorem dX11_write_2 : decode cX11_write 2 = .ok (.istore_n 2, 1) := by decide +kernel
theorem dX11_write_3 : decode cX11_write 3 = .ok (.iload_n 2, 1) := by decide +kernel
theorem dX11_write_4 : decode cX11_write 4 = .ok (.ifCond .lt 45, 3) := by decide +kernel
theorem dX11_write_7 : decode cX11_write 7 = .ok (.aload_n 0, 1) := by decide +kernel
theorem dX11_write_8 : decode cX11_write 8 = .ok (.getfield 89, 3) := by decide +kernel
theorem dX11_write_11 : decode cX11_write 11 = .ok (.sipush 400, 3) := by decide +kernel
theorem dX11_write_14 : decode cX11_write 14 = .ok (.if_icmp .ge 35, 3) := by decide +kernel
theorem dX11_write_17 : decode cX11_write 17 = .ok (.aload_n 0, 1) := by decide +kernel
theorem dX11_write_18 : decode cX11_write 18 = .ok (.getfield 20, 3) := by decide +kernel
theorem dX11_write_21 : decode cX11_write 21 = .ok (.aload_n 0, 1) := by decide +kernel
theorem dX11_write_22 : decode cX11_write 22 = .ok (.getfield 89, 3) := by decide +kernel
theorem dX11_write_25 : decode cX11_write 25 = .ok (.iload_n 1, 1) := by decide +kernel
theorem dX11_write_26 : decode cX11_write 26 = .ok (.iload_n 2, 1) := by decide +kernel
theorem dX11_write_27 : decode cX11_write 27 = .ok (.ishr, 1) := by decide +kernel
theorem dX11_write_28 : decode cX11_write 28 = .ok (.sipush 255, 3) := by decide +kernel
theorem dX11_write_31 : decode cX11_write 31 = .ok (.iand, 1) := by decide +kernel
theorem dX11_write_32 : decode cX11_write 32 = .ok (.iastore, 1) := by decide +kernel
theorem dX11_write_33 : decode cX11_write 33 = .ok (.aload_n 0, 1) := by decide +kernel
theorem dX11_write_34 : decode cX11_write 34 = .ok (.dup, 1) := by decide +kernel
theorem dX11_write_35 : decode cX11_write 35 = .ok (.getfield 89, 3) := by decide +kernel
theorem dX11_write_38 : decode cX11_write 38 = .ok (.iconst 1, 1) := by decide +kernel
theorem dX11_write_39 : decode cX11_write 39 = .ok (.iadd, 1) := by decide +kernel
theorem dX11_write_40 : decode cX11_write 40 = .ok (.putfield 89, 3) := by decide +kernel
theorem dX11_write_43 : decode cX11_write 43 = .ok (.iinc 2 (-8), 3) := by decide +kernel
theorem dX11_write_46 : decode cX11_write 46 = .ok (.goto (-43), 3) := by decide +kernel
theorem dX11_write_49 : decode cX11_write 49 = .ok (.return_, 1) := by decide +kernel
set_option maxHeartbeats 4000000 in
set_option maxRecDepth 100000 in
theorem c_X11_write (l : Launch) (E : Nat → ClassId) (D : va_G) (G : th_G) (h0 n : Nat) (hG0 : G h0 = some (15, n)) (x1 : Int32) : Met l yX11_write (tb (.code yX11_write cX11_write 3 none)) (rm 0) (va_Pc [.ref h0, .int x1] (th_P E D G)) (QV E D G) 0 0 (th_A G) := by
  refine Met.ofW (cc := cX11_write) (maxL := 3) (ret := none) (by decide) rfl ?_
  intro p e s m args below meth c s₁ B hml hv
  obtain ⟨hav, hI, hN, hK⟩ := hv
  have hx := B.exec
  have hb := B.bytes
  have hr := B.returns
  have hts := atoms_spec (ws := tb (.code yX11_write cX11_write 3 none)) B.pre
  have hown : s.vm.findClass RX11 = some m.cls := findClass_of_methodNamed B.named
  have hlocks := B.notSynchronized
  have hS : va_S (th_A G) s.heap s.heap [] := va_S.rf
  have hl := lv_entry ([.ref h0, .int x1]) (n := 3) (Nat.le_of_ble_eq_true rfl)
  rw [show entryFrame m args 3 = entryFrame m ([.ref h0, .int x1] : List Value).toArray 3 from by rw [hav], lg_entry_eq]
  generalize (lg_sl ([.ref h0, .int x1]) ++ List.replicate (3 - (lg_sl ([.ref h0, .int x1])).length) Slot.unset).toArray = ls at hl ⊢
  have hl : lv_has ls 3 [(0, .ref h0), (1, .int x1)] := hl
  generalize hR : (headSpec (tb (.code yX11_write cX11_write 3 none)) (rm 0)).room = R
  have hR := hR.symm
  generalize hQ : MQ below (QV E D G) args s 0 0 (th_A G) = QF
  have hQ := hQ.symm
  have J_3 : ∀ (nn : Nat) (H : Heap) (locs : List Loc) (ls : Array Slot) (v514 : Int32), (Int.toNat (v514.toInt - (-8)) = nn) → lv_has ls 3 [(2, .int v514), (0, .ref h0), (1, .int x1)] → ((-8 : Int) ≤ v514.toInt ∧ v514.toInt ≤ 24) → th_I (okC E) D G [] H → va_S (th_A G) s.heap H locs → W p l e R s m args below meth c H locs 0 0 QF (F0 m 3 ls []) := by
    intro nn
    induction nn using Nat.strongRecOn with
    | ind nn ih_3 =>
      intro H locs ls v514 hm hl k515 hI hS
      refine lv_iload_n hx hb dX11_write_3 rfl (lv_at hl 0 rfl) ?_
      refine lv_if_lt (tgt := 49) hx hb dX11_write_4 (by decide) (fun c516 => ?_) (fun c516 => ?_)
      · skip
        have k517 := iv_lt (X := v514.toInt) (Y := (0)) rfl (by decide) c516
        rw [hQ]
        exact W.vret hx hb hr (fun t ht hW => ⟨⟨(), rfl, trivial, by rw [ht]; exact hI, hN.warm hW, va_K.moved hW.alike hK⟩, hS.F ht⟩) hS.2.2 dX11_write_49
      · skip
        have k518 := iv_nlt (X := v514.toInt) (Y := (0)) rfl (by decide) c516
        refine lv_aload_n hx hb dX11_write_7 rfl (lv_at hl 1 rfl) ?_
        obtain ⟨a519, a523, a525, a527, a529, a531, a533, a535, a537, a539, a541, w543, w546, w547, w548, w549, hO, hq520, ⟨m522, hq521⟩, hq524, hq526, hq528, hq530, hq532, hq534, hq536, hq538, hq540, hq542, ⟨k544, k545⟩⟩ := op_15 hI hG0 List.not_mem_nil
        have hI := th_I.weak (a := h0) hI
        refine th_get hx hb hts inT11 hown hK hO rfl 12 (by decide) (hts _ (tb_c wd_357)) rfl rfl dX11_write_8 ?_
        refine lv_sipush (v := 400) hx hb dX11_write_11 (by decide) ?_
        refine lv_icmp_ge (tgt := 49) hx hb dX11_write_14 (by decide) (fun c550 => ?_) (fun c550 => ?_)
        · skip
          have k551 := iv_le (X := (400)) (Y := w543.toInt) (by decide) rfl c550
          have hI := th_I.close hI hG0 hO (ok_15 hq520 ⟨_, hq521⟩ hq524 hq526 hq528 hq530 hq532 hq534 hq536 hq538 hq540 hq542 ⟨by omega, by omega⟩)
          rw [hQ]
          exact W.vret hx hb hr (fun t ht hW => ⟨⟨(), rfl, trivial, by rw [ht]; exact hI, hN.warm hW, va_K.moved hW.alike hK⟩, hS.F ht⟩) hS.2.2 dX11_write_49
        · skip
          have k552 := iv_nle (X := (400)) (Y := w543.toInt) (by decide) rfl c550
          refine lv_aload_n hx hb dX11_write_17 rfl (lv_at hl 1 rfl) ?_
          refine th_get hx hb hts inT11 hown hK hO rfl 2 (by decide) (hts _ (tb_c wd_347)) rfl rfl dX11_write_18 ?_
          refine lv_aload_n hx hb dX11_write_21 rfl (lv_at hl 1 rfl) ?_
          refine th_get hx hb hts inT11 hown hK hO rfl 12 (by decide) (hts _ (tb_c wd_357)) rfl rfl dX11_write_22 ?_
          refine lv_iload_n hx hb dX11_write_25 rfl (lv_at hl 2 rfl) ?_
          refine lv_iload_n hx hb dX11_write_26 rfl (lv_at hl 0 rfl) ?_
          refine lv_ishr hx hb dX11_write_27 ?_
          refine lv_topi (fun v553 e554 => ?_)
          refine lv_sipush (v := 255) hx hb dX11_write_28 (by decide) ?_
          refine lv_iand hx hb dX11_write_31 ?_
          refine lv_topi (fun v555 e556 => ?_)
          have tv555 := iv_andr (m := 255) (M := 255) e556 (by decide) (by decide)
          obtain ⟨_, hA557⟩ := op_0 hI hq524 (th_ne hG0 hq524 (show (15 : Nat) ≠ 0 by decide))
          refine th_iast hx hb hK hA557 0 rfl hS ⟨_, hq524⟩ (iv_in (X := w543.toInt) rfl (by omega) (by omega)) dX11_write_32 (fun H locs hA557 oq hS => ?_)
          have hI := th_I.put hI hq524 hA557 ok_0 oq
          have hO := hO.kept (oq _ (fun z => th_ne hG0 hq524 (show (15 : Nat) ≠ 0 by decide) (List.mem_singleton.mpr z.symm)))
          refine lv_aload_n hx hb dX11_write_33 rfl (lv_at hl 1 rfl) ?_
          refine lv_dup hx hb dX11_write_34 rfl ?_
          refine th_get hx hb hts inT11 hown hK hO rfl 12 (by decide) (hts _ (tb_c wd_357)) rfl rfl dX11_write_35 ?_
          refine lv_iconst (v := 1) hx hb dX11_write_38 (by decide) ?_
          refine lv_iadd hx hb dX11_write_39 ?_
          refine lv_topi (fun v558 e559 => ?_)
          have tv558 : v558.toInt = w543.toInt + (1) := iv_add rfl (by decide) e559 (by omega) (by omega)
          refine th_put (ty := .int) hx hb hts inT11 tyX11 tyX11_ok nmX11 hown hK hO hS ⟨_, hG0⟩ rfl 12 (by decide) (hts _ (tb_c wd_357)) rfl rfl (by decide +kernel) rfl rfl (Nat.le_of_ble_eq_true rfl) dX11_write_40 (fun H locs hO oq hS => ?_)
          have hI := th_I.moved hI oq
          have hO : va_at D vwCl (h0, .inr (11, [.ref a519, .ref n, .ref a523, .ref a525, .ref a527, .ref a529, .ref a531, .ref a533, .ref a535, .ref a537, .ref a539, .ref a541, .int v558, .int w546, .int w547, .int w548, .int w549])) H := hO
          obtain ⟨v560, e561⟩ : ∃ y : Int32, y = v514 + (-8) := ⟨_, rfl⟩
          have tv560 : v560.toInt = v514.toInt + (-8) := iv_add rfl (by decide) e561 (by omega) (by omega)
          refine lv_iinc (v := v560) (lv' := [(2, .int v560), (0, .ref h0), (1, .int x1)]) hx hb dX11_write_43 hl (k := 0) rfl (by rw [e561]; rfl) (by decide) rfl (fun ls hl => ?_)
          refine lv_goto (tgt := 3) hx hb dX11_write_46 (by decide) ?_
          have hI := th_I.close hI hG0 hO (ok_15 hq520 ⟨_, hq521⟩ hq524 hq526 hq528 hq530 hq532 hq534 hq536 hq538 hq540 hq542 ⟨by omega, by omega⟩)
          exact ih_3 _ (by omega) H locs ls v560 rfl (lv_sub hl [0, 1, 2] rfl) ⟨by omega, by omega⟩ hI hS
  refine lv_bipush (v := 24) hx hb dX11_write_0 (by decide) ?_
  refine lv_istore_n (lv' := [(2, .int 24), (0, .ref h0), (1, .int x1)]) hx hb dX11_write_2 rfl hl (by decide) rfl (fun ls hl => ?_)
  have zl : (24 : Int32).toInt = 24 := by decide
  exact J_3 _ s.heap [] ls 24 rfl (lv_sub hl [0, 1, 2] rfl) ⟨by decide, by decide⟩ hI hS
theorem dX11_end_0 : decode cX11_end 0 = .ok (.iload_n 1, 1) := by decide +kernel
theorem dX11_end_1 : decode cX11_end 1 = .ok (.ifCond .lt 11, 3) := by decide +kernel
theorem dX11_end_4 : decode cX11_end 4 = .ok (.iload_n 1, 1) := by decide +kernel
theorem dX11_end_5 : decode cX11_end 5 = .ok (.aload_n 0, 1) := by decide +kernel
theorem dX11_end_6 : decode cX11_end 6 = .ok (.getfield 89, 3) := by decide +kernel
theorem dX11_end_9 : decode cX11_end 9 = .ok (.if_icmp .le 5, 3) := by decide +kernel
theorem dX11_end_12 : decode cX11_end 12 = .ok (.iconst (-1), 1) := by decide +kernel
theorem dX11_end_13 : decode cX11_end 13 = .ok (.ireturn, 1) := by decide +kernel
theorem dX11_end_14 : decode cX11_end 14 = .ok (.aload_n 0, 1) := by decide +kernel
theorem dX11_end_15 : decode cX11_end 15 = .ok (.iload_n 1, 1) := by decide +kernel
theorem dX11_end_16 : decode cX11_end 16 = .ok (.putfield 89, 3) := by decide +kernel
theorem dX11_end_19 : decode cX11_end 19 = .ok (.iload_n 1, 1) := by decide +kernel
theorem dX11_end_20 : decode cX11_end 20 = .ok (.ireturn, 1) := by decide +kernel
set_option maxHeartbeats 4000000 in
set_option maxRecDepth 100000 in
theorem c_X11_end (l : Launch) (E : Nat → ClassId) (D : va_G) (G : th_G) (h0 n : Nat) (hG0 : G h0 = some (15, n)) (x1 : Int32) : Met l yX11_end (tb (.code yX11_end cX11_end 2 (some .int))) (rm 0) (va_Pc [.ref h0, .int x1] (th_P E D G)) (QI E D G (fun r => True)) 0 0 (th_A G) := by
  refine Met.ofW (cc := cX11_end) (maxL := 2) (ret := (some .int)) (by decide) rfl ?_
  intro p e s m args below meth c s₁ B hml hv
  obtain ⟨hav, hI, hN, hK⟩ := hv
  have hx := B.exec
  have hb := B.bytes
  have hr := B.returns
  have hts := atoms_spec (ws := tb (.code yX11_end cX11_end 2 (some .int))) B.pre
  have hown : s.vm.findClass RX11 = some m.cls := findClass_of_methodNamed B.named
  have hlocks := B.notSynchronized
  have hS : va_S (th_A G) s.heap s.heap [] := va_S.rf
  have hl := lv_entry ([.ref h0, .int x1]) (n := 2) (Nat.le_of_ble_eq_true rfl)
  rw [show entryFrame m args 2 = entryFrame m ([.ref h0, .int x1] : List Value).toArray 2 from by rw [hav], lg_entry_eq]
  generalize (lg_sl ([.ref h0, .int x1]) ++ List.replicate (2 - (lg_sl ([.ref h0, .int x1])).length) Slot.unset).toArray = ls at hl ⊢
  have hl : lv_has ls 2 [(0, .ref h0), (1, .int x1)] := hl
  generalize hR : (headSpec (tb (.code yX11_end cX11_end 2 (some .int))) (rm 0)).room = R
  have hR := hR.symm
  generalize hQ : MQ below (QI E D G (fun r => True)) args s 0 0 (th_A G) = QF
  have hQ := hQ.symm
  refine lv_iload_n hx hb dX11_end_0 rfl (lv_at hl 1 rfl) ?_
  have k1 := iv_lo x1
  have k2 := iv_hi x1
  refine lv_if_lt (tgt := 12) hx hb dX11_end_1 (by decide) (fun c3 => ?_) (fun c3 => ?_)
  · skip
    have k4 := iv_lt (X := x1.toInt) (Y := (0)) rfl (by decide) c3
    refine lv_iconst (v := (-1)) hx hb dX11_end_12 (by decide) ?_
    have hpost : True := trivial
    rw [hQ]
    exact W.iret (v := (-1)) hx hb hr (fun t ht hW => ⟨⟨(-1), (), rfl, hpost, by rw [ht]; exact hI, hN.warm hW, va_K.moved hW.alike hK⟩, hS.F ht⟩) hS.2.2 dX11_end_13
  · skip
    have k5 := iv_nlt (X := x1.toInt) (Y := (0)) rfl (by decide) c3
    refine lv_iload_n hx hb dX11_end_4 rfl (lv_at hl 1 rfl) ?_
    refine lv_aload_n hx hb dX11_end_5 rfl (lv_at hl 0 rfl) ?_
    obtain ⟨a6, a10, a12, a14, a16, a18, a20, a22, a24, a26, a28, w30, w33, w34, w35, w36, hO, hq7, ⟨m9, hq8⟩, hq11, hq13, hq15, hq17, hq19, hq21, hq23, hq25, hq27, hq29, ⟨k31, k32⟩⟩ := op_15 hI hG0 List.not_mem_nil
    have hI := th_I.weak (a := h0) hI
    refine th_get hx hb hts inT11 hown hK hO rfl 12 (by decide) (hts _ (tb_c wd_357)) rfl rfl dX11_end_6 ?_
    refine lv_icmp_le (tgt := 14) hx hb dX11_end_9 (by decide) (fun c37 => ?_) (fun c37 => ?_)
    · skip
      have k38 := iv_le (X := x1.toInt) (Y := w30.toInt) rfl rfl c37
      refine lv_aload_n hx hb dX11_end_14 rfl (lv_at hl 0 rfl) ?_
      refine lv_iload_n hx hb dX11_end_15 rfl (lv_at hl 1 rfl) ?_
      refine th_put (ty := .int) hx hb hts inT11 tyX11 tyX11_ok nmX11 hown hK hO hS ⟨_, hG0⟩ rfl 12 (by decide) (hts _ (tb_c wd_357)) rfl rfl (by decide +kernel) rfl rfl (Nat.le_of_ble_eq_true rfl) dX11_end_16 (fun H locs hO oq hS => ?_)
      have hI := th_I.moved hI oq
      have hO : va_at D vwCl (h0, .inr (11, [.ref a6, .ref n, .ref a10, .ref a12, .ref a14, .ref a16, .ref a18, .ref a20, .ref a22, .ref a24, .ref a26, .ref a28, .int x1, .int w33, .int w34, .int w35, .int w36])) H := hO
      refine lv_iload_n hx hb dX11_end_19 rfl (lv_at hl 1 rfl) ?_
      have hI := th_I.close hI hG0 hO (ok_15 hq7 ⟨_, hq8⟩ hq11 hq13 hq15 hq17 hq19 hq21 hq23 hq25 hq27 hq29 ⟨by omega, by omega⟩)
      have hpost : True := trivial
      rw [hQ]
      exact W.iret (v := x1) hx hb hr (fun t ht hW => ⟨⟨x1, (), rfl, hpost, by rw [ht]; exact hI, hN.warm hW, va_K.moved hW.alike hK⟩, hS.F ht⟩) hS.2.2 dX11_end_20
    · skip
      have k39 := iv_nle (X := x1.toInt) (Y := w30.toInt) rfl rfl c37
      refine lv_iconst (v := (-1)) hx hb dX11_end_12 (by decide) ?_
      have hI := th_I.close hI hG0 hO (ok_15 hq7 ⟨_, hq8⟩ hq11 hq13 hq15 hq17 hq19 hq21 hq23 hq25 hq27 hq29 ⟨by omega, by omega⟩)
      have hpost : True := trivial
      rw [hQ]
      exact W.iret (v := (-1)) hx hb hr (fun t ht hW => ⟨⟨(-1), (), rfl, hpost, by rw [ht]; exact hI, hN.warm hW, va_K.moved hW.alike hK⟩, hS.F ht⟩) hS.2.2 dX11_end_13
theorem dX11_of_0 : decode cX11_of 0 = .ok (.iload_n 1, 1) := by decide +kernel
theorem dX11_of_1 : decode cX11_of 1 = .ok (.invokestatic 117, 3) := by decide +kernel
theorem dX11_of_4 : decode cX11_of 4 = .ok (.ifCond .eq 24, 3) := by decide +kernel
theorem dX11_of_7 : decode cX11_of 7 = .ok (.iload_n 2, 1) := by decide +kernel
theorem dX11_of_8 : decode cX11_of 8 = .ok (.ifCond .lt 20, 3) := by decide +kernel
theorem dX11_of_11 : decode cX11_of 11 = .ok (.iload_n 2, 1) := by decide +kernel
theorem dX11_of_12 : decode cX11_of 12 = .ok (.iconst 5, 1) := by decide +kernel
theorem dX11_of_13 : decode cX11_of 13 = .ok (.if_icmp .ge 15, 3) := by decide +kernel
theorem dX11_of_16 : decode cX11_of 16 = .ok (.aload_n 0, 1) := by decide +kernel
theorem dX11_of_17 : decode cX11_of 17 = .ok (.getfield 12, 3) := by decide +kernel
theorem dX11_of_20 : decode cX11_of 20 = .ok (.iload_n 1, 1) := by decide +kernel
theorem dX11_of_21 : decode cX11_of 21 = .ok (.iload_n 2, 1) := by decide +kernel
theorem dX11_of_22 : decode cX11_of 22 = .ok (.invokevirtual 130, 3) := by decide +kernel
theorem dX11_of_25 : decode cX11_of 25 = .ok (.goto 4, 3) := by decide +kernel
theorem dX11_of_28 : decode cX11_of 28 = .ok (.iconst (-1), 1) := by decide +kernel
theorem dX11_of_29 : decode cX11_of 29 = .ok (.ireturn, 1) := by decide +kernel
set_option maxHeartbeats 4000000 in
set_option maxRecDepth 100000 in
theorem c_X11_of (l : Launch) (E : Nat → ClassId) (D : va_G) (G : th_G) (h0 n : Nat) (hG0 : G h0 = some (15, n)) (x1 x2 : Int32) : Met l yX11_of (tb (.code yX11_of cX11_of 3 (some .int))) (rm 2) (va_Pc [.ref h0, .int x1, .int x2] (th_P E D G)) (QI E D G (fun r => True)) 0 0 (th_A G) := by
  refine Met.ofW (cc := cX11_of) (maxL := 3) (ret := (some .int)) (by decide) rfl ?_
  intro p e s m args below meth c s₁ B hml hv
  obtain ⟨hav, hI, hN, hK⟩ := hv
  have hx := B.exec
  have hb := B.bytes
  have hr := B.returns
  have hts := atoms_spec (ws := tb (.code yX11_of cX11_of 3 (some .int))) B.pre
  have hown : s.vm.findClass RX11 = some m.cls := findClass_of_methodNamed B.named
  have hlocks := B.notSynchronized
  have hS : va_S (th_A G) s.heap s.heap [] := va_S.rf
  have hl := lv_entry ([.ref h0, .int x1, .int x2]) (n := 3) (Nat.le_of_ble_eq_true rfl)
  rw [show entryFrame m args 3 = entryFrame m ([.ref h0, .int x1, .int x2] : List Value).toArray 3 from by rw [hav], lg_entry_eq]
  generalize (lg_sl ([.ref h0, .int x1, .int x2]) ++ List.replicate (3 - (lg_sl ([.ref h0, .int x1, .int x2])).length) Slot.unset).toArray = ls at hl ⊢
  have hl : lv_has ls 3 [(0, .ref h0), (1, .int x1), (2, .int x2)] := hl
  generalize hR : (headSpec (tb (.code yX11_of cX11_of 3 (some .int))) (rm 2)).room = R
  have hR := hR.symm
  generalize hQ : MQ below (QI E D G (fun r => True)) args s 0 0 (th_A G) = QF
  have hQ := hQ.symm
  refine lv_iload_n hx hb dX11_of_0 rfl (lv_at hl 1 rfl) ?_
  refine th_cSs (As := [.int x1]) (rest := []) (n := 1) (d := 0) ⟨hx, hb, hml, hown, hts⟩ (c_X11_isPump l s.heap x1) wd_411 wd_412 wd_1 wd_413 (by decide +kernel) ⟨by rw [hR]; exact Nat.le_of_ble_eq_true rfl, by rw [hR]; exact Nat.le_of_ble_eq_true rfl⟩ hN hS rfl hl.1 rfl (Nat.le_of_ble_eq_true rfl) dX11_of_1 ⟨Nat.zero_le _, Nat.zero_le _⟩ (fun r1 locs hp hS => ?_)
  rcases hp with ⟨rfl, hp⟩ | ⟨rfl, hp⟩
  · skip
    try simp only [rg, not_and, Int.not_le] at hp
    have hp2 := hp
    refine lv_if_eq (tgt := 28) hx hb dX11_of_4 (by decide) (fun c => absurd c (by decide)) (fun _ => ?_)
    refine lv_iload_n hx hb dX11_of_7 rfl (lv_at hl 2 rfl) ?_
    have k3 := iv_lo x2
    have k4 := iv_hi x2
    refine lv_if_lt (tgt := 28) hx hb dX11_of_8 (by decide) (fun c5 => ?_) (fun c5 => ?_)
    · skip
      have k6 := iv_lt (X := x2.toInt) (Y := (0)) rfl (by decide) c5
      refine lv_iconst (v := (-1)) hx hb dX11_of_28 (by decide) ?_
      have hpost : True := trivial
      rw [hQ]
      exact W.iret (v := (-1)) hx hb hr (fun t ht hW => ⟨⟨(-1), (), rfl, hpost, by rw [ht]; exact hI, hN.warm hW, va_K.moved hW.alike hK⟩, hS.F ht⟩) hS.2.2 dX11_of_29
    · skip
      have k7 := iv_nlt (X := x2.toInt) (Y := (0)) rfl (by decide) c5
      refine lv_iload_n hx hb dX11_of_11 rfl (lv_at hl 2 rfl) ?_
      refine lv_iconst (v := 5) hx hb dX11_of_12 (by decide) ?_
      refine lv_icmp_ge (tgt := 28) hx hb dX11_of_13 (by decide) (fun c8 => ?_) (fun c8 => ?_)
      · skip
        have k9 := iv_le (X := (5)) (Y := x2.toInt) (by decide) rfl c8
        refine lv_iconst (v := (-1)) hx hb dX11_of_28 (by decide) ?_
        have hpost : True := trivial
        rw [hQ]
        exact W.iret (v := (-1)) hx hb hr (fun t ht hW => ⟨⟨(-1), (), rfl, hpost, by rw [ht]; exact hI, hN.warm hW, va_K.moved hW.alike hK⟩, hS.F ht⟩) hS.2.2 dX11_of_29
      · skip
        have k10 := iv_nle (X := (5)) (Y := x2.toInt) (by decide) rfl c8
        refine lv_aload_n hx hb dX11_of_16 rfl (lv_at hl 0 rfl) ?_
        obtain ⟨a11, a15, a17, a19, a21, a23, a25, a27, a29, a31, a33, w35, w38, w39, w40, w41, hO, hq12, ⟨m14, hq13⟩, hq16, hq18, hq20, hq22, hq24, hq26, hq28, hq30, hq32, hq34, ⟨k36, k37⟩⟩ := op_15 hI hG0 List.not_mem_nil
        have hI := th_I.weak (a := h0) hI
        refine th_get hx hb hts inT11 hown hK hO rfl 0 (by decide) (hts _ (tb_c wd_345)) rfl rfl dX11_of_17 ?_
        refine lv_iload_n hx hb dX11_of_20 rfl (lv_at hl 1 rfl) ?_
        refine lv_iload_n hx hb dX11_of_21 rfl (lv_at hl 2 rfl) ?_
        have hI := th_I.close hI hG0 hO (ok_15 hq12 ⟨_, hq13⟩ hq16 hq18 hq20 hq22 hq24 hq26 hq28 hq30 hq32 hq34 ⟨by omega, by omega⟩)
        refine th_cVi (As := [.int x1, .int x2]) (rest := []) (n := 2) (d := 1) ⟨hx, hb, hml, hown, hts⟩ (c_X6_pumpPart l E D G a11 hq12 x1 x2) wd_455 wd_456 wd_457 wd_2 wd_458 (by decide +kernel) ⟨by rw [hR]; exact Nat.le_of_ble_eq_true rfl, by rw [hR]; exact Nat.le_of_ble_eq_true rfl⟩ hI hN hK hS (rc_6 hI hq12 List.not_mem_nil) rfl rfl hl.1 rfl (Nat.le_of_ble_eq_true rfl) dX11_of_22 ⟨Nat.zero_le _, Nat.zero_le _⟩ (fun r42 H locs hp hI hS => ?_)
        refine lv_goto (tgt := 29) hx hb dX11_of_25 (by decide) ?_
        have hpost : True := trivial
        rw [hQ]
        exact W.iret (v := r42) hx hb hr (fun t ht hW => ⟨⟨r42, (), rfl, hpost, by rw [ht]; exact hI, hN.warm hW, va_K.moved hW.alike hK⟩, hS.F ht⟩) hS.2.2 dX11_of_29
  · skip
    try simp only [rg, not_and, Int.not_le] at hp
    have hp43 := hp
    refine lv_if_eq (tgt := 28) hx hb dX11_of_4 (by decide) (fun _ => ?_) (fun c => absurd c (by decide))
    refine lv_iconst (v := (-1)) hx hb dX11_of_28 (by decide) ?_
    have hpost : True := trivial
    rw [hQ]
    exact W.iret (v := (-1)) hx hb hr (fun t ht hW => ⟨⟨(-1), (), rfl, hpost, by rw [ht]; exact hI, hN.warm hW, va_K.moved hW.alike hK⟩, hS.F ht⟩) hS.2.2 dX11_of_29
theorem dX11_pump_0 : decode cX11_pump 0 = .ok (.iload_n 2, 1) := by decide +kernel
theorem dX11_pump_1 : decode cX11_pump 1 = .ok (.invokestatic 106, 3) := by decide +kernel
theorem dX11_pump_4 : decode cX11_pump 4 = .ok (.ifCond .eq 43, 3) := by decide +kernel
theorem dX11_pump_7 : decode cX11_pump 7 = .ok (.iload_n 3, 1) := by decide +kernel
theorem dX11_pump_8 : decode cX11_pump 8 = .ok (.invokestatic 106, 3) := by decide +kernel
theorem dX11_pump_11 : decode cX11_pump 11 = .ok (.ifCond .eq 36, 3) := by decide +kernel
theorem dX11_pump_14 : decode cX11_pump 14 = .ok (.iload_n 3, 1) := by decide +kernel
theorem dX11_pump_15 : decode cX11_pump 15 = .ok (.iload_n 2, 1) := by decide +kernel
theorem dX11_pump_16 : decode cX11_pump 16 = .ok (.if_icmp .lt 31, 3) := by decide +kernel
theorem dX11_pump_19 : decode cX11_pump 19 = .ok (.iload 4, 2) := by decide +kernel
theorem dX11_pump_21 : decode cX11_pump 21 = .ok (.invokestatic 110, 3) := by decide +kernel
theorem dX11_pump_24 : decode cX11_pump 24 = .ok (.ifCond .eq 23, 3) := by decide +kernel
theorem dX11_pump_27 : decode cX11_pump 27 = .ok (.iload 5, 2) := by decide +kernel
theorem dX11_pump_29 : decode cX11_pump 29 = .ok (.invokestatic 110, 3) := by decide +kernel
theorem dX11_pump_32 : decode cX11_pump 32 = .ok (.ifCond .eq 15, 3) := by decide +kernel
theorem dX11_pump_35 : decode cX11_pump 35 = .ok (.iload 6, 2) := by decide +kernel
theorem dX11_pump_37 : decode cX11_pump 37 = .ok (.ifCond .lt 10, 3) := by decide +kernel
theorem dX11_pump_40 : decode cX11_pump 40 = .ok (.iload 6, 2) := by decide +kernel
theorem dX11_pump_42 : decode cX11_pump 42 = .ok (.bipush 6, 2) := by decide +kernel
theorem dX11_pump_44 : decode cX11_pump 44 = .ok (.if_icmp .le 9, 3) := by decide +kernel
theorem dX11_pump_47 : decode cX11_pump 47 = .ok (.aload_n 0, 1) := by decide +kernel
theorem dX11_pump_48 : decode cX11_pump 48 = .ok (.iconst (-1), 1) := by decide +kernel
theorem dX11_pump_49 : decode cX11_pump 49 = .ok (.invokevirtual 113, 3) := by decide +kernel
theorem dX11_pump_52 : decode cX11_pump 52 = .ok (.ireturn, 1) := by decide +kernel
theorem dX11_pump_53 : decode cX11_pump 53 = .ok (.iload_n 1, 1) := by decide +kernel
theorem dX11_pump_54 : decode cX11_pump 54 = .ok (.invokestatic 117, 3) := by decide +kernel
theorem dX11_pump_57 : decode cX11_pump 57 = .ok (.ifCond .ne 10, 3) := by decide +kernel
theorem dX11_pump_60 : decode cX11_pump 60 = .ok (.aload_n 0, 1) := by decide +kernel
theorem dX11_pump_61 : decode cX11_pump 61 = .ok (.bipush (-2), 2) := by decide +kernel
theorem dX11_pump_63 : decode cX11_pump 63 = .ok (.invokevirtual 113, 3) := by decide +kernel
theorem dX11_pump_66 : decode cX11_pump 66 = .ok (.ireturn, 1) := by decide +kernel
theorem dX11_pump_67 : decode cX11_pump 67 = .ok (.aload_n 0, 1) := by decide +kernel
theorem dX11_pump_68 : decode cX11_pump 68 = .ok (.getfield 12, 3) := by decide +kernel
theorem dX11_pump_71 : decode cX11_pump 71 = .ok (.iload_n 1, 1) := by decide +kernel
theorem dX11_pump_72 : decode cX11_pump 72 = .ok (.iload_n 2, 1) := by decide +kernel
theorem dX11_pump_73 : decode cX11_pump 73 = .ok (.iload_n 3, 1) := by decide +kernel
theorem dX11_pump_74 : decode cX11_pump 74 = .ok (.iload 4, 2) := by decide +kernel
theorem dX11_pump_76 : decode cX11_pump 76 = .ok (.iload 5, 2) := by decide +kernel
theorem dX11_pump_78 : decode cX11_pump 78 = .ok (.iload 6, 2) := by decide +kernel
theorem dX11_pump_80 : decode cX11_pump 80 = .ok (.invokevirtual 120, 3) := by decide +kernel
theorem dX11_pump_83 : decode cX11_pump 83 = .ok (.aload_n 0, 1) := by decide +kernel
theorem dX11_pump_84 : decode cX11_pump 84 = .ok (.invokevirtual 124, 3) := by decide +kernel
theorem dX11_pump_87 : decode cX11_pump 87 = .ok (.aload_n 0, 1) := by decide +kernel
theorem dX11_pump_88 : decode cX11_pump 88 = .ok (.iconst 0, 1) := by decide +kernel
theorem dX11_pump_89 : decode cX11_pump 89 = .ok (.invokevirtual 127, 3) := by decide +kernel
theorem dX11_pump_92 : decode cX11_pump 92 = .ok (.ireturn, 1) := by decide +kernel
set_option maxHeartbeats 4000000 in
set_option maxRecDepth 100000 in
theorem c_X11_pump (l : Launch) (E : Nat → ClassId) (D : va_G) (G : th_G) (h0 n : Nat) (hG0 : G h0 = some (15, n)) (x1 x2 x3 x4 x5 x6 : Int32) : Met l yX11_pump (tb (.code yX11_pump cX11_pump 7 (some .int))) (rm 3) (va_Pc [.ref h0, .int x1, .int x2, .int x3, .int x4, .int x5, .int x6] (th_P E D G)) (QI E D G (fun r => ((r : Int32) = -1 ∧ ¬ (rg x2 0 23 ∧ rg x3 0 23 ∧ x2.toInt ≤ x3.toInt ∧ rg x4 0 23 ∧ rg x5 0 23 ∧ rg x6 0 6)) ∨ ((r : Int32) = -2 ∧ (rg x2 0 23 ∧ rg x3 0 23 ∧ x2.toInt ≤ x3.toInt ∧ rg x4 0 23 ∧ rg x5 0 23 ∧ rg x6 0 6) ∧ ¬ rg x1 0 1) ∨ ((r : Int32) = 0 ∧ (rg x2 0 23 ∧ rg x3 0 23 ∧ x2.toInt ≤ x3.toInt ∧ rg x4 0 23 ∧ rg x5 0 23 ∧ rg x6 0 6) ∧ rg x1 0 1))) 0 0 (th_A G) := by
  refine Met.ofW (cc := cX11_pump) (maxL := 7) (ret := (some .int)) (by decide) rfl ?_
  intro p e s m args below meth c s₁ B hml hv
  obtain ⟨hav, hI, hN, hK⟩ := hv
  have hx := B.exec
  have hb := B.bytes
  have hr := B.returns
  have hts := atoms_spec (ws := tb (.code yX11_pump cX11_pump 7 (some .int))) B.pre
  have hown : s.vm.findClass RX11 = some m.cls := findClass_of_methodNamed B.named
  have hlocks := B.notSynchronized
  have hS : va_S (th_A G) s.heap s.heap [] := va_S.rf
  have hl := lv_entry ([.ref h0, .int x1, .int x2, .int x3, .int x4, .int x5, .int x6]) (n := 7) (Nat.le_of_ble_eq_true rfl)
  rw [show entryFrame m args 7 = entryFrame m ([.ref h0, .int x1, .int x2, .int x3, .int x4, .int x5, .int x6] : List Value).toArray 7 from by rw [hav], lg_entry_eq]
  generalize (lg_sl ([.ref h0, .int x1, .int x2, .int x3, .int x4, .int x5, .int x6]) ++ List.replicate (7 - (lg_sl ([.ref h0, .int x1, .int x2, .int x3, .int x4, .int x5, .int x6])).length) Slot.unset).toArray = ls at hl ⊢
  have hl : lv_has ls 7 [(0, .ref h0), (1, .int x1), (2, .int x2), (3, .int x3), (4, .int x4), (5, .int x5), (6, .int x6)] := hl
  generalize hR : (headSpec (tb (.code yX11_pump cX11_pump 7 (some .int))) (rm 3)).room = R
  have hR := hR.symm
  generalize hQ : MQ below (QI E D G (fun r => ((r : Int32) = -1 ∧ ¬ (rg x2 0 23 ∧ rg x3 0 23 ∧ x2.toInt ≤ x3.toInt ∧ rg x4 0 23 ∧ rg x5 0 23 ∧ rg x6 0 6)) ∨ ((r : Int32) = -2 ∧ (rg x2 0 23 ∧ rg x3 0 23 ∧ x2.toInt ≤ x3.toInt ∧ rg x4 0 23 ∧ rg x5 0 23 ∧ rg x6 0 6) ∧ ¬ rg x1 0 1) ∨ ((r : Int32) = 0 ∧ (rg x2 0 23 ∧ rg x3 0 23 ∧ x2.toInt ≤ x3.toInt ∧ rg x4 0 23 ∧ rg x5 0 23 ∧ rg x6 0 6) ∧ rg x1 0 1))) args s 0 0 (th_A G) = QF
  have hQ := hQ.symm
  refine lv_iload_n hx hb dX11_pump_0 rfl (lv_at hl 2 rfl) ?_
  refine th_cSs (As := [.int x2]) (rest := []) (n := 1) (d := 0) ⟨hx, hb, hml, hown, hts⟩ (c_X11_isCell l s.heap x2) wd_401 wd_402 wd_1 wd_403 (by decide +kernel) ⟨by rw [hR]; exact Nat.le_of_ble_eq_true rfl, by rw [hR]; exact Nat.le_of_ble_eq_true rfl⟩ hN hS rfl hl.1 rfl (Nat.le_of_ble_eq_true rfl) dX11_pump_1 ⟨Nat.zero_le _, Nat.zero_le _⟩ (fun r1 locs hp hS => ?_)
  rcases hp with ⟨rfl, hp⟩ | ⟨rfl, hp⟩
  · skip
    try simp only [rg, not_and, Int.not_le] at hp
    have hp2 := hp
    refine lv_if_eq (tgt := 47) hx hb dX11_pump_4 (by decide) (fun c => absurd c (by decide)) (fun _ => ?_)
    refine lv_iload_n hx hb dX11_pump_7 rfl (lv_at hl 3 rfl) ?_
    refine th_cSs (As := [.int x3]) (rest := []) (n := 1) (d := 0) ⟨hx, hb, hml, hown, hts⟩ (c_X11_isCell l s.heap x3) wd_401 wd_402 wd_1 wd_403 (by decide +kernel) ⟨by rw [hR]; exact Nat.le_of_ble_eq_true rfl, by rw [hR]; exact Nat.le_of_ble_eq_true rfl⟩ hN hS rfl hl.1 rfl (Nat.le_of_ble_eq_true rfl) dX11_pump_8 ⟨Nat.zero_le _, Nat.zero_le _⟩ (fun r3 locs hp hS => ?_)
    rcases hp with ⟨rfl, hp⟩ | ⟨rfl, hp⟩
    · skip
      try simp only [rg, not_and, Int.not_le] at hp
      have hp4 := hp
      refine lv_if_eq (tgt := 47) hx hb dX11_pump_11 (by decide) (fun c => absurd c (by decide)) (fun _ => ?_)
      refine lv_iload_n hx hb dX11_pump_14 rfl (lv_at hl 3 rfl) ?_
      refine lv_iload_n hx hb dX11_pump_15 rfl (lv_at hl 2 rfl) ?_
      refine lv_icmp_lt (tgt := 47) hx hb dX11_pump_16 (by decide) (fun c5 => ?_) (fun c5 => ?_)
      · skip
        have k6 := iv_lt (X := x3.toInt) (Y := x2.toInt) rfl rfl c5
        refine lv_aload_n hx hb dX11_pump_47 rfl (lv_at hl 0 rfl) ?_
        refine lv_iconst (v := (-1)) hx hb dX11_pump_48 (by decide) ?_
        refine th_cVi (As := [.int (-1)]) (rest := []) (n := 1) (d := 0) ⟨hx, hb, hml, hown, hts⟩ (c_X11_refuse l E D G h0 (n) hG0 (-1)) wd_407 wd_409 wp_0 wd_1 wd_410 (by decide +kernel) ⟨by rw [hR]; exact Nat.le_of_ble_eq_true rfl, by rw [hR]; exact Nat.le_of_ble_eq_true rfl⟩ hI hN hK hS (rc_15 hI hG0 List.not_mem_nil) rfl rfl hl.1 rfl (Nat.le_of_ble_eq_true rfl) dX11_pump_49 ⟨Nat.zero_le _, Nat.zero_le _⟩ (fun r7 H locs hp hI hS => ?_)
        have hp := hp.symm
        subst hp
        have hpost : (((-1) : Int32) = -1 ∧ ¬ (rg x2 0 23 ∧ rg x3 0 23 ∧ x2.toInt ≤ x3.toInt ∧ rg x4 0 23 ∧ rg x5 0 23 ∧ rg x6 0 6)) ∨ (((-1) : Int32) = -2 ∧ (rg x2 0 23 ∧ rg x3 0 23 ∧ x2.toInt ≤ x3.toInt ∧ rg x4 0 23 ∧ rg x5 0 23 ∧ rg x6 0 6) ∧ ¬ rg x1 0 1) ∨ (((-1) : Int32) = 0 ∧ (rg x2 0 23 ∧ rg x3 0 23 ∧ x2.toInt ≤ x3.toInt ∧ rg x4 0 23 ∧ rg x5 0 23 ∧ rg x6 0 6) ∧ rg x1 0 1) := by first | exact Or.inl ⟨rfl, by simp only [rg]; omega⟩ | exact Or.inr (Or.inl ⟨rfl, by simp only [rg]; omega⟩) | exact Or.inr (Or.inr ⟨rfl, by simp only [rg]; omega⟩)
        rw [hQ]
        exact W.iret (v := (-1)) hx hb hr (fun t ht hW => ⟨⟨(-1), (), rfl, hpost, by rw [ht]; exact hI, hN.warm hW, va_K.moved hW.alike hK⟩, hS.F ht⟩) hS.2.2 dX11_pump_52
      · skip
        have k8 := iv_nlt (X := x3.toInt) (Y := x2.toInt) rfl rfl c5
        refine lv_iload hx hb dX11_pump_19 (lv_at hl 4 rfl) ?_
        refine th_cSs (As := [.int x4]) (rest := []) (n := 1) (d := 0) ⟨hx, hb, hml, hown, hts⟩ (c_X11_isClock l s.heap x4) wd_404 wd_405 wd_1 wd_406 (by decide +kernel) ⟨by rw [hR]; exact Nat.le_of_ble_eq_true rfl, by rw [hR]; exact Nat.le_of_ble_eq_true rfl⟩ hN hS rfl hl.1 rfl (Nat.le_of_ble_eq_true rfl) dX11_pump_21 ⟨Nat.zero_le _, Nat.zero_le _⟩ (fun r9 locs hp hS => ?_)
        rcases hp with ⟨rfl, hp⟩ | ⟨rfl, hp⟩
        · skip
          try simp only [rg, not_and, Int.not_le] at hp
          have hp10 := hp
          refine lv_if_eq (tgt := 47) hx hb dX11_pump_24 (by decide) (fun c => absurd c (by decide)) (fun _ => ?_)
          refine lv_iload hx hb dX11_pump_27 (lv_at hl 5 rfl) ?_
          refine th_cSs (As := [.int x5]) (rest := []) (n := 1) (d := 0) ⟨hx, hb, hml, hown, hts⟩ (c_X11_isClock l s.heap x5) wd_404 wd_405 wd_1 wd_406 (by decide +kernel) ⟨by rw [hR]; exact Nat.le_of_ble_eq_true rfl, by rw [hR]; exact Nat.le_of_ble_eq_true rfl⟩ hN hS rfl hl.1 rfl (Nat.le_of_ble_eq_true rfl) dX11_pump_29 ⟨Nat.zero_le _, Nat.zero_le _⟩ (fun r11 locs hp hS => ?_)
          rcases hp with ⟨rfl, hp⟩ | ⟨rfl, hp⟩
          · skip
            try simp only [rg, not_and, Int.not_le] at hp
            have hp12 := hp
            refine lv_if_eq (tgt := 47) hx hb dX11_pump_32 (by decide) (fun c => absurd c (by decide)) (fun _ => ?_)
            refine lv_iload hx hb dX11_pump_35 (lv_at hl 6 rfl) ?_
            have k13 := iv_lo x6
            have k14 := iv_hi x6
            refine lv_if_lt (tgt := 47) hx hb dX11_pump_37 (by decide) (fun c15 => ?_) (fun c15 => ?_)
            · skip
              have k16 := iv_lt (X := x6.toInt) (Y := (0)) rfl (by decide) c15
              refine lv_aload_n hx hb dX11_pump_47 rfl (lv_at hl 0 rfl) ?_
              refine lv_iconst (v := (-1)) hx hb dX11_pump_48 (by decide) ?_
              refine th_cVi (As := [.int (-1)]) (rest := []) (n := 1) (d := 0) ⟨hx, hb, hml, hown, hts⟩ (c_X11_refuse l E D G h0 (n) hG0 (-1)) wd_407 wd_409 wp_0 wd_1 wd_410 (by decide +kernel) ⟨by rw [hR]; exact Nat.le_of_ble_eq_true rfl, by rw [hR]; exact Nat.le_of_ble_eq_true rfl⟩ hI hN hK hS (rc_15 hI hG0 List.not_mem_nil) rfl rfl hl.1 rfl (Nat.le_of_ble_eq_true rfl) dX11_pump_49 ⟨Nat.zero_le _, Nat.zero_le _⟩ (fun r17 H locs hp hI hS => ?_)
              have hp := hp.symm
              subst hp
              have hpost : (((-1) : Int32) = -1 ∧ ¬ (rg x2 0 23 ∧ rg x3 0 23 ∧ x2.toInt ≤ x3.toInt ∧ rg x4 0 23 ∧ rg x5 0 23 ∧ rg x6 0 6)) ∨ (((-1) : Int32) = -2 ∧ (rg x2 0 23 ∧ rg x3 0 23 ∧ x2.toInt ≤ x3.toInt ∧ rg x4 0 23 ∧ rg x5 0 23 ∧ rg x6 0 6) ∧ ¬ rg x1 0 1) ∨ (((-1) : Int32) = 0 ∧ (rg x2 0 23 ∧ rg x3 0 23 ∧ x2.toInt ≤ x3.toInt ∧ rg x4 0 23 ∧ rg x5 0 23 ∧ rg x6 0 6) ∧ rg x1 0 1) := by first | exact Or.inl ⟨rfl, by simp only [rg]; omega⟩ | exact Or.inr (Or.inl ⟨rfl, by simp only [rg]; omega⟩) | exact Or.inr (Or.inr ⟨rfl, by simp only [rg]; omega⟩)
              rw [hQ]
              exact W.iret (v := (-1)) hx hb hr (fun t ht hW => ⟨⟨(-1), (), rfl, hpost, by rw [ht]; exact hI, hN.warm hW, va_K.moved hW.alike hK⟩, hS.F ht⟩) hS.2.2 dX11_pump_52
            · skip
              have k18 := iv_nlt (X := x6.toInt) (Y := (0)) rfl (by decide) c15
              refine lv_iload hx hb dX11_pump_40 (lv_at hl 6 rfl) ?_
              refine lv_bipush (v := 6) hx hb dX11_pump_42 (by decide) ?_
              refine lv_icmp_le (tgt := 53) hx hb dX11_pump_44 (by decide) (fun c19 => ?_) (fun c19 => ?_)
              · skip
                have k20 := iv_le (X := x6.toInt) (Y := (6)) rfl (by decide) c19
                refine lv_iload_n hx hb dX11_pump_53 rfl (lv_at hl 1 rfl) ?_
                refine th_cSs (As := [.int x1]) (rest := []) (n := 1) (d := 0) ⟨hx, hb, hml, hown, hts⟩ (c_X11_isPump l s.heap x1) wd_411 wd_412 wd_1 wd_413 (by decide +kernel) ⟨by rw [hR]; exact Nat.le_of_ble_eq_true rfl, by rw [hR]; exact Nat.le_of_ble_eq_true rfl⟩ hN hS rfl hl.1 rfl (Nat.le_of_ble_eq_true rfl) dX11_pump_54 ⟨Nat.zero_le _, Nat.zero_le _⟩ (fun r21 locs hp hS => ?_)
                rcases hp with ⟨rfl, hp⟩ | ⟨rfl, hp⟩
                · skip
                  try simp only [rg, not_and, Int.not_le] at hp
                  have hp22 := hp
                  refine lv_if_ne (tgt := 67) hx hb dX11_pump_57 (by decide) (fun _ => ?_) (fun c => absurd c (by decide))
                  refine lv_aload_n hx hb dX11_pump_67 rfl (lv_at hl 0 rfl) ?_
                  obtain ⟨a23, a27, a29, a31, a33, a35, a37, a39, a41, a43, a45, w47, w50, w51, w52, w53, hO, hq24, ⟨m26, hq25⟩, hq28, hq30, hq32, hq34, hq36, hq38, hq40, hq42, hq44, hq46, ⟨k48, k49⟩⟩ := op_15 hI hG0 List.not_mem_nil
                  have hI := th_I.weak (a := h0) hI
                  refine th_get hx hb hts inT11 hown hK hO rfl 0 (by decide) (hts _ (tb_c wd_345)) rfl rfl dX11_pump_68 ?_
                  refine lv_iload_n hx hb dX11_pump_71 rfl (lv_at hl 1 rfl) ?_
                  refine lv_iload_n hx hb dX11_pump_72 rfl (lv_at hl 2 rfl) ?_
                  refine lv_iload_n hx hb dX11_pump_73 rfl (lv_at hl 3 rfl) ?_
                  refine lv_iload hx hb dX11_pump_74 (lv_at hl 4 rfl) ?_
                  refine lv_iload hx hb dX11_pump_76 (lv_at hl 5 rfl) ?_
                  refine lv_iload hx hb dX11_pump_78 (lv_at hl 6 rfl) ?_
                  have hI := th_I.close hI hG0 hO (ok_15 hq24 ⟨_, hq25⟩ hq28 hq30 hq32 hq34 hq36 hq38 hq40 hq42 hq44 hq46 ⟨by omega, by omega⟩)
                  refine th_cVv (As := [.int x1, .int x2, .int x3, .int x4, .int x5, .int x6]) (rest := []) (n := 6) (d := 2) ⟨hx, hb, hml, hown, hts⟩ (c_X6_tellPump l E D G a23 hq24 x1 x2 x3 x4 x5 x6) wd_414 wd_415 wd_416 wd_2 wd_417 (by decide +kernel) ⟨by rw [hR]; exact Nat.le_of_ble_eq_true rfl, by rw [hR]; exact Nat.le_of_ble_eq_true rfl⟩ hI hN hK hS (rc_6 hI hq24 List.not_mem_nil) rfl rfl hl.1 rfl (Nat.le_of_ble_eq_true rfl) dX11_pump_80 ⟨Nat.zero_le _, Nat.zero_le _⟩ (fun H locs hI hS => ?_)
                  refine lv_aload_n hx hb dX11_pump_83 rfl (lv_at hl 0 rfl) ?_
                  refine th_cVv (As := []) (rest := []) (n := 0) (d := 2) ⟨hx, hb, hml, hown, hts⟩ (c_X11_turnRiver l E D G h0 (n) hG0 ) wd_423 wd_425 wp_1 wd_1 wd_426 (by decide +kernel) ⟨by rw [hR]; exact Nat.le_of_ble_eq_true rfl, by rw [hR]; exact Nat.le_of_ble_eq_true rfl⟩ hI hN hK hS (rc_15 hI hG0 List.not_mem_nil) rfl rfl hl.1 rfl (Nat.le_of_ble_eq_true rfl) dX11_pump_84 ⟨Nat.zero_le _, Nat.zero_le _⟩ (fun H locs hI hS => ?_)
                  refine lv_aload_n hx hb dX11_pump_87 rfl (lv_at hl 0 rfl) ?_
                  refine lv_iconst (v := 0) hx hb dX11_pump_88 (by decide) ?_
                  refine th_cVi (As := [.int 0]) (rest := []) (n := 1) (d := 0) ⟨hx, hb, hml, hown, hts⟩ (c_X11_accept l E D G h0 (n) hG0 0) wd_447 wd_449 wp_3 wd_1 wd_450 (by decide +kernel) ⟨by rw [hR]; exact Nat.le_of_ble_eq_true rfl, by rw [hR]; exact Nat.le_of_ble_eq_true rfl⟩ hI hN hK hS (rc_15 hI hG0 List.not_mem_nil) rfl rfl hl.1 rfl (Nat.le_of_ble_eq_true rfl) dX11_pump_89 ⟨Nat.zero_le _, Nat.zero_le _⟩ (fun r56 H locs hp hI hS => ?_)
                  have hp := hp.symm
                  subst hp
                  have hpost : ((0 : Int32) = -1 ∧ ¬ (rg x2 0 23 ∧ rg x3 0 23 ∧ x2.toInt ≤ x3.toInt ∧ rg x4 0 23 ∧ rg x5 0 23 ∧ rg x6 0 6)) ∨ ((0 : Int32) = -2 ∧ (rg x2 0 23 ∧ rg x3 0 23 ∧ x2.toInt ≤ x3.toInt ∧ rg x4 0 23 ∧ rg x5 0 23 ∧ rg x6 0 6) ∧ ¬ rg x1 0 1) ∨ ((0 : Int32) = 0 ∧ (rg x2 0 23 ∧ rg x3 0 23 ∧ x2.toInt ≤ x3.toInt ∧ rg x4 0 23 ∧ rg x5 0 23 ∧ rg x6 0 6) ∧ rg x1 0 1) := by first | exact Or.inl ⟨rfl, by simp only [rg]; omega⟩ | exact Or.inr (Or.inl ⟨rfl, by simp only [rg]; omega⟩) | exact Or.inr (Or.inr ⟨rfl, by simp only [rg]; omega⟩)
                  rw [hQ]
                  exact W.iret (v := 0) hx hb hr (fun t ht hW => ⟨⟨0, (), rfl, hpost, by rw [ht]; exact hI, hN.warm hW, va_K.moved hW.alike hK⟩, hS.F ht⟩) hS.2.2 dX11_pump_92
                · skip
                  try simp only [rg, not_and, Int.not_le] at hp
                  have hp57 := hp
                  refine lv_if_ne (tgt := 67) hx hb dX11_pump_57 (by decide) (fun c => absurd c (by decide)) (fun _ => ?_)
                  refine lv_aload_n hx hb dX11_pump_60 rfl (lv_at hl 0 rfl) ?_
                  refine lv_bipush (v := (-2)) hx hb dX11_pump_61 (by decide) ?_
                  refine th_cVi (As := [.int (-2)]) (rest := []) (n := 1) (d := 0) ⟨hx, hb, hml, hown, hts⟩ (c_X11_refuse l E D G h0 (n) hG0 (-2)) wd_407 wd_409 wp_0 wd_1 wd_410 (by decide +kernel) ⟨by rw [hR]; exact Nat.le_of_ble_eq_true rfl, by rw [hR]; exact Nat.le_of_ble_eq_true rfl⟩ hI hN hK hS (rc_15 hI hG0 List.not_mem_nil) rfl rfl hl.1 rfl (Nat.le_of_ble_eq_true rfl) dX11_pump_63 ⟨Nat.zero_le _, Nat.zero_le _⟩ (fun r58 H locs hp hI hS => ?_)
                  have hp := hp.symm
                  subst hp
                  have hpost : (((-2) : Int32) = -1 ∧ ¬ (rg x2 0 23 ∧ rg x3 0 23 ∧ x2.toInt ≤ x3.toInt ∧ rg x4 0 23 ∧ rg x5 0 23 ∧ rg x6 0 6)) ∨ (((-2) : Int32) = -2 ∧ (rg x2 0 23 ∧ rg x3 0 23 ∧ x2.toInt ≤ x3.toInt ∧ rg x4 0 23 ∧ rg x5 0 23 ∧ rg x6 0 6) ∧ ¬ rg x1 0 1) ∨ (((-2) : Int32) = 0 ∧ (rg x2 0 23 ∧ rg x3 0 23 ∧ x2.toInt ≤ x3.toInt ∧ rg x4 0 23 ∧ rg x5 0 23 ∧ rg x6 0 6) ∧ rg x1 0 1) := by first | exact Or.inl ⟨rfl, by simp only [rg]; omega⟩ | exact Or.inr (Or.inl ⟨rfl, by simp only [rg]; omega⟩) | exact Or.inr (Or.inr ⟨rfl, by simp only [rg]; omega⟩)
                  rw [hQ]
                  exact W.iret (v := (-2)) hx hb hr (fun t ht hW => ⟨⟨(-2), (), rfl, hpost, by rw [ht]; exact hI, hN.warm hW, va_K.moved hW.alike hK⟩, hS.F ht⟩) hS.2.2 dX11_pump_66
              · skip
                have k59 := iv_nle (X := x6.toInt) (Y := (6)) rfl (by decide) c19
                refine lv_aload_n hx hb dX11_pump_47 rfl (lv_at hl 0 rfl) ?_
                refine lv_iconst (v := (-1)) hx hb dX11_pump_48 (by decide) ?_
                refine th_cVi (As := [.int (-1)]) (rest := []) (n := 1) (d := 0) ⟨hx, hb, hml, hown, hts⟩ (c_X11_refuse l E D G h0 (n) hG0 (-1)) wd_407 wd_409 wp_0 wd_1 wd_410 (by decide +kernel) ⟨by rw [hR]; exact Nat.le_of_ble_eq_true rfl, by rw [hR]; exact Nat.le_of_ble_eq_true rfl⟩ hI hN hK hS (rc_15 hI hG0 List.not_mem_nil) rfl rfl hl.1 rfl (Nat.le_of_ble_eq_true rfl) dX11_pump_49 ⟨Nat.zero_le _, Nat.zero_le _⟩ (fun r60 H locs hp hI hS => ?_)
                have hp := hp.symm
                subst hp
                have hpost : (((-1) : Int32) = -1 ∧ ¬ (rg x2 0 23 ∧ rg x3 0 23 ∧ x2.toInt ≤ x3.toInt ∧ rg x4 0 23 ∧ rg x5 0 23 ∧ rg x6 0 6)) ∨ (((-1) : Int32) = -2 ∧ (rg x2 0 23 ∧ rg x3 0 23 ∧ x2.toInt ≤ x3.toInt ∧ rg x4 0 23 ∧ rg x5 0 23 ∧ rg x6 0 6) ∧ ¬ rg x1 0 1) ∨ (((-1) : Int32) = 0 ∧ (rg x2 0 23 ∧ rg x3 0 23 ∧ x2.toInt ≤ x3.toInt ∧ rg x4 0 23 ∧ rg x5 0 23 ∧ rg x6 0 6) ∧ rg x1 0 1) := by first | exact Or.inl ⟨rfl, by simp only [rg]; omega⟩ | exact Or.inr (Or.inl ⟨rfl, by simp only [rg]; omega⟩) | exact Or.inr (Or.inr ⟨rfl, by simp only [rg]; omega⟩)
                rw [hQ]
                exact W.iret (v := (-1)) hx hb hr (fun t ht hW => ⟨⟨(-1), (), rfl, hpost, by rw [ht]; exact hI, hN.warm hW, va_K.moved hW.alike hK⟩, hS.F ht⟩) hS.2.2 dX11_pump_52
          · skip
            try simp only [rg, not_and, Int.not_le] at hp
            have hp61 := hp
            refine lv_if_eq (tgt := 47) hx hb dX11_pump_32 (by decide) (fun _ => ?_) (fun c => absurd c (by decide))
            refine lv_aload_n hx hb dX11_pump_47 rfl (lv_at hl 0 rfl) ?_
            refine lv_iconst (v := (-1)) hx hb dX11_pump_48 (by decide) ?_
            refine th_cVi (As := [.int (-1)]) (rest := []) (n := 1) (d := 0) ⟨hx, hb, hml, hown, hts⟩ (c_X11_refuse l E D G h0 (n) hG0 (-1)) wd_407 wd_409 wp_0 wd_1 wd_410 (by decide +kernel) ⟨by rw [hR]; exact Nat.le_of_ble_eq_true rfl, by rw [hR]; exact Nat.le_of_ble_eq_true rfl⟩ hI hN hK hS (rc_15 hI hG0 List.not_mem_nil) rfl rfl hl.1 rfl (Nat.le_of_ble_eq_true rfl) dX11_pump_49 ⟨Nat.zero_le _, Nat.zero_le _⟩ (fun r62 H locs hp hI hS => ?_)
            have hp := hp.symm
            subst hp
            have hpost : (((-1) : Int32) = -1 ∧ ¬ (rg x2 0 23 ∧ rg x3 0 23 ∧ x2.toInt ≤ x3.toInt ∧ rg x4 0 23 ∧ rg x5 0 23 ∧ rg x6 0 6)) ∨ (((-1) : Int32) = -2 ∧ (rg x2 0 23 ∧ rg x3 0 23 ∧ x2.toInt ≤ x3.toInt ∧ rg x4 0 23 ∧ rg x5 0 23 ∧ rg x6 0 6) ∧ ¬ rg x1 0 1) ∨ (((-1) : Int32) = 0 ∧ (rg x2 0 23 ∧ rg x3 0 23 ∧ x2.toInt ≤ x3.toInt ∧ rg x4 0 23 ∧ rg x5 0 23 ∧ rg x6 0 6) ∧ rg x1 0 1) := by first | exact Or.inl ⟨rfl, by simp only [rg]; omega⟩ | exact Or.inr (Or.inl ⟨rfl, by simp only [rg]; omega⟩) | exact Or.inr (Or.inr ⟨rfl, by simp only [rg]; omega⟩)
            rw [hQ]
            exact W.iret (v := (-1)) hx hb hr (fun t ht hW => ⟨⟨(-1), (), rfl, hpost, by rw [ht]; exact hI, hN.warm hW, va_K.moved hW.alike hK⟩, hS.F ht⟩) hS.2.2 dX11_pump_52
        · skip
          try simp only [rg, not_and, Int.not_le] at hp
          have hp63 := hp
          refine lv_if_eq (tgt := 47) hx hb dX11_pump_24 (by decide) (fun _ => ?_) (fun c => absurd c (by decide))
          refine lv_aload_n hx hb dX11_pump_47 rfl (lv_at hl 0 rfl) ?_
          refine lv_iconst (v := (-1)) hx hb dX11_pump_48 (by decide) ?_
          refine th_cVi (As := [.int (-1)]) (rest := []) (n := 1) (d := 0) ⟨hx, hb, hml, hown, hts⟩ (c_X11_refuse l E D G h0 (n) hG0 (-1)) wd_407 wd_409 wp_0 wd_1 wd_410 (by decide +kernel) ⟨by rw [hR]; exact Nat.le_of_ble_eq_true rfl, by rw [hR]; exact Nat.le_of_ble_eq_true rfl⟩ hI hN hK hS (rc_15 hI hG0 List.not_mem_nil) rfl rfl hl.1 rfl (Nat.le_of_ble_eq_true rfl) dX11_pump_49 ⟨Nat.zero_le _, Nat.zero_le _⟩ (fun r64 H locs hp hI hS => ?_)
          have hp := hp.symm
          subst hp
          have hpost : (((-1) : Int32) = -1 ∧ ¬ (rg x2 0 23 ∧ rg x3 0 23 ∧ x2.toInt ≤ x3.toInt ∧ rg x4 0 23 ∧ rg x5 0 23 ∧ rg x6 0 6)) ∨ (((-1) : Int32) = -2 ∧ (rg x2 0 23 ∧ rg x3 0 23 ∧ x2.toInt ≤ x3.toInt ∧ rg x4 0 23 ∧ rg x5 0 23 ∧ rg x6 0 6) ∧ ¬ rg x1 0 1) ∨ (((-1) : Int32) = 0 ∧ (rg x2 0 23 ∧ rg x3 0 23 ∧ x2.toInt ≤ x3.toInt ∧ rg x4 0 23 ∧ rg x5 0 23 ∧ rg x6 0 6) ∧ rg x1 0 1) := by first | exact Or.inl ⟨rfl, by simp only [rg]; omega⟩ | exact Or.inr (Or.inl ⟨rfl, by simp only [rg]; omega⟩) | exact Or.inr (Or.inr ⟨rfl, by simp only [rg]; omega⟩)
          rw [hQ]
          exact W.iret (v := (-1)) hx hb hr (fun t ht hW => ⟨⟨(-1), (), rfl, hpost, by rw [ht]; exact hI, hN.warm hW, va_K.moved hW.alike hK⟩, hS.F ht⟩) hS.2.2 dX11_pump_52
    · skip
      try simp only [rg, not_and, Int.not_le] at hp
      have hp65 := hp
      refine lv_if_eq (tgt := 47) hx hb dX11_pump_11 (by decide) (fun _ => ?_) (fun c => absurd c (by decide))
      refine lv_aload_n hx hb dX11_pump_47 rfl (lv_at hl 0 rfl) ?_
      refine lv_iconst (v := (-1)) hx hb dX11_pump_48 (by decide) ?_
      refine th_cVi (As := [.int (-1)]) (rest := []) (n := 1) (d := 0) ⟨hx, hb, hml, hown, hts⟩ (c_X11_refuse l E D G h0 (n) hG0 (-1)) wd_407 wd_409 wp_0 wd_1 wd_410 (by decide +kernel) ⟨by rw [hR]; exact Nat.le_of_ble_eq_true rfl, by rw [hR]; exact Nat.le_of_ble_eq_true rfl⟩ hI hN hK hS (rc_15 hI hG0 List.not_mem_nil) rfl rfl hl.1 rfl (Nat.le_of_ble_eq_true rfl) dX11_pump_49 ⟨Nat.zero_le _, Nat.zero_le _⟩ (fun r66 H locs hp hI hS => ?_)
      have hp := hp.symm
      subst hp
      have hpost : (((-1) : Int32) = -1 ∧ ¬ (rg x2 0 23 ∧ rg x3 0 23 ∧ x2.toInt ≤ x3.toInt ∧ rg x4 0 23 ∧ rg x5 0 23 ∧ rg x6 0 6)) ∨ (((-1) : Int32) = -2 ∧ (rg x2 0 23 ∧ rg x3 0 23 ∧ x2.toInt ≤ x3.toInt ∧ rg x4 0 23 ∧ rg x5 0 23 ∧ rg x6 0 6) ∧ ¬ rg x1 0 1) ∨ (((-1) : Int32) = 0 ∧ (rg x2 0 23 ∧ rg x3 0 23 ∧ x2.toInt ≤ x3.toInt ∧ rg x4 0 23 ∧ rg x5 0 23 ∧ rg x6 0 6) ∧ rg x1 0 1) := by first | exact Or.inl ⟨rfl, by simp only [rg]; omega⟩ | exact Or.inr (Or.inl ⟨rfl, by simp only [rg]; omega⟩) | exact Or.inr (Or.inr ⟨rfl, by simp only [rg]; omega⟩)
      rw [hQ]
      exact W.iret (v := (-1)) hx hb hr (fun t ht hW => ⟨⟨(-1), (), rfl, hpost, by rw [ht]; exact hI, hN.warm hW, va_K.moved hW.alike hK⟩, hS.F ht⟩) hS.2.2 dX11_pump_52
  · skip
    try simp only [rg, not_and, Int.not_le] at hp
    have hp67 := hp
    refine lv_if_eq (tgt := 47) hx hb dX11_pump_4 (by decide) (fun _ => ?_) (fun c => absurd c (by decide))
    refine lv_aload_n hx hb dX11_pump_47 rfl (lv_at hl 0 rfl) ?_
    refine lv_iconst (v := (-1)) hx hb dX11_pump_48 (by decide) ?_
    refine th_cVi (As := [.int (-1)]) (rest := []) (n := 1) (d := 0) ⟨hx, hb, hml, hown, hts⟩ (c_X11_refuse l E D G h0 (n) hG0 (-1)) wd_407 wd_409 wp_0 wd_1 wd_410 (by decide +kernel) ⟨by rw [hR]; exact Nat.le_of_ble_eq_true rfl, by rw [hR]; exact Nat.le_of_ble_eq_true rfl⟩ hI hN hK hS (rc_15 hI hG0 List.not_mem_nil) rfl rfl hl.1 rfl (Nat.le_of_ble_eq_true rfl) dX11_pump_49 ⟨Nat.zero_le _, Nat.zero_le _⟩ (fun r68 H locs hp hI hS => ?_)
    have hp := hp.symm
    subst hp
    have hpost : (((-1) : Int32) = -1 ∧ ¬ (rg x2 0 23 ∧ rg x3 0 23 ∧ x2.toInt ≤ x3.toInt ∧ rg x4 0 23 ∧ rg x5 0 23 ∧ rg x6 0 6)) ∨ (((-1) : Int32) = -2 ∧ (rg x2 0 23 ∧ rg x3 0 23 ∧ x2.toInt ≤ x3.toInt ∧ rg x4 0 23 ∧ rg x5 0 23 ∧ rg x6 0 6) ∧ ¬ rg x1 0 1) ∨ (((-1) : Int32) = 0 ∧ (rg x2 0 23 ∧ rg x3 0 23 ∧ x2.toInt ≤ x3.toInt ∧ rg x4 0 23 ∧ rg x5 0 23 ∧ rg x6 0 6) ∧ rg x1 0 1) := by first | exact Or.inl ⟨rfl, by simp only [rg]; omega⟩ | exact Or.inr (Or.inl ⟨rfl, by simp only [rg]; omega⟩) | exact Or.inr (Or.inr ⟨rfl, by simp only [rg]; omega⟩)
    rw [hQ]
    exact W.iret (v := (-1)) hx hb hr (fun t ht hW => ⟨⟨(-1), (), rfl, hpost, by rw [ht]; exact hI, hN.warm hW, va_K.moved hW.alike hK⟩, hS.F ht⟩) hS.2.2 dX11_pump_52
theorem dX11_strike_0 : decode cX11_strike 0 = .ok (.iload_n 1, 1) := by decide +kernel
theorem dX11_strike_1 : decode cX11_strike 1 = .ok (.iload_n 2, 1) := by decide +kernel
theorem dX11_strike_2 : decode cX11_strike 2 = .ok (.invokestatic 134, 3) := by decide +kernel
theorem dX11_strike_5 : decode cX11_strike 5 = .ok (.ifCond .eq 10, 3) := by decide +kernel
theorem dX11_strike_8 : decode cX11_strike 8 = .ok (.iload_n 3, 1) := by decide +kernel
theorem dX11_strike_9 : decode cX11_strike 9 = .ok (.invokestatic 138, 3) := by decide +kernel
theorem dX11_strike_12 : decode cX11_strike 12 = .ok (.ifCond .ne 9, 3) := by decide +kernel
theorem dX11_strike_15 : decode cX11_strike 15 = .ok (.aload_n 0, 1) := by decide +kernel
theorem dX11_strike_16 : decode cX11_strike 16 = .ok (.iconst (-1), 1) := by decide +kernel
theorem dX11_strike_17 : decode cX11_strike 17 = .ok (.invokevirtual 113, 3) := by decide +kernel
theorem dX11_strike_20 : decode cX11_strike 20 = .ok (.ireturn, 1) := by decide +kernel
theorem dX11_strike_21 : decode cX11_strike 21 = .ok (.aload_n 0, 1) := by decide +kernel
theorem dX11_strike_22 : decode cX11_strike 22 = .ok (.getfield 12, 3) := by decide +kernel
theorem dX11_strike_25 : decode cX11_strike 25 = .ok (.iload_n 1, 1) := by decide +kernel
theorem dX11_strike_26 : decode cX11_strike 26 = .ok (.iload_n 2, 1) := by decide +kernel
theorem dX11_strike_27 : decode cX11_strike 27 = .ok (.iload_n 3, 1) := by decide +kernel
theorem dX11_strike_28 : decode cX11_strike 28 = .ok (.invokevirtual 141, 3) := by decide +kernel
theorem dX11_strike_31 : decode cX11_strike 31 = .ok (.istore 4, 2) := by decide +kernel
theorem dX11_strike_33 : decode cX11_strike 33 = .ok (.iload 4, 2) := by decide +kernel
theorem dX11_strike_35 : decode cX11_strike 35 = .ok (.ifCond .le 7, 3) := by decide +kernel
theorem dX11_strike_38 : decode cX11_strike 38 = .ok (.aload_n 0, 1) := by decide +kernel
theorem dX11_strike_39 : decode cX11_strike 39 = .ok (.invokevirtual 124, 3) := by decide +kernel
theorem dX11_strike_42 : decode cX11_strike 42 = .ok (.aload_n 0, 1) := by decide +kernel
theorem dX11_strike_43 : decode cX11_strike 43 = .ok (.iload 4, 2) := by decide +kernel
theorem dX11_strike_45 : decode cX11_strike 45 = .ok (.invokevirtual 127, 3) := by decide +kernel
theorem dX11_strike_48 : decode cX11_strike 48 = .ok (.ireturn, 1) := by decide +kernel
set_option maxHeartbeats 4000000 in
set_option maxRecDepth 100000 in
theorem c_X11_strike (l : Launch) (E : Nat → ClassId) (D : va_G) (G : th_G) (h0 n : Nat) (hG0 : G h0 = some (15, n)) (x1 x2 x3 : Int32) : Met l yX11_strike (tb (.code yX11_strike cX11_strike 5 (some .int))) (rm 3) (va_Pc [.ref h0, .int x1, .int x2, .int x3] (th_P E D G)) (QI E D G (fun r => True)) 0 0 (th_A G) := by
  refine Met.ofW (cc := cX11_strike) (maxL := 5) (ret := (some .int)) (by decide) rfl ?_
  intro p e s m args below meth c s₁ B hml hv
  obtain ⟨hav, hI, hN, hK⟩ := hv
  have hx := B.exec
  have hb := B.bytes
  have hr := B.returns
  have hts := atoms_spec (ws := tb (.code yX11_strike cX11_strike 5 (some .int))) B.pre
  have hown : s.vm.findClass RX11 = some m.cls := findClass_of_methodNamed B.named
  have hlocks := B.notSynchronized
  have hS : va_S (th_A G) s.heap s.heap [] := va_S.rf
  have hl := lv_entry ([.ref h0, .int x1, .int x2, .int x3]) (n := 5) (Nat.le_of_ble_eq_true rfl)
  rw [show entryFrame m args 5 = entryFrame m ([.ref h0, .int x1, .int x2, .int x3] : List Value).toArray 5 from by rw [hav], lg_entry_eq]
  generalize (lg_sl ([.ref h0, .int x1, .int x2, .int x3]) ++ List.replicate (5 - (lg_sl ([.ref h0, .int x1, .int x2, .int x3])).length) Slot.unset).toArray = ls at hl ⊢
  have hl : lv_has ls 5 [(0, .ref h0), (1, .int x1), (2, .int x2), (3, .int x3)] := hl
  generalize hR : (headSpec (tb (.code yX11_strike cX11_strike 5 (some .int))) (rm 3)).room = R
  have hR := hR.symm
  generalize hQ : MQ below (QI E D G (fun r => True)) args s 0 0 (th_A G) = QF
  have hQ := hQ.symm
  have J_15 : ∀ (H : Heap) (locs : List Loc) (ls : Array Slot) , lv_has ls 5 [(0, .ref h0), (1, .int x1), (2, .int x2), (3, .int x3)] → th_I (okC E) D G [] H → va_S (th_A G) s.heap H locs → W p l e R s m args below meth c H locs 0 0 QF (F0 m 15 ls []) := by
    intro H locs ls  hl  hI hS
    refine lv_aload_n hx hb dX11_strike_15 rfl (lv_at hl 0 rfl) ?_
    refine lv_iconst (v := (-1)) hx hb dX11_strike_16 (by decide) ?_
    refine th_cVi (As := [.int (-1)]) (rest := []) (n := 1) (d := 0) ⟨hx, hb, hml, hown, hts⟩ (c_X11_refuse l E D G h0 (n) hG0 (-1)) wd_407 wd_409 wp_0 wd_1 wd_410 (by decide +kernel) ⟨by rw [hR]; exact Nat.le_of_ble_eq_true rfl, by rw [hR]; exact Nat.le_of_ble_eq_true rfl⟩ hI hN hK hS (rc_15 hI hG0 List.not_mem_nil) rfl rfl hl.1 rfl (Nat.le_of_ble_eq_true rfl) dX11_strike_17 ⟨Nat.zero_le _, Nat.zero_le _⟩ (fun r376 H locs hp hI hS => ?_)
    have hp := hp.symm
    subst hp
    have hpost : True := trivial
    rw [hQ]
    exact W.iret (v := (-1)) hx hb hr (fun t ht hW => ⟨⟨(-1), (), rfl, hpost, by rw [ht]; exact hI, hN.warm hW, va_K.moved hW.alike hK⟩, hS.F ht⟩) hS.2.2 dX11_strike_20
  refine lv_iload_n hx hb dX11_strike_0 rfl (lv_at hl 1 rfl) ?_
  refine lv_iload_n hx hb dX11_strike_1 rfl (lv_at hl 2 rfl) ?_
  refine th_cSs (As := [.int x1, .int x2]) (rest := []) (n := 2) (d := 1) ⟨hx, hb, hml, hown, hts⟩ (c_X11_isSpan l s.heap x1 x2) wd_463 wd_464 wd_1 wd_465 (by decide +kernel) ⟨by rw [hR]; exact Nat.le_of_ble_eq_true rfl, by rw [hR]; exact Nat.le_of_ble_eq_true rfl⟩ hN hS rfl hl.1 rfl (Nat.le_of_ble_eq_true rfl) dX11_strike_2 ⟨Nat.zero_le _, Nat.zero_le _⟩ (fun r377 locs hp hS => ?_)
  rcases hp with ⟨rfl, hp⟩ | ⟨rfl, hp⟩
  · skip
    try simp only [rg, not_and, Int.not_le] at hp
    have hp378 := hp
    refine lv_if_eq (tgt := 15) hx hb dX11_strike_5 (by decide) (fun c => absurd c (by decide)) (fun _ => ?_)
    refine lv_iload_n hx hb dX11_strike_8 rfl (lv_at hl 3 rfl) ?_
    refine th_cSs (As := [.int x3]) (rest := []) (n := 1) (d := 0) ⟨hx, hb, hml, hown, hts⟩ (c_X11_isFlag l s.heap x3) wd_469 wd_470 wd_1 wd_471 (by decide +kernel) ⟨by rw [hR]; exact Nat.le_of_ble_eq_true rfl, by rw [hR]; exact Nat.le_of_ble_eq_true rfl⟩ hN hS rfl hl.1 rfl (Nat.le_of_ble_eq_true rfl) dX11_strike_9 ⟨Nat.zero_le _, Nat.zero_le _⟩ (fun r379 locs hp hS => ?_)
    rcases hp with ⟨rfl, hp⟩ | ⟨rfl, hp⟩
    · skip
      try simp only [rg, not_and, Int.not_le] at hp
      have hp380 := hp
      refine lv_if_ne (tgt := 21) hx hb dX11_strike_12 (by decide) (fun _ => ?_) (fun c => absurd c (by decide))
      refine lv_aload_n hx hb dX11_strike_21 rfl (lv_at hl 0 rfl) ?_
      obtain ⟨a381, a385, a387, a389, a391, a393, a395, a397, a399, a401, a403, w405, w408, w409, w410, w411, hO, hq382, ⟨m384, hq383⟩, hq386, hq388, hq390, hq392, hq394, hq396, hq398, hq400, hq402, hq404, ⟨k406, k407⟩⟩ := op_15 hI hG0 List.not_mem_nil
      have hI := th_I.weak (a := h0) hI
      refine th_get hx hb hts inT11 hown hK hO rfl 0 (by decide) (hts _ (tb_c wd_345)) rfl rfl dX11_strike_22 ?_
      refine lv_iload_n hx hb dX11_strike_25 rfl (lv_at hl 1 rfl) ?_
      refine lv_iload_n hx hb dX11_strike_26 rfl (lv_at hl 2 rfl) ?_
      refine lv_iload_n hx hb dX11_strike_27 rfl (lv_at hl 3 rfl) ?_
      have hI := th_I.close hI hG0 hO (ok_15 hq382 ⟨_, hq383⟩ hq386 hq388 hq390 hq392 hq394 hq396 hq398 hq400 hq402 hq404 ⟨by omega, by omega⟩)
      refine th_cVi (As := [.int x1, .int x2, .int x3]) (rest := []) (n := 3) (d := 1) ⟨hx, hb, hml, hown, hts⟩ (c_X6_tellStrikes l E D G a381 hq382 x1 x2 x3) wd_472 wd_473 wd_474 wd_2 wd_475 (by decide +kernel) ⟨by rw [hR]; exact Nat.le_of_ble_eq_true rfl, by rw [hR]; exact Nat.le_of_ble_eq_true rfl⟩ hI hN hK hS (rc_6 hI hq382 List.not_mem_nil) rfl rfl hl.1 rfl (Nat.le_of_ble_eq_true rfl) dX11_strike_28 ⟨Nat.zero_le _, Nat.zero_le _⟩ (fun r412 H locs hp hI hS => ?_)
      refine lv_istore (lv' := [(4, .int r412), (0, .ref h0), (1, .int x1), (2, .int x2), (3, .int x3)]) hx hb dX11_strike_31 hl (by decide) rfl (fun ls hl => ?_)
      refine lv_iload hx hb dX11_strike_33 (lv_at hl 0 rfl) ?_
      have k413 := iv_lo r412
      have k414 := iv_hi r412
      refine lv_if_le (tgt := 42) hx hb dX11_strike_35 (by decide) (fun c415 => ?_) (fun c415 => ?_)
      · skip
        have k416 := iv_le (X := r412.toInt) (Y := (0)) rfl (by decide) c415
        refine lv_aload_n hx hb dX11_strike_42 rfl (lv_at hl 1 rfl) ?_
        refine lv_iload hx hb dX11_strike_43 (lv_at hl 0 rfl) ?_
        refine th_cVi (As := [.int r412]) (rest := []) (n := 1) (d := 0) ⟨hx, hb, hml, hown, hts⟩ (c_X11_accept l E D G h0 (n) hG0 r412) wd_447 wd_449 wp_3 wd_1 wd_450 (by decide +kernel) ⟨by rw [hR]; exact Nat.le_of_ble_eq_true rfl, by rw [hR]; exact Nat.le_of_ble_eq_true rfl⟩ hI hN hK hS (rc_15 hI hG0 List.not_mem_nil) rfl rfl hl.1 rfl (Nat.le_of_ble_eq_true rfl) dX11_strike_45 ⟨Nat.zero_le _, Nat.zero_le _⟩ (fun r417 H locs hp hI hS => ?_)
        have hp := hp.symm
        subst hp
        have hpost : True := trivial
        rw [hQ]
        exact W.iret (v := r412) hx hb hr (fun t ht hW => ⟨⟨r412, (), rfl, hpost, by rw [ht]; exact hI, hN.warm hW, va_K.moved hW.alike hK⟩, hS.F ht⟩) hS.2.2 dX11_strike_48
      · skip
        have k418 := iv_nle (X := r412.toInt) (Y := (0)) rfl (by decide) c415
        refine lv_aload_n hx hb dX11_strike_38 rfl (lv_at hl 1 rfl) ?_
        refine th_cVv (As := []) (rest := []) (n := 0) (d := 2) ⟨hx, hb, hml, hown, hts⟩ (c_X11_turnRiver l E D G h0 (n) hG0 ) wd_423 wd_425 wp_1 wd_1 wd_426 (by decide +kernel) ⟨by rw [hR]; exact Nat.le_of_ble_eq_true rfl, by rw [hR]; exact Nat.le_of_ble_eq_true rfl⟩ hI hN hK hS (rc_15 hI hG0 List.not_mem_nil) rfl rfl hl.1 rfl (Nat.le_of_ble_eq_true rfl) dX11_strike_39 ⟨Nat.zero_le _, Nat.zero_le _⟩ (fun H locs hI hS => ?_)
        refine lv_aload_n hx hb dX11_strike_42 rfl (lv_at hl 1 rfl) ?_
        refine lv_iload hx hb dX11_strike_43 (lv_at hl 0 rfl) ?_
        refine th_cVi (As := [.int r412]) (rest := []) (n := 1) (d := 0) ⟨hx, hb, hml, hown, hts⟩ (c_X11_accept l E D G h0 (n) hG0 r412) wd_447 wd_449 wp_3 wd_1 wd_450 (by decide +kernel) ⟨by rw [hR]; exact Nat.le_of_ble_eq_true rfl, by rw [hR]; exact Nat.le_of_ble_eq_true rfl⟩ hI hN hK hS (rc_15 hI hG0 List.not_mem_nil) rfl rfl hl.1 rfl (Nat.le_of_ble_eq_true rfl) dX11_strike_45 ⟨Nat.zero_le _, Nat.zero_le _⟩ (fun r420 H locs hp hI hS => ?_)
        have hp := hp.symm
        subst hp
        have hpost : True := trivial
        rw [hQ]
        exact W.iret (v := r412) hx hb hr (fun t ht hW => ⟨⟨r412, (), rfl, hpost, by rw [ht]; exact hI, hN.warm hW, va_K.moved hW.alike hK⟩, hS.F ht⟩) hS.2.2 dX11_strike_48
    · skip
      try simp only [rg, not_and, Int.not_le] at hp
      have hp421 := hp
      refine lv_if_ne (tgt := 21) hx hb dX11_strike_12 (by decide) (fun c => absurd c (by decide)) (fun _ => ?_)
      exact J_15 s.heap locs ls  (lv_sub hl [0, 1, 2, 3] rfl)  hI hS
  · skip
    try simp only [rg, not_and, Int.not_le] at hp
    have hp422 := hp
    refine lv_if_eq (tgt := 15) hx hb dX11_strike_5 (by decide) (fun _ => ?_) (fun c => absurd c (by decide))
    exact J_15 s.heap locs ls  (lv_sub hl [0, 1, 2, 3] rfl)  hI hS
theorem dX11_terms_0 : decode cX11_terms 0 = .ok (.iload_n 1, 1) := by decide +kernel
theorem dX11_terms_1 : decode cX11_terms 1 = .ok (.ifCond .ne 18, 3) := by decide +kernel
theorem dX11_terms_4 : decode cX11_terms 4 = .ok (.iload_n 2, 1) := by decide +kernel
theorem dX11_terms_5 : decode cX11_terms 5 = .ok (.bipush (-3), 2) := by decide +kernel
theorem dX11_terms_7 : decode cX11_terms 7 = .ok (.if_icmp .lt 12, 3) := by decide +kernel
theorem dX11_terms_10 : decode cX11_terms 10 = .ok (.iload_n 2, 1) := by decide +kernel
theorem dX11_terms_11 : decode cX11_terms 11 = .ok (.iconst 3, 1) := by decide +kernel
theorem dX11_terms_12 : decode cX11_terms 12 = .ok (.if_icmp .gt 7, 3) := by decide +kernel
theorem dX11_terms_15 : decode cX11_terms 15 = .ok (.iconst 1, 1) := by decide +kernel
theorem dX11_terms_16 : decode cX11_terms 16 = .ok (.goto 4, 3) := by decide +kernel
theorem dX11_terms_19 : decode cX11_terms 19 = .ok (.iconst 0, 1) := by decide +kernel
theorem dX11_terms_20 : decode cX11_terms 20 = .ok (.istore_n 3, 1) := by decide +kernel
theorem dX11_terms_21 : decode cX11_terms 21 = .ok (.iload_n 1, 1) := by decide +kernel
theorem dX11_terms_22 : decode cX11_terms 22 = .ok (.iconst 1, 1) := by decide +kernel
theorem dX11_terms_23 : decode cX11_terms 23 = .ok (.if_icmp .ne 17, 3) := by decide +kernel
theorem dX11_terms_26 : decode cX11_terms 26 = .ok (.iload_n 2, 1) := by decide +kernel
theorem dX11_terms_27 : decode cX11_terms 27 = .ok (.ifCond .lt 13, 3) := by decide +kernel
theorem dX11_terms_30 : decode cX11_terms 30 = .ok (.iload_n 2, 1) := by decide +kernel
theorem dX11_terms_31 : decode cX11_terms 31 = .ok (.bipush 99, 2) := by decide +kernel
theorem dX11_terms_33 : decode cX11_terms 33 = .ok (.if_icmp .gt 7, 3) := by decide +kernel
theorem dX11_terms_36 : decode cX11_terms 36 = .ok (.iconst 1, 1) := by decide +kernel
theorem dX11_terms_37 : decode cX11_terms 37 = .ok (.goto 4, 3) := by decide +kernel
theorem dX11_terms_40 : decode cX11_terms 40 = .ok (.iconst 0, 1) := by decide +kernel
theorem dX11_terms_41 : decode cX11_terms 41 = .ok (.istore 4, 2) := by decide +kernel
theorem dX11_terms_43 : decode cX11_terms 43 = .ok (.iload_n 3, 1) := by decide +kernel
theorem dX11_terms_44 : decode cX11_terms 44 = .ok (.ifCond .ne 18, 3) := by decide +kernel
theorem dX11_terms_47 : decode cX11_terms 47 = .ok (.iload 4, 2) := by decide +kernel
theorem dX11_terms_49 : decode cX11_terms 49 = .ok (.ifCond .ne 13, 3) := by decide +kernel
theorem dX11_terms_52 : decode cX11_terms 52 = .ok (.aload_n 0, 1) := by decide +kernel
theorem dX11_terms_53 : decode cX11_terms 53 = .ok (.iconst (-1), 1) := by decide +kernel
theorem dX11_terms_54 : decode cX11_terms 54 = .ok (.invokevirtual 113, 3) := by decide +kernel
theorem dX11_terms_57 : decode cX11_terms 57 = .ok (.pop, 1) := by decide +kernel
theorem dX11_terms_58 : decode cX11_terms 58 = .ok (.sipush (-1000), 3) := by decide +kernel
theorem dX11_terms_61 : decode cX11_terms 61 = .ok (.ireturn, 1) := by decide +kernel
theorem dX11_terms_62 : decode cX11_terms 62 = .ok (.iload_n 3, 1) := by decide +kernel
theorem dX11_terms_63 : decode cX11_terms 63 = .ok (.ifCond .eq 13, 3) := by decide +kernel
theorem dX11_terms_66 : decode cX11_terms 66 = .ok (.aload_n 0, 1) := by decide +kernel
theorem dX11_terms_67 : decode cX11_terms 67 = .ok (.getfield 12, 3) := by decide +kernel
theorem dX11_terms_70 : decode cX11_terms 70 = .ok (.getfield 179, 3) := by decide +kernel
theorem dX11_terms_73 : decode cX11_terms 73 = .ok (.goto 10, 3) := by decide +kernel
theorem dX11_terms_76 : decode cX11_terms 76 = .ok (.aload_n 0, 1) := by decide +kernel
theorem dX11_terms_77 : decode cX11_terms 77 = .ok (.getfield 12, 3) := by decide +kernel
theorem dX11_terms_80 : decode cX11_terms 80 = .ok (.getfield 182, 3) := by decide +kernel
theorem dX11_terms_83 : decode cX11_terms 83 = .ok (.istore 5, 2) := by decide +kernel
theorem dX11_terms_85 : decode cX11_terms 85 = .ok (.iload_n 3, 1) := by decide +kernel
theorem dX11_terms_86 : decode cX11_terms 86 = .ok (.ifCond .eq 14, 3) := by decide +kernel
theorem dX11_terms_89 : decode cX11_terms 89 = .ok (.aload_n 0, 1) := by decide +kernel
theorem dX11_terms_90 : decode cX11_terms 90 = .ok (.getfield 12, 3) := by decide +kernel
theorem dX11_terms_93 : decode cX11_terms 93 = .ok (.iload_n 2, 1) := by decide +kernel
theorem dX11_terms_94 : decode cX11_terms 94 = .ok (.putfield 179, 3) := by decide +kernel
theorem dX11_terms_97 : decode cX11_terms 97 = .ok (.goto 11, 3) := by decide +kernel
theorem dX11_terms_100 : decode cX11_terms 100 = .ok (.aload_n 0, 1) := by decide +kernel
theorem dX11_terms_101 : decode cX11_terms 101 = .ok (.getfield 12, 3) := by decide +kernel
theorem dX11_terms_104 : decode cX11_terms 104 = .ok (.iload_n 2, 1) := by decide +kernel
theorem dX11_terms_105 : decode cX11_terms 105 = .ok (.putfield 182, 3) := by decide +kernel
theorem dX11_terms_108 : decode cX11_terms 108 = .ok (.aload_n 0, 1) := by decide +kernel
theorem dX11_terms_109 : decode cX11_terms 109 = .ok (.invokevirtual 124, 3) := by decide +kernel
theorem dX11_terms_112 : decode cX11_terms 112 = .ok (.aload_n 0, 1) := by decide +kernel
theorem dX11_terms_113 : decode cX11_terms 113 = .ok (.iload 5, 2) := by decide +kernel
theorem dX11_terms_115 : decode cX11_terms 115 = .ok (.invokevirtual 127, 3) := by decide +kernel
theorem dX11_terms_118 : decode cX11_terms 118 = .ok (.ireturn, 1) := by decide +kernel
set_option maxHeartbeats 4000000 in
set_option maxRecDepth 100000 in
theorem c_X11_terms (l : Launch) (E : Nat → ClassId) (D : va_G) (G : th_G) (h0 n : Nat) (hG0 : G h0 = some (15, n)) (x1 x2 : Int32) : Met l yX11_terms (tb (.code yX11_terms cX11_terms 6 (some .int))) (rm 3) (va_Pc [.ref h0, .int x1, .int x2] (th_P E D G)) (QI E D G (fun r => True)) 0 0 (th_A G) := by
  refine Met.ofW (cc := cX11_terms) (maxL := 6) (ret := (some .int)) (by decide) rfl ?_
  intro p e s m args below meth c s₁ B hml hv
  obtain ⟨hav, hI, hN, hK⟩ := hv
  have hx := B.exec
  have hb := B.bytes
  have hr := B.returns
  have hts := atoms_spec (ws := tb (.code yX11_terms cX11_terms 6 (some .int))) B.pre
  have hown : s.vm.findClass RX11 = some m.cls := findClass_of_methodNamed B.named
  have hlocks := B.notSynchronized
  have hS : va_S (th_A G) s.heap s.heap [] := va_S.rf
  have hl := lv_entry ([.ref h0, .int x1, .int x2]) (n := 6) (Nat.le_of_ble_eq_true rfl)
  rw [show entryFrame m args 6 = entryFrame m ([.ref h0, .int x1, .int x2] : List Value).toArray 6 from by rw [hav], lg_entry_eq]
  generalize (lg_sl ([.ref h0, .int x1, .int x2]) ++ List.replicate (6 - (lg_sl ([.ref h0, .int x1, .int x2])).length) Slot.unset).toArray = ls at hl ⊢
  have hl : lv_has ls 6 [(0, .ref h0), (1, .int x1), (2, .int x2)] := hl
  generalize hR : (headSpec (tb (.code yX11_terms cX11_terms 6 (some .int))) (rm 3)).room = R
  have hR := hR.symm
  generalize hQ : MQ below (QI E D G (fun r => True)) args s 0 0 (th_A G) = QF
  have hQ := hQ.symm
  have J_83 : ∀ (H : Heap) (locs : List Loc) (ls : Array Slot) (v2490 : Int32) (v2491 : Int32) (v2492 : Int32), lv_has ls 6 [(4, .int v2490), (3, .int v2491), (0, .ref h0), (1, .int x1), (2, .int x2)] → ((0 : Int) ≤ v2490.toInt ∧ v2490.toInt ≤ 1) → ((0 : Int) ≤ v2491.toInt ∧ v2491.toInt ≤ 1) → th_I (okC E) D G [] H → va_S (th_A G) s.heap H locs → W p l e R s m args below meth c H locs 0 0 QF (F0 m 83 ls [.int v2492]) := by
    intro H locs ls v2490 v2491 v2492 hl k2493 k2494 hI hS
    refine lv_istore (lv' := [(5, .int v2492), (4, .int v2490), (3, .int v2491), (0, .ref h0), (1, .int x1), (2, .int x2)]) hx hb dX11_terms_83 hl (by decide) rfl (fun ls hl => ?_)
    refine lv_iload_n hx hb dX11_terms_85 rfl (lv_at hl 2 rfl) ?_
    refine lv_if_eq (tgt := 100) hx hb dX11_terms_86 (by decide) (fun c2495 => ?_) (fun c2495 => ?_)
    · skip
      have k2496 := iv_eq (X := v2491.toInt) (Y := (0)) rfl (by decide) c2495
      refine lv_aload_n hx hb dX11_terms_100 rfl (lv_at hl 3 rfl) ?_
      obtain ⟨a2497, a2501, a2503, a2505, a2507, a2509, a2511, a2513, a2515, a2517, a2519, w2521, w2524, w2525, w2526, w2527, hO, hq2498, ⟨m2500, hq2499⟩, hq2502, hq2504, hq2506, hq2508, hq2510, hq2512, hq2514, hq2516, hq2518, hq2520, ⟨k2522, k2523⟩⟩ := op_15 hI hG0 List.not_mem_nil
      have hI := th_I.weak (a := h0) hI
      refine th_get hx hb hts inT11 hown hK hO rfl 0 (by decide) (hts _ (tb_c wd_345)) rfl rfl dX11_terms_101 ?_
      refine lv_iload_n hx hb dX11_terms_104 rfl (lv_at hl 5 rfl) ?_
      have hI := th_I.close hI hG0 hO (ok_15 hq2498 ⟨_, hq2499⟩ hq2502 hq2504 hq2506 hq2508 hq2510 hq2512 hq2514 hq2516 hq2518 hq2520 ⟨by omega, by omega⟩)
      obtain ⟨a2528, a2530, a2532, a2534, a2536, a2538, a2540, a2542, a2544, a2546, w2548, w2551, w2552, w2553, hO, hq2529, hq2531, hq2533, hq2535, hq2537, hq2539, hq2541, hq2543, hq2545, hq2547, ⟨k2549, k2550⟩⟩ := op_6 hI hq2498 List.not_mem_nil
      have hI := th_I.weak (a := a2497) hI
      refine th_putN (ty := .int) hx hb hts inT6 tyX6 tyX6_ok nmX6 hown hK hN hO hS ⟨_, hq2498⟩ rfl 13 (by decide) wn_92 rfl rfl (by decide +kernel) rfl rfl (Nat.le_of_ble_eq_true rfl) dX11_terms_105 (fun H locs hO oq hS => ?_)
      have hI := th_I.moved hI oq
      have hO : va_at D vwCl (a2497, .inr (6, [.ref a2528, .ref a2530, .ref a2532, .ref a2534, .ref a2536, .ref a2538, .ref a2540, .ref a2542, .ref a2544, .ref a2546, .int w2548, .int w2551, .int w2552, .int x2])) H := hO
      refine lv_aload_n hx hb dX11_terms_108 rfl (lv_at hl 3 rfl) ?_
      have hI := th_I.close hI hq2498 hO (ok_6 hq2529 hq2531 hq2533 hq2535 hq2537 hq2539 hq2541 hq2543 hq2545 hq2547 ⟨by omega, by omega⟩)
      refine th_cVv (As := []) (rest := []) (n := 0) (d := 2) ⟨hx, hb, hml, hown, hts⟩ (c_X11_turnRiver l E D G h0 (n) hG0 ) wd_423 wd_425 wp_1 wd_1 wd_426 (by decide +kernel) ⟨by rw [hR]; exact Nat.le_of_ble_eq_true rfl, by rw [hR]; exact Nat.le_of_ble_eq_true rfl⟩ hI hN hK hS (rc_15 hI hG0 List.not_mem_nil) rfl rfl hl.1 rfl (Nat.le_of_ble_eq_true rfl) dX11_terms_109 ⟨Nat.zero_le _, Nat.zero_le _⟩ (fun H locs hI hS => ?_)
      refine lv_aload_n hx hb dX11_terms_112 rfl (lv_at hl 3 rfl) ?_
      refine lv_iload hx hb dX11_terms_113 (lv_at hl 0 rfl) ?_
      refine th_cVi (As := [.int v2492]) (rest := []) (n := 1) (d := 0) ⟨hx, hb, hml, hown, hts⟩ (c_X11_accept l E D G h0 (n) hG0 v2492) wd_447 wd_449 wp_3 wd_1 wd_450 (by decide +kernel) ⟨by rw [hR]; exact Nat.le_of_ble_eq_true rfl, by rw [hR]; exact Nat.le_of_ble_eq_true rfl⟩ hI hN hK hS (rc_15 hI hG0 List.not_mem_nil) rfl rfl hl.1 rfl (Nat.le_of_ble_eq_true rfl) dX11_terms_115 ⟨Nat.zero_le _, Nat.zero_le _⟩ (fun r2555 H locs hp hI hS => ?_)
      have hp := hp.symm
      subst hp
      have hpost : True := trivial
      rw [hQ]
      exact W.iret (v := v2492) hx hb hr (fun t ht hW => ⟨⟨v2492, (), rfl, hpost, by rw [ht]; exact hI, hN.warm hW, va_K.moved hW.alike hK⟩, hS.F ht⟩) hS.2.2 dX11_terms_118
    · skip
      have k2556 := iv_ne (X := v2491.toInt) (Y := (0)) rfl (by decide) c2495
      refine lv_aload_n hx hb dX11_terms_89 rfl (lv_at hl 3 rfl) ?_
      obtain ⟨a2557, a2561, a2563, a2565, a2567, a2569, a2571, a2573, a2575, a2577, a2579, w2581, w2584, w2585, w2586, w2587, hO, hq2558, ⟨m2560, hq2559⟩, hq2562, hq2564, hq2566, hq2568, hq2570, hq2572, hq2574, hq2576, hq2578, hq2580, ⟨k2582, k2583⟩⟩ := op_15 hI hG0 List.not_mem_nil
      have hI := th_I.weak (a := h0) hI
      refine th_get hx hb hts inT11 hown hK hO rfl 0 (by decide) (hts _ (tb_c wd_345)) rfl rfl dX11_terms_90 ?_
      refine lv_iload_n hx hb dX11_terms_93 rfl (lv_at hl 5 rfl) ?_
      have hI := th_I.close hI hG0 hO (ok_15 hq2558 ⟨_, hq2559⟩ hq2562 hq2564 hq2566 hq2568 hq2570 hq2572 hq2574 hq2576 hq2578 hq2580 ⟨by omega, by omega⟩)
      obtain ⟨a2588, a2590, a2592, a2594, a2596, a2598, a2600, a2602, a2604, a2606, w2608, w2611, w2612, w2613, hO, hq2589, hq2591, hq2593, hq2595, hq2597, hq2599, hq2601, hq2603, hq2605, hq2607, ⟨k2609, k2610⟩⟩ := op_6 hI hq2558 List.not_mem_nil
      have hI := th_I.weak (a := a2557) hI
      refine th_putN (ty := .int) hx hb hts inT6 tyX6 tyX6_ok nmX6 hown hK hN hO hS ⟨_, hq2558⟩ rfl 12 (by decide) wn_88 rfl rfl (by decide +kernel) rfl rfl (Nat.le_of_ble_eq_true rfl) dX11_terms_94 (fun H locs hO oq hS => ?_)
      have hI := th_I.moved hI oq
      have hO : va_at D vwCl (a2557, .inr (6, [.ref a2588, .ref a2590, .ref a2592, .ref a2594, .ref a2596, .ref a2598, .ref a2600, .ref a2602, .ref a2604, .ref a2606, .int w2608, .int w2611, .int x2, .int w2613])) H := hO
      refine lv_goto (tgt := 108) hx hb dX11_terms_97 (by decide) ?_
      refine lv_aload_n hx hb dX11_terms_108 rfl (lv_at hl 3 rfl) ?_
      have hI := th_I.close hI hq2558 hO (ok_6 hq2589 hq2591 hq2593 hq2595 hq2597 hq2599 hq2601 hq2603 hq2605 hq2607 ⟨by omega, by omega⟩)
      refine th_cVv (As := []) (rest := []) (n := 0) (d := 2) ⟨hx, hb, hml, hown, hts⟩ (c_X11_turnRiver l E D G h0 (n) hG0 ) wd_423 wd_425 wp_1 wd_1 wd_426 (by decide +kernel) ⟨by rw [hR]; exact Nat.le_of_ble_eq_true rfl, by rw [hR]; exact Nat.le_of_ble_eq_true rfl⟩ hI hN hK hS (rc_15 hI hG0 List.not_mem_nil) rfl rfl hl.1 rfl (Nat.le_of_ble_eq_true rfl) dX11_terms_109 ⟨Nat.zero_le _, Nat.zero_le _⟩ (fun H locs hI hS => ?_)
      refine lv_aload_n hx hb dX11_terms_112 rfl (lv_at hl 3 rfl) ?_
      refine lv_iload hx hb dX11_terms_113 (lv_at hl 0 rfl) ?_
      refine th_cVi (As := [.int v2492]) (rest := []) (n := 1) (d := 0) ⟨hx, hb, hml, hown, hts⟩ (c_X11_accept l E D G h0 (n) hG0 v2492) wd_447 wd_449 wp_3 wd_1 wd_450 (by decide +kernel) ⟨by rw [hR]; exact Nat.le_of_ble_eq_true rfl, by rw [hR]; exact Nat.le_of_ble_eq_true rfl⟩ hI hN hK hS (rc_15 hI hG0 List.not_mem_nil) rfl rfl hl.1 rfl (Nat.le_of_ble_eq_true rfl) dX11_terms_115 ⟨Nat.zero_le _, Nat.zero_le _⟩ (fun r2615 H locs hp hI hS => ?_)
      have hp := hp.symm
      subst hp
      have hpost : True := trivial
      rw [hQ]
      exact W.iret (v := v2492) hx hb hr (fun t ht hW => ⟨⟨v2492, (), rfl, hpost, by rw [ht]; exact hI, hN.warm hW, va_K.moved hW.alike hK⟩, hS.F ht⟩) hS.2.2 dX11_terms_118
  have J_62 : ∀ (H : Heap) (locs : List Loc) (ls : Array Slot) (v2616 : Int32) (v2617 : Int32), lv_has ls 6 [(4, .int v2616), (3, .int v2617), (0, .ref h0), (1, .int x1), (2, .int x2)] → ((0 : Int) ≤ v2616.toInt ∧ v2616.toInt ≤ 1) → ((0 : Int) ≤ v2617.toInt ∧ v2617.toInt ≤ 1) → th_I (okC E) D G [] H → va_S (th_A G) s.heap H locs → W p l e R s m args below meth c H locs 0 0 QF (F0 m 62 ls []) := by
    intro H locs ls v2616 v2617 hl k2618 k2619 hI hS
    refine lv_iload_n hx hb dX11_terms_62 rfl (lv_at hl 1 rfl) ?_
    refine lv_if_eq (tgt := 76) hx hb dX11_terms_63 (by decide) (fun c2620 => ?_) (fun c2620 => ?_)
    · skip
      have k2621 := iv_eq (X := v2617.toInt) (Y := (0)) rfl (by decide) c2620
      refine lv_aload_n hx hb dX11_terms_76 rfl (lv_at hl 2 rfl) ?_
      obtain ⟨a2622, a2626, a2628, a2630, a2632, a2634, a2636, a2638, a2640, a2642, a2644, w2646, w2649, w2650, w2651, w2652, hO, hq2623, ⟨m2625, hq2624⟩, hq2627, hq2629, hq2631, hq2633, hq2635, hq2637, hq2639, hq2641, hq2643, hq2645, ⟨k2647, k2648⟩⟩ := op_15 hI hG0 List.not_mem_nil
      have hI := th_I.weak (a := h0) hI
      refine th_get hx hb hts inT11 hown hK hO rfl 0 (by decide) (hts _ (tb_c wd_345)) rfl rfl dX11_terms_77 ?_
      have hI := th_I.close hI hG0 hO (ok_15 hq2623 ⟨_, hq2624⟩ hq2627 hq2629 hq2631 hq2633 hq2635 hq2637 hq2639 hq2641 hq2643 hq2645 ⟨by omega, by omega⟩)
      obtain ⟨a2653, a2655, a2657, a2659, a2661, a2663, a2665, a2667, a2669, a2671, w2673, w2676, w2677, w2678, hO, hq2654, hq2656, hq2658, hq2660, hq2662, hq2664, hq2666, hq2668, hq2670, hq2672, ⟨k2674, k2675⟩⟩ := op_6 hI hq2623 List.not_mem_nil
      have hI := th_I.weak (a := a2622) hI
      refine th_getN hx hb hts inT6 hown hK hN hO rfl 13 (by decide) wn_92 rfl rfl dX11_terms_80 ?_
      have hI := th_I.close hI hq2623 hO (ok_6 hq2654 hq2656 hq2658 hq2660 hq2662 hq2664 hq2666 hq2668 hq2670 hq2672 ⟨by omega, by omega⟩)
      exact J_83 H locs ls v2616 v2617 w2678 (lv_sub hl [0, 1, 2, 3, 4] rfl) ⟨by omega, by omega⟩ ⟨by omega, by omega⟩ hI hS
    · skip
      have k2679 := iv_ne (X := v2617.toInt) (Y := (0)) rfl (by decide) c2620
      refine lv_aload_n hx hb dX11_terms_66 rfl (lv_at hl 2 rfl) ?_
      obtain ⟨a2680, a2684, a2686, a2688, a2690, a2692, a2694, a2696, a2698, a2700, a2702, w2704, w2707, w2708, w2709, w2710, hO, hq2681, ⟨m2683, hq2682⟩, hq2685, hq2687, hq2689, hq2691, hq2693, hq2695, hq2697, hq2699, hq2701, hq2703, ⟨k2705, k2706⟩⟩ := op_15 hI hG0 List.not_mem_nil
      have hI := th_I.weak (a := h0) hI
      refine th_get hx hb hts inT11 hown hK hO rfl 0 (by decide) (hts _ (tb_c wd_345)) rfl rfl dX11_terms_67 ?_
      have hI := th_I.close hI hG0 hO (ok_15 hq2681 ⟨_, hq2682⟩ hq2685 hq2687 hq2689 hq2691 hq2693 hq2695 hq2697 hq2699 hq2701 hq2703 ⟨by omega, by omega⟩)
      obtain ⟨a2711, a2713, a2715, a2717, a2719, a2721, a2723, a2725, a2727, a2729, w2731, w2734, w2735, w2736, hO, hq2712, hq2714, hq2716, hq2718, hq2720, hq2722, hq2724, hq2726, hq2728, hq2730, ⟨k2732, k2733⟩⟩ := op_6 hI hq2681 List.not_mem_nil
      have hI := th_I.weak (a := a2680) hI
      refine th_getN hx hb hts inT6 hown hK hN hO rfl 12 (by decide) wn_88 rfl rfl dX11_terms_70 ?_
      refine lv_goto (tgt := 83) hx hb dX11_terms_73 (by decide) ?_
      have hI := th_I.close hI hq2681 hO (ok_6 hq2712 hq2714 hq2716 hq2718 hq2720 hq2722 hq2724 hq2726 hq2728 hq2730 ⟨by omega, by omega⟩)
      exact J_83 H locs ls v2616 v2617 w2735 (lv_sub hl [0, 1, 2, 3, 4] rfl) ⟨by omega, by omega⟩ ⟨by omega, by omega⟩ hI hS
  have J_41 : ∀ (H : Heap) (locs : List Loc) (ls : Array Slot) (v2737 : Int32) (v2738 : Int32), lv_has ls 6 [(3, .int v2737), (0, .ref h0), (1, .int x1), (2, .int x2)] → ((0 : Int) ≤ v2737.toInt ∧ v2737.toInt ≤ 1) → ((0 : Int) ≤ v2738.toInt ∧ v2738.toInt ≤ 1) → th_I (okC E) D G [] H → va_S (th_A G) s.heap H locs → W p l e R s m args below meth c H locs 0 0 QF (F0 m 41 ls [.int v2738]) := by
    intro H locs ls v2737 v2738 hl k2739 k2740 hI hS
    refine lv_istore (lv' := [(4, .int v2738), (3, .int v2737), (0, .ref h0), (1, .int x1), (2, .int x2)]) hx hb dX11_terms_41 hl (by decide) rfl (fun ls hl => ?_)
    refine lv_iload_n hx hb dX11_terms_43 rfl (lv_at hl 1 rfl) ?_
    refine lv_if_ne (tgt := 62) hx hb dX11_terms_44 (by decide) (fun c2741 => ?_) (fun c2741 => ?_)
    · skip
      have k2742 := iv_ne (X := v2737.toInt) (Y := (0)) rfl (by decide) c2741
      exact J_62 H locs ls v2738 v2737 (lv_sub hl [0, 1, 2, 3, 4] rfl) ⟨by omega, by omega⟩ ⟨by omega, by omega⟩ hI hS
    · skip
      have k2743 := iv_eq (X := v2737.toInt) (Y := (0)) rfl (by decide) c2741
      refine lv_iload hx hb dX11_terms_47 (lv_at hl 0 rfl) ?_
      refine lv_if_ne (tgt := 62) hx hb dX11_terms_49 (by decide) (fun c2744 => ?_) (fun c2744 => ?_)
      · skip
        have k2745 := iv_ne (X := v2738.toInt) (Y := (0)) rfl (by decide) c2744
        exact J_62 H locs ls v2738 v2737 (lv_sub hl [0, 1, 2, 3, 4] rfl) ⟨by omega, by omega⟩ ⟨by omega, by omega⟩ hI hS
      · skip
        have k2746 := iv_eq (X := v2738.toInt) (Y := (0)) rfl (by decide) c2744
        refine lv_aload_n hx hb dX11_terms_52 rfl (lv_at hl 2 rfl) ?_
        refine lv_iconst (v := (-1)) hx hb dX11_terms_53 (by decide) ?_
        refine th_cVi (As := [.int (-1)]) (rest := []) (n := 1) (d := 0) ⟨hx, hb, hml, hown, hts⟩ (c_X11_refuse l E D G h0 (n) hG0 (-1)) wd_407 wd_409 wp_0 wd_1 wd_410 (by decide +kernel) ⟨by rw [hR]; exact Nat.le_of_ble_eq_true rfl, by rw [hR]; exact Nat.le_of_ble_eq_true rfl⟩ hI hN hK hS (rc_15 hI hG0 List.not_mem_nil) rfl rfl hl.1 rfl (Nat.le_of_ble_eq_true rfl) dX11_terms_54 ⟨Nat.zero_le _, Nat.zero_le _⟩ (fun r2747 H locs hp hI hS => ?_)
        have hp := hp.symm
        subst hp
        refine lv_pop hx hb dX11_terms_57 rfl ?_
        refine lv_sipush (v := (-1000)) hx hb dX11_terms_58 (by decide) ?_
        have hpost : True := trivial
        rw [hQ]
        exact W.iret (v := (-1000)) hx hb hr (fun t ht hW => ⟨⟨(-1000), (), rfl, hpost, by rw [ht]; exact hI, hN.warm hW, va_K.moved hW.alike hK⟩, hS.F ht⟩) hS.2.2 dX11_terms_61
  have J_40 : ∀ (H : Heap) (locs : List Loc) (ls : Array Slot) (v2748 : Int32), lv_has ls 6 [(3, .int v2748), (0, .ref h0), (1, .int x1), (2, .int x2)] → ((0 : Int) ≤ v2748.toInt ∧ v2748.toInt ≤ 1) → th_I (okC E) D G [] H → va_S (th_A G) s.heap H locs → W p l e R s m args below meth c H locs 0 0 QF (F0 m 40 ls []) := by
    intro H locs ls v2748 hl k2749 hI hS
    refine lv_iconst (v := 0) hx hb dX11_terms_40 (by decide) ?_
    exact J_41 H locs ls v2748 0 (lv_sub hl [0, 1, 2, 3] rfl) ⟨by omega, by omega⟩ ⟨by decide, by decide⟩ hI hS
  have J_20 : ∀ (H : Heap) (locs : List Loc) (ls : Array Slot) (v2750 : Int32), lv_has ls 6 [(0, .ref h0), (1, .int x1), (2, .int x2)] → ((0 : Int) ≤ v2750.toInt ∧ v2750.toInt ≤ 1) → th_I (okC E) D G [] H → va_S (th_A G) s.heap H locs → W p l e R s m args below meth c H locs 0 0 QF (F0 m 20 ls [.int v2750]) := by
    intro H locs ls v2750 hl k2751 hI hS
    refine lv_istore_n (lv' := [(3, .int v2750), (0, .ref h0), (1, .int x1), (2, .int x2)]) hx hb dX11_terms_20 rfl hl (by decide) rfl (fun ls hl => ?_)
    refine lv_iload_n hx hb dX11_terms_21 rfl (lv_at hl 2 rfl) ?_
    refine lv_iconst (v := 1) hx hb dX11_terms_22 (by decide) ?_
    have k2752 := iv_lo x1
    have k2753 := iv_hi x1
    refine lv_icmp_ne (tgt := 40) hx hb dX11_terms_23 (by decide) (fun c2754 => ?_) (fun c2754 => ?_)
    · skip
      have k2755 := iv_ne (X := x1.toInt) (Y := (1)) rfl (by decide) c2754
      exact J_40 H locs ls v2750 (lv_sub hl [0, 1, 2, 3] rfl) ⟨by omega, by omega⟩ hI hS
    · skip
      have k2756 := iv_eq (X := x1.toInt) (Y := (1)) rfl (by decide) c2754
      refine lv_iload_n hx hb dX11_terms_26 rfl (lv_at hl 3 rfl) ?_
      have k2757 := iv_lo x2
      have k2758 := iv_hi x2
      refine lv_if_lt (tgt := 40) hx hb dX11_terms_27 (by decide) (fun c2759 => ?_) (fun c2759 => ?_)
      · skip
        have k2760 := iv_lt (X := x2.toInt) (Y := (0)) rfl (by decide) c2759
        exact J_40 H locs ls v2750 (lv_sub hl [0, 1, 2, 3] rfl) ⟨by omega, by omega⟩ hI hS
      · skip
        have k2761 := iv_nlt (X := x2.toInt) (Y := (0)) rfl (by decide) c2759
        refine lv_iload_n hx hb dX11_terms_30 rfl (lv_at hl 3 rfl) ?_
        refine lv_bipush (v := 99) hx hb dX11_terms_31 (by decide) ?_
        refine lv_icmp_gt (tgt := 40) hx hb dX11_terms_33 (by decide) (fun c2762 => ?_) (fun c2762 => ?_)
        · skip
          have k2763 := iv_lt (X := (99)) (Y := x2.toInt) (by decide) rfl c2762
          exact J_40 H locs ls v2750 (lv_sub hl [0, 1, 2, 3] rfl) ⟨by omega, by omega⟩ hI hS
        · skip
          have k2764 := iv_nlt (X := (99)) (Y := x2.toInt) (by decide) rfl c2762
          refine lv_iconst (v := 1) hx hb dX11_terms_36 (by decide) ?_
          refine lv_goto (tgt := 41) hx hb dX11_terms_37 (by decide) ?_
          exact J_41 H locs ls v2750 1 (lv_sub hl [0, 1, 2, 3] rfl) ⟨by omega, by omega⟩ ⟨by decide, by decide⟩ hI hS
  have J_19 : ∀ (H : Heap) (locs : List Loc) (ls : Array Slot) , lv_has ls 6 [(0, .ref h0), (1, .int x1), (2, .int x2)] → th_I (okC E) D G [] H → va_S (th_A G) s.heap H locs → W p l e R s m args below meth c H locs 0 0 QF (F0 m 19 ls []) := by
    intro H locs ls  hl  hI hS
    refine lv_iconst (v := 0) hx hb dX11_terms_19 (by decide) ?_
    exact J_20 H locs ls 0 (lv_sub hl [0, 1, 2] rfl) ⟨by decide, by decide⟩ hI hS
  refine lv_iload_n hx hb dX11_terms_0 rfl (lv_at hl 1 rfl) ?_
  have k2765 := iv_lo x1
  have k2766 := iv_hi x1
  refine lv_if_ne (tgt := 19) hx hb dX11_terms_1 (by decide) (fun c2767 => ?_) (fun c2767 => ?_)
  · skip
    have k2768 := iv_ne (X := x1.toInt) (Y := (0)) rfl (by decide) c2767
    exact J_19 s.heap [] ls  (lv_sub hl [0, 1, 2] rfl)  hI hS
  · skip
    have k2769 := iv_eq (X := x1.toInt) (Y := (0)) rfl (by decide) c2767
    refine lv_iload_n hx hb dX11_terms_4 rfl (lv_at hl 2 rfl) ?_
    refine lv_bipush (v := (-3)) hx hb dX11_terms_5 (by decide) ?_
    have k2770 := iv_lo x2
    have k2771 := iv_hi x2
    refine lv_icmp_lt (tgt := 19) hx hb dX11_terms_7 (by decide) (fun c2772 => ?_) (fun c2772 => ?_)
    · skip
      have k2773 := iv_lt (X := x2.toInt) (Y := (-3)) rfl (by decide) c2772
      exact J_19 s.heap [] ls  (lv_sub hl [0, 1, 2] rfl)  hI hS
    · skip
      have k2774 := iv_nlt (X := x2.toInt) (Y := (-3)) rfl (by decide) c2772
      refine lv_iload_n hx hb dX11_terms_10 rfl (lv_at hl 2 rfl) ?_
      refine lv_iconst (v := 3) hx hb dX11_terms_11 (by decide) ?_
      refine lv_icmp_gt (tgt := 19) hx hb dX11_terms_12 (by decide) (fun c2775 => ?_) (fun c2775 => ?_)
      · skip
        have k2776 := iv_lt (X := (3)) (Y := x2.toInt) (by decide) rfl c2775
        exact J_19 s.heap [] ls  (lv_sub hl [0, 1, 2] rfl)  hI hS
      · skip
        have k2777 := iv_nlt (X := (3)) (Y := x2.toInt) (by decide) rfl c2775
        refine lv_iconst (v := 1) hx hb dX11_terms_15 (by decide) ?_
        refine lv_goto (tgt := 20) hx hb dX11_terms_16 (by decide) ?_
        exact J_20 s.heap [] ls 1 (lv_sub hl [0, 1, 2] rfl) ⟨by decide, by decide⟩ hI hS
theorem dX11_feed_0 : decode cX11_feed 0 = .ok (.aload_n 0, 1) := by decide +kernel
theorem dX11_feed_1 : decode cX11_feed 1 = .ok (.getfield 89, 3) := by decide +kernel
theorem dX11_feed_4 : decode cX11_feed 4 = .ok (.bipush 20, 2) := by decide +kernel
theorem dX11_feed_6 : decode cX11_feed 6 = .ok (.iadd, 1) := by decide +kernel
theorem dX11_feed_7 : decode cX11_feed 7 = .ok (.sipush 400, 3) := by decide +kernel
theorem dX11_feed_10 : decode cX11_feed 10 = .ok (.if_icmp .le 5, 3) := by decide +kernel
theorem dX11_feed_13 : decode cX11_feed 13 = .ok (.iconst (-1), 1) := by decide +kernel
theorem dX11_feed_14 : decode cX11_feed 14 = .ok (.ireturn, 1) := by decide +kernel
theorem dX11_feed_15 : decode cX11_feed 15 = .ok (.aload_n 0, 1) := by decide +kernel
theorem dX11_feed_16 : decode cX11_feed 16 = .ok (.iload_n 1, 1) := by decide +kernel
theorem dX11_feed_17 : decode cX11_feed 17 = .ok (.invokevirtual 185, 3) := by decide +kernel
theorem dX11_feed_20 : decode cX11_feed 20 = .ok (.aload_n 0, 1) := by decide +kernel
theorem dX11_feed_21 : decode cX11_feed 21 = .ok (.iload_n 2, 1) := by decide +kernel
theorem dX11_feed_22 : decode cX11_feed 22 = .ok (.invokevirtual 185, 3) := by decide +kernel
theorem dX11_feed_25 : decode cX11_feed 25 = .ok (.aload_n 0, 1) := by decide +kernel
theorem dX11_feed_26 : decode cX11_feed 26 = .ok (.iload_n 3, 1) := by decide +kernel
theorem dX11_feed_27 : decode cX11_feed 27 = .ok (.invokevirtual 185, 3) := by decide +kernel
theorem dX11_feed_30 : decode cX11_feed 30 = .ok (.aload_n 0, 1) := by decide +kernel
theorem dX11_feed_31 : decode cX11_feed 31 = .ok (.iload 4, 2) := by decide +kernel
theorem dX11_feed_33 : decode cX11_feed 33 = .ok (.invokevirtual 185, 3) := by decide +kernel
theorem dX11_feed_36 : decode cX11_feed 36 = .ok (.aload_n 0, 1) := by decide +kernel
theorem dX11_feed_37 : decode cX11_feed 37 = .ok (.iload 5, 2) := by decide +kernel
theorem dX11_feed_39 : decode cX11_feed 39 = .ok (.invokevirtual 185, 3) := by decide +kernel
theorem dX11_feed_42 : decode cX11_feed 42 = .ok (.aload_n 0, 1) := by decide +kernel
theorem dX11_feed_43 : decode cX11_feed 43 = .ok (.getfield 89, 3) := by decide +kernel
theorem dX11_feed_46 : decode cX11_feed 46 = .ok (.ireturn, 1) := by decide +kernel
set_option maxHeartbeats 4000000 in
set_option maxRecDepth 100000 in
theorem c_X11_feed (l : Launch) (E : Nat → ClassId) (D : va_G) (G : th_G) (h0 n : Nat) (hG0 : G h0 = some (15, n)) (x1 x2 x3 x4 x5 : Int32) : Met l yX11_feed (tb (.code yX11_feed cX11_feed 6 (some .int))) (rm 1) (va_Pc [.ref h0, .int x1, .int x2, .int x3, .int x4, .int x5] (th_P E D G)) (QI E D G (fun r => True)) 0 0 (th_A G) := by
  refine Met.ofW (cc := cX11_feed) (maxL := 6) (ret := (some .int)) (by decide) rfl ?_
  intro p e s m args below meth c s₁ B hml hv
  obtain ⟨hav, hI, hN, hK⟩ := hv
  have hx := B.exec
  have hb := B.bytes
  have hr := B.returns
  have hts := atoms_spec (ws := tb (.code yX11_feed cX11_feed 6 (some .int))) B.pre
  have hown : s.vm.findClass RX11 = some m.cls := findClass_of_methodNamed B.named
  have hlocks := B.notSynchronized
  have hS : va_S (th_A G) s.heap s.heap [] := va_S.rf
  have hl := lv_entry ([.ref h0, .int x1, .int x2, .int x3, .int x4, .int x5]) (n := 6) (Nat.le_of_ble_eq_true rfl)
  rw [show entryFrame m args 6 = entryFrame m ([.ref h0, .int x1, .int x2, .int x3, .int x4, .int x5] : List Value).toArray 6 from by rw [hav], lg_entry_eq]
  generalize (lg_sl ([.ref h0, .int x1, .int x2, .int x3, .int x4, .int x5]) ++ List.replicate (6 - (lg_sl ([.ref h0, .int x1, .int x2, .int x3, .int x4, .int x5])).length) Slot.unset).toArray = ls at hl ⊢
  have hl : lv_has ls 6 [(0, .ref h0), (1, .int x1), (2, .int x2), (3, .int x3), (4, .int x4), (5, .int x5)] := hl
  generalize hR : (headSpec (tb (.code yX11_feed cX11_feed 6 (some .int))) (rm 1)).room = R
  have hR := hR.symm
  generalize hQ : MQ below (QI E D G (fun r => True)) args s 0 0 (th_A G) = QF
  have hQ := hQ.symm
  refine lv_aload_n hx hb dX11_feed_0 rfl (lv_at hl 0 rfl) ?_
  obtain ⟨a1, a5, a7, a9, a11, a13, a15, a17, a19, a21, a23, w25, w28, w29, w30, w31, hO, hq2, ⟨m4, hq3⟩, hq6, hq8, hq10, hq12, hq14, hq16, hq18, hq20, hq22, hq24, ⟨k26, k27⟩⟩ := op_15 hI hG0 List.not_mem_nil
  have hI := th_I.weak (a := h0) hI
  refine th_get hx hb hts inT11 hown hK hO rfl 12 (by decide) (hts _ (tb_c wd_357)) rfl rfl dX11_feed_1 ?_
  refine lv_bipush (v := 20) hx hb dX11_feed_4 (by decide) ?_
  refine lv_iadd hx hb dX11_feed_6 ?_
  refine lv_topi (fun v32 e33 => ?_)
  have tv32 : v32.toInt = w25.toInt + (20) := iv_add rfl (by decide) e33 (by omega) (by omega)
  refine lv_sipush (v := 400) hx hb dX11_feed_7 (by decide) ?_
  refine lv_icmp_le (tgt := 15) hx hb dX11_feed_10 (by decide) (fun c34 => ?_) (fun c34 => ?_)
  · skip
    have k35 := iv_le (X := v32.toInt) (Y := (400)) rfl (by decide) c34
    refine lv_aload_n hx hb dX11_feed_15 rfl (lv_at hl 0 rfl) ?_
    refine lv_iload_n hx hb dX11_feed_16 rfl (lv_at hl 1 rfl) ?_
    have hI := th_I.close hI hG0 hO (ok_15 hq2 ⟨_, hq3⟩ hq6 hq8 hq10 hq12 hq14 hq16 hq18 hq20 hq22 hq24 ⟨by omega, by omega⟩)
    refine th_cVv (As := [.int x1]) (rest := []) (n := 1) (d := 0) ⟨hx, hb, hml, hown, hts⟩ (c_X11_write l E D G h0 (n) hG0 x1) wd_601 wd_603 wp_8 wd_1 wd_604 (by decide +kernel) ⟨by rw [hR]; exact Nat.le_of_ble_eq_true rfl, by rw [hR]; exact Nat.le_of_ble_eq_true rfl⟩ hI hN hK hS (rc_15 hI hG0 List.not_mem_nil) rfl rfl hl.1 rfl (Nat.le_of_ble_eq_true rfl) dX11_feed_17 ⟨Nat.zero_le _, Nat.zero_le _⟩ (fun H locs hI hS => ?_)
    refine lv_aload_n hx hb dX11_feed_20 rfl (lv_at hl 0 rfl) ?_
    refine lv_iload_n hx hb dX11_feed_21 rfl (lv_at hl 2 rfl) ?_
    refine th_cVv (As := [.int x2]) (rest := []) (n := 1) (d := 0) ⟨hx, hb, hml, hown, hts⟩ (c_X11_write l E D G h0 (n) hG0 x2) wd_601 wd_603 wp_8 wd_1 wd_604 (by decide +kernel) ⟨by rw [hR]; exact Nat.le_of_ble_eq_true rfl, by rw [hR]; exact Nat.le_of_ble_eq_true rfl⟩ hI hN hK hS (rc_15 hI hG0 List.not_mem_nil) rfl rfl hl.1 rfl (Nat.le_of_ble_eq_true rfl) dX11_feed_22 ⟨Nat.zero_le _, Nat.zero_le _⟩ (fun H locs hI hS => ?_)
    refine lv_aload_n hx hb dX11_feed_25 rfl (lv_at hl 0 rfl) ?_
    refine lv_iload_n hx hb dX11_feed_26 rfl (lv_at hl 3 rfl) ?_
    refine th_cVv (As := [.int x3]) (rest := []) (n := 1) (d := 0) ⟨hx, hb, hml, hown, hts⟩ (c_X11_write l E D G h0 (n) hG0 x3) wd_601 wd_603 wp_8 wd_1 wd_604 (by decide +kernel) ⟨by rw [hR]; exact Nat.le_of_ble_eq_true rfl, by rw [hR]; exact Nat.le_of_ble_eq_true rfl⟩ hI hN hK hS (rc_15 hI hG0 List.not_mem_nil) rfl rfl hl.1 rfl (Nat.le_of_ble_eq_true rfl) dX11_feed_27 ⟨Nat.zero_le _, Nat.zero_le _⟩ (fun H locs hI hS => ?_)
    refine lv_aload_n hx hb dX11_feed_30 rfl (lv_at hl 0 rfl) ?_
    refine lv_iload hx hb dX11_feed_31 (lv_at hl 4 rfl) ?_
    refine th_cVv (As := [.int x4]) (rest := []) (n := 1) (d := 0) ⟨hx, hb, hml, hown, hts⟩ (c_X11_write l E D G h0 (n) hG0 x4) wd_601 wd_603 wp_8 wd_1 wd_604 (by decide +kernel) ⟨by rw [hR]; exact Nat.le_of_ble_eq_true rfl, by rw [hR]; exact Nat.le_of_ble_eq_true rfl⟩ hI hN hK hS (rc_15 hI hG0 List.not_mem_nil) rfl rfl hl.1 rfl (Nat.le_of_ble_eq_true rfl) dX11_feed_33 ⟨Nat.zero_le _, Nat.zero_le _⟩ (fun H locs hI hS => ?_)
    refine lv_aload_n hx hb dX11_feed_36 rfl (lv_at hl 0 rfl) ?_
    refine lv_iload hx hb dX11_feed_37 (lv_at hl 5 rfl) ?_
    refine th_cVv (As := [.int x5]) (rest := []) (n := 1) (d := 0) ⟨hx, hb, hml, hown, hts⟩ (c_X11_write l E D G h0 (n) hG0 x5) wd_601 wd_603 wp_8 wd_1 wd_604 (by decide +kernel) ⟨by rw [hR]; exact Nat.le_of_ble_eq_true rfl, by rw [hR]; exact Nat.le_of_ble_eq_true rfl⟩ hI hN hK hS (rc_15 hI hG0 List.not_mem_nil) rfl rfl hl.1 rfl (Nat.le_of_ble_eq_true rfl) dX11_feed_39 ⟨Nat.zero_le _, Nat.zero_le _⟩ (fun H locs hI hS => ?_)
    refine lv_aload_n hx hb dX11_feed_42 rfl (lv_at hl 0 rfl) ?_
    obtain ⟨a41, a45, a47, a49, a51, a53, a55, a57, a59, a61, a63, w65, w68, w69, w70, w71, hO, hq42, ⟨m44, hq43⟩, hq46, hq48, hq50, hq52, hq54, hq56, hq58, hq60, hq62, hq64, ⟨k66, k67⟩⟩ := op_15 hI hG0 List.not_mem_nil
    have hI := th_I.weak (a := h0) hI
    refine th_get hx hb hts inT11 hown hK hO rfl 12 (by decide) (hts _ (tb_c wd_357)) rfl rfl dX11_feed_43 ?_
    have hI := th_I.close hI hG0 hO (ok_15 hq42 ⟨_, hq43⟩ hq46 hq48 hq50 hq52 hq54 hq56 hq58 hq60 hq62 hq64 ⟨by omega, by omega⟩)
    have hpost : True := trivial
    rw [hQ]
    exact W.iret (v := w65) hx hb hr (fun t ht hW => ⟨⟨w65, (), rfl, hpost, by rw [ht]; exact hI, hN.warm hW, va_K.moved hW.alike hK⟩, hS.F ht⟩) hS.2.2 dX11_feed_46
  · skip
    have k72 := iv_nle (X := v32.toInt) (Y := (400)) rfl (by decide) c34
    refine lv_iconst (v := (-1)) hx hb dX11_feed_13 (by decide) ?_
    have hI := th_I.close hI hG0 hO (ok_15 hq2 ⟨_, hq3⟩ hq6 hq8 hq10 hq12 hq14 hq16 hq18 hq20 hq22 hq24 ⟨by omega, by omega⟩)
    have hpost : True := trivial
    rw [hQ]
    exact W.iret (v := (-1)) hx hb hr (fun t ht hW => ⟨⟨(-1), (), rfl, hpost, by rw [ht]; exact hI, hN.warm hW, va_K.moved hW.alike hK⟩, hS.F ht⟩) hS.2.2 dX11_feed_14
theorem dX11_foam_0 : decode cX11_foam 0 = .ok (.aload_n 0, 1) := by decide +kernel
theorem dX11_foam_1 : decode cX11_foam 1 = .ok (.getfield 96, 3) := by decide +kernel
theorem dX11_foam_4 : decode cX11_foam 4 = .ok (.ireturn, 1) := by decide +kernel
set_option maxHeartbeats 4000000 in
set_option maxRecDepth 100000 in
theorem c_X11_foam (l : Launch) (E : Nat → ClassId) (D : va_G) (G : th_G) (h0 n : Nat) (hG0 : G h0 = some (15, n)) : Met l yX11_foam (tb (.code yX11_foam cX11_foam 1 (some .int))) (rm 0) (va_Pc [.ref h0] (th_P E D G)) (QI E D G (fun r => True)) 0 0 (th_A G) := by
  refine Met.ofW (cc := cX11_foam) (maxL := 1) (ret := (some .int)) (by decide) rfl ?_
  intro p e s m args below meth c s₁ B hml hv
  obtain ⟨hav, hI, hN, hK⟩ := hv
  have hx := B.exec
  have hb := B.bytes
  have hr := B.returns
  have hts := atoms_spec (ws := tb (.code yX11_foam cX11_foam 1 (some .int))) B.pre
  have hown : s.vm.findClass RX11 = some m.cls := findClass_of_methodNamed B.named
  have hlocks := B.notSynchronized
  have hS : va_S (th_A G) s.heap s.heap [] := va_S.rf
  have hl := lv_entry ([.ref h0]) (n := 1) (Nat.le_of_ble_eq_true rfl)
  rw [show entryFrame m args 1 = entryFrame m ([.ref h0] : List Value).toArray 1 from by rw [hav], lg_entry_eq]
  generalize (lg_sl ([.ref h0]) ++ List.replicate (1 - (lg_sl ([.ref h0])).length) Slot.unset).toArray = ls at hl ⊢
  have hl : lv_has ls 1 [(0, .ref h0)] := hl
  generalize hR : (headSpec (tb (.code yX11_foam cX11_foam 1 (some .int))) (rm 0)).room = R
  have hR := hR.symm
  generalize hQ : MQ below (QI E D G (fun r => True)) args s 0 0 (th_A G) = QF
  have hQ := hQ.symm
  refine lv_aload_n hx hb dX11_foam_0 rfl (lv_at hl 0 rfl) ?_
  obtain ⟨a1, a5, a7, a9, a11, a13, a15, a17, a19, a21, a23, w25, w28, w29, w30, w31, hO, hq2, ⟨m4, hq3⟩, hq6, hq8, hq10, hq12, hq14, hq16, hq18, hq20, hq22, hq24, ⟨k26, k27⟩⟩ := op_15 hI hG0 List.not_mem_nil
  have hI := th_I.weak (a := h0) hI
  refine th_get hx hb hts inT11 hown hK hO rfl 14 (by decide) (hts _ (tb_c wd_359)) rfl rfl dX11_foam_1 ?_
  have hI := th_I.close hI hG0 hO (ok_15 hq2 ⟨_, hq3⟩ hq6 hq8 hq10 hq12 hq14 hq16 hq18 hq20 hq22 hq24 ⟨by omega, by omega⟩)
  have hpost : True := trivial
  rw [hQ]
  exact W.iret (v := w29) hx hb hr (fun t ht hW => ⟨⟨w29, (), rfl, hpost, by rw [ht]; exact hI, hN.warm hW, va_K.moved hW.alike hK⟩, hS.F ht⟩) hS.2.2 dX11_foam_4
theorem dX11_fault_0 : decode cX11_fault 0 = .ok (.aload_n 0, 1) := by decide +kernel
theorem dX11_fault_1 : decode cX11_fault 1 = .ok (.getfield 93, 3) := by decide +kernel
theorem dX11_fault_4 : decode cX11_fault 4 = .ok (.ireturn, 1) := by decide +kernel
set_option maxHeartbeats 4000000 in
set_option maxRecDepth 100000 in
theorem c_X11_fault (l : Launch) (E : Nat → ClassId) (D : va_G) (G : th_G) (h0 n : Nat) (hG0 : G h0 = some (15, n)) : Met l yX11_fault (tb (.code yX11_fault cX11_fault 1 (some .int))) (rm 0) (va_Pc [.ref h0] (th_P E D G)) (QI E D G (fun r => True)) 0 0 (th_A G) := by
  refine Met.ofW (cc := cX11_fault) (maxL := 1) (ret := (some .int)) (by decide) rfl ?_
  intro p e s m args below meth c s₁ B hml hv
  obtain ⟨hav, hI, hN, hK⟩ := hv
  have hx := B.exec
  have hb := B.bytes
  have hr := B.returns
  have hts := atoms_spec (ws := tb (.code yX11_fault cX11_fault 1 (some .int))) B.pre
  have hown : s.vm.findClass RX11 = some m.cls := findClass_of_methodNamed B.named
  have hlocks := B.notSynchronized
  have hS : va_S (th_A G) s.heap s.heap [] := va_S.rf
  have hl := lv_entry ([.ref h0]) (n := 1) (Nat.le_of_ble_eq_true rfl)
  rw [show entryFrame m args 1 = entryFrame m ([.ref h0] : List Value).toArray 1 from by rw [hav], lg_entry_eq]
  generalize (lg_sl ([.ref h0]) ++ List.replicate (1 - (lg_sl ([.ref h0])).length) Slot.unset).toArray = ls at hl ⊢
  have hl : lv_has ls 1 [(0, .ref h0)] := hl
  generalize hR : (headSpec (tb (.code yX11_fault cX11_fault 1 (some .int))) (rm 0)).room = R
  have hR := hR.symm
  generalize hQ : MQ below (QI E D G (fun r => True)) args s 0 0 (th_A G) = QF
  have hQ := hQ.symm
  refine lv_aload_n hx hb dX11_fault_0 rfl (lv_at hl 0 rfl) ?_
  obtain ⟨a1, a5, a7, a9, a11, a13, a15, a17, a19, a21, a23, w25, w28, w29, w30, w31, hO, hq2, ⟨m4, hq3⟩, hq6, hq8, hq10, hq12, hq14, hq16, hq18, hq20, hq22, hq24, ⟨k26, k27⟩⟩ := op_15 hI hG0 List.not_mem_nil
  have hI := th_I.weak (a := h0) hI
  refine th_get hx hb hts inT11 hown hK hO rfl 13 (by decide) (hts _ (tb_c wd_358)) rfl rfl dX11_fault_1 ?_
  have hI := th_I.close hI hG0 hO (ok_15 hq2 ⟨_, hq3⟩ hq6 hq8 hq10 hq12 hq14 hq16 hq18 hq20 hq22 hq24 ⟨by omega, by omega⟩)
  have hpost : True := trivial
  rw [hQ]
  exact W.iret (v := w28) hx hb hr (fun t ht hW => ⟨⟨w28, (), rfl, hpost, by rw [ht]; exact hI, hN.warm hW, va_K.moved hW.alike hK⟩, hS.F ht⟩) hS.2.2 dX11_fault_4
theorem dX11_status_0 : decode cX11_status 0 = .ok (.aload_n 0, 1) := by decide +kernel
theorem dX11_status_1 : decode cX11_status 1 = .ok (.getfield 99, 3) := by decide +kernel
theorem dX11_status_4 : decode cX11_status 4 = .ok (.ireturn, 1) := by decide +kernel
set_option maxHeartbeats 4000000 in
set_option maxRecDepth 100000 in
theorem c_X11_status (l : Launch) (E : Nat → ClassId) (D : va_G) (G : th_G) (h0 n : Nat) (hG0 : G h0 = some (15, n)) : Met l yX11_status (tb (.code yX11_status cX11_status 1 (some .int))) (rm 0) (va_Pc [.ref h0] (th_P E D G)) (QI E D G (fun r => True)) 0 0 (th_A G) := by
  refine Met.ofW (cc := cX11_status) (maxL := 1) (ret := (some .int)) (by decide) rfl ?_
  intro p e s m args below meth c s₁ B hml hv
  obtain ⟨hav, hI, hN, hK⟩ := hv
  have hx := B.exec
  have hb := B.bytes
  have hr := B.returns
  have hts := atoms_spec (ws := tb (.code yX11_status cX11_status 1 (some .int))) B.pre
  have hown : s.vm.findClass RX11 = some m.cls := findClass_of_methodNamed B.named
  have hlocks := B.notSynchronized
  have hS : va_S (th_A G) s.heap s.heap [] := va_S.rf
  have hl := lv_entry ([.ref h0]) (n := 1) (Nat.le_of_ble_eq_true rfl)
  rw [show entryFrame m args 1 = entryFrame m ([.ref h0] : List Value).toArray 1 from by rw [hav], lg_entry_eq]
  generalize (lg_sl ([.ref h0]) ++ List.replicate (1 - (lg_sl ([.ref h0])).length) Slot.unset).toArray = ls at hl ⊢
  have hl : lv_has ls 1 [(0, .ref h0)] := hl
  generalize hR : (headSpec (tb (.code yX11_status cX11_status 1 (some .int))) (rm 0)).room = R
  have hR := hR.symm
  generalize hQ : MQ below (QI E D G (fun r => True)) args s 0 0 (th_A G) = QF
  have hQ := hQ.symm
  refine lv_aload_n hx hb dX11_status_0 rfl (lv_at hl 0 rfl) ?_
  obtain ⟨a1, a5, a7, a9, a11, a13, a15, a17, a19, a21, a23, w25, w28, w29, w30, w31, hO, hq2, ⟨m4, hq3⟩, hq6, hq8, hq10, hq12, hq14, hq16, hq18, hq20, hq22, hq24, ⟨k26, k27⟩⟩ := op_15 hI hG0 List.not_mem_nil
  have hI := th_I.weak (a := h0) hI
  refine th_get hx hb hts inT11 hown hK hO rfl 15 (by decide) (hts _ (tb_c wd_360)) rfl rfl dX11_status_1 ?_
  have hI := th_I.close hI hG0 hO (ok_15 hq2 ⟨_, hq3⟩ hq6 hq8 hq10 hq12 hq14 hq16 hq18 hq20 hq22 hq24 ⟨by omega, by omega⟩)
  have hpost : True := trivial
  rw [hQ]
  exact W.iret (v := w30) hx hb hr (fun t ht hW => ⟨⟨w30, (), rfl, hpost, by rw [ht]; exact hI, hN.warm hW, va_K.moved hW.alike hK⟩, hS.F ht⟩) hS.2.2 dX11_status_4
theorem dX11_force_0 : decode cX11_force 0 = .ok (.iload_n 1, 1) := by decide +kernel
theorem dX11_force_1 : decode cX11_force 1 = .ok (.iconst (-1), 1) := by decide +kernel
theorem dX11_force_2 : decode cX11_force 2 = .ok (.if_icmp .lt 14, 3) := by decide +kernel
theorem dX11_force_5 : decode cX11_force 5 = .ok (.iload_n 1, 1) := by decide +kernel
theorem dX11_force_6 : decode cX11_force 6 = .ok (.aload_n 0, 1) := by decide +kernel
theorem dX11_force_7 : decode cX11_force 7 = .ok (.getfield 12, 3) := by decide +kernel
theorem dX11_force_10 : decode cX11_force 10 = .ok (.getfield 194, 3) := by decide +kernel
theorem dX11_force_13 : decode cX11_force 13 = .ok (.if_icmp .lt 10, 3) := by decide +kernel
theorem dX11_force_16 : decode cX11_force 16 = .ok (.aload_n 0, 1) := by decide +kernel
theorem dX11_force_17 : decode cX11_force 17 = .ok (.bipush (-2), 2) := by decide +kernel
theorem dX11_force_19 : decode cX11_force 19 = .ok (.invokevirtual 113, 3) := by decide +kernel
theorem dX11_force_22 : decode cX11_force 22 = .ok (.ireturn, 1) := by decide +kernel
theorem dX11_force_23 : decode cX11_force 23 = .ok (.aload_n 0, 1) := by decide +kernel
theorem dX11_force_24 : decode cX11_force 24 = .ok (.getfield 12, 3) := by decide +kernel
theorem dX11_force_27 : decode cX11_force 27 = .ok (.getfield 208, 3) := by decide +kernel
theorem dX11_force_30 : decode cX11_force 30 = .ok (.istore_n 2, 1) := by decide +kernel
theorem dX11_force_31 : decode cX11_force 31 = .ok (.aload_n 0, 1) := by decide +kernel
theorem dX11_force_32 : decode cX11_force 32 = .ok (.getfield 12, 3) := by decide +kernel
theorem dX11_force_35 : decode cX11_force 35 = .ok (.iload_n 1, 1) := by decide +kernel
theorem dX11_force_36 : decode cX11_force 36 = .ok (.putfield 208, 3) := by decide +kernel
theorem dX11_force_39 : decode cX11_force 39 = .ok (.aload_n 0, 1) := by decide +kernel
theorem dX11_force_40 : decode cX11_force 40 = .ok (.invokevirtual 124, 3) := by decide +kernel
theorem dX11_force_43 : decode cX11_force 43 = .ok (.aload_n 0, 1) := by decide +kernel
theorem dX11_force_44 : decode cX11_force 44 = .ok (.iload_n 2, 1) := by decide +kernel
theorem dX11_force_45 : decode cX11_force 45 = .ok (.invokevirtual 127, 3) := by decide +kernel
theorem dX11_force_48 : decode cX11_force 48 = .ok (.ireturn, 1) := by decide +kernel
set_option maxHeartbeats 4000000 in
set_option maxRecDepth 100000 in
theorem c_X11_force (l : Launch) (E : Nat → ClassId) (D : va_G) (G : th_G) (h0 n : Nat) (hG0 : G h0 = some (15, n)) (x1 : Int32) : Met l yX11_force (tb (.code yX11_force cX11_force 3 (some .int))) (rm 3) (va_Pc [.ref h0, .int x1] (th_P E D G)) (QI E D G (fun r => True)) 0 0 (th_A G) := by
  refine Met.ofW (cc := cX11_force) (maxL := 3) (ret := (some .int)) (by decide) rfl ?_
  intro p e s m args below meth c s₁ B hml hv
  obtain ⟨hav, hI, hN, hK⟩ := hv
  have hx := B.exec
  have hb := B.bytes
  have hr := B.returns
  have hts := atoms_spec (ws := tb (.code yX11_force cX11_force 3 (some .int))) B.pre
  have hown : s.vm.findClass RX11 = some m.cls := findClass_of_methodNamed B.named
  have hlocks := B.notSynchronized
  have hS : va_S (th_A G) s.heap s.heap [] := va_S.rf
  have hl := lv_entry ([.ref h0, .int x1]) (n := 3) (Nat.le_of_ble_eq_true rfl)
  rw [show entryFrame m args 3 = entryFrame m ([.ref h0, .int x1] : List Value).toArray 3 from by rw [hav], lg_entry_eq]
  generalize (lg_sl ([.ref h0, .int x1]) ++ List.replicate (3 - (lg_sl ([.ref h0, .int x1])).length) Slot.unset).toArray = ls at hl ⊢
  have hl : lv_has ls 3 [(0, .ref h0), (1, .int x1)] := hl
  generalize hR : (headSpec (tb (.code yX11_force cX11_force 3 (some .int))) (rm 3)).room = R
  have hR := hR.symm
  generalize hQ : MQ below (QI E D G (fun r => True)) args s 0 0 (th_A G) = QF
  have hQ := hQ.symm
  have J_16 : ∀ (H : Heap) (locs : List Loc) (ls : Array Slot) , lv_has ls 3 [(0, .ref h0), (1, .int x1)] → th_I (okC E) D G [] H → va_S (th_A G) s.heap H locs → W p l e R s m args below meth c H locs 0 0 QF (F0 m 16 ls []) := by
    intro H locs ls  hl  hI hS
    refine lv_aload_n hx hb dX11_force_16 rfl (lv_at hl 0 rfl) ?_
    refine lv_bipush (v := (-2)) hx hb dX11_force_17 (by decide) ?_
    refine th_cVi (As := [.int (-2)]) (rest := []) (n := 1) (d := 0) ⟨hx, hb, hml, hown, hts⟩ (c_X11_refuse l E D G h0 (n) hG0 (-2)) wd_407 wd_409 wp_0 wd_1 wd_410 (by decide +kernel) ⟨by rw [hR]; exact Nat.le_of_ble_eq_true rfl, by rw [hR]; exact Nat.le_of_ble_eq_true rfl⟩ hI hN hK hS (rc_15 hI hG0 List.not_mem_nil) rfl rfl hl.1 rfl (Nat.le_of_ble_eq_true rfl) dX11_force_19 ⟨Nat.zero_le _, Nat.zero_le _⟩ (fun r1456 H locs hp hI hS => ?_)
    have hp := hp.symm
    subst hp
    have hpost : True := trivial
    rw [hQ]
    exact W.iret (v := (-2)) hx hb hr (fun t ht hW => ⟨⟨(-2), (), rfl, hpost, by rw [ht]; exact hI, hN.warm hW, va_K.moved hW.alike hK⟩, hS.F ht⟩) hS.2.2 dX11_force_22
  refine lv_iload_n hx hb dX11_force_0 rfl (lv_at hl 1 rfl) ?_
  refine lv_iconst (v := (-1)) hx hb dX11_force_1 (by decide) ?_
  have k1457 := iv_lo x1
  have k1458 := iv_hi x1
  refine lv_icmp_lt (tgt := 16) hx hb dX11_force_2 (by decide) (fun c1459 => ?_) (fun c1459 => ?_)
  · skip
    have k1460 := iv_lt (X := x1.toInt) (Y := (-1)) rfl (by decide) c1459
    exact J_16 s.heap [] ls  (lv_sub hl [0, 1] rfl)  hI hS
  · skip
    have k1461 := iv_nlt (X := x1.toInt) (Y := (-1)) rfl (by decide) c1459
    refine lv_iload_n hx hb dX11_force_5 rfl (lv_at hl 1 rfl) ?_
    refine lv_aload_n hx hb dX11_force_6 rfl (lv_at hl 0 rfl) ?_
    obtain ⟨a1462, a1466, a1468, a1470, a1472, a1474, a1476, a1478, a1480, a1482, a1484, w1486, w1489, w1490, w1491, w1492, hO, hq1463, ⟨m1465, hq1464⟩, hq1467, hq1469, hq1471, hq1473, hq1475, hq1477, hq1479, hq1481, hq1483, hq1485, ⟨k1487, k1488⟩⟩ := op_15 hI hG0 List.not_mem_nil
    have hI := th_I.weak (a := h0) hI
    refine th_get hx hb hts inT11 hown hK hO rfl 0 (by decide) (hts _ (tb_c wd_345)) rfl rfl dX11_force_7 ?_
    have hI := th_I.close hI hG0 hO (ok_15 hq1463 ⟨_, hq1464⟩ hq1467 hq1469 hq1471 hq1473 hq1475 hq1477 hq1479 hq1481 hq1483 hq1485 ⟨by omega, by omega⟩)
    obtain ⟨a1493, a1495, a1497, a1499, a1501, a1503, a1505, a1507, a1509, a1511, w1513, w1516, w1517, w1518, hO, hq1494, hq1496, hq1498, hq1500, hq1502, hq1504, hq1506, hq1508, hq1510, hq1512, ⟨k1514, k1515⟩⟩ := op_6 hI hq1463 List.not_mem_nil
    have hI := th_I.weak (a := a1462) hI
    refine th_getN hx hb hts inT6 hown hK hN hO rfl 10 (by decide) wn_83 rfl rfl dX11_force_10 ?_
    refine lv_icmp_lt (tgt := 23) hx hb dX11_force_13 (by decide) (fun c1519 => ?_) (fun c1519 => ?_)
    · skip
      have k1520 := iv_lt (X := x1.toInt) (Y := w1513.toInt) rfl rfl c1519
      refine lv_aload_n hx hb dX11_force_23 rfl (lv_at hl 0 rfl) ?_
      have hI := th_I.close hI hq1463 hO (ok_6 hq1494 hq1496 hq1498 hq1500 hq1502 hq1504 hq1506 hq1508 hq1510 hq1512 ⟨by omega, by omega⟩)
      obtain ⟨a1521, a1525, a1527, a1529, a1531, a1533, a1535, a1537, a1539, a1541, a1543, w1545, w1548, w1549, w1550, w1551, hO, hq1522, ⟨m1524, hq1523⟩, hq1526, hq1528, hq1530, hq1532, hq1534, hq1536, hq1538, hq1540, hq1542, hq1544, ⟨k1546, k1547⟩⟩ := op_15 hI hG0 List.not_mem_nil
      have hI := th_I.weak (a := h0) hI
      refine th_get hx hb hts inT11 hown hK hO rfl 0 (by decide) (hts _ (tb_c wd_345)) rfl rfl dX11_force_24 ?_
      have hI := th_I.close hI hG0 hO (ok_15 hq1522 ⟨_, hq1523⟩ hq1526 hq1528 hq1530 hq1532 hq1534 hq1536 hq1538 hq1540 hq1542 hq1544 ⟨by omega, by omega⟩)
      obtain ⟨a1552, a1554, a1556, a1558, a1560, a1562, a1564, a1566, a1568, a1570, w1572, w1575, w1576, w1577, hO, hq1553, hq1555, hq1557, hq1559, hq1561, hq1563, hq1565, hq1567, hq1569, hq1571, ⟨k1573, k1574⟩⟩ := op_6 hI hq1522 List.not_mem_nil
      have hI := th_I.weak (a := a1521) hI
      refine th_getN hx hb hts inT6 hown hK hN hO rfl 11 (by decide) wn_85 rfl rfl dX11_force_27 ?_
      refine lv_istore_n (lv' := [(2, .int w1575), (0, .ref h0), (1, .int x1)]) hx hb dX11_force_30 rfl hl (by decide) rfl (fun ls hl => ?_)
      refine lv_aload_n hx hb dX11_force_31 rfl (lv_at hl 1 rfl) ?_
      have hI := th_I.close hI hq1522 hO (ok_6 hq1553 hq1555 hq1557 hq1559 hq1561 hq1563 hq1565 hq1567 hq1569 hq1571 ⟨by omega, by omega⟩)
      obtain ⟨a1578, a1582, a1584, a1586, a1588, a1590, a1592, a1594, a1596, a1598, a1600, w1602, w1605, w1606, w1607, w1608, hO, hq1579, ⟨m1581, hq1580⟩, hq1583, hq1585, hq1587, hq1589, hq1591, hq1593, hq1595, hq1597, hq1599, hq1601, ⟨k1603, k1604⟩⟩ := op_15 hI hG0 List.not_mem_nil
      have hI := th_I.weak (a := h0) hI
      refine th_get hx hb hts inT11 hown hK hO rfl 0 (by decide) (hts _ (tb_c wd_345)) rfl rfl dX11_force_32 ?_
      refine lv_iload_n hx hb dX11_force_35 rfl (lv_at hl 2 rfl) ?_
      have hI := th_I.close hI hG0 hO (ok_15 hq1579 ⟨_, hq1580⟩ hq1583 hq1585 hq1587 hq1589 hq1591 hq1593 hq1595 hq1597 hq1599 hq1601 ⟨by omega, by omega⟩)
      obtain ⟨a1609, a1611, a1613, a1615, a1617, a1619, a1621, a1623, a1625, a1627, w1629, w1632, w1633, w1634, hO, hq1610, hq1612, hq1614, hq1616, hq1618, hq1620, hq1622, hq1624, hq1626, hq1628, ⟨k1630, k1631⟩⟩ := op_6 hI hq1579 List.not_mem_nil
      have hI := th_I.weak (a := a1578) hI
      refine th_putN (ty := .int) hx hb hts inT6 tyX6 tyX6_ok nmX6 hown hK hN hO hS ⟨_, hq1579⟩ rfl 11 (by decide) wn_85 rfl rfl (by decide +kernel) rfl rfl (Nat.le_of_ble_eq_true rfl) dX11_force_36 (fun H locs hO oq hS => ?_)
      have hI := th_I.moved hI oq
      have hO : va_at D vwCl (a1578, .inr (6, [.ref a1609, .ref a1611, .ref a1613, .ref a1615, .ref a1617, .ref a1619, .ref a1621, .ref a1623, .ref a1625, .ref a1627, .int w1629, .int x1, .int w1633, .int w1634])) H := hO
      refine lv_aload_n hx hb dX11_force_39 rfl (lv_at hl 1 rfl) ?_
      have hI := th_I.close hI hq1579 hO (ok_6 hq1610 hq1612 hq1614 hq1616 hq1618 hq1620 hq1622 hq1624 hq1626 hq1628 ⟨by omega, by omega⟩)
      refine th_cVv (As := []) (rest := []) (n := 0) (d := 2) ⟨hx, hb, hml, hown, hts⟩ (c_X11_turnRiver l E D G h0 (n) hG0 ) wd_423 wd_425 wp_1 wd_1 wd_426 (by decide +kernel) ⟨by rw [hR]; exact Nat.le_of_ble_eq_true rfl, by rw [hR]; exact Nat.le_of_ble_eq_true rfl⟩ hI hN hK hS (rc_15 hI hG0 List.not_mem_nil) rfl rfl hl.1 rfl (Nat.le_of_ble_eq_true rfl) dX11_force_40 ⟨Nat.zero_le _, Nat.zero_le _⟩ (fun H locs hI hS => ?_)
      refine lv_aload_n hx hb dX11_force_43 rfl (lv_at hl 1 rfl) ?_
      refine lv_iload_n hx hb dX11_force_44 rfl (lv_at hl 0 rfl) ?_
      refine th_cVi (As := [.int w1575]) (rest := []) (n := 1) (d := 0) ⟨hx, hb, hml, hown, hts⟩ (c_X11_accept l E D G h0 (n) hG0 w1575) wd_447 wd_449 wp_3 wd_1 wd_450 (by decide +kernel) ⟨by rw [hR]; exact Nat.le_of_ble_eq_true rfl, by rw [hR]; exact Nat.le_of_ble_eq_true rfl⟩ hI hN hK hS (rc_15 hI hG0 List.not_mem_nil) rfl rfl hl.1 rfl (Nat.le_of_ble_eq_true rfl) dX11_force_45 ⟨Nat.zero_le _, Nat.zero_le _⟩ (fun r1636 H locs hp hI hS => ?_)
      have hp := hp.symm
      subst hp
      have hpost : True := trivial
      rw [hQ]
      exact W.iret (v := w1575) hx hb hr (fun t ht hW => ⟨⟨w1575, (), rfl, hpost, by rw [ht]; exact hI, hN.warm hW, va_K.moved hW.alike hK⟩, hS.F ht⟩) hS.2.2 dX11_force_48
    · skip
      have k1637 := iv_nlt (X := x1.toInt) (Y := w1513.toInt) rfl rfl c1519
      have hI := th_I.close hI hq1463 hO (ok_6 hq1494 hq1496 hq1498 hq1500 hq1502 hq1504 hq1506 hq1508 hq1510 hq1512 ⟨by omega, by omega⟩)
      exact J_16 s.heap [] ls  (lv_sub hl [0, 1] rfl)  hI hS
