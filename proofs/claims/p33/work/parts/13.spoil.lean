theorem wn_83 : (Cond.fieldLinkNest RX11 (194 : Nat) "NineRiver$State" "lawCount" "I" "NineRiver") ∈ lw_tbl := List.mem_append_right _ (List.mem_of_getElem? (i := 83) (by decide +kernel))
theorem wn_85 : (Cond.fieldLinkNest RX11 (208 : Nat) "NineRiver$State" "inForce" "I" "NineRiver") ∈ lw_tbl := List.mem_append_right _ (List.mem_of_getElem? (i := 85) (by decide +kernel))
theorem wn_88 : (Cond.fieldLinkNest RX11 (179 : Nat) "NineRiver$State" "natural" "I" "NineRiver") ∈ lw_tbl := List.mem_append_right _ (List.mem_of_getElem? (i := 88) (by decide +kernel))
theorem wn_92 : (Cond.fieldLinkNest RX11 (182 : Nat) "NineRiver$State" "year" "I" "NineRiver") ∈ lw_tbl := List.mem_append_right _ (List.mem_of_getElem? (i := 92) (by decide +kernel))
theorem wp_0 : Cond.selects RX11 yX11_refuse yX11_refuse ∈ TB := tv 0 (by decide +kernel) (by decide +kernel)
theorem wp_1 : Cond.selects RX11 yX11_turnRiver yX11_turnRiver ∈ TB := tv 1 (by decide +kernel) (by decide +kernel)
theorem wp_2 : Cond.selects RX11 yX11_turnLists yX11_turnLists ∈ TB := tv 2 (by decide +kernel) (by decide +kernel)
theorem wp_3 : Cond.selects RX11 yX11_accept yX11_accept ∈ TB := tv 3 (by decide +kernel) (by decide +kernel)
theorem wp_8 : Cond.selects RX11 yX11_write yX11_write ∈ TB := tv 8 (by decide +kernel) (by decide +kernel)
theorem wd_10 : (Cond.initialized RX5) ∈ TB := tw 10 (by decide +kernel) (by decide +kernel)
theorem wd_12 : (Cond.initialized RX10) ∈ TB := tw 12 (by decide +kernel) (by decide +kernel)
theorem wd_178 : (Cond.fieldLink RX0 (9 : Nat) "NineRiver$Asker" "words" "[I") ∈ TB := tw 178 (by decide +kernel) (by decide +kernel)
theorem wd_195 : (Cond.fieldLink RX7 (31 : Nat) "NineRiver$Stream" "isSpoilt" "Z") ∈ TB := tw 195 (by decide +kernel) (by decide +kernel)
theorem wd_246 : (Cond.fieldLink RX1 (34 : Nat) "NineRiver$Dyes" "isSpoilt" "Z") ∈ TB := tw 246 (by decide +kernel) (by decide +kernel)
theorem wd_280 : (Cond.fieldLink RX5 (19 : Nat) "NineRiver$Sleuth" "looked" "I") ∈ TB := tw 280 (by decide +kernel) (by decide +kernel)
theorem wd_331 : (Cond.fieldLink RX10 (18 : Nat) "NineRiver$Tuner" "tunedPump" "I") ∈ TB := tw 331 (by decide +kernel) (by decide +kernel)
theorem wd_345 : (Cond.fieldLink RX11 (12 : Nat) "NineRiver" "state" "LNineRiver$State;") ∈ TB := tw 345 (by decide +kernel) (by decide +kernel)
theorem wd_347 : (Cond.fieldLink RX11 (20 : Nat) "NineRiver" "tape" "[I") ∈ TB := tw 347 (by decide +kernel) (by decide +kernel)
theorem wd_348 : (Cond.fieldLink RX11 (24 : Nat) "NineRiver" "refusals" "[I") ∈ TB := tw 348 (by decide +kernel) (by decide +kernel)
theorem wd_351 : (Cond.fieldLink RX11 (42 : Nat) "NineRiver" "stream" "LNineRiver$Stream;") ∈ TB := tw 351 (by decide +kernel) (by decide +kernel)
theorem wd_353 : (Cond.fieldLink RX11 (60 : Nat) "NineRiver" "dyes" "LNineRiver$Dyes;") ∈ TB := tw 353 (by decide +kernel) (by decide +kernel)
theorem wd_354 : (Cond.fieldLink RX11 (69 : Nat) "NineRiver" "sleuth" "LNineRiver$Sleuth;") ∈ TB := tw 354 (by decide +kernel) (by decide +kernel)
theorem wd_356 : (Cond.fieldLink RX11 (85 : Nat) "NineRiver" "tuner" "LNineRiver$Tuner;") ∈ TB := tw 356 (by decide +kernel) (by decide +kernel)
theorem wd_357 : (Cond.fieldLink RX11 (89 : Nat) "NineRiver" "tapeSize" "I") ∈ TB := tw 357 (by decide +kernel) (by decide +kernel)
theorem wd_358 : (Cond.fieldLink RX11 (93 : Nat) "NineRiver" "faultAt" "I") ∈ TB := tw 358 (by decide +kernel) (by decide +kernel)
theorem wd_359 : (Cond.fieldLink RX11 (96 : Nat) "NineRiver" "foamed" "I") ∈ TB := tw 359 (by decide +kernel) (by decide +kernel)
theorem wd_360 : (Cond.fieldLink RX11 (99 : Nat) "NineRiver" "refusedBy" "I") ∈ TB := tw 360 (by decide +kernel) (by decide +kernel)
theorem wd_404 : (Cond.methodLink RX11 (110 : Nat) yX11_isClock) ∈ TB := tw 404 (by decide +kernel) (by decide +kernel)
theorem wd_405 : (Jvm.Cond.static yX11_isClock) ∈ TB := tw 405 (by decide +kernel) (by decide +kernel)
theorem wd_406 : (Cond.code yX11_isClock cX11_isClock 1 (Option.some Jvm.ClassFile.FieldType.boolean)) ∈ TB := tw 406 (by decide +kernel) (by decide +kernel)
theorem wd_407 : (Cond.methodLink RX11 (113 : Nat) yX11_refuse) ∈ TB := tw 407 (by decide +kernel) (by decide +kernel)
theorem wd_409 : (Jvm.Cond.instanceMethod yX11_refuse) ∈ TB := tw 409 (by decide +kernel) (by decide +kernel)
theorem wd_410 : (Cond.code yX11_refuse cX11_refuse 3 (Option.some Jvm.ClassFile.FieldType.int)) ∈ TB := tw 410 (by decide +kernel) (by decide +kernel)
theorem wd_411 : (Cond.methodLink RX11 (117 : Nat) yX11_isPump) ∈ TB := tw 411 (by decide +kernel) (by decide +kernel)
theorem wd_414 : (Cond.methodLink RX11 (120 : Nat) yX6_tellPump) ∈ TB := tw 414 (by decide +kernel) (by decide +kernel)
theorem wd_415 : (Jvm.Cond.instanceMethod yX6_tellPump) ∈ TB := tw 415 (by decide +kernel) (by decide +kernel)
theorem wd_416 : (Cond.selects RX6 yX6_tellPump yX6_tellPump) ∈ TB := tw 416 (by decide +kernel) (by decide +kernel)
theorem wd_417 : (Cond.code yX6_tellPump cX6_tellPump 8 (Option.none : Option Jvm.ClassFile.FieldType)) ∈ TB := tw 417 (by decide +kernel) (by decide +kernel)
theorem wd_423 : (Cond.methodLink RX11 (124 : Nat) yX11_turnRiver) ∈ TB := tw 423 (by decide +kernel) (by decide +kernel)
theorem wd_425 : (Jvm.Cond.instanceMethod yX11_turnRiver) ∈ TB := tw 425 (by decide +kernel) (by decide +kernel)
theorem wd_426 : (Cond.code yX11_turnRiver cX11_turnRiver 1 (Option.none : Option Jvm.ClassFile.FieldType)) ∈ TB := tw 426 (by decide +kernel) (by decide +kernel)
theorem wd_427 : (Cond.methodLink RX11 (348 : Nat) yX7_spoil) ∈ TB := tw 427 (by decide +kernel) (by decide +kernel)
theorem wd_428 : (Jvm.Cond.instanceMethod yX7_spoil) ∈ TB := tw 428 (by decide +kernel) (by decide +kernel)
theorem wd_429 : (Cond.selects RX7 yX7_spoil yX7_spoil) ∈ TB := tw 429 (by decide +kernel) (by decide +kernel)
theorem wd_430 : (Cond.code yX7_spoil cX7_spoil 1 (Option.none : Option Jvm.ClassFile.FieldType)) ∈ TB := tw 430 (by decide +kernel) (by decide +kernel)
theorem wd_431 : (Cond.methodLink RX11 (191 : Nat) yX11_turnLists) ∈ TB := tw 431 (by decide +kernel) (by decide +kernel)
theorem wd_433 : (Jvm.Cond.instanceMethod yX11_turnLists) ∈ TB := tw 433 (by decide +kernel) (by decide +kernel)
theorem wd_434 : (Cond.code yX11_turnLists cX11_turnLists 1 (Option.none : Option Jvm.ClassFile.FieldType)) ∈ TB := tw 434 (by decide +kernel) (by decide +kernel)
theorem wd_435 : (Cond.methodLink RX11 (351 : Nat) yX1_spoil) ∈ TB := tw 435 (by decide +kernel) (by decide +kernel)
theorem wd_436 : (Jvm.Cond.instanceMethod yX1_spoil) ∈ TB := tw 436 (by decide +kernel) (by decide +kernel)
theorem wd_437 : (Cond.selects RX1 yX1_spoil yX1_spoil) ∈ TB := tw 437 (by decide +kernel) (by decide +kernel)
theorem wd_438 : (Cond.code yX1_spoil cX1_spoil 1 (Option.none : Option Jvm.ClassFile.FieldType)) ∈ TB := tw 438 (by decide +kernel) (by decide +kernel)
theorem wd_439 : (Cond.methodLink RX11 (352 : Nat) yX5_spoil) ∈ TB := tw 439 (by decide +kernel) (by decide +kernel)
theorem wd_440 : (Jvm.Cond.instanceMethod yX5_spoil) ∈ TB := tw 440 (by decide +kernel) (by decide +kernel)
theorem wd_441 : (Cond.selects RX5 yX5_spoil yX5_spoil) ∈ TB := tw 441 (by decide +kernel) (by decide +kernel)
theorem wd_442 : (Cond.code yX5_spoil cX5_spoil 1 (Option.none : Option Jvm.ClassFile.FieldType)) ∈ TB := tw 442 (by decide +kernel) (by decide +kernel)
theorem wd_443 : (Cond.methodLink RX11 (353 : Nat) yX10_spoil) ∈ TB := tw 443 (by decide +kernel) (by decide +kernel)
theorem wd_444 : (Jvm.Cond.instanceMethod yX10_spoil) ∈ TB := tw 444 (by decide +kernel) (by decide +kernel)
theorem wd_445 : (Cond.selects RX10 yX10_spoil yX10_spoil) ∈ TB := tw 445 (by decide +kernel) (by decide +kernel)
theorem wd_446 : (Cond.code yX10_spoil cX10_spoil 1 (Option.none : Option Jvm.ClassFile.FieldType)) ∈ TB := tw 446 (by decide +kernel) (by decide +kernel)
theorem wd_447 : (Cond.methodLink RX11 (127 : Nat) yX11_accept) ∈ TB := tw 447 (by decide +kernel) (by decide +kernel)
theorem wd_449 : (Jvm.Cond.instanceMethod yX11_accept) ∈ TB := tw 449 (by decide +kernel) (by decide +kernel)
theorem wd_450 : (Cond.code yX11_accept cX11_accept 2 (Option.some Jvm.ClassFile.FieldType.int)) ∈ TB := tw 450 (by decide +kernel) (by decide +kernel)
theorem wd_455 : (Cond.methodLink RX11 (130 : Nat) yX6_pumpPart) ∈ TB := tw 455 (by decide +kernel) (by decide +kernel)
theorem wd_463 : (Cond.methodLink RX11 (134 : Nat) yX11_isSpan) ∈ TB := tw 463 (by decide +kernel) (by decide +kernel)
theorem wd_464 : (Jvm.Cond.static yX11_isSpan) ∈ TB := tw 464 (by decide +kernel) (by decide +kernel)
theorem wd_465 : (Cond.code yX11_isSpan cX11_isSpan 2 (Option.some Jvm.ClassFile.FieldType.boolean)) ∈ TB := tw 465 (by decide +kernel) (by decide +kernel)
theorem wd_469 : (Cond.methodLink RX11 (138 : Nat) yX11_isFlag) ∈ TB := tw 469 (by decide +kernel) (by decide +kernel)
theorem wd_470 : (Jvm.Cond.static yX11_isFlag) ∈ TB := tw 470 (by decide +kernel) (by decide +kernel)
theorem wd_471 : (Cond.code yX11_isFlag cX11_isFlag 1 (Option.some Jvm.ClassFile.FieldType.boolean)) ∈ TB := tw 471 (by decide +kernel) (by decide +kernel)
theorem wd_472 : (Cond.methodLink RX11 (141 : Nat) yX6_tellStrikes) ∈ TB := tw 472 (by decide +kernel) (by decide +kernel)
theorem wd_473 : (Jvm.Cond.instanceMethod yX6_tellStrikes) ∈ TB := tw 473 (by decide +kernel) (by decide +kernel)
theorem wd_474 : (Cond.selects RX6 yX6_tellStrikes yX6_tellStrikes) ∈ TB := tw 474 (by decide +kernel) (by decide +kernel)
theorem wd_475 : (Cond.code yX6_tellStrikes cX6_tellStrikes 6 (Option.some Jvm.ClassFile.FieldType.int)) ∈ TB := tw 475 (by decide +kernel) (by decide +kernel)
theorem wd_6 : (Cond.initialized RX7) ∈ TB := tw 6 (by decide +kernel) (by decide +kernel)
theorem wd_601 : (Cond.methodLink RX11 (185 : Nat) yX11_write) ∈ TB := tw 601 (by decide +kernel) (by decide +kernel)
theorem wd_603 : (Jvm.Cond.instanceMethod yX11_write) ∈ TB := tw 603 (by decide +kernel) (by decide +kernel)
theorem wd_604 : (Cond.code yX11_write cX11_write 3 (Option.none : Option Jvm.ClassFile.FieldType)) ∈ TB := tw 604 (by decide +kernel) (by decide +kernel)
theorem wd_9 : (Cond.initialized RX1) ∈ TB := tw 9 (by decide +kernel) (by decide +kernel)
theorem dX0_going_0g : (decode cX0_going 0 = .ok (.aload_n 0, 1)) ∧ (decode cX0_going 1 = .ok (.getfield 9, 3)) ∧ (decode cX0_going 4 = .ok (.bipush 7, 2)) ∧ (decode cX0_going 6 = .ok (.iload_n 1, 1)) ∧ (decode cX0_going 7 = .ok (.iastore, 1)) ∧ (decode cX0_going 8 = .ok (.return_, 1)) := by decide +kernel
theorem dX0_going_0 : decode cX0_going 0 = .ok (.aload_n 0, 1) := dX0_going_0g.1
theorem dX0_going_1 : decode cX0_going 1 = .ok (.getfield 9, 3) := dX0_going_0g.2.1
theorem dX0_going_4 : decode cX0_going 4 = .ok (.bipush 7, 2) := dX0_going_0g.2.2.1
theorem dX0_going_6 : decode cX0_going 6 = .ok (.iload_n 1, 1) := dX0_going_0g.2.2.2.1
theorem dX0_going_7 : decode cX0_going 7 = .ok (.iastore, 1) := dX0_going_0g.2.2.2.2.1
theorem dX0_going_8 : decode cX0_going 8 = .ok (.return_, 1) := dX0_going_0g.2.2.2.2.2
set_option maxHeartbeats 4000000 in
set_option maxRecDepth 100000 in
theorem c_X0_going (l : Launch) (E : Nat → Nat) (D : va_G) (G : th_G) (h0 : Nat) (hG0 : G h0 = some (8, 0)) (x1 : Int32) : Met l yX0_going (tb (.code yX0_going cX0_going 2 none)) (rm 0) (va_Pc [.ref h0, .int x1] (th_P E D G)) (QV E D G) 0 0 (th_A G) := by
  refine Met.ofW (cc := cX0_going) (maxL := 2) (ret := none) (by decide) rfl ?_
  intro p e s m args below meth c s₁ B hml hv
  obtain ⟨hav, hI, hN, hK⟩ := hv
  have hx := B.exec
  have hb := B.bytes
  have hr := B.returns
  have hts := atoms_spec (ws := tb (.code yX0_going cX0_going 2 none)) B.pre
  have hown : s.vm.findClass RX0 = some m.cls := findClass_of_methodNamed B.named
  have hlocks := B.notSynchronized
  have hS : va_S (th_A G) s.heap s.heap [] := va_S.rf
  have hl := lv_entry ([.ref h0, .int x1]) (n := 2) (Nat.le_of_ble_eq_true rfl)
  rw [show entryFrame m args 2 = entryFrame m ([.ref h0, .int x1] : List Value).toArray 2 from by rw [hav], lg_entry_eq]
  generalize (lg_sl ([.ref h0, .int x1]) ++ List.replicate (2 - (lg_sl ([.ref h0, .int x1])).length) Slot.unset).toArray = ls at hl ⊢
  have hl : lv_has ls 2 [(0, .ref h0), (1, .int x1)] := hl
  generalize hR : (headSpec (tb (.code yX0_going cX0_going 2 none)) (rm 0)).room = R
  have hR := hR.symm
  generalize hQ : MQ below (QV E D G) args s 0 0 (th_A G) = QF
  have hQ := hQ.symm
  refine lv_aload_n hx hb dX0_going_0 rfl (lv_at hl 0 rfl) ?_
  obtain ⟨a1, a3, w5, hO, hq2, hq4⟩ := op_8 hI hG0 List.not_mem_nil
  have hI := th_I.weak (a := h0) hI
  refine th_get hx hb hts inT0 hown hK hO rfl 0 (by decide) (hts _ (tb_c wd_178)) rfl rfl dX0_going_1 ?_
  refine lv_bipush (v := 7) hx hb dX0_going_4 (by decide) ?_
  refine lv_iload_n hx hb dX0_going_6 rfl (lv_at hl 1 rfl) ?_
  obtain ⟨_, hA6⟩ := op_0 hI hq2 (th_ne hG0 hq2 (show (8 : Nat) ≠ 0 by decide))
  refine th_iast hx hb hK hA6 0 rfl hS ⟨_, hq2⟩ (iv_in (X := (7)) (by decide) (by omega) (by omega)) dX0_going_7 (fun H locs hA6 oq hS => ?_)
  have hI := th_I.put hI hq2 hA6 ok_0 oq
  have hO := hO.kept (oq _ (fun z => th_ne hG0 hq2 (show (8 : Nat) ≠ 0 by decide) (List.mem_singleton.mpr z.symm)))
  have hI := th_I.close hI hG0 hO (ok_8 hq2 hq4)
  rw [hQ]
  exact W.vret hx hb hr (fun t ht hW => ⟨⟨(), rfl, trivial, by rw [ht]; exact hI, hN.warm hW, va_K.moved hW.alike hK⟩, hS.F ht⟩) hS.2.2 dX0_going_8
theorem dX7_spoil_0g : (decode cX7_spoil 0 = .ok (.aload_n 0, 1)) ∧ (decode cX7_spoil 1 = .ok (.iconst 1, 1)) ∧ (decode cX7_spoil 2 = .ok (.putfield 31, 3)) ∧ (decode cX7_spoil 5 = .ok (.return_, 1)) := by decide +kernel
theorem dX7_spoil_0 : decode cX7_spoil 0 = .ok (.aload_n 0, 1) := dX7_spoil_0g.1
theorem dX7_spoil_1 : decode cX7_spoil 1 = .ok (.iconst 1, 1) := dX7_spoil_0g.2.1
theorem dX7_spoil_2 : decode cX7_spoil 2 = .ok (.putfield 31, 3) := dX7_spoil_0g.2.2.1
theorem dX7_spoil_5 : decode cX7_spoil 5 = .ok (.return_, 1) := dX7_spoil_0g.2.2.2
set_option maxHeartbeats 4000000 in
set_option maxRecDepth 100000 in
theorem c_X7_spoil (l : Launch) (E : Nat → Nat) (D : va_G) (G : th_G) (h0 : Nat) (hG0 : G h0 = some (9, 0)) : Met l yX7_spoil (tb (.code yX7_spoil cX7_spoil 1 none)) (rm 0) (va_Pc [.ref h0] (th_P E D G)) (QV E D G) 0 0 (th_A G) := by
  refine Met.ofW (cc := cX7_spoil) (maxL := 1) (ret := none) (by decide) rfl ?_
  intro p e s m args below meth c s₁ B hml hv
  obtain ⟨hav, hI, hN, hK⟩ := hv
  have hx := B.exec
  have hb := B.bytes
  have hr := B.returns
  have hts := atoms_spec (ws := tb (.code yX7_spoil cX7_spoil 1 none)) B.pre
  have hown : s.vm.findClass RX7 = some m.cls := findClass_of_methodNamed B.named
  have hlocks := B.notSynchronized
  have hS : va_S (th_A G) s.heap s.heap [] := va_S.rf
  have hl := lv_entry ([.ref h0]) (n := 1) (Nat.le_of_ble_eq_true rfl)
  rw [show entryFrame m args 1 = entryFrame m ([.ref h0] : List Value).toArray 1 from by rw [hav], lg_entry_eq]
  generalize (lg_sl ([.ref h0]) ++ List.replicate (1 - (lg_sl ([.ref h0])).length) Slot.unset).toArray = ls at hl ⊢
  have hl : lv_has ls 1 [(0, .ref h0)] := hl
  generalize hR : (headSpec (tb (.code yX7_spoil cX7_spoil 1 none)) (rm 0)).room = R
  have hR := hR.symm
  generalize hQ : MQ below (QV E D G) args s 0 0 (th_A G) = QF
  have hQ := hQ.symm
  refine lv_aload_n hx hb dX7_spoil_0 rfl (lv_at hl 0 rfl) ?_
  refine lv_iconst (v := 1) hx hb dX7_spoil_1 (by decide) ?_
  obtain ⟨a1, a3, a5, a7, a9, a11, w13, hO, hq2, hq4, hq6, hq8, hq10, hq12⟩ := op_9 hI hG0 List.not_mem_nil
  have hI := th_I.weak (a := h0) hI
  refine th_put (ty := .boolean) hx hb hts inT7 tyX7 tyX7_ok nmX7 hown hK hO hS ⟨_, hG0⟩ rfl 6 (by decide) (hts _ (tb_c wd_195)) rfl rfl (by decide +kernel) (by decide) rfl (Nat.le_of_ble_eq_true rfl) dX7_spoil_2 (fun H locs hO oq hS => ?_)
  have hI := th_I.moved hI oq
  have hO : va_at D vwCl (h0, .inr (7, [.ref a1, .ref a3, .ref a5, .ref a7, .ref a9, .ref a11, .int 1])) H := hO
  have hI := th_I.close hI hG0 hO (ok_9 hq2 hq4 hq6 hq8 hq10 hq12)
  rw [hQ]
  exact W.vret hx hb hr (fun t ht hW => ⟨⟨(), rfl, trivial, by rw [ht]; exact hI, hN.warm hW, va_K.moved hW.alike hK⟩, hS.F ht⟩) hS.2.2 dX7_spoil_5
theorem dX1_spoil_0g : (decode cX1_spoil 0 = .ok (.aload_n 0, 1)) ∧ (decode cX1_spoil 1 = .ok (.iconst 1, 1)) ∧ (decode cX1_spoil 2 = .ok (.putfield 34, 3)) ∧ (decode cX1_spoil 5 = .ok (.return_, 1)) := by decide +kernel
theorem dX1_spoil_0 : decode cX1_spoil 0 = .ok (.aload_n 0, 1) := dX1_spoil_0g.1
theorem dX1_spoil_1 : decode cX1_spoil 1 = .ok (.iconst 1, 1) := dX1_spoil_0g.2.1
theorem dX1_spoil_2 : decode cX1_spoil 2 = .ok (.putfield 34, 3) := dX1_spoil_0g.2.2.1
theorem dX1_spoil_5 : decode cX1_spoil 5 = .ok (.return_, 1) := dX1_spoil_0g.2.2.2
set_option maxHeartbeats 4000000 in
set_option maxRecDepth 100000 in
theorem c_X1_spoil (l : Launch) (E : Nat → Nat) (D : va_G) (G : th_G) (h0 : Nat) (hG0 : G h0 = some (11, 0)) : Met l yX1_spoil (tb (.code yX1_spoil cX1_spoil 1 none)) (rm 0) (va_Pc [.ref h0] (th_P E D G)) (QV E D G) 0 0 (th_A G) := by
  refine Met.ofW (cc := cX1_spoil) (maxL := 1) (ret := none) (by decide) rfl ?_
  intro p e s m args below meth c s₁ B hml hv
  obtain ⟨hav, hI, hN, hK⟩ := hv
  have hx := B.exec
  have hb := B.bytes
  have hr := B.returns
  have hts := atoms_spec (ws := tb (.code yX1_spoil cX1_spoil 1 none)) B.pre
  have hown : s.vm.findClass RX1 = some m.cls := findClass_of_methodNamed B.named
  have hlocks := B.notSynchronized
  have hS : va_S (th_A G) s.heap s.heap [] := va_S.rf
  have hl := lv_entry ([.ref h0]) (n := 1) (Nat.le_of_ble_eq_true rfl)
  rw [show entryFrame m args 1 = entryFrame m ([.ref h0] : List Value).toArray 1 from by rw [hav], lg_entry_eq]
  generalize (lg_sl ([.ref h0]) ++ List.replicate (1 - (lg_sl ([.ref h0])).length) Slot.unset).toArray = ls at hl ⊢
  have hl : lv_has ls 1 [(0, .ref h0)] := hl
  generalize hR : (headSpec (tb (.code yX1_spoil cX1_spoil 1 none)) (rm 0)).room = R
  have hR := hR.symm
  generalize hQ : MQ below (QV E D G) args s 0 0 (th_A G) = QF
  have hQ := hQ.symm
  refine lv_aload_n hx hb dX1_spoil_0 rfl (lv_at hl 0 rfl) ?_
  refine lv_iconst (v := 1) hx hb dX1_spoil_1 (by decide) ?_
  obtain ⟨a1, a3, a5, a7, a9, a11, a13, a15, w17, w18, w19, hO, hq2, hq4, hq6, hq8, hq10, hq12, hq14, hq16⟩ := op_11 hI hG0 List.not_mem_nil
  have hI := th_I.weak (a := h0) hI
  refine th_put (ty := .boolean) hx hb hts inT1 tyX1 tyX1_ok nmX1 hown hK hO hS ⟨_, hG0⟩ rfl 10 (by decide) (hts _ (tb_c wd_246)) rfl rfl (by decide +kernel) (by decide) rfl (Nat.le_of_ble_eq_true rfl) dX1_spoil_2 (fun H locs hO oq hS => ?_)
  have hI := th_I.moved hI oq
  have hO : va_at D vwCl (h0, .inr (1, [.ref a1, .ref a3, .ref a5, .ref a7, .ref a9, .ref a11, .ref a13, .ref a15, .int w17, .int w18, .int 1])) H := hO
  have hI := th_I.close hI hG0 hO (ok_11 hq2 hq4 hq6 hq8 hq10 hq12 hq14 hq16)
  rw [hQ]
  exact W.vret hx hb hr (fun t ht hW => ⟨⟨(), rfl, trivial, by rw [ht]; exact hI, hN.warm hW, va_K.moved hW.alike hK⟩, hS.F ht⟩) hS.2.2 dX1_spoil_5
theorem dX5_spoil_0g : (decode cX5_spoil 0 = .ok (.aload_n 0, 1)) ∧ (decode cX5_spoil 1 = .ok (.iconst (-1), 1)) ∧ (decode cX5_spoil 2 = .ok (.putfield 19, 3)) ∧ (decode cX5_spoil 5 = .ok (.return_, 1)) := by decide +kernel
theorem dX5_spoil_0 : decode cX5_spoil 0 = .ok (.aload_n 0, 1) := dX5_spoil_0g.1
theorem dX5_spoil_1 : decode cX5_spoil 1 = .ok (.iconst (-1), 1) := dX5_spoil_0g.2.1
theorem dX5_spoil_2 : decode cX5_spoil 2 = .ok (.putfield 19, 3) := dX5_spoil_0g.2.2.1
theorem dX5_spoil_5 : decode cX5_spoil 5 = .ok (.return_, 1) := dX5_spoil_0g.2.2.2
set_option maxHeartbeats 4000000 in
set_option maxRecDepth 100000 in
theorem c_X5_spoil (l : Launch) (E : Nat → Nat) (D : va_G) (G : th_G) (h0 : Nat) (hG0 : G h0 = some (12, 0)) : Met l yX5_spoil (tb (.code yX5_spoil cX5_spoil 1 none)) (rm 0) (va_Pc [.ref h0] (th_P E D G)) (QV E D G) 0 0 (th_A G) := by
  refine Met.ofW (cc := cX5_spoil) (maxL := 1) (ret := none) (by decide) rfl ?_
  intro p e s m args below meth c s₁ B hml hv
  obtain ⟨hav, hI, hN, hK⟩ := hv
  have hx := B.exec
  have hb := B.bytes
  have hr := B.returns
  have hts := atoms_spec (ws := tb (.code yX5_spoil cX5_spoil 1 none)) B.pre
  have hown : s.vm.findClass RX5 = some m.cls := findClass_of_methodNamed B.named
  have hlocks := B.notSynchronized
  have hS : va_S (th_A G) s.heap s.heap [] := va_S.rf
  have hl := lv_entry ([.ref h0]) (n := 1) (Nat.le_of_ble_eq_true rfl)
  rw [show entryFrame m args 1 = entryFrame m ([.ref h0] : List Value).toArray 1 from by rw [hav], lg_entry_eq]
  generalize (lg_sl ([.ref h0]) ++ List.replicate (1 - (lg_sl ([.ref h0])).length) Slot.unset).toArray = ls at hl ⊢
  have hl : lv_has ls 1 [(0, .ref h0)] := hl
  generalize hR : (headSpec (tb (.code yX5_spoil cX5_spoil 1 none)) (rm 0)).room = R
  have hR := hR.symm
  generalize hQ : MQ below (QV E D G) args s 0 0 (th_A G) = QF
  have hQ := hQ.symm
  refine lv_aload_n hx hb dX5_spoil_0 rfl (lv_at hl 0 rfl) ?_
  refine lv_iconst (v := (-1)) hx hb dX5_spoil_1 (by decide) ?_
  obtain ⟨a1, a3, a5, a7, w9, w10, hO, hq2, hq4, hq6, hq8⟩ := op_12 hI hG0 List.not_mem_nil
  have hI := th_I.weak (a := h0) hI
  refine th_put (ty := .int) hx hb hts inT5 tyX5 tyX5_ok nmX5 hown hK hO hS ⟨_, hG0⟩ rfl 4 (by decide) (hts _ (tb_c wd_280)) rfl rfl (by decide +kernel) rfl rfl (Nat.le_of_ble_eq_true rfl) dX5_spoil_2 (fun H locs hO oq hS => ?_)
  have hI := th_I.moved hI oq
  have hO : va_at D vwCl (h0, .inr (5, [.ref a1, .ref a3, .ref a5, .ref a7, .int (-1), .int w10])) H := hO
  have hI := th_I.close hI hG0 hO (ok_12 hq2 hq4 hq6 hq8)
  rw [hQ]
  exact W.vret hx hb hr (fun t ht hW => ⟨⟨(), rfl, trivial, by rw [ht]; exact hI, hN.warm hW, va_K.moved hW.alike hK⟩, hS.F ht⟩) hS.2.2 dX5_spoil_5
theorem dX10_spoil_0g : (decode cX10_spoil 0 = .ok (.aload_n 0, 1)) ∧ (decode cX10_spoil 1 = .ok (.iconst (-1), 1)) ∧ (decode cX10_spoil 2 = .ok (.putfield 18, 3)) ∧ (decode cX10_spoil 5 = .ok (.return_, 1)) := by decide +kernel
theorem dX10_spoil_0 : decode cX10_spoil 0 = .ok (.aload_n 0, 1) := dX10_spoil_0g.1
theorem dX10_spoil_1 : decode cX10_spoil 1 = .ok (.iconst (-1), 1) := dX10_spoil_0g.2.1
theorem dX10_spoil_2 : decode cX10_spoil 2 = .ok (.putfield 18, 3) := dX10_spoil_0g.2.2.1
theorem dX10_spoil_5 : decode cX10_spoil 5 = .ok (.return_, 1) := dX10_spoil_0g.2.2.2
set_option maxHeartbeats 4000000 in
set_option maxRecDepth 100000 in
theorem c_X10_spoil (l : Launch) (E : Nat → Nat) (D : va_G) (G : th_G) (h0 : Nat) (hG0 : G h0 = some (14, 0)) : Met l yX10_spoil (tb (.code yX10_spoil cX10_spoil 1 none)) (rm 0) (va_Pc [.ref h0] (th_P E D G)) (QV E D G) 0 0 (th_A G) := by
  refine Met.ofW (cc := cX10_spoil) (maxL := 1) (ret := none) (by decide) rfl ?_
  intro p e s m args below meth c s₁ B hml hv
  obtain ⟨hav, hI, hN, hK⟩ := hv
  have hx := B.exec
  have hb := B.bytes
  have hr := B.returns
  have hts := atoms_spec (ws := tb (.code yX10_spoil cX10_spoil 1 none)) B.pre
  have hown : s.vm.findClass RX10 = some m.cls := findClass_of_methodNamed B.named
  have hlocks := B.notSynchronized
  have hS : va_S (th_A G) s.heap s.heap [] := va_S.rf
  have hl := lv_entry ([.ref h0]) (n := 1) (Nat.le_of_ble_eq_true rfl)
  rw [show entryFrame m args 1 = entryFrame m ([.ref h0] : List Value).toArray 1 from by rw [hav], lg_entry_eq]
  generalize (lg_sl ([.ref h0]) ++ List.replicate (1 - (lg_sl ([.ref h0])).length) Slot.unset).toArray = ls at hl ⊢
  have hl : lv_has ls 1 [(0, .ref h0)] := hl
  generalize hR : (headSpec (tb (.code yX10_spoil cX10_spoil 1 none)) (rm 0)).room = R
  have hR := hR.symm
  generalize hQ : MQ below (QV E D G) args s 0 0 (th_A G) = QF
  have hQ := hQ.symm
  refine lv_aload_n hx hb dX10_spoil_0 rfl (lv_at hl 0 rfl) ?_
  refine lv_iconst (v := (-1)) hx hb dX10_spoil_1 (by decide) ?_
  obtain ⟨a1, a3, a5, a7, a9, w11, hO, hq2, hq4, hq6, hq8, hq10⟩ := op_14 hI hG0 List.not_mem_nil
  have hI := th_I.weak (a := h0) hI
  refine th_put (ty := .int) hx hb hts inT10 tyX10 tyX10_ok nmX10 hown hK hO hS ⟨_, hG0⟩ rfl 5 (by decide) (hts _ (tb_c wd_331)) rfl rfl (by decide +kernel) rfl rfl (Nat.le_of_ble_eq_true rfl) dX10_spoil_2 (fun H locs hO oq hS => ?_)
  have hI := th_I.moved hI oq
  have hO : va_at D vwCl (h0, .inr (10, [.ref a1, .ref a3, .ref a5, .ref a7, .ref a9, .int (-1)])) H := hO
  have hI := th_I.close hI hG0 hO (ok_14 hq2 hq4 hq6 hq8 hq10)
  rw [hQ]
  exact W.vret hx hb hr (fun t ht hW => ⟨⟨(), rfl, trivial, by rw [ht]; exact hI, hN.warm hW, va_K.moved hW.alike hK⟩, hS.F ht⟩) hS.2.2 dX10_spoil_5
theorem dX11_turnLists_0g : (decode cX11_turnLists 0 = .ok (.aload_n 0, 1)) ∧ (decode cX11_turnLists 1 = .ok (.getfield 60, 3)) ∧ (decode cX11_turnLists 4 = .ok (.invokevirtual 351, 3)) ∧ (decode cX11_turnLists 7 = .ok (.aload_n 0, 1)) ∧ (decode cX11_turnLists 8 = .ok (.getfield 69, 3)) ∧ (decode cX11_turnLists 11 = .ok (.invokevirtual 352, 3)) ∧ (decode cX11_turnLists 14 = .ok (.aload_n 0, 1)) ∧ (decode cX11_turnLists 15 = .ok (.getfield 85, 3)) ∧ (decode cX11_turnLists 18 = .ok (.invokevirtual 353, 3)) ∧ (decode cX11_turnLists 21 = .ok (.return_, 1)) := by decide +kernel
theorem dX11_turnLists_0 : decode cX11_turnLists 0 = .ok (.aload_n 0, 1) := dX11_turnLists_0g.1
theorem dX11_turnLists_1 : decode cX11_turnLists 1 = .ok (.getfield 60, 3) := dX11_turnLists_0g.2.1
theorem dX11_turnLists_4 : decode cX11_turnLists 4 = .ok (.invokevirtual 351, 3) := dX11_turnLists_0g.2.2.1
theorem dX11_turnLists_7 : decode cX11_turnLists 7 = .ok (.aload_n 0, 1) := dX11_turnLists_0g.2.2.2.1
theorem dX11_turnLists_8 : decode cX11_turnLists 8 = .ok (.getfield 69, 3) := dX11_turnLists_0g.2.2.2.2.1
theorem dX11_turnLists_11 : decode cX11_turnLists 11 = .ok (.invokevirtual 352, 3) := dX11_turnLists_0g.2.2.2.2.2.1
theorem dX11_turnLists_14 : decode cX11_turnLists 14 = .ok (.aload_n 0, 1) := dX11_turnLists_0g.2.2.2.2.2.2.1
theorem dX11_turnLists_15 : decode cX11_turnLists 15 = .ok (.getfield 85, 3) := dX11_turnLists_0g.2.2.2.2.2.2.2.1
theorem dX11_turnLists_18 : decode cX11_turnLists 18 = .ok (.invokevirtual 353, 3) := dX11_turnLists_0g.2.2.2.2.2.2.2.2.1
theorem dX11_turnLists_21 : decode cX11_turnLists 21 = .ok (.return_, 1) := dX11_turnLists_0g.2.2.2.2.2.2.2.2.2
set_option maxHeartbeats 4000000 in
set_option maxRecDepth 100000 in
theorem c_X11_turnLists (l : Launch) (E : Nat → Nat) (D : va_G) (G : th_G) (h0 n : Nat) (hG0 : G h0 = some (15, n)) : Met l yX11_turnLists (tb (.code yX11_turnLists cX11_turnLists 1 none)) (rm 1) (va_Pc [.ref h0] (th_P E D G)) (QV E D G) 0 0 (th_A G) := by
  refine Met.ofW (cc := cX11_turnLists) (maxL := 1) (ret := none) (by decide) rfl ?_
  intro p e s m args below meth c s₁ B hml hv
  obtain ⟨hav, hI, hN, hK⟩ := hv
  have hx := B.exec
  have hb := B.bytes
  have hr := B.returns
  have hts := atoms_spec (ws := tb (.code yX11_turnLists cX11_turnLists 1 none)) B.pre
  have hown : s.vm.findClass RX11 = some m.cls := findClass_of_methodNamed B.named
  have hlocks := B.notSynchronized
  have hS : va_S (th_A G) s.heap s.heap [] := va_S.rf
  have hl := lv_entry ([.ref h0]) (n := 1) (Nat.le_of_ble_eq_true rfl)
  rw [show entryFrame m args 1 = entryFrame m ([.ref h0] : List Value).toArray 1 from by rw [hav], lg_entry_eq]
  generalize (lg_sl ([.ref h0]) ++ List.replicate (1 - (lg_sl ([.ref h0])).length) Slot.unset).toArray = ls at hl ⊢
  have hl : lv_has ls 1 [(0, .ref h0)] := hl
  generalize hR : (headSpec (tb (.code yX11_turnLists cX11_turnLists 1 none)) (rm 1)).room = R
  have hR := hR.symm
  generalize hQ : MQ below (QV E D G) args s 0 0 (th_A G) = QF
  have hQ := hQ.symm
  refine lv_aload_n hx hb dX11_turnLists_0 rfl (lv_at hl 0 rfl) ?_
  obtain ⟨a1, a4, a6, a8, a10, a12, a14, a16, a18, a20, a22, w24, w27, w28, w29, w30, hO, hq2, hq3, hq5, hq7, hq9, hq11, hq13, hq15, hq17, hq19, hq21, hq23, ⟨k25, k26⟩, k31⟩ := op_15 hI hG0 List.not_mem_nil
  have hI := th_I.weak (a := h0) hI
  refine th_get hx hb hts inT11 hown hK hO rfl 8 (by decide) (hts _ (tb_c wd_353)) rfl rfl dX11_turnLists_1 ?_
  have hI := th_I.close hI hG0 hO (ok_15 hq2 hq3 hq5 hq7 hq9 hq11 hq13 hq15 hq17 hq19 hq21 hq23 ⟨by omega, by omega⟩ k31)
  refine th_cVv (As := []) (rest := []) (n := 0) (d := 0) ⟨hx, hb, hml, hown, hts⟩ (c_X1_spoil l E D G a16 hq17 ) wd_435 wd_436 wd_437 wd_9 wd_438 (by decide +kernel) ⟨by rw [hR]; exact Nat.le_of_ble_eq_true rfl, by rw [hR]; exact Nat.le_of_ble_eq_true rfl⟩ hI hN hK hS (rc_11 hI hq17 List.not_mem_nil) rfl rfl hl.1 rfl (Nat.le_of_ble_eq_true rfl) dX11_turnLists_4 ⟨Nat.zero_le _, Nat.zero_le _⟩ (fun H locs hI hS => ?_)
  refine lv_aload_n hx hb dX11_turnLists_7 rfl (lv_at hl 0 rfl) ?_
  obtain ⟨a33, a36, a38, a40, a42, a44, a46, a48, a50, a52, a54, w56, w59, w60, w61, w62, hO, hq34, hq35, hq37, hq39, hq41, hq43, hq45, hq47, hq49, hq51, hq53, hq55, ⟨k57, k58⟩, k63⟩ := op_15 hI hG0 List.not_mem_nil
  have hI := th_I.weak (a := h0) hI
  refine th_get hx hb hts inT11 hown hK hO rfl 9 (by decide) (hts _ (tb_c wd_354)) rfl rfl dX11_turnLists_8 ?_
  have hI := th_I.close hI hG0 hO (ok_15 hq34 hq35 hq37 hq39 hq41 hq43 hq45 hq47 hq49 hq51 hq53 hq55 ⟨by omega, by omega⟩ k63)
  refine th_cVv (As := []) (rest := []) (n := 0) (d := 0) ⟨hx, hb, hml, hown, hts⟩ (c_X5_spoil l E D G a50 hq51 ) wd_439 wd_440 wd_441 wd_10 wd_442 (by decide +kernel) ⟨by rw [hR]; exact Nat.le_of_ble_eq_true rfl, by rw [hR]; exact Nat.le_of_ble_eq_true rfl⟩ hI hN hK hS (rc_12 hI hq51 List.not_mem_nil) rfl rfl hl.1 rfl (Nat.le_of_ble_eq_true rfl) dX11_turnLists_11 ⟨Nat.zero_le _, Nat.zero_le _⟩ (fun H locs hI hS => ?_)
  refine lv_aload_n hx hb dX11_turnLists_14 rfl (lv_at hl 0 rfl) ?_
  obtain ⟨a65, a68, a70, a72, a74, a76, a78, a80, a82, a84, a86, w88, w91, w92, w93, w94, hO, hq66, hq67, hq69, hq71, hq73, hq75, hq77, hq79, hq81, hq83, hq85, hq87, ⟨k89, k90⟩, k95⟩ := op_15 hI hG0 List.not_mem_nil
  have hI := th_I.weak (a := h0) hI
  refine th_get hx hb hts inT11 hown hK hO rfl 11 (by decide) (hts _ (tb_c wd_356)) rfl rfl dX11_turnLists_15 ?_
  have hI := th_I.close hI hG0 hO (ok_15 hq66 hq67 hq69 hq71 hq73 hq75 hq77 hq79 hq81 hq83 hq85 hq87 ⟨by omega, by omega⟩ k95)
  refine th_cVv (As := []) (rest := []) (n := 0) (d := 0) ⟨hx, hb, hml, hown, hts⟩ (c_X10_spoil l E D G a86 hq87 ) wd_443 wd_444 wd_445 wd_12 wd_446 (by decide +kernel) ⟨by rw [hR]; exact Nat.le_of_ble_eq_true rfl, by rw [hR]; exact Nat.le_of_ble_eq_true rfl⟩ hI hN hK hS (rc_14 hI hq87 List.not_mem_nil) rfl rfl hl.1 rfl (Nat.le_of_ble_eq_true rfl) dX11_turnLists_18 ⟨Nat.zero_le _, Nat.zero_le _⟩ (fun H locs hI hS => ?_)
  rw [hQ]
  exact W.vret hx hb hr (fun t ht hW => ⟨⟨(), rfl, trivial, by rw [ht]; exact hI, hN.warm hW, va_K.moved hW.alike hK⟩, hS.F ht⟩) hS.2.2 dX11_turnLists_21
theorem dX11_turnRiver_0g : (decode cX11_turnRiver 0 = .ok (.aload_n 0, 1)) ∧ (decode cX11_turnRiver 1 = .ok (.getfield 42, 3)) ∧ (decode cX11_turnRiver 4 = .ok (.invokevirtual 348, 3)) ∧ (decode cX11_turnRiver 7 = .ok (.aload_n 0, 1)) ∧ (decode cX11_turnRiver 8 = .ok (.invokevirtual 191, 3)) ∧ (decode cX11_turnRiver 11 = .ok (.return_, 1)) := by decide +kernel
theorem dX11_turnRiver_0 : decode cX11_turnRiver 0 = .ok (.aload_n 0, 1) := dX11_turnRiver_0g.1
theorem dX11_turnRiver_1 : decode cX11_turnRiver 1 = .ok (.getfield 42, 3) := dX11_turnRiver_0g.2.1
theorem dX11_turnRiver_4 : decode cX11_turnRiver 4 = .ok (.invokevirtual 348, 3) := dX11_turnRiver_0g.2.2.1
theorem dX11_turnRiver_7 : decode cX11_turnRiver 7 = .ok (.aload_n 0, 1) := dX11_turnRiver_0g.2.2.2.1
theorem dX11_turnRiver_8 : decode cX11_turnRiver 8 = .ok (.invokevirtual 191, 3) := dX11_turnRiver_0g.2.2.2.2.1
theorem dX11_turnRiver_11 : decode cX11_turnRiver 11 = .ok (.return_, 1) := dX11_turnRiver_0g.2.2.2.2.2
set_option maxHeartbeats 4000000 in
set_option maxRecDepth 100000 in
theorem c_X11_turnRiver (l : Launch) (E : Nat → Nat) (D : va_G) (G : th_G) (h0 n : Nat) (hG0 : G h0 = some (15, n)) : Met l yX11_turnRiver (tb (.code yX11_turnRiver cX11_turnRiver 1 none)) (rm 2) (va_Pc [.ref h0] (th_P E D G)) (QV E D G) 0 0 (th_A G) := by
  refine Met.ofW (cc := cX11_turnRiver) (maxL := 1) (ret := none) (by decide) rfl ?_
  intro p e s m args below meth c s₁ B hml hv
  obtain ⟨hav, hI, hN, hK⟩ := hv
  have hx := B.exec
  have hb := B.bytes
  have hr := B.returns
  have hts := atoms_spec (ws := tb (.code yX11_turnRiver cX11_turnRiver 1 none)) B.pre
  have hown : s.vm.findClass RX11 = some m.cls := findClass_of_methodNamed B.named
  have hlocks := B.notSynchronized
  have hS : va_S (th_A G) s.heap s.heap [] := va_S.rf
  have hl := lv_entry ([.ref h0]) (n := 1) (Nat.le_of_ble_eq_true rfl)
  rw [show entryFrame m args 1 = entryFrame m ([.ref h0] : List Value).toArray 1 from by rw [hav], lg_entry_eq]
  generalize (lg_sl ([.ref h0]) ++ List.replicate (1 - (lg_sl ([.ref h0])).length) Slot.unset).toArray = ls at hl ⊢
  have hl : lv_has ls 1 [(0, .ref h0)] := hl
  generalize hR : (headSpec (tb (.code yX11_turnRiver cX11_turnRiver 1 none)) (rm 2)).room = R
  have hR := hR.symm
  generalize hQ : MQ below (QV E D G) args s 0 0 (th_A G) = QF
  have hQ := hQ.symm
  refine lv_aload_n hx hb dX11_turnRiver_0 rfl (lv_at hl 0 rfl) ?_
  obtain ⟨a1, a4, a6, a8, a10, a12, a14, a16, a18, a20, a22, w24, w27, w28, w29, w30, hO, hq2, hq3, hq5, hq7, hq9, hq11, hq13, hq15, hq17, hq19, hq21, hq23, ⟨k25, k26⟩, k31⟩ := op_15 hI hG0 List.not_mem_nil
  have hI := th_I.weak (a := h0) hI
  refine th_get hx hb hts inT11 hown hK hO rfl 6 (by decide) (hts _ (tb_c wd_351)) rfl rfl dX11_turnRiver_1 ?_
  have hI := th_I.close hI hG0 hO (ok_15 hq2 hq3 hq5 hq7 hq9 hq11 hq13 hq15 hq17 hq19 hq21 hq23 ⟨by omega, by omega⟩ k31)
  refine th_cVv (As := []) (rest := []) (n := 0) (d := 0) ⟨hx, hb, hml, hown, hts⟩ (c_X7_spoil l E D G a12 hq13 ) wd_427 wd_428 wd_429 wd_6 wd_430 (by decide +kernel) ⟨by rw [hR]; exact Nat.le_of_ble_eq_true rfl, by rw [hR]; exact Nat.le_of_ble_eq_true rfl⟩ hI hN hK hS (rc_9 hI hq13 List.not_mem_nil) rfl rfl hl.1 rfl (Nat.le_of_ble_eq_true rfl) dX11_turnRiver_4 ⟨Nat.zero_le _, Nat.zero_le _⟩ (fun H locs hI hS => ?_)
  refine lv_aload_n hx hb dX11_turnRiver_7 rfl (lv_at hl 0 rfl) ?_
  refine th_cVv (As := []) (rest := []) (n := 0) (d := 1) ⟨hx, hb, hml, hown, hts⟩ (c_X11_turnLists l E D G h0 (n) hG0 ) wd_431 wd_433 wp_2 wd_1 wd_434 (by decide +kernel) ⟨by rw [hR]; exact Nat.le_of_ble_eq_true rfl, by rw [hR]; exact Nat.le_of_ble_eq_true rfl⟩ hI hN hK hS (rc_15 hI hG0 List.not_mem_nil) rfl rfl hl.1 rfl (Nat.le_of_ble_eq_true rfl) dX11_turnRiver_8 ⟨Nat.zero_le _, Nat.zero_le _⟩ (fun H locs hI hS => ?_)
  rw [hQ]
  exact W.vret hx hb hr (fun t ht hW => ⟨⟨(), rfl, trivial, by rw [ht]; exact hI, hN.warm hW, va_K.moved hW.alike hK⟩, hS.F ht⟩) hS.2.2 dX11_turnRiver_11
theorem dX11_accept_0g : (decode cX11_accept 0 = .ok (.aload_n 0, 1)) ∧ (decode cX11_accept 1 = .ok (.iconst 0, 1)) ∧ (decode cX11_accept 2 = .ok (.putfield 99, 3)) ∧ (decode cX11_accept 5 = .ok (.iload_n 1, 1)) ∧ (decode cX11_accept 6 = .ok (.ireturn, 1)) := by decide +kernel
theorem dX11_accept_0 : decode cX11_accept 0 = .ok (.aload_n 0, 1) := dX11_accept_0g.1
theorem dX11_accept_1 : decode cX11_accept 1 = .ok (.iconst 0, 1) := dX11_accept_0g.2.1
theorem dX11_accept_2 : decode cX11_accept 2 = .ok (.putfield 99, 3) := dX11_accept_0g.2.2.1
theorem dX11_accept_5 : decode cX11_accept 5 = .ok (.iload_n 1, 1) := dX11_accept_0g.2.2.2.1
theorem dX11_accept_6 : decode cX11_accept 6 = .ok (.ireturn, 1) := dX11_accept_0g.2.2.2.2
set_option maxHeartbeats 4000000 in
set_option maxRecDepth 100000 in
theorem c_X11_accept (l : Launch) (E : Nat → Nat) (D : va_G) (G : th_G) (h0 n : Nat) (hG0 : G h0 = some (15, n)) (x1 : Int32) : Met l yX11_accept (tb (.code yX11_accept cX11_accept 2 (some .int))) (rm 0) (va_Pc [.ref h0, .int x1] (th_P E D G)) (QI E D G (fun r => (r : Int32) = x1)) 0 0 (th_A G) := by
  refine Met.ofW (cc := cX11_accept) (maxL := 2) (ret := (some .int)) (by decide) rfl ?_
  intro p e s m args below meth c s₁ B hml hv
  obtain ⟨hav, hI, hN, hK⟩ := hv
  have hx := B.exec
  have hb := B.bytes
  have hr := B.returns
  have hts := atoms_spec (ws := tb (.code yX11_accept cX11_accept 2 (some .int))) B.pre
  have hown : s.vm.findClass RX11 = some m.cls := findClass_of_methodNamed B.named
  have hlocks := B.notSynchronized
  have hS : va_S (th_A G) s.heap s.heap [] := va_S.rf
  have hl := lv_entry ([.ref h0, .int x1]) (n := 2) (Nat.le_of_ble_eq_true rfl)
  rw [show entryFrame m args 2 = entryFrame m ([.ref h0, .int x1] : List Value).toArray 2 from by rw [hav], lg_entry_eq]
  generalize (lg_sl ([.ref h0, .int x1]) ++ List.replicate (2 - (lg_sl ([.ref h0, .int x1])).length) Slot.unset).toArray = ls at hl ⊢
  have hl : lv_has ls 2 [(0, .ref h0), (1, .int x1)] := hl
  generalize hR : (headSpec (tb (.code yX11_accept cX11_accept 2 (some .int))) (rm 0)).room = R
  have hR := hR.symm
  generalize hQ : MQ below (QI E D G (fun r => (r : Int32) = x1)) args s 0 0 (th_A G) = QF
  have hQ := hQ.symm
  refine lv_aload_n hx hb dX11_accept_0 rfl (lv_at hl 0 rfl) ?_
  refine lv_iconst (v := 0) hx hb dX11_accept_1 (by decide) ?_
  obtain ⟨a1, a4, a6, a8, a10, a12, a14, a16, a18, a20, a22, w24, w27, w28, w29, w30, hO, hq2, hq3, hq5, hq7, hq9, hq11, hq13, hq15, hq17, hq19, hq21, hq23, ⟨k25, k26⟩, k31⟩ := op_15 hI hG0 List.not_mem_nil
  have hI := th_I.weak (a := h0) hI
  refine th_put (ty := .int) hx hb hts inT11 tyX11 tyX11_ok nmX11 hown hK hO hS ⟨_, hG0⟩ rfl 15 (by decide) (hts _ (tb_c wd_360)) rfl rfl (by decide +kernel) rfl rfl (Nat.le_of_ble_eq_true rfl) dX11_accept_2 (fun H locs hO oq hS => ?_)
  have hI := th_I.moved hI oq
  have hO : va_at D vwCl (h0, .inr (11, [.ref a1, .ref n, .ref a4, .ref a6, .ref a8, .ref a10, .ref a12, .ref a14, .ref a16, .ref a18, .ref a20, .ref a22, .int w24, .int w27, .int w28, .int 0, .int w30])) H := hO
  refine lv_iload_n hx hb dX11_accept_5 rfl (lv_at hl 1 rfl) ?_
  have hI := th_I.close hI hG0 hO (ok_15 hq2 hq3 hq5 hq7 hq9 hq11 hq13 hq15 hq17 hq19 hq21 hq23 ⟨by omega, by omega⟩ k31)
  have hpost : (x1 : Int32) = x1 := rfl
  rw [hQ]
  exact W.iret (v := x1) hx hb hr (fun t ht hW => ⟨⟨x1, (), rfl, hpost, by rw [ht]; exact hI, hN.warm hW, va_K.moved hW.alike hK⟩, hS.F ht⟩) hS.2.2 dX11_accept_6
theorem dX11_refuse_0g : (decode cX11_refuse 0 = .ok (.aload_n 0, 1)) ∧ (decode cX11_refuse 1 = .ok (.iload_n 1, 1)) ∧ (decode cX11_refuse 2 = .ok (.putfield 99, 3)) ∧ (decode cX11_refuse 5 = .ok (.iload_n 1, 1)) ∧ (decode cX11_refuse 6 = .ok (.bipush (-3), 2)) ∧ (decode cX11_refuse 8 = .ok (.if_icmp .lt 9, 3)) ∧ (decode cX11_refuse 11 = .ok (.iconst (-1), 1)) ∧ (decode cX11_refuse 12 = .ok (.iload_n 1, 1)) ∧ (decode cX11_refuse 13 = .ok (.isub, 1)) ∧ (decode cX11_refuse 14 = .ok (.goto 7, 3)) := by decide +kernel
theorem dX11_refuse_0 : decode cX11_refuse 0 = .ok (.aload_n 0, 1) := dX11_refuse_0g.1
theorem dX11_refuse_1 : decode cX11_refuse 1 = .ok (.iload_n 1, 1) := dX11_refuse_0g.2.1
theorem dX11_refuse_2 : decode cX11_refuse 2 = .ok (.putfield 99, 3) := dX11_refuse_0g.2.2.1
theorem dX11_refuse_5 : decode cX11_refuse 5 = .ok (.iload_n 1, 1) := dX11_refuse_0g.2.2.2.1
theorem dX11_refuse_6 : decode cX11_refuse 6 = .ok (.bipush (-3), 2) := dX11_refuse_0g.2.2.2.2.1
theorem dX11_refuse_8 : decode cX11_refuse 8 = .ok (.if_icmp .lt 9, 3) := dX11_refuse_0g.2.2.2.2.2.1
theorem dX11_refuse_11 : decode cX11_refuse 11 = .ok (.iconst (-1), 1) := dX11_refuse_0g.2.2.2.2.2.2.1
theorem dX11_refuse_12 : decode cX11_refuse 12 = .ok (.iload_n 1, 1) := dX11_refuse_0g.2.2.2.2.2.2.2.1
theorem dX11_refuse_13 : decode cX11_refuse 13 = .ok (.isub, 1) := dX11_refuse_0g.2.2.2.2.2.2.2.2.1
theorem dX11_refuse_14 : decode cX11_refuse 14 = .ok (.goto 7, 3) := dX11_refuse_0g.2.2.2.2.2.2.2.2.2
theorem dX11_refuse_17g : (decode cX11_refuse 17 = .ok (.bipush (-2), 2)) ∧ (decode cX11_refuse 19 = .ok (.iload_n 1, 1)) ∧ (decode cX11_refuse 20 = .ok (.isub, 1)) ∧ (decode cX11_refuse 21 = .ok (.istore_n 2, 1)) ∧ (decode cX11_refuse 22 = .ok (.iload_n 2, 1)) ∧ (decode cX11_refuse 23 = .ok (.ifCond .lt 22, 3)) ∧ (decode cX11_refuse 26 = .ok (.iload_n 2, 1)) ∧ (decode cX11_refuse 27 = .ok (.aload_n 0, 1)) ∧ (decode cX11_refuse 28 = .ok (.getfield 24, 3)) ∧ (decode cX11_refuse 31 = .ok (.arraylength, 1)) := by decide +kernel
theorem dX11_refuse_17 : decode cX11_refuse 17 = .ok (.bipush (-2), 2) := dX11_refuse_17g.1
theorem dX11_refuse_19 : decode cX11_refuse 19 = .ok (.iload_n 1, 1) := dX11_refuse_17g.2.1
theorem dX11_refuse_20 : decode cX11_refuse 20 = .ok (.isub, 1) := dX11_refuse_17g.2.2.1
theorem dX11_refuse_21 : decode cX11_refuse 21 = .ok (.istore_n 2, 1) := dX11_refuse_17g.2.2.2.1
theorem dX11_refuse_22 : decode cX11_refuse 22 = .ok (.iload_n 2, 1) := dX11_refuse_17g.2.2.2.2.1
theorem dX11_refuse_23 : decode cX11_refuse 23 = .ok (.ifCond .lt 22, 3) := dX11_refuse_17g.2.2.2.2.2.1
theorem dX11_refuse_26 : decode cX11_refuse 26 = .ok (.iload_n 2, 1) := dX11_refuse_17g.2.2.2.2.2.2.1
theorem dX11_refuse_27 : decode cX11_refuse 27 = .ok (.aload_n 0, 1) := dX11_refuse_17g.2.2.2.2.2.2.2.1
theorem dX11_refuse_28 : decode cX11_refuse 28 = .ok (.getfield 24, 3) := dX11_refuse_17g.2.2.2.2.2.2.2.2.1
theorem dX11_refuse_31 : decode cX11_refuse 31 = .ok (.arraylength, 1) := dX11_refuse_17g.2.2.2.2.2.2.2.2.2
theorem dX11_refuse_32g : (decode cX11_refuse 32 = .ok (.if_icmp .ge 13, 3)) ∧ (decode cX11_refuse 35 = .ok (.aload_n 0, 1)) ∧ (decode cX11_refuse 36 = .ok (.getfield 24, 3)) ∧ (decode cX11_refuse 39 = .ok (.iload_n 2, 1)) ∧ (decode cX11_refuse 40 = .ok (.dup2, 1)) ∧ (decode cX11_refuse 41 = .ok (.iaload, 1)) ∧ (decode cX11_refuse 42 = .ok (.iconst 1, 1)) ∧ (decode cX11_refuse 43 = .ok (.iadd, 1)) ∧ (decode cX11_refuse 44 = .ok (.iastore, 1)) ∧ (decode cX11_refuse 45 = .ok (.iload_n 1, 1)) := by decide +kernel
theorem dX11_refuse_32 : decode cX11_refuse 32 = .ok (.if_icmp .ge 13, 3) := dX11_refuse_32g.1
theorem dX11_refuse_35 : decode cX11_refuse 35 = .ok (.aload_n 0, 1) := dX11_refuse_32g.2.1
theorem dX11_refuse_36 : decode cX11_refuse 36 = .ok (.getfield 24, 3) := dX11_refuse_32g.2.2.1
theorem dX11_refuse_39 : decode cX11_refuse 39 = .ok (.iload_n 2, 1) := dX11_refuse_32g.2.2.2.1
theorem dX11_refuse_40 : decode cX11_refuse 40 = .ok (.dup2, 1) := dX11_refuse_32g.2.2.2.2.1
theorem dX11_refuse_41 : decode cX11_refuse 41 = .ok (.iaload, 1) := dX11_refuse_32g.2.2.2.2.2.1
theorem dX11_refuse_42 : decode cX11_refuse 42 = .ok (.iconst 1, 1) := dX11_refuse_32g.2.2.2.2.2.2.1
theorem dX11_refuse_43 : decode cX11_refuse 43 = .ok (.iadd, 1) := dX11_refuse_32g.2.2.2.2.2.2.2.1
theorem dX11_refuse_44 : decode cX11_refuse 44 = .ok (.iastore, 1) := dX11_refuse_32g.2.2.2.2.2.2.2.2.1
theorem dX11_refuse_45 : decode cX11_refuse 45 = .ok (.iload_n 1, 1) := dX11_refuse_32g.2.2.2.2.2.2.2.2.2
theorem dX11_refuse_46 : decode cX11_refuse 46 = .ok (.ireturn, 1) := by decide +kernel
set_option maxHeartbeats 4000000 in
set_option maxRecDepth 100000 in
theorem c_X11_refuse (l : Launch) (E : Nat → Nat) (D : va_G) (G : th_G) (h0 n : Nat) (hG0 : G h0 = some (15, n)) (x1 : Int32) : Met l yX11_refuse (tb (.code yX11_refuse cX11_refuse 3 (some .int))) (rm 0) (va_Pc [.ref h0, .int x1] (th_P E D G)) (QI E D G (fun r => (r : Int32) = x1)) 0 0 (th_A G) := by
  refine Met.ofW (cc := cX11_refuse) (maxL := 3) (ret := (some .int)) (by decide) rfl ?_
  intro p e s m args below meth c s₁ B hml hv
  obtain ⟨hav, hI, hN, hK⟩ := hv
  have hx := B.exec
  have hb := B.bytes
  have hr := B.returns
  have hts := atoms_spec (ws := tb (.code yX11_refuse cX11_refuse 3 (some .int))) B.pre
  have hown : s.vm.findClass RX11 = some m.cls := findClass_of_methodNamed B.named
  have hlocks := B.notSynchronized
  have hS : va_S (th_A G) s.heap s.heap [] := va_S.rf
  have hl := lv_entry ([.ref h0, .int x1]) (n := 3) (Nat.le_of_ble_eq_true rfl)
  rw [show entryFrame m args 3 = entryFrame m ([.ref h0, .int x1] : List Value).toArray 3 from by rw [hav], lg_entry_eq]
  generalize (lg_sl ([.ref h0, .int x1]) ++ List.replicate (3 - (lg_sl ([.ref h0, .int x1])).length) Slot.unset).toArray = ls at hl ⊢
  have hl : lv_has ls 3 [(0, .ref h0), (1, .int x1)] := hl
  generalize hR : (headSpec (tb (.code yX11_refuse cX11_refuse 3 (some .int))) (rm 0)).room = R
  have hR := hR.symm
  generalize hQ : MQ below (QI E D G (fun r => (r : Int32) = x1)) args s 0 0 (th_A G) = QF
  have hQ := hQ.symm
  have J_21 : ∀ (H : Heap) (locs : List Loc) (ls : Array Slot) (v643 : Int32), lv_has ls 3 [(0, .ref h0), (1, .int x1)] → th_I (okC E) D G [] H → va_S (th_A G) s.heap H locs → W p l e R s m args below meth c H locs 0 0 QF (F0 m 21 ls [.int v643]) := by
    intro H locs ls v643 hl  hI hS
    refine lv_istore_n (lv' := [(2, .int v643), (0, .ref h0), (1, .int x1)]) hx hb dX11_refuse_21 rfl hl (by decide) rfl (fun ls hl => ?_)
    refine lv_iload_n hx hb dX11_refuse_22 rfl (lv_at hl 0 rfl) ?_
    have k644 := iv_lo v643
    have k645 := iv_hi v643
    refine lv_if_lt (tgt := 45) hx hb dX11_refuse_23 (by decide) (fun c646 => ?_) (fun c646 => ?_)
    · skip
      have k647 := iv_lt (X := v643.toInt) (Y := (0)) rfl (by decide) c646
      refine lv_iload_n hx hb dX11_refuse_45 rfl (lv_at hl 2 rfl) ?_
      have hpost : (x1 : Int32) = x1 := rfl
      rw [hQ]
      exact W.iret (v := x1) hx hb hr (fun t ht hW => ⟨⟨x1, (), rfl, hpost, by rw [ht]; exact hI, hN.warm hW, va_K.moved hW.alike hK⟩, hS.F ht⟩) hS.2.2 dX11_refuse_46
    · skip
      have k648 := iv_nlt (X := v643.toInt) (Y := (0)) rfl (by decide) c646
      refine lv_iload_n hx hb dX11_refuse_26 rfl (lv_at hl 0 rfl) ?_
      refine lv_aload_n hx hb dX11_refuse_27 rfl (lv_at hl 1 rfl) ?_
      obtain ⟨a649, a652, a654, a656, a658, a660, a662, a664, a666, a668, a670, w672, w675, w676, w677, w678, hO, hq650, hq651, hq653, hq655, hq657, hq659, hq661, hq663, hq665, hq667, hq669, hq671, ⟨k673, k674⟩, k679⟩ := op_15 hI hG0 List.not_mem_nil
      have hI := th_I.weak (a := h0) hI
      refine th_get hx hb hts inT11 hown hK hO rfl 3 (by decide) (hts _ (tb_c wd_348)) rfl rfl dX11_refuse_28 ?_
      obtain ⟨_, hA680⟩ := op_0 hI hq655 (th_ne hG0 hq655 (show (15 : Nat) ≠ 0 by decide))
      refine va_alen hx hb hK (th_one hA680) 0 0 rfl (v := 5) rfl (show Int32.ofNat 5 = (5 : Int32) from by decide) dX11_refuse_31 ?_
      refine lv_icmp_ge (tgt := 45) hx hb dX11_refuse_32 (by decide) (fun c681 => ?_) (fun c681 => ?_)
      · skip
        have k682 := iv_le (X := (5)) (Y := v643.toInt) (by decide) rfl c681
        refine lv_iload_n hx hb dX11_refuse_45 rfl (lv_at hl 2 rfl) ?_
        have hI := th_I.close hI hG0 hO (ok_15 hq650 hq651 hq653 hq655 hq657 hq659 hq661 hq663 hq665 hq667 hq669 hq671 ⟨by omega, by omega⟩ k679)
        have hpost : (x1 : Int32) = x1 := rfl
        rw [hQ]
        exact W.iret (v := x1) hx hb hr (fun t ht hW => ⟨⟨x1, (), rfl, hpost, by rw [ht]; exact hI, hN.warm hW, va_K.moved hW.alike hK⟩, hS.F ht⟩) hS.2.2 dX11_refuse_46
      · skip
        have k683 := iv_nle (X := (5)) (Y := v643.toInt) (by decide) rfl c681
        refine lv_aload_n hx hb dX11_refuse_35 rfl (lv_at hl 1 rfl) ?_
        refine th_get hx hb hts inT11 hown hK hO rfl 3 (by decide) (hts _ (tb_c wd_348)) rfl rfl dX11_refuse_36 ?_
        refine lv_iload_n hx hb dX11_refuse_39 rfl (lv_at hl 0 rfl) ?_
        refine lv_dup2_11 hx hb dX11_refuse_40 rfl rfl ?_
        obtain ⟨_, hA684⟩ := op_0 hI hq655 (th_ne hG0 hq655 (show (15 : Nat) ≠ 0 by decide))
        refine th_iald hx hb hK hA684 0 rfl (iv_in (X := v643.toInt) rfl (by omega) (by omega)) dX11_refuse_41 (fun v685 _ => ?_)
        refine lv_iconst (v := 1) hx hb dX11_refuse_42 (by decide) ?_
        refine lv_iadd hx hb dX11_refuse_43 ?_
        refine lv_topi (fun v686 e687 => ?_)
        try have tv686 : v686.toInt = v685.toInt + (1) := iv_add rfl (by decide) e687 (by omega) (by omega)
        obtain ⟨_, hA688⟩ := op_0 hI hq655 (th_ne hG0 hq655 (show (15 : Nat) ≠ 0 by decide))
        refine th_iast hx hb hK hA688 0 rfl hS ⟨_, hq655⟩ (iv_in (X := v643.toInt) rfl (by omega) (by omega)) dX11_refuse_44 (fun H locs hA688 oq hS => ?_)
        have hI := th_I.put hI hq655 hA688 ok_0 oq
        have hO := hO.kept (oq _ (fun z => th_ne hG0 hq655 (show (15 : Nat) ≠ 0 by decide) (List.mem_singleton.mpr z.symm)))
        refine lv_iload_n hx hb dX11_refuse_45 rfl (lv_at hl 2 rfl) ?_
        have hI := th_I.close hI hG0 hO (ok_15 hq650 hq651 hq653 hq655 hq657 hq659 hq661 hq663 hq665 hq667 hq669 hq671 ⟨by omega, by omega⟩ k679)
        have hpost : (x1 : Int32) = x1 := rfl
        rw [hQ]
        exact W.iret (v := x1) hx hb hr (fun t ht hW => ⟨⟨x1, (), rfl, hpost, by rw [ht]; exact hI, hN.warm hW, va_K.moved hW.alike hK⟩, hS.F ht⟩) hS.2.2 dX11_refuse_46
  refine lv_aload_n hx hb dX11_refuse_0 rfl (lv_at hl 0 rfl) ?_
  refine lv_iload_n hx hb dX11_refuse_1 rfl (lv_at hl 1 rfl) ?_
  obtain ⟨a689, a692, a694, a696, a698, a700, a702, a704, a706, a708, a710, w712, w715, w716, w717, w718, hO, hq690, hq691, hq693, hq695, hq697, hq699, hq701, hq703, hq705, hq707, hq709, hq711, ⟨k713, k714⟩, k719⟩ := op_15 hI hG0 List.not_mem_nil
  have hI := th_I.weak (a := h0) hI
  refine th_put (ty := .int) hx hb hts inT11 tyX11 tyX11_ok nmX11 hown hK hO hS ⟨_, hG0⟩ rfl 15 (by decide) (hts _ (tb_c wd_360)) rfl rfl (by decide +kernel) rfl rfl (Nat.le_of_ble_eq_true rfl) dX11_refuse_2 (fun H locs hO oq hS => ?_)
  have hI := th_I.moved hI oq
  have hO : va_at D vwCl (h0, .inr (11, [.ref a689, .ref n, .ref a692, .ref a694, .ref a696, .ref a698, .ref a700, .ref a702, .ref a704, .ref a706, .ref a708, .ref a710, .int w712, .int w715, .int w716, .int x1, .int w718])) H := hO
  refine lv_iload_n hx hb dX11_refuse_5 rfl (lv_at hl 1 rfl) ?_
  refine lv_bipush (v := (-3)) hx hb dX11_refuse_6 (by decide) ?_
  have k720 := iv_lo x1
  have k721 := iv_hi x1
  refine lv_icmp_lt (tgt := 17) hx hb dX11_refuse_8 (by decide) (fun c722 => ?_) (fun c722 => ?_)
  · skip
    have k723 := iv_lt (X := x1.toInt) (Y := (-3)) rfl (by decide) c722
    refine lv_bipush (v := (-2)) hx hb dX11_refuse_17 (by decide) ?_
    refine lv_iload_n hx hb dX11_refuse_19 rfl (lv_at hl 1 rfl) ?_
    refine lv_isub hx hb dX11_refuse_20 ?_
    refine lv_topi (fun v724 e725 => ?_)
    have tv724 : v724.toInt = (-2) - x1.toInt := iv_sub (by decide) rfl e725 (by omega) (by omega)
    have hI := th_I.close hI hG0 hO (ok_15 hq690 hq691 hq693 hq695 hq697 hq699 hq701 hq703 hq705 hq707 hq709 hq711 ⟨by omega, by omega⟩ k719)
    exact J_21 H locs ls v724 (lv_sub hl [0, 1] rfl)  hI hS
  · skip
    have k726 := iv_nlt (X := x1.toInt) (Y := (-3)) rfl (by decide) c722
    refine lv_iconst (v := (-1)) hx hb dX11_refuse_11 (by decide) ?_
    refine lv_iload_n hx hb dX11_refuse_12 rfl (lv_at hl 1 rfl) ?_
    refine lv_isub hx hb dX11_refuse_13 ?_
    refine lv_topi (fun v727 e728 => ?_)
    have tv727 : v727.toInt = (-1) - x1.toInt := iv_sub (by decide) rfl e728 (by omega) (by omega)
    refine lv_goto (tgt := 21) hx hb dX11_refuse_14 (by decide) ?_
    have hI := th_I.close hI hG0 hO (ok_15 hq690 hq691 hq693 hq695 hq697 hq699 hq701 hq703 hq705 hq707 hq709 hq711 ⟨by omega, by omega⟩ k719)
    exact J_21 H locs ls v727 (lv_sub hl [0, 1] rfl)  hI hS
theorem dX11_write_0g : (decode cX11_write 0 = .ok (.bipush 24, 2)) ∧ (decode cX11_write 2 = .ok (.istore_n 2, 1)) ∧ (decode cX11_write 3 = .ok (.iload_n 2, 1)) ∧ (decode cX11_write 4 = .ok (.ifCond .lt 45, 3)) ∧ (decode cX11_write 7 = .ok (.aload_n 0, 1)) ∧ (decode cX11_write 8 = .ok (.getfield 89, 3)) ∧ (decode cX11_write 11 = .ok (.sipush 400, 3)) ∧ (decode cX11_write 14 = .ok (.if_icmp .ge 35, 3)) ∧ (decode cX11_write 17 = .ok (.aload_n 0, 1)) ∧ (decode cX11_write 18 = .ok (.getfield 20, 3)) := by decide +kernel
theorem dX11_write_0 : decode cX11_write 0 = .ok (.bipush 24, 2) := dX11_write_0g.1
theorem dX11_write_2 : decode cX11_write 2 = .ok (.istore_n 2, 1) := dX11_write_0g.2.1
theorem dX11_write_3 : decode cX11_write 3 = .ok (.iload_n 2, 1) := dX11_write_0g.2.2.1
theorem dX11_write_4 : decode cX11_write 4 = .ok (.ifCond .lt 45, 3) := dX11_write_0g.2.2.2.1
theorem dX11_write_7 : decode cX11_write 7 = .ok (.aload_n 0, 1) := dX11_write_0g.2.2.2.2.1
theorem dX11_write_8 : decode cX11_write 8 = .ok (.getfield 89, 3) := dX11_write_0g.2.2.2.2.2.1
theorem dX11_write_11 : decode cX11_write 11 = .ok (.sipush 400, 3) := dX11_write_0g.2.2.2.2.2.2.1
theorem dX11_write_14 : decode cX11_write 14 = .ok (.if_icmp .ge 35, 3) := dX11_write_0g.2.2.2.2.2.2.2.1
theorem dX11_write_17 : decode cX11_write 17 = .ok (.aload_n 0, 1) := dX11_write_0g.2.2.2.2.2.2.2.2.1
theorem dX11_write_18 : decode cX11_write 18 = .ok (.getfield 20, 3) := dX11_write_0g.2.2.2.2.2.2.2.2.2
theorem dX11_write_21g : (decode cX11_write 21 = .ok (.aload_n 0, 1)) ∧ (decode cX11_write 22 = .ok (.getfield 89, 3)) ∧ (decode cX11_write 25 = .ok (.iload_n 1, 1)) ∧ (decode cX11_write 26 = .ok (.iload_n 2, 1)) ∧ (decode cX11_write 27 = .ok (.ishr, 1)) ∧ (decode cX11_write 28 = .ok (.sipush 255, 3)) ∧ (decode cX11_write 31 = .ok (.iand, 1)) ∧ (decode cX11_write 32 = .ok (.iastore, 1)) ∧ (decode cX11_write 33 = .ok (.aload_n 0, 1)) ∧ (decode cX11_write 34 = .ok (.dup, 1)) := by decide +kernel
theorem dX11_write_21 : decode cX11_write 21 = .ok (.aload_n 0, 1) := dX11_write_21g.1
theorem dX11_write_22 : decode cX11_write 22 = .ok (.getfield 89, 3) := dX11_write_21g.2.1
theorem dX11_write_25 : decode cX11_write 25 = .ok (.iload_n 1, 1) := dX11_write_21g.2.2.1
theorem dX11_write_26 : decode cX11_write 26 = .ok (.iload_n 2, 1) := dX11_write_21g.2.2.2.1
theorem dX11_write_27 : decode cX11_write 27 = .ok (.ishr, 1) := dX11_write_21g.2.2.2.2.1
theorem dX11_write_28 : decode cX11_write 28 = .ok (.sipush 255, 3) := dX11_write_21g.2.2.2.2.2.1
theorem dX11_write_31 : decode cX11_write 31 = .ok (.iand, 1) := dX11_write_21g.2.2.2.2.2.2.1
theorem dX11_write_32 : decode cX11_write 32 = .ok (.iastore, 1) := dX11_write_21g.2.2.2.2.2.2.2.1
theorem dX11_write_33 : decode cX11_write 33 = .ok (.aload_n 0, 1) := dX11_write_21g.2.2.2.2.2.2.2.2.1
theorem dX11_write_34 : decode cX11_write 34 = .ok (.dup, 1) := dX11_write_21g.2.2.2.2.2.2.2.2.2
theorem dX11_write_35g : (decode cX11_write 35 = .ok (.getfield 89, 3)) ∧ (decode cX11_write 38 = .ok (.iconst 1, 1)) ∧ (decode cX11_write 39 = .ok (.iadd, 1)) ∧ (decode cX11_write 40 = .ok (.putfield 89, 3)) ∧ (decode cX11_write 43 = .ok (.iinc 2 (-8), 3)) ∧ (decode cX11_write 46 = .ok (.goto (-43), 3)) ∧ (decode cX11_write 49 = .ok (.return_, 1)) := by decide +kernel
theorem dX11_write_35 : decode cX11_write 35 = .ok (.getfield 89, 3) := dX11_write_35g.1
theorem dX11_write_38 : decode cX11_write 38 = .ok (.iconst 1, 1) := dX11_write_35g.2.1
theorem dX11_write_39 : decode cX11_write 39 = .ok (.iadd, 1) := dX11_write_35g.2.2.1
theorem dX11_write_40 : decode cX11_write 40 = .ok (.putfield 89, 3) := dX11_write_35g.2.2.2.1
theorem dX11_write_43 : decode cX11_write 43 = .ok (.iinc 2 (-8), 3) := dX11_write_35g.2.2.2.2.1
theorem dX11_write_46 : decode cX11_write 46 = .ok (.goto (-43), 3) := dX11_write_35g.2.2.2.2.2.1
theorem dX11_write_49 : decode cX11_write 49 = .ok (.return_, 1) := dX11_write_35g.2.2.2.2.2.2
set_option maxHeartbeats 4000000 in
set_option maxRecDepth 100000 in
theorem c_X11_write (l : Launch) (E : Nat → Nat) (D : va_G) (G : th_G) (h0 n : Nat) (hG0 : G h0 = some (15, n)) (x1 : Int32) : Met l yX11_write (tb (.code yX11_write cX11_write 3 none)) (rm 0) (va_Pc [.ref h0, .int x1] (th_P E D G)) (QV E D G) 0 0 (th_A G) := by
  refine Met.ofW (cc := cX11_write) (maxL := 3) (ret := none) (by decide) rfl ?_
  intro p e s m args below meth c s₁ B hml hv
  obtain ⟨hav, hI, hN, hK⟩ := hv
  have hx := B.exec
  have hb := B.bytes
  have hr := B.returns
  have hts := atoms_spec (ws := tb (.code yX11_write cX11_write 3 none)) B.pre
  have hown : s.vm.findClass RX11 = some m.cls := findClass_of_methodNamed B.named
  have hlocks := B.notSynchronized
  have hS : va_S (th_A G) s.heap s.heap [] := va_S.rf
  have hl := lv_entry ([.ref h0, .int x1]) (n := 3) (Nat.le_of_ble_eq_true rfl)
  rw [show entryFrame m args 3 = entryFrame m ([.ref h0, .int x1] : List Value).toArray 3 from by rw [hav], lg_entry_eq]
  generalize (lg_sl ([.ref h0, .int x1]) ++ List.replicate (3 - (lg_sl ([.ref h0, .int x1])).length) Slot.unset).toArray = ls at hl ⊢
  have hl : lv_has ls 3 [(0, .ref h0), (1, .int x1)] := hl
  generalize hR : (headSpec (tb (.code yX11_write cX11_write 3 none)) (rm 0)).room = R
  have hR := hR.symm
  generalize hQ : MQ below (QV E D G) args s 0 0 (th_A G) = QF
  have hQ := hQ.symm
  have J_3 : ∀ (nn : Nat) (H : Heap) (locs : List Loc) (ls : Array Slot) (v514 : Int32), (Int.toNat (v514.toInt - (-8)) = nn) → lv_has ls 3 [(2, .int v514), (0, .ref h0), (1, .int x1)] → ((-8 : Int) ≤ v514.toInt ∧ v514.toInt ≤ 24) → th_I (okC E) D G [] H → va_S (th_A G) s.heap H locs → W p l e R s m args below meth c H locs 0 0 QF (F0 m 3 ls []) := by
    intro nn
    induction nn using Nat.strongRecOn with
    | ind nn ih_3 =>
      intro H locs ls v514 hm hl k515 hI hS
      refine lv_iload_n hx hb dX11_write_3 rfl (lv_at hl 0 rfl) ?_
      refine lv_if_lt (tgt := 49) hx hb dX11_write_4 (by decide) (fun c516 => ?_) (fun c516 => ?_)
      · skip
        have k517 := iv_lt (X := v514.toInt) (Y := (0)) rfl (by decide) c516
        rw [hQ]
        exact W.vret hx hb hr (fun t ht hW => ⟨⟨(), rfl, trivial, by rw [ht]; exact hI, hN.warm hW, va_K.moved hW.alike hK⟩, hS.F ht⟩) hS.2.2 dX11_write_49
      · skip
        have k518 := iv_nlt (X := v514.toInt) (Y := (0)) rfl (by decide) c516
        refine lv_aload_n hx hb dX11_write_7 rfl (lv_at hl 1 rfl) ?_
        obtain ⟨a519, a522, a524, a526, a528, a530, a532, a534, a536, a538, a540, w542, w545, w546, w547, w548, hO, hq520, hq521, hq523, hq525, hq527, hq529, hq531, hq533, hq535, hq537, hq539, hq541, ⟨k543, k544⟩, k549⟩ := op_15 hI hG0 List.not_mem_nil
        have hI := th_I.weak (a := h0) hI
        refine th_get hx hb hts inT11 hown hK hO rfl 12 (by decide) (hts _ (tb_c wd_357)) rfl rfl dX11_write_8 ?_
        refine lv_sipush (v := 400) hx hb dX11_write_11 (by decide) ?_
        refine lv_icmp_ge (tgt := 49) hx hb dX11_write_14 (by decide) (fun c550 => ?_) (fun c550 => ?_)
        · skip
          have k551 := iv_le (X := (400)) (Y := w542.toInt) (by decide) rfl c550
          have hI := th_I.close hI hG0 hO (ok_15 hq520 hq521 hq523 hq525 hq527 hq529 hq531 hq533 hq535 hq537 hq539 hq541 ⟨by omega, by omega⟩ k549)
          rw [hQ]
          exact W.vret hx hb hr (fun t ht hW => ⟨⟨(), rfl, trivial, by rw [ht]; exact hI, hN.warm hW, va_K.moved hW.alike hK⟩, hS.F ht⟩) hS.2.2 dX11_write_49
        · skip
          have k552 := iv_nle (X := (400)) (Y := w542.toInt) (by decide) rfl c550
          refine lv_aload_n hx hb dX11_write_17 rfl (lv_at hl 1 rfl) ?_
          refine th_get hx hb hts inT11 hown hK hO rfl 2 (by decide) (hts _ (tb_c wd_347)) rfl rfl dX11_write_18 ?_
          refine lv_aload_n hx hb dX11_write_21 rfl (lv_at hl 1 rfl) ?_
          refine th_get hx hb hts inT11 hown hK hO rfl 12 (by decide) (hts _ (tb_c wd_357)) rfl rfl dX11_write_22 ?_
          refine lv_iload_n hx hb dX11_write_25 rfl (lv_at hl 2 rfl) ?_
          refine lv_iload_n hx hb dX11_write_26 rfl (lv_at hl 0 rfl) ?_
          refine lv_ishr hx hb dX11_write_27 ?_
          refine lv_topi (fun v553 e554 => ?_)
          refine lv_sipush (v := 255) hx hb dX11_write_28 (by decide) ?_
          refine lv_iand hx hb dX11_write_31 ?_
          refine lv_topi (fun v555 e556 => ?_)
          have tv555 := iv_andr (m := 255) (M := 255) e556 (by decide) (by decide)
          obtain ⟨_, hA557⟩ := op_0 hI hq523 (th_ne hG0 hq523 (show (15 : Nat) ≠ 0 by decide))
          refine th_iast hx hb hK hA557 0 rfl hS ⟨_, hq523⟩ (iv_in (X := w542.toInt) rfl (by omega) (by omega)) dX11_write_32 (fun H locs hA557 oq hS => ?_)
          have hI := th_I.put hI hq523 hA557 ok_0 oq
          have hO := hO.kept (oq _ (fun z => th_ne hG0 hq523 (show (15 : Nat) ≠ 0 by decide) (List.mem_singleton.mpr z.symm)))
          refine lv_aload_n hx hb dX11_write_33 rfl (lv_at hl 1 rfl) ?_
          refine lv_dup hx hb dX11_write_34 rfl ?_
          refine th_get hx hb hts inT11 hown hK hO rfl 12 (by decide) (hts _ (tb_c wd_357)) rfl rfl dX11_write_35 ?_
          refine lv_iconst (v := 1) hx hb dX11_write_38 (by decide) ?_
          refine lv_iadd hx hb dX11_write_39 ?_
          refine lv_topi (fun v558 e559 => ?_)
          have tv558 : v558.toInt = w542.toInt + (1) := iv_add rfl (by decide) e559 (by omega) (by omega)
          refine th_put (ty := .int) hx hb hts inT11 tyX11 tyX11_ok nmX11 hown hK hO hS ⟨_, hG0⟩ rfl 12 (by decide) (hts _ (tb_c wd_357)) rfl rfl (by decide +kernel) rfl rfl (Nat.le_of_ble_eq_true rfl) dX11_write_40 (fun H locs hO oq hS => ?_)
          have hI := th_I.moved hI oq
          have hO : va_at D vwCl (h0, .inr (11, [.ref a519, .ref n, .ref a522, .ref a524, .ref a526, .ref a528, .ref a530, .ref a532, .ref a534, .ref a536, .ref a538, .ref a540, .int v558, .int w545, .int w546, .int w547, .int w548])) H := hO
          obtain ⟨v560, e561⟩ : ∃ y : Int32, y = v514 + (-8) := ⟨_, rfl⟩
          have tv560 : v560.toInt = v514.toInt + (-8) := iv_add rfl (by decide) e561 (by omega) (by omega)
          refine lv_iinc (v := v560) (lv' := [(2, .int v560), (0, .ref h0), (1, .int x1)]) hx hb dX11_write_43 hl (k := 0) rfl (by rw [e561]; rfl) (by decide) rfl (fun ls hl => ?_)
          refine lv_goto (tgt := 3) hx hb dX11_write_46 (by decide) ?_
          have hI := th_I.close hI hG0 hO (ok_15 hq520 hq521 hq523 hq525 hq527 hq529 hq531 hq533 hq535 hq537 hq539 hq541 ⟨by omega, by omega⟩ k549)
          exact ih_3 _ (by omega) H locs ls v560 rfl (lv_sub hl [0, 1, 2] rfl) ⟨by omega, by omega⟩ hI hS
  refine lv_bipush (v := 24) hx hb dX11_write_0 (by decide) ?_
  refine lv_istore_n (lv' := [(2, .int 24), (0, .ref h0), (1, .int x1)]) hx hb dX11_write_2 rfl hl (by decide) rfl (fun ls hl => ?_)
  have zl : (24 : Int32).toInt = 24 := by decide
  exact J_3 _ s.heap [] ls 24 rfl (lv_sub hl [0, 1, 2] rfl) ⟨by decide, by decide⟩ hI hS
theorem dX11_end_0g : (decode cX11_end 0 = .ok (.iload_n 1, 1)) ∧ (decode cX11_end 1 = .ok (.ifCond .lt 11, 3)) ∧ (decode cX11_end 4 = .ok (.iload_n 1, 1)) ∧ (decode cX11_end 5 = .ok (.aload_n 0, 1)) ∧ (decode cX11_end 6 = .ok (.getfield 89, 3)) ∧ (decode cX11_end 9 = .ok (.if_icmp .le 5, 3)) ∧ (decode cX11_end 12 = .ok (.iconst (-1), 1)) ∧ (decode cX11_end 13 = .ok (.ireturn, 1)) ∧ (decode cX11_end 14 = .ok (.aload_n 0, 1)) ∧ (decode cX11_end 15 = .ok (.iload_n 1, 1)) := by decide +kernel
theorem dX11_end_0 : decode cX11_end 0 = .ok (.iload_n 1, 1) := dX11_end_0g.1
theorem dX11_end_1 : decode cX11_end 1 = .ok (.ifCond .lt 11, 3) := dX11_end_0g.2.1
theorem dX11_end_4 : decode cX11_end 4 = .ok (.iload_n 1, 1) := dX11_end_0g.2.2.1
theorem dX11_end_5 : decode cX11_end 5 = .ok (.aload_n 0, 1) := dX11_end_0g.2.2.2.1
theorem dX11_end_6 : decode cX11_end 6 = .ok (.getfield 89, 3) := dX11_end_0g.2.2.2.2.1
theorem dX11_end_9 : decode cX11_end 9 = .ok (.if_icmp .le 5, 3) := dX11_end_0g.2.2.2.2.2.1
theorem dX11_end_12 : decode cX11_end 12 = .ok (.iconst (-1), 1) := dX11_end_0g.2.2.2.2.2.2.1
theorem dX11_end_13 : decode cX11_end 13 = .ok (.ireturn, 1) := dX11_end_0g.2.2.2.2.2.2.2.1
theorem dX11_end_14 : decode cX11_end 14 = .ok (.aload_n 0, 1) := dX11_end_0g.2.2.2.2.2.2.2.2.1
theorem dX11_end_15 : decode cX11_end 15 = .ok (.iload_n 1, 1) := dX11_end_0g.2.2.2.2.2.2.2.2.2
theorem dX11_end_16g : (decode cX11_end 16 = .ok (.putfield 89, 3)) ∧ (decode cX11_end 19 = .ok (.iload_n 1, 1)) ∧ (decode cX11_end 20 = .ok (.ireturn, 1)) := by decide +kernel
theorem dX11_end_16 : decode cX11_end 16 = .ok (.putfield 89, 3) := dX11_end_16g.1
theorem dX11_end_19 : decode cX11_end 19 = .ok (.iload_n 1, 1) := dX11_end_16g.2.1
theorem dX11_end_20 : decode cX11_end 20 = .ok (.ireturn, 1) := dX11_end_16g.2.2
set_option maxHeartbeats 4000000 in
set_option maxRecDepth 100000 in
theorem c_X11_end (l : Launch) (E : Nat → Nat) (D : va_G) (G : th_G) (h0 n : Nat) (hG0 : G h0 = some (15, n)) (x1 : Int32) : Met l yX11_end (tb (.code yX11_end cX11_end 2 (some .int))) (rm 0) (va_Pc [.ref h0, .int x1] (th_P E D G)) (QI E D G (fun r => True)) 0 0 (th_A G) := by
  refine Met.ofW (cc := cX11_end) (maxL := 2) (ret := (some .int)) (by decide) rfl ?_
  intro p e s m args below meth c s₁ B hml hv
  obtain ⟨hav, hI, hN, hK⟩ := hv
  have hx := B.exec
  have hb := B.bytes
  have hr := B.returns
  have hts := atoms_spec (ws := tb (.code yX11_end cX11_end 2 (some .int))) B.pre
  have hown : s.vm.findClass RX11 = some m.cls := findClass_of_methodNamed B.named
  have hlocks := B.notSynchronized
  have hS : va_S (th_A G) s.heap s.heap [] := va_S.rf
  have hl := lv_entry ([.ref h0, .int x1]) (n := 2) (Nat.le_of_ble_eq_true rfl)
  rw [show entryFrame m args 2 = entryFrame m ([.ref h0, .int x1] : List Value).toArray 2 from by rw [hav], lg_entry_eq]
  generalize (lg_sl ([.ref h0, .int x1]) ++ List.replicate (2 - (lg_sl ([.ref h0, .int x1])).length) Slot.unset).toArray = ls at hl ⊢
  have hl : lv_has ls 2 [(0, .ref h0), (1, .int x1)] := hl
  generalize hR : (headSpec (tb (.code yX11_end cX11_end 2 (some .int))) (rm 0)).room = R
  have hR := hR.symm
  generalize hQ : MQ below (QI E D G (fun r => True)) args s 0 0 (th_A G) = QF
  have hQ := hQ.symm
  refine lv_iload_n hx hb dX11_end_0 rfl (lv_at hl 1 rfl) ?_
  have k1 := iv_lo x1
  have k2 := iv_hi x1
  refine lv_if_lt (tgt := 12) hx hb dX11_end_1 (by decide) (fun c3 => ?_) (fun c3 => ?_)
  · skip
    have k4 := iv_lt (X := x1.toInt) (Y := (0)) rfl (by decide) c3
    refine lv_iconst (v := (-1)) hx hb dX11_end_12 (by decide) ?_
    have hpost : True := trivial
    rw [hQ]
    exact W.iret (v := (-1)) hx hb hr (fun t ht hW => ⟨⟨(-1), (), rfl, hpost, by rw [ht]; exact hI, hN.warm hW, va_K.moved hW.alike hK⟩, hS.F ht⟩) hS.2.2 dX11_end_13
  · skip
    have k5 := iv_nlt (X := x1.toInt) (Y := (0)) rfl (by decide) c3
    refine lv_iload_n hx hb dX11_end_4 rfl (lv_at hl 1 rfl) ?_
    refine lv_aload_n hx hb dX11_end_5 rfl (lv_at hl 0 rfl) ?_
    obtain ⟨a6, a9, a11, a13, a15, a17, a19, a21, a23, a25, a27, w29, w32, w33, w34, w35, hO, hq7, hq8, hq10, hq12, hq14, hq16, hq18, hq20, hq22, hq24, hq26, hq28, ⟨k30, k31⟩, k36⟩ := op_15 hI hG0 List.not_mem_nil
    have hI := th_I.weak (a := h0) hI
    refine th_get hx hb hts inT11 hown hK hO rfl 12 (by decide) (hts _ (tb_c wd_357)) rfl rfl dX11_end_6 ?_
    refine lv_icmp_le (tgt := 14) hx hb dX11_end_9 (by decide) (fun c37 => ?_) (fun c37 => ?_)
    · skip
      have k38 := iv_le (X := x1.toInt) (Y := w29.toInt) rfl rfl c37
      refine lv_aload_n hx hb dX11_end_14 rfl (lv_at hl 0 rfl) ?_
      refine lv_iload_n hx hb dX11_end_15 rfl (lv_at hl 1 rfl) ?_
      refine th_put (ty := .int) hx hb hts inT11 tyX11 tyX11_ok nmX11 hown hK hO hS ⟨_, hG0⟩ rfl 12 (by decide) (hts _ (tb_c wd_357)) rfl rfl (by decide +kernel) rfl rfl (Nat.le_of_ble_eq_true rfl) dX11_end_16 (fun H locs hO oq hS => ?_)
      have hI := th_I.moved hI oq
      have hO : va_at D vwCl (h0, .inr (11, [.ref a6, .ref n, .ref a9, .ref a11, .ref a13, .ref a15, .ref a17, .ref a19, .ref a21, .ref a23, .ref a25, .ref a27, .int x1, .int w32, .int w33, .int w34, .int w35])) H := hO
      refine lv_iload_n hx hb dX11_end_19 rfl (lv_at hl 1 rfl) ?_
      have hI := th_I.close hI hG0 hO (ok_15 hq7 hq8 hq10 hq12 hq14 hq16 hq18 hq20 hq22 hq24 hq26 hq28 ⟨by omega, by omega⟩ k36)
      have hpost : True := trivial
      rw [hQ]
      exact W.iret (v := x1) hx hb hr (fun t ht hW => ⟨⟨x1, (), rfl, hpost, by rw [ht]; exact hI, hN.warm hW, va_K.moved hW.alike hK⟩, hS.F ht⟩) hS.2.2 dX11_end_20
    · skip
      have k39 := iv_nle (X := x1.toInt) (Y := w29.toInt) rfl rfl c37
      refine lv_iconst (v := (-1)) hx hb dX11_end_12 (by decide) ?_
      have hI := th_I.close hI hG0 hO (ok_15 hq7 hq8 hq10 hq12 hq14 hq16 hq18 hq20 hq22 hq24 hq26 hq28 ⟨by omega, by omega⟩ k36)
      have hpost : True := trivial
      rw [hQ]
      exact W.iret (v := (-1)) hx hb hr (fun t ht hW => ⟨⟨(-1), (), rfl, hpost, by rw [ht]; exact hI, hN.warm hW, va_K.moved hW.alike hK⟩, hS.F ht⟩) hS.2.2 dX11_end_13
theorem dX11_of_0g : (decode cX11_of 0 = .ok (.iload_n 1, 1)) ∧ (decode cX11_of 1 = .ok (.invokestatic 117, 3)) ∧ (decode cX11_of 4 = .ok (.ifCond .eq 24, 3)) ∧ (decode cX11_of 7 = .ok (.iload_n 2, 1)) ∧ (decode cX11_of 8 = .ok (.ifCond .lt 20, 3)) ∧ (decode cX11_of 11 = .ok (.iload_n 2, 1)) ∧ (decode cX11_of 12 = .ok (.iconst 5, 1)) ∧ (decode cX11_of 13 = .ok (.if_icmp .ge 15, 3)) ∧ (decode cX11_of 16 = .ok (.aload_n 0, 1)) ∧ (decode cX11_of 17 = .ok (.getfield 12, 3)) := by decide +kernel
theorem dX11_of_0 : decode cX11_of 0 = .ok (.iload_n 1, 1) := dX11_of_0g.1
theorem dX11_of_1 : decode cX11_of 1 = .ok (.invokestatic 117, 3) := dX11_of_0g.2.1
theorem dX11_of_4 : decode cX11_of 4 = .ok (.ifCond .eq 24, 3) := dX11_of_0g.2.2.1
theorem dX11_of_7 : decode cX11_of 7 = .ok (.iload_n 2, 1) := dX11_of_0g.2.2.2.1
theorem dX11_of_8 : decode cX11_of 8 = .ok (.ifCond .lt 20, 3) := dX11_of_0g.2.2.2.2.1
theorem dX11_of_11 : decode cX11_of 11 = .ok (.iload_n 2, 1) := dX11_of_0g.2.2.2.2.2.1
theorem dX11_of_12 : decode cX11_of 12 = .ok (.iconst 5, 1) := dX11_of_0g.2.2.2.2.2.2.1
theorem dX11_of_13 : decode cX11_of 13 = .ok (.if_icmp .ge 15, 3) := dX11_of_0g.2.2.2.2.2.2.2.1
theorem dX11_of_16 : decode cX11_of 16 = .ok (.aload_n 0, 1) := dX11_of_0g.2.2.2.2.2.2.2.2.1
theorem dX11_of_17 : decode cX11_of 17 = .ok (.getfield 12, 3) := dX11_of_0g.2.2.2.2.2.2.2.2.2
theorem dX11_of_20g : (decode cX11_of 20 = .ok (.iload_n 1, 1)) ∧ (decode cX11_of 21 = .ok (.iload_n 2, 1)) ∧ (decode cX11_of 22 = .ok (.invokevirtual 130, 3)) ∧ (decode cX11_of 25 = .ok (.goto 4, 3)) ∧ (decode cX11_of 28 = .ok (.iconst (-1), 1)) ∧ (decode cX11_of 29 = .ok (.ireturn, 1)) := by decide +kernel
theorem dX11_of_20 : decode cX11_of 20 = .ok (.iload_n 1, 1) := dX11_of_20g.1
theorem dX11_of_21 : decode cX11_of 21 = .ok (.iload_n 2, 1) := dX11_of_20g.2.1
theorem dX11_of_22 : decode cX11_of 22 = .ok (.invokevirtual 130, 3) := dX11_of_20g.2.2.1
theorem dX11_of_25 : decode cX11_of 25 = .ok (.goto 4, 3) := dX11_of_20g.2.2.2.1
theorem dX11_of_28 : decode cX11_of 28 = .ok (.iconst (-1), 1) := dX11_of_20g.2.2.2.2.1
theorem dX11_of_29 : decode cX11_of 29 = .ok (.ireturn, 1) := dX11_of_20g.2.2.2.2.2
set_option maxHeartbeats 4000000 in
set_option maxRecDepth 100000 in
theorem c_X11_of (l : Launch) (E : Nat → Nat) (D : va_G) (G : th_G) (h0 n : Nat) (hG0 : G h0 = some (15, n)) (x1 x2 : Int32) : Met l yX11_of (tb (.code yX11_of cX11_of 3 (some .int))) (rm 2) (va_Pc [.ref h0, .int x1, .int x2] (th_P E D G)) (QI E D G (fun r => True)) 0 0 (th_A G) := by
  refine Met.ofW (cc := cX11_of) (maxL := 3) (ret := (some .int)) (by decide) rfl ?_
  intro p e s m args below meth c s₁ B hml hv
  obtain ⟨hav, hI, hN, hK⟩ := hv
  have hx := B.exec
  have hb := B.bytes
  have hr := B.returns
  have hts := atoms_spec (ws := tb (.code yX11_of cX11_of 3 (some .int))) B.pre
  have hown : s.vm.findClass RX11 = some m.cls := findClass_of_methodNamed B.named
  have hlocks := B.notSynchronized
  have hS : va_S (th_A G) s.heap s.heap [] := va_S.rf
  have hl := lv_entry ([.ref h0, .int x1, .int x2]) (n := 3) (Nat.le_of_ble_eq_true rfl)
  rw [show entryFrame m args 3 = entryFrame m ([.ref h0, .int x1, .int x2] : List Value).toArray 3 from by rw [hav], lg_entry_eq]
  generalize (lg_sl ([.ref h0, .int x1, .int x2]) ++ List.replicate (3 - (lg_sl ([.ref h0, .int x1, .int x2])).length) Slot.unset).toArray = ls at hl ⊢
  have hl : lv_has ls 3 [(0, .ref h0), (1, .int x1), (2, .int x2)] := hl
  generalize hR : (headSpec (tb (.code yX11_of cX11_of 3 (some .int))) (rm 2)).room = R
  have hR := hR.symm
  generalize hQ : MQ below (QI E D G (fun r => True)) args s 0 0 (th_A G) = QF
  have hQ := hQ.symm
  refine lv_iload_n hx hb dX11_of_0 rfl (lv_at hl 1 rfl) ?_
  refine th_cSs (As := [.int x1]) (rest := []) (n := 1) (d := 0) ⟨hx, hb, hml, hown, hts⟩ (c_X11_isPump l s.heap x1) wd_411 wd_412 wd_1 wd_413 (by decide +kernel) ⟨by rw [hR]; exact Nat.le_of_ble_eq_true rfl, by rw [hR]; exact Nat.le_of_ble_eq_true rfl⟩ hN hS rfl hl.1 rfl (Nat.le_of_ble_eq_true rfl) dX11_of_1 ⟨Nat.zero_le _, Nat.zero_le _⟩ (fun r1 locs hp hS => ?_)
  rcases hp with ⟨rfl, hp⟩ | ⟨rfl, hp⟩
  · skip
    try simp only [rg, not_and, Int.not_le] at hp
    have hp2 := hp
    refine lv_if_eq (tgt := 28) hx hb dX11_of_4 (by decide) (fun c => absurd c (by decide)) (fun _ => ?_)
    refine lv_iload_n hx hb dX11_of_7 rfl (lv_at hl 2 rfl) ?_
    have k3 := iv_lo x2
    have k4 := iv_hi x2
    refine lv_if_lt (tgt := 28) hx hb dX11_of_8 (by decide) (fun c5 => ?_) (fun c5 => ?_)
    · skip
      have k6 := iv_lt (X := x2.toInt) (Y := (0)) rfl (by decide) c5
      refine lv_iconst (v := (-1)) hx hb dX11_of_28 (by decide) ?_
      have hpost : True := trivial
      rw [hQ]
      exact W.iret (v := (-1)) hx hb hr (fun t ht hW => ⟨⟨(-1), (), rfl, hpost, by rw [ht]; exact hI, hN.warm hW, va_K.moved hW.alike hK⟩, hS.F ht⟩) hS.2.2 dX11_of_29
    · skip
      have k7 := iv_nlt (X := x2.toInt) (Y := (0)) rfl (by decide) c5
      refine lv_iload_n hx hb dX11_of_11 rfl (lv_at hl 2 rfl) ?_
      refine lv_iconst (v := 5) hx hb dX11_of_12 (by decide) ?_
      refine lv_icmp_ge (tgt := 28) hx hb dX11_of_13 (by decide) (fun c8 => ?_) (fun c8 => ?_)
      · skip
        have k9 := iv_le (X := (5)) (Y := x2.toInt) (by decide) rfl c8
        refine lv_iconst (v := (-1)) hx hb dX11_of_28 (by decide) ?_
        have hpost : True := trivial
        rw [hQ]
        exact W.iret (v := (-1)) hx hb hr (fun t ht hW => ⟨⟨(-1), (), rfl, hpost, by rw [ht]; exact hI, hN.warm hW, va_K.moved hW.alike hK⟩, hS.F ht⟩) hS.2.2 dX11_of_29
      · skip
        have k10 := iv_nle (X := (5)) (Y := x2.toInt) (by decide) rfl c8
        refine lv_aload_n hx hb dX11_of_16 rfl (lv_at hl 0 rfl) ?_
        obtain ⟨a11, a14, a16, a18, a20, a22, a24, a26, a28, a30, a32, w34, w37, w38, w39, w40, hO, hq12, hq13, hq15, hq17, hq19, hq21, hq23, hq25, hq27, hq29, hq31, hq33, ⟨k35, k36⟩, k41⟩ := op_15 hI hG0 List.not_mem_nil
        have hI := th_I.weak (a := h0) hI
        refine th_get hx hb hts inT11 hown hK hO rfl 0 (by decide) (hts _ (tb_c wd_345)) rfl rfl dX11_of_17 ?_
        refine lv_iload_n hx hb dX11_of_20 rfl (lv_at hl 1 rfl) ?_
        refine lv_iload_n hx hb dX11_of_21 rfl (lv_at hl 2 rfl) ?_
        have hI := th_I.close hI hG0 hO (ok_15 hq12 hq13 hq15 hq17 hq19 hq21 hq23 hq25 hq27 hq29 hq31 hq33 ⟨by omega, by omega⟩ k41)
        refine th_cVi (As := [.int x1, .int x2]) (rest := []) (n := 2) (d := 1) ⟨hx, hb, hml, hown, hts⟩ (c_X6_pumpPart l E D G a11 hq12 x1 x2) wd_455 wd_456 wd_457 wd_2 wd_458 (by decide +kernel) ⟨by rw [hR]; exact Nat.le_of_ble_eq_true rfl, by rw [hR]; exact Nat.le_of_ble_eq_true rfl⟩ hI hN hK hS (rc_6 hI hq12 List.not_mem_nil) rfl rfl hl.1 rfl (Nat.le_of_ble_eq_true rfl) dX11_of_22 ⟨Nat.zero_le _, Nat.zero_le _⟩ (fun r42 H locs hp hI hS => ?_)
        refine lv_goto (tgt := 29) hx hb dX11_of_25 (by decide) ?_
        have hpost : True := trivial
        rw [hQ]
        exact W.iret (v := r42) hx hb hr (fun t ht hW => ⟨⟨r42, (), rfl, hpost, by rw [ht]; exact hI, hN.warm hW, va_K.moved hW.alike hK⟩, hS.F ht⟩) hS.2.2 dX11_of_29
  · skip
    try simp only [rg, not_and, Int.not_le] at hp
    have hp43 := hp
    refine lv_if_eq (tgt := 28) hx hb dX11_of_4 (by decide) (fun _ => ?_) (fun c => absurd c (by decide))
    refine lv_iconst (v := (-1)) hx hb dX11_of_28 (by decide) ?_
    have hpost : True := trivial
    rw [hQ]
    exact W.iret (v := (-1)) hx hb hr (fun t ht hW => ⟨⟨(-1), (), rfl, hpost, by rw [ht]; exact hI, hN.warm hW, va_K.moved hW.alike hK⟩, hS.F ht⟩) hS.2.2 dX11_of_29
theorem dX11_pump_0g : (decode cX11_pump 0 = .ok (.iload_n 2, 1)) ∧ (decode cX11_pump 1 = .ok (.invokestatic 106, 3)) ∧ (decode cX11_pump 4 = .ok (.ifCond .eq 43, 3)) ∧ (decode cX11_pump 7 = .ok (.iload_n 3, 1)) ∧ (decode cX11_pump 8 = .ok (.invokestatic 106, 3)) ∧ (decode cX11_pump 11 = .ok (.ifCond .eq 36, 3)) ∧ (decode cX11_pump 14 = .ok (.iload_n 3, 1)) ∧ (decode cX11_pump 15 = .ok (.iload_n 2, 1)) ∧ (decode cX11_pump 16 = .ok (.if_icmp .lt 31, 3)) ∧ (decode cX11_pump 19 = .ok (.iload 4, 2)) := by decide +kernel
theorem dX11_pump_0 : decode cX11_pump 0 = .ok (.iload_n 2, 1) := dX11_pump_0g.1
theorem dX11_pump_1 : decode cX11_pump 1 = .ok (.invokestatic 106, 3) := dX11_pump_0g.2.1
theorem dX11_pump_4 : decode cX11_pump 4 = .ok (.ifCond .eq 43, 3) := dX11_pump_0g.2.2.1
theorem dX11_pump_7 : decode cX11_pump 7 = .ok (.iload_n 3, 1) := dX11_pump_0g.2.2.2.1
theorem dX11_pump_8 : decode cX11_pump 8 = .ok (.invokestatic 106, 3) := dX11_pump_0g.2.2.2.2.1
theorem dX11_pump_11 : decode cX11_pump 11 = .ok (.ifCond .eq 36, 3) := dX11_pump_0g.2.2.2.2.2.1
theorem dX11_pump_14 : decode cX11_pump 14 = .ok (.iload_n 3, 1) := dX11_pump_0g.2.2.2.2.2.2.1
theorem dX11_pump_15 : decode cX11_pump 15 = .ok (.iload_n 2, 1) := dX11_pump_0g.2.2.2.2.2.2.2.1
theorem dX11_pump_16 : decode cX11_pump 16 = .ok (.if_icmp .lt 31, 3) := dX11_pump_0g.2.2.2.2.2.2.2.2.1
theorem dX11_pump_19 : decode cX11_pump 19 = .ok (.iload 4, 2) := dX11_pump_0g.2.2.2.2.2.2.2.2.2
theorem dX11_pump_21g : (decode cX11_pump 21 = .ok (.invokestatic 110, 3)) ∧ (decode cX11_pump 24 = .ok (.ifCond .eq 23, 3)) ∧ (decode cX11_pump 27 = .ok (.iload 5, 2)) ∧ (decode cX11_pump 29 = .ok (.invokestatic 110, 3)) ∧ (decode cX11_pump 32 = .ok (.ifCond .eq 15, 3)) ∧ (decode cX11_pump 35 = .ok (.iload 6, 2)) ∧ (decode cX11_pump 37 = .ok (.ifCond .lt 10, 3)) ∧ (decode cX11_pump 40 = .ok (.iload 6, 2)) ∧ (decode cX11_pump 42 = .ok (.bipush 6, 2)) ∧ (decode cX11_pump 44 = .ok (.if_icmp .le 9, 3)) := by decide +kernel
theorem dX11_pump_21 : decode cX11_pump 21 = .ok (.invokestatic 110, 3) := dX11_pump_21g.1
theorem dX11_pump_24 : decode cX11_pump 24 = .ok (.ifCond .eq 23, 3) := dX11_pump_21g.2.1
theorem dX11_pump_27 : decode cX11_pump 27 = .ok (.iload 5, 2) := dX11_pump_21g.2.2.1
theorem dX11_pump_29 : decode cX11_pump 29 = .ok (.invokestatic 110, 3) := dX11_pump_21g.2.2.2.1
theorem dX11_pump_32 : decode cX11_pump 32 = .ok (.ifCond .eq 15, 3) := dX11_pump_21g.2.2.2.2.1
theorem dX11_pump_35 : decode cX11_pump 35 = .ok (.iload 6, 2) := dX11_pump_21g.2.2.2.2.2.1
theorem dX11_pump_37 : decode cX11_pump 37 = .ok (.ifCond .lt 10, 3) := dX11_pump_21g.2.2.2.2.2.2.1
theorem dX11_pump_40 : decode cX11_pump 40 = .ok (.iload 6, 2) := dX11_pump_21g.2.2.2.2.2.2.2.1
theorem dX11_pump_42 : decode cX11_pump 42 = .ok (.bipush 6, 2) := dX11_pump_21g.2.2.2.2.2.2.2.2.1
theorem dX11_pump_44 : decode cX11_pump 44 = .ok (.if_icmp .le 9, 3) := dX11_pump_21g.2.2.2.2.2.2.2.2.2
theorem dX11_pump_47g : (decode cX11_pump 47 = .ok (.aload_n 0, 1)) ∧ (decode cX11_pump 48 = .ok (.iconst (-1), 1)) ∧ (decode cX11_pump 49 = .ok (.invokevirtual 113, 3)) ∧ (decode cX11_pump 52 = .ok (.ireturn, 1)) ∧ (decode cX11_pump 53 = .ok (.iload_n 1, 1)) ∧ (decode cX11_pump 54 = .ok (.invokestatic 117, 3)) ∧ (decode cX11_pump 57 = .ok (.ifCond .ne 10, 3)) ∧ (decode cX11_pump 60 = .ok (.aload_n 0, 1)) ∧ (decode cX11_pump 61 = .ok (.bipush (-2), 2)) ∧ (decode cX11_pump 63 = .ok (.invokevirtual 113, 3)) := by decide +kernel
theorem dX11_pump_47 : decode cX11_pump 47 = .ok (.aload_n 0, 1) := dX11_pump_47g.1
theorem dX11_pump_48 : decode cX11_pump 48 = .ok (.iconst (-1), 1) := dX11_pump_47g.2.1
theorem dX11_pump_49 : decode cX11_pump 49 = .ok (.invokevirtual 113, 3) := dX11_pump_47g.2.2.1
theorem dX11_pump_52 : decode cX11_pump 52 = .ok (.ireturn, 1) := dX11_pump_47g.2.2.2.1
theorem dX11_pump_53 : decode cX11_pump 53 = .ok (.iload_n 1, 1) := dX11_pump_47g.2.2.2.2.1
theorem dX11_pump_54 : decode cX11_pump 54 = .ok (.invokestatic 117, 3) := dX11_pump_47g.2.2.2.2.2.1
theorem dX11_pump_57 : decode cX11_pump 57 = .ok (.ifCond .ne 10, 3) := dX11_pump_47g.2.2.2.2.2.2.1
theorem dX11_pump_60 : decode cX11_pump 60 = .ok (.aload_n 0, 1) := dX11_pump_47g.2.2.2.2.2.2.2.1
theorem dX11_pump_61 : decode cX11_pump 61 = .ok (.bipush (-2), 2) := dX11_pump_47g.2.2.2.2.2.2.2.2.1
theorem dX11_pump_63 : decode cX11_pump 63 = .ok (.invokevirtual 113, 3) := dX11_pump_47g.2.2.2.2.2.2.2.2.2
theorem dX11_pump_66g : (decode cX11_pump 66 = .ok (.ireturn, 1)) ∧ (decode cX11_pump 67 = .ok (.aload_n 0, 1)) ∧ (decode cX11_pump 68 = .ok (.getfield 12, 3)) ∧ (decode cX11_pump 71 = .ok (.iload_n 1, 1)) ∧ (decode cX11_pump 72 = .ok (.iload_n 2, 1)) ∧ (decode cX11_pump 73 = .ok (.iload_n 3, 1)) ∧ (decode cX11_pump 74 = .ok (.iload 4, 2)) ∧ (decode cX11_pump 76 = .ok (.iload 5, 2)) ∧ (decode cX11_pump 78 = .ok (.iload 6, 2)) ∧ (decode cX11_pump 80 = .ok (.invokevirtual 120, 3)) := by decide +kernel
theorem dX11_pump_66 : decode cX11_pump 66 = .ok (.ireturn, 1) := dX11_pump_66g.1
theorem dX11_pump_67 : decode cX11_pump 67 = .ok (.aload_n 0, 1) := dX11_pump_66g.2.1
theorem dX11_pump_68 : decode cX11_pump 68 = .ok (.getfield 12, 3) := dX11_pump_66g.2.2.1
theorem dX11_pump_71 : decode cX11_pump 71 = .ok (.iload_n 1, 1) := dX11_pump_66g.2.2.2.1
theorem dX11_pump_72 : decode cX11_pump 72 = .ok (.iload_n 2, 1) := dX11_pump_66g.2.2.2.2.1
theorem dX11_pump_73 : decode cX11_pump 73 = .ok (.iload_n 3, 1) := dX11_pump_66g.2.2.2.2.2.1
theorem dX11_pump_74 : decode cX11_pump 74 = .ok (.iload 4, 2) := dX11_pump_66g.2.2.2.2.2.2.1
theorem dX11_pump_76 : decode cX11_pump 76 = .ok (.iload 5, 2) := dX11_pump_66g.2.2.2.2.2.2.2.1
theorem dX11_pump_78 : decode cX11_pump 78 = .ok (.iload 6, 2) := dX11_pump_66g.2.2.2.2.2.2.2.2.1
theorem dX11_pump_80 : decode cX11_pump 80 = .ok (.invokevirtual 120, 3) := dX11_pump_66g.2.2.2.2.2.2.2.2.2
theorem dX11_pump_83g : (decode cX11_pump 83 = .ok (.aload_n 0, 1)) ∧ (decode cX11_pump 84 = .ok (.invokevirtual 124, 3)) ∧ (decode cX11_pump 87 = .ok (.aload_n 0, 1)) ∧ (decode cX11_pump 88 = .ok (.iconst 0, 1)) ∧ (decode cX11_pump 89 = .ok (.invokevirtual 127, 3)) ∧ (decode cX11_pump 92 = .ok (.ireturn, 1)) := by decide +kernel
theorem dX11_pump_83 : decode cX11_pump 83 = .ok (.aload_n 0, 1) := dX11_pump_83g.1
theorem dX11_pump_84 : decode cX11_pump 84 = .ok (.invokevirtual 124, 3) := dX11_pump_83g.2.1
theorem dX11_pump_87 : decode cX11_pump 87 = .ok (.aload_n 0, 1) := dX11_pump_83g.2.2.1
theorem dX11_pump_88 : decode cX11_pump 88 = .ok (.iconst 0, 1) := dX11_pump_83g.2.2.2.1
theorem dX11_pump_89 : decode cX11_pump 89 = .ok (.invokevirtual 127, 3) := dX11_pump_83g.2.2.2.2.1
theorem dX11_pump_92 : decode cX11_pump 92 = .ok (.ireturn, 1) := dX11_pump_83g.2.2.2.2.2
set_option maxHeartbeats 4000000 in
set_option maxRecDepth 100000 in
theorem c_X11_pump (l : Launch) (E : Nat → Nat) (D : va_G) (G : th_G) (h0 n : Nat) (hG0 : G h0 = some (15, n)) (x1 x2 x3 x4 x5 x6 : Int32) : Met l yX11_pump (tb (.code yX11_pump cX11_pump 7 (some .int))) (rm 3) (va_Pc [.ref h0, .int x1, .int x2, .int x3, .int x4, .int x5, .int x6] (th_P E D G)) (QI E D G (fun r => ((r : Int32) = -1 ∧ ¬ (rg x2 0 23 ∧ rg x3 0 23 ∧ x2.toInt ≤ x3.toInt ∧ rg x4 0 23 ∧ rg x5 0 23 ∧ rg x6 0 6)) ∨ ((r : Int32) = -2 ∧ (rg x2 0 23 ∧ rg x3 0 23 ∧ x2.toInt ≤ x3.toInt ∧ rg x4 0 23 ∧ rg x5 0 23 ∧ rg x6 0 6) ∧ ¬ rg x1 0 1) ∨ ((r : Int32) = 0 ∧ (rg x2 0 23 ∧ rg x3 0 23 ∧ x2.toInt ≤ x3.toInt ∧ rg x4 0 23 ∧ rg x5 0 23 ∧ rg x6 0 6) ∧ rg x1 0 1))) 0 0 (th_A G) := by
  refine Met.ofW (cc := cX11_pump) (maxL := 7) (ret := (some .int)) (by decide) rfl ?_
  intro p e s m args below meth c s₁ B hml hv
  obtain ⟨hav, hI, hN, hK⟩ := hv
  have hx := B.exec
  have hb := B.bytes
  have hr := B.returns
  have hts := atoms_spec (ws := tb (.code yX11_pump cX11_pump 7 (some .int))) B.pre
  have hown : s.vm.findClass RX11 = some m.cls := findClass_of_methodNamed B.named
  have hlocks := B.notSynchronized
  have hS : va_S (th_A G) s.heap s.heap [] := va_S.rf
  have hl := lv_entry ([.ref h0, .int x1, .int x2, .int x3, .int x4, .int x5, .int x6]) (n := 7) (Nat.le_of_ble_eq_true rfl)
  rw [show entryFrame m args 7 = entryFrame m ([.ref h0, .int x1, .int x2, .int x3, .int x4, .int x5, .int x6] : List Value).toArray 7 from by rw [hav], lg_entry_eq]
  generalize (lg_sl ([.ref h0, .int x1, .int x2, .int x3, .int x4, .int x5, .int x6]) ++ List.replicate (7 - (lg_sl ([.ref h0, .int x1, .int x2, .int x3, .int x4, .int x5, .int x6])).length) Slot.unset).toArray = ls at hl ⊢
  have hl : lv_has ls 7 [(0, .ref h0), (1, .int x1), (2, .int x2), (3, .int x3), (4, .int x4), (5, .int x5), (6, .int x6)] := hl
  generalize hR : (headSpec (tb (.code yX11_pump cX11_pump 7 (some .int))) (rm 3)).room = R
  have hR := hR.symm
  generalize hQ : MQ below (QI E D G (fun r => ((r : Int32) = -1 ∧ ¬ (rg x2 0 23 ∧ rg x3 0 23 ∧ x2.toInt ≤ x3.toInt ∧ rg x4 0 23 ∧ rg x5 0 23 ∧ rg x6 0 6)) ∨ ((r : Int32) = -2 ∧ (rg x2 0 23 ∧ rg x3 0 23 ∧ x2.toInt ≤ x3.toInt ∧ rg x4 0 23 ∧ rg x5 0 23 ∧ rg x6 0 6) ∧ ¬ rg x1 0 1) ∨ ((r : Int32) = 0 ∧ (rg x2 0 23 ∧ rg x3 0 23 ∧ x2.toInt ≤ x3.toInt ∧ rg x4 0 23 ∧ rg x5 0 23 ∧ rg x6 0 6) ∧ rg x1 0 1))) args s 0 0 (th_A G) = QF
  have hQ := hQ.symm
  refine lv_iload_n hx hb dX11_pump_0 rfl (lv_at hl 2 rfl) ?_
  refine th_cSs (As := [.int x2]) (rest := []) (n := 1) (d := 0) ⟨hx, hb, hml, hown, hts⟩ (c_X11_isCell l s.heap x2) wd_401 wd_402 wd_1 wd_403 (by decide +kernel) ⟨by rw [hR]; exact Nat.le_of_ble_eq_true rfl, by rw [hR]; exact Nat.le_of_ble_eq_true rfl⟩ hN hS rfl hl.1 rfl (Nat.le_of_ble_eq_true rfl) dX11_pump_1 ⟨Nat.zero_le _, Nat.zero_le _⟩ (fun r1 locs hp hS => ?_)
  rcases hp with ⟨rfl, hp⟩ | ⟨rfl, hp⟩
  · skip
    try simp only [rg, not_and, Int.not_le] at hp
    have hp2 := hp
    refine lv_if_eq (tgt := 47) hx hb dX11_pump_4 (by decide) (fun c => absurd c (by decide)) (fun _ => ?_)
    refine lv_iload_n hx hb dX11_pump_7 rfl (lv_at hl 3 rfl) ?_
    refine th_cSs (As := [.int x3]) (rest := []) (n := 1) (d := 0) ⟨hx, hb, hml, hown, hts⟩ (c_X11_isCell l s.heap x3) wd_401 wd_402 wd_1 wd_403 (by decide +kernel) ⟨by rw [hR]; exact Nat.le_of_ble_eq_true rfl, by rw [hR]; exact Nat.le_of_ble_eq_true rfl⟩ hN hS rfl hl.1 rfl (Nat.le_of_ble_eq_true rfl) dX11_pump_8 ⟨Nat.zero_le _, Nat.zero_le _⟩ (fun r3 locs hp hS => ?_)
    rcases hp with ⟨rfl, hp⟩ | ⟨rfl, hp⟩
    · skip
      try simp only [rg, not_and, Int.not_le] at hp
      have hp4 := hp
      refine lv_if_eq (tgt := 47) hx hb dX11_pump_11 (by decide) (fun c => absurd c (by decide)) (fun _ => ?_)
      refine lv_iload_n hx hb dX11_pump_14 rfl (lv_at hl 3 rfl) ?_
      refine lv_iload_n hx hb dX11_pump_15 rfl (lv_at hl 2 rfl) ?_
      refine lv_icmp_lt (tgt := 47) hx hb dX11_pump_16 (by decide) (fun c5 => ?_) (fun c5 => ?_)
      · skip
        have k6 := iv_lt (X := x3.toInt) (Y := x2.toInt) rfl rfl c5
        refine lv_aload_n hx hb dX11_pump_47 rfl (lv_at hl 0 rfl) ?_
        refine lv_iconst (v := (-1)) hx hb dX11_pump_48 (by decide) ?_
        refine th_cVi (As := [.int (-1)]) (rest := []) (n := 1) (d := 0) ⟨hx, hb, hml, hown, hts⟩ (c_X11_refuse l E D G h0 (n) hG0 (-1)) wd_407 wd_409 wp_0 wd_1 wd_410 (by decide +kernel) ⟨by rw [hR]; exact Nat.le_of_ble_eq_true rfl, by rw [hR]; exact Nat.le_of_ble_eq_true rfl⟩ hI hN hK hS (rc_15 hI hG0 List.not_mem_nil) rfl rfl hl.1 rfl (Nat.le_of_ble_eq_true rfl) dX11_pump_49 ⟨Nat.zero_le _, Nat.zero_le _⟩ (fun r7 H locs hp hI hS => ?_)
        have hp := hp.symm
        subst hp
        have hpost : (((-1) : Int32) = -1 ∧ ¬ (rg x2 0 23 ∧ rg x3 0 23 ∧ x2.toInt ≤ x3.toInt ∧ rg x4 0 23 ∧ rg x5 0 23 ∧ rg x6 0 6)) ∨ (((-1) : Int32) = -2 ∧ (rg x2 0 23 ∧ rg x3 0 23 ∧ x2.toInt ≤ x3.toInt ∧ rg x4 0 23 ∧ rg x5 0 23 ∧ rg x6 0 6) ∧ ¬ rg x1 0 1) ∨ (((-1) : Int32) = 0 ∧ (rg x2 0 23 ∧ rg x3 0 23 ∧ x2.toInt ≤ x3.toInt ∧ rg x4 0 23 ∧ rg x5 0 23 ∧ rg x6 0 6) ∧ rg x1 0 1) := by first | exact Or.inl ⟨rfl, by simp only [rg]; omega⟩ | exact Or.inr (Or.inl ⟨rfl, by simp only [rg]; omega⟩) | exact Or.inr (Or.inr ⟨rfl, by simp only [rg]; omega⟩)
        rw [hQ]
        exact W.iret (v := (-1)) hx hb hr (fun t ht hW => ⟨⟨(-1), (), rfl, hpost, by rw [ht]; exact hI, hN.warm hW, va_K.moved hW.alike hK⟩, hS.F ht⟩) hS.2.2 dX11_pump_52
      · skip
        have k8 := iv_nlt (X := x3.toInt) (Y := x2.toInt) rfl rfl c5
        refine lv_iload hx hb dX11_pump_19 (lv_at hl 4 rfl) ?_
        refine th_cSs (As := [.int x4]) (rest := []) (n := 1) (d := 0) ⟨hx, hb, hml, hown, hts⟩ (c_X11_isClock l s.heap x4) wd_404 wd_405 wd_1 wd_406 (by decide +kernel) ⟨by rw [hR]; exact Nat.le_of_ble_eq_true rfl, by rw [hR]; exact Nat.le_of_ble_eq_true rfl⟩ hN hS rfl hl.1 rfl (Nat.le_of_ble_eq_true rfl) dX11_pump_21 ⟨Nat.zero_le _, Nat.zero_le _⟩ (fun r9 locs hp hS => ?_)
        rcases hp with ⟨rfl, hp⟩ | ⟨rfl, hp⟩
        · skip
          try simp only [rg, not_and, Int.not_le] at hp
          have hp10 := hp
          refine lv_if_eq (tgt := 47) hx hb dX11_pump_24 (by decide) (fun c => absurd c (by decide)) (fun _ => ?_)
          refine lv_iload hx hb dX11_pump_27 (lv_at hl 5 rfl) ?_
          refine th_cSs (As := [.int x5]) (rest := []) (n := 1) (d := 0) ⟨hx, hb, hml, hown, hts⟩ (c_X11_isClock l s.heap x5) wd_404 wd_405 wd_1 wd_406 (by decide +kernel) ⟨by rw [hR]; exact Nat.le_of_ble_eq_true rfl, by rw [hR]; exact Nat.le_of_ble_eq_true rfl⟩ hN hS rfl hl.1 rfl (Nat.le_of_ble_eq_true rfl) dX11_pump_29 ⟨Nat.zero_le _, Nat.zero_le _⟩ (fun r11 locs hp hS => ?_)
          rcases hp with ⟨rfl, hp⟩ | ⟨rfl, hp⟩
          · skip
            try simp only [rg, not_and, Int.not_le] at hp
            have hp12 := hp
            refine lv_if_eq (tgt := 47) hx hb dX11_pump_32 (by decide) (fun c => absurd c (by decide)) (fun _ => ?_)
            refine lv_iload hx hb dX11_pump_35 (lv_at hl 6 rfl) ?_
            have k13 := iv_lo x6
            have k14 := iv_hi x6
            refine lv_if_lt (tgt := 47) hx hb dX11_pump_37 (by decide) (fun c15 => ?_) (fun c15 => ?_)
            · skip
              have k16 := iv_lt (X := x6.toInt) (Y := (0)) rfl (by decide) c15
              refine lv_aload_n hx hb dX11_pump_47 rfl (lv_at hl 0 rfl) ?_
              refine lv_iconst (v := (-1)) hx hb dX11_pump_48 (by decide) ?_
              refine th_cVi (As := [.int (-1)]) (rest := []) (n := 1) (d := 0) ⟨hx, hb, hml, hown, hts⟩ (c_X11_refuse l E D G h0 (n) hG0 (-1)) wd_407 wd_409 wp_0 wd_1 wd_410 (by decide +kernel) ⟨by rw [hR]; exact Nat.le_of_ble_eq_true rfl, by rw [hR]; exact Nat.le_of_ble_eq_true rfl⟩ hI hN hK hS (rc_15 hI hG0 List.not_mem_nil) rfl rfl hl.1 rfl (Nat.le_of_ble_eq_true rfl) dX11_pump_49 ⟨Nat.zero_le _, Nat.zero_le _⟩ (fun r17 H locs hp hI hS => ?_)
              have hp := hp.symm
              subst hp
              have hpost : (((-1) : Int32) = -1 ∧ ¬ (rg x2 0 23 ∧ rg x3 0 23 ∧ x2.toInt ≤ x3.toInt ∧ rg x4 0 23 ∧ rg x5 0 23 ∧ rg x6 0 6)) ∨ (((-1) : Int32) = -2 ∧ (rg x2 0 23 ∧ rg x3 0 23 ∧ x2.toInt ≤ x3.toInt ∧ rg x4 0 23 ∧ rg x5 0 23 ∧ rg x6 0 6) ∧ ¬ rg x1 0 1) ∨ (((-1) : Int32) = 0 ∧ (rg x2 0 23 ∧ rg x3 0 23 ∧ x2.toInt ≤ x3.toInt ∧ rg x4 0 23 ∧ rg x5 0 23 ∧ rg x6 0 6) ∧ rg x1 0 1) := by first | exact Or.inl ⟨rfl, by simp only [rg]; omega⟩ | exact Or.inr (Or.inl ⟨rfl, by simp only [rg]; omega⟩) | exact Or.inr (Or.inr ⟨rfl, by simp only [rg]; omega⟩)
              rw [hQ]
              exact W.iret (v := (-1)) hx hb hr (fun t ht hW => ⟨⟨(-1), (), rfl, hpost, by rw [ht]; exact hI, hN.warm hW, va_K.moved hW.alike hK⟩, hS.F ht⟩) hS.2.2 dX11_pump_52
            · skip
              have k18 := iv_nlt (X := x6.toInt) (Y := (0)) rfl (by decide) c15
              refine lv_iload hx hb dX11_pump_40 (lv_at hl 6 rfl) ?_
              refine lv_bipush (v := 6) hx hb dX11_pump_42 (by decide) ?_
              refine lv_icmp_le (tgt := 53) hx hb dX11_pump_44 (by decide) (fun c19 => ?_) (fun c19 => ?_)
              · skip
                have k20 := iv_le (X := x6.toInt) (Y := (6)) rfl (by decide) c19
                refine lv_iload_n hx hb dX11_pump_53 rfl (lv_at hl 1 rfl) ?_
                refine th_cSs (As := [.int x1]) (rest := []) (n := 1) (d := 0) ⟨hx, hb, hml, hown, hts⟩ (c_X11_isPump l s.heap x1) wd_411 wd_412 wd_1 wd_413 (by decide +kernel) ⟨by rw [hR]; exact Nat.le_of_ble_eq_true rfl, by rw [hR]; exact Nat.le_of_ble_eq_true rfl⟩ hN hS rfl hl.1 rfl (Nat.le_of_ble_eq_true rfl) dX11_pump_54 ⟨Nat.zero_le _, Nat.zero_le _⟩ (fun r21 locs hp hS => ?_)
                rcases hp with ⟨rfl, hp⟩ | ⟨rfl, hp⟩
                · skip
                  try simp only [rg, not_and, Int.not_le] at hp
                  have hp22 := hp
                  refine lv_if_ne (tgt := 67) hx hb dX11_pump_57 (by decide) (fun _ => ?_) (fun c => absurd c (by decide))
                  refine lv_aload_n hx hb dX11_pump_67 rfl (lv_at hl 0 rfl) ?_
                  obtain ⟨a23, a26, a28, a30, a32, a34, a36, a38, a40, a42, a44, w46, w49, w50, w51, w52, hO, hq24, hq25, hq27, hq29, hq31, hq33, hq35, hq37, hq39, hq41, hq43, hq45, ⟨k47, k48⟩, k53⟩ := op_15 hI hG0 List.not_mem_nil
                  have hI := th_I.weak (a := h0) hI
                  refine th_get hx hb hts inT11 hown hK hO rfl 0 (by decide) (hts _ (tb_c wd_345)) rfl rfl dX11_pump_68 ?_
                  refine lv_iload_n hx hb dX11_pump_71 rfl (lv_at hl 1 rfl) ?_
                  refine lv_iload_n hx hb dX11_pump_72 rfl (lv_at hl 2 rfl) ?_
                  refine lv_iload_n hx hb dX11_pump_73 rfl (lv_at hl 3 rfl) ?_
                  refine lv_iload hx hb dX11_pump_74 (lv_at hl 4 rfl) ?_
                  refine lv_iload hx hb dX11_pump_76 (lv_at hl 5 rfl) ?_
                  refine lv_iload hx hb dX11_pump_78 (lv_at hl 6 rfl) ?_
                  have hI := th_I.close hI hG0 hO (ok_15 hq24 hq25 hq27 hq29 hq31 hq33 hq35 hq37 hq39 hq41 hq43 hq45 ⟨by omega, by omega⟩ k53)
                  refine th_cVv (As := [.int x1, .int x2, .int x3, .int x4, .int x5, .int x6]) (rest := []) (n := 6) (d := 2) ⟨hx, hb, hml, hown, hts⟩ (c_X6_tellPump l E D G a23 hq24 x1 x2 x3 x4 x5 x6) wd_414 wd_415 wd_416 wd_2 wd_417 (by decide +kernel) ⟨by rw [hR]; exact Nat.le_of_ble_eq_true rfl, by rw [hR]; exact Nat.le_of_ble_eq_true rfl⟩ hI hN hK hS (rc_6 hI hq24 List.not_mem_nil) rfl rfl hl.1 rfl (Nat.le_of_ble_eq_true rfl) dX11_pump_80 ⟨Nat.zero_le _, Nat.zero_le _⟩ (fun H locs hI hS => ?_)
                  refine lv_aload_n hx hb dX11_pump_83 rfl (lv_at hl 0 rfl) ?_
                  refine th_cVv (As := []) (rest := []) (n := 0) (d := 2) ⟨hx, hb, hml, hown, hts⟩ (c_X11_turnRiver l E D G h0 (n) hG0 ) wd_423 wd_425 wp_1 wd_1 wd_426 (by decide +kernel) ⟨by rw [hR]; exact Nat.le_of_ble_eq_true rfl, by rw [hR]; exact Nat.le_of_ble_eq_true rfl⟩ hI hN hK hS (rc_15 hI hG0 List.not_mem_nil) rfl rfl hl.1 rfl (Nat.le_of_ble_eq_true rfl) dX11_pump_84 ⟨Nat.zero_le _, Nat.zero_le _⟩ (fun H locs hI hS => ?_)
                  refine lv_aload_n hx hb dX11_pump_87 rfl (lv_at hl 0 rfl) ?_
                  refine lv_iconst (v := 0) hx hb dX11_pump_88 (by decide) ?_
                  refine th_cVi (As := [.int 0]) (rest := []) (n := 1) (d := 0) ⟨hx, hb, hml, hown, hts⟩ (c_X11_accept l E D G h0 (n) hG0 0) wd_447 wd_449 wp_3 wd_1 wd_450 (by decide +kernel) ⟨by rw [hR]; exact Nat.le_of_ble_eq_true rfl, by rw [hR]; exact Nat.le_of_ble_eq_true rfl⟩ hI hN hK hS (rc_15 hI hG0 List.not_mem_nil) rfl rfl hl.1 rfl (Nat.le_of_ble_eq_true rfl) dX11_pump_89 ⟨Nat.zero_le _, Nat.zero_le _⟩ (fun r56 H locs hp hI hS => ?_)
                  have hp := hp.symm
                  subst hp
                  have hpost : ((0 : Int32) = -1 ∧ ¬ (rg x2 0 23 ∧ rg x3 0 23 ∧ x2.toInt ≤ x3.toInt ∧ rg x4 0 23 ∧ rg x5 0 23 ∧ rg x6 0 6)) ∨ ((0 : Int32) = -2 ∧ (rg x2 0 23 ∧ rg x3 0 23 ∧ x2.toInt ≤ x3.toInt ∧ rg x4 0 23 ∧ rg x5 0 23 ∧ rg x6 0 6) ∧ ¬ rg x1 0 1) ∨ ((0 : Int32) = 0 ∧ (rg x2 0 23 ∧ rg x3 0 23 ∧ x2.toInt ≤ x3.toInt ∧ rg x4 0 23 ∧ rg x5 0 23 ∧ rg x6 0 6) ∧ rg x1 0 1) := by first | exact Or.inl ⟨rfl, by simp only [rg]; omega⟩ | exact Or.inr (Or.inl ⟨rfl, by simp only [rg]; omega⟩) | exact Or.inr (Or.inr ⟨rfl, by simp only [rg]; omega⟩)
                  rw [hQ]
                  exact W.iret (v := 0) hx hb hr (fun t ht hW => ⟨⟨0, (), rfl, hpost, by rw [ht]; exact hI, hN.warm hW, va_K.moved hW.alike hK⟩, hS.F ht⟩) hS.2.2 dX11_pump_92
                · skip
                  try simp only [rg, not_and, Int.not_le] at hp
                  have hp57 := hp
                  refine lv_if_ne (tgt := 67) hx hb dX11_pump_57 (by decide) (fun c => absurd c (by decide)) (fun _ => ?_)
                  refine lv_aload_n hx hb dX11_pump_60 rfl (lv_at hl 0 rfl) ?_
                  refine lv_bipush (v := (-2)) hx hb dX11_pump_61 (by decide) ?_
                  refine th_cVi (As := [.int (-2)]) (rest := []) (n := 1) (d := 0) ⟨hx, hb, hml, hown, hts⟩ (c_X11_refuse l E D G h0 (n) hG0 (-2)) wd_407 wd_409 wp_0 wd_1 wd_410 (by decide +kernel) ⟨by rw [hR]; exact Nat.le_of_ble_eq_true rfl, by rw [hR]; exact Nat.le_of_ble_eq_true rfl⟩ hI hN hK hS (rc_15 hI hG0 List.not_mem_nil) rfl rfl hl.1 rfl (Nat.le_of_ble_eq_true rfl) dX11_pump_63 ⟨Nat.zero_le _, Nat.zero_le _⟩ (fun r58 H locs hp hI hS => ?_)
                  have hp := hp.symm
                  subst hp
                  have hpost : (((-2) : Int32) = -1 ∧ ¬ (rg x2 0 23 ∧ rg x3 0 23 ∧ x2.toInt ≤ x3.toInt ∧ rg x4 0 23 ∧ rg x5 0 23 ∧ rg x6 0 6)) ∨ (((-2) : Int32) = -2 ∧ (rg x2 0 23 ∧ rg x3 0 23 ∧ x2.toInt ≤ x3.toInt ∧ rg x4 0 23 ∧ rg x5 0 23 ∧ rg x6 0 6) ∧ ¬ rg x1 0 1) ∨ (((-2) : Int32) = 0 ∧ (rg x2 0 23 ∧ rg x3 0 23 ∧ x2.toInt ≤ x3.toInt ∧ rg x4 0 23 ∧ rg x5 0 23 ∧ rg x6 0 6) ∧ rg x1 0 1) := by first | exact Or.inl ⟨rfl, by simp only [rg]; omega⟩ | exact Or.inr (Or.inl ⟨rfl, by simp only [rg]; omega⟩) | exact Or.inr (Or.inr ⟨rfl, by simp only [rg]; omega⟩)
                  rw [hQ]
                  exact W.iret (v := (-2)) hx hb hr (fun t ht hW => ⟨⟨(-2), (), rfl, hpost, by rw [ht]; exact hI, hN.warm hW, va_K.moved hW.alike hK⟩, hS.F ht⟩) hS.2.2 dX11_pump_66
              · skip
                have k59 := iv_nle (X := x6.toInt) (Y := (6)) rfl (by decide) c19
                refine lv_aload_n hx hb dX11_pump_47 rfl (lv_at hl 0 rfl) ?_
                refine lv_iconst (v := (-1)) hx hb dX11_pump_48 (by decide) ?_
                refine th_cVi (As := [.int (-1)]) (rest := []) (n := 1) (d := 0) ⟨hx, hb, hml, hown, hts⟩ (c_X11_refuse l E D G h0 (n) hG0 (-1)) wd_407 wd_409 wp_0 wd_1 wd_410 (by decide +kernel) ⟨by rw [hR]; exact Nat.le_of_ble_eq_true rfl, by rw [hR]; exact Nat.le_of_ble_eq_true rfl⟩ hI hN hK hS (rc_15 hI hG0 List.not_mem_nil) rfl rfl hl.1 rfl (Nat.le_of_ble_eq_true rfl) dX11_pump_49 ⟨Nat.zero_le _, Nat.zero_le _⟩ (fun r60 H locs hp hI hS => ?_)
                have hp := hp.symm
                subst hp
                have hpost : (((-1) : Int32) = -1 ∧ ¬ (rg x2 0 23 ∧ rg x3 0 23 ∧ x2.toInt ≤ x3.toInt ∧ rg x4 0 23 ∧ rg x5 0 23 ∧ rg x6 0 6)) ∨ (((-1) : Int32) = -2 ∧ (rg x2 0 23 ∧ rg x3 0 23 ∧ x2.toInt ≤ x3.toInt ∧ rg x4 0 23 ∧ rg x5 0 23 ∧ rg x6 0 6) ∧ ¬ rg x1 0 1) ∨ (((-1) : Int32) = 0 ∧ (rg x2 0 23 ∧ rg x3 0 23 ∧ x2.toInt ≤ x3.toInt ∧ rg x4 0 23 ∧ rg x5 0 23 ∧ rg x6 0 6) ∧ rg x1 0 1) := by first | exact Or.inl ⟨rfl, by simp only [rg]; omega⟩ | exact Or.inr (Or.inl ⟨rfl, by simp only [rg]; omega⟩) | exact Or.inr (Or.inr ⟨rfl, by simp only [rg]; omega⟩)
                rw [hQ]
                exact W.iret (v := (-1)) hx hb hr (fun t ht hW => ⟨⟨(-1), (), rfl, hpost, by rw [ht]; exact hI, hN.warm hW, va_K.moved hW.alike hK⟩, hS.F ht⟩) hS.2.2 dX11_pump_52
          · skip
            try simp only [rg, not_and, Int.not_le] at hp
            have hp61 := hp
            refine lv_if_eq (tgt := 47) hx hb dX11_pump_32 (by decide) (fun _ => ?_) (fun c => absurd c (by decide))
            refine lv_aload_n hx hb dX11_pump_47 rfl (lv_at hl 0 rfl) ?_
            refine lv_iconst (v := (-1)) hx hb dX11_pump_48 (by decide) ?_
            refine th_cVi (As := [.int (-1)]) (rest := []) (n := 1) (d := 0) ⟨hx, hb, hml, hown, hts⟩ (c_X11_refuse l E D G h0 (n) hG0 (-1)) wd_407 wd_409 wp_0 wd_1 wd_410 (by decide +kernel) ⟨by rw [hR]; exact Nat.le_of_ble_eq_true rfl, by rw [hR]; exact Nat.le_of_ble_eq_true rfl⟩ hI hN hK hS (rc_15 hI hG0 List.not_mem_nil) rfl rfl hl.1 rfl (Nat.le_of_ble_eq_true rfl) dX11_pump_49 ⟨Nat.zero_le _, Nat.zero_le _⟩ (fun r62 H locs hp hI hS => ?_)
            have hp := hp.symm
            subst hp
            have hpost : (((-1) : Int32) = -1 ∧ ¬ (rg x2 0 23 ∧ rg x3 0 23 ∧ x2.toInt ≤ x3.toInt ∧ rg x4 0 23 ∧ rg x5 0 23 ∧ rg x6 0 6)) ∨ (((-1) : Int32) = -2 ∧ (rg x2 0 23 ∧ rg x3 0 23 ∧ x2.toInt ≤ x3.toInt ∧ rg x4 0 23 ∧ rg x5 0 23 ∧ rg x6 0 6) ∧ ¬ rg x1 0 1) ∨ (((-1) : Int32) = 0 ∧ (rg x2 0 23 ∧ rg x3 0 23 ∧ x2.toInt ≤ x3.toInt ∧ rg x4 0 23 ∧ rg x5 0 23 ∧ rg x6 0 6) ∧ rg x1 0 1) := by first | exact Or.inl ⟨rfl, by simp only [rg]; omega⟩ | exact Or.inr (Or.inl ⟨rfl, by simp only [rg]; omega⟩) | exact Or.inr (Or.inr ⟨rfl, by simp only [rg]; omega⟩)
            rw [hQ]
            exact W.iret (v := (-1)) hx hb hr (fun t ht hW => ⟨⟨(-1), (), rfl, hpost, by rw [ht]; exact hI, hN.warm hW, va_K.moved hW.alike hK⟩, hS.F ht⟩) hS.2.2 dX11_pump_52
        · skip
          try simp only [rg, not_and, Int.not_le] at hp
          have hp63 := hp
          refine lv_if_eq (tgt := 47) hx hb dX11_pump_24 (by decide) (fun _ => ?_) (fun c => absurd c (by decide))
          refine lv_aload_n hx hb dX11_pump_47 rfl (lv_at hl 0 rfl) ?_
          refine lv_iconst (v := (-1)) hx hb dX11_pump_48 (by decide) ?_
          refine th_cVi (As := [.int (-1)]) (rest := []) (n := 1) (d := 0) ⟨hx, hb, hml, hown, hts⟩ (c_X11_refuse l E D G h0 (n) hG0 (-1)) wd_407 wd_409 wp_0 wd_1 wd_410 (by decide +kernel) ⟨by rw [hR]; exact Nat.le_of_ble_eq_true rfl, by rw [hR]; exact Nat.le_of_ble_eq_true rfl⟩ hI hN hK hS (rc_15 hI hG0 List.not_mem_nil) rfl rfl hl.1 rfl (Nat.le_of_ble_eq_true rfl) dX11_pump_49 ⟨Nat.zero_le _, Nat.zero_le _⟩ (fun r64 H locs hp hI hS => ?_)
          have hp := hp.symm
          subst hp
          have hpost : (((-1) : Int32) = -1 ∧ ¬ (rg x2 0 23 ∧ rg x3 0 23 ∧ x2.toInt ≤ x3.toInt ∧ rg x4 0 23 ∧ rg x5 0 23 ∧ rg x6 0 6)) ∨ (((-1) : Int32) = -2 ∧ (rg x2 0 23 ∧ rg x3 0 23 ∧ x2.toInt ≤ x3.toInt ∧ rg x4 0 23 ∧ rg x5 0 23 ∧ rg x6 0 6) ∧ ¬ rg x1 0 1) ∨ (((-1) : Int32) = 0 ∧ (rg x2 0 23 ∧ rg x3 0 23 ∧ x2.toInt ≤ x3.toInt ∧ rg x4 0 23 ∧ rg x5 0 23 ∧ rg x6 0 6) ∧ rg x1 0 1) := by first | exact Or.inl ⟨rfl, by simp only [rg]; omega⟩ | exact Or.inr (Or.inl ⟨rfl, by simp only [rg]; omega⟩) | exact Or.inr (Or.inr ⟨rfl, by simp only [rg]; omega⟩)
          rw [hQ]
          exact W.iret (v := (-1)) hx hb hr (fun t ht hW => ⟨⟨(-1), (), rfl, hpost, by rw [ht]; exact hI, hN.warm hW, va_K.moved hW.alike hK⟩, hS.F ht⟩) hS.2.2 dX11_pump_52
    · skip
      try simp only [rg, not_and, Int.not_le] at hp
      have hp65 := hp
      refine lv_if_eq (tgt := 47) hx hb dX11_pump_11 (by decide) (fun _ => ?_) (fun c => absurd c (by decide))
      refine lv_aload_n hx hb dX11_pump_47 rfl (lv_at hl 0 rfl) ?_
      refine lv_iconst (v := (-1)) hx hb dX11_pump_48 (by decide) ?_
      refine th_cVi (As := [.int (-1)]) (rest := []) (n := 1) (d := 0) ⟨hx, hb, hml, hown, hts⟩ (c_X11_refuse l E D G h0 (n) hG0 (-1)) wd_407 wd_409 wp_0 wd_1 wd_410 (by decide +kernel) ⟨by rw [hR]; exact Nat.le_of_ble_eq_true rfl, by rw [hR]; exact Nat.le_of_ble_eq_true rfl⟩ hI hN hK hS (rc_15 hI hG0 List.not_mem_nil) rfl rfl hl.1 rfl (Nat.le_of_ble_eq_true rfl) dX11_pump_49 ⟨Nat.zero_le _, Nat.zero_le _⟩ (fun r66 H locs hp hI hS => ?_)
      have hp := hp.symm
      subst hp
      have hpost : (((-1) : Int32) = -1 ∧ ¬ (rg x2 0 23 ∧ rg x3 0 23 ∧ x2.toInt ≤ x3.toInt ∧ rg x4 0 23 ∧ rg x5 0 23 ∧ rg x6 0 6)) ∨ (((-1) : Int32) = -2 ∧ (rg x2 0 23 ∧ rg x3 0 23 ∧ x2.toInt ≤ x3.toInt ∧ rg x4 0 23 ∧ rg x5 0 23 ∧ rg x6 0 6) ∧ ¬ rg x1 0 1) ∨ (((-1) : Int32) = 0 ∧ (rg x2 0 23 ∧ rg x3 0 23 ∧ x2.toInt ≤ x3.toInt ∧ rg x4 0 23 ∧ rg x5 0 23 ∧ rg x6 0 6) ∧ rg x1 0 1) := by first | exact Or.inl ⟨rfl, by simp only [rg]; omega⟩ | exact Or.inr (Or.inl ⟨rfl, by simp only [rg]; omega⟩) | exact Or.inr (Or.inr ⟨rfl, by simp only [rg]; omega⟩)
      rw [hQ]
      exact W.iret (v := (-1)) hx hb hr (fun t ht hW => ⟨⟨(-1), (), rfl, hpost, by rw [ht]; exact hI, hN.warm hW, va_K.moved hW.alike hK⟩, hS.F ht⟩) hS.2.2 dX11_pump_52
  · skip
    try simp only [rg, not_and, Int.not_le] at hp
    have hp67 := hp
    refine lv_if_eq (tgt := 47) hx hb dX11_pump_4 (by decide) (fun _ => ?_) (fun c => absurd c (by decide))
    refine lv_aload_n hx hb dX11_pump_47 rfl (lv_at hl 0 rfl) ?_
    refine lv_iconst (v := (-1)) hx hb dX11_pump_48 (by decide) ?_
    refine th_cVi (As := [.int (-1)]) (rest := []) (n := 1) (d := 0) ⟨hx, hb, hml, hown, hts⟩ (c_X11_refuse l E D G h0 (n) hG0 (-1)) wd_407 wd_409 wp_0 wd_1 wd_410 (by decide +kernel) ⟨by rw [hR]; exact Nat.le_of_ble_eq_true rfl, by rw [hR]; exact Nat.le_of_ble_eq_true rfl⟩ hI hN hK hS (rc_15 hI hG0 List.not_mem_nil) rfl rfl hl.1 rfl (Nat.le_of_ble_eq_true rfl) dX11_pump_49 ⟨Nat.zero_le _, Nat.zero_le _⟩ (fun r68 H locs hp hI hS => ?_)
    have hp := hp.symm
    subst hp
    have hpost : (((-1) : Int32) = -1 ∧ ¬ (rg x2 0 23 ∧ rg x3 0 23 ∧ x2.toInt ≤ x3.toInt ∧ rg x4 0 23 ∧ rg x5 0 23 ∧ rg x6 0 6)) ∨ (((-1) : Int32) = -2 ∧ (rg x2 0 23 ∧ rg x3 0 23 ∧ x2.toInt ≤ x3.toInt ∧ rg x4 0 23 ∧ rg x5 0 23 ∧ rg x6 0 6) ∧ ¬ rg x1 0 1) ∨ (((-1) : Int32) = 0 ∧ (rg x2 0 23 ∧ rg x3 0 23 ∧ x2.toInt ≤ x3.toInt ∧ rg x4 0 23 ∧ rg x5 0 23 ∧ rg x6 0 6) ∧ rg x1 0 1) := by first | exact Or.inl ⟨rfl, by simp only [rg]; omega⟩ | exact Or.inr (Or.inl ⟨rfl, by simp only [rg]; omega⟩) | exact Or.inr (Or.inr ⟨rfl, by simp only [rg]; omega⟩)
    rw [hQ]
    exact W.iret (v := (-1)) hx hb hr (fun t ht hW => ⟨⟨(-1), (), rfl, hpost, by rw [ht]; exact hI, hN.warm hW, va_K.moved hW.alike hK⟩, hS.F ht⟩) hS.2.2 dX11_pump_52
theorem dX11_strike_0g : (decode cX11_strike 0 = .ok (.iload_n 1, 1)) ∧ (decode cX11_strike 1 = .ok (.iload_n 2, 1)) ∧ (decode cX11_strike 2 = .ok (.invokestatic 134, 3)) ∧ (decode cX11_strike 5 = .ok (.ifCond .eq 10, 3)) ∧ (decode cX11_strike 8 = .ok (.iload_n 3, 1)) ∧ (decode cX11_strike 9 = .ok (.invokestatic 138, 3)) ∧ (decode cX11_strike 12 = .ok (.ifCond .ne 9, 3)) ∧ (decode cX11_strike 15 = .ok (.aload_n 0, 1)) ∧ (decode cX11_strike 16 = .ok (.iconst (-1), 1)) ∧ (decode cX11_strike 17 = .ok (.invokevirtual 113, 3)) := by decide +kernel
theorem dX11_strike_0 : decode cX11_strike 0 = .ok (.iload_n 1, 1) := dX11_strike_0g.1
theorem dX11_strike_1 : decode cX11_strike 1 = .ok (.iload_n 2, 1) := dX11_strike_0g.2.1
theorem dX11_strike_2 : decode cX11_strike 2 = .ok (.invokestatic 134, 3) := dX11_strike_0g.2.2.1
theorem dX11_strike_5 : decode cX11_strike 5 = .ok (.ifCond .eq 10, 3) := dX11_strike_0g.2.2.2.1
theorem dX11_strike_8 : decode cX11_strike 8 = .ok (.iload_n 3, 1) := dX11_strike_0g.2.2.2.2.1
theorem dX11_strike_9 : decode cX11_strike 9 = .ok (.invokestatic 138, 3) := dX11_strike_0g.2.2.2.2.2.1
theorem dX11_strike_12 : decode cX11_strike 12 = .ok (.ifCond .ne 9, 3) := dX11_strike_0g.2.2.2.2.2.2.1
theorem dX11_strike_15 : decode cX11_strike 15 = .ok (.aload_n 0, 1) := dX11_strike_0g.2.2.2.2.2.2.2.1
theorem dX11_strike_16 : decode cX11_strike 16 = .ok (.iconst (-1), 1) := dX11_strike_0g.2.2.2.2.2.2.2.2.1
theorem dX11_strike_17 : decode cX11_strike 17 = .ok (.invokevirtual 113, 3) := dX11_strike_0g.2.2.2.2.2.2.2.2.2
theorem dX11_strike_20g : (decode cX11_strike 20 = .ok (.ireturn, 1)) ∧ (decode cX11_strike 21 = .ok (.aload_n 0, 1)) ∧ (decode cX11_strike 22 = .ok (.getfield 12, 3)) ∧ (decode cX11_strike 25 = .ok (.iload_n 1, 1)) ∧ (decode cX11_strike 26 = .ok (.iload_n 2, 1)) ∧ (decode cX11_strike 27 = .ok (.iload_n 3, 1)) ∧ (decode cX11_strike 28 = .ok (.invokevirtual 141, 3)) ∧ (decode cX11_strike 31 = .ok (.istore 4, 2)) ∧ (decode cX11_strike 33 = .ok (.iload 4, 2)) ∧ (decode cX11_strike 35 = .ok (.ifCond .le 7, 3)) := by decide +kernel
theorem dX11_strike_20 : decode cX11_strike 20 = .ok (.ireturn, 1) := dX11_strike_20g.1
theorem dX11_strike_21 : decode cX11_strike 21 = .ok (.aload_n 0, 1) := dX11_strike_20g.2.1
theorem dX11_strike_22 : decode cX11_strike 22 = .ok (.getfield 12, 3) := dX11_strike_20g.2.2.1
theorem dX11_strike_25 : decode cX11_strike 25 = .ok (.iload_n 1, 1) := dX11_strike_20g.2.2.2.1
theorem dX11_strike_26 : decode cX11_strike 26 = .ok (.iload_n 2, 1) := dX11_strike_20g.2.2.2.2.1
theorem dX11_strike_27 : decode cX11_strike 27 = .ok (.iload_n 3, 1) := dX11_strike_20g.2.2.2.2.2.1
theorem dX11_strike_28 : decode cX11_strike 28 = .ok (.invokevirtual 141, 3) := dX11_strike_20g.2.2.2.2.2.2.1
theorem dX11_strike_31 : decode cX11_strike 31 = .ok (.istore 4, 2) := dX11_strike_20g.2.2.2.2.2.2.2.1
theorem dX11_strike_33 : decode cX11_strike 33 = .ok (.iload 4, 2) := dX11_strike_20g.2.2.2.2.2.2.2.2.1
theorem dX11_strike_35 : decode cX11_strike 35 = .ok (.ifCond .le 7, 3) := dX11_strike_20g.2.2.2.2.2.2.2.2.2
theorem dX11_strike_38g : (decode cX11_strike 38 = .ok (.aload_n 0, 1)) ∧ (decode cX11_strike 39 = .ok (.invokevirtual 124, 3)) ∧ (decode cX11_strike 42 = .ok (.aload_n 0, 1)) ∧ (decode cX11_strike 43 = .ok (.iload 4, 2)) ∧ (decode cX11_strike 45 = .ok (.invokevirtual 127, 3)) ∧ (decode cX11_strike 48 = .ok (.ireturn, 1)) := by decide +kernel
theorem dX11_strike_38 : decode cX11_strike 38 = .ok (.aload_n 0, 1) := dX11_strike_38g.1
theorem dX11_strike_39 : decode cX11_strike 39 = .ok (.invokevirtual 124, 3) := dX11_strike_38g.2.1
theorem dX11_strike_42 : decode cX11_strike 42 = .ok (.aload_n 0, 1) := dX11_strike_38g.2.2.1
theorem dX11_strike_43 : decode cX11_strike 43 = .ok (.iload 4, 2) := dX11_strike_38g.2.2.2.1
theorem dX11_strike_45 : decode cX11_strike 45 = .ok (.invokevirtual 127, 3) := dX11_strike_38g.2.2.2.2.1
theorem dX11_strike_48 : decode cX11_strike 48 = .ok (.ireturn, 1) := dX11_strike_38g.2.2.2.2.2
set_option maxHeartbeats 4000000 in
set_option maxRecDepth 100000 in
theorem c_X11_strike (l : Launch) (E : Nat → Nat) (D : va_G) (G : th_G) (h0 n : Nat) (hG0 : G h0 = some (15, n)) (x1 x2 x3 : Int32) : Met l yX11_strike (tb (.code yX11_strike cX11_strike 5 (some .int))) (rm 3) (va_Pc [.ref h0, .int x1, .int x2, .int x3] (th_P E D G)) (QI E D G (fun r => True)) 0 0 (th_A G) := by
  refine Met.ofW (cc := cX11_strike) (maxL := 5) (ret := (some .int)) (by decide) rfl ?_
  intro p e s m args below meth c s₁ B hml hv
  obtain ⟨hav, hI, hN, hK⟩ := hv
  have hx := B.exec
  have hb := B.bytes
  have hr := B.returns
  have hts := atoms_spec (ws := tb (.code yX11_strike cX11_strike 5 (some .int))) B.pre
  have hown : s.vm.findClass RX11 = some m.cls := findClass_of_methodNamed B.named
  have hlocks := B.notSynchronized
  have hS : va_S (th_A G) s.heap s.heap [] := va_S.rf
  have hl := lv_entry ([.ref h0, .int x1, .int x2, .int x3]) (n := 5) (Nat.le_of_ble_eq_true rfl)
  rw [show entryFrame m args 5 = entryFrame m ([.ref h0, .int x1, .int x2, .int x3] : List Value).toArray 5 from by rw [hav], lg_entry_eq]
  generalize (lg_sl ([.ref h0, .int x1, .int x2, .int x3]) ++ List.replicate (5 - (lg_sl ([.ref h0, .int x1, .int x2, .int x3])).length) Slot.unset).toArray = ls at hl ⊢
  have hl : lv_has ls 5 [(0, .ref h0), (1, .int x1), (2, .int x2), (3, .int x3)] := hl
  generalize hR : (headSpec (tb (.code yX11_strike cX11_strike 5 (some .int))) (rm 3)).room = R
  have hR := hR.symm
  generalize hQ : MQ below (QI E D G (fun r => True)) args s 0 0 (th_A G) = QF
  have hQ := hQ.symm
  have J_15 : ∀ (H : Heap) (locs : List Loc) (ls : Array Slot) , lv_has ls 5 [(0, .ref h0), (1, .int x1), (2, .int x2), (3, .int x3)] → th_I (okC E) D G [] H → va_S (th_A G) s.heap H locs → W p l e R s m args below meth c H locs 0 0 QF (F0 m 15 ls []) := by
    intro H locs ls  hl  hI hS
    refine lv_aload_n hx hb dX11_strike_15 rfl (lv_at hl 0 rfl) ?_
    refine lv_iconst (v := (-1)) hx hb dX11_strike_16 (by decide) ?_
    refine th_cVi (As := [.int (-1)]) (rest := []) (n := 1) (d := 0) ⟨hx, hb, hml, hown, hts⟩ (c_X11_refuse l E D G h0 (n) hG0 (-1)) wd_407 wd_409 wp_0 wd_1 wd_410 (by decide +kernel) ⟨by rw [hR]; exact Nat.le_of_ble_eq_true rfl, by rw [hR]; exact Nat.le_of_ble_eq_true rfl⟩ hI hN hK hS (rc_15 hI hG0 List.not_mem_nil) rfl rfl hl.1 rfl (Nat.le_of_ble_eq_true rfl) dX11_strike_17 ⟨Nat.zero_le _, Nat.zero_le _⟩ (fun r376 H locs hp hI hS => ?_)
    have hp := hp.symm
    subst hp
    have hpost : True := trivial
    rw [hQ]
    exact W.iret (v := (-1)) hx hb hr (fun t ht hW => ⟨⟨(-1), (), rfl, hpost, by rw [ht]; exact hI, hN.warm hW, va_K.moved hW.alike hK⟩, hS.F ht⟩) hS.2.2 dX11_strike_20
  refine lv_iload_n hx hb dX11_strike_0 rfl (lv_at hl 1 rfl) ?_
  refine lv_iload_n hx hb dX11_strike_1 rfl (lv_at hl 2 rfl) ?_
  refine th_cSs (As := [.int x1, .int x2]) (rest := []) (n := 2) (d := 1) ⟨hx, hb, hml, hown, hts⟩ (c_X11_isSpan l s.heap x1 x2) wd_463 wd_464 wd_1 wd_465 (by decide +kernel) ⟨by rw [hR]; exact Nat.le_of_ble_eq_true rfl, by rw [hR]; exact Nat.le_of_ble_eq_true rfl⟩ hN hS rfl hl.1 rfl (Nat.le_of_ble_eq_true rfl) dX11_strike_2 ⟨Nat.zero_le _, Nat.zero_le _⟩ (fun r377 locs hp hS => ?_)
  rcases hp with ⟨rfl, hp⟩ | ⟨rfl, hp⟩
  · skip
    try simp only [rg, not_and, Int.not_le] at hp
    have hp378 := hp
    refine lv_if_eq (tgt := 15) hx hb dX11_strike_5 (by decide) (fun c => absurd c (by decide)) (fun _ => ?_)
    refine lv_iload_n hx hb dX11_strike_8 rfl (lv_at hl 3 rfl) ?_
    refine th_cSs (As := [.int x3]) (rest := []) (n := 1) (d := 0) ⟨hx, hb, hml, hown, hts⟩ (c_X11_isFlag l s.heap x3) wd_469 wd_470 wd_1 wd_471 (by decide +kernel) ⟨by rw [hR]; exact Nat.le_of_ble_eq_true rfl, by rw [hR]; exact Nat.le_of_ble_eq_true rfl⟩ hN hS rfl hl.1 rfl (Nat.le_of_ble_eq_true rfl) dX11_strike_9 ⟨Nat.zero_le _, Nat.zero_le _⟩ (fun r379 locs hp hS => ?_)
    rcases hp with ⟨rfl, hp⟩ | ⟨rfl, hp⟩
    · skip
      try simp only [rg, not_and, Int.not_le] at hp
      have hp380 := hp
      refine lv_if_ne (tgt := 21) hx hb dX11_strike_12 (by decide) (fun _ => ?_) (fun c => absurd c (by decide))
      refine lv_aload_n hx hb dX11_strike_21 rfl (lv_at hl 0 rfl) ?_
      obtain ⟨a381, a384, a386, a388, a390, a392, a394, a396, a398, a400, a402, w404, w407, w408, w409, w410, hO, hq382, hq383, hq385, hq387, hq389, hq391, hq393, hq395, hq397, hq399, hq401, hq403, ⟨k405, k406⟩, k411⟩ := op_15 hI hG0 List.not_mem_nil
      have hI := th_I.weak (a := h0) hI
      refine th_get hx hb hts inT11 hown hK hO rfl 0 (by decide) (hts _ (tb_c wd_345)) rfl rfl dX11_strike_22 ?_
      refine lv_iload_n hx hb dX11_strike_25 rfl (lv_at hl 1 rfl) ?_
      refine lv_iload_n hx hb dX11_strike_26 rfl (lv_at hl 2 rfl) ?_
      refine lv_iload_n hx hb dX11_strike_27 rfl (lv_at hl 3 rfl) ?_
      have hI := th_I.close hI hG0 hO (ok_15 hq382 hq383 hq385 hq387 hq389 hq391 hq393 hq395 hq397 hq399 hq401 hq403 ⟨by omega, by omega⟩ k411)
      refine th_cVi (As := [.int x1, .int x2, .int x3]) (rest := []) (n := 3) (d := 1) ⟨hx, hb, hml, hown, hts⟩ (c_X6_tellStrikes l E D G a381 hq382 x1 x2 x3) wd_472 wd_473 wd_474 wd_2 wd_475 (by decide +kernel) ⟨by rw [hR]; exact Nat.le_of_ble_eq_true rfl, by rw [hR]; exact Nat.le_of_ble_eq_true rfl⟩ hI hN hK hS (rc_6 hI hq382 List.not_mem_nil) rfl rfl hl.1 rfl (Nat.le_of_ble_eq_true rfl) dX11_strike_28 ⟨Nat.zero_le _, Nat.zero_le _⟩ (fun r412 H locs hp hI hS => ?_)
      refine lv_istore (lv' := [(4, .int r412), (0, .ref h0), (1, .int x1), (2, .int x2), (3, .int x3)]) hx hb dX11_strike_31 hl (by decide) rfl (fun ls hl => ?_)
      refine lv_iload hx hb dX11_strike_33 (lv_at hl 0 rfl) ?_
      have k413 := iv_lo r412
      have k414 := iv_hi r412
      refine lv_if_le (tgt := 42) hx hb dX11_strike_35 (by decide) (fun c415 => ?_) (fun c415 => ?_)
      · skip
        have k416 := iv_le (X := r412.toInt) (Y := (0)) rfl (by decide) c415
        refine lv_aload_n hx hb dX11_strike_42 rfl (lv_at hl 1 rfl) ?_
        refine lv_iload hx hb dX11_strike_43 (lv_at hl 0 rfl) ?_
        refine th_cVi (As := [.int r412]) (rest := []) (n := 1) (d := 0) ⟨hx, hb, hml, hown, hts⟩ (c_X11_accept l E D G h0 (n) hG0 r412) wd_447 wd_449 wp_3 wd_1 wd_450 (by decide +kernel) ⟨by rw [hR]; exact Nat.le_of_ble_eq_true rfl, by rw [hR]; exact Nat.le_of_ble_eq_true rfl⟩ hI hN hK hS (rc_15 hI hG0 List.not_mem_nil) rfl rfl hl.1 rfl (Nat.le_of_ble_eq_true rfl) dX11_strike_45 ⟨Nat.zero_le _, Nat.zero_le _⟩ (fun r417 H locs hp hI hS => ?_)
        have hp := hp.symm
        subst hp
        have hpost : True := trivial
        rw [hQ]
        exact W.iret (v := r412) hx hb hr (fun t ht hW => ⟨⟨r412, (), rfl, hpost, by rw [ht]; exact hI, hN.warm hW, va_K.moved hW.alike hK⟩, hS.F ht⟩) hS.2.2 dX11_strike_48
      · skip
        have k418 := iv_nle (X := r412.toInt) (Y := (0)) rfl (by decide) c415
        refine lv_aload_n hx hb dX11_strike_38 rfl (lv_at hl 1 rfl) ?_
        refine th_cVv (As := []) (rest := []) (n := 0) (d := 2) ⟨hx, hb, hml, hown, hts⟩ (c_X11_turnRiver l E D G h0 (n) hG0 ) wd_423 wd_425 wp_1 wd_1 wd_426 (by decide +kernel) ⟨by rw [hR]; exact Nat.le_of_ble_eq_true rfl, by rw [hR]; exact Nat.le_of_ble_eq_true rfl⟩ hI hN hK hS (rc_15 hI hG0 List.not_mem_nil) rfl rfl hl.1 rfl (Nat.le_of_ble_eq_true rfl) dX11_strike_39 ⟨Nat.zero_le _, Nat.zero_le _⟩ (fun H locs hI hS => ?_)
        refine lv_aload_n hx hb dX11_strike_42 rfl (lv_at hl 1 rfl) ?_
        refine lv_iload hx hb dX11_strike_43 (lv_at hl 0 rfl) ?_
        refine th_cVi (As := [.int r412]) (rest := []) (n := 1) (d := 0) ⟨hx, hb, hml, hown, hts⟩ (c_X11_accept l E D G h0 (n) hG0 r412) wd_447 wd_449 wp_3 wd_1 wd_450 (by decide +kernel) ⟨by rw [hR]; exact Nat.le_of_ble_eq_true rfl, by rw [hR]; exact Nat.le_of_ble_eq_true rfl⟩ hI hN hK hS (rc_15 hI hG0 List.not_mem_nil) rfl rfl hl.1 rfl (Nat.le_of_ble_eq_true rfl) dX11_strike_45 ⟨Nat.zero_le _, Nat.zero_le _⟩ (fun r420 H locs hp hI hS => ?_)
        have hp := hp.symm
        subst hp
        have hpost : True := trivial
        rw [hQ]
        exact W.iret (v := r412) hx hb hr (fun t ht hW => ⟨⟨r412, (), rfl, hpost, by rw [ht]; exact hI, hN.warm hW, va_K.moved hW.alike hK⟩, hS.F ht⟩) hS.2.2 dX11_strike_48
    · skip
      try simp only [rg, not_and, Int.not_le] at hp
      have hp421 := hp
      refine lv_if_ne (tgt := 21) hx hb dX11_strike_12 (by decide) (fun c => absurd c (by decide)) (fun _ => ?_)
      exact J_15 s.heap locs ls  (lv_sub hl [0, 1, 2, 3] rfl)  hI hS
  · skip
    try simp only [rg, not_and, Int.not_le] at hp
    have hp422 := hp
    refine lv_if_eq (tgt := 15) hx hb dX11_strike_5 (by decide) (fun _ => ?_) (fun c => absurd c (by decide))
    exact J_15 s.heap locs ls  (lv_sub hl [0, 1, 2, 3] rfl)  hI hS
theorem dX11_terms_0g : (decode cX11_terms 0 = .ok (.iload_n 1, 1)) ∧ (decode cX11_terms 1 = .ok (.ifCond .ne 18, 3)) ∧ (decode cX11_terms 4 = .ok (.iload_n 2, 1)) ∧ (decode cX11_terms 5 = .ok (.bipush (-3), 2)) ∧ (decode cX11_terms 7 = .ok (.if_icmp .lt 12, 3)) ∧ (decode cX11_terms 10 = .ok (.iload_n 2, 1)) ∧ (decode cX11_terms 11 = .ok (.iconst 3, 1)) ∧ (decode cX11_terms 12 = .ok (.if_icmp .gt 7, 3)) ∧ (decode cX11_terms 15 = .ok (.iconst 1, 1)) ∧ (decode cX11_terms 16 = .ok (.goto 4, 3)) := by decide +kernel
theorem dX11_terms_0 : decode cX11_terms 0 = .ok (.iload_n 1, 1) := dX11_terms_0g.1
theorem dX11_terms_1 : decode cX11_terms 1 = .ok (.ifCond .ne 18, 3) := dX11_terms_0g.2.1
theorem dX11_terms_4 : decode cX11_terms 4 = .ok (.iload_n 2, 1) := dX11_terms_0g.2.2.1
theorem dX11_terms_5 : decode cX11_terms 5 = .ok (.bipush (-3), 2) := dX11_terms_0g.2.2.2.1
theorem dX11_terms_7 : decode cX11_terms 7 = .ok (.if_icmp .lt 12, 3) := dX11_terms_0g.2.2.2.2.1
theorem dX11_terms_10 : decode cX11_terms 10 = .ok (.iload_n 2, 1) := dX11_terms_0g.2.2.2.2.2.1
theorem dX11_terms_11 : decode cX11_terms 11 = .ok (.iconst 3, 1) := dX11_terms_0g.2.2.2.2.2.2.1
theorem dX11_terms_12 : decode cX11_terms 12 = .ok (.if_icmp .gt 7, 3) := dX11_terms_0g.2.2.2.2.2.2.2.1
theorem dX11_terms_15 : decode cX11_terms 15 = .ok (.iconst 1, 1) := dX11_terms_0g.2.2.2.2.2.2.2.2.1
theorem dX11_terms_16 : decode cX11_terms 16 = .ok (.goto 4, 3) := dX11_terms_0g.2.2.2.2.2.2.2.2.2
theorem dX11_terms_19g : (decode cX11_terms 19 = .ok (.iconst 0, 1)) ∧ (decode cX11_terms 20 = .ok (.istore_n 3, 1)) ∧ (decode cX11_terms 21 = .ok (.iload_n 1, 1)) ∧ (decode cX11_terms 22 = .ok (.iconst 1, 1)) ∧ (decode cX11_terms 23 = .ok (.if_icmp .ne 17, 3)) ∧ (decode cX11_terms 26 = .ok (.iload_n 2, 1)) ∧ (decode cX11_terms 27 = .ok (.ifCond .lt 13, 3)) ∧ (decode cX11_terms 30 = .ok (.iload_n 2, 1)) ∧ (decode cX11_terms 31 = .ok (.bipush 99, 2)) ∧ (decode cX11_terms 33 = .ok (.if_icmp .gt 7, 3)) := by decide +kernel
theorem dX11_terms_19 : decode cX11_terms 19 = .ok (.iconst 0, 1) := dX11_terms_19g.1
theorem dX11_terms_20 : decode cX11_terms 20 = .ok (.istore_n 3, 1) := dX11_terms_19g.2.1
theorem dX11_terms_21 : decode cX11_terms 21 = .ok (.iload_n 1, 1) := dX11_terms_19g.2.2.1
theorem dX11_terms_22 : decode cX11_terms 22 = .ok (.iconst 1, 1) := dX11_terms_19g.2.2.2.1
theorem dX11_terms_23 : decode cX11_terms 23 = .ok (.if_icmp .ne 17, 3) := dX11_terms_19g.2.2.2.2.1
theorem dX11_terms_26 : decode cX11_terms 26 = .ok (.iload_n 2, 1) := dX11_terms_19g.2.2.2.2.2.1
theorem dX11_terms_27 : decode cX11_terms 27 = .ok (.ifCond .lt 13, 3) := dX11_terms_19g.2.2.2.2.2.2.1
theorem dX11_terms_30 : decode cX11_terms 30 = .ok (.iload_n 2, 1) := dX11_terms_19g.2.2.2.2.2.2.2.1
theorem dX11_terms_31 : decode cX11_terms 31 = .ok (.bipush 99, 2) := dX11_terms_19g.2.2.2.2.2.2.2.2.1
theorem dX11_terms_33 : decode cX11_terms 33 = .ok (.if_icmp .gt 7, 3) := dX11_terms_19g.2.2.2.2.2.2.2.2.2
theorem dX11_terms_36g : (decode cX11_terms 36 = .ok (.iconst 1, 1)) ∧ (decode cX11_terms 37 = .ok (.goto 4, 3)) ∧ (decode cX11_terms 40 = .ok (.iconst 0, 1)) ∧ (decode cX11_terms 41 = .ok (.istore 4, 2)) ∧ (decode cX11_terms 43 = .ok (.iload_n 3, 1)) ∧ (decode cX11_terms 44 = .ok (.ifCond .ne 18, 3)) ∧ (decode cX11_terms 47 = .ok (.iload 4, 2)) ∧ (decode cX11_terms 49 = .ok (.ifCond .ne 13, 3)) ∧ (decode cX11_terms 52 = .ok (.aload_n 0, 1)) ∧ (decode cX11_terms 53 = .ok (.iconst (-1), 1)) := by decide +kernel
theorem dX11_terms_36 : decode cX11_terms 36 = .ok (.iconst 1, 1) := dX11_terms_36g.1
theorem dX11_terms_37 : decode cX11_terms 37 = .ok (.goto 4, 3) := dX11_terms_36g.2.1
theorem dX11_terms_40 : decode cX11_terms 40 = .ok (.iconst 0, 1) := dX11_terms_36g.2.2.1
theorem dX11_terms_41 : decode cX11_terms 41 = .ok (.istore 4, 2) := dX11_terms_36g.2.2.2.1
theorem dX11_terms_43 : decode cX11_terms 43 = .ok (.iload_n 3, 1) := dX11_terms_36g.2.2.2.2.1
theorem dX11_terms_44 : decode cX11_terms 44 = .ok (.ifCond .ne 18, 3) := dX11_terms_36g.2.2.2.2.2.1
theorem dX11_terms_47 : decode cX11_terms 47 = .ok (.iload 4, 2) := dX11_terms_36g.2.2.2.2.2.2.1
theorem dX11_terms_49 : decode cX11_terms 49 = .ok (.ifCond .ne 13, 3) := dX11_terms_36g.2.2.2.2.2.2.2.1
theorem dX11_terms_52 : decode cX11_terms 52 = .ok (.aload_n 0, 1) := dX11_terms_36g.2.2.2.2.2.2.2.2.1
theorem dX11_terms_53 : decode cX11_terms 53 = .ok (.iconst (-1), 1) := dX11_terms_36g.2.2.2.2.2.2.2.2.2
theorem dX11_terms_54g : (decode cX11_terms 54 = .ok (.invokevirtual 113, 3)) ∧ (decode cX11_terms 57 = .ok (.pop, 1)) ∧ (decode cX11_terms 58 = .ok (.sipush (-1000), 3)) ∧ (decode cX11_terms 61 = .ok (.ireturn, 1)) ∧ (decode cX11_terms 62 = .ok (.iload_n 3, 1)) ∧ (decode cX11_terms 63 = .ok (.ifCond .eq 13, 3)) ∧ (decode cX11_terms 66 = .ok (.aload_n 0, 1)) ∧ (decode cX11_terms 67 = .ok (.getfield 12, 3)) ∧ (decode cX11_terms 70 = .ok (.getfield 179, 3)) ∧ (decode cX11_terms 73 = .ok (.goto 10, 3)) := by decide +kernel
theorem dX11_terms_54 : decode cX11_terms 54 = .ok (.invokevirtual 113, 3) := dX11_terms_54g.1
theorem dX11_terms_57 : decode cX11_terms 57 = .ok (.pop, 1) := dX11_terms_54g.2.1
theorem dX11_terms_58 : decode cX11_terms 58 = .ok (.sipush (-1000), 3) := dX11_terms_54g.2.2.1
theorem dX11_terms_61 : decode cX11_terms 61 = .ok (.ireturn, 1) := dX11_terms_54g.2.2.2.1
theorem dX11_terms_62 : decode cX11_terms 62 = .ok (.iload_n 3, 1) := dX11_terms_54g.2.2.2.2.1
theorem dX11_terms_63 : decode cX11_terms 63 = .ok (.ifCond .eq 13, 3) := dX11_terms_54g.2.2.2.2.2.1
theorem dX11_terms_66 : decode cX11_terms 66 = .ok (.aload_n 0, 1) := dX11_terms_54g.2.2.2.2.2.2.1
theorem dX11_terms_67 : decode cX11_terms 67 = .ok (.getfield 12, 3) := dX11_terms_54g.2.2.2.2.2.2.2.1
theorem dX11_terms_70 : decode cX11_terms 70 = .ok (.getfield 179, 3) := dX11_terms_54g.2.2.2.2.2.2.2.2.1
theorem dX11_terms_73 : decode cX11_terms 73 = .ok (.goto 10, 3) := dX11_terms_54g.2.2.2.2.2.2.2.2.2
theorem dX11_terms_76g : (decode cX11_terms 76 = .ok (.aload_n 0, 1)) ∧ (decode cX11_terms 77 = .ok (.getfield 12, 3)) ∧ (decode cX11_terms 80 = .ok (.getfield 182, 3)) ∧ (decode cX11_terms 83 = .ok (.istore 5, 2)) ∧ (decode cX11_terms 85 = .ok (.iload_n 3, 1)) ∧ (decode cX11_terms 86 = .ok (.ifCond .eq 14, 3)) ∧ (decode cX11_terms 89 = .ok (.aload_n 0, 1)) ∧ (decode cX11_terms 90 = .ok (.getfield 12, 3)) ∧ (decode cX11_terms 93 = .ok (.iload_n 2, 1)) ∧ (decode cX11_terms 94 = .ok (.putfield 179, 3)) := by decide +kernel
theorem dX11_terms_76 : decode cX11_terms 76 = .ok (.aload_n 0, 1) := dX11_terms_76g.1
theorem dX11_terms_77 : decode cX11_terms 77 = .ok (.getfield 12, 3) := dX11_terms_76g.2.1
theorem dX11_terms_80 : decode cX11_terms 80 = .ok (.getfield 182, 3) := dX11_terms_76g.2.2.1
theorem dX11_terms_83 : decode cX11_terms 83 = .ok (.istore 5, 2) := dX11_terms_76g.2.2.2.1
theorem dX11_terms_85 : decode cX11_terms 85 = .ok (.iload_n 3, 1) := dX11_terms_76g.2.2.2.2.1
theorem dX11_terms_86 : decode cX11_terms 86 = .ok (.ifCond .eq 14, 3) := dX11_terms_76g.2.2.2.2.2.1
theorem dX11_terms_89 : decode cX11_terms 89 = .ok (.aload_n 0, 1) := dX11_terms_76g.2.2.2.2.2.2.1
theorem dX11_terms_90 : decode cX11_terms 90 = .ok (.getfield 12, 3) := dX11_terms_76g.2.2.2.2.2.2.2.1
theorem dX11_terms_93 : decode cX11_terms 93 = .ok (.iload_n 2, 1) := dX11_terms_76g.2.2.2.2.2.2.2.2.1
theorem dX11_terms_94 : decode cX11_terms 94 = .ok (.putfield 179, 3) := dX11_terms_76g.2.2.2.2.2.2.2.2.2
theorem dX11_terms_97g : (decode cX11_terms 97 = .ok (.goto 11, 3)) ∧ (decode cX11_terms 100 = .ok (.aload_n 0, 1)) ∧ (decode cX11_terms 101 = .ok (.getfield 12, 3)) ∧ (decode cX11_terms 104 = .ok (.iload_n 2, 1)) ∧ (decode cX11_terms 105 = .ok (.putfield 182, 3)) ∧ (decode cX11_terms 108 = .ok (.aload_n 0, 1)) ∧ (decode cX11_terms 109 = .ok (.invokevirtual 124, 3)) ∧ (decode cX11_terms 112 = .ok (.aload_n 0, 1)) ∧ (decode cX11_terms 113 = .ok (.iload 5, 2)) ∧ (decode cX11_terms 115 = .ok (.invokevirtual 127, 3)) := by decide +kernel
theorem dX11_terms_97 : decode cX11_terms 97 = .ok (.goto 11, 3) := dX11_terms_97g.1
theorem dX11_terms_100 : decode cX11_terms 100 = .ok (.aload_n 0, 1) := dX11_terms_97g.2.1
theorem dX11_terms_101 : decode cX11_terms 101 = .ok (.getfield 12, 3) := dX11_terms_97g.2.2.1
theorem dX11_terms_104 : decode cX11_terms 104 = .ok (.iload_n 2, 1) := dX11_terms_97g.2.2.2.1
theorem dX11_terms_105 : decode cX11_terms 105 = .ok (.putfield 182, 3) := dX11_terms_97g.2.2.2.2.1
theorem dX11_terms_108 : decode cX11_terms 108 = .ok (.aload_n 0, 1) := dX11_terms_97g.2.2.2.2.2.1
theorem dX11_terms_109 : decode cX11_terms 109 = .ok (.invokevirtual 124, 3) := dX11_terms_97g.2.2.2.2.2.2.1
theorem dX11_terms_112 : decode cX11_terms 112 = .ok (.aload_n 0, 1) := dX11_terms_97g.2.2.2.2.2.2.2.1
theorem dX11_terms_113 : decode cX11_terms 113 = .ok (.iload 5, 2) := dX11_terms_97g.2.2.2.2.2.2.2.2.1
theorem dX11_terms_115 : decode cX11_terms 115 = .ok (.invokevirtual 127, 3) := dX11_terms_97g.2.2.2.2.2.2.2.2.2
theorem dX11_terms_118 : decode cX11_terms 118 = .ok (.ireturn, 1) := by decide +kernel
set_option maxHeartbeats 4000000 in
set_option maxRecDepth 100000 in
theorem c_X11_terms (l : Launch) (E : Nat → Nat) (D : va_G) (G : th_G) (h0 n : Nat) (hG0 : G h0 = some (15, n)) (x1 x2 : Int32) : Met l yX11_terms (tb (.code yX11_terms cX11_terms 6 (some .int))) (rm 3) (va_Pc [.ref h0, .int x1, .int x2] (th_P E D G)) (QI E D G (fun r => True)) 0 0 (th_A G) := by
  refine Met.ofW (cc := cX11_terms) (maxL := 6) (ret := (some .int)) (by decide) rfl ?_
  intro p e s m args below meth c s₁ B hml hv
  obtain ⟨hav, hI, hN, hK⟩ := hv
  have hx := B.exec
  have hb := B.bytes
  have hr := B.returns
  have hts := atoms_spec (ws := tb (.code yX11_terms cX11_terms 6 (some .int))) B.pre
  have hown : s.vm.findClass RX11 = some m.cls := findClass_of_methodNamed B.named
  have hlocks := B.notSynchronized
  have hS : va_S (th_A G) s.heap s.heap [] := va_S.rf
  have hl := lv_entry ([.ref h0, .int x1, .int x2]) (n := 6) (Nat.le_of_ble_eq_true rfl)
  rw [show entryFrame m args 6 = entryFrame m ([.ref h0, .int x1, .int x2] : List Value).toArray 6 from by rw [hav], lg_entry_eq]
  generalize (lg_sl ([.ref h0, .int x1, .int x2]) ++ List.replicate (6 - (lg_sl ([.ref h0, .int x1, .int x2])).length) Slot.unset).toArray = ls at hl ⊢
  have hl : lv_has ls 6 [(0, .ref h0), (1, .int x1), (2, .int x2)] := hl
  generalize hR : (headSpec (tb (.code yX11_terms cX11_terms 6 (some .int))) (rm 3)).room = R
  have hR := hR.symm
  generalize hQ : MQ below (QI E D G (fun r => True)) args s 0 0 (th_A G) = QF
  have hQ := hQ.symm
  have J_83 : ∀ (H : Heap) (locs : List Loc) (ls : Array Slot) (v2524 : Int32) (v2525 : Int32) (v2526 : Int32), lv_has ls 6 [(4, .int v2524), (3, .int v2525), (0, .ref h0), (1, .int x1), (2, .int x2)] → ((0 : Int) ≤ v2524.toInt ∧ v2524.toInt ≤ 1) → ((0 : Int) ≤ v2525.toInt ∧ v2525.toInt ≤ 1) → th_I (okC E) D G [] H → va_S (th_A G) s.heap H locs → W p l e R s m args below meth c H locs 0 0 QF (F0 m 83 ls [.int v2526]) := by
    intro H locs ls v2524 v2525 v2526 hl k2527 k2528 hI hS
    refine lv_istore (lv' := [(5, .int v2526), (4, .int v2524), (3, .int v2525), (0, .ref h0), (1, .int x1), (2, .int x2)]) hx hb dX11_terms_83 hl (by decide) rfl (fun ls hl => ?_)
    refine lv_iload_n hx hb dX11_terms_85 rfl (lv_at hl 2 rfl) ?_
    refine lv_if_eq (tgt := 100) hx hb dX11_terms_86 (by decide) (fun c2529 => ?_) (fun c2529 => ?_)
    · skip
      have k2530 := iv_eq (X := v2525.toInt) (Y := (0)) rfl (by decide) c2529
      refine lv_aload_n hx hb dX11_terms_100 rfl (lv_at hl 3 rfl) ?_
      obtain ⟨a2531, a2534, a2536, a2538, a2540, a2542, a2544, a2546, a2548, a2550, a2552, w2554, w2557, w2558, w2559, w2560, hO, hq2532, hq2533, hq2535, hq2537, hq2539, hq2541, hq2543, hq2545, hq2547, hq2549, hq2551, hq2553, ⟨k2555, k2556⟩, k2561⟩ := op_15 hI hG0 List.not_mem_nil
      have hI := th_I.weak (a := h0) hI
      refine th_get hx hb hts inT11 hown hK hO rfl 0 (by decide) (hts _ (tb_c wd_345)) rfl rfl dX11_terms_101 ?_
      refine lv_iload_n hx hb dX11_terms_104 rfl (lv_at hl 5 rfl) ?_
      have hI := th_I.close hI hG0 hO (ok_15 hq2532 hq2533 hq2535 hq2537 hq2539 hq2541 hq2543 hq2545 hq2547 hq2549 hq2551 hq2553 ⟨by omega, by omega⟩ k2561)
      obtain ⟨a2562, a2564, a2566, a2568, a2570, a2572, a2574, a2576, a2578, a2580, w2582, w2585, w2586, w2587, hO, hq2563, hq2565, hq2567, hq2569, hq2571, hq2573, hq2575, hq2577, hq2579, hq2581, ⟨k2583, k2584⟩, k2588⟩ := op_6 hI hq2532 List.not_mem_nil
      have hI := th_I.weak (a := a2531) hI
      refine th_putN (ty := .int) hx hb hts inT6 tyX6 tyX6_ok nmX6 hown hK hN hO hS ⟨_, hq2532⟩ rfl 13 (by decide) wn_92 rfl rfl (by decide +kernel) rfl rfl (Nat.le_of_ble_eq_true rfl) dX11_terms_105 (fun H locs hO oq hS => ?_)
      have hI := th_I.moved hI oq
      have hO : va_at D vwCl (a2531, .inr (6, [.ref a2562, .ref a2564, .ref a2566, .ref a2568, .ref a2570, .ref a2572, .ref a2574, .ref a2576, .ref a2578, .ref a2580, .int w2582, .int w2585, .int w2586, .int x2])) H := hO
      refine lv_aload_n hx hb dX11_terms_108 rfl (lv_at hl 3 rfl) ?_
      have hI := th_I.close hI hq2532 hO (ok_6 hq2563 hq2565 hq2567 hq2569 hq2571 hq2573 hq2575 hq2577 hq2579 hq2581 ⟨by omega, by omega⟩ k2588)
      refine th_cVv (As := []) (rest := []) (n := 0) (d := 2) ⟨hx, hb, hml, hown, hts⟩ (c_X11_turnRiver l E D G h0 (n) hG0 ) wd_423 wd_425 wp_1 wd_1 wd_426 (by decide +kernel) ⟨by rw [hR]; exact Nat.le_of_ble_eq_true rfl, by rw [hR]; exact Nat.le_of_ble_eq_true rfl⟩ hI hN hK hS (rc_15 hI hG0 List.not_mem_nil) rfl rfl hl.1 rfl (Nat.le_of_ble_eq_true rfl) dX11_terms_109 ⟨Nat.zero_le _, Nat.zero_le _⟩ (fun H locs hI hS => ?_)
      refine lv_aload_n hx hb dX11_terms_112 rfl (lv_at hl 3 rfl) ?_
      refine lv_iload hx hb dX11_terms_113 (lv_at hl 0 rfl) ?_
      refine th_cVi (As := [.int v2526]) (rest := []) (n := 1) (d := 0) ⟨hx, hb, hml, hown, hts⟩ (c_X11_accept l E D G h0 (n) hG0 v2526) wd_447 wd_449 wp_3 wd_1 wd_450 (by decide +kernel) ⟨by rw [hR]; exact Nat.le_of_ble_eq_true rfl, by rw [hR]; exact Nat.le_of_ble_eq_true rfl⟩ hI hN hK hS (rc_15 hI hG0 List.not_mem_nil) rfl rfl hl.1 rfl (Nat.le_of_ble_eq_true rfl) dX11_terms_115 ⟨Nat.zero_le _, Nat.zero_le _⟩ (fun r2590 H locs hp hI hS => ?_)
      have hp := hp.symm
      subst hp
      have hpost : True := trivial
      rw [hQ]
      exact W.iret (v := v2526) hx hb hr (fun t ht hW => ⟨⟨v2526, (), rfl, hpost, by rw [ht]; exact hI, hN.warm hW, va_K.moved hW.alike hK⟩, hS.F ht⟩) hS.2.2 dX11_terms_118
    · skip
      have k2591 := iv_ne (X := v2525.toInt) (Y := (0)) rfl (by decide) c2529
      refine lv_aload_n hx hb dX11_terms_89 rfl (lv_at hl 3 rfl) ?_
      obtain ⟨a2592, a2595, a2597, a2599, a2601, a2603, a2605, a2607, a2609, a2611, a2613, w2615, w2618, w2619, w2620, w2621, hO, hq2593, hq2594, hq2596, hq2598, hq2600, hq2602, hq2604, hq2606, hq2608, hq2610, hq2612, hq2614, ⟨k2616, k2617⟩, k2622⟩ := op_15 hI hG0 List.not_mem_nil
      have hI := th_I.weak (a := h0) hI
      refine th_get hx hb hts inT11 hown hK hO rfl 0 (by decide) (hts _ (tb_c wd_345)) rfl rfl dX11_terms_90 ?_
      refine lv_iload_n hx hb dX11_terms_93 rfl (lv_at hl 5 rfl) ?_
      have hI := th_I.close hI hG0 hO (ok_15 hq2593 hq2594 hq2596 hq2598 hq2600 hq2602 hq2604 hq2606 hq2608 hq2610 hq2612 hq2614 ⟨by omega, by omega⟩ k2622)
      obtain ⟨a2623, a2625, a2627, a2629, a2631, a2633, a2635, a2637, a2639, a2641, w2643, w2646, w2647, w2648, hO, hq2624, hq2626, hq2628, hq2630, hq2632, hq2634, hq2636, hq2638, hq2640, hq2642, ⟨k2644, k2645⟩, k2649⟩ := op_6 hI hq2593 List.not_mem_nil
      have hI := th_I.weak (a := a2592) hI
      refine th_putN (ty := .int) hx hb hts inT6 tyX6 tyX6_ok nmX6 hown hK hN hO hS ⟨_, hq2593⟩ rfl 12 (by decide) wn_88 rfl rfl (by decide +kernel) rfl rfl (Nat.le_of_ble_eq_true rfl) dX11_terms_94 (fun H locs hO oq hS => ?_)
      have hI := th_I.moved hI oq
      have hO : va_at D vwCl (a2592, .inr (6, [.ref a2623, .ref a2625, .ref a2627, .ref a2629, .ref a2631, .ref a2633, .ref a2635, .ref a2637, .ref a2639, .ref a2641, .int w2643, .int w2646, .int x2, .int w2648])) H := hO
      refine lv_goto (tgt := 108) hx hb dX11_terms_97 (by decide) ?_
      refine lv_aload_n hx hb dX11_terms_108 rfl (lv_at hl 3 rfl) ?_
      have hI := th_I.close hI hq2593 hO (ok_6 hq2624 hq2626 hq2628 hq2630 hq2632 hq2634 hq2636 hq2638 hq2640 hq2642 ⟨by omega, by omega⟩ k2649)
      refine th_cVv (As := []) (rest := []) (n := 0) (d := 2) ⟨hx, hb, hml, hown, hts⟩ (c_X11_turnRiver l E D G h0 (n) hG0 ) wd_423 wd_425 wp_1 wd_1 wd_426 (by decide +kernel) ⟨by rw [hR]; exact Nat.le_of_ble_eq_true rfl, by rw [hR]; exact Nat.le_of_ble_eq_true rfl⟩ hI hN hK hS (rc_15 hI hG0 List.not_mem_nil) rfl rfl hl.1 rfl (Nat.le_of_ble_eq_true rfl) dX11_terms_109 ⟨Nat.zero_le _, Nat.zero_le _⟩ (fun H locs hI hS => ?_)
      refine lv_aload_n hx hb dX11_terms_112 rfl (lv_at hl 3 rfl) ?_
      refine lv_iload hx hb dX11_terms_113 (lv_at hl 0 rfl) ?_
      refine th_cVi (As := [.int v2526]) (rest := []) (n := 1) (d := 0) ⟨hx, hb, hml, hown, hts⟩ (c_X11_accept l E D G h0 (n) hG0 v2526) wd_447 wd_449 wp_3 wd_1 wd_450 (by decide +kernel) ⟨by rw [hR]; exact Nat.le_of_ble_eq_true rfl, by rw [hR]; exact Nat.le_of_ble_eq_true rfl⟩ hI hN hK hS (rc_15 hI hG0 List.not_mem_nil) rfl rfl hl.1 rfl (Nat.le_of_ble_eq_true rfl) dX11_terms_115 ⟨Nat.zero_le _, Nat.zero_le _⟩ (fun r2651 H locs hp hI hS => ?_)
      have hp := hp.symm
      subst hp
      have hpost : True := trivial
      rw [hQ]
      exact W.iret (v := v2526) hx hb hr (fun t ht hW => ⟨⟨v2526, (), rfl, hpost, by rw [ht]; exact hI, hN.warm hW, va_K.moved hW.alike hK⟩, hS.F ht⟩) hS.2.2 dX11_terms_118
  have J_62 : ∀ (H : Heap) (locs : List Loc) (ls : Array Slot) (v2652 : Int32) (v2653 : Int32), lv_has ls 6 [(4, .int v2652), (3, .int v2653), (0, .ref h0), (1, .int x1), (2, .int x2)] → ((0 : Int) ≤ v2652.toInt ∧ v2652.toInt ≤ 1) → ((0 : Int) ≤ v2653.toInt ∧ v2653.toInt ≤ 1) → th_I (okC E) D G [] H → va_S (th_A G) s.heap H locs → W p l e R s m args below meth c H locs 0 0 QF (F0 m 62 ls []) := by
    intro H locs ls v2652 v2653 hl k2654 k2655 hI hS
    refine lv_iload_n hx hb dX11_terms_62 rfl (lv_at hl 1 rfl) ?_
    refine lv_if_eq (tgt := 76) hx hb dX11_terms_63 (by decide) (fun c2656 => ?_) (fun c2656 => ?_)
    · skip
      have k2657 := iv_eq (X := v2653.toInt) (Y := (0)) rfl (by decide) c2656
      refine lv_aload_n hx hb dX11_terms_76 rfl (lv_at hl 2 rfl) ?_
      obtain ⟨a2658, a2661, a2663, a2665, a2667, a2669, a2671, a2673, a2675, a2677, a2679, w2681, w2684, w2685, w2686, w2687, hO, hq2659, hq2660, hq2662, hq2664, hq2666, hq2668, hq2670, hq2672, hq2674, hq2676, hq2678, hq2680, ⟨k2682, k2683⟩, k2688⟩ := op_15 hI hG0 List.not_mem_nil
      have hI := th_I.weak (a := h0) hI
      refine th_get hx hb hts inT11 hown hK hO rfl 0 (by decide) (hts _ (tb_c wd_345)) rfl rfl dX11_terms_77 ?_
      have hI := th_I.close hI hG0 hO (ok_15 hq2659 hq2660 hq2662 hq2664 hq2666 hq2668 hq2670 hq2672 hq2674 hq2676 hq2678 hq2680 ⟨by omega, by omega⟩ k2688)
      obtain ⟨a2689, a2691, a2693, a2695, a2697, a2699, a2701, a2703, a2705, a2707, w2709, w2712, w2713, w2714, hO, hq2690, hq2692, hq2694, hq2696, hq2698, hq2700, hq2702, hq2704, hq2706, hq2708, ⟨k2710, k2711⟩, k2715⟩ := op_6 hI hq2659 List.not_mem_nil
      have hI := th_I.weak (a := a2658) hI
      refine th_getN hx hb hts inT6 hown hK hN hO rfl 13 (by decide) wn_92 rfl rfl dX11_terms_80 ?_
      have hI := th_I.close hI hq2659 hO (ok_6 hq2690 hq2692 hq2694 hq2696 hq2698 hq2700 hq2702 hq2704 hq2706 hq2708 ⟨by omega, by omega⟩ k2715)
      exact J_83 H locs ls v2652 v2653 w2714 (lv_sub hl [0, 1, 2, 3, 4] rfl) ⟨by omega, by omega⟩ ⟨by omega, by omega⟩ hI hS
    · skip
      have k2716 := iv_ne (X := v2653.toInt) (Y := (0)) rfl (by decide) c2656
      refine lv_aload_n hx hb dX11_terms_66 rfl (lv_at hl 2 rfl) ?_
      obtain ⟨a2717, a2720, a2722, a2724, a2726, a2728, a2730, a2732, a2734, a2736, a2738, w2740, w2743, w2744, w2745, w2746, hO, hq2718, hq2719, hq2721, hq2723, hq2725, hq2727, hq2729, hq2731, hq2733, hq2735, hq2737, hq2739, ⟨k2741, k2742⟩, k2747⟩ := op_15 hI hG0 List.not_mem_nil
      have hI := th_I.weak (a := h0) hI
      refine th_get hx hb hts inT11 hown hK hO rfl 0 (by decide) (hts _ (tb_c wd_345)) rfl rfl dX11_terms_67 ?_
      have hI := th_I.close hI hG0 hO (ok_15 hq2718 hq2719 hq2721 hq2723 hq2725 hq2727 hq2729 hq2731 hq2733 hq2735 hq2737 hq2739 ⟨by omega, by omega⟩ k2747)
      obtain ⟨a2748, a2750, a2752, a2754, a2756, a2758, a2760, a2762, a2764, a2766, w2768, w2771, w2772, w2773, hO, hq2749, hq2751, hq2753, hq2755, hq2757, hq2759, hq2761, hq2763, hq2765, hq2767, ⟨k2769, k2770⟩, k2774⟩ := op_6 hI hq2718 List.not_mem_nil
      have hI := th_I.weak (a := a2717) hI
      refine th_getN hx hb hts inT6 hown hK hN hO rfl 12 (by decide) wn_88 rfl rfl dX11_terms_70 ?_
      refine lv_goto (tgt := 83) hx hb dX11_terms_73 (by decide) ?_
      have hI := th_I.close hI hq2718 hO (ok_6 hq2749 hq2751 hq2753 hq2755 hq2757 hq2759 hq2761 hq2763 hq2765 hq2767 ⟨by omega, by omega⟩ k2774)
      exact J_83 H locs ls v2652 v2653 w2772 (lv_sub hl [0, 1, 2, 3, 4] rfl) ⟨by omega, by omega⟩ ⟨by omega, by omega⟩ hI hS
  have J_41 : ∀ (H : Heap) (locs : List Loc) (ls : Array Slot) (v2775 : Int32) (v2776 : Int32), lv_has ls 6 [(3, .int v2775), (0, .ref h0), (1, .int x1), (2, .int x2)] → ((0 : Int) ≤ v2775.toInt ∧ v2775.toInt ≤ 1) → ((0 : Int) ≤ v2776.toInt ∧ v2776.toInt ≤ 1) → th_I (okC E) D G [] H → va_S (th_A G) s.heap H locs → W p l e R s m args below meth c H locs 0 0 QF (F0 m 41 ls [.int v2776]) := by
    intro H locs ls v2775 v2776 hl k2777 k2778 hI hS
    refine lv_istore (lv' := [(4, .int v2776), (3, .int v2775), (0, .ref h0), (1, .int x1), (2, .int x2)]) hx hb dX11_terms_41 hl (by decide) rfl (fun ls hl => ?_)
    refine lv_iload_n hx hb dX11_terms_43 rfl (lv_at hl 1 rfl) ?_
    refine lv_if_ne (tgt := 62) hx hb dX11_terms_44 (by decide) (fun c2779 => ?_) (fun c2779 => ?_)
    · skip
      have k2780 := iv_ne (X := v2775.toInt) (Y := (0)) rfl (by decide) c2779
      exact J_62 H locs ls v2776 v2775 (lv_sub hl [0, 1, 2, 3, 4] rfl) ⟨by omega, by omega⟩ ⟨by omega, by omega⟩ hI hS
    · skip
      have k2781 := iv_eq (X := v2775.toInt) (Y := (0)) rfl (by decide) c2779
      refine lv_iload hx hb dX11_terms_47 (lv_at hl 0 rfl) ?_
      refine lv_if_ne (tgt := 62) hx hb dX11_terms_49 (by decide) (fun c2782 => ?_) (fun c2782 => ?_)
      · skip
        have k2783 := iv_ne (X := v2776.toInt) (Y := (0)) rfl (by decide) c2782
        exact J_62 H locs ls v2776 v2775 (lv_sub hl [0, 1, 2, 3, 4] rfl) ⟨by omega, by omega⟩ ⟨by omega, by omega⟩ hI hS
      · skip
        have k2784 := iv_eq (X := v2776.toInt) (Y := (0)) rfl (by decide) c2782
        refine lv_aload_n hx hb dX11_terms_52 rfl (lv_at hl 2 rfl) ?_
        refine lv_iconst (v := (-1)) hx hb dX11_terms_53 (by decide) ?_
        refine th_cVi (As := [.int (-1)]) (rest := []) (n := 1) (d := 0) ⟨hx, hb, hml, hown, hts⟩ (c_X11_refuse l E D G h0 (n) hG0 (-1)) wd_407 wd_409 wp_0 wd_1 wd_410 (by decide +kernel) ⟨by rw [hR]; exact Nat.le_of_ble_eq_true rfl, by rw [hR]; exact Nat.le_of_ble_eq_true rfl⟩ hI hN hK hS (rc_15 hI hG0 List.not_mem_nil) rfl rfl hl.1 rfl (Nat.le_of_ble_eq_true rfl) dX11_terms_54 ⟨Nat.zero_le _, Nat.zero_le _⟩ (fun r2785 H locs hp hI hS => ?_)
        have hp := hp.symm
        subst hp
        refine lv_pop hx hb dX11_terms_57 rfl ?_
        refine lv_sipush (v := (-1000)) hx hb dX11_terms_58 (by decide) ?_
        have hpost : True := trivial
        rw [hQ]
        exact W.iret (v := (-1000)) hx hb hr (fun t ht hW => ⟨⟨(-1000), (), rfl, hpost, by rw [ht]; exact hI, hN.warm hW, va_K.moved hW.alike hK⟩, hS.F ht⟩) hS.2.2 dX11_terms_61
  have J_40 : ∀ (H : Heap) (locs : List Loc) (ls : Array Slot) (v2786 : Int32), lv_has ls 6 [(3, .int v2786), (0, .ref h0), (1, .int x1), (2, .int x2)] → ((0 : Int) ≤ v2786.toInt ∧ v2786.toInt ≤ 1) → th_I (okC E) D G [] H → va_S (th_A G) s.heap H locs → W p l e R s m args below meth c H locs 0 0 QF (F0 m 40 ls []) := by
    intro H locs ls v2786 hl k2787 hI hS
    refine lv_iconst (v := 0) hx hb dX11_terms_40 (by decide) ?_
    exact J_41 H locs ls v2786 0 (lv_sub hl [0, 1, 2, 3] rfl) ⟨by omega, by omega⟩ ⟨by decide, by decide⟩ hI hS
  have J_20 : ∀ (H : Heap) (locs : List Loc) (ls : Array Slot) (v2788 : Int32), lv_has ls 6 [(0, .ref h0), (1, .int x1), (2, .int x2)] → ((0 : Int) ≤ v2788.toInt ∧ v2788.toInt ≤ 1) → th_I (okC E) D G [] H → va_S (th_A G) s.heap H locs → W p l e R s m args below meth c H locs 0 0 QF (F0 m 20 ls [.int v2788]) := by
    intro H locs ls v2788 hl k2789 hI hS
    refine lv_istore_n (lv' := [(3, .int v2788), (0, .ref h0), (1, .int x1), (2, .int x2)]) hx hb dX11_terms_20 rfl hl (by decide) rfl (fun ls hl => ?_)
    refine lv_iload_n hx hb dX11_terms_21 rfl (lv_at hl 2 rfl) ?_
    refine lv_iconst (v := 1) hx hb dX11_terms_22 (by decide) ?_
    have k2790 := iv_lo x1
    have k2791 := iv_hi x1
    refine lv_icmp_ne (tgt := 40) hx hb dX11_terms_23 (by decide) (fun c2792 => ?_) (fun c2792 => ?_)
    · skip
      have k2793 := iv_ne (X := x1.toInt) (Y := (1)) rfl (by decide) c2792
      exact J_40 H locs ls v2788 (lv_sub hl [0, 1, 2, 3] rfl) ⟨by omega, by omega⟩ hI hS
    · skip
      have k2794 := iv_eq (X := x1.toInt) (Y := (1)) rfl (by decide) c2792
      refine lv_iload_n hx hb dX11_terms_26 rfl (lv_at hl 3 rfl) ?_
      have k2795 := iv_lo x2
      have k2796 := iv_hi x2
      refine lv_if_lt (tgt := 40) hx hb dX11_terms_27 (by decide) (fun c2797 => ?_) (fun c2797 => ?_)
      · skip
        have k2798 := iv_lt (X := x2.toInt) (Y := (0)) rfl (by decide) c2797
        exact J_40 H locs ls v2788 (lv_sub hl [0, 1, 2, 3] rfl) ⟨by omega, by omega⟩ hI hS
      · skip
        have k2799 := iv_nlt (X := x2.toInt) (Y := (0)) rfl (by decide) c2797
        refine lv_iload_n hx hb dX11_terms_30 rfl (lv_at hl 3 rfl) ?_
        refine lv_bipush (v := 99) hx hb dX11_terms_31 (by decide) ?_
        refine lv_icmp_gt (tgt := 40) hx hb dX11_terms_33 (by decide) (fun c2800 => ?_) (fun c2800 => ?_)
        · skip
          have k2801 := iv_lt (X := (99)) (Y := x2.toInt) (by decide) rfl c2800
          exact J_40 H locs ls v2788 (lv_sub hl [0, 1, 2, 3] rfl) ⟨by omega, by omega⟩ hI hS
        · skip
          have k2802 := iv_nlt (X := (99)) (Y := x2.toInt) (by decide) rfl c2800
          refine lv_iconst (v := 1) hx hb dX11_terms_36 (by decide) ?_
          refine lv_goto (tgt := 41) hx hb dX11_terms_37 (by decide) ?_
          exact J_41 H locs ls v2788 1 (lv_sub hl [0, 1, 2, 3] rfl) ⟨by omega, by omega⟩ ⟨by decide, by decide⟩ hI hS
  have J_19 : ∀ (H : Heap) (locs : List Loc) (ls : Array Slot) , lv_has ls 6 [(0, .ref h0), (1, .int x1), (2, .int x2)] → th_I (okC E) D G [] H → va_S (th_A G) s.heap H locs → W p l e R s m args below meth c H locs 0 0 QF (F0 m 19 ls []) := by
    intro H locs ls  hl  hI hS
    refine lv_iconst (v := 0) hx hb dX11_terms_19 (by decide) ?_
    exact J_20 H locs ls 0 (lv_sub hl [0, 1, 2] rfl) ⟨by decide, by decide⟩ hI hS
  refine lv_iload_n hx hb dX11_terms_0 rfl (lv_at hl 1 rfl) ?_
  have k2803 := iv_lo x1
  have k2804 := iv_hi x1
  refine lv_if_ne (tgt := 19) hx hb dX11_terms_1 (by decide) (fun c2805 => ?_) (fun c2805 => ?_)
  · skip
    have k2806 := iv_ne (X := x1.toInt) (Y := (0)) rfl (by decide) c2805
    exact J_19 s.heap [] ls  (lv_sub hl [0, 1, 2] rfl)  hI hS
  · skip
    have k2807 := iv_eq (X := x1.toInt) (Y := (0)) rfl (by decide) c2805
    refine lv_iload_n hx hb dX11_terms_4 rfl (lv_at hl 2 rfl) ?_
    refine lv_bipush (v := (-3)) hx hb dX11_terms_5 (by decide) ?_
    have k2808 := iv_lo x2
    have k2809 := iv_hi x2
    refine lv_icmp_lt (tgt := 19) hx hb dX11_terms_7 (by decide) (fun c2810 => ?_) (fun c2810 => ?_)
    · skip
      have k2811 := iv_lt (X := x2.toInt) (Y := (-3)) rfl (by decide) c2810
      exact J_19 s.heap [] ls  (lv_sub hl [0, 1, 2] rfl)  hI hS
    · skip
      have k2812 := iv_nlt (X := x2.toInt) (Y := (-3)) rfl (by decide) c2810
      refine lv_iload_n hx hb dX11_terms_10 rfl (lv_at hl 2 rfl) ?_
      refine lv_iconst (v := 3) hx hb dX11_terms_11 (by decide) ?_
      refine lv_icmp_gt (tgt := 19) hx hb dX11_terms_12 (by decide) (fun c2813 => ?_) (fun c2813 => ?_)
      · skip
        have k2814 := iv_lt (X := (3)) (Y := x2.toInt) (by decide) rfl c2813
        exact J_19 s.heap [] ls  (lv_sub hl [0, 1, 2] rfl)  hI hS
      · skip
        have k2815 := iv_nlt (X := (3)) (Y := x2.toInt) (by decide) rfl c2813
        refine lv_iconst (v := 1) hx hb dX11_terms_15 (by decide) ?_
        refine lv_goto (tgt := 20) hx hb dX11_terms_16 (by decide) ?_
        exact J_20 s.heap [] ls 1 (lv_sub hl [0, 1, 2] rfl) ⟨by decide, by decide⟩ hI hS
theorem dX11_feed_0g : (decode cX11_feed 0 = .ok (.aload_n 0, 1)) ∧ (decode cX11_feed 1 = .ok (.getfield 89, 3)) ∧ (decode cX11_feed 4 = .ok (.bipush 20, 2)) ∧ (decode cX11_feed 6 = .ok (.iadd, 1)) ∧ (decode cX11_feed 7 = .ok (.sipush 400, 3)) ∧ (decode cX11_feed 10 = .ok (.if_icmp .le 5, 3)) ∧ (decode cX11_feed 13 = .ok (.iconst (-1), 1)) ∧ (decode cX11_feed 14 = .ok (.ireturn, 1)) ∧ (decode cX11_feed 15 = .ok (.aload_n 0, 1)) ∧ (decode cX11_feed 16 = .ok (.iload_n 1, 1)) := by decide +kernel
theorem dX11_feed_0 : decode cX11_feed 0 = .ok (.aload_n 0, 1) := dX11_feed_0g.1
theorem dX11_feed_1 : decode cX11_feed 1 = .ok (.getfield 89, 3) := dX11_feed_0g.2.1
theorem dX11_feed_4 : decode cX11_feed 4 = .ok (.bipush 20, 2) := dX11_feed_0g.2.2.1
theorem dX11_feed_6 : decode cX11_feed 6 = .ok (.iadd, 1) := dX11_feed_0g.2.2.2.1
theorem dX11_feed_7 : decode cX11_feed 7 = .ok (.sipush 400, 3) := dX11_feed_0g.2.2.2.2.1
theorem dX11_feed_10 : decode cX11_feed 10 = .ok (.if_icmp .le 5, 3) := dX11_feed_0g.2.2.2.2.2.1
theorem dX11_feed_13 : decode cX11_feed 13 = .ok (.iconst (-1), 1) := dX11_feed_0g.2.2.2.2.2.2.1
theorem dX11_feed_14 : decode cX11_feed 14 = .ok (.ireturn, 1) := dX11_feed_0g.2.2.2.2.2.2.2.1
theorem dX11_feed_15 : decode cX11_feed 15 = .ok (.aload_n 0, 1) := dX11_feed_0g.2.2.2.2.2.2.2.2.1
theorem dX11_feed_16 : decode cX11_feed 16 = .ok (.iload_n 1, 1) := dX11_feed_0g.2.2.2.2.2.2.2.2.2
theorem dX11_feed_17g : (decode cX11_feed 17 = .ok (.invokevirtual 185, 3)) ∧ (decode cX11_feed 20 = .ok (.aload_n 0, 1)) ∧ (decode cX11_feed 21 = .ok (.iload_n 2, 1)) ∧ (decode cX11_feed 22 = .ok (.invokevirtual 185, 3)) ∧ (decode cX11_feed 25 = .ok (.aload_n 0, 1)) ∧ (decode cX11_feed 26 = .ok (.iload_n 3, 1)) ∧ (decode cX11_feed 27 = .ok (.invokevirtual 185, 3)) ∧ (decode cX11_feed 30 = .ok (.aload_n 0, 1)) ∧ (decode cX11_feed 31 = .ok (.iload 4, 2)) ∧ (decode cX11_feed 33 = .ok (.invokevirtual 185, 3)) := by decide +kernel
theorem dX11_feed_17 : decode cX11_feed 17 = .ok (.invokevirtual 185, 3) := dX11_feed_17g.1
theorem dX11_feed_20 : decode cX11_feed 20 = .ok (.aload_n 0, 1) := dX11_feed_17g.2.1
theorem dX11_feed_21 : decode cX11_feed 21 = .ok (.iload_n 2, 1) := dX11_feed_17g.2.2.1
theorem dX11_feed_22 : decode cX11_feed 22 = .ok (.invokevirtual 185, 3) := dX11_feed_17g.2.2.2.1
theorem dX11_feed_25 : decode cX11_feed 25 = .ok (.aload_n 0, 1) := dX11_feed_17g.2.2.2.2.1
theorem dX11_feed_26 : decode cX11_feed 26 = .ok (.iload_n 3, 1) := dX11_feed_17g.2.2.2.2.2.1
theorem dX11_feed_27 : decode cX11_feed 27 = .ok (.invokevirtual 185, 3) := dX11_feed_17g.2.2.2.2.2.2.1
theorem dX11_feed_30 : decode cX11_feed 30 = .ok (.aload_n 0, 1) := dX11_feed_17g.2.2.2.2.2.2.2.1
theorem dX11_feed_31 : decode cX11_feed 31 = .ok (.iload 4, 2) := dX11_feed_17g.2.2.2.2.2.2.2.2.1
theorem dX11_feed_33 : decode cX11_feed 33 = .ok (.invokevirtual 185, 3) := dX11_feed_17g.2.2.2.2.2.2.2.2.2
theorem dX11_feed_36g : (decode cX11_feed 36 = .ok (.aload_n 0, 1)) ∧ (decode cX11_feed 37 = .ok (.iload 5, 2)) ∧ (decode cX11_feed 39 = .ok (.invokevirtual 185, 3)) ∧ (decode cX11_feed 42 = .ok (.aload_n 0, 1)) ∧ (decode cX11_feed 43 = .ok (.getfield 89, 3)) ∧ (decode cX11_feed 46 = .ok (.ireturn, 1)) := by decide +kernel
theorem dX11_feed_36 : decode cX11_feed 36 = .ok (.aload_n 0, 1) := dX11_feed_36g.1
theorem dX11_feed_37 : decode cX11_feed 37 = .ok (.iload 5, 2) := dX11_feed_36g.2.1
theorem dX11_feed_39 : decode cX11_feed 39 = .ok (.invokevirtual 185, 3) := dX11_feed_36g.2.2.1
theorem dX11_feed_42 : decode cX11_feed 42 = .ok (.aload_n 0, 1) := dX11_feed_36g.2.2.2.1
theorem dX11_feed_43 : decode cX11_feed 43 = .ok (.getfield 89, 3) := dX11_feed_36g.2.2.2.2.1
theorem dX11_feed_46 : decode cX11_feed 46 = .ok (.ireturn, 1) := dX11_feed_36g.2.2.2.2.2
set_option maxHeartbeats 4000000 in
set_option maxRecDepth 100000 in
theorem c_X11_feed (l : Launch) (E : Nat → Nat) (D : va_G) (G : th_G) (h0 n : Nat) (hG0 : G h0 = some (15, n)) (x1 x2 x3 x4 x5 : Int32) : Met l yX11_feed (tb (.code yX11_feed cX11_feed 6 (some .int))) (rm 1) (va_Pc [.ref h0, .int x1, .int x2, .int x3, .int x4, .int x5] (th_P E D G)) (QI E D G (fun r => True)) 0 0 (th_A G) := by
  refine Met.ofW (cc := cX11_feed) (maxL := 6) (ret := (some .int)) (by decide) rfl ?_
  intro p e s m args below meth c s₁ B hml hv
  obtain ⟨hav, hI, hN, hK⟩ := hv
  have hx := B.exec
  have hb := B.bytes
  have hr := B.returns
  have hts := atoms_spec (ws := tb (.code yX11_feed cX11_feed 6 (some .int))) B.pre
  have hown : s.vm.findClass RX11 = some m.cls := findClass_of_methodNamed B.named
  have hlocks := B.notSynchronized
  have hS : va_S (th_A G) s.heap s.heap [] := va_S.rf
  have hl := lv_entry ([.ref h0, .int x1, .int x2, .int x3, .int x4, .int x5]) (n := 6) (Nat.le_of_ble_eq_true rfl)
  rw [show entryFrame m args 6 = entryFrame m ([.ref h0, .int x1, .int x2, .int x3, .int x4, .int x5] : List Value).toArray 6 from by rw [hav], lg_entry_eq]
  generalize (lg_sl ([.ref h0, .int x1, .int x2, .int x3, .int x4, .int x5]) ++ List.replicate (6 - (lg_sl ([.ref h0, .int x1, .int x2, .int x3, .int x4, .int x5])).length) Slot.unset).toArray = ls at hl ⊢
  have hl : lv_has ls 6 [(0, .ref h0), (1, .int x1), (2, .int x2), (3, .int x3), (4, .int x4), (5, .int x5)] := hl
  generalize hR : (headSpec (tb (.code yX11_feed cX11_feed 6 (some .int))) (rm 1)).room = R
  have hR := hR.symm
  generalize hQ : MQ below (QI E D G (fun r => True)) args s 0 0 (th_A G) = QF
  have hQ := hQ.symm
  refine lv_aload_n hx hb dX11_feed_0 rfl (lv_at hl 0 rfl) ?_
  obtain ⟨a1, a4, a6, a8, a10, a12, a14, a16, a18, a20, a22, w24, w27, w28, w29, w30, hO, hq2, hq3, hq5, hq7, hq9, hq11, hq13, hq15, hq17, hq19, hq21, hq23, ⟨k25, k26⟩, k31⟩ := op_15 hI hG0 List.not_mem_nil
  have hI := th_I.weak (a := h0) hI
  refine th_get hx hb hts inT11 hown hK hO rfl 12 (by decide) (hts _ (tb_c wd_357)) rfl rfl dX11_feed_1 ?_
  refine lv_bipush (v := 20) hx hb dX11_feed_4 (by decide) ?_
  refine lv_iadd hx hb dX11_feed_6 ?_
  refine lv_topi (fun v32 e33 => ?_)
  have tv32 : v32.toInt = w24.toInt + (20) := iv_add rfl (by decide) e33 (by omega) (by omega)
  refine lv_sipush (v := 400) hx hb dX11_feed_7 (by decide) ?_
  refine lv_icmp_le (tgt := 15) hx hb dX11_feed_10 (by decide) (fun c34 => ?_) (fun c34 => ?_)
  · skip
    have k35 := iv_le (X := v32.toInt) (Y := (400)) rfl (by decide) c34
    refine lv_aload_n hx hb dX11_feed_15 rfl (lv_at hl 0 rfl) ?_
    refine lv_iload_n hx hb dX11_feed_16 rfl (lv_at hl 1 rfl) ?_
    have hI := th_I.close hI hG0 hO (ok_15 hq2 hq3 hq5 hq7 hq9 hq11 hq13 hq15 hq17 hq19 hq21 hq23 ⟨by omega, by omega⟩ k31)
    refine th_cVv (As := [.int x1]) (rest := []) (n := 1) (d := 0) ⟨hx, hb, hml, hown, hts⟩ (c_X11_write l E D G h0 (n) hG0 x1) wd_601 wd_603 wp_8 wd_1 wd_604 (by decide +kernel) ⟨by rw [hR]; exact Nat.le_of_ble_eq_true rfl, by rw [hR]; exact Nat.le_of_ble_eq_true rfl⟩ hI hN hK hS (rc_15 hI hG0 List.not_mem_nil) rfl rfl hl.1 rfl (Nat.le_of_ble_eq_true rfl) dX11_feed_17 ⟨Nat.zero_le _, Nat.zero_le _⟩ (fun H locs hI hS => ?_)
    refine lv_aload_n hx hb dX11_feed_20 rfl (lv_at hl 0 rfl) ?_
    refine lv_iload_n hx hb dX11_feed_21 rfl (lv_at hl 2 rfl) ?_
    refine th_cVv (As := [.int x2]) (rest := []) (n := 1) (d := 0) ⟨hx, hb, hml, hown, hts⟩ (c_X11_write l E D G h0 (n) hG0 x2) wd_601 wd_603 wp_8 wd_1 wd_604 (by decide +kernel) ⟨by rw [hR]; exact Nat.le_of_ble_eq_true rfl, by rw [hR]; exact Nat.le_of_ble_eq_true rfl⟩ hI hN hK hS (rc_15 hI hG0 List.not_mem_nil) rfl rfl hl.1 rfl (Nat.le_of_ble_eq_true rfl) dX11_feed_22 ⟨Nat.zero_le _, Nat.zero_le _⟩ (fun H locs hI hS => ?_)
    refine lv_aload_n hx hb dX11_feed_25 rfl (lv_at hl 0 rfl) ?_
    refine lv_iload_n hx hb dX11_feed_26 rfl (lv_at hl 3 rfl) ?_
    refine th_cVv (As := [.int x3]) (rest := []) (n := 1) (d := 0) ⟨hx, hb, hml, hown, hts⟩ (c_X11_write l E D G h0 (n) hG0 x3) wd_601 wd_603 wp_8 wd_1 wd_604 (by decide +kernel) ⟨by rw [hR]; exact Nat.le_of_ble_eq_true rfl, by rw [hR]; exact Nat.le_of_ble_eq_true rfl⟩ hI hN hK hS (rc_15 hI hG0 List.not_mem_nil) rfl rfl hl.1 rfl (Nat.le_of_ble_eq_true rfl) dX11_feed_27 ⟨Nat.zero_le _, Nat.zero_le _⟩ (fun H locs hI hS => ?_)
    refine lv_aload_n hx hb dX11_feed_30 rfl (lv_at hl 0 rfl) ?_
    refine lv_iload hx hb dX11_feed_31 (lv_at hl 4 rfl) ?_
    refine th_cVv (As := [.int x4]) (rest := []) (n := 1) (d := 0) ⟨hx, hb, hml, hown, hts⟩ (c_X11_write l E D G h0 (n) hG0 x4) wd_601 wd_603 wp_8 wd_1 wd_604 (by decide +kernel) ⟨by rw [hR]; exact Nat.le_of_ble_eq_true rfl, by rw [hR]; exact Nat.le_of_ble_eq_true rfl⟩ hI hN hK hS (rc_15 hI hG0 List.not_mem_nil) rfl rfl hl.1 rfl (Nat.le_of_ble_eq_true rfl) dX11_feed_33 ⟨Nat.zero_le _, Nat.zero_le _⟩ (fun H locs hI hS => ?_)
    refine lv_aload_n hx hb dX11_feed_36 rfl (lv_at hl 0 rfl) ?_
    refine lv_iload hx hb dX11_feed_37 (lv_at hl 5 rfl) ?_
    refine th_cVv (As := [.int x5]) (rest := []) (n := 1) (d := 0) ⟨hx, hb, hml, hown, hts⟩ (c_X11_write l E D G h0 (n) hG0 x5) wd_601 wd_603 wp_8 wd_1 wd_604 (by decide +kernel) ⟨by rw [hR]; exact Nat.le_of_ble_eq_true rfl, by rw [hR]; exact Nat.le_of_ble_eq_true rfl⟩ hI hN hK hS (rc_15 hI hG0 List.not_mem_nil) rfl rfl hl.1 rfl (Nat.le_of_ble_eq_true rfl) dX11_feed_39 ⟨Nat.zero_le _, Nat.zero_le _⟩ (fun H locs hI hS => ?_)
    refine lv_aload_n hx hb dX11_feed_42 rfl (lv_at hl 0 rfl) ?_
    obtain ⟨a41, a44, a46, a48, a50, a52, a54, a56, a58, a60, a62, w64, w67, w68, w69, w70, hO, hq42, hq43, hq45, hq47, hq49, hq51, hq53, hq55, hq57, hq59, hq61, hq63, ⟨k65, k66⟩, k71⟩ := op_15 hI hG0 List.not_mem_nil
    have hI := th_I.weak (a := h0) hI
    refine th_get hx hb hts inT11 hown hK hO rfl 12 (by decide) (hts _ (tb_c wd_357)) rfl rfl dX11_feed_43 ?_
    have hI := th_I.close hI hG0 hO (ok_15 hq42 hq43 hq45 hq47 hq49 hq51 hq53 hq55 hq57 hq59 hq61 hq63 ⟨by omega, by omega⟩ k71)
    have hpost : True := trivial
    rw [hQ]
    exact W.iret (v := w64) hx hb hr (fun t ht hW => ⟨⟨w64, (), rfl, hpost, by rw [ht]; exact hI, hN.warm hW, va_K.moved hW.alike hK⟩, hS.F ht⟩) hS.2.2 dX11_feed_46
  · skip
    have k72 := iv_nle (X := v32.toInt) (Y := (400)) rfl (by decide) c34
    refine lv_iconst (v := (-1)) hx hb dX11_feed_13 (by decide) ?_
    have hI := th_I.close hI hG0 hO (ok_15 hq2 hq3 hq5 hq7 hq9 hq11 hq13 hq15 hq17 hq19 hq21 hq23 ⟨by omega, by omega⟩ k31)
    have hpost : True := trivial
    rw [hQ]
    exact W.iret (v := (-1)) hx hb hr (fun t ht hW => ⟨⟨(-1), (), rfl, hpost, by rw [ht]; exact hI, hN.warm hW, va_K.moved hW.alike hK⟩, hS.F ht⟩) hS.2.2 dX11_feed_14
theorem dX11_foam_0g : (decode cX11_foam 0 = .ok (.aload_n 0, 1)) ∧ (decode cX11_foam 1 = .ok (.getfield 96, 3)) ∧ (decode cX11_foam 4 = .ok (.ireturn, 1)) := by decide +kernel
theorem dX11_foam_0 : decode cX11_foam 0 = .ok (.aload_n 0, 1) := dX11_foam_0g.1
theorem dX11_foam_1 : decode cX11_foam 1 = .ok (.getfield 96, 3) := dX11_foam_0g.2.1
theorem dX11_foam_4 : decode cX11_foam 4 = .ok (.ireturn, 1) := dX11_foam_0g.2.2
set_option maxHeartbeats 4000000 in
set_option maxRecDepth 100000 in
theorem c_X11_foam (l : Launch) (E : Nat → Nat) (D : va_G) (G : th_G) (h0 n : Nat) (hG0 : G h0 = some (15, n)) : Met l yX11_foam (tb (.code yX11_foam cX11_foam 1 (some .int))) (rm 0) (va_Pc [.ref h0] (th_P E D G)) (QI E D G (fun r => True)) 0 0 (th_A G) := by
  refine Met.ofW (cc := cX11_foam) (maxL := 1) (ret := (some .int)) (by decide) rfl ?_
  intro p e s m args below meth c s₁ B hml hv
  obtain ⟨hav, hI, hN, hK⟩ := hv
  have hx := B.exec
  have hb := B.bytes
  have hr := B.returns
  have hts := atoms_spec (ws := tb (.code yX11_foam cX11_foam 1 (some .int))) B.pre
  have hown : s.vm.findClass RX11 = some m.cls := findClass_of_methodNamed B.named
  have hlocks := B.notSynchronized
  have hS : va_S (th_A G) s.heap s.heap [] := va_S.rf
  have hl := lv_entry ([.ref h0]) (n := 1) (Nat.le_of_ble_eq_true rfl)
  rw [show entryFrame m args 1 = entryFrame m ([.ref h0] : List Value).toArray 1 from by rw [hav], lg_entry_eq]
  generalize (lg_sl ([.ref h0]) ++ List.replicate (1 - (lg_sl ([.ref h0])).length) Slot.unset).toArray = ls at hl ⊢
  have hl : lv_has ls 1 [(0, .ref h0)] := hl
  generalize hR : (headSpec (tb (.code yX11_foam cX11_foam 1 (some .int))) (rm 0)).room = R
  have hR := hR.symm
  generalize hQ : MQ below (QI E D G (fun r => True)) args s 0 0 (th_A G) = QF
  have hQ := hQ.symm
  refine lv_aload_n hx hb dX11_foam_0 rfl (lv_at hl 0 rfl) ?_
  obtain ⟨a1, a4, a6, a8, a10, a12, a14, a16, a18, a20, a22, w24, w27, w28, w29, w30, hO, hq2, hq3, hq5, hq7, hq9, hq11, hq13, hq15, hq17, hq19, hq21, hq23, ⟨k25, k26⟩, k31⟩ := op_15 hI hG0 List.not_mem_nil
  have hI := th_I.weak (a := h0) hI
  refine th_get hx hb hts inT11 hown hK hO rfl 14 (by decide) (hts _ (tb_c wd_359)) rfl rfl dX11_foam_1 ?_
  have hI := th_I.close hI hG0 hO (ok_15 hq2 hq3 hq5 hq7 hq9 hq11 hq13 hq15 hq17 hq19 hq21 hq23 ⟨by omega, by omega⟩ k31)
  have hpost : True := trivial
  rw [hQ]
  exact W.iret (v := w28) hx hb hr (fun t ht hW => ⟨⟨w28, (), rfl, hpost, by rw [ht]; exact hI, hN.warm hW, va_K.moved hW.alike hK⟩, hS.F ht⟩) hS.2.2 dX11_foam_4
theorem dX11_fault_0g : (decode cX11_fault 0 = .ok (.aload_n 0, 1)) ∧ (decode cX11_fault 1 = .ok (.getfield 93, 3)) ∧ (decode cX11_fault 4 = .ok (.ireturn, 1)) := by decide +kernel
theorem dX11_fault_0 : decode cX11_fault 0 = .ok (.aload_n 0, 1) := dX11_fault_0g.1
theorem dX11_fault_1 : decode cX11_fault 1 = .ok (.getfield 93, 3) := dX11_fault_0g.2.1
theorem dX11_fault_4 : decode cX11_fault 4 = .ok (.ireturn, 1) := dX11_fault_0g.2.2
set_option maxHeartbeats 4000000 in
set_option maxRecDepth 100000 in
theorem c_X11_fault (l : Launch) (E : Nat → Nat) (D : va_G) (G : th_G) (h0 n : Nat) (hG0 : G h0 = some (15, n)) : Met l yX11_fault (tb (.code yX11_fault cX11_fault 1 (some .int))) (rm 0) (va_Pc [.ref h0] (th_P E D G)) (QI E D G (fun r => True)) 0 0 (th_A G) := by
  refine Met.ofW (cc := cX11_fault) (maxL := 1) (ret := (some .int)) (by decide) rfl ?_
  intro p e s m args below meth c s₁ B hml hv
  obtain ⟨hav, hI, hN, hK⟩ := hv
  have hx := B.exec
  have hb := B.bytes
  have hr := B.returns
  have hts := atoms_spec (ws := tb (.code yX11_fault cX11_fault 1 (some .int))) B.pre
  have hown : s.vm.findClass RX11 = some m.cls := findClass_of_methodNamed B.named
  have hlocks := B.notSynchronized
  have hS : va_S (th_A G) s.heap s.heap [] := va_S.rf
  have hl := lv_entry ([.ref h0]) (n := 1) (Nat.le_of_ble_eq_true rfl)
  rw [show entryFrame m args 1 = entryFrame m ([.ref h0] : List Value).toArray 1 from by rw [hav], lg_entry_eq]
  generalize (lg_sl ([.ref h0]) ++ List.replicate (1 - (lg_sl ([.ref h0])).length) Slot.unset).toArray = ls at hl ⊢
  have hl : lv_has ls 1 [(0, .ref h0)] := hl
  generalize hR : (headSpec (tb (.code yX11_fault cX11_fault 1 (some .int))) (rm 0)).room = R
  have hR := hR.symm
  generalize hQ : MQ below (QI E D G (fun r => True)) args s 0 0 (th_A G) = QF
  have hQ := hQ.symm
  refine lv_aload_n hx hb dX11_fault_0 rfl (lv_at hl 0 rfl) ?_
  obtain ⟨a1, a4, a6, a8, a10, a12, a14, a16, a18, a20, a22, w24, w27, w28, w29, w30, hO, hq2, hq3, hq5, hq7, hq9, hq11, hq13, hq15, hq17, hq19, hq21, hq23, ⟨k25, k26⟩, k31⟩ := op_15 hI hG0 List.not_mem_nil
  have hI := th_I.weak (a := h0) hI
  refine th_get hx hb hts inT11 hown hK hO rfl 13 (by decide) (hts _ (tb_c wd_358)) rfl rfl dX11_fault_1 ?_
  have hI := th_I.close hI hG0 hO (ok_15 hq2 hq3 hq5 hq7 hq9 hq11 hq13 hq15 hq17 hq19 hq21 hq23 ⟨by omega, by omega⟩ k31)
  have hpost : True := trivial
  rw [hQ]
  exact W.iret (v := w27) hx hb hr (fun t ht hW => ⟨⟨w27, (), rfl, hpost, by rw [ht]; exact hI, hN.warm hW, va_K.moved hW.alike hK⟩, hS.F ht⟩) hS.2.2 dX11_fault_4
theorem dX11_status_0g : (decode cX11_status 0 = .ok (.aload_n 0, 1)) ∧ (decode cX11_status 1 = .ok (.getfield 99, 3)) ∧ (decode cX11_status 4 = .ok (.ireturn, 1)) := by decide +kernel
theorem dX11_status_0 : decode cX11_status 0 = .ok (.aload_n 0, 1) := dX11_status_0g.1
theorem dX11_status_1 : decode cX11_status 1 = .ok (.getfield 99, 3) := dX11_status_0g.2.1
theorem dX11_status_4 : decode cX11_status 4 = .ok (.ireturn, 1) := dX11_status_0g.2.2
set_option maxHeartbeats 4000000 in
set_option maxRecDepth 100000 in
theorem c_X11_status (l : Launch) (E : Nat → Nat) (D : va_G) (G : th_G) (h0 n : Nat) (hG0 : G h0 = some (15, n)) : Met l yX11_status (tb (.code yX11_status cX11_status 1 (some .int))) (rm 0) (va_Pc [.ref h0] (th_P E D G)) (QI E D G (fun r => True)) 0 0 (th_A G) := by
  refine Met.ofW (cc := cX11_status) (maxL := 1) (ret := (some .int)) (by decide) rfl ?_
  intro p e s m args below meth c s₁ B hml hv
  obtain ⟨hav, hI, hN, hK⟩ := hv
  have hx := B.exec
  have hb := B.bytes
  have hr := B.returns
  have hts := atoms_spec (ws := tb (.code yX11_status cX11_status 1 (some .int))) B.pre
  have hown : s.vm.findClass RX11 = some m.cls := findClass_of_methodNamed B.named
  have hlocks := B.notSynchronized
  have hS : va_S (th_A G) s.heap s.heap [] := va_S.rf
  have hl := lv_entry ([.ref h0]) (n := 1) (Nat.le_of_ble_eq_true rfl)
  rw [show entryFrame m args 1 = entryFrame m ([.ref h0] : List Value).toArray 1 from by rw [hav], lg_entry_eq]
  generalize (lg_sl ([.ref h0]) ++ List.replicate (1 - (lg_sl ([.ref h0])).length) Slot.unset).toArray = ls at hl ⊢
  have hl : lv_has ls 1 [(0, .ref h0)] := hl
  generalize hR : (headSpec (tb (.code yX11_status cX11_status 1 (some .int))) (rm 0)).room = R
  have hR := hR.symm
  generalize hQ : MQ below (QI E D G (fun r => True)) args s 0 0 (th_A G) = QF
  have hQ := hQ.symm
  refine lv_aload_n hx hb dX11_status_0 rfl (lv_at hl 0 rfl) ?_
  obtain ⟨a1, a4, a6, a8, a10, a12, a14, a16, a18, a20, a22, w24, w27, w28, w29, w30, hO, hq2, hq3, hq5, hq7, hq9, hq11, hq13, hq15, hq17, hq19, hq21, hq23, ⟨k25, k26⟩, k31⟩ := op_15 hI hG0 List.not_mem_nil
  have hI := th_I.weak (a := h0) hI
  refine th_get hx hb hts inT11 hown hK hO rfl 15 (by decide) (hts _ (tb_c wd_360)) rfl rfl dX11_status_1 ?_
  have hI := th_I.close hI hG0 hO (ok_15 hq2 hq3 hq5 hq7 hq9 hq11 hq13 hq15 hq17 hq19 hq21 hq23 ⟨by omega, by omega⟩ k31)
  have hpost : True := trivial
  rw [hQ]
  exact W.iret (v := w29) hx hb hr (fun t ht hW => ⟨⟨w29, (), rfl, hpost, by rw [ht]; exact hI, hN.warm hW, va_K.moved hW.alike hK⟩, hS.F ht⟩) hS.2.2 dX11_status_4
theorem dX11_force_0g : (decode cX11_force 0 = .ok (.iload_n 1, 1)) ∧ (decode cX11_force 1 = .ok (.iconst (-1), 1)) ∧ (decode cX11_force 2 = .ok (.if_icmp .lt 14, 3)) ∧ (decode cX11_force 5 = .ok (.iload_n 1, 1)) ∧ (decode cX11_force 6 = .ok (.aload_n 0, 1)) ∧ (decode cX11_force 7 = .ok (.getfield 12, 3)) ∧ (decode cX11_force 10 = .ok (.getfield 194, 3)) ∧ (decode cX11_force 13 = .ok (.if_icmp .lt 10, 3)) ∧ (decode cX11_force 16 = .ok (.aload_n 0, 1)) ∧ (decode cX11_force 17 = .ok (.bipush (-2), 2)) := by decide +kernel
theorem dX11_force_0 : decode cX11_force 0 = .ok (.iload_n 1, 1) := dX11_force_0g.1
theorem dX11_force_1 : decode cX11_force 1 = .ok (.iconst (-1), 1) := dX11_force_0g.2.1
theorem dX11_force_2 : decode cX11_force 2 = .ok (.if_icmp .lt 14, 3) := dX11_force_0g.2.2.1
theorem dX11_force_5 : decode cX11_force 5 = .ok (.iload_n 1, 1) := dX11_force_0g.2.2.2.1
theorem dX11_force_6 : decode cX11_force 6 = .ok (.aload_n 0, 1) := dX11_force_0g.2.2.2.2.1
theorem dX11_force_7 : decode cX11_force 7 = .ok (.getfield 12, 3) := dX11_force_0g.2.2.2.2.2.1
theorem dX11_force_10 : decode cX11_force 10 = .ok (.getfield 194, 3) := dX11_force_0g.2.2.2.2.2.2.1
theorem dX11_force_13 : decode cX11_force 13 = .ok (.if_icmp .lt 10, 3) := dX11_force_0g.2.2.2.2.2.2.2.1
theorem dX11_force_16 : decode cX11_force 16 = .ok (.aload_n 0, 1) := dX11_force_0g.2.2.2.2.2.2.2.2.1
theorem dX11_force_17 : decode cX11_force 17 = .ok (.bipush (-2), 2) := dX11_force_0g.2.2.2.2.2.2.2.2.2
theorem dX11_force_19g : (decode cX11_force 19 = .ok (.invokevirtual 113, 3)) ∧ (decode cX11_force 22 = .ok (.ireturn, 1)) ∧ (decode cX11_force 23 = .ok (.aload_n 0, 1)) ∧ (decode cX11_force 24 = .ok (.getfield 12, 3)) ∧ (decode cX11_force 27 = .ok (.getfield 208, 3)) ∧ (decode cX11_force 30 = .ok (.istore_n 2, 1)) ∧ (decode cX11_force 31 = .ok (.aload_n 0, 1)) ∧ (decode cX11_force 32 = .ok (.getfield 12, 3)) ∧ (decode cX11_force 35 = .ok (.iload_n 1, 1)) ∧ (decode cX11_force 36 = .ok (.putfield 208, 3)) := by decide +kernel
theorem dX11_force_19 : decode cX11_force 19 = .ok (.invokevirtual 113, 3) := dX11_force_19g.1
theorem dX11_force_22 : decode cX11_force 22 = .ok (.ireturn, 1) := dX11_force_19g.2.1
theorem dX11_force_23 : decode cX11_force 23 = .ok (.aload_n 0, 1) := dX11_force_19g.2.2.1
theorem dX11_force_24 : decode cX11_force 24 = .ok (.getfield 12, 3) := dX11_force_19g.2.2.2.1
theorem dX11_force_27 : decode cX11_force 27 = .ok (.getfield 208, 3) := dX11_force_19g.2.2.2.2.1
theorem dX11_force_30 : decode cX11_force 30 = .ok (.istore_n 2, 1) := dX11_force_19g.2.2.2.2.2.1
theorem dX11_force_31 : decode cX11_force 31 = .ok (.aload_n 0, 1) := dX11_force_19g.2.2.2.2.2.2.1
theorem dX11_force_32 : decode cX11_force 32 = .ok (.getfield 12, 3) := dX11_force_19g.2.2.2.2.2.2.2.1
theorem dX11_force_35 : decode cX11_force 35 = .ok (.iload_n 1, 1) := dX11_force_19g.2.2.2.2.2.2.2.2.1
theorem dX11_force_36 : decode cX11_force 36 = .ok (.putfield 208, 3) := dX11_force_19g.2.2.2.2.2.2.2.2.2
theorem dX11_force_39g : (decode cX11_force 39 = .ok (.aload_n 0, 1)) ∧ (decode cX11_force 40 = .ok (.invokevirtual 124, 3)) ∧ (decode cX11_force 43 = .ok (.aload_n 0, 1)) ∧ (decode cX11_force 44 = .ok (.iload_n 2, 1)) ∧ (decode cX11_force 45 = .ok (.invokevirtual 127, 3)) ∧ (decode cX11_force 48 = .ok (.ireturn, 1)) := by decide +kernel
theorem dX11_force_39 : decode cX11_force 39 = .ok (.aload_n 0, 1) := dX11_force_39g.1
theorem dX11_force_40 : decode cX11_force 40 = .ok (.invokevirtual 124, 3) := dX11_force_39g.2.1
theorem dX11_force_43 : decode cX11_force 43 = .ok (.aload_n 0, 1) := dX11_force_39g.2.2.1
theorem dX11_force_44 : decode cX11_force 44 = .ok (.iload_n 2, 1) := dX11_force_39g.2.2.2.1
theorem dX11_force_45 : decode cX11_force 45 = .ok (.invokevirtual 127, 3) := dX11_force_39g.2.2.2.2.1
theorem dX11_force_48 : decode cX11_force 48 = .ok (.ireturn, 1) := dX11_force_39g.2.2.2.2.2
set_option maxHeartbeats 4000000 in
set_option maxRecDepth 100000 in
theorem c_X11_force (l : Launch) (E : Nat → Nat) (D : va_G) (G : th_G) (h0 n : Nat) (hG0 : G h0 = some (15, n)) (x1 : Int32) : Met l yX11_force (tb (.code yX11_force cX11_force 3 (some .int))) (rm 3) (va_Pc [.ref h0, .int x1] (th_P E D G)) (QI E D G (fun r => True)) 0 0 (th_A G) := by
  refine Met.ofW (cc := cX11_force) (maxL := 3) (ret := (some .int)) (by decide) rfl ?_
  intro p e s m args below meth c s₁ B hml hv
  obtain ⟨hav, hI, hN, hK⟩ := hv
  have hx := B.exec
  have hb := B.bytes
  have hr := B.returns
  have hts := atoms_spec (ws := tb (.code yX11_force cX11_force 3 (some .int))) B.pre
  have hown : s.vm.findClass RX11 = some m.cls := findClass_of_methodNamed B.named
  have hlocks := B.notSynchronized
  have hS : va_S (th_A G) s.heap s.heap [] := va_S.rf
  have hl := lv_entry ([.ref h0, .int x1]) (n := 3) (Nat.le_of_ble_eq_true rfl)
  rw [show entryFrame m args 3 = entryFrame m ([.ref h0, .int x1] : List Value).toArray 3 from by rw [hav], lg_entry_eq]
  generalize (lg_sl ([.ref h0, .int x1]) ++ List.replicate (3 - (lg_sl ([.ref h0, .int x1])).length) Slot.unset).toArray = ls at hl ⊢
  have hl : lv_has ls 3 [(0, .ref h0), (1, .int x1)] := hl
  generalize hR : (headSpec (tb (.code yX11_force cX11_force 3 (some .int))) (rm 3)).room = R
  have hR := hR.symm
  generalize hQ : MQ below (QI E D G (fun r => True)) args s 0 0 (th_A G) = QF
  have hQ := hQ.symm
  have J_16 : ∀ (H : Heap) (locs : List Loc) (ls : Array Slot) , lv_has ls 3 [(0, .ref h0), (1, .int x1)] → th_I (okC E) D G [] H → va_S (th_A G) s.heap H locs → W p l e R s m args below meth c H locs 0 0 QF (F0 m 16 ls []) := by
    intro H locs ls  hl  hI hS
    refine lv_aload_n hx hb dX11_force_16 rfl (lv_at hl 0 rfl) ?_
    refine lv_bipush (v := (-2)) hx hb dX11_force_17 (by decide) ?_
    refine th_cVi (As := [.int (-2)]) (rest := []) (n := 1) (d := 0) ⟨hx, hb, hml, hown, hts⟩ (c_X11_refuse l E D G h0 (n) hG0 (-2)) wd_407 wd_409 wp_0 wd_1 wd_410 (by decide +kernel) ⟨by rw [hR]; exact Nat.le_of_ble_eq_true rfl, by rw [hR]; exact Nat.le_of_ble_eq_true rfl⟩ hI hN hK hS (rc_15 hI hG0 List.not_mem_nil) rfl rfl hl.1 rfl (Nat.le_of_ble_eq_true rfl) dX11_force_19 ⟨Nat.zero_le _, Nat.zero_le _⟩ (fun r1480 H locs hp hI hS => ?_)
    have hp := hp.symm
    subst hp
    have hpost : True := trivial
    rw [hQ]
    exact W.iret (v := (-2)) hx hb hr (fun t ht hW => ⟨⟨(-2), (), rfl, hpost, by rw [ht]; exact hI, hN.warm hW, va_K.moved hW.alike hK⟩, hS.F ht⟩) hS.2.2 dX11_force_22
  refine lv_iload_n hx hb dX11_force_0 rfl (lv_at hl 1 rfl) ?_
  refine lv_iconst (v := (-1)) hx hb dX11_force_1 (by decide) ?_
  have k1481 := iv_lo x1
  have k1482 := iv_hi x1
  refine lv_icmp_lt (tgt := 16) hx hb dX11_force_2 (by decide) (fun c1483 => ?_) (fun c1483 => ?_)
  · skip
    have k1484 := iv_lt (X := x1.toInt) (Y := (-1)) rfl (by decide) c1483
    exact J_16 s.heap [] ls  (lv_sub hl [0, 1] rfl)  hI hS
  · skip
    have k1485 := iv_nlt (X := x1.toInt) (Y := (-1)) rfl (by decide) c1483
    refine lv_iload_n hx hb dX11_force_5 rfl (lv_at hl 1 rfl) ?_
    refine lv_aload_n hx hb dX11_force_6 rfl (lv_at hl 0 rfl) ?_
    obtain ⟨a1486, a1489, a1491, a1493, a1495, a1497, a1499, a1501, a1503, a1505, a1507, w1509, w1512, w1513, w1514, w1515, hO, hq1487, hq1488, hq1490, hq1492, hq1494, hq1496, hq1498, hq1500, hq1502, hq1504, hq1506, hq1508, ⟨k1510, k1511⟩, k1516⟩ := op_15 hI hG0 List.not_mem_nil
    have hI := th_I.weak (a := h0) hI
    refine th_get hx hb hts inT11 hown hK hO rfl 0 (by decide) (hts _ (tb_c wd_345)) rfl rfl dX11_force_7 ?_
    have hI := th_I.close hI hG0 hO (ok_15 hq1487 hq1488 hq1490 hq1492 hq1494 hq1496 hq1498 hq1500 hq1502 hq1504 hq1506 hq1508 ⟨by omega, by omega⟩ k1516)
    obtain ⟨a1517, a1519, a1521, a1523, a1525, a1527, a1529, a1531, a1533, a1535, w1537, w1540, w1541, w1542, hO, hq1518, hq1520, hq1522, hq1524, hq1526, hq1528, hq1530, hq1532, hq1534, hq1536, ⟨k1538, k1539⟩, k1543⟩ := op_6 hI hq1487 List.not_mem_nil
    have hI := th_I.weak (a := a1486) hI
    refine th_getN hx hb hts inT6 hown hK hN hO rfl 10 (by decide) wn_83 rfl rfl dX11_force_10 ?_
    refine lv_icmp_lt (tgt := 23) hx hb dX11_force_13 (by decide) (fun c1544 => ?_) (fun c1544 => ?_)
    · skip
      have k1545 := iv_lt (X := x1.toInt) (Y := w1537.toInt) rfl rfl c1544
      refine lv_aload_n hx hb dX11_force_23 rfl (lv_at hl 0 rfl) ?_
      have hI := th_I.close hI hq1487 hO (ok_6 hq1518 hq1520 hq1522 hq1524 hq1526 hq1528 hq1530 hq1532 hq1534 hq1536 ⟨by omega, by omega⟩ k1543)
      obtain ⟨a1546, a1549, a1551, a1553, a1555, a1557, a1559, a1561, a1563, a1565, a1567, w1569, w1572, w1573, w1574, w1575, hO, hq1547, hq1548, hq1550, hq1552, hq1554, hq1556, hq1558, hq1560, hq1562, hq1564, hq1566, hq1568, ⟨k1570, k1571⟩, k1576⟩ := op_15 hI hG0 List.not_mem_nil
      have hI := th_I.weak (a := h0) hI
      refine th_get hx hb hts inT11 hown hK hO rfl 0 (by decide) (hts _ (tb_c wd_345)) rfl rfl dX11_force_24 ?_
      have hI := th_I.close hI hG0 hO (ok_15 hq1547 hq1548 hq1550 hq1552 hq1554 hq1556 hq1558 hq1560 hq1562 hq1564 hq1566 hq1568 ⟨by omega, by omega⟩ k1576)
      obtain ⟨a1577, a1579, a1581, a1583, a1585, a1587, a1589, a1591, a1593, a1595, w1597, w1600, w1601, w1602, hO, hq1578, hq1580, hq1582, hq1584, hq1586, hq1588, hq1590, hq1592, hq1594, hq1596, ⟨k1598, k1599⟩, k1603⟩ := op_6 hI hq1547 List.not_mem_nil
      have hI := th_I.weak (a := a1546) hI
      refine th_getN hx hb hts inT6 hown hK hN hO rfl 11 (by decide) wn_85 rfl rfl dX11_force_27 ?_
      refine lv_istore_n (lv' := [(2, .int w1600), (0, .ref h0), (1, .int x1)]) hx hb dX11_force_30 rfl hl (by decide) rfl (fun ls hl => ?_)
      refine lv_aload_n hx hb dX11_force_31 rfl (lv_at hl 1 rfl) ?_
      have hI := th_I.close hI hq1547 hO (ok_6 hq1578 hq1580 hq1582 hq1584 hq1586 hq1588 hq1590 hq1592 hq1594 hq1596 ⟨by omega, by omega⟩ k1603)
      obtain ⟨a1604, a1607, a1609, a1611, a1613, a1615, a1617, a1619, a1621, a1623, a1625, w1627, w1630, w1631, w1632, w1633, hO, hq1605, hq1606, hq1608, hq1610, hq1612, hq1614, hq1616, hq1618, hq1620, hq1622, hq1624, hq1626, ⟨k1628, k1629⟩, k1634⟩ := op_15 hI hG0 List.not_mem_nil
      have hI := th_I.weak (a := h0) hI
      refine th_get hx hb hts inT11 hown hK hO rfl 0 (by decide) (hts _ (tb_c wd_345)) rfl rfl dX11_force_32 ?_
      refine lv_iload_n hx hb dX11_force_35 rfl (lv_at hl 2 rfl) ?_
      have hI := th_I.close hI hG0 hO (ok_15 hq1605 hq1606 hq1608 hq1610 hq1612 hq1614 hq1616 hq1618 hq1620 hq1622 hq1624 hq1626 ⟨by omega, by omega⟩ k1634)
      obtain ⟨a1635, a1637, a1639, a1641, a1643, a1645, a1647, a1649, a1651, a1653, w1655, w1658, w1659, w1660, hO, hq1636, hq1638, hq1640, hq1642, hq1644, hq1646, hq1648, hq1650, hq1652, hq1654, ⟨k1656, k1657⟩, k1661⟩ := op_6 hI hq1605 List.not_mem_nil
      have hI := th_I.weak (a := a1604) hI
      refine th_putN (ty := .int) hx hb hts inT6 tyX6 tyX6_ok nmX6 hown hK hN hO hS ⟨_, hq1605⟩ rfl 11 (by decide) wn_85 rfl rfl (by decide +kernel) rfl rfl (Nat.le_of_ble_eq_true rfl) dX11_force_36 (fun H locs hO oq hS => ?_)
      have hI := th_I.moved hI oq
      have hO : va_at D vwCl (a1604, .inr (6, [.ref a1635, .ref a1637, .ref a1639, .ref a1641, .ref a1643, .ref a1645, .ref a1647, .ref a1649, .ref a1651, .ref a1653, .int w1655, .int x1, .int w1659, .int w1660])) H := hO
      refine lv_aload_n hx hb dX11_force_39 rfl (lv_at hl 1 rfl) ?_
      have hI := th_I.close hI hq1605 hO (ok_6 hq1636 hq1638 hq1640 hq1642 hq1644 hq1646 hq1648 hq1650 hq1652 hq1654 ⟨by omega, by omega⟩ k1661)
      refine th_cVv (As := []) (rest := []) (n := 0) (d := 2) ⟨hx, hb, hml, hown, hts⟩ (c_X11_turnRiver l E D G h0 (n) hG0 ) wd_423 wd_425 wp_1 wd_1 wd_426 (by decide +kernel) ⟨by rw [hR]; exact Nat.le_of_ble_eq_true rfl, by rw [hR]; exact Nat.le_of_ble_eq_true rfl⟩ hI hN hK hS (rc_15 hI hG0 List.not_mem_nil) rfl rfl hl.1 rfl (Nat.le_of_ble_eq_true rfl) dX11_force_40 ⟨Nat.zero_le _, Nat.zero_le _⟩ (fun H locs hI hS => ?_)
      refine lv_aload_n hx hb dX11_force_43 rfl (lv_at hl 1 rfl) ?_
      refine lv_iload_n hx hb dX11_force_44 rfl (lv_at hl 0 rfl) ?_
      refine th_cVi (As := [.int w1600]) (rest := []) (n := 1) (d := 0) ⟨hx, hb, hml, hown, hts⟩ (c_X11_accept l E D G h0 (n) hG0 w1600) wd_447 wd_449 wp_3 wd_1 wd_450 (by decide +kernel) ⟨by rw [hR]; exact Nat.le_of_ble_eq_true rfl, by rw [hR]; exact Nat.le_of_ble_eq_true rfl⟩ hI hN hK hS (rc_15 hI hG0 List.not_mem_nil) rfl rfl hl.1 rfl (Nat.le_of_ble_eq_true rfl) dX11_force_45 ⟨Nat.zero_le _, Nat.zero_le _⟩ (fun r1663 H locs hp hI hS => ?_)
      have hp := hp.symm
      subst hp
      have hpost : True := trivial
      rw [hQ]
      exact W.iret (v := w1600) hx hb hr (fun t ht hW => ⟨⟨w1600, (), rfl, hpost, by rw [ht]; exact hI, hN.warm hW, va_K.moved hW.alike hK⟩, hS.F ht⟩) hS.2.2 dX11_force_48
    · skip
      have k1664 := iv_nlt (X := x1.toInt) (Y := w1537.toInt) rfl rfl c1544
      have hI := th_I.close hI hq1487 hO (ok_6 hq1518 hq1520 hq1522 hq1524 hq1526 hq1528 hq1530 hq1532 hq1534 hq1536 ⟨by omega, by omega⟩ k1543)
      exact J_16 s.heap [] ls  (lv_sub hl [0, 1] rfl)  hI hS
