theorem wn_83 : (Cond.fieldLinkNest RX11 (194 : Nat) "NineRiver$State" "lawCount" "I" "NineRiver") ∈ lw_tbl := List.mem_append_right _ (List.mem_of_getElem? (i := 83) (by decide +kernel))
theorem wn_85 : (Cond.fieldLinkNest RX11 (208 : Nat) "NineRiver$State" "inForce" "I" "NineRiver") ∈ lw_tbl := List.mem_append_right _ (List.mem_of_getElem? (i := 85) (by decide +kernel))
theorem wn_88 : (Cond.fieldLinkNest RX11 (179 : Nat) "NineRiver$State" "natural" "I" "NineRiver") ∈ lw_tbl := List.mem_append_right _ (List.mem_of_getElem? (i := 88) (by decide +kernel))
theorem wn_92 : (Cond.fieldLinkNest RX11 (182 : Nat) "NineRiver$State" "year" "I" "NineRiver") ∈ lw_tbl := List.mem_append_right _ (List.mem_of_getElem? (i := 92) (by decide +kernel))
theorem wp_0 : Cond.selects RX11 yX11_refuse yX11_refuse ∈ TB := tv 0 (by decide +kernel) (by decide +kernel)
theorem wp_1 : Cond.selects RX11 yX11_turnRiver yX11_turnRiver ∈ TB := tv 1 (by decide +kernel) (by decide +kernel)
theorem wp_2 : Cond.selects RX11 yX11_turnLists yX11_turnLists ∈ TB := tv 2 (by decide +kernel) (by decide +kernel)
theorem wp_3 : Cond.selects RX11 yX11_accept yX11_accept ∈ TB := tv 3 (by decide +kernel) (by decide +kernel)
theorem wp_8 : Cond.selects RX11 yX11_write yX11_write ∈ TB := tv 8 (by decide +kernel) (by decide +kernel)
theorem wd_10 : (Cond.initialized RX5) ∈ TB := tw 10 (by decide +kernel) (by decide +kernel)
theorem wd_12 : (Cond.initialized RX10) ∈ TB := tw 12 (by decide +kernel) (by decide +kernel)
theorem wd_178 : (Cond.fieldLink RX0 (9 : Nat) "NineRiver$Asker" "words" "[I") ∈ TB := tw 178 (by decide +kernel) (by decide +kernel)
theorem wd_195 : (Cond.fieldLink RX7 (31 : Nat) "NineRiver$Stream" "isSpoilt" "Z") ∈ TB := tw 195 (by decide +kernel) (by decide +kernel)
theorem wd_246 : (Cond.fieldLink RX1 (34 : Nat) "NineRiver$Dyes" "isSpoilt" "Z") ∈ TB := tw 246 (by decide +kernel) (by decide +kernel)
theorem wd_280 : (Cond.fieldLink RX5 (19 : Nat) "NineRiver$Sleuth" "looked" "I") ∈ TB := tw 280 (by decide +kernel) (by decide +kernel)
theorem wd_331 : (Cond.fieldLink RX10 (18 : Nat) "NineRiver$Tuner" "tunedPump" "I") ∈ TB := tw 331 (by decide +kernel) (by decide +kernel)
theorem wd_345 : (Cond.fieldLink RX11 (12 : Nat) "NineRiver" "state" "LNineRiver$State;") ∈ TB := tw 345 (by decide +kernel) (by decide +kernel)
theorem wd_347 : (Cond.fieldLink RX11 (20 : Nat) "NineRiver" "tape" "[I") ∈ TB := tw 347 (by decide +kernel) (by decide +kernel)
theorem wd_348 : (Cond.fieldLink RX11 (24 : Nat) "NineRiver" "refusals" "[I") ∈ TB := tw 348 (by decide +kernel) (by decide +kernel)
theorem wd_351 : (Cond.fieldLink RX11 (42 : Nat) "NineRiver" "stream" "LNineRiver$Stream;") ∈ TB := tw 351 (by decide +kernel) (by decide +kernel)
theorem wd_353 : (Cond.fieldLink RX11 (60 : Nat) "NineRiver" "dyes" "LNineRiver$Dyes;") ∈ TB := tw 353 (by decide +kernel) (by decide +kernel)
theorem wd_354 : (Cond.fieldLink RX11 (69 : Nat) "NineRiver" "sleuth" "LNineRiver$Sleuth;") ∈ TB := tw 354 (by decide +kernel) (by decide +kernel)
theorem wd_356 : (Cond.fieldLink RX11 (85 : Nat) "NineRiver" "tuner" "LNineRiver$Tuner;") ∈ TB := tw 356 (by decide +kernel) (by decide +kernel)
theorem wd_357 : (Cond.fieldLink RX11 (89 : Nat) "NineRiver" "tapeSize" "I") ∈ TB := tw 357 (by decide +kernel) (by decide +kernel)
theorem wd_358 : (Cond.fieldLink RX11 (93 : Nat) "NineRiver" "faultAt" "I") ∈ TB := tw 358 (by decide +kernel) (by decide +kernel)
theorem wd_359 : (Cond.fieldLink RX11 (96 : Nat) "NineRiver" "foamed" "I") ∈ TB := tw 359 (by decide +kernel) (by decide +kernel)
theorem wd_360 : (Cond.fieldLink RX11 (99 : Nat) "NineRiver" "refusedBy" "I") ∈ TB := tw 360 (by decide +kernel) (by decide +kernel)
theorem wd_404 : (Cond.methodLink RX11 (110 : Nat) yX11_isClock) ∈ TB := tw 404 (by decide +kernel) (by decide +kernel)
theorem wd_405 : (Jvm.Cond.static yX11_isClock) ∈ TB := tw 405 (by decide +kernel) (by decide +kernel)
theorem wd_406 : (Cond.code yX11_isClock cX11_isClock 1 (Option.some Jvm.ClassFile.FieldType.boolean)) ∈ TB := tw 406 (by decide +kernel) (by decide +kernel)
theorem wd_407 : (Cond.methodLink RX11 (113 : Nat) yX11_refuse) ∈ TB := tw 407 (by decide +kernel) (by decide +kernel)
theorem wd_409 : (Jvm.Cond.instanceMethod yX11_refuse) ∈ TB := tw 409 (by decide +kernel) (by decide +kernel)
theorem wd_410 : (Cond.code yX11_refuse cX11_refuse 3 (Option.some Jvm.ClassFile.FieldType.int)) ∈ TB := tw 410 (by decide +kernel) (by decide +kernel)
theorem wd_411 : (Cond.methodLink RX11 (117 : Nat) yX11_isPump) ∈ TB := tw 411 (by decide +kernel) (by decide +kernel)
theorem wd_414 : (Cond.methodLink RX11 (120 : Nat) yX6_tellPump) ∈ TB := tw 414 (by decide +kernel) (by decide +kernel)
theorem wd_415 : (Jvm.Cond.instanceMethod yX6_tellPump) ∈ TB := tw 415 (by decide +kernel) (by decide +kernel)
theorem wd_416 : (Cond.selects RX6 yX6_tellPump yX6_tellPump) ∈ TB := tw 416 (by decide +kernel) (by decide +kernel)
theorem wd_417 : (Cond.code yX6_tellPump cX6_tellPump 8 (Option.none : Option Jvm.ClassFile.FieldType)) ∈ TB := tw 417 (by decide +kernel) (by decide +kernel)
theorem wd_423 : (Cond.methodLink RX11 (124 : Nat) yX11_turnRiver) ∈ TB := tw 423 (by decide +kernel) (by decide +kernel)
theorem wd_425 : (Jvm.Cond.instanceMethod yX11_turnRiver) ∈ TB := tw 425 (by decide +kernel) (by decide +kernel)
theorem wd_426 : (Cond.code yX11_turnRiver cX11_turnRiver 1 (Option.none : Option Jvm.ClassFile.FieldType)) ∈ TB := tw 426 (by decide +kernel) (by decide +kernel)
theorem wd_427 : (Cond.methodLink RX11 (348 : Nat) yX7_spoil) ∈ TB := tw 427 (by decide +kernel) (by decide +kernel)
theorem wd_428 : (Jvm.Cond.instanceMethod yX7_spoil) ∈ TB := tw 428 (by decide +kernel) (by decide +kernel)
theorem wd_429 : (Cond.selects RX7 yX7_spoil yX7_spoil) ∈ TB := tw 429 (by decide +kernel) (by decide +kernel)
theorem wd_430 : (Cond.code yX7_spoil cX7_spoil 1 (Option.none : Option Jvm.ClassFile.FieldType)) ∈ TB := tw 430 (by decide +kernel) (by decide +kernel)
theorem wd_431 : (Cond.methodLink RX11 (191 : Nat) yX11_turnLists) ∈ TB := tw 431 (by decide +kernel) (by decide +kernel)
theorem wd_433 : (Jvm.Cond.instanceMethod yX11_turnLists) ∈ TB := tw 433 (by decide +kernel) (by decide +kernel)
theorem wd_434 : (Cond.code yX11_turnLists cX11_turnLists 1 (Option.none : Option Jvm.ClassFile.FieldType)) ∈ TB := tw 434 (by decide +kernel) (by decide +kernel)
theorem wd_435 : (Cond.methodLink RX11 (351 : Nat) yX1_spoil) ∈ TB := tw 435 (by decide +kernel) (by decide +kernel)
theorem wd_436 : (Jvm.Cond.instanceMethod yX1_spoil) ∈ TB := tw 436 (by decide +kernel) (by decide +kernel)
theorem wd_437 : (Cond.selects RX1 yX1_spoil yX1_spoil) ∈ TB := tw 437 (by decide +kernel) (by decide +kernel)
theorem wd_438 : (Cond.code yX1_spoil cX1_spoil 1 (Option.none : Option Jvm.ClassFile.FieldType)) ∈ TB := tw 438 (by decide +kernel) (by decide +kernel)
theorem wd_439 : (Cond.methodLink RX11 (352 : Nat) yX5_spoil) ∈ TB := tw 439 (by decide +kernel) (by decide +kernel)
theorem wd_440 : (Jvm.Cond.instanceMethod yX5_spoil) ∈ TB := tw 440 (by decide +kernel) (by decide +kernel)
theorem wd_441 : (Cond.selects RX5 yX5_spoil yX5_spoil) ∈ TB := tw 441 (by decide +kernel) (by decide +kernel)
theorem wd_442 : (Cond.code yX5_spoil cX5_spoil 1 (Option.none : Option Jvm.ClassFile.FieldType)) ∈ TB := tw 442 (by decide +kernel) (by decide +kernel)
theorem wd_443 : (Cond.methodLink RX11 (353 : Nat) yX10_spoil) ∈ TB := tw 443 (by decide +kernel) (by decide +kernel)
theorem wd_444 : (Jvm.Cond.instanceMethod yX10_spoil) ∈ TB := tw 444 (by decide +kernel) (by decide +kernel)
theorem wd_445 : (Cond.selects RX10 yX10_spoil yX10_spoil) ∈ TB := tw 445 (by decide +kernel) (by decide +kernel)
theorem wd_446 : (Cond.code yX10_spoil cX10_spoil 1 (Option.none : Option Jvm.ClassFile.FieldType)) ∈ TB := tw 446 (by decide +kernel) (by decide +kernel)
theorem wd_447 : (Cond.methodLink RX11 (127 : Nat) yX11_accept) ∈ TB := tw 447 (by decide +kernel) (by decide +kernel)
theorem wd_449 : (Jvm.Cond.instanceMethod yX11_accept) ∈ TB := tw 449 (by decide +kernel) (by decide +kernel)
theorem wd_450 : (Cond.code yX11_accept cX11_accept 2 (Option.some Jvm.ClassFile.FieldType.int)) ∈ TB := tw 450 (by decide +kernel) (by decide +kernel)
theorem wd_455 : (Cond.methodLink RX11 (130 : Nat) yX6_pumpPart) ∈ TB := tw 455 (by decide +kernel) (by decide +kernel)
theorem wd_463 : (Cond.methodLink RX11 (134 : Nat) yX11_isSpan) ∈ TB := tw 463 (by decide +kernel) (by decide +kernel)
theorem wd_464 : (Jvm.Cond.static yX11_isSpan) ∈ TB := tw 464 (by decide +kernel) (by decide +kernel)
theorem wd_465 : (Cond.code yX11_isSpan cX11_isSpan 2 (Option.some Jvm.ClassFile.FieldType.boolean)) ∈ TB := tw 465 (by decide +kernel) (by decide +kernel)
theorem wd_469 : (Cond.methodLink RX11 (138 : Nat) yX11_isFlag) ∈ TB := tw 469 (by decide +kernel) (by decide +kernel)
theorem wd_470 : (Jvm.Cond.static yX11_isFlag) ∈ TB := tw 470 (by decide +kernel) (by decide +kernel)
theorem wd_471 : (Cond.code yX11_isFlag cX11_isFlag 1 (Option.some Jvm.ClassFile.FieldType.boolean)) ∈ TB := tw 471 (by decide +kernel) (by decide +kernel)
theorem wd_472 : (Cond.methodLink RX11 (141 : Nat) yX6_tellStrikes) ∈ TB := tw 472 (by decide +kernel) (by decide +kernel)
theorem wd_473 : (Jvm.Cond.instanceMethod yX6_tellStrikes) ∈ TB := tw 473 (by decide +kernel) (by decide +kernel)
theorem wd_474 : (Cond.selects RX6 yX6_tellStrikes yX6_tellStrikes) ∈ TB := tw 474 (by decide +kernel) (by decide +kernel)
theorem wd_475 : (Cond.code yX6_tellStrikes cX6_tellStrikes 6 (Option.some Jvm.ClassFile.FieldType.int)) ∈ TB := tw 475 (by decide +kernel) (by decide +kernel)
theorem wd_6 : (Cond.initialized RX7) ∈ TB := tw 6 (by decide +kernel) (by decide +kernel)
theorem wd_601 : (Cond.methodLink RX11 (185 : Nat) yX11_write) ∈ TB := tw 601 (by decide +kernel) (by decide +kernel)
theorem wd_603 : (Jvm.Cond.instanceMethod yX11_write) ∈ TB := tw 603 (by decide +kernel) (by decide +kernel)
theorem wd_604 : (Cond.code yX11_write cX11_write 3 (Option.none : Option Jvm.ClassFile.FieldType)) ∈ TB := tw 604 (by decide +kernel) (by decide +kernel)
theorem wd_9 : (Cond.initialized RX1) ∈ TB := tw 9 (by decide +kernel) (by decide +kernel)
theorem dX0_going_0 : decode cX0_going 0 = .ok (.aload_n 0, 1) := by decide +kernel
theorem dX0_going_1 : decode cX0_going 1 = .ok (.getfield 9, 3) := by decide +kernel
theorem dX0_going_4 : decode cX0_going 4 = .ok (.bipush 7, 2) := by decide +kernel
theorem dX0_going_6 : decode cX0_going 6 = .ok (.iload_n 1, 1) := by decide +kernel
theorem dX0_going_7 : decode cX0_going 7 = .ok (.iastore, 1) := by decide +kernel
theorem dX0_going_8 : decode cX0_going 8 = .ok (.return_, 1) := by decide +kernel
set_option maxHeartbeats 4000000 in
set_option maxRecDepth 100000 in
theorem c_X0_going (l : Launch) (E : Nat → ClassId) (D : va_G) (G : th_G) (h0 : Nat) (hG0 : G h0 = some (8, 0)) (x1 : Int32) : Met l yX0_going (tb (.code yX0_going cX0_going 2 none)) (rm 0) (va_Pc [.ref h0, .int x1] (th_P E D G)) (QV E D G) 0 0 (th_A G) := by
  refine Met.ofW (cc := cX0_going) (maxL := 2) (ret := none) (by decide) rfl ?_
  intro p e s m args below meth c s₁ B hml hv
  obtain ⟨hav, hI, hN, hK⟩ := hv
  have hx := B.exec
  have hb := B.bytes
  have hr := B.returns
  have hts := atoms_spec (ws := tb (.code yX0_going cX0_going 2 none)) B.pre
  have hown : s.vm.findClass RX0 = some m.cls := findClass_of_methodNamed B.named
  have hlocks := B.notSynchronized
  have hS : va_S (th_A G) s.heap s.heap [] := va_S.rf
  have hl := lv_entry ([.ref h0, .int x1]) (n := 2) (Nat.le_of_ble_eq_true rfl)
  rw [show entryFrame m args 2 = entryFrame m ([.ref h0, .int x1] : List Value).toArray 2 from by rw [hav], lg_entry_eq]
  generalize (lg_sl ([.ref h0, .int x1]) ++ List.replicate (2 - (lg_sl ([.ref h0, .int x1])).length) Slot.unset).toArray = ls at hl ⊢
  have hl : lv_has ls 2 [(0, .ref h0), (1, .int x1)] := hl
  generalize hR : (headSpec (tb (.code yX0_going cX0_going 2 none)) (rm 0)).room = R
  have hR := hR.symm
  generalize hQ : MQ below (QV E D G) args s 0 0 (th_A G) = QF
  have hQ := hQ.symm
  refine lv_aload_n hx hb dX0_going_0 rfl (lv_at hl 0 rfl) ?_
  obtain ⟨q1, q3, z5, hO, hq2, hq4⟩ := op_8 hI hG0 List.not_mem_nil
  have hI := th_I.weak (a := h0) hI
  refine th_get hx hb hts inT0 hown hK hO rfl 0 (by decide) (hts _ (tb_c wd_178)) rfl rfl dX0_going_1 ?_
  refine lv_bipush (v := 7) hx hb dX0_going_4 (by decide) ?_
  refine lv_iload_n hx hb dX0_going_6 rfl (lv_at hl 1 rfl) ?_
  obtain ⟨_, hA6⟩ := op_0 hI hq2 (th_ne hG0 hq2 (by decide))
  refine th_iast hx hb hK hA6 0 rfl hS ⟨_, hq2⟩ (iv_in (X := (7)) (by decide) (by omega) (by omega)) dX0_going_7 (fun H locs hA6 oq hS => ?_)
  have hI := th_I.put hI hq2 hA6 ok_0 oq
  have hO := hO.kept (oq _ (fun z => th_ne hG0 hq2 (by decide) (List.mem_singleton.mpr z.symm)))
  have hI := th_I.close hI hG0 hO (ok_8 hq2 hq4)
  rw [hQ]
  exact W.vret hx hb hr (fun t ht hW => ⟨⟨(), rfl, trivial, by rw [ht]; exact hI, hN.warm hW, va_K.moved hW.alike hK⟩, hS.F ht⟩) hS.2.2 dX0_going_8
theorem dX7_spoil_0 : decode cX7_spoil 0 = .ok (.aload_n 0, 1) := by decide +kernel
theorem dX7_spoil_1 : decode cX7_spoil 1 = .ok (.iconst 1, 1) := by decide +kernel
theorem dX7_spoil_2 : decode cX7_spoil 2 = .ok (.putfield 31, 3) := by decide +kernel
theorem dX7_spoil_5 : decode cX7_spoil 5 = .ok (.return_, 1) := by decide +kernel
set_option maxHeartbeats 4000000 in
set_option maxRecDepth 100000 in
theorem c_X7_spoil (l : Launch) (E : Nat → ClassId) (D : va_G) (G : th_G) (h0 : Nat) (hG0 : G h0 = some (9, 0)) : Met l yX7_spoil (tb (.code yX7_spoil cX7_spoil 1 none)) (rm 0) (va_Pc [.ref h0] (th_P E D G)) (QV E D G) 0 0 (th_A G) := by
  refine Met.ofW (cc := cX7_spoil) (maxL := 1) (ret := none) (by decide) rfl ?_
  intro p e s m args below meth c s₁ B hml hv
  obtain ⟨hav, hI, hN, hK⟩ := hv
  have hx := B.exec
  have hb := B.bytes
  have hr := B.returns
  have hts := atoms_spec (ws := tb (.code yX7_spoil cX7_spoil 1 none)) B.pre
  have hown : s.vm.findClass RX7 = some m.cls := findClass_of_methodNamed B.named
  have hlocks := B.notSynchronized
  have hS : va_S (th_A G) s.heap s.heap [] := va_S.rf
  have hl := lv_entry ([.ref h0]) (n := 1) (Nat.le_of_ble_eq_true rfl)
  rw [show entryFrame m args 1 = entryFrame m ([.ref h0] : List Value).toArray 1 from by rw [hav], lg_entry_eq]
  generalize (lg_sl ([.ref h0]) ++ List.replicate (1 - (lg_sl ([.ref h0])).length) Slot.unset).toArray = ls at hl ⊢
  have hl : lv_has ls 1 [(0, .ref h0)] := hl
  generalize hR : (headSpec (tb (.code yX7_spoil cX7_spoil 1 none)) (rm 0)).room = R
  have hR := hR.symm
  generalize hQ : MQ below (QV E D G) args s 0 0 (th_A G) = QF
  have hQ := hQ.symm
  refine lv_aload_n hx hb dX7_spoil_0 rfl (lv_at hl 0 rfl) ?_
  refine lv_iconst (v := 1) hx hb dX7_spoil_1 (by decide) ?_
  obtain ⟨q1, q3, q5, q7, q9, q11, z13, hO, hq2, hq4, hq6, hq8, hq10, hq12⟩ := op_9 hI hG0 List.not_mem_nil
  have hI := th_I.weak (a := h0) hI
  refine th_put (ty := .boolean) hx hb hts inT7 tyX7 tyX7_ok nmX7 hown hK hO hS ⟨_, hG0⟩ rfl 6 (by decide) (hts _ (tb_c wd_195)) rfl rfl (by decide +kernel) (by decide) rfl (Nat.le_of_ble_eq_true rfl) dX7_spoil_2 (fun H locs hO oq hS => ?_)
  have hI := th_I.moved hI oq
  have hO : va_at D vwCl (h0, .inr (7, [.ref q1, .ref q3, .ref q5, .ref q7, .ref q9, .ref q11, .int 1])) H := hO
  have hI := th_I.close hI hG0 hO (ok_9 hq2 hq4 hq6 hq8 hq10 hq12)
  rw [hQ]
  exact W.vret hx hb hr (fun t ht hW => ⟨⟨(), rfl, trivial, by rw [ht]; exact hI, hN.warm hW, va_K.moved hW.alike hK⟩, hS.F ht⟩) hS.2.2 dX7_spoil_5
theorem dX1_spoil_0 : decode cX1_spoil 0 = .ok (.aload_n 0, 1) := by decide +kernel
theorem dX1_spoil_1 : decode cX1_spoil 1 = .ok (.iconst 1, 1) := by decide +kernel
theorem dX1_spoil_2 : decode cX1_spoil 2 = .ok (.putfield 34, 3) := by decide +kernel
theorem dX1_spoil_5 : decode cX1_spoil 5 = .ok (.return_, 1) := by decide +kernel
set_option maxHeartbeats 4000000 in
set_option maxRecDepth 100000 in
theorem c_X1_spoil (l : Launch) (E : Nat → ClassId) (D : va_G) (G : th_G) (h0 : Nat) (hG0 : G h0 = some (11, 0)) : Met l yX1_spoil (tb (.code yX1_spoil cX1_spoil 1 none)) (rm 0) (va_Pc [.ref h0] (th_P E D G)) (QV E D G) 0 0 (th_A G) := by
  refine Met.ofW (cc := cX1_spoil) (maxL := 1) (ret := none) (by decide) rfl ?_
  intro p e s m args below meth c s₁ B hml hv
  obtain ⟨hav, hI, hN, hK⟩ := hv
  have hx := B.exec
  have hb := B.bytes
  have hr := B.returns
  have hts := atoms_spec (ws := tb (.code yX1_spoil cX1_spoil 1 none)) B.pre
  have hown : s.vm.findClass RX1 = some m.cls := findClass_of_methodNamed B.named
  have hlocks := B.notSynchronized
  have hS : va_S (th_A G) s.heap s.heap [] := va_S.rf
  have hl := lv_entry ([.ref h0]) (n := 1) (Nat.le_of_ble_eq_true rfl)
  rw [show entryFrame m args 1 = entryFrame m ([.ref h0] : List Value).toArray 1 from by rw [hav], lg_entry_eq]
  generalize (lg_sl ([.ref h0]) ++ List.replicate (1 - (lg_sl ([.ref h0])).length) Slot.unset).toArray = ls at hl ⊢
  have hl : lv_has ls 1 [(0, .ref h0)] := hl
  generalize hR : (headSpec (tb (.code yX1_spoil cX1_spoil 1 none)) (rm 0)).room = R
  have hR := hR.symm
  generalize hQ : MQ below (QV E D G) args s 0 0 (th_A G) = QF
  have hQ := hQ.symm
  refine lv_aload_n hx hb dX1_spoil_0 rfl (lv_at hl 0 rfl) ?_
  refine lv_iconst (v := 1) hx hb dX1_spoil_1 (by decide) ?_
  obtain ⟨q1, q3, q5, q7, q9, q11, q13, q15, z17, z18, z19, hO, hq2, hq4, hq6, hq8, hq10, hq12, hq14, hq16⟩ := op_11 hI hG0 List.not_mem_nil
  have hI := th_I.weak (a := h0) hI
  refine th_put (ty := .boolean) hx hb hts inT1 tyX1 tyX1_ok nmX1 hown hK hO hS ⟨_, hG0⟩ rfl 10 (by decide) (hts _ (tb_c wd_246)) rfl rfl (by decide +kernel) (by decide) rfl (Nat.le_of_ble_eq_true rfl) dX1_spoil_2 (fun H locs hO oq hS => ?_)
  have hI := th_I.moved hI oq
  have hO : va_at D vwCl (h0, .inr (1, [.ref q1, .ref q3, .ref q5, .ref q7, .ref q9, .ref q11, .ref q13, .ref q15, .int z17, .int z18, .int 1])) H := hO
  have hI := th_I.close hI hG0 hO (ok_11 hq2 hq4 hq6 hq8 hq10 hq12 hq14 hq16)
  rw [hQ]
  exact W.vret hx hb hr (fun t ht hW => ⟨⟨(), rfl, trivial, by rw [ht]; exact hI, hN.warm hW, va_K.moved hW.alike hK⟩, hS.F ht⟩) hS.2.2 dX1_spoil_5
theorem dX5_spoil_0 : decode cX5_spoil 0 = .ok (.aload_n 0, 1) := by decide +kernel
theorem dX5_spoil_1 : decode cX5_spoil 1 = .ok (.iconst (-1), 1) := by decide +kernel
theorem dX5_spoil_2 : decode cX5_spoil 2 = .ok (.putfield 19, 3) := by decide +kernel
theorem dX5_spoil_5 : decode cX5_spoil 5 = .ok (.return_, 1) := by decide +kernel
set_option maxHeartbeats 4000000 in
set_option maxRecDepth 100000 in
theorem c_X5_spoil (l : Launch) (E : Nat → ClassId) (D : va_G) (G : th_G) (h0 : Nat) (hG0 : G h0 = some (12, 0)) : Met l yX5_spoil (tb (.code yX5_spoil cX5_spoil 1 none)) (rm 0) (va_Pc [.ref h0] (th_P E D G)) (QV E D G) 0 0 (th_A G) := by
  refine Met.ofW (cc := cX5_spoil) (maxL := 1) (ret := none) (by decide) rfl ?_
  intro p e s m args below meth c s₁ B hml hv
  obtain ⟨hav, hI, hN, hK⟩ := hv
  have hx := B.exec
  have hb := B.bytes
  have hr := B.returns
  have hts := atoms_spec (ws := tb (.code yX5_spoil cX5_spoil 1 none)) B.pre
  have hown : s.vm.findClass RX5 = some m.cls := findClass_of_methodNamed B.named
  have hlocks := B.notSynchronized
  have hS : va_S (th_A G) s.heap s.heap [] := va_S.rf
  have hl := lv_entry ([.ref h0]) (n := 1) (Nat.le_of_ble_eq_true rfl)
  rw [show entryFrame m args 1 = entryFrame m ([.ref h0] : List Value).toArray 1 from by rw [hav], lg_entry_eq]
  generalize (lg_sl ([.ref h0]) ++ List.replicate (1 - (lg_sl ([.ref h0])).length) Slot.unset).toArray = ls at hl ⊢
  have hl : lv_has ls 1 [(0, .ref h0)] := hl
  generalize hR : (headSpec (tb (.code yX5_spoil cX5_spoil 1 none)) (rm 0)).room = R
  have hR := hR.symm
  generalize hQ : MQ below (QV E D G) args s 0 0 (th_A G) = QF
  have hQ := hQ.symm
  refine lv_aload_n hx hb dX5_spoil_0 rfl (lv_at hl 0 rfl) ?_
  refine lv_iconst (v := (-1)) hx hb dX5_spoil_1 (by decide) ?_
  obtain ⟨q1, q3, q5, q7, z9, z10, hO, hq2, hq4, hq6, hq8⟩ := op_12 hI hG0 List.not_mem_nil
  have hI := th_I.weak (a := h0) hI
  refine th_put (ty := .int) hx hb hts inT5 tyX5 tyX5_ok nmX5 hown hK hO hS ⟨_, hG0⟩ rfl 4 (by decide) (hts _ (tb_c wd_280)) rfl rfl (by decide +kernel) rfl rfl (Nat.le_of_ble_eq_true rfl) dX5_spoil_2 (fun H locs hO oq hS => ?_)
  have hI := th_I.moved hI oq
  have hO : va_at D vwCl (h0, .inr (5, [.ref q1, .ref q3, .ref q5, .ref q7, .int (-1), .int z10])) H := hO
  have hI := th_I.close hI hG0 hO (ok_12 hq2 hq4 hq6 hq8)
  rw [hQ]
  exact W.vret hx hb hr (fun t ht hW => ⟨⟨(), rfl, trivial, by rw [ht]; exact hI, hN.warm hW, va_K.moved hW.alike hK⟩, hS.F ht⟩) hS.2.2 dX5_spoil_5
theorem dX10_spoil_0 : decode cX10_spoil 0 = .ok (.aload_n 0, 1) := by decide +kernel
theorem dX10_spoil_1 : decode cX10_spoil 1 = .ok (.iconst (-1), 1) := by decide +kernel
theorem dX10_spoil_2 : decode cX10_spoil 2 = .ok (.putfield 18, 3) := by decide +kernel
theorem dX10_spoil_5 : decode cX10_spoil 5 = .ok (.return_, 1) := by decide +kernel
set_option maxHeartbeats 4000000 in
set_option maxRecDepth 100000 in
theorem c_X10_spoil (l : Launch) (E : Nat → ClassId) (D : va_G) (G : th_G) (h0 : Nat) (hG0 : G h0 = some (14, 0)) : Met l yX10_spoil (tb (.code yX10_spoil cX10_spoil 1 none)) (rm 0) (va_Pc [.ref h0] (th_P E D G)) (QV E D G) 0 0 (th_A G) := by
  refine Met.ofW (cc := cX10_spoil) (maxL := 1) (ret := none) (by decide) rfl ?_
  intro p e s m args below meth c s₁ B hml hv
  obtain ⟨hav, hI, hN, hK⟩ := hv
  have hx := B.exec
  have hb := B.bytes
  have hr := B.returns
  have hts := atoms_spec (ws := tb (.code yX10_spoil cX10_spoil 1 none)) B.pre
  have hown : s.vm.findClass RX10 = some m.cls := findClass_of_methodNamed B.named
  have hlocks := B.notSynchronized
  have hS : va_S (th_A G) s.heap s.heap [] := va_S.rf
  have hl := lv_entry ([.ref h0]) (n := 1) (Nat.le_of_ble_eq_true rfl)
  rw [show entryFrame m args 1 = entryFrame m ([.ref h0] : List Value).toArray 1 from by rw [hav], lg_entry_eq]
  generalize (lg_sl ([.ref h0]) ++ List.replicate (1 - (lg_sl ([.ref h0])).length) Slot.unset).toArray = ls at hl ⊢
  have hl : lv_has ls 1 [(0, .ref h0)] := hl
  generalize hR : (headSpec (tb (.code yX10_spoil cX10_spoil 1 none)) (rm 0)).room = R
  have hR := hR.symm
  generalize hQ : MQ below (QV E D G) args s 0 0 (th_A G) = QF
  have hQ := hQ.symm
  refine lv_aload_n hx hb dX10_spoil_0 rfl (lv_at hl 0 rfl) ?_
  refine lv_iconst (v := (-1)) hx hb dX10_spoil_1 (by decide) ?_
  obtain ⟨q1, q3, q5, q7, q9, z11, hO, hq2, hq4, hq6, hq8, hq10⟩ := op_14 hI hG0 List.not_mem_nil
  have hI := th_I.weak (a := h0) hI
  refine th_put (ty := .int) hx hb hts inT10 tyX10 tyX10_ok nmX10 hown hK hO hS ⟨_, hG0⟩ rfl 5 (by decide) (hts _ (tb_c wd_331)) rfl rfl (by decide +kernel) rfl rfl (Nat.le_of_ble_eq_true rfl) dX10_spoil_2 (fun H locs hO oq hS => ?_)
  have hI := th_I.moved hI oq
  have hO : va_at D vwCl (h0, .inr (10, [.ref q1, .ref q3, .ref q5, .ref q7, .ref q9, .int (-1)])) H := hO
  have hI := th_I.close hI hG0 hO (ok_14 hq2 hq4 hq6 hq8 hq10)
  rw [hQ]
  exact W.vret hx hb hr (fun t ht hW => ⟨⟨(), rfl, trivial, by rw [ht]; exact hI, hN.warm hW, va_K.moved hW.alike hK⟩, hS.F ht⟩) hS.2.2 dX10_spoil_5
theorem dX11_turnLists_0 : decode cX11_turnLists 0 = .ok (.aload_n 0, 1) := by decide +kernel
theorem dX11_turnLists_1 : decode cX11_turnLists 1 = .ok (.getfield 60, 3) := by decide +kernel
theorem dX11_turnLists_4 : decode cX11_turnLists 4 = .ok (.invokevirtual 351, 3) := by decide +kernel
theorem dX11_turnLists_7 : decode cX11_turnLists 7 = .ok (.aload_n 0, 1) := by decide +kernel
theorem dX11_turnLists_8 : decode cX11_turnLists 8 = .ok (.getfield 69, 3) := by decide +kernel
theorem dX11_turnLists_11 : decode cX11_turnLists 11 = .ok (.invokevirtual 352, 3) := by decide +kernel
theorem dX11_turnLists_14 : decode cX11_turnLists 14 = .ok (.aload_n 0, 1) := by decide +kernel
theorem dX11_turnLists_15 : decode cX11_turnLists 15 = .ok (.getfield 85, 3) := by decide +kernel
theorem dX11_turnLists_18 : decode cX11_turnLists 18 = .ok (.invokevirtual 353, 3) := by decide +kernel
theorem dX11_turnLists_21 : decode cX11_turnLists 21 = .ok (.return_, 1) := by decide +kernel
set_option maxHeartbeats 4000000 in
set_option maxRecDepth 100000 in
theorem c_X11_turnLists (l : Launch) (E : Nat → ClassId) (D : va_G) (G : th_G) (h0 : Nat) (hG0 : G h0 = some (15, 0)) : Met l yX11_turnLists (tb (.code yX11_turnLists cX11_turnLists 1 none)) (rm 1) (va_Pc [.ref h0] (th_P E D G)) (QV E D G) 0 0 (th_A G) := by
  refine Met.ofW (cc := cX11_turnLists) (maxL := 1) (ret := none) (by decide) rfl ?_
  intro p e s m args below meth c s₁ B hml hv
  obtain ⟨hav, hI, hN, hK⟩ := hv
  have hx := B.exec
  have hb := B.bytes
  have hr := B.returns
  have hts := atoms_spec (ws := tb (.code yX11_turnLists cX11_turnLists 1 none)) B.pre
  have hown : s.vm.findClass RX11 = some m.cls := findClass_of_methodNamed B.named
  have hlocks := B.notSynchronized
  have hS : va_S (th_A G) s.heap s.heap [] := va_S.rf
  have hl := lv_entry ([.ref h0]) (n := 1) (Nat.le_of_ble_eq_true rfl)
  rw [show entryFrame m args 1 = entryFrame m ([.ref h0] : List Value).toArray 1 from by rw [hav], lg_entry_eq]
  generalize (lg_sl ([.ref h0]) ++ List.replicate (1 - (lg_sl ([.ref h0])).length) Slot.unset).toArray = ls at hl ⊢
  have hl : lv_has ls 1 [(0, .ref h0)] := hl
  generalize hR : (headSpec (tb (.code yX11_turnLists cX11_turnLists 1 none)) (rm 1)).room = R
  have hR := hR.symm
  generalize hQ : MQ below (QV E D G) args s 0 0 (th_A G) = QF
  have hQ := hQ.symm
  refine lv_aload_n hx hb dX11_turnLists_0 rfl (lv_at hl 0 rfl) ?_
  obtain ⟨q1, q3, q5, q7, q9, q11, q13, q15, q17, q19, q21, q23, z25, z28, z29, z30, z31, hO, hq2, hq4, hq6, hq8, hq10, hq12, hq14, hq16, hq18, hq20, hq22, hq24, ⟨k26, k27⟩⟩ := op_15 hI hG0 List.not_mem_nil
  have hI := th_I.weak (a := h0) hI
  refine th_get hx hb hts inT11 hown hK hO rfl 8 (by decide) (hts _ (tb_c wd_353)) rfl rfl dX11_turnLists_1 ?_
  have hI := th_I.close hI hG0 hO (ok_15 hq2 hq4 hq6 hq8 hq10 hq12 hq14 hq16 hq18 hq20 hq22 hq24 ⟨by omega, by omega⟩)
  refine th_cVv (As := []) (rest := []) (d := 0) ⟨hx, hb, hml, hown, hts⟩ (c_X1_spoil l E D G q17 hq18 ) wd_435 wd_436 wd_437 wd_9 wd_438 (by decide +kernel) ⟨by rw [hR]; exact Nat.le_of_ble_eq_true rfl, by rw [hR]; exact Nat.le_of_ble_eq_true rfl⟩ hI hN hK hS (rc_11 hI hq18 List.not_mem_nil) rfl rfl hl.1 rfl (Nat.le_of_ble_eq_true rfl) dX11_turnLists_4 ⟨Nat.zero_le _, Nat.zero_le _⟩ (fun H locs hI hS => ?_)
  refine lv_aload_n hx hb dX11_turnLists_7 rfl (lv_at hl 0 rfl) ?_
  obtain ⟨q33, q35, q37, q39, q41, q43, q45, q47, q49, q51, q53, q55, z57, z60, z61, z62, z63, hO, hq34, hq36, hq38, hq40, hq42, hq44, hq46, hq48, hq50, hq52, hq54, hq56, ⟨k58, k59⟩⟩ := op_15 hI hG0 List.not_mem_nil
  have hI := th_I.weak (a := h0) hI
  refine th_get hx hb hts inT11 hown hK hO rfl 9 (by decide) (hts _ (tb_c wd_354)) rfl rfl dX11_turnLists_8 ?_
  have hI := th_I.close hI hG0 hO (ok_15 hq34 hq36 hq38 hq40 hq42 hq44 hq46 hq48 hq50 hq52 hq54 hq56 ⟨by omega, by omega⟩)
  refine th_cVv (As := []) (rest := []) (d := 0) ⟨hx, hb, hml, hown, hts⟩ (c_X5_spoil l E D G q51 hq52 ) wd_439 wd_440 wd_441 wd_10 wd_442 (by decide +kernel) ⟨by rw [hR]; exact Nat.le_of_ble_eq_true rfl, by rw [hR]; exact Nat.le_of_ble_eq_true rfl⟩ hI hN hK hS (rc_12 hI hq52 List.not_mem_nil) rfl rfl hl.1 rfl (Nat.le_of_ble_eq_true rfl) dX11_turnLists_11 ⟨Nat.zero_le _, Nat.zero_le _⟩ (fun H locs hI hS => ?_)
  refine lv_aload_n hx hb dX11_turnLists_14 rfl (lv_at hl 0 rfl) ?_
  obtain ⟨q65, q67, q69, q71, q73, q75, q77, q79, q81, q83, q85, q87, z89, z92, z93, z94, z95, hO, hq66, hq68, hq70, hq72, hq74, hq76, hq78, hq80, hq82, hq84, hq86, hq88, ⟨k90, k91⟩⟩ := op_15 hI hG0 List.not_mem_nil
  have hI := th_I.weak (a := h0) hI
  refine th_get hx hb hts inT11 hown hK hO rfl 11 (by decide) (hts _ (tb_c wd_356)) rfl rfl dX11_turnLists_15 ?_
  have hI := th_I.close hI hG0 hO (ok_15 hq66 hq68 hq70 hq72 hq74 hq76 hq78 hq80 hq82 hq84 hq86 hq88 ⟨by omega, by omega⟩)
  refine th_cVv (As := []) (rest := []) (d := 0) ⟨hx, hb, hml, hown, hts⟩ (c_X10_spoil l E D G q87 hq88 ) wd_443 wd_444 wd_445 wd_12 wd_446 (by decide +kernel) ⟨by rw [hR]; exact Nat.le_of_ble_eq_true rfl, by rw [hR]; exact Nat.le_of_ble_eq_true rfl⟩ hI hN hK hS (rc_14 hI hq88 List.not_mem_nil) rfl rfl hl.1 rfl (Nat.le_of_ble_eq_true rfl) dX11_turnLists_18 ⟨Nat.zero_le _, Nat.zero_le _⟩ (fun H locs hI hS => ?_)
  rw [hQ]
  exact W.vret hx hb hr (fun t ht hW => ⟨⟨(), rfl, trivial, by rw [ht]; exact hI, hN.warm hW, va_K.moved hW.alike hK⟩, hS.F ht⟩) hS.2.2 dX11_turnLists_21
theorem dX11_turnRiver_0 : decode cX11_turnRiver 0 = .ok (.aload_n 0, 1) := by decide +kernel
theorem dX11_turnRiver_1 : decode cX11_turnRiver 1 = .ok (.getfield 42, 3) := by decide +kernel
theorem dX11_turnRiver_4 : decode cX11_turnRiver 4 = .ok (.invokevirtual 348, 3) := by decide +kernel
theorem dX11_turnRiver_7 : decode cX11_turnRiver 7 = .ok (.aload_n 0, 1) := by decide +kernel
theorem dX11_turnRiver_8 : decode cX11_turnRiver 8 = .ok (.invokevirtual 191, 3) := by decide +kernel
theorem dX11_turnRiver_11 : decode cX11_turnRiver 11 = .ok (.return_, 1) := by decide +kernel
set_option maxHeartbeats 4000000 in
set_option maxRecDepth 100000 in
theorem c_X11_turnRiver (l : Launch) (E : Nat → ClassId) (D : va_G) (G : th_G) (h0 : Nat) (hG0 : G h0 = some (15, 0)) : Met l yX11_turnRiver (tb (.code yX11_turnRiver cX11_turnRiver 1 none)) (rm 2) (va_Pc [.ref h0] (th_P E D G)) (QV E D G) 0 0 (th_A G) := by
  refine Met.ofW (cc := cX11_turnRiver) (maxL := 1) (ret := none) (by decide) rfl ?_
  intro p e s m args below meth c s₁ B hml hv
  obtain ⟨hav, hI, hN, hK⟩ := hv
  have hx := B.exec
  have hb := B.bytes
  have hr := B.returns
  have hts := atoms_spec (ws := tb (.code yX11_turnRiver cX11_turnRiver 1 none)) B.pre
  have hown : s.vm.findClass RX11 = some m.cls := findClass_of_methodNamed B.named
  have hlocks := B.notSynchronized
  have hS : va_S (th_A G) s.heap s.heap [] := va_S.rf
  have hl := lv_entry ([.ref h0]) (n := 1) (Nat.le_of_ble_eq_true rfl)
  rw [show entryFrame m args 1 = entryFrame m ([.ref h0] : List Value).toArray 1 from by rw [hav], lg_entry_eq]
  generalize (lg_sl ([.ref h0]) ++ List.replicate (1 - (lg_sl ([.ref h0])).length) Slot.unset).toArray = ls at hl ⊢
  have hl : lv_has ls 1 [(0, .ref h0)] := hl
  generalize hR : (headSpec (tb (.code yX11_turnRiver cX11_turnRiver 1 none)) (rm 2)).room = R
  have hR := hR.symm
  generalize hQ : MQ below (QV E D G) args s 0 0 (th_A G) = QF
  have hQ := hQ.symm
  refine lv_aload_n hx hb dX11_turnRiver_0 rfl (lv_at hl 0 rfl) ?_
  obtain ⟨q1, q3, q5, q7, q9, q11, q13, q15, q17, q19, q21, q23, z25, z28, z29, z30, z31, hO, hq2, hq4, hq6, hq8, hq10, hq12, hq14, hq16, hq18, hq20, hq22, hq24, ⟨k26, k27⟩⟩ := op_15 hI hG0 List.not_mem_nil
  have hI := th_I.weak (a := h0) hI
  refine th_get hx hb hts inT11 hown hK hO rfl 6 (by decide) (hts _ (tb_c wd_351)) rfl rfl dX11_turnRiver_1 ?_
  have hI := th_I.close hI hG0 hO (ok_15 hq2 hq4 hq6 hq8 hq10 hq12 hq14 hq16 hq18 hq20 hq22 hq24 ⟨by omega, by omega⟩)
  refine th_cVv (As := []) (rest := []) (d := 0) ⟨hx, hb, hml, hown, hts⟩ (c_X7_spoil l E D G q13 hq14 ) wd_427 wd_428 wd_429 wd_6 wd_430 (by decide +kernel) ⟨by rw [hR]; exact Nat.le_of_ble_eq_true rfl, by rw [hR]; exact Nat.le_of_ble_eq_true rfl⟩ hI hN hK hS (rc_9 hI hq14 List.not_mem_nil) rfl rfl hl.1 rfl (Nat.le_of_ble_eq_true rfl) dX11_turnRiver_4 ⟨Nat.zero_le _, Nat.zero_le _⟩ (fun H locs hI hS => ?_)
  refine lv_aload_n hx hb dX11_turnRiver_7 rfl (lv_at hl 0 rfl) ?_
  refine th_cVv (As := []) (rest := []) (d := 1) ⟨hx, hb, hml, hown, hts⟩ (c_X11_turnLists l E D G h0 hG0 ) wd_431 wd_433 wp_2 wd_1 wd_434 (by decide +kernel) ⟨by rw [hR]; exact Nat.le_of_ble_eq_true rfl, by rw [hR]; exact Nat.le_of_ble_eq_true rfl⟩ hI hN hK hS (rc_15 hI hG0 List.not_mem_nil) rfl rfl hl.1 rfl (Nat.le_of_ble_eq_true rfl) dX11_turnRiver_8 ⟨Nat.zero_le _, Nat.zero_le _⟩ (fun H locs hI hS => ?_)
  rw [hQ]
  exact W.vret hx hb hr (fun t ht hW => ⟨⟨(), rfl, trivial, by rw [ht]; exact hI, hN.warm hW, va_K.moved hW.alike hK⟩, hS.F ht⟩) hS.2.2 dX11_turnRiver_11
theorem dX11_accept_0 : decode cX11_accept 0 = .ok (.aload_n 0, 1) := by decide +kernel
theorem dX11_accept_1 : decode cX11_accept 1 = .ok (.iconst 0, 1) := by decide +kernel
theorem dX11_accept_2 : decode cX11_accept 2 = .ok (.putfield 99, 3) := by decide +kernel
theorem dX11_accept_5 : decode cX11_accept 5 = .ok (.iload_n 1, 1) := by decide +kernel
theorem dX11_accept_6 : decode cX11_accept 6 = .ok (.ireturn, 1) := by decide +kernel
set_option maxHeartbeats 4000000 in
set_option maxRecDepth 100000 in
theorem c_X11_accept (l : Launch) (E : Nat → ClassId) (D : va_G) (G : th_G) (h0 : Nat) (hG0 : G h0 = some (15, 0)) (x1 : Int32) : Met l yX11_accept (tb (.code yX11_accept cX11_accept 2 (some .int))) (rm 0) (va_Pc [.ref h0, .int x1] (th_P E D G)) (QI E D G (fun r => (r : Int32) = x1)) 0 0 (th_A G) := by
  refine Met.ofW (cc := cX11_accept) (maxL := 2) (ret := (some .int)) (by decide) rfl ?_
  intro p e s m args below meth c s₁ B hml hv
  obtain ⟨hav, hI, hN, hK⟩ := hv
  have hx := B.exec
  have hb := B.bytes
  have hr := B.returns
  have hts := atoms_spec (ws := tb (.code yX11_accept cX11_accept 2 (some .int))) B.pre
  have hown : s.vm.findClass RX11 = some m.cls := findClass_of_methodNamed B.named
  have hlocks := B.notSynchronized
  have hS : va_S (th_A G) s.heap s.heap [] := va_S.rf
  have hl := lv_entry ([.ref h0, .int x1]) (n := 2) (Nat.le_of_ble_eq_true rfl)
  rw [show entryFrame m args 2 = entryFrame m ([.ref h0, .int x1] : List Value).toArray 2 from by rw [hav], lg_entry_eq]
  generalize (lg_sl ([.ref h0, .int x1]) ++ List.replicate (2 - (lg_sl ([.ref h0, .int x1])).length) Slot.unset).toArray = ls at hl ⊢
  have hl : lv_has ls 2 [(0, .ref h0), (1, .int x1)] := hl
  generalize hR : (headSpec (tb (.code yX11_accept cX11_accept 2 (some .int))) (rm 0)).room = R
  have hR := hR.symm
  generalize hQ : MQ below (QI E D G (fun r => (r : Int32) = x1)) args s 0 0 (th_A G) = QF
  have hQ := hQ.symm
  refine lv_aload_n hx hb dX11_accept_0 rfl (lv_at hl 0 rfl) ?_
  refine lv_iconst (v := 0) hx hb dX11_accept_1 (by decide) ?_
  obtain ⟨q1, q3, q5, q7, q9, q11, q13, q15, q17, q19, q21, q23, z25, z28, z29, z30, z31, hO, hq2, hq4, hq6, hq8, hq10, hq12, hq14, hq16, hq18, hq20, hq22, hq24, ⟨k26, k27⟩⟩ := op_15 hI hG0 List.not_mem_nil
  have hI := th_I.weak (a := h0) hI
  refine th_put (ty := .int) hx hb hts inT11 tyX11 tyX11_ok nmX11 hown hK hO hS ⟨_, hG0⟩ rfl 15 (by decide) (hts _ (tb_c wd_360)) rfl rfl (by decide +kernel) rfl rfl (Nat.le_of_ble_eq_true rfl) dX11_accept_2 (fun H locs hO oq hS => ?_)
  have hI := th_I.moved hI oq
  have hO : va_at D vwCl (h0, .inr (11, [.ref q1, .ref q3, .ref q5, .ref q7, .ref q9, .ref q11, .ref q13, .ref q15, .ref q17, .ref q19, .ref q21, .ref q23, .int z25, .int z28, .int z29, .int 0, .int z31])) H := hO
  refine lv_iload_n hx hb dX11_accept_5 rfl (lv_at hl 1 rfl) ?_
  have hI := th_I.close hI hG0 hO (ok_15 hq2 hq4 hq6 hq8 hq10 hq12 hq14 hq16 hq18 hq20 hq22 hq24 ⟨by omega, by omega⟩)
  have hpost : (x1 : Int32) = x1 := rfl
  rw [hQ]
  exact W.iret (v := x1) hx hb hr (fun t ht hW => ⟨⟨x1, (), rfl, hpost, by rw [ht]; exact hI, hN.warm hW, va_K.moved hW.alike hK⟩, hS.F ht⟩) hS.2.2 dX11_accept_6
theorem dX11_refuse_0 : decode cX11_refuse 0 = .ok (.aload_n 0, 1) := by decide +kernel
theorem dX11_refuse_1 : decode cX11_refuse 1 = .ok (.iload_n 1, 1) := by decide +kernel
theorem dX11_refuse_2 : decode cX11_refuse 2 = .ok (.putfield 99, 3) := by decide +kernel
theorem dX11_refuse_5 : decode cX11_refuse 5 = .ok (.iload_n 1, 1) := by decide +kernel
theorem dX11_refuse_6 : decode cX11_refuse 6 = .ok (.bipush (-3), 2) := by decide +kernel
theorem dX11_refuse_8 : decode cX11_refuse 8 = .ok (.if_icmp .lt 9, 3) := by decide +kernel
theorem dX11_refuse_11 : decode cX11_refuse 11 = .ok (.iconst (-1), 1) := by decide +kernel
theorem dX11_refuse_12 : decode cX11_refuse 12 = .ok (.iload_n 1, 1) := by decide +kernel
theorem dX11_refuse_13 : decode cX11_refuse 13 = .ok (.isub, 1) := by decide +kernel
theorem dX11_refuse_14 : decode cX11_refuse 14 = .ok (.goto 7, 3) := by decide +kernel
theorem dX11_refuse_17 : decode cX11_refuse 17 = .ok (.bipush (-2), 2) := by decide +kernel
theorem dX11_refuse_19 : decode cX11_refuse 19 = .ok (.iload_n 1, 1) := by decide +kernel
theorem dX11_refuse_20 : decode cX11_refuse 20 = .ok (.isub, 1) := by decide +kernel
theorem dX11_refuse_21 : decode cX11_refuse 21 = .ok (.istore_n 2, 1) := by decide +kernel
theorem dX11_refuse_22 : decode cX11_refuse 22 = .ok (.iload_n 2, 1) := by decide +kernel
theorem dX11_refuse_23 : decode cX11_refuse 23 = .ok (.ifCond .lt 22, 3) := by decide +kernel
theorem dX11_refuse_26 : decode cX11_refuse 26 = .ok (.iload_n 2, 1) := by decide +kernel
theorem dX11_refuse_27 : decode cX11_refuse 27 = .ok (.aload_n 0, 1) := by decide +kernel
theorem dX11_refuse_28 : decode cX11_refuse 28 = .ok (.getfield 24, 3) := by decide +kernel
theorem dX11_refuse_31 : decode cX11_refuse 31 = .ok (.arraylength, 1) := by decide +kernel
theorem dX11_refuse_32 : decode cX11_refuse 32 = .ok (.if_icmp .ge 13, 3) := by decide +kernel
theorem dX11_refuse_35 : decode cX11_refuse 35 = .ok (.aload_n 0, 1) := by decide +kernel
theorem dX11_refuse_36 : decode cX11_refuse 36 = .ok (.getfield 24, 3) := by decide +kernel
theorem dX11_refuse_39 : decode cX11_refuse 39 = .ok (.iload_n 2, 1) := by decide +kernel
theorem dX11_refuse_40 : decode cX11_refuse 40 = .ok (.dup2, 1) := by decide +kernel
theorem dX11_refuse_41 : decode cX11_refuse 41 = .ok (.iaload, 1) := by decide +kernel
theorem dX11_refuse_42 : decode cX11_refuse 42 = .ok (.iconst 1, 1) := by decide +kernel
theorem dX11_refuse_43 : decode cX11_refuse 43 = .ok (.iadd, 1) := by decide +kernel
theorem dX11_refuse_44 : decode cX11_refuse 44 = .ok (.iastore, 1) := by decide +kernel
theorem dX11_refuse_45 : decode cX11_refuse 45 = .ok (.iload_n 1, 1) := by decide +kernel
theorem dX11_refuse_46 : decode cX11_refuse 46 = .ok (.ireturn, 1) := by decide +kernel
set_option maxHeartbeats 4000000 in
set_option maxRecDepth 100000 in
theorem c_X11_refuse (l : Launch) (E : Nat → ClassId) (D : va_G) (G : th_G) (h0 : Nat) (hG0 : G h0 = some (15, 0)) (x1 : Int32) : Met l yX11_refuse (tb (.code yX11_refuse cX11_refuse 3 (some .int))) (rm 0) (va_Pc [.ref h0, .int x1] (th_P E D G)) (QI E D G (fun r => (r : Int32) = x1)) 0 0 (th_A G) := by
  refine Met.ofW (cc := cX11_refuse) (maxL := 3) (ret := (some .int)) (by decide) rfl ?_
  intro p e s m args below meth c s₁ B hml hv
  obtain ⟨hav, hI, hN, hK⟩ := hv
  have hx := B.exec
  have hb := B.bytes
  have hr := B.returns
  have hts := atoms_spec (ws := tb (.code yX11_refuse cX11_refuse 3 (some .int))) B.pre
  have hown : s.vm.findClass RX11 = some m.cls := findClass_of_methodNamed B.named
  have hlocks := B.notSynchronized
  have hS : va_S (th_A G) s.heap s.heap [] := va_S.rf
  have hl := lv_entry ([.ref h0, .int x1]) (n := 3) (Nat.le_of_ble_eq_true rfl)
  rw [show entryFrame m args 3 = entryFrame m ([.ref h0, .int x1] : List Value).toArray 3 from by rw [hav], lg_entry_eq]
  generalize (lg_sl ([.ref h0, .int x1]) ++ List.replicate (3 - (lg_sl ([.ref h0, .int x1])).length) Slot.unset).toArray = ls at hl ⊢
  have hl : lv_has ls 3 [(0, .ref h0), (1, .int x1)] := hl
  generalize hR : (headSpec (tb (.code yX11_refuse cX11_refuse 3 (some .int))) (rm 0)).room = R
  have hR := hR.symm
  generalize hQ : MQ below (QI E D G (fun r => (r : Int32) = x1)) args s 0 0 (th_A G) = QF
  have hQ := hQ.symm
  have J_21 : ∀ (H : Heap) (locs : List Loc) (ls : Array Slot) (x367 : Int32), lv_has ls 3 [(0, .ref h0), (1, .int x1)] → ((-2147483648 : Int) ≤ x367.toInt ∧ x367.toInt ≤ 2147483646) → th_I (okC E) D G [] H → va_S (th_A G) s.heap H locs → W p l e R s m args below meth c H locs 0 0 QF (F0 m 21 ls [.int x367]) := by
    intro H locs ls x367 hl k368 hI hS
    refine lv_istore_n (lv' := [(2, .int x367), (0, .ref h0), (1, .int x1)]) hx hb dX11_refuse_21 rfl hl (by decide) rfl (fun ls hl => ?_)
    refine lv_iload_n hx hb dX11_refuse_22 rfl (lv_at hl 0 rfl) ?_
    refine lv_if_lt (tgt := 45) hx hb dX11_refuse_23 (by decide) (fun c369 => ?_) (fun c369 => ?_)
    · skip
      have k370 := iv_lt (X := x367.toInt) (Y := (0)) rfl (by decide) c369
      refine lv_iload_n hx hb dX11_refuse_45 rfl (lv_at hl 2 rfl) ?_
      have hpost : (x1 : Int32) = x1 := rfl
      rw [hQ]
      exact W.iret (v := x1) hx hb hr (fun t ht hW => ⟨⟨x1, (), rfl, hpost, by rw [ht]; exact hI, hN.warm hW, va_K.moved hW.alike hK⟩, hS.F ht⟩) hS.2.2 dX11_refuse_46
    · skip
      have k371 := iv_nlt (X := x367.toInt) (Y := (0)) rfl (by decide) c369
      refine lv_iload_n hx hb dX11_refuse_26 rfl (lv_at hl 0 rfl) ?_
      refine lv_aload_n hx hb dX11_refuse_27 rfl (lv_at hl 1 rfl) ?_
      obtain ⟨q372, q374, q376, q378, q380, q382, q384, q386, q388, q390, q392, q394, z396, z399, z400, z401, z402, hO, hq373, hq375, hq377, hq379, hq381, hq383, hq385, hq387, hq389, hq391, hq393, hq395, ⟨k397, k398⟩⟩ := op_15 hI hG0 List.not_mem_nil
      have hI := th_I.weak (a := h0) hI
      refine th_get hx hb hts inT11 hown hK hO rfl 3 (by decide) (hts _ (tb_c wd_348)) rfl rfl dX11_refuse_28 ?_
      obtain ⟨_, hA403⟩ := op_0 hI hq379 (th_ne hG0 hq379 (by decide))
      refine va_alen hx hb hK (th_one hA403) 0 0 rfl (v := 5) rfl (by decide) dX11_refuse_31 ?_
      refine lv_icmp_ge (tgt := 45) hx hb dX11_refuse_32 (by decide) (fun c404 => ?_) (fun c404 => ?_)
      · skip
        have k405 := iv_le (X := (5)) (Y := x367.toInt) (by decide) rfl c404
        refine lv_iload_n hx hb dX11_refuse_45 rfl (lv_at hl 2 rfl) ?_
        have hI := th_I.close hI hG0 hO (ok_15 hq373 hq375 hq377 hq379 hq381 hq383 hq385 hq387 hq389 hq391 hq393 hq395 ⟨by omega, by omega⟩)
        have hpost : (x1 : Int32) = x1 := rfl
        rw [hQ]
        exact W.iret (v := x1) hx hb hr (fun t ht hW => ⟨⟨x1, (), rfl, hpost, by rw [ht]; exact hI, hN.warm hW, va_K.moved hW.alike hK⟩, hS.F ht⟩) hS.2.2 dX11_refuse_46
      · skip
        have k406 := iv_nle (X := (5)) (Y := x367.toInt) (by decide) rfl c404
        refine lv_aload_n hx hb dX11_refuse_35 rfl (lv_at hl 1 rfl) ?_
        refine th_get hx hb hts inT11 hown hK hO rfl 3 (by decide) (hts _ (tb_c wd_348)) rfl rfl dX11_refuse_36 ?_
        refine lv_iload_n hx hb dX11_refuse_39 rfl (lv_at hl 0 rfl) ?_
        refine lv_dup2_11 hx hb dX11_refuse_40 rfl rfl ?_
        obtain ⟨_, hA407⟩ := op_0 hI hq379 (th_ne hG0 hq379 (by decide))
        refine th_iald hx hb hK hA407 0 rfl (iv_in (X := x367.toInt) rfl (by omega) (by omega)) dX11_refuse_41 (fun x408 _ => ?_)
        refine lv_iconst (v := 1) hx hb dX11_refuse_42 (by decide) ?_
        refine lv_iadd hx hb dX11_refuse_43 ?_
        refine lv_topi (fun x409 e410 => ?_)
        try have tx409 : x409.toInt = x408.toInt + (1) := iv_add rfl (by decide) e410 (by omega) (by omega)
        obtain ⟨_, hA411⟩ := op_0 hI hq379 (th_ne hG0 hq379 (by decide))
        refine th_iast hx hb hK hA411 0 rfl hS ⟨_, hq379⟩ (iv_in (X := x367.toInt) rfl (by omega) (by omega)) dX11_refuse_44 (fun H locs hA411 oq hS => ?_)
        have hI := th_I.put hI hq379 hA411 ok_0 oq
        have hO := hO.kept (oq _ (fun z => th_ne hG0 hq379 (by decide) (List.mem_singleton.mpr z.symm)))
        refine lv_iload_n hx hb dX11_refuse_45 rfl (lv_at hl 2 rfl) ?_
        have hI := th_I.close hI hG0 hO (ok_15 hq373 hq375 hq377 hq379 hq381 hq383 hq385 hq387 hq389 hq391 hq393 hq395 ⟨by omega, by omega⟩)
        have hpost : (x1 : Int32) = x1 := rfl
        rw [hQ]
        exact W.iret (v := x1) hx hb hr (fun t ht hW => ⟨⟨x1, (), rfl, hpost, by rw [ht]; exact hI, hN.warm hW, va_K.moved hW.alike hK⟩, hS.F ht⟩) hS.2.2 dX11_refuse_46
  refine lv_aload_n hx hb dX11_refuse_0 rfl (lv_at hl 0 rfl) ?_
  refine lv_iload_n hx hb dX11_refuse_1 rfl (lv_at hl 1 rfl) ?_
  obtain ⟨q412, q414, q416, q418, q420, q422, q424, q426, q428, q430, q432, q434, z436, z439, z440, z441, z442, hO, hq413, hq415, hq417, hq419, hq421, hq423, hq425, hq427, hq429, hq431, hq433, hq435, ⟨k437, k438⟩⟩ := op_15 hI hG0 List.not_mem_nil
  have hI := th_I.weak (a := h0) hI
  refine th_put (ty := .int) hx hb hts inT11 tyX11 tyX11_ok nmX11 hown hK hO hS ⟨_, hG0⟩ rfl 15 (by decide) (hts _ (tb_c wd_360)) rfl rfl (by decide +kernel) rfl rfl (Nat.le_of_ble_eq_true rfl) dX11_refuse_2 (fun H locs hO oq hS => ?_)
  have hI := th_I.moved hI oq
  have hO : va_at D vwCl (h0, .inr (11, [.ref q412, .ref q414, .ref q416, .ref q418, .ref q420, .ref q422, .ref q424, .ref q426, .ref q428, .ref q430, .ref q432, .ref q434, .int z436, .int z439, .int z440, .int x1, .int z442])) H := hO
  refine lv_iload_n hx hb dX11_refuse_5 rfl (lv_at hl 1 rfl) ?_
  refine lv_bipush (v := (-3)) hx hb dX11_refuse_6 (by decide) ?_
  refine lv_icmp_lt (tgt := 17) hx hb dX11_refuse_8 (by decide) (fun c443 => ?_) (fun c443 => ?_)
  · skip
    have k444 := iv_lt (X := x1.toInt) (Y := (-3)) rfl (by decide) c443
    refine lv_bipush (v := (-2)) hx hb dX11_refuse_17 (by decide) ?_
    refine lv_iload_n hx hb dX11_refuse_19 rfl (lv_at hl 1 rfl) ?_
    refine lv_isub hx hb dX11_refuse_20 ?_
    refine lv_topi (fun x445 e446 => ?_)
    have tx445 : x445.toInt = (-2) - x1.toInt := iv_sub (by decide) rfl e446 (by omega) (by omega)
    have hI := th_I.close hI hG0 hO (ok_15 hq413 hq415 hq417 hq419 hq421 hq423 hq425 hq427 hq429 hq431 hq433 hq435 ⟨by omega, by omega⟩)
    exact J_21 H locs ls x445 (lv_sub hl [0, 1] rfl) ⟨by omega, by omega⟩ hI hS
  · skip
    have k447 := iv_nlt (X := x1.toInt) (Y := (-3)) rfl (by decide) c443
    refine lv_iconst (v := (-1)) hx hb dX11_refuse_11 (by decide) ?_
    refine lv_iload_n hx hb dX11_refuse_12 rfl (lv_at hl 1 rfl) ?_
    refine lv_isub hx hb dX11_refuse_13 ?_
    refine lv_topi (fun x448 e449 => ?_)
    have tx448 : x448.toInt = (-1) - x1.toInt := iv_sub (by decide) rfl e449 (by omega) (by omega)
    refine lv_goto (tgt := 21) hx hb dX11_refuse_14 (by decide) ?_
    have hI := th_I.close hI hG0 hO (ok_15 hq413 hq415 hq417 hq419 hq421 hq423 hq425 hq427 hq429 hq431 hq433 hq435 ⟨by omega, by omega⟩)
    exact J_21 H locs ls x448 (lv_sub hl [0, 1] rfl) ⟨by omega, by omega⟩ hI hS
theorem dX11_write_0 : decode cX11_write 0 = .ok (.bipush 24, 2) := by decide +kernel
theorem dX11_write_2 : decode cX11_write 2 = .ok (.istore_n 2, 1) := by decide +kernel
theorem dX11_write_3 : decode cX11_write 3 = .ok (.iload_n 2, 1) := by decide +kernel
theorem dX11_write_4 : decode cX11_write 4 = .ok (.ifCond .lt 45, 3) := by decide +kernel
theorem dX11_write_7 : decode cX11_write 7 = .ok (.aload_n 0, 1) := by decide +kernel
theorem dX11_write_8 : decode cX11_write 8 = .ok (.getfield 89, 3) := by decide +kernel
theorem dX11_write_11 : decode cX11_write 11 = .ok (.sipush 400, 3) := by decide +kernel
theorem dX11_write_14 : decode cX11_write 14 = .ok (.if_icmp .ge 35, 3) := by decide +kernel
theorem dX11_write_17 : decode cX11_write 17 = .ok (.aload_n 0, 1) := by decide +kernel
theorem dX11_write_18 : decode cX11_write 18 = .ok (.getfield 20, 3) := by decide +kernel
theorem dX11_write_21 : decode cX11_write 21 = .ok (.aload_n 0, 1) := by decide +kernel
theorem dX11_write_22 : decode cX11_write 22 = .ok (.getfield 89, 3) := by decide +kernel
theorem dX11_write_25 : decode cX11_write 25 = .ok (.iload_n 1, 1) := by decide +kernel
theorem dX11_write_26 : decode cX11_write 26 = .ok (.iload_n 2, 1) := by decide +kernel
theorem dX11_write_27 : decode cX11_write 27 = .ok (.ishr, 1) := by decide +kernel
theorem dX11_write_28 : decode cX11_write 28 = .ok (.sipush 255, 3) := by decide +kernel
theorem dX11_write_31 : decode cX11_write 31 = .ok (.iand, 1) := by decide +kernel
theorem dX11_write_32 : decode cX11_write 32 = .ok (.iastore, 1) := by decide +kernel
theorem dX11_write_33 : decode cX11_write 33 = .ok (.aload_n 0, 1) := by decide +kernel
theorem dX11_write_34 : decode cX11_write 34 = .ok (.dup, 1) := by decide +kernel
theorem dX11_write_35 : decode cX11_write 35 = .ok (.getfield 89, 3) := by decide +kernel
theorem dX11_write_38 : decode cX11_write 38 = .ok (.iconst 1, 1) := by decide +kernel
theorem dX11_write_39 : decode cX11_write 39 = .ok (.iadd, 1) := by decide +kernel
theorem dX11_write_40 : decode cX11_write 40 = .ok (.putfield 89, 3) := by decide +kernel
theorem dX11_write_43 : decode cX11_write 43 = .ok (.iinc 2 (-8), 3) := by decide +kernel
theorem dX11_write_46 : decode cX11_write 46 = .ok (.goto (-43), 3) := by decide +kernel
theorem dX11_write_49 : decode cX11_write 49 = .ok (.return_, 1) := by decide +kernel
set_option maxHeartbeats 4000000 in
set_option maxRecDepth 100000 in
theorem c_X11_write (l : Launch) (E : Nat → ClassId) (D : va_G) (G : th_G) (h0 : Nat) (hG0 : G h0 = some (15, 0)) (x1 : Int32) : Met l yX11_write (tb (.code yX11_write cX11_write 3 none)) (rm 0) (va_Pc [.ref h0, .int x1] (th_P E D G)) (QV E D G) 0 0 (th_A G) := by
  refine Met.ofW (cc := cX11_write) (maxL := 3) (ret := none) (by decide) rfl ?_
  intro p e s m args below meth c s₁ B hml hv
  obtain ⟨hav, hI, hN, hK⟩ := hv
  have hx := B.exec
  have hb := B.bytes
  have hr := B.returns
  have hts := atoms_spec (ws := tb (.code yX11_write cX11_write 3 none)) B.pre
  have hown : s.vm.findClass RX11 = some m.cls := findClass_of_methodNamed B.named
  have hlocks := B.notSynchronized
  have hS : va_S (th_A G) s.heap s.heap [] := va_S.rf
  have hl := lv_entry ([.ref h0, .int x1]) (n := 3) (Nat.le_of_ble_eq_true rfl)
  rw [show entryFrame m args 3 = entryFrame m ([.ref h0, .int x1] : List Value).toArray 3 from by rw [hav], lg_entry_eq]
  generalize (lg_sl ([.ref h0, .int x1]) ++ List.replicate (3 - (lg_sl ([.ref h0, .int x1])).length) Slot.unset).toArray = ls at hl ⊢
  have hl : lv_has ls 3 [(0, .ref h0), (1, .int x1)] := hl
  generalize hR : (headSpec (tb (.code yX11_write cX11_write 3 none)) (rm 0)).room = R
  have hR := hR.symm
  generalize hQ : MQ below (QV E D G) args s 0 0 (th_A G) = QF
  have hQ := hQ.symm
  have J_3 : ∀ (nn : Nat) (H : Heap) (locs : List Loc) (ls : Array Slot) (x373 : Int32), (x373.toInt - (-8) < (nn : Int)) → lv_has ls 3 [(2, .int x373), (0, .ref h0), (1, .int x1)] → ((-8 : Int) ≤ x373.toInt ∧ x373.toInt ≤ 24) → th_I (okC E) D G [] H → va_S (th_A G) s.heap H locs → W p l e R s m args below meth c H locs 0 0 QF (F0 m 3 ls []) := by
    intro nn
    induction nn with
    | zero =>
      intro H locs ls x373 hm hl k374 hI hS
      exfalso; omega
    | succ nn ih_3 =>
      intro H locs ls x373 hm hl k374 hI hS
      refine lv_iload_n hx hb dX11_write_3 rfl (lv_at hl 0 rfl) ?_
      refine lv_if_lt (tgt := 49) hx hb dX11_write_4 (by decide) (fun c375 => ?_) (fun c375 => ?_)
      · skip
        have k376 := iv_lt (X := x373.toInt) (Y := (0)) rfl (by decide) c375
        rw [hQ]
        exact W.vret hx hb hr (fun t ht hW => ⟨⟨(), rfl, trivial, by rw [ht]; exact hI, hN.warm hW, va_K.moved hW.alike hK⟩, hS.F ht⟩) hS.2.2 dX11_write_49
      · skip
        have k377 := iv_nlt (X := x373.toInt) (Y := (0)) rfl (by decide) c375
        refine lv_aload_n hx hb dX11_write_7 rfl (lv_at hl 1 rfl) ?_
        obtain ⟨q378, q380, q382, q384, q386, q388, q390, q392, q394, q396, q398, q400, z402, z405, z406, z407, z408, hO, hq379, hq381, hq383, hq385, hq387, hq389, hq391, hq393, hq395, hq397, hq399, hq401, ⟨k403, k404⟩⟩ := op_15 hI hG0 List.not_mem_nil
        have hI := th_I.weak (a := h0) hI
        refine th_get hx hb hts inT11 hown hK hO rfl 12 (by decide) (hts _ (tb_c wd_357)) rfl rfl dX11_write_8 ?_
        refine lv_sipush (v := 400) hx hb dX11_write_11 (by decide) ?_
        refine lv_icmp_ge (tgt := 49) hx hb dX11_write_14 (by decide) (fun c409 => ?_) (fun c409 => ?_)
        · skip
          have k410 := iv_le (X := (400)) (Y := z402.toInt) (by decide) rfl c409
          have hI := th_I.close hI hG0 hO (ok_15 hq379 hq381 hq383 hq385 hq387 hq389 hq391 hq393 hq395 hq397 hq399 hq401 ⟨by omega, by omega⟩)
          rw [hQ]
          exact W.vret hx hb hr (fun t ht hW => ⟨⟨(), rfl, trivial, by rw [ht]; exact hI, hN.warm hW, va_K.moved hW.alike hK⟩, hS.F ht⟩) hS.2.2 dX11_write_49
        · skip
          have k411 := iv_nle (X := (400)) (Y := z402.toInt) (by decide) rfl c409
          refine lv_aload_n hx hb dX11_write_17 rfl (lv_at hl 1 rfl) ?_
          refine th_get hx hb hts inT11 hown hK hO rfl 2 (by decide) (hts _ (tb_c wd_347)) rfl rfl dX11_write_18 ?_
          refine lv_aload_n hx hb dX11_write_21 rfl (lv_at hl 1 rfl) ?_
          refine th_get hx hb hts inT11 hown hK hO rfl 12 (by decide) (hts _ (tb_c wd_357)) rfl rfl dX11_write_22 ?_
          refine lv_iload_n hx hb dX11_write_25 rfl (lv_at hl 2 rfl) ?_
          refine lv_iload_n hx hb dX11_write_26 rfl (lv_at hl 0 rfl) ?_
          refine lv_ishr hx hb dX11_write_27 ?_
          refine lv_topi (fun x412 e413 => ?_)
          refine lv_sipush (v := 255) hx hb dX11_write_28 (by decide) ?_
          refine lv_iand hx hb dX11_write_31 ?_
          refine lv_topi (fun x414 e415 => ?_)
          have tx414 := iv_andr (m := 255) (M := 255) e415 (by decide) (by decide)
          obtain ⟨_, hA416⟩ := op_0 hI hq383 (th_ne hG0 hq383 (by decide))
          refine th_iast hx hb hK hA416 0 rfl hS ⟨_, hq383⟩ (iv_in (X := z402.toInt) rfl (by omega) (by omega)) dX11_write_32 (fun H locs hA416 oq hS => ?_)
          have hI := th_I.put hI hq383 hA416 ok_0 oq
          have hO := hO.kept (oq _ (fun z => th_ne hG0 hq383 (by decide) (List.mem_singleton.mpr z.symm)))
          refine lv_aload_n hx hb dX11_write_33 rfl (lv_at hl 1 rfl) ?_
          refine lv_dup hx hb dX11_write_34 rfl ?_
          refine th_get hx hb hts inT11 hown hK hO rfl 12 (by decide) (hts _ (tb_c wd_357)) rfl rfl dX11_write_35 ?_
          refine lv_iconst (v := 1) hx hb dX11_write_38 (by decide) ?_
          refine lv_iadd hx hb dX11_write_39 ?_
          refine lv_topi (fun x417 e418 => ?_)
          have tx417 : x417.toInt = z402.toInt + (1) := iv_add rfl (by decide) e418 (by omega) (by omega)
          refine th_put (ty := .int) hx hb hts inT11 tyX11 tyX11_ok nmX11 hown hK hO hS ⟨_, hG0⟩ rfl 12 (by decide) (hts _ (tb_c wd_357)) rfl rfl (by decide +kernel) rfl rfl (Nat.le_of_ble_eq_true rfl) dX11_write_40 (fun H locs hO oq hS => ?_)
          have hI := th_I.moved hI oq
          have hO : va_at D vwCl (h0, .inr (11, [.ref q378, .ref q380, .ref q382, .ref q384, .ref q386, .ref q388, .ref q390, .ref q392, .ref q394, .ref q396, .ref q398, .ref q400, .int x417, .int z405, .int z406, .int z407, .int z408])) H := hO
          obtain ⟨x419, e420⟩ : ∃ y : Int32, y = x373 + (-8) := ⟨_, rfl⟩
          have tx419 : x419.toInt = x373.toInt + (-8) := iv_add rfl (by decide) e420 (by omega) (by omega)
          refine lv_iinc (v := x419) (lv' := [(2, .int x419), (0, .ref h0), (1, .int x1)]) hx hb dX11_write_43 hl (k := 0) rfl (by rw [e420]; rfl) (by decide) rfl (fun ls hl => ?_)
          refine lv_goto (tgt := 3) hx hb dX11_write_46 (by decide) ?_
          have hI := th_I.close hI hG0 hO (ok_15 hq379 hq381 hq383 hq385 hq387 hq389 hq391 hq393 hq395 hq397 hq399 hq401 ⟨by omega, by omega⟩)
          exact ih_3 H locs ls x419 (by omega) (lv_sub hl [0, 1, 2] rfl) ⟨by omega, by omega⟩ hI hS
  refine lv_bipush (v := 24) hx hb dX11_write_0 (by decide) ?_
  refine lv_istore_n (lv' := [(2, .int 24), (0, .ref h0), (1, .int x1)]) hx hb dX11_write_2 rfl hl (by decide) rfl (fun ls hl => ?_)
  exact J_3 (Int.toNat ((24) - (-8)) + 1) s.heap [] ls 24 (by omega) (lv_sub hl [0, 1, 2] rfl) ⟨by omega, by omega⟩ hI hS
theorem dX11_end_0 : decode cX11_end 0 = .ok (.iload_n 1, 1) := by decide +kernel
theorem dX11_end_1 : decode cX11_end 1 = .ok (.ifCond .lt 11, 3) := by decide +kernel
theorem dX11_end_4 : decode cX11_end 4 = .ok (.iload_n 1, 1) := by decide +kernel
theorem dX11_end_5 : decode cX11_end 5 = .ok (.aload_n 0, 1) := by decide +kernel
theorem dX11_end_6 : decode cX11_end 6 = .ok (.getfield 89, 3) := by decide +kernel
theorem dX11_end_9 : decode cX11_end 9 = .ok (.if_icmp .le 5, 3) := by decide +kernel
theorem dX11_end_12 : decode cX11_end 12 = .ok (.iconst (-1), 1) := by decide +kernel
theorem dX11_end_13 : decode cX11_end 13 = .ok (.ireturn, 1) := by decide +kernel
theorem dX11_end_14 : decode cX11_end 14 = .ok (.aload_n 0, 1) := by decide +kernel
theorem dX11_end_15 : decode cX11_end 15 = .ok (.iload_n 1, 1) := by decide +kernel
theorem dX11_end_16 : decode cX11_end 16 = .ok (.putfield 89, 3) := by decide +kernel
theorem dX11_end_19 : decode cX11_end 19 = .ok (.iload_n 1, 1) := by decide +kernel
theorem dX11_end_20 : decode cX11_end 20 = .ok (.ireturn, 1) := by decide +kernel
set_option maxHeartbeats 4000000 in
set_option maxRecDepth 100000 in
theorem c_X11_end (l : Launch) (E : Nat → ClassId) (D : va_G) (G : th_G) (h0 : Nat) (hG0 : G h0 = some (15, 0)) (x1 : Int32) : Met l yX11_end (tb (.code yX11_end cX11_end 2 (some .int))) (rm 0) (va_Pc [.ref h0, .int x1] (th_P E D G)) (QI E D G (fun r => True)) 0 0 (th_A G) := by
  refine Met.ofW (cc := cX11_end) (maxL := 2) (ret := (some .int)) (by decide) rfl ?_
  intro p e s m args below meth c s₁ B hml hv
  obtain ⟨hav, hI, hN, hK⟩ := hv
  have hx := B.exec
  have hb := B.bytes
  have hr := B.returns
  have hts := atoms_spec (ws := tb (.code yX11_end cX11_end 2 (some .int))) B.pre
  have hown : s.vm.findClass RX11 = some m.cls := findClass_of_methodNamed B.named
  have hlocks := B.notSynchronized
  have hS : va_S (th_A G) s.heap s.heap [] := va_S.rf
  have hl := lv_entry ([.ref h0, .int x1]) (n := 2) (Nat.le_of_ble_eq_true rfl)
  rw [show entryFrame m args 2 = entryFrame m ([.ref h0, .int x1] : List Value).toArray 2 from by rw [hav], lg_entry_eq]
  generalize (lg_sl ([.ref h0, .int x1]) ++ List.replicate (2 - (lg_sl ([.ref h0, .int x1])).length) Slot.unset).toArray = ls at hl ⊢
  have hl : lv_has ls 2 [(0, .ref h0), (1, .int x1)] := hl
  generalize hR : (headSpec (tb (.code yX11_end cX11_end 2 (some .int))) (rm 0)).room = R
  have hR := hR.symm
  generalize hQ : MQ below (QI E D G (fun r => True)) args s 0 0 (th_A G) = QF
  have hQ := hQ.symm
  refine lv_iload_n hx hb dX11_end_0 rfl (lv_at hl 1 rfl) ?_
  refine lv_if_lt (tgt := 12) hx hb dX11_end_1 (by decide) (fun c1 => ?_) (fun c1 => ?_)
  · skip
    have k2 := iv_lt (X := x1.toInt) (Y := (0)) rfl (by decide) c1
    refine lv_iconst (v := (-1)) hx hb dX11_end_12 (by decide) ?_
    have hpost : True := trivial
    rw [hQ]
    exact W.iret (v := (-1)) hx hb hr (fun t ht hW => ⟨⟨(-1), (), rfl, hpost, by rw [ht]; exact hI, hN.warm hW, va_K.moved hW.alike hK⟩, hS.F ht⟩) hS.2.2 dX11_end_13
  · skip
    have k3 := iv_nlt (X := x1.toInt) (Y := (0)) rfl (by decide) c1
    refine lv_iload_n hx hb dX11_end_4 rfl (lv_at hl 1 rfl) ?_
    refine lv_aload_n hx hb dX11_end_5 rfl (lv_at hl 0 rfl) ?_
    obtain ⟨q4, q6, q8, q10, q12, q14, q16, q18, q20, q22, q24, q26, z28, z31, z32, z33, z34, hO, hq5, hq7, hq9, hq11, hq13, hq15, hq17, hq19, hq21, hq23, hq25, hq27, ⟨k29, k30⟩⟩ := op_15 hI hG0 List.not_mem_nil
    have hI := th_I.weak (a := h0) hI
    refine th_get hx hb hts inT11 hown hK hO rfl 12 (by decide) (hts _ (tb_c wd_357)) rfl rfl dX11_end_6 ?_
    refine lv_icmp_le (tgt := 14) hx hb dX11_end_9 (by decide) (fun c35 => ?_) (fun c35 => ?_)
    · skip
      have k36 := iv_le (X := x1.toInt) (Y := z28.toInt) rfl rfl c35
      refine lv_aload_n hx hb dX11_end_14 rfl (lv_at hl 0 rfl) ?_
      refine lv_iload_n hx hb dX11_end_15 rfl (lv_at hl 1 rfl) ?_
      refine th_put (ty := .int) hx hb hts inT11 tyX11 tyX11_ok nmX11 hown hK hO hS ⟨_, hG0⟩ rfl 12 (by decide) (hts _ (tb_c wd_357)) rfl rfl (by decide +kernel) rfl rfl (Nat.le_of_ble_eq_true rfl) dX11_end_16 (fun H locs hO oq hS => ?_)
      have hI := th_I.moved hI oq
      have hO : va_at D vwCl (h0, .inr (11, [.ref q4, .ref q6, .ref q8, .ref q10, .ref q12, .ref q14, .ref q16, .ref q18, .ref q20, .ref q22, .ref q24, .ref q26, .int x1, .int z31, .int z32, .int z33, .int z34])) H := hO
      refine lv_iload_n hx hb dX11_end_19 rfl (lv_at hl 1 rfl) ?_
      have hI := th_I.close hI hG0 hO (ok_15 hq5 hq7 hq9 hq11 hq13 hq15 hq17 hq19 hq21 hq23 hq25 hq27 ⟨by omega, by omega⟩)
      have hpost : True := trivial
      rw [hQ]
      exact W.iret (v := x1) hx hb hr (fun t ht hW => ⟨⟨x1, (), rfl, hpost, by rw [ht]; exact hI, hN.warm hW, va_K.moved hW.alike hK⟩, hS.F ht⟩) hS.2.2 dX11_end_20
    · skip
      have k37 := iv_nle (X := x1.toInt) (Y := z28.toInt) rfl rfl c35
      refine lv_iconst (v := (-1)) hx hb dX11_end_12 (by decide) ?_
      have hI := th_I.close hI hG0 hO (ok_15 hq5 hq7 hq9 hq11 hq13 hq15 hq17 hq19 hq21 hq23 hq25 hq27 ⟨by omega, by omega⟩)
      have hpost : True := trivial
      rw [hQ]
      exact W.iret (v := (-1)) hx hb hr (fun t ht hW => ⟨⟨(-1), (), rfl, hpost, by rw [ht]; exact hI, hN.warm hW, va_K.moved hW.alike hK⟩, hS.F ht⟩) hS.2.2 dX11_end_13
theorem dX11_of_0 : decode cX11_of 0 = .ok (.iload_n 1, 1) := by decide +kernel
theorem dX11_of_1 : decode cX11_of 1 = .ok (.invokestatic 117, 3) := by decide +kernel
theorem dX11_of_4 : decode cX11_of 4 = .ok (.ifCond .eq 24, 3) := by decide +kernel
theorem dX11_of_7 : decode cX11_of 7 = .ok (.iload_n 2, 1) := by decide +kernel
theorem dX11_of_8 : decode cX11_of 8 = .ok (.ifCond .lt 20, 3) := by decide +kernel
theorem dX11_of_11 : decode cX11_of 11 = .ok (.iload_n 2, 1) := by decide +kernel
theorem dX11_of_12 : decode cX11_of 12 = .ok (.iconst 5, 1) := by decide +kernel
theorem dX11_of_13 : decode cX11_of 13 = .ok (.if_icmp .ge 15, 3) := by decide +kernel
theorem dX11_of_16 : decode cX11_of 16 = .ok (.aload_n 0, 1) := by decide +kernel
theorem dX11_of_17 : decode cX11_of 17 = .ok (.getfield 12, 3) := by decide +kernel
theorem dX11_of_20 : decode cX11_of 20 = .ok (.iload_n 1, 1) := by decide +kernel
theorem dX11_of_21 : decode cX11_of 21 = .ok (.iload_n 2, 1) := by decide +kernel
theorem dX11_of_22 : decode cX11_of 22 = .ok (.invokevirtual 130, 3) := by decide +kernel
theorem dX11_of_25 : decode cX11_of 25 = .ok (.goto 4, 3) := by decide +kernel
theorem dX11_of_28 : decode cX11_of 28 = .ok (.iconst (-1), 1) := by decide +kernel
theorem dX11_of_29 : decode cX11_of 29 = .ok (.ireturn, 1) := by decide +kernel
set_option maxHeartbeats 4000000 in
set_option maxRecDepth 100000 in
theorem c_X11_of (l : Launch) (E : Nat → ClassId) (D : va_G) (G : th_G) (h0 : Nat) (hG0 : G h0 = some (15, 0)) (x1 x2 : Int32) : Met l yX11_of (tb (.code yX11_of cX11_of 3 (some .int))) (rm 2) (va_Pc [.ref h0, .int x1, .int x2] (th_P E D G)) (QI E D G (fun r => True)) 0 0 (th_A G) := by
  refine Met.ofW (cc := cX11_of) (maxL := 3) (ret := (some .int)) (by decide) rfl ?_
  intro p e s m args below meth c s₁ B hml hv
  obtain ⟨hav, hI, hN, hK⟩ := hv
  have hx := B.exec
  have hb := B.bytes
  have hr := B.returns
  have hts := atoms_spec (ws := tb (.code yX11_of cX11_of 3 (some .int))) B.pre
  have hown : s.vm.findClass RX11 = some m.cls := findClass_of_methodNamed B.named
  have hlocks := B.notSynchronized
  have hS : va_S (th_A G) s.heap s.heap [] := va_S.rf
  have hl := lv_entry ([.ref h0, .int x1, .int x2]) (n := 3) (Nat.le_of_ble_eq_true rfl)
  rw [show entryFrame m args 3 = entryFrame m ([.ref h0, .int x1, .int x2] : List Value).toArray 3 from by rw [hav], lg_entry_eq]
  generalize (lg_sl ([.ref h0, .int x1, .int x2]) ++ List.replicate (3 - (lg_sl ([.ref h0, .int x1, .int x2])).length) Slot.unset).toArray = ls at hl ⊢
  have hl : lv_has ls 3 [(0, .ref h0), (1, .int x1), (2, .int x2)] := hl
  generalize hR : (headSpec (tb (.code yX11_of cX11_of 3 (some .int))) (rm 2)).room = R
  have hR := hR.symm
  generalize hQ : MQ below (QI E D G (fun r => True)) args s 0 0 (th_A G) = QF
  have hQ := hQ.symm
  refine lv_iload_n hx hb dX11_of_0 rfl (lv_at hl 1 rfl) ?_
  refine th_cSs (As := [.int x1]) (rest := []) (d := 0) ⟨hx, hb, hml, hown, hts⟩ (c_X11_isPump l s.heap x1) wd_411 wd_412 wd_1 wd_413 (by decide +kernel) ⟨by rw [hR]; exact Nat.le_of_ble_eq_true rfl, by rw [hR]; exact Nat.le_of_ble_eq_true rfl⟩ hN hS rfl hl.1 rfl (Nat.le_of_ble_eq_true rfl) dX11_of_1 ⟨Nat.zero_le _, Nat.zero_le _⟩ (fun r1 locs hp hS => ?_)
  rcases hp with ⟨rfl, hp⟩ | ⟨rfl, hp⟩
  · skip
    try simp only [rg, not_and, Int.not_le] at hp
    have hp2 := hp
    refine lv_if_eq (tgt := 28) hx hb dX11_of_4 (by decide) (fun c => absurd c (by decide)) (fun _ => ?_)
    refine lv_iload_n hx hb dX11_of_7 rfl (lv_at hl 2 rfl) ?_
    refine lv_if_lt (tgt := 28) hx hb dX11_of_8 (by decide) (fun c3 => ?_) (fun c3 => ?_)
    · skip
      have k4 := iv_lt (X := x2.toInt) (Y := (0)) rfl (by decide) c3
      refine lv_iconst (v := (-1)) hx hb dX11_of_28 (by decide) ?_
      have hpost : True := trivial
      rw [hQ]
      exact W.iret (v := (-1)) hx hb hr (fun t ht hW => ⟨⟨(-1), (), rfl, hpost, by rw [ht]; exact hI, hN.warm hW, va_K.moved hW.alike hK⟩, hS.F ht⟩) hS.2.2 dX11_of_29
    · skip
      have k5 := iv_nlt (X := x2.toInt) (Y := (0)) rfl (by decide) c3
      refine lv_iload_n hx hb dX11_of_11 rfl (lv_at hl 2 rfl) ?_
      refine lv_iconst (v := 5) hx hb dX11_of_12 (by decide) ?_
      refine lv_icmp_ge (tgt := 28) hx hb dX11_of_13 (by decide) (fun c6 => ?_) (fun c6 => ?_)
      · skip
        have k7 := iv_le (X := (5)) (Y := x2.toInt) (by decide) rfl c6
        refine lv_iconst (v := (-1)) hx hb dX11_of_28 (by decide) ?_
        have hpost : True := trivial
        rw [hQ]
        exact W.iret (v := (-1)) hx hb hr (fun t ht hW => ⟨⟨(-1), (), rfl, hpost, by rw [ht]; exact hI, hN.warm hW, va_K.moved hW.alike hK⟩, hS.F ht⟩) hS.2.2 dX11_of_29
      · skip
        have k8 := iv_nle (X := (5)) (Y := x2.toInt) (by decide) rfl c6
        refine lv_aload_n hx hb dX11_of_16 rfl (lv_at hl 0 rfl) ?_
        obtain ⟨q9, q11, q13, q15, q17, q19, q21, q23, q25, q27, q29, q31, z33, z36, z37, z38, z39, hO, hq10, hq12, hq14, hq16, hq18, hq20, hq22, hq24, hq26, hq28, hq30, hq32, ⟨k34, k35⟩⟩ := op_15 hI hG0 List.not_mem_nil
        have hI := th_I.weak (a := h0) hI
        refine th_get hx hb hts inT11 hown hK hO rfl 0 (by decide) (hts _ (tb_c wd_345)) rfl rfl dX11_of_17 ?_
        refine lv_iload_n hx hb dX11_of_20 rfl (lv_at hl 1 rfl) ?_
        refine lv_iload_n hx hb dX11_of_21 rfl (lv_at hl 2 rfl) ?_
        have hI := th_I.close hI hG0 hO (ok_15 hq10 hq12 hq14 hq16 hq18 hq20 hq22 hq24 hq26 hq28 hq30 hq32 ⟨by omega, by omega⟩)
        refine th_cVi (As := [.int x1, .int x2]) (rest := []) (d := 1) ⟨hx, hb, hml, hown, hts⟩ (c_X6_pumpPart l E D G q9 hq10 x1 x2) wd_455 wd_456 wd_457 wd_2 wd_458 (by decide +kernel) ⟨by rw [hR]; exact Nat.le_of_ble_eq_true rfl, by rw [hR]; exact Nat.le_of_ble_eq_true rfl⟩ hI hN hK hS (rc_6 hI hq10 List.not_mem_nil) rfl rfl hl.1 rfl (Nat.le_of_ble_eq_true rfl) dX11_of_22 ⟨Nat.zero_le _, Nat.zero_le _⟩ (fun r40 H locs hp hI hS => ?_)
        refine lv_goto (tgt := 29) hx hb dX11_of_25 (by decide) ?_
        have hpost : True := trivial
        rw [hQ]
        exact W.iret (v := r40) hx hb hr (fun t ht hW => ⟨⟨r40, (), rfl, hpost, by rw [ht]; exact hI, hN.warm hW, va_K.moved hW.alike hK⟩, hS.F ht⟩) hS.2.2 dX11_of_29
  · skip
    try simp only [rg, not_and, Int.not_le] at hp
    have hp41 := hp
    refine lv_if_eq (tgt := 28) hx hb dX11_of_4 (by decide) (fun _ => ?_) (fun c => absurd c (by decide))
    refine lv_iconst (v := (-1)) hx hb dX11_of_28 (by decide) ?_
    have hpost : True := trivial
    rw [hQ]
    exact W.iret (v := (-1)) hx hb hr (fun t ht hW => ⟨⟨(-1), (), rfl, hpost, by rw [ht]; exact hI, hN.warm hW, va_K.moved hW.alike hK⟩, hS.F ht⟩) hS.2.2 dX11_of_29
theorem dX11_pump_0 : decode cX11_pump 0 = .ok (.iload_n 2, 1) := by decide +kernel
theorem dX11_pump_1 : decode cX11_pump 1 = .ok (.invokestatic 106, 3) := by decide +kernel
theorem dX11_pump_4 : decode cX11_pump 4 = .ok (.ifCond .eq 43, 3) := by decide +kernel
theorem dX11_pump_7 : decode cX11_pump 7 = .ok (.iload_n 3, 1) := by decide +kernel
theorem dX11_pump_8 : decode cX11_pump 8 = .ok (.invokestatic 106, 3) := by decide +kernel
theorem dX11_pump_11 : decode cX11_pump 11 = .ok (.ifCond .eq 36, 3) := by decide +kernel
theorem dX11_pump_14 : decode cX11_pump 14 = .ok (.iload_n 3, 1) := by decide +kernel
theorem dX11_pump_15 : decode cX11_pump 15 = .ok (.iload_n 2, 1) := by decide +kernel
theorem dX11_pump_16 : decode cX11_pump 16 = .ok (.if_icmp .lt 31, 3) := by decide +kernel
theorem dX11_pump_19 : decode cX11_pump 19 = .ok (.iload 4, 2) := by decide +kernel
theorem dX11_pump_21 : decode cX11_pump 21 = .ok (.invokestatic 110, 3) := by decide +kernel
theorem dX11_pump_24 : decode cX11_pump 24 = .ok (.ifCond .eq 23, 3) := by decide +kernel
theorem dX11_pump_27 : decode cX11_pump 27 = .ok (.iload 5, 2) := by decide +kernel
theorem dX11_pump_29 : decode cX11_pump 29 = .ok (.invokestatic 110, 3) := by decide +kernel
theorem dX11_pump_32 : decode cX11_pump 32 = .ok (.ifCond .eq 15, 3) := by decide +kernel
theorem dX11_pump_35 : decode cX11_pump 35 = .ok (.iload 6, 2) := by decide +kernel
theorem dX11_pump_37 : decode cX11_pump 37 = .ok (.ifCond .lt 10, 3) := by decide +kernel
theorem dX11_pump_40 : decode cX11_pump 40 = .ok (.iload 6, 2) := by decide +kernel
theorem dX11_pump_42 : decode cX11_pump 42 = .ok (.bipush 6, 2) := by decide +kernel
theorem dX11_pump_44 : decode cX11_pump 44 = .ok (.if_icmp .le 9, 3) := by decide +kernel
theorem dX11_pump_47 : decode cX11_pump 47 = .ok (.aload_n 0, 1) := by decide +kernel
theorem dX11_pump_48 : decode cX11_pump 48 = .ok (.iconst (-1), 1) := by decide +kernel
theorem dX11_pump_49 : decode cX11_pump 49 = .ok (.invokevirtual 113, 3) := by decide +kernel
theorem dX11_pump_52 : decode cX11_pump 52 = .ok (.ireturn, 1) := by decide +kernel
theorem dX11_pump_53 : decode cX11_pump 53 = .ok (.iload_n 1, 1) := by decide +kernel
theorem dX11_pump_54 : decode cX11_pump 54 = .ok (.invokestatic 117, 3) := by decide +kernel
theorem dX11_pump_57 : decode cX11_pump 57 = .ok (.ifCond .ne 10, 3) := by decide +kernel
theorem dX11_pump_60 : decode cX11_pump 60 = .ok (.aload_n 0, 1) := by decide +kernel
theorem dX11_pump_61 : decode cX11_pump 61 = .ok (.bipush (-2), 2) := by decide +kernel
theorem dX11_pump_63 : decode cX11_pump 63 = .ok (.invokevirtual 113, 3) := by decide +kernel
theorem dX11_pump_66 : decode cX11_pump 66 = .ok (.ireturn, 1) := by decide +kernel
theorem dX11_pump_67 : decode cX11_pump 67 = .ok (.aload_n 0, 1) := by decide +kernel
theorem dX11_pump_68 : decode cX11_pump 68 = .ok (.getfield 12, 3) := by decide +kernel
theorem dX11_pump_71 : decode cX11_pump 71 = .ok (.iload_n 1, 1) := by decide +kernel
theorem dX11_pump_72 : decode cX11_pump 72 = .ok (.iload_n 2, 1) := by decide +kernel
theorem dX11_pump_73 : decode cX11_pump 73 = .ok (.iload_n 3, 1) := by decide +kernel
theorem dX11_pump_74 : decode cX11_pump 74 = .ok (.iload 4, 2) := by decide +kernel
theorem dX11_pump_76 : decode cX11_pump 76 = .ok (.iload 5, 2) := by decide +kernel
theorem dX11_pump_78 : decode cX11_pump 78 = .ok (.iload 6, 2) := by decide +kernel
theorem dX11_pump_80 : decode cX11_pump 80 = .ok (.invokevirtual 120, 3) := by decide +kernel
theorem dX11_pump_83 : decode cX11_pump 83 = .ok (.aload_n 0, 1) := by decide +kernel
theorem dX11_pump_84 : decode cX11_pump 84 = .ok (.invokevirtual 124, 3) := by decide +kernel
theorem dX11_pump_87 : decode cX11_pump 87 = .ok (.aload_n 0, 1) := by decide +kernel
theorem dX11_pump_88 : decode cX11_pump 88 = .ok (.iconst 0, 1) := by decide +kernel
theorem dX11_pump_89 : decode cX11_pump 89 = .ok (.invokevirtual 127, 3) := by decide +kernel
theorem dX11_pump_92 : decode cX11_pump 92 = .ok (.ireturn, 1) := by decide +kernel
set_option maxHeartbeats 4000000 in
set_option maxRecDepth 100000 in
theorem c_X11_pump (l : Launch) (E : Nat → ClassId) (D : va_G) (G : th_G) (h0 : Nat) (hG0 : G h0 = some (15, 0)) (x1 x2 x3 x4 x5 x6 : Int32) : Met l yX11_pump (tb (.code yX11_pump cX11_pump 7 (some .int))) (rm 3) (va_Pc [.ref h0, .int x1, .int x2, .int x3, .int x4, .int x5, .int x6] (th_P E D G)) (QI E D G (fun r => True)) 0 0 (th_A G) := by
  refine Met.ofW (cc := cX11_pump) (maxL := 7) (ret := (some .int)) (by decide) rfl ?_
  intro p e s m args below meth c s₁ B hml hv
  obtain ⟨hav, hI, hN, hK⟩ := hv
  have hx := B.exec
  have hb := B.bytes
  have hr := B.returns
  have hts := atoms_spec (ws := tb (.code yX11_pump cX11_pump 7 (some .int))) B.pre
  have hown : s.vm.findClass RX11 = some m.cls := findClass_of_methodNamed B.named
  have hlocks := B.notSynchronized
  have hS : va_S (th_A G) s.heap s.heap [] := va_S.rf
  have hl := lv_entry ([.ref h0, .int x1, .int x2, .int x3, .int x4, .int x5, .int x6]) (n := 7) (Nat.le_of_ble_eq_true rfl)
  rw [show entryFrame m args 7 = entryFrame m ([.ref h0, .int x1, .int x2, .int x3, .int x4, .int x5, .int x6] : List Value).toArray 7 from by rw [hav], lg_entry_eq]
  generalize (lg_sl ([.ref h0, .int x1, .int x2, .int x3, .int x4, .int x5, .int x6]) ++ List.replicate (7 - (lg_sl ([.ref h0, .int x1, .int x2, .int x3, .int x4, .int x5, .int x6])).length) Slot.unset).toArray = ls at hl ⊢
  have hl : lv_has ls 7 [(0, .ref h0), (1, .int x1), (2, .int x2), (3, .int x3), (4, .int x4), (5, .int x5), (6, .int x6)] := hl
  generalize hR : (headSpec (tb (.code yX11_pump cX11_pump 7 (some .int))) (rm 3)).room = R
  have hR := hR.symm
  generalize hQ : MQ below (QI E D G (fun r => True)) args s 0 0 (th_A G) = QF
  have hQ := hQ.symm
  have J_47 : ∀ (H : Heap) (locs : List Loc) (ls : Array Slot) , lv_has ls 7 [(0, .ref h0), (1, .int x1), (2, .int x2), (3, .int x3), (4, .int x4), (5, .int x5), (6, .int x6)] → th_I (okC E) D G [] H → va_S (th_A G) s.heap H locs → W p l e R s m args below meth c H locs 0 0 QF (F0 m 47 ls []) := by
    intro H locs ls  hl  hI hS
    refine lv_aload_n hx hb dX11_pump_47 rfl (lv_at hl 0 rfl) ?_
    refine lv_iconst (v := (-1)) hx hb dX11_pump_48 (by decide) ?_
    refine th_cVi (As := [.int (-1)]) (rest := []) (d := 0) ⟨hx, hb, hml, hown, hts⟩ (c_X11_refuse l E D G h0 hG0 (-1)) wd_407 wd_409 wp_0 wd_1 wd_410 (by decide +kernel) ⟨by rw [hR]; exact Nat.le_of_ble_eq_true rfl, by rw [hR]; exact Nat.le_of_ble_eq_true rfl⟩ hI hN hK hS (rc_15 hI hG0 List.not_mem_nil) rfl rfl hl.1 rfl (Nat.le_of_ble_eq_true rfl) dX11_pump_49 ⟨Nat.zero_le _, Nat.zero_le _⟩ (fun r300 H locs hp hI hS => ?_)
    have hpost : True := trivial
    rw [hQ]
    exact W.iret (v := r300) hx hb hr (fun t ht hW => ⟨⟨r300, (), rfl, hpost, by rw [ht]; exact hI, hN.warm hW, va_K.moved hW.alike hK⟩, hS.F ht⟩) hS.2.2 dX11_pump_52
  refine lv_iload_n hx hb dX11_pump_0 rfl (lv_at hl 2 rfl) ?_
  refine th_cSs (As := [.int x2]) (rest := []) (d := 0) ⟨hx, hb, hml, hown, hts⟩ (c_X11_isCell l s.heap x2) wd_401 wd_402 wd_1 wd_403 (by decide +kernel) ⟨by rw [hR]; exact Nat.le_of_ble_eq_true rfl, by rw [hR]; exact Nat.le_of_ble_eq_true rfl⟩ hN hS rfl hl.1 rfl (Nat.le_of_ble_eq_true rfl) dX11_pump_1 ⟨Nat.zero_le _, Nat.zero_le _⟩ (fun r301 locs hp hS => ?_)
  rcases hp with ⟨rfl, hp⟩ | ⟨rfl, hp⟩
  · skip
    try simp only [rg, not_and, Int.not_le] at hp
    have hp302 := hp
    refine lv_if_eq (tgt := 47) hx hb dX11_pump_4 (by decide) (fun c => absurd c (by decide)) (fun _ => ?_)
    refine lv_iload_n hx hb dX11_pump_7 rfl (lv_at hl 3 rfl) ?_
    refine th_cSs (As := [.int x3]) (rest := []) (d := 0) ⟨hx, hb, hml, hown, hts⟩ (c_X11_isCell l s.heap x3) wd_401 wd_402 wd_1 wd_403 (by decide +kernel) ⟨by rw [hR]; exact Nat.le_of_ble_eq_true rfl, by rw [hR]; exact Nat.le_of_ble_eq_true rfl⟩ hN hS rfl hl.1 rfl (Nat.le_of_ble_eq_true rfl) dX11_pump_8 ⟨Nat.zero_le _, Nat.zero_le _⟩ (fun r303 locs hp hS => ?_)
    rcases hp with ⟨rfl, hp⟩ | ⟨rfl, hp⟩
    · skip
      try simp only [rg, not_and, Int.not_le] at hp
      have hp304 := hp
      refine lv_if_eq (tgt := 47) hx hb dX11_pump_11 (by decide) (fun c => absurd c (by decide)) (fun _ => ?_)
      refine lv_iload_n hx hb dX11_pump_14 rfl (lv_at hl 3 rfl) ?_
      refine lv_iload_n hx hb dX11_pump_15 rfl (lv_at hl 2 rfl) ?_
      refine lv_icmp_lt (tgt := 47) hx hb dX11_pump_16 (by decide) (fun c305 => ?_) (fun c305 => ?_)
      · skip
        have k306 := iv_lt (X := x3.toInt) (Y := x2.toInt) rfl rfl c305
        exact J_47 s.heap locs ls  (lv_sub hl [0, 1, 2, 3, 4, 5, 6] rfl)  hI hS
      · skip
        have k307 := iv_nlt (X := x3.toInt) (Y := x2.toInt) rfl rfl c305
        refine lv_iload hx hb dX11_pump_19 (lv_at hl 4 rfl) ?_
        refine th_cSs (As := [.int x4]) (rest := []) (d := 0) ⟨hx, hb, hml, hown, hts⟩ (c_X11_isClock l s.heap x4) wd_404 wd_405 wd_1 wd_406 (by decide +kernel) ⟨by rw [hR]; exact Nat.le_of_ble_eq_true rfl, by rw [hR]; exact Nat.le_of_ble_eq_true rfl⟩ hN hS rfl hl.1 rfl (Nat.le_of_ble_eq_true rfl) dX11_pump_21 ⟨Nat.zero_le _, Nat.zero_le _⟩ (fun r308 locs hp hS => ?_)
        rcases hp with ⟨rfl, hp⟩ | ⟨rfl, hp⟩
        · skip
          try simp only [rg, not_and, Int.not_le] at hp
          have hp309 := hp
          refine lv_if_eq (tgt := 47) hx hb dX11_pump_24 (by decide) (fun c => absurd c (by decide)) (fun _ => ?_)
          refine lv_iload hx hb dX11_pump_27 (lv_at hl 5 rfl) ?_
          refine th_cSs (As := [.int x5]) (rest := []) (d := 0) ⟨hx, hb, hml, hown, hts⟩ (c_X11_isClock l s.heap x5) wd_404 wd_405 wd_1 wd_406 (by decide +kernel) ⟨by rw [hR]; exact Nat.le_of_ble_eq_true rfl, by rw [hR]; exact Nat.le_of_ble_eq_true rfl⟩ hN hS rfl hl.1 rfl (Nat.le_of_ble_eq_true rfl) dX11_pump_29 ⟨Nat.zero_le _, Nat.zero_le _⟩ (fun r310 locs hp hS => ?_)
          rcases hp with ⟨rfl, hp⟩ | ⟨rfl, hp⟩
          · skip
            try simp only [rg, not_and, Int.not_le] at hp
            have hp311 := hp
            refine lv_if_eq (tgt := 47) hx hb dX11_pump_32 (by decide) (fun c => absurd c (by decide)) (fun _ => ?_)
            refine lv_iload hx hb dX11_pump_35 (lv_at hl 6 rfl) ?_
            refine lv_if_lt (tgt := 47) hx hb dX11_pump_37 (by decide) (fun c312 => ?_) (fun c312 => ?_)
            · skip
              have k313 := iv_lt (X := x6.toInt) (Y := (0)) rfl (by decide) c312
              exact J_47 s.heap locs ls  (lv_sub hl [0, 1, 2, 3, 4, 5, 6] rfl)  hI hS
            · skip
              have k314 := iv_nlt (X := x6.toInt) (Y := (0)) rfl (by decide) c312
              refine lv_iload hx hb dX11_pump_40 (lv_at hl 6 rfl) ?_
              refine lv_bipush (v := 6) hx hb dX11_pump_42 (by decide) ?_
              refine lv_icmp_le (tgt := 53) hx hb dX11_pump_44 (by decide) (fun c315 => ?_) (fun c315 => ?_)
              · skip
                have k316 := iv_le (X := x6.toInt) (Y := (6)) rfl (by decide) c315
                refine lv_iload_n hx hb dX11_pump_53 rfl (lv_at hl 1 rfl) ?_
                refine th_cSs (As := [.int x1]) (rest := []) (d := 0) ⟨hx, hb, hml, hown, hts⟩ (c_X11_isPump l s.heap x1) wd_411 wd_412 wd_1 wd_413 (by decide +kernel) ⟨by rw [hR]; exact Nat.le_of_ble_eq_true rfl, by rw [hR]; exact Nat.le_of_ble_eq_true rfl⟩ hN hS rfl hl.1 rfl (Nat.le_of_ble_eq_true rfl) dX11_pump_54 ⟨Nat.zero_le _, Nat.zero_le _⟩ (fun r317 locs hp hS => ?_)
                rcases hp with ⟨rfl, hp⟩ | ⟨rfl, hp⟩
                · skip
                  try simp only [rg, not_and, Int.not_le] at hp
                  have hp318 := hp
                  refine lv_if_ne (tgt := 67) hx hb dX11_pump_57 (by decide) (fun _ => ?_) (fun c => absurd c (by decide))
                  refine lv_aload_n hx hb dX11_pump_67 rfl (lv_at hl 0 rfl) ?_
                  obtain ⟨q319, q321, q323, q325, q327, q329, q331, q333, q335, q337, q339, q341, z343, z346, z347, z348, z349, hO, hq320, hq322, hq324, hq326, hq328, hq330, hq332, hq334, hq336, hq338, hq340, hq342, ⟨k344, k345⟩⟩ := op_15 hI hG0 List.not_mem_nil
                  have hI := th_I.weak (a := h0) hI
                  refine th_get hx hb hts inT11 hown hK hO rfl 0 (by decide) (hts _ (tb_c wd_345)) rfl rfl dX11_pump_68 ?_
                  refine lv_iload_n hx hb dX11_pump_71 rfl (lv_at hl 1 rfl) ?_
                  refine lv_iload_n hx hb dX11_pump_72 rfl (lv_at hl 2 rfl) ?_
                  refine lv_iload_n hx hb dX11_pump_73 rfl (lv_at hl 3 rfl) ?_
                  refine lv_iload hx hb dX11_pump_74 (lv_at hl 4 rfl) ?_
                  refine lv_iload hx hb dX11_pump_76 (lv_at hl 5 rfl) ?_
                  refine lv_iload hx hb dX11_pump_78 (lv_at hl 6 rfl) ?_
                  have hI := th_I.close hI hG0 hO (ok_15 hq320 hq322 hq324 hq326 hq328 hq330 hq332 hq334 hq336 hq338 hq340 hq342 ⟨by omega, by omega⟩)
                  refine th_cVv (As := [.int x1, .int x2, .int x3, .int x4, .int x5, .int x6]) (rest := []) (d := 2) ⟨hx, hb, hml, hown, hts⟩ (c_X6_tellPump l E D G q319 hq320 x1 x2 x3 x4 x5 x6) wd_414 wd_415 wd_416 wd_2 wd_417 (by decide +kernel) ⟨by rw [hR]; exact Nat.le_of_ble_eq_true rfl, by rw [hR]; exact Nat.le_of_ble_eq_true rfl⟩ hI hN hK hS (rc_6 hI hq320 List.not_mem_nil) rfl rfl hl.1 rfl (Nat.le_of_ble_eq_true rfl) dX11_pump_80 ⟨Nat.zero_le _, Nat.zero_le _⟩ (fun H locs hI hS => ?_)
                  refine lv_aload_n hx hb dX11_pump_83 rfl (lv_at hl 0 rfl) ?_
                  refine th_cVv (As := []) (rest := []) (d := 2) ⟨hx, hb, hml, hown, hts⟩ (c_X11_turnRiver l E D G h0 hG0 ) wd_423 wd_425 wp_1 wd_1 wd_426 (by decide +kernel) ⟨by rw [hR]; exact Nat.le_of_ble_eq_true rfl, by rw [hR]; exact Nat.le_of_ble_eq_true rfl⟩ hI hN hK hS (rc_15 hI hG0 List.not_mem_nil) rfl rfl hl.1 rfl (Nat.le_of_ble_eq_true rfl) dX11_pump_84 ⟨Nat.zero_le _, Nat.zero_le _⟩ (fun H locs hI hS => ?_)
                  refine lv_aload_n hx hb dX11_pump_87 rfl (lv_at hl 0 rfl) ?_
                  refine lv_iconst (v := 0) hx hb dX11_pump_88 (by decide) ?_
                  refine th_cVi (As := [.int 0]) (rest := []) (d := 0) ⟨hx, hb, hml, hown, hts⟩ (c_X11_accept l E D G h0 hG0 0) wd_447 wd_449 wp_3 wd_1 wd_450 (by decide +kernel) ⟨by rw [hR]; exact Nat.le_of_ble_eq_true rfl, by rw [hR]; exact Nat.le_of_ble_eq_true rfl⟩ hI hN hK hS (rc_15 hI hG0 List.not_mem_nil) rfl rfl hl.1 rfl (Nat.le_of_ble_eq_true rfl) dX11_pump_89 ⟨Nat.zero_le _, Nat.zero_le _⟩ (fun r352 H locs hp hI hS => ?_)
                  have hpost : True := trivial
                  rw [hQ]
                  exact W.iret (v := r352) hx hb hr (fun t ht hW => ⟨⟨r352, (), rfl, hpost, by rw [ht]; exact hI, hN.warm hW, va_K.moved hW.alike hK⟩, hS.F ht⟩) hS.2.2 dX11_pump_92
                · skip
                  try simp only [rg, not_and, Int.not_le] at hp
                  have hp353 := hp
                  refine lv_if_ne (tgt := 67) hx hb dX11_pump_57 (by decide) (fun c => absurd c (by decide)) (fun _ => ?_)
                  refine lv_aload_n hx hb dX11_pump_60 rfl (lv_at hl 0 rfl) ?_
                  refine lv_bipush (v := (-2)) hx hb dX11_pump_61 (by decide) ?_
                  refine th_cVi (As := [.int (-2)]) (rest := []) (d := 0) ⟨hx, hb, hml, hown, hts⟩ (c_X11_refuse l E D G h0 hG0 (-2)) wd_407 wd_409 wp_0 wd_1 wd_410 (by decide +kernel) ⟨by rw [hR]; exact Nat.le_of_ble_eq_true rfl, by rw [hR]; exact Nat.le_of_ble_eq_true rfl⟩ hI hN hK hS (rc_15 hI hG0 List.not_mem_nil) rfl rfl hl.1 rfl (Nat.le_of_ble_eq_true rfl) dX11_pump_63 ⟨Nat.zero_le _, Nat.zero_le _⟩ (fun r354 H locs hp hI hS => ?_)
                  have hpost : True := trivial
                  rw [hQ]
                  exact W.iret (v := r354) hx hb hr (fun t ht hW => ⟨⟨r354, (), rfl, hpost, by rw [ht]; exact hI, hN.warm hW, va_K.moved hW.alike hK⟩, hS.F ht⟩) hS.2.2 dX11_pump_66
              · skip
                have k355 := iv_nle (X := x6.toInt) (Y := (6)) rfl (by decide) c315
                exact J_47 s.heap locs ls  (lv_sub hl [0, 1, 2, 3, 4, 5, 6] rfl)  hI hS
          · skip
            try simp only [rg, not_and, Int.not_le] at hp
            have hp356 := hp
            refine lv_if_eq (tgt := 47) hx hb dX11_pump_32 (by decide) (fun _ => ?_) (fun c => absurd c (by decide))
            exact J_47 s.heap locs ls  (lv_sub hl [0, 1, 2, 3, 4, 5, 6] rfl)  hI hS
        · skip
          try simp only [rg, not_and, Int.not_le] at hp
          have hp357 := hp
          refine lv_if_eq (tgt := 47) hx hb dX11_pump_24 (by decide) (fun _ => ?_) (fun c => absurd c (by decide))
          exact J_47 s.heap locs ls  (lv_sub hl [0, 1, 2, 3, 4, 5, 6] rfl)  hI hS
    · skip
      try simp only [rg, not_and, Int.not_le] at hp
      have hp358 := hp
      refine lv_if_eq (tgt := 47) hx hb dX11_pump_11 (by decide) (fun _ => ?_) (fun c => absurd c (by decide))
      exact J_47 s.heap locs ls  (lv_sub hl [0, 1, 2, 3, 4, 5, 6] rfl)  hI hS
  · skip
    try simp only [rg, not_and, Int.not_le] at hp
    have hp359 := hp
    refine lv_if_eq (tgt := 47) hx hb dX11_pump_4 (by decide) (fun _ => ?_) (fun c => absurd c (by decide))
    exact J_47 s.heap locs ls  (lv_sub hl [0, 1, 2, 3, 4, 5, 6] rfl)  hI hS
theorem dX11_strike_0 : decode cX11_strike 0 = .ok (.iload_n 1, 1) := by decide +kernel
theorem dX11_strike_1 : decode cX11_strike 1 = .ok (.iload_n 2, 1) := by decide +kernel
theorem dX11_strike_2 : decode cX11_strike 2 = .ok (.invokestatic 134, 3) := by decide +kernel
theorem dX11_strike_5 : decode cX11_strike 5 = .ok (.ifCond .eq 10, 3) := by decide +kernel
theorem dX11_strike_8 : decode cX11_strike 8 = .ok (.iload_n 3, 1) := by decide +kernel
theorem dX11_strike_9 : decode cX11_strike 9 = .ok (.invokestatic 138, 3) := by decide +kernel
theorem dX11_strike_12 : decode cX11_strike 12 = .ok (.ifCond .ne 9, 3) := by decide +kernel
theorem dX11_strike_15 : decode cX11_strike 15 = .ok (.aload_n 0, 1) := by decide +kernel
theorem dX11_strike_16 : decode cX11_strike 16 = .ok (.iconst (-1), 1) := by decide +kernel
theorem dX11_strike_17 : decode cX11_strike 17 = .ok (.invokevirtual 113, 3) := by decide +kernel
theorem dX11_strike_20 : decode cX11_strike 20 = .ok (.ireturn, 1) := by decide +kernel
theorem dX11_strike_21 : decode cX11_strike 21 = .ok (.aload_n 0, 1) := by decide +kernel
theorem dX11_strike_22 : decode cX11_strike 22 = .ok (.getfield 12, 3) := by decide +kernel
theorem dX11_strike_25 : decode cX11_strike 25 = .ok (.iload_n 1, 1) := by decide +kernel
theorem dX11_strike_26 : decode cX11_strike 26 = .ok (.iload_n 2, 1) := by decide +kernel
theorem dX11_strike_27 : decode cX11_strike 27 = .ok (.iload_n 3, 1) := by decide +kernel
theorem dX11_strike_28 : decode cX11_strike 28 = .ok (.invokevirtual 141, 3) := by decide +kernel
theorem dX11_strike_31 : decode cX11_strike 31 = .ok (.istore 4, 2) := by decide +kernel
theorem dX11_strike_33 : decode cX11_strike 33 = .ok (.iload 4, 2) := by decide +kernel
theorem dX11_strike_35 : decode cX11_strike 35 = .ok (.ifCond .le 7, 3) := by decide +kernel
theorem dX11_strike_38 : decode cX11_strike 38 = .ok (.aload_n 0, 1) := by decide +kernel
theorem dX11_strike_39 : decode cX11_strike 39 = .ok (.invokevirtual 124, 3) := by decide +kernel
theorem dX11_strike_42 : decode cX11_strike 42 = .ok (.aload_n 0, 1) := by decide +kernel
theorem dX11_strike_43 : decode cX11_strike 43 = .ok (.iload 4, 2) := by decide +kernel
theorem dX11_strike_45 : decode cX11_strike 45 = .ok (.invokevirtual 127, 3) := by decide +kernel
theorem dX11_strike_48 : decode cX11_strike 48 = .ok (.ireturn, 1) := by decide +kernel
set_option maxHeartbeats 4000000 in
set_option maxRecDepth 100000 in
theorem c_X11_strike (l : Launch) (E : Nat → ClassId) (D : va_G) (G : th_G) (h0 : Nat) (hG0 : G h0 = some (15, 0)) (x1 x2 x3 : Int32) : Met l yX11_strike (tb (.code yX11_strike cX11_strike 5 (some .int))) (rm 3) (va_Pc [.ref h0, .int x1, .int x2, .int x3] (th_P E D G)) (QI E D G (fun r => True)) 0 0 (th_A G) := by
  refine Met.ofW (cc := cX11_strike) (maxL := 5) (ret := (some .int)) (by decide) rfl ?_
  intro p e s m args below meth c s₁ B hml hv
  obtain ⟨hav, hI, hN, hK⟩ := hv
  have hx := B.exec
  have hb := B.bytes
  have hr := B.returns
  have hts := atoms_spec (ws := tb (.code yX11_strike cX11_strike 5 (some .int))) B.pre
  have hown : s.vm.findClass RX11 = some m.cls := findClass_of_methodNamed B.named
  have hlocks := B.notSynchronized
  have hS : va_S (th_A G) s.heap s.heap [] := va_S.rf
  have hl := lv_entry ([.ref h0, .int x1, .int x2, .int x3]) (n := 5) (Nat.le_of_ble_eq_true rfl)
  rw [show entryFrame m args 5 = entryFrame m ([.ref h0, .int x1, .int x2, .int x3] : List Value).toArray 5 from by rw [hav], lg_entry_eq]
  generalize (lg_sl ([.ref h0, .int x1, .int x2, .int x3]) ++ List.replicate (5 - (lg_sl ([.ref h0, .int x1, .int x2, .int x3])).length) Slot.unset).toArray = ls at hl ⊢
  have hl : lv_has ls 5 [(0, .ref h0), (1, .int x1), (2, .int x2), (3, .int x3)] := hl
  generalize hR : (headSpec (tb (.code yX11_strike cX11_strike 5 (some .int))) (rm 3)).room = R
  have hR := hR.symm
  generalize hQ : MQ below (QI E D G (fun r => True)) args s 0 0 (th_A G) = QF
  have hQ := hQ.symm
  have J_15 : ∀ (H : Heap) (locs : List Loc) (ls : Array Slot) , lv_has ls 5 [(0, .ref h0), (1, .int x1), (2, .int x2), (3, .int x3)] → th_I (okC E) D G [] H → va_S (th_A G) s.heap H locs → W p l e R s m args below meth c H locs 0 0 QF (F0 m 15 ls []) := by
    intro H locs ls  hl  hI hS
    refine lv_aload_n hx hb dX11_strike_15 rfl (lv_at hl 0 rfl) ?_
    refine lv_iconst (v := (-1)) hx hb dX11_strike_16 (by decide) ?_
    refine th_cVi (As := [.int (-1)]) (rest := []) (d := 0) ⟨hx, hb, hml, hown, hts⟩ (c_X11_refuse l E D G h0 hG0 (-1)) wd_407 wd_409 wp_0 wd_1 wd_410 (by decide +kernel) ⟨by rw [hR]; exact Nat.le_of_ble_eq_true rfl, by rw [hR]; exact Nat.le_of_ble_eq_true rfl⟩ hI hN hK hS (rc_15 hI hG0 List.not_mem_nil) rfl rfl hl.1 rfl (Nat.le_of_ble_eq_true rfl) dX11_strike_17 ⟨Nat.zero_le _, Nat.zero_le _⟩ (fun r225 H locs hp hI hS => ?_)
    have hpost : True := trivial
    rw [hQ]
    exact W.iret (v := r225) hx hb hr (fun t ht hW => ⟨⟨r225, (), rfl, hpost, by rw [ht]; exact hI, hN.warm hW, va_K.moved hW.alike hK⟩, hS.F ht⟩) hS.2.2 dX11_strike_20
  refine lv_iload_n hx hb dX11_strike_0 rfl (lv_at hl 1 rfl) ?_
  refine lv_iload_n hx hb dX11_strike_1 rfl (lv_at hl 2 rfl) ?_
  refine th_cSs (As := [.int x1, .int x2]) (rest := []) (d := 1) ⟨hx, hb, hml, hown, hts⟩ (c_X11_isSpan l s.heap x1 x2) wd_463 wd_464 wd_1 wd_465 (by decide +kernel) ⟨by rw [hR]; exact Nat.le_of_ble_eq_true rfl, by rw [hR]; exact Nat.le_of_ble_eq_true rfl⟩ hN hS rfl hl.1 rfl (Nat.le_of_ble_eq_true rfl) dX11_strike_2 ⟨Nat.zero_le _, Nat.zero_le _⟩ (fun r226 locs hp hS => ?_)
  rcases hp with ⟨rfl, hp⟩ | ⟨rfl, hp⟩
  · skip
    try simp only [rg, not_and, Int.not_le] at hp
    have hp227 := hp
    refine lv_if_eq (tgt := 15) hx hb dX11_strike_5 (by decide) (fun c => absurd c (by decide)) (fun _ => ?_)
    refine lv_iload_n hx hb dX11_strike_8 rfl (lv_at hl 3 rfl) ?_
    refine th_cSs (As := [.int x3]) (rest := []) (d := 0) ⟨hx, hb, hml, hown, hts⟩ (c_X11_isFlag l s.heap x3) wd_469 wd_470 wd_1 wd_471 (by decide +kernel) ⟨by rw [hR]; exact Nat.le_of_ble_eq_true rfl, by rw [hR]; exact Nat.le_of_ble_eq_true rfl⟩ hN hS rfl hl.1 rfl (Nat.le_of_ble_eq_true rfl) dX11_strike_9 ⟨Nat.zero_le _, Nat.zero_le _⟩ (fun r228 locs hp hS => ?_)
    rcases hp with ⟨rfl, hp⟩ | ⟨rfl, hp⟩
    · skip
      try simp only [rg, not_and, Int.not_le] at hp
      have hp229 := hp
      refine lv_if_ne (tgt := 21) hx hb dX11_strike_12 (by decide) (fun _ => ?_) (fun c => absurd c (by decide))
      refine lv_aload_n hx hb dX11_strike_21 rfl (lv_at hl 0 rfl) ?_
      obtain ⟨q230, q232, q234, q236, q238, q240, q242, q244, q246, q248, q250, q252, z254, z257, z258, z259, z260, hO, hq231, hq233, hq235, hq237, hq239, hq241, hq243, hq245, hq247, hq249, hq251, hq253, ⟨k255, k256⟩⟩ := op_15 hI hG0 List.not_mem_nil
      have hI := th_I.weak (a := h0) hI
      refine th_get hx hb hts inT11 hown hK hO rfl 0 (by decide) (hts _ (tb_c wd_345)) rfl rfl dX11_strike_22 ?_
      refine lv_iload_n hx hb dX11_strike_25 rfl (lv_at hl 1 rfl) ?_
      refine lv_iload_n hx hb dX11_strike_26 rfl (lv_at hl 2 rfl) ?_
      refine lv_iload_n hx hb dX11_strike_27 rfl (lv_at hl 3 rfl) ?_
      have hI := th_I.close hI hG0 hO (ok_15 hq231 hq233 hq235 hq237 hq239 hq241 hq243 hq245 hq247 hq249 hq251 hq253 ⟨by omega, by omega⟩)
      refine th_cVi (As := [.int x1, .int x2, .int x3]) (rest := []) (d := 1) ⟨hx, hb, hml, hown, hts⟩ (c_X6_tellStrikes l E D G q230 hq231 x1 x2 x3) wd_472 wd_473 wd_474 wd_2 wd_475 (by decide +kernel) ⟨by rw [hR]; exact Nat.le_of_ble_eq_true rfl, by rw [hR]; exact Nat.le_of_ble_eq_true rfl⟩ hI hN hK hS (rc_6 hI hq231 List.not_mem_nil) rfl rfl hl.1 rfl (Nat.le_of_ble_eq_true rfl) dX11_strike_28 ⟨Nat.zero_le _, Nat.zero_le _⟩ (fun r261 H locs hp hI hS => ?_)
      refine lv_istore (lv' := [(4, .int r261), (0, .ref h0), (1, .int x1), (2, .int x2), (3, .int x3)]) hx hb dX11_strike_31 hl (by decide) rfl (fun ls hl => ?_)
      refine lv_iload hx hb dX11_strike_33 (lv_at hl 0 rfl) ?_
      refine lv_if_le (tgt := 42) hx hb dX11_strike_35 (by decide) (fun c262 => ?_) (fun c262 => ?_)
      · skip
        have k263 := iv_le (X := r261.toInt) (Y := (0)) rfl (by decide) c262
        refine lv_aload_n hx hb dX11_strike_42 rfl (lv_at hl 1 rfl) ?_
        refine lv_iload hx hb dX11_strike_43 (lv_at hl 0 rfl) ?_
        refine th_cVi (As := [.int r261]) (rest := []) (d := 0) ⟨hx, hb, hml, hown, hts⟩ (c_X11_accept l E D G h0 hG0 r261) wd_447 wd_449 wp_3 wd_1 wd_450 (by decide +kernel) ⟨by rw [hR]; exact Nat.le_of_ble_eq_true rfl, by rw [hR]; exact Nat.le_of_ble_eq_true rfl⟩ hI hN hK hS (rc_15 hI hG0 List.not_mem_nil) rfl rfl hl.1 rfl (Nat.le_of_ble_eq_true rfl) dX11_strike_45 ⟨Nat.zero_le _, Nat.zero_le _⟩ (fun r264 H locs hp hI hS => ?_)
        have hpost : True := trivial
        rw [hQ]
        exact W.iret (v := r264) hx hb hr (fun t ht hW => ⟨⟨r264, (), rfl, hpost, by rw [ht]; exact hI, hN.warm hW, va_K.moved hW.alike hK⟩, hS.F ht⟩) hS.2.2 dX11_strike_48
      · skip
        have k265 := iv_nle (X := r261.toInt) (Y := (0)) rfl (by decide) c262
        refine lv_aload_n hx hb dX11_strike_38 rfl (lv_at hl 1 rfl) ?_
        refine th_cVv (As := []) (rest := []) (d := 2) ⟨hx, hb, hml, hown, hts⟩ (c_X11_turnRiver l E D G h0 hG0 ) wd_423 wd_425 wp_1 wd_1 wd_426 (by decide +kernel) ⟨by rw [hR]; exact Nat.le_of_ble_eq_true rfl, by rw [hR]; exact Nat.le_of_ble_eq_true rfl⟩ hI hN hK hS (rc_15 hI hG0 List.not_mem_nil) rfl rfl hl.1 rfl (Nat.le_of_ble_eq_true rfl) dX11_strike_39 ⟨Nat.zero_le _, Nat.zero_le _⟩ (fun H locs hI hS => ?_)
        refine lv_aload_n hx hb dX11_strike_42 rfl (lv_at hl 1 rfl) ?_
        refine lv_iload hx hb dX11_strike_43 (lv_at hl 0 rfl) ?_
        refine th_cVi (As := [.int r261]) (rest := []) (d := 0) ⟨hx, hb, hml, hown, hts⟩ (c_X11_accept l E D G h0 hG0 r261) wd_447 wd_449 wp_3 wd_1 wd_450 (by decide +kernel) ⟨by rw [hR]; exact Nat.le_of_ble_eq_true rfl, by rw [hR]; exact Nat.le_of_ble_eq_true rfl⟩ hI hN hK hS (rc_15 hI hG0 List.not_mem_nil) rfl rfl hl.1 rfl (Nat.le_of_ble_eq_true rfl) dX11_strike_45 ⟨Nat.zero_le _, Nat.zero_le _⟩ (fun r267 H locs hp hI hS => ?_)
        have hpost : True := trivial
        rw [hQ]
        exact W.iret (v := r267) hx hb hr (fun t ht hW => ⟨⟨r267, (), rfl, hpost, by rw [ht]; exact hI, hN.warm hW, va_K.moved hW.alike hK⟩, hS.F ht⟩) hS.2.2 dX11_strike_48
    · skip
      try simp only [rg, not_and, Int.not_le] at hp
      have hp268 := hp
      refine lv_if_ne (tgt := 21) hx hb dX11_strike_12 (by decide) (fun c => absurd c (by decide)) (fun _ => ?_)
      exact J_15 s.heap locs ls  (lv_sub hl [0, 1, 2, 3] rfl)  hI hS
  · skip
    try simp only [rg, not_and, Int.not_le] at hp
    have hp269 := hp
    refine lv_if_eq (tgt := 15) hx hb dX11_strike_5 (by decide) (fun _ => ?_) (fun c => absurd c (by decide))
    exact J_15 s.heap locs ls  (lv_sub hl [0, 1, 2, 3] rfl)  hI hS
theorem dX11_terms_0 : decode cX11_terms 0 = .ok (.iload_n 1, 1) := by decide +kernel
theorem dX11_terms_1 : decode cX11_terms 1 = .ok (.ifCond .ne 18, 3) := by decide +kernel
theorem dX11_terms_4 : decode cX11_terms 4 = .ok (.iload_n 2, 1) := by decide +kernel
theorem dX11_terms_5 : decode cX11_terms 5 = .ok (.bipush (-3), 2) := by decide +kernel
theorem dX11_terms_7 : decode cX11_terms 7 = .ok (.if_icmp .lt 12, 3) := by decide +kernel
theorem dX11_terms_10 : decode cX11_terms 10 = .ok (.iload_n 2, 1) := by decide +kernel
theorem dX11_terms_11 : decode cX11_terms 11 = .ok (.iconst 3, 1) := by decide +kernel
theorem dX11_terms_12 : decode cX11_terms 12 = .ok (.if_icmp .gt 7, 3) := by decide +kernel
theorem dX11_terms_15 : decode cX11_terms 15 = .ok (.iconst 1, 1) := by decide +kernel
theorem dX11_terms_16 : decode cX11_terms 16 = .ok (.goto 4, 3) := by decide +kernel
theorem dX11_terms_19 : decode cX11_terms 19 = .ok (.iconst 0, 1) := by decide +kernel
theorem dX11_terms_20 : decode cX11_terms 20 = .ok (.istore_n 3, 1) := by decide +kernel
theorem dX11_terms_21 : decode cX11_terms 21 = .ok (.iload_n 1, 1) := by decide +kernel
theorem dX11_terms_22 : decode cX11_terms 22 = .ok (.iconst 1, 1) := by decide +kernel
theorem dX11_terms_23 : decode cX11_terms 23 = .ok (.if_icmp .ne 17, 3) := by decide +kernel
theorem dX11_terms_26 : decode cX11_terms 26 = .ok (.iload_n 2, 1) := by decide +kernel
theorem dX11_terms_27 : decode cX11_terms 27 = .ok (.ifCond .lt 13, 3) := by decide +kernel
theorem dX11_terms_30 : decode cX11_terms 30 = .ok (.iload_n 2, 1) := by decide +kernel
theorem dX11_terms_31 : decode cX11_terms 31 = .ok (.bipush 99, 2) := by decide +kernel
theorem dX11_terms_33 : decode cX11_terms 33 = .ok (.if_icmp .gt 7, 3) := by decide +kernel
theorem dX11_terms_36 : decode cX11_terms 36 = .ok (.iconst 1, 1) := by decide +kernel
theorem dX11_terms_37 : decode cX11_terms 37 = .ok (.goto 4, 3) := by decide +kernel
theorem dX11_terms_40 : decode cX11_terms 40 = .ok (.iconst 0, 1) := by decide +kernel
theorem dX11_terms_41 : decode cX11_terms 41 = .ok (.istore 4, 2) := by decide +kernel
theorem dX11_terms_43 : decode cX11_terms 43 = .ok (.iload_n 3, 1) := by decide +kernel
theorem dX11_terms_44 : decode cX11_terms 44 = .ok (.ifCond .ne 18, 3) := by decide +kernel
theorem dX11_terms_47 : decode cX11_terms 47 = .ok (.iload 4, 2) := by decide +kernel
theorem dX11_terms_49 : decode cX11_terms 49 = .ok (.ifCond .ne 13, 3) := by decide +kernel
theorem dX11_terms_52 : decode cX11_terms 52 = .ok (.aload_n 0, 1) := by decide +kernel
theorem dX11_terms_53 : decode cX11_terms 53 = .ok (.iconst (-1), 1) := by decide +kernel
theorem dX11_terms_54 : decode cX11_terms 54 = .ok (.invokevirtual 113, 3) := by decide +kernel
theorem dX11_terms_57 : decode cX11_terms 57 = .ok (.pop, 1) := by decide +kernel
theorem dX11_terms_58 : decode cX11_terms 58 = .ok (.sipush (-1000), 3) := by decide +kernel
theorem dX11_terms_61 : decode cX11_terms 61 = .ok (.ireturn, 1) := by decide +kernel
theorem dX11_terms_62 : decode cX11_terms 62 = .ok (.iload_n 3, 1) := by decide +kernel
theorem dX11_terms_63 : decode cX11_terms 63 = .ok (.ifCond .eq 13, 3) := by decide +kernel
theorem dX11_terms_66 : decode cX11_terms 66 = .ok (.aload_n 0, 1) := by decide +kernel
theorem dX11_terms_67 : decode cX11_terms 67 = .ok (.getfield 12, 3) := by decide +kernel
theorem dX11_terms_70 : decode cX11_terms 70 = .ok (.getfield 179, 3) := by decide +kernel
theorem dX11_terms_73 : decode cX11_terms 73 = .ok (.goto 10, 3) := by decide +kernel
theorem dX11_terms_76 : decode cX11_terms 76 = .ok (.aload_n 0, 1) := by decide +kernel
theorem dX11_terms_77 : decode cX11_terms 77 = .ok (.getfield 12, 3) := by decide +kernel
theorem dX11_terms_80 : decode cX11_terms 80 = .ok (.getfield 182, 3) := by decide +kernel
theorem dX11_terms_83 : decode cX11_terms 83 = .ok (.istore 5, 2) := by decide +kernel
theorem dX11_terms_85 : decode cX11_terms 85 = .ok (.iload_n 3, 1) := by decide +kernel
theorem dX11_terms_86 : decode cX11_terms 86 = .ok (.ifCond .eq 14, 3) := by decide +kernel
theorem dX11_terms_89 : decode cX11_terms 89 = .ok (.aload_n 0, 1) := by decide +kernel
theorem dX11_terms_90 : decode cX11_terms 90 = .ok (.getfield 12, 3) := by decide +kernel
theorem dX11_terms_93 : decode cX11_terms 93 = .ok (.iload_n 2, 1) := by decide +kernel
theorem dX11_terms_94 : decode cX11_terms 94 = .ok (.putfield 179, 3) := by decide +kernel
theorem dX11_terms_97 : decode cX11_terms 97 = .ok (.goto 11, 3) := by decide +kernel
theorem dX11_terms_100 : decode cX11_terms 100 = .ok (.aload_n 0, 1) := by decide +kernel
theorem dX11_terms_101 : decode cX11_terms 101 = .ok (.getfield 12, 3) := by decide +kernel
theorem dX11_terms_104 : decode cX11_terms 104 = .ok (.iload_n 2, 1) := by decide +kernel
theorem dX11_terms_105 : decode cX11_terms 105 = .ok (.putfield 182, 3) := by decide +kernel
theorem dX11_terms_108 : decode cX11_terms 108 = .ok (.aload_n 0, 1) := by decide +kernel
theorem dX11_terms_109 : decode cX11_terms 109 = .ok (.invokevirtual 124, 3) := by decide +kernel
theorem dX11_terms_112 : decode cX11_terms 112 = .ok (.aload_n 0, 1) := by decide +kernel
theorem dX11_terms_113 : decode cX11_terms 113 = .ok (.iload 5, 2) := by decide +kernel
theorem dX11_terms_115 : decode cX11_terms 115 = .ok (.invokevirtual 127, 3) := by decide +kernel
theorem dX11_terms_118 : decode cX11_terms 118 = .ok (.ireturn, 1) := by decide +kernel
set_option maxHeartbeats 4000000 in
set_option maxRecDepth 100000 in
theorem c_X11_terms (l : Launch) (E : Nat → ClassId) (D : va_G) (G : th_G) (h0 : Nat) (hG0 : G h0 = some (15, 0)) (x1 x2 : Int32) : Met l yX11_terms (tb (.code yX11_terms cX11_terms 6 (some .int))) (rm 3) (va_Pc [.ref h0, .int x1, .int x2] (th_P E D G)) (QI E D G (fun r => True)) 0 0 (th_A G) := by
  refine Met.ofW (cc := cX11_terms) (maxL := 6) (ret := (some .int)) (by decide) rfl ?_
  intro p e s m args below meth c s₁ B hml hv
  obtain ⟨hav, hI, hN, hK⟩ := hv
  have hx := B.exec
  have hb := B.bytes
  have hr := B.returns
  have hts := atoms_spec (ws := tb (.code yX11_terms cX11_terms 6 (some .int))) B.pre
  have hown : s.vm.findClass RX11 = some m.cls := findClass_of_methodNamed B.named
  have hlocks := B.notSynchronized
  have hS : va_S (th_A G) s.heap s.heap [] := va_S.rf
  have hl := lv_entry ([.ref h0, .int x1, .int x2]) (n := 6) (Nat.le_of_ble_eq_true rfl)
  rw [show entryFrame m args 6 = entryFrame m ([.ref h0, .int x1, .int x2] : List Value).toArray 6 from by rw [hav], lg_entry_eq]
  generalize (lg_sl ([.ref h0, .int x1, .int x2]) ++ List.replicate (6 - (lg_sl ([.ref h0, .int x1, .int x2])).length) Slot.unset).toArray = ls at hl ⊢
  have hl : lv_has ls 6 [(0, .ref h0), (1, .int x1), (2, .int x2)] := hl
  generalize hR : (headSpec (tb (.code yX11_terms cX11_terms 6 (some .int))) (rm 3)).room = R
  have hR := hR.symm
  generalize hQ : MQ below (QI E D G (fun r => True)) args s 0 0 (th_A G) = QF
  have hQ := hQ.symm
  have J_83 : ∀ (H : Heap) (locs : List Loc) (ls : Array Slot) (x1578 : Int32) (x1579 : Int32) (x1580 : Int32), lv_has ls 6 [(4, .int x1578), (3, .int x1579), (0, .ref h0), (1, .int x1), (2, .int x2)] → ((0 : Int) ≤ x1578.toInt ∧ x1578.toInt ≤ 1) → ((0 : Int) ≤ x1579.toInt ∧ x1579.toInt ≤ 1) → th_I (okC E) D G [] H → va_S (th_A G) s.heap H locs → W p l e R s m args below meth c H locs 0 0 QF (F0 m 83 ls [.int x1580]) := by
    intro H locs ls x1578 x1579 x1580 hl k1581 k1582 hI hS
    refine lv_istore (lv' := [(5, .int x1580), (4, .int x1578), (3, .int x1579), (0, .ref h0), (1, .int x1), (2, .int x2)]) hx hb dX11_terms_83 hl (by decide) rfl (fun ls hl => ?_)
    refine lv_iload_n hx hb dX11_terms_85 rfl (lv_at hl 2 rfl) ?_
    refine lv_if_eq (tgt := 100) hx hb dX11_terms_86 (by decide) (fun c1583 => ?_) (fun c1583 => ?_)
    · skip
      have k1584 := iv_eq (X := x1579.toInt) (Y := (0)) rfl (by decide) c1583
      refine lv_aload_n hx hb dX11_terms_100 rfl (lv_at hl 3 rfl) ?_
      obtain ⟨q1585, q1587, q1589, q1591, q1593, q1595, q1597, q1599, q1601, q1603, q1605, q1607, z1609, z1612, z1613, z1614, z1615, hO, hq1586, hq1588, hq1590, hq1592, hq1594, hq1596, hq1598, hq1600, hq1602, hq1604, hq1606, hq1608, ⟨k1610, k1611⟩⟩ := op_15 hI hG0 List.not_mem_nil
      have hI := th_I.weak (a := h0) hI
      refine th_get hx hb hts inT11 hown hK hO rfl 0 (by decide) (hts _ (tb_c wd_345)) rfl rfl dX11_terms_101 ?_
      refine lv_iload_n hx hb dX11_terms_104 rfl (lv_at hl 5 rfl) ?_
      have hI := th_I.close hI hG0 hO (ok_15 hq1586 hq1588 hq1590 hq1592 hq1594 hq1596 hq1598 hq1600 hq1602 hq1604 hq1606 hq1608 ⟨by omega, by omega⟩)
      obtain ⟨q1616, q1618, q1620, q1622, q1624, q1626, q1628, q1630, q1632, q1634, z1636, z1639, z1640, z1641, hO, hq1617, hq1619, hq1621, hq1623, hq1625, hq1627, hq1629, hq1631, hq1633, hq1635, ⟨k1637, k1638⟩⟩ := op_6 hI hq1586 List.not_mem_nil
      have hI := th_I.weak (a := q1585) hI
      refine th_putN (ty := .int) hx hb hts inT6 tyX6 tyX6_ok nmX6 hown hK hN hO hS ⟨_, hq1586⟩ rfl 13 (by decide) wn_92 rfl rfl (by decide +kernel) rfl rfl (Nat.le_of_ble_eq_true rfl) dX11_terms_105 (fun H locs hO oq hS => ?_)
      have hI := th_I.moved hI oq
      have hO : va_at D vwCl (q1585, .inr (6, [.ref q1616, .ref q1618, .ref q1620, .ref q1622, .ref q1624, .ref q1626, .ref q1628, .ref q1630, .ref q1632, .ref q1634, .int z1636, .int z1639, .int z1640, .int x2])) H := hO
      refine lv_aload_n hx hb dX11_terms_108 rfl (lv_at hl 3 rfl) ?_
      have hI := th_I.close hI hq1586 hO (ok_6 hq1617 hq1619 hq1621 hq1623 hq1625 hq1627 hq1629 hq1631 hq1633 hq1635 ⟨by omega, by omega⟩)
      refine th_cVv (As := []) (rest := []) (d := 2) ⟨hx, hb, hml, hown, hts⟩ (c_X11_turnRiver l E D G h0 hG0 ) wd_423 wd_425 wp_1 wd_1 wd_426 (by decide +kernel) ⟨by rw [hR]; exact Nat.le_of_ble_eq_true rfl, by rw [hR]; exact Nat.le_of_ble_eq_true rfl⟩ hI hN hK hS (rc_15 hI hG0 List.not_mem_nil) rfl rfl hl.1 rfl (Nat.le_of_ble_eq_true rfl) dX11_terms_109 ⟨Nat.zero_le _, Nat.zero_le _⟩ (fun H locs hI hS => ?_)
      refine lv_aload_n hx hb dX11_terms_112 rfl (lv_at hl 3 rfl) ?_
      refine lv_iload hx hb dX11_terms_113 (lv_at hl 0 rfl) ?_
      refine th_cVi (As := [.int x1580]) (rest := []) (d := 0) ⟨hx, hb, hml, hown, hts⟩ (c_X11_accept l E D G h0 hG0 x1580) wd_447 wd_449 wp_3 wd_1 wd_450 (by decide +kernel) ⟨by rw [hR]; exact Nat.le_of_ble_eq_true rfl, by rw [hR]; exact Nat.le_of_ble_eq_true rfl⟩ hI hN hK hS (rc_15 hI hG0 List.not_mem_nil) rfl rfl hl.1 rfl (Nat.le_of_ble_eq_true rfl) dX11_terms_115 ⟨Nat.zero_le _, Nat.zero_le _⟩ (fun r1643 H locs hp hI hS => ?_)
      have hpost : True := trivial
      rw [hQ]
      exact W.iret (v := r1643) hx hb hr (fun t ht hW => ⟨⟨r1643, (), rfl, hpost, by rw [ht]; exact hI, hN.warm hW, va_K.moved hW.alike hK⟩, hS.F ht⟩) hS.2.2 dX11_terms_118
    · skip
      have k1644 := iv_ne (X := x1579.toInt) (Y := (0)) rfl (by decide) c1583
      refine lv_aload_n hx hb dX11_terms_89 rfl (lv_at hl 3 rfl) ?_
      obtain ⟨q1645, q1647, q1649, q1651, q1653, q1655, q1657, q1659, q1661, q1663, q1665, q1667, z1669, z1672, z1673, z1674, z1675, hO, hq1646, hq1648, hq1650, hq1652, hq1654, hq1656, hq1658, hq1660, hq1662, hq1664, hq1666, hq1668, ⟨k1670, k1671⟩⟩ := op_15 hI hG0 List.not_mem_nil
      have hI := th_I.weak (a := h0) hI
      refine th_get hx hb hts inT11 hown hK hO rfl 0 (by decide) (hts _ (tb_c wd_345)) rfl rfl dX11_terms_90 ?_
      refine lv_iload_n hx hb dX11_terms_93 rfl (lv_at hl 5 rfl) ?_
      have hI := th_I.close hI hG0 hO (ok_15 hq1646 hq1648 hq1650 hq1652 hq1654 hq1656 hq1658 hq1660 hq1662 hq1664 hq1666 hq1668 ⟨by omega, by omega⟩)
      obtain ⟨q1676, q1678, q1680, q1682, q1684, q1686, q1688, q1690, q1692, q1694, z1696, z1699, z1700, z1701, hO, hq1677, hq1679, hq1681, hq1683, hq1685, hq1687, hq1689, hq1691, hq1693, hq1695, ⟨k1697, k1698⟩⟩ := op_6 hI hq1646 List.not_mem_nil
      have hI := th_I.weak (a := q1645) hI
      refine th_putN (ty := .int) hx hb hts inT6 tyX6 tyX6_ok nmX6 hown hK hN hO hS ⟨_, hq1646⟩ rfl 12 (by decide) wn_88 rfl rfl (by decide +kernel) rfl rfl (Nat.le_of_ble_eq_true rfl) dX11_terms_94 (fun H locs hO oq hS => ?_)
      have hI := th_I.moved hI oq
      have hO : va_at D vwCl (q1645, .inr (6, [.ref q1676, .ref q1678, .ref q1680, .ref q1682, .ref q1684, .ref q1686, .ref q1688, .ref q1690, .ref q1692, .ref q1694, .int z1696, .int z1699, .int x2, .int z1701])) H := hO
      refine lv_goto (tgt := 108) hx hb dX11_terms_97 (by decide) ?_
      refine lv_aload_n hx hb dX11_terms_108 rfl (lv_at hl 3 rfl) ?_
      have hI := th_I.close hI hq1646 hO (ok_6 hq1677 hq1679 hq1681 hq1683 hq1685 hq1687 hq1689 hq1691 hq1693 hq1695 ⟨by omega, by omega⟩)
      refine th_cVv (As := []) (rest := []) (d := 2) ⟨hx, hb, hml, hown, hts⟩ (c_X11_turnRiver l E D G h0 hG0 ) wd_423 wd_425 wp_1 wd_1 wd_426 (by decide +kernel) ⟨by rw [hR]; exact Nat.le_of_ble_eq_true rfl, by rw [hR]; exact Nat.le_of_ble_eq_true rfl⟩ hI hN hK hS (rc_15 hI hG0 List.not_mem_nil) rfl rfl hl.1 rfl (Nat.le_of_ble_eq_true rfl) dX11_terms_109 ⟨Nat.zero_le _, Nat.zero_le _⟩ (fun H locs hI hS => ?_)
      refine lv_aload_n hx hb dX11_terms_112 rfl (lv_at hl 3 rfl) ?_
      refine lv_iload hx hb dX11_terms_113 (lv_at hl 0 rfl) ?_
      refine th_cVi (As := [.int x1580]) (rest := []) (d := 0) ⟨hx, hb, hml, hown, hts⟩ (c_X11_accept l E D G h0 hG0 x1580) wd_447 wd_449 wp_3 wd_1 wd_450 (by decide +kernel) ⟨by rw [hR]; exact Nat.le_of_ble_eq_true rfl, by rw [hR]; exact Nat.le_of_ble_eq_true rfl⟩ hI hN hK hS (rc_15 hI hG0 List.not_mem_nil) rfl rfl hl.1 rfl (Nat.le_of_ble_eq_true rfl) dX11_terms_115 ⟨Nat.zero_le _, Nat.zero_le _⟩ (fun r1703 H locs hp hI hS => ?_)
      have hpost : True := trivial
      rw [hQ]
      exact W.iret (v := r1703) hx hb hr (fun t ht hW => ⟨⟨r1703, (), rfl, hpost, by rw [ht]; exact hI, hN.warm hW, va_K.moved hW.alike hK⟩, hS.F ht⟩) hS.2.2 dX11_terms_118
  have J_62 : ∀ (H : Heap) (locs : List Loc) (ls : Array Slot) (x1704 : Int32) (x1705 : Int32), lv_has ls 6 [(4, .int x1704), (3, .int x1705), (0, .ref h0), (1, .int x1), (2, .int x2)] → ((0 : Int) ≤ x1704.toInt ∧ x1704.toInt ≤ 1) → ((0 : Int) ≤ x1705.toInt ∧ x1705.toInt ≤ 1) → th_I (okC E) D G [] H → va_S (th_A G) s.heap H locs → W p l e R s m args below meth c H locs 0 0 QF (F0 m 62 ls []) := by
    intro H locs ls x1704 x1705 hl k1706 k1707 hI hS
    refine lv_iload_n hx hb dX11_terms_62 rfl (lv_at hl 1 rfl) ?_
    refine lv_if_eq (tgt := 76) hx hb dX11_terms_63 (by decide) (fun c1708 => ?_) (fun c1708 => ?_)
    · skip
      have k1709 := iv_eq (X := x1705.toInt) (Y := (0)) rfl (by decide) c1708
      refine lv_aload_n hx hb dX11_terms_76 rfl (lv_at hl 2 rfl) ?_
      obtain ⟨q1710, q1712, q1714, q1716, q1718, q1720, q1722, q1724, q1726, q1728, q1730, q1732, z1734, z1737, z1738, z1739, z1740, hO, hq1711, hq1713, hq1715, hq1717, hq1719, hq1721, hq1723, hq1725, hq1727, hq1729, hq1731, hq1733, ⟨k1735, k1736⟩⟩ := op_15 hI hG0 List.not_mem_nil
      have hI := th_I.weak (a := h0) hI
      refine th_get hx hb hts inT11 hown hK hO rfl 0 (by decide) (hts _ (tb_c wd_345)) rfl rfl dX11_terms_77 ?_
      have hI := th_I.close hI hG0 hO (ok_15 hq1711 hq1713 hq1715 hq1717 hq1719 hq1721 hq1723 hq1725 hq1727 hq1729 hq1731 hq1733 ⟨by omega, by omega⟩)
      obtain ⟨q1741, q1743, q1745, q1747, q1749, q1751, q1753, q1755, q1757, q1759, z1761, z1764, z1765, z1766, hO, hq1742, hq1744, hq1746, hq1748, hq1750, hq1752, hq1754, hq1756, hq1758, hq1760, ⟨k1762, k1763⟩⟩ := op_6 hI hq1711 List.not_mem_nil
      have hI := th_I.weak (a := q1710) hI
      refine th_getN hx hb hts inT6 hown hK hN hO rfl 13 (by decide) wn_92 rfl rfl dX11_terms_80 ?_
      have hI := th_I.close hI hq1711 hO (ok_6 hq1742 hq1744 hq1746 hq1748 hq1750 hq1752 hq1754 hq1756 hq1758 hq1760 ⟨by omega, by omega⟩)
      exact J_83 H locs ls x1704 x1705 z1766 (lv_sub hl [0, 1, 2, 3, 4] rfl) ⟨by omega, by omega⟩ ⟨by omega, by omega⟩ hI hS
    · skip
      have k1767 := iv_ne (X := x1705.toInt) (Y := (0)) rfl (by decide) c1708
      refine lv_aload_n hx hb dX11_terms_66 rfl (lv_at hl 2 rfl) ?_
      obtain ⟨q1768, q1770, q1772, q1774, q1776, q1778, q1780, q1782, q1784, q1786, q1788, q1790, z1792, z1795, z1796, z1797, z1798, hO, hq1769, hq1771, hq1773, hq1775, hq1777, hq1779, hq1781, hq1783, hq1785, hq1787, hq1789, hq1791, ⟨k1793, k1794⟩⟩ := op_15 hI hG0 List.not_mem_nil
      have hI := th_I.weak (a := h0) hI
      refine th_get hx hb hts inT11 hown hK hO rfl 0 (by decide) (hts _ (tb_c wd_345)) rfl rfl dX11_terms_67 ?_
      have hI := th_I.close hI hG0 hO (ok_15 hq1769 hq1771 hq1773 hq1775 hq1777 hq1779 hq1781 hq1783 hq1785 hq1787 hq1789 hq1791 ⟨by omega, by omega⟩)
      obtain ⟨q1799, q1801, q1803, q1805, q1807, q1809, q1811, q1813, q1815, q1817, z1819, z1822, z1823, z1824, hO, hq1800, hq1802, hq1804, hq1806, hq1808, hq1810, hq1812, hq1814, hq1816, hq1818, ⟨k1820, k1821⟩⟩ := op_6 hI hq1769 List.not_mem_nil
      have hI := th_I.weak (a := q1768) hI
      refine th_getN hx hb hts inT6 hown hK hN hO rfl 12 (by decide) wn_88 rfl rfl dX11_terms_70 ?_
      refine lv_goto (tgt := 83) hx hb dX11_terms_73 (by decide) ?_
      have hI := th_I.close hI hq1769 hO (ok_6 hq1800 hq1802 hq1804 hq1806 hq1808 hq1810 hq1812 hq1814 hq1816 hq1818 ⟨by omega, by omega⟩)
      exact J_83 H locs ls x1704 x1705 z1823 (lv_sub hl [0, 1, 2, 3, 4] rfl) ⟨by omega, by omega⟩ ⟨by omega, by omega⟩ hI hS
  have J_41 : ∀ (H : Heap) (locs : List Loc) (ls : Array Slot) (x1825 : Int32) (x1826 : Int32), lv_has ls 6 [(3, .int x1825), (0, .ref h0), (1, .int x1), (2, .int x2)] → ((0 : Int) ≤ x1825.toInt ∧ x1825.toInt ≤ 1) → ((0 : Int) ≤ x1826.toInt ∧ x1826.toInt ≤ 1) → th_I (okC E) D G [] H → va_S (th_A G) s.heap H locs → W p l e R s m args below meth c H locs 0 0 QF (F0 m 41 ls [.int x1826]) := by
    intro H locs ls x1825 x1826 hl k1827 k1828 hI hS
    refine lv_istore (lv' := [(4, .int x1826), (3, .int x1825), (0, .ref h0), (1, .int x1), (2, .int x2)]) hx hb dX11_terms_41 hl (by decide) rfl (fun ls hl => ?_)
    refine lv_iload_n hx hb dX11_terms_43 rfl (lv_at hl 1 rfl) ?_
    refine lv_if_ne (tgt := 62) hx hb dX11_terms_44 (by decide) (fun c1829 => ?_) (fun c1829 => ?_)
    · skip
      have k1830 := iv_ne (X := x1825.toInt) (Y := (0)) rfl (by decide) c1829
      exact J_62 H locs ls x1826 x1825 (lv_sub hl [0, 1, 2, 3, 4] rfl) ⟨by omega, by omega⟩ ⟨by omega, by omega⟩ hI hS
    · skip
      have k1831 := iv_eq (X := x1825.toInt) (Y := (0)) rfl (by decide) c1829
      refine lv_iload hx hb dX11_terms_47 (lv_at hl 0 rfl) ?_
      refine lv_if_ne (tgt := 62) hx hb dX11_terms_49 (by decide) (fun c1832 => ?_) (fun c1832 => ?_)
      · skip
        have k1833 := iv_ne (X := x1826.toInt) (Y := (0)) rfl (by decide) c1832
        exact J_62 H locs ls x1826 x1825 (lv_sub hl [0, 1, 2, 3, 4] rfl) ⟨by omega, by omega⟩ ⟨by omega, by omega⟩ hI hS
      · skip
        have k1834 := iv_eq (X := x1826.toInt) (Y := (0)) rfl (by decide) c1832
        refine lv_aload_n hx hb dX11_terms_52 rfl (lv_at hl 2 rfl) ?_
        refine lv_iconst (v := (-1)) hx hb dX11_terms_53 (by decide) ?_
        refine th_cVi (As := [.int (-1)]) (rest := []) (d := 0) ⟨hx, hb, hml, hown, hts⟩ (c_X11_refuse l E D G h0 hG0 (-1)) wd_407 wd_409 wp_0 wd_1 wd_410 (by decide +kernel) ⟨by rw [hR]; exact Nat.le_of_ble_eq_true rfl, by rw [hR]; exact Nat.le_of_ble_eq_true rfl⟩ hI hN hK hS (rc_15 hI hG0 List.not_mem_nil) rfl rfl hl.1 rfl (Nat.le_of_ble_eq_true rfl) dX11_terms_54 ⟨Nat.zero_le _, Nat.zero_le _⟩ (fun r1835 H locs hp hI hS => ?_)
        refine lv_pop hx hb dX11_terms_57 rfl ?_
        refine lv_sipush (v := (-1000)) hx hb dX11_terms_58 (by decide) ?_
        have hpost : True := trivial
        rw [hQ]
        exact W.iret (v := (-1000)) hx hb hr (fun t ht hW => ⟨⟨(-1000), (), rfl, hpost, by rw [ht]; exact hI, hN.warm hW, va_K.moved hW.alike hK⟩, hS.F ht⟩) hS.2.2 dX11_terms_61
  have J_40 : ∀ (H : Heap) (locs : List Loc) (ls : Array Slot) (x1836 : Int32), lv_has ls 6 [(3, .int x1836), (0, .ref h0), (1, .int x1), (2, .int x2)] → ((0 : Int) ≤ x1836.toInt ∧ x1836.toInt ≤ 1) → th_I (okC E) D G [] H → va_S (th_A G) s.heap H locs → W p l e R s m args below meth c H locs 0 0 QF (F0 m 40 ls []) := by
    intro H locs ls x1836 hl k1837 hI hS
    refine lv_iconst (v := 0) hx hb dX11_terms_40 (by decide) ?_
    exact J_41 H locs ls x1836 0 (lv_sub hl [0, 1, 2, 3] rfl) ⟨by omega, by omega⟩ ⟨by omega, by omega⟩ hI hS
  have J_20 : ∀ (H : Heap) (locs : List Loc) (ls : Array Slot) (x1838 : Int32), lv_has ls 6 [(0, .ref h0), (1, .int x1), (2, .int x2)] → ((0 : Int) ≤ x1838.toInt ∧ x1838.toInt ≤ 1) → th_I (okC E) D G [] H → va_S (th_A G) s.heap H locs → W p l e R s m args below meth c H locs 0 0 QF (F0 m 20 ls [.int x1838]) := by
    intro H locs ls x1838 hl k1839 hI hS
    refine lv_istore_n (lv' := [(3, .int x1838), (0, .ref h0), (1, .int x1), (2, .int x2)]) hx hb dX11_terms_20 rfl hl (by decide) rfl (fun ls hl => ?_)
    refine lv_iload_n hx hb dX11_terms_21 rfl (lv_at hl 2 rfl) ?_
    refine lv_iconst (v := 1) hx hb dX11_terms_22 (by decide) ?_
    refine lv_icmp_ne (tgt := 40) hx hb dX11_terms_23 (by decide) (fun c1840 => ?_) (fun c1840 => ?_)
    · skip
      have k1841 := iv_ne (X := x1.toInt) (Y := (1)) rfl (by decide) c1840
      exact J_40 H locs ls x1838 (lv_sub hl [0, 1, 2, 3] rfl) ⟨by omega, by omega⟩ hI hS
    · skip
      have k1842 := iv_eq (X := x1.toInt) (Y := (1)) rfl (by decide) c1840
      refine lv_iload_n hx hb dX11_terms_26 rfl (lv_at hl 3 rfl) ?_
      refine lv_if_lt (tgt := 40) hx hb dX11_terms_27 (by decide) (fun c1843 => ?_) (fun c1843 => ?_)
      · skip
        have k1844 := iv_lt (X := x2.toInt) (Y := (0)) rfl (by decide) c1843
        exact J_40 H locs ls x1838 (lv_sub hl [0, 1, 2, 3] rfl) ⟨by omega, by omega⟩ hI hS
      · skip
        have k1845 := iv_nlt (X := x2.toInt) (Y := (0)) rfl (by decide) c1843
        refine lv_iload_n hx hb dX11_terms_30 rfl (lv_at hl 3 rfl) ?_
        refine lv_bipush (v := 99) hx hb dX11_terms_31 (by decide) ?_
        refine lv_icmp_gt (tgt := 40) hx hb dX11_terms_33 (by decide) (fun c1846 => ?_) (fun c1846 => ?_)
        · skip
          have k1847 := iv_lt (X := (99)) (Y := x2.toInt) (by decide) rfl c1846
          exact J_40 H locs ls x1838 (lv_sub hl [0, 1, 2, 3] rfl) ⟨by omega, by omega⟩ hI hS
        · skip
          have k1848 := iv_nlt (X := (99)) (Y := x2.toInt) (by decide) rfl c1846
          refine lv_iconst (v := 1) hx hb dX11_terms_36 (by decide) ?_
          refine lv_goto (tgt := 41) hx hb dX11_terms_37 (by decide) ?_
          exact J_41 H locs ls x1838 1 (lv_sub hl [0, 1, 2, 3] rfl) ⟨by omega, by omega⟩ ⟨by omega, by omega⟩ hI hS
  have J_19 : ∀ (H : Heap) (locs : List Loc) (ls : Array Slot) , lv_has ls 6 [(0, .ref h0), (1, .int x1), (2, .int x2)] → th_I (okC E) D G [] H → va_S (th_A G) s.heap H locs → W p l e R s m args below meth c H locs 0 0 QF (F0 m 19 ls []) := by
    intro H locs ls  hl  hI hS
    refine lv_iconst (v := 0) hx hb dX11_terms_19 (by decide) ?_
    exact J_20 H locs ls 0 (lv_sub hl [0, 1, 2] rfl) ⟨by omega, by omega⟩ hI hS
  refine lv_iload_n hx hb dX11_terms_0 rfl (lv_at hl 1 rfl) ?_
  refine lv_if_ne (tgt := 19) hx hb dX11_terms_1 (by decide) (fun c1849 => ?_) (fun c1849 => ?_)
  · skip
    have k1850 := iv_ne (X := x1.toInt) (Y := (0)) rfl (by decide) c1849
    exact J_19 s.heap [] ls  (lv_sub hl [0, 1, 2] rfl)  hI hS
  · skip
    have k1851 := iv_eq (X := x1.toInt) (Y := (0)) rfl (by decide) c1849
    refine lv_iload_n hx hb dX11_terms_4 rfl (lv_at hl 2 rfl) ?_
    refine lv_bipush (v := (-3)) hx hb dX11_terms_5 (by decide) ?_
    refine lv_icmp_lt (tgt := 19) hx hb dX11_terms_7 (by decide) (fun c1852 => ?_) (fun c1852 => ?_)
    · skip
      have k1853 := iv_lt (X := x2.toInt) (Y := (-3)) rfl (by decide) c1852
      exact J_19 s.heap [] ls  (lv_sub hl [0, 1, 2] rfl)  hI hS
    · skip
      have k1854 := iv_nlt (X := x2.toInt) (Y := (-3)) rfl (by decide) c1852
      refine lv_iload_n hx hb dX11_terms_10 rfl (lv_at hl 2 rfl) ?_
      refine lv_iconst (v := 3) hx hb dX11_terms_11 (by decide) ?_
      refine lv_icmp_gt (tgt := 19) hx hb dX11_terms_12 (by decide) (fun c1855 => ?_) (fun c1855 => ?_)
      · skip
        have k1856 := iv_lt (X := (3)) (Y := x2.toInt) (by decide) rfl c1855
        exact J_19 s.heap [] ls  (lv_sub hl [0, 1, 2] rfl)  hI hS
      · skip
        have k1857 := iv_nlt (X := (3)) (Y := x2.toInt) (by decide) rfl c1855
        refine lv_iconst (v := 1) hx hb dX11_terms_15 (by decide) ?_
        refine lv_goto (tgt := 20) hx hb dX11_terms_16 (by decide) ?_
        exact J_20 s.heap [] ls 1 (lv_sub hl [0, 1, 2] rfl) ⟨by omega, by omega⟩ hI hS
theorem dX11_feed_0 : decode cX11_feed 0 = .ok (.aload_n 0, 1) := by decide +kernel
theorem dX11_feed_1 : decode cX11_feed 1 = .ok (.getfield 89, 3) := by decide +kernel
theorem dX11_feed_4 : decode cX11_feed 4 = .ok (.bipush 20, 2) := by decide +kernel
theorem dX11_feed_6 : decode cX11_feed 6 = .ok (.iadd, 1) := by decide +kernel
theorem dX11_feed_7 : decode cX11_feed 7 = .ok (.sipush 400, 3) := by decide +kernel
theorem dX11_feed_10 : decode cX11_feed 10 = .ok (.if_icmp .le 5, 3) := by decide +kernel
theorem dX11_feed_13 : decode cX11_feed 13 = .ok (.iconst (-1), 1) := by decide +kernel
theorem dX11_feed_14 : decode cX11_feed 14 = .ok (.ireturn, 1) := by decide +kernel
theorem dX11_feed_15 : decode cX11_feed 15 = .ok (.aload_n 0, 1) := by decide +kernel
theorem dX11_feed_16 : decode cX11_feed 16 = .ok (.iload_n 1, 1) := by decide +kernel
theorem dX11_feed_17 : decode cX11_feed 17 = .ok (.invokevirtual 185, 3) := by decide +kernel
theorem dX11_feed_20 : decode cX11_feed 20 = .ok (.aload_n 0, 1) := by decide +kernel
theorem dX11_feed_21 : decode cX11_feed 21 = .ok (.iload_n 2, 1) := by decide +kernel
theorem dX11_feed_22 : decode cX11_feed 22 = .ok (.invokevirtual 185, 3) := by decide +kernel
theorem dX11_feed_25 : decode cX11_feed 25 = .ok (.aload_n 0, 1) := by decide +kernel
theorem dX11_feed_26 : decode cX11_feed 26 = .ok (.iload_n 3, 1) := by decide +kernel
theorem dX11_feed_27 : decode cX11_feed 27 = .ok (.invokevirtual 185, 3) := by decide +kernel
theorem dX11_feed_30 : decode cX11_feed 30 = .ok (.aload_n 0, 1) := by decide +kernel
theorem dX11_feed_31 : decode cX11_feed 31 = .ok (.iload 4, 2) := by decide +kernel
theorem dX11_feed_33 : decode cX11_feed 33 = .ok (.invokevirtual 185, 3) := by decide +kernel
theorem dX11_feed_36 : decode cX11_feed 36 = .ok (.aload_n 0, 1) := by decide +kernel
theorem dX11_feed_37 : decode cX11_feed 37 = .ok (.iload 5, 2) := by decide +kernel
theorem dX11_feed_39 : decode cX11_feed 39 = .ok (.invokevirtual 185, 3) := by decide +kernel
theorem dX11_feed_42 : decode cX11_feed 42 = .ok (.aload_n 0, 1) := by decide +kernel
theorem dX11_feed_43 : decode cX11_feed 43 = .ok (.getfield 89, 3) := by decide +kernel
theorem dX11_feed_46 : decode cX11_feed 46 = .ok (.ireturn, 1) := by decide +kernel
set_option maxHeartbeats 4000000 in
set_option maxRecDepth 100000 in
theorem c_X11_feed (l : Launch) (E : Nat → ClassId) (D : va_G) (G : th_G) (h0 : Nat) (hG0 : G h0 = some (15, 0)) (x1 x2 x3 x4 x5 : Int32) : Met l yX11_feed (tb (.code yX11_feed cX11_feed 6 (some .int))) (rm 1) (va_Pc [.ref h0, .int x1, .int x2, .int x3, .int x4, .int x5] (th_P E D G)) (QI E D G (fun r => True)) 0 0 (th_A G) := by
  refine Met.ofW (cc := cX11_feed) (maxL := 6) (ret := (some .int)) (by decide) rfl ?_
  intro p e s m args below meth c s₁ B hml hv
  obtain ⟨hav, hI, hN, hK⟩ := hv
  have hx := B.exec
  have hb := B.bytes
  have hr := B.returns
  have hts := atoms_spec (ws := tb (.code yX11_feed cX11_feed 6 (some .int))) B.pre
  have hown : s.vm.findClass RX11 = some m.cls := findClass_of_methodNamed B.named
  have hlocks := B.notSynchronized
  have hS : va_S (th_A G) s.heap s.heap [] := va_S.rf
  have hl := lv_entry ([.ref h0, .int x1, .int x2, .int x3, .int x4, .int x5]) (n := 6) (Nat.le_of_ble_eq_true rfl)
  rw [show entryFrame m args 6 = entryFrame m ([.ref h0, .int x1, .int x2, .int x3, .int x4, .int x5] : List Value).toArray 6 from by rw [hav], lg_entry_eq]
  generalize (lg_sl ([.ref h0, .int x1, .int x2, .int x3, .int x4, .int x5]) ++ List.replicate (6 - (lg_sl ([.ref h0, .int x1, .int x2, .int x3, .int x4, .int x5])).length) Slot.unset).toArray = ls at hl ⊢
  have hl : lv_has ls 6 [(0, .ref h0), (1, .int x1), (2, .int x2), (3, .int x3), (4, .int x4), (5, .int x5)] := hl
  generalize hR : (headSpec (tb (.code yX11_feed cX11_feed 6 (some .int))) (rm 1)).room = R
  have hR := hR.symm
  generalize hQ : MQ below (QI E D G (fun r => True)) args s 0 0 (th_A G) = QF
  have hQ := hQ.symm
  refine lv_aload_n hx hb dX11_feed_0 rfl (lv_at hl 0 rfl) ?_
  obtain ⟨q1, q3, q5, q7, q9, q11, q13, q15, q17, q19, q21, q23, z25, z28, z29, z30, z31, hO, hq2, hq4, hq6, hq8, hq10, hq12, hq14, hq16, hq18, hq20, hq22, hq24, ⟨k26, k27⟩⟩ := op_15 hI hG0 List.not_mem_nil
  have hI := th_I.weak (a := h0) hI
  refine th_get hx hb hts inT11 hown hK hO rfl 12 (by decide) (hts _ (tb_c wd_357)) rfl rfl dX11_feed_1 ?_
  refine lv_bipush (v := 20) hx hb dX11_feed_4 (by decide) ?_
  refine lv_iadd hx hb dX11_feed_6 ?_
  refine lv_topi (fun x32 e33 => ?_)
  have tx32 : x32.toInt = z25.toInt + (20) := iv_add rfl (by decide) e33 (by omega) (by omega)
  refine lv_sipush (v := 400) hx hb dX11_feed_7 (by decide) ?_
  refine lv_icmp_le (tgt := 15) hx hb dX11_feed_10 (by decide) (fun c34 => ?_) (fun c34 => ?_)
  · skip
    have k35 := iv_le (X := x32.toInt) (Y := (400)) rfl (by decide) c34
    refine lv_aload_n hx hb dX11_feed_15 rfl (lv_at hl 0 rfl) ?_
    refine lv_iload_n hx hb dX11_feed_16 rfl (lv_at hl 1 rfl) ?_
    have hI := th_I.close hI hG0 hO (ok_15 hq2 hq4 hq6 hq8 hq10 hq12 hq14 hq16 hq18 hq20 hq22 hq24 ⟨by omega, by omega⟩)
    refine th_cVv (As := [.int x1]) (rest := []) (d := 0) ⟨hx, hb, hml, hown, hts⟩ (c_X11_write l E D G h0 hG0 x1) wd_601 wd_603 wp_8 wd_1 wd_604 (by decide +kernel) ⟨by rw [hR]; exact Nat.le_of_ble_eq_true rfl, by rw [hR]; exact Nat.le_of_ble_eq_true rfl⟩ hI hN hK hS (rc_15 hI hG0 List.not_mem_nil) rfl rfl hl.1 rfl (Nat.le_of_ble_eq_true rfl) dX11_feed_17 ⟨Nat.zero_le _, Nat.zero_le _⟩ (fun H locs hI hS => ?_)
    refine lv_aload_n hx hb dX11_feed_20 rfl (lv_at hl 0 rfl) ?_
    refine lv_iload_n hx hb dX11_feed_21 rfl (lv_at hl 2 rfl) ?_
    refine th_cVv (As := [.int x2]) (rest := []) (d := 0) ⟨hx, hb, hml, hown, hts⟩ (c_X11_write l E D G h0 hG0 x2) wd_601 wd_603 wp_8 wd_1 wd_604 (by decide +kernel) ⟨by rw [hR]; exact Nat.le_of_ble_eq_true rfl, by rw [hR]; exact Nat.le_of_ble_eq_true rfl⟩ hI hN hK hS (rc_15 hI hG0 List.not_mem_nil) rfl rfl hl.1 rfl (Nat.le_of_ble_eq_true rfl) dX11_feed_22 ⟨Nat.zero_le _, Nat.zero_le _⟩ (fun H locs hI hS => ?_)
    refine lv_aload_n hx hb dX11_feed_25 rfl (lv_at hl 0 rfl) ?_
    refine lv_iload_n hx hb dX11_feed_26 rfl (lv_at hl 3 rfl) ?_
    refine th_cVv (As := [.int x3]) (rest := []) (d := 0) ⟨hx, hb, hml, hown, hts⟩ (c_X11_write l E D G h0 hG0 x3) wd_601 wd_603 wp_8 wd_1 wd_604 (by decide +kernel) ⟨by rw [hR]; exact Nat.le_of_ble_eq_true rfl, by rw [hR]; exact Nat.le_of_ble_eq_true rfl⟩ hI hN hK hS (rc_15 hI hG0 List.not_mem_nil) rfl rfl hl.1 rfl (Nat.le_of_ble_eq_true rfl) dX11_feed_27 ⟨Nat.zero_le _, Nat.zero_le _⟩ (fun H locs hI hS => ?_)
    refine lv_aload_n hx hb dX11_feed_30 rfl (lv_at hl 0 rfl) ?_
    refine lv_iload hx hb dX11_feed_31 (lv_at hl 4 rfl) ?_
    refine th_cVv (As := [.int x4]) (rest := []) (d := 0) ⟨hx, hb, hml, hown, hts⟩ (c_X11_write l E D G h0 hG0 x4) wd_601 wd_603 wp_8 wd_1 wd_604 (by decide +kernel) ⟨by rw [hR]; exact Nat.le_of_ble_eq_true rfl, by rw [hR]; exact Nat.le_of_ble_eq_true rfl⟩ hI hN hK hS (rc_15 hI hG0 List.not_mem_nil) rfl rfl hl.1 rfl (Nat.le_of_ble_eq_true rfl) dX11_feed_33 ⟨Nat.zero_le _, Nat.zero_le _⟩ (fun H locs hI hS => ?_)
    refine lv_aload_n hx hb dX11_feed_36 rfl (lv_at hl 0 rfl) ?_
    refine lv_iload hx hb dX11_feed_37 (lv_at hl 5 rfl) ?_
    refine th_cVv (As := [.int x5]) (rest := []) (d := 0) ⟨hx, hb, hml, hown, hts⟩ (c_X11_write l E D G h0 hG0 x5) wd_601 wd_603 wp_8 wd_1 wd_604 (by decide +kernel) ⟨by rw [hR]; exact Nat.le_of_ble_eq_true rfl, by rw [hR]; exact Nat.le_of_ble_eq_true rfl⟩ hI hN hK hS (rc_15 hI hG0 List.not_mem_nil) rfl rfl hl.1 rfl (Nat.le_of_ble_eq_true rfl) dX11_feed_39 ⟨Nat.zero_le _, Nat.zero_le _⟩ (fun H locs hI hS => ?_)
    refine lv_aload_n hx hb dX11_feed_42 rfl (lv_at hl 0 rfl) ?_
    obtain ⟨q41, q43, q45, q47, q49, q51, q53, q55, q57, q59, q61, q63, z65, z68, z69, z70, z71, hO, hq42, hq44, hq46, hq48, hq50, hq52, hq54, hq56, hq58, hq60, hq62, hq64, ⟨k66, k67⟩⟩ := op_15 hI hG0 List.not_mem_nil
    have hI := th_I.weak (a := h0) hI
    refine th_get hx hb hts inT11 hown hK hO rfl 12 (by decide) (hts _ (tb_c wd_357)) rfl rfl dX11_feed_43 ?_
    have hI := th_I.close hI hG0 hO (ok_15 hq42 hq44 hq46 hq48 hq50 hq52 hq54 hq56 hq58 hq60 hq62 hq64 ⟨by omega, by omega⟩)
    have hpost : True := trivial
    rw [hQ]
    exact W.iret (v := z65) hx hb hr (fun t ht hW => ⟨⟨z65, (), rfl, hpost, by rw [ht]; exact hI, hN.warm hW, va_K.moved hW.alike hK⟩, hS.F ht⟩) hS.2.2 dX11_feed_46
  · skip
    have k72 := iv_nle (X := x32.toInt) (Y := (400)) rfl (by decide) c34
    refine lv_iconst (v := (-1)) hx hb dX11_feed_13 (by decide) ?_
    have hI := th_I.close hI hG0 hO (ok_15 hq2 hq4 hq6 hq8 hq10 hq12 hq14 hq16 hq18 hq20 hq22 hq24 ⟨by omega, by omega⟩)
    have hpost : True := trivial
    rw [hQ]
    exact W.iret (v := (-1)) hx hb hr (fun t ht hW => ⟨⟨(-1), (), rfl, hpost, by rw [ht]; exact hI, hN.warm hW, va_K.moved hW.alike hK⟩, hS.F ht⟩) hS.2.2 dX11_feed_14
theorem dX11_foam_0 : decode cX11_foam 0 = .ok (.aload_n 0, 1) := by decide +kernel
theorem dX11_foam_1 : decode cX11_foam 1 = .ok (.getfield 96, 3) := by decide +kernel
theorem dX11_foam_4 : decode cX11_foam 4 = .ok (.ireturn, 1) := by decide +kernel
set_option maxHeartbeats 4000000 in
set_option maxRecDepth 100000 in
theorem c_X11_foam (l : Launch) (E : Nat → ClassId) (D : va_G) (G : th_G) (h0 : Nat) (hG0 : G h0 = some (15, 0)) : Met l yX11_foam (tb (.code yX11_foam cX11_foam 1 (some .int))) (rm 0) (va_Pc [.ref h0] (th_P E D G)) (QI E D G (fun r => True)) 0 0 (th_A G) := by
  refine Met.ofW (cc := cX11_foam) (maxL := 1) (ret := (some .int)) (by decide) rfl ?_
  intro p e s m args below meth c s₁ B hml hv
  obtain ⟨hav, hI, hN, hK⟩ := hv
  have hx := B.exec
  have hb := B.bytes
  have hr := B.returns
  have hts := atoms_spec (ws := tb (.code yX11_foam cX11_foam 1 (some .int))) B.pre
  have hown : s.vm.findClass RX11 = some m.cls := findClass_of_methodNamed B.named
  have hlocks := B.notSynchronized
  have hS : va_S (th_A G) s.heap s.heap [] := va_S.rf
  have hl := lv_entry ([.ref h0]) (n := 1) (Nat.le_of_ble_eq_true rfl)
  rw [show entryFrame m args 1 = entryFrame m ([.ref h0] : List Value).toArray 1 from by rw [hav], lg_entry_eq]
  generalize (lg_sl ([.ref h0]) ++ List.replicate (1 - (lg_sl ([.ref h0])).length) Slot.unset).toArray = ls at hl ⊢
  have hl : lv_has ls 1 [(0, .ref h0)] := hl
  generalize hR : (headSpec (tb (.code yX11_foam cX11_foam 1 (some .int))) (rm 0)).room = R
  have hR := hR.symm
  generalize hQ : MQ below (QI E D G (fun r => True)) args s 0 0 (th_A G) = QF
  have hQ := hQ.symm
  refine lv_aload_n hx hb dX11_foam_0 rfl (lv_at hl 0 rfl) ?_
  obtain ⟨q1, q3, q5, q7, q9, q11, q13, q15, q17, q19, q21, q23, z25, z28, z29, z30, z31, hO, hq2, hq4, hq6, hq8, hq10, hq12, hq14, hq16, hq18, hq20, hq22, hq24, ⟨k26, k27⟩⟩ := op_15 hI hG0 List.not_mem_nil
  have hI := th_I.weak (a := h0) hI
  refine th_get hx hb hts inT11 hown hK hO rfl 14 (by decide) (hts _ (tb_c wd_359)) rfl rfl dX11_foam_1 ?_
  have hI := th_I.close hI hG0 hO (ok_15 hq2 hq4 hq6 hq8 hq10 hq12 hq14 hq16 hq18 hq20 hq22 hq24 ⟨by omega, by omega⟩)
  have hpost : True := trivial
  rw [hQ]
  exact W.iret (v := z29) hx hb hr (fun t ht hW => ⟨⟨z29, (), rfl, hpost, by rw [ht]; exact hI, hN.warm hW, va_K.moved hW.alike hK⟩, hS.F ht⟩) hS.2.2 dX11_foam_4
theorem dX11_fault_0 : decode cX11_fault 0 = .ok (.aload_n 0, 1) := by decide +kernel
theorem dX11_fault_1 : decode cX11_fault 1 = .ok (.getfield 93, 3) := by decide +kernel
theorem dX11_fault_4 : decode cX11_fault 4 = .ok (.ireturn, 1) := by decide +kernel
set_option maxHeartbeats 4000000 in
set_option maxRecDepth 100000 in
theorem c_X11_fault (l : Launch) (E : Nat → ClassId) (D : va_G) (G : th_G) (h0 : Nat) (hG0 : G h0 = some (15, 0)) : Met l yX11_fault (tb (.code yX11_fault cX11_fault 1 (some .int))) (rm 0) (va_Pc [.ref h0] (th_P E D G)) (QI E D G (fun r => True)) 0 0 (th_A G) := by
  refine Met.ofW (cc := cX11_fault) (maxL := 1) (ret := (some .int)) (by decide) rfl ?_
  intro p e s m args below meth c s₁ B hml hv
  obtain ⟨hav, hI, hN, hK⟩ := hv
  have hx := B.exec
  have hb := B.bytes
  have hr := B.returns
  have hts := atoms_spec (ws := tb (.code yX11_fault cX11_fault 1 (some .int))) B.pre
  have hown : s.vm.findClass RX11 = some m.cls := findClass_of_methodNamed B.named
  have hlocks := B.notSynchronized
  have hS : va_S (th_A G) s.heap s.heap [] := va_S.rf
  have hl := lv_entry ([.ref h0]) (n := 1) (Nat.le_of_ble_eq_true rfl)
  rw [show entryFrame m args 1 = entryFrame m ([.ref h0] : List Value).toArray 1 from by rw [hav], lg_entry_eq]
  generalize (lg_sl ([.ref h0]) ++ List.replicate (1 - (lg_sl ([.ref h0])).length) Slot.unset).toArray = ls at hl ⊢
  have hl : lv_has ls 1 [(0, .ref h0)] := hl
  generalize hR : (headSpec (tb (.code yX11_fault cX11_fault 1 (some .int))) (rm 0)).room = R
  have hR := hR.symm
  generalize hQ : MQ below (QI E D G (fun r => True)) args s 0 0 (th_A G) = QF
  have hQ := hQ.symm
  refine lv_aload_n hx hb dX11_fault_0 rfl (lv_at hl 0 rfl) ?_
  obtain ⟨q1, q3, q5, q7, q9, q11, q13, q15, q17, q19, q21, q23, z25, z28, z29, z30, z31, hO, hq2, hq4, hq6, hq8, hq10, hq12, hq14, hq16, hq18, hq20, hq22, hq24, ⟨k26, k27⟩⟩ := op_15 hI hG0 List.not_mem_nil
  have hI := th_I.weak (a := h0) hI
  refine th_get hx hb hts inT11 hown hK hO rfl 13 (by decide) (hts _ (tb_c wd_358)) rfl rfl dX11_fault_1 ?_
  have hI := th_I.close hI hG0 hO (ok_15 hq2 hq4 hq6 hq8 hq10 hq12 hq14 hq16 hq18 hq20 hq22 hq24 ⟨by omega, by omega⟩)
  have hpost : True := trivial
  rw [hQ]
  exact W.iret (v := z28) hx hb hr (fun t ht hW => ⟨⟨z28, (), rfl, hpost, by rw [ht]; exact hI, hN.warm hW, va_K.moved hW.alike hK⟩, hS.F ht⟩) hS.2.2 dX11_fault_4
theorem dX11_status_0 : decode cX11_status 0 = .ok (.aload_n 0, 1) := by decide +kernel
theorem dX11_status_1 : decode cX11_status 1 = .ok (.getfield 99, 3) := by decide +kernel
theorem dX11_status_4 : decode cX11_status 4 = .ok (.ireturn, 1) := by decide +kernel
set_option maxHeartbeats 4000000 in
set_option maxRecDepth 100000 in
theorem c_X11_status (l : Launch) (E : Nat → ClassId) (D : va_G) (G : th_G) (h0 : Nat) (hG0 : G h0 = some (15, 0)) : Met l yX11_status (tb (.code yX11_status cX11_status 1 (some .int))) (rm 0) (va_Pc [.ref h0] (th_P E D G)) (QI E D G (fun r => True)) 0 0 (th_A G) := by
  refine Met.ofW (cc := cX11_status) (maxL := 1) (ret := (some .int)) (by decide) rfl ?_
  intro p e s m args below meth c s₁ B hml hv
  obtain ⟨hav, hI, hN, hK⟩ := hv
  have hx := B.exec
  have hb := B.bytes
  have hr := B.returns
  have hts := atoms_spec (ws := tb (.code yX11_status cX11_status 1 (some .int))) B.pre
  have hown : s.vm.findClass RX11 = some m.cls := findClass_of_methodNamed B.named
  have hlocks := B.notSynchronized
  have hS : va_S (th_A G) s.heap s.heap [] := va_S.rf
  have hl := lv_entry ([.ref h0]) (n := 1) (Nat.le_of_ble_eq_true rfl)
  rw [show entryFrame m args 1 = entryFrame m ([.ref h0] : List Value).toArray 1 from by rw [hav], lg_entry_eq]
  generalize (lg_sl ([.ref h0]) ++ List.replicate (1 - (lg_sl ([.ref h0])).length) Slot.unset).toArray = ls at hl ⊢
  have hl : lv_has ls 1 [(0, .ref h0)] := hl
  generalize hR : (headSpec (tb (.code yX11_status cX11_status 1 (some .int))) (rm 0)).room = R
  have hR := hR.symm
  generalize hQ : MQ below (QI E D G (fun r => True)) args s 0 0 (th_A G) = QF
  have hQ := hQ.symm
  refine lv_aload_n hx hb dX11_status_0 rfl (lv_at hl 0 rfl) ?_
  obtain ⟨q1, q3, q5, q7, q9, q11, q13, q15, q17, q19, q21, q23, z25, z28, z29, z30, z31, hO, hq2, hq4, hq6, hq8, hq10, hq12, hq14, hq16, hq18, hq20, hq22, hq24, ⟨k26, k27⟩⟩ := op_15 hI hG0 List.not_mem_nil
  have hI := th_I.weak (a := h0) hI
  refine th_get hx hb hts inT11 hown hK hO rfl 15 (by decide) (hts _ (tb_c wd_360)) rfl rfl dX11_status_1 ?_
  have hI := th_I.close hI hG0 hO (ok_15 hq2 hq4 hq6 hq8 hq10 hq12 hq14 hq16 hq18 hq20 hq22 hq24 ⟨by omega, by omega⟩)
  have hpost : True := trivial
  rw [hQ]
  exact W.iret (v := z30) hx hb hr (fun t ht hW => ⟨⟨z30, (), rfl, hpost, by rw [ht]; exact hI, hN.warm hW, va_K.moved hW.alike hK⟩, hS.F ht⟩) hS.2.2 dX11_status_4
theorem dX11_force_0 : decode cX11_force 0 = .ok (.iload_n 1, 1) := by decide +kernel
theorem dX11_force_1 : decode cX11_force 1 = .ok (.iconst (-1), 1) := by decide +kernel
theorem dX11_force_2 : decode cX11_force 2 = .ok (.if_icmp .lt 14, 3) := by decide +kernel
theorem dX11_force_5 : decode cX11_force 5 = .ok (.iload_n 1, 1) := by decide +kernel
theorem dX11_force_6 : decode cX11_force 6 = .ok (.aload_n 0, 1) := by decide +kernel
theorem dX11_force_7 : decode cX11_force 7 = .ok (.getfield 12, 3) := by decide +kernel
theorem dX11_force_10 : decode cX11_force 10 = .ok (.getfield 194, 3) := by decide +kernel
theorem dX11_force_13 : decode cX11_force 13 = .ok (.if_icmp .lt 10, 3) := by decide +kernel
theorem dX11_force_16 : decode cX11_force 16 = .ok (.aload_n 0, 1) := by decide +kernel
theorem dX11_force_17 : decode cX11_force 17 = .ok (.bipush (-2), 2) := by decide +kernel
theorem dX11_force_19 : decode cX11_force 19 = .ok (.invokevirtual 113, 3) := by decide +kernel
theorem dX11_force_22 : decode cX11_force 22 = .ok (.ireturn, 1) := by decide +kernel
theorem dX11_force_23 : decode cX11_force 23 = .ok (.aload_n 0, 1) := by decide +kernel
theorem dX11_force_24 : decode cX11_force 24 = .ok (.getfield 12, 3) := by decide +kernel
theorem dX11_force_27 : decode cX11_force 27 = .ok (.getfield 208, 3) := by decide +kernel
theorem dX11_force_30 : decode cX11_force 30 = .ok (.istore_n 2, 1) := by decide +kernel
theorem dX11_force_31 : decode cX11_force 31 = .ok (.aload_n 0, 1) := by decide +kernel
theorem dX11_force_32 : decode cX11_force 32 = .ok (.getfield 12, 3) := by decide +kernel
theorem dX11_force_35 : decode cX11_force 35 = .ok (.iload_n 1, 1) := by decide +kernel
theorem dX11_force_36 : decode cX11_force 36 = .ok (.putfield 208, 3) := by decide +kernel
theorem dX11_force_39 : decode cX11_force 39 = .ok (.aload_n 0, 1) := by decide +kernel
theorem dX11_force_40 : decode cX11_force 40 = .ok (.invokevirtual 124, 3) := by decide +kernel
theorem dX11_force_43 : decode cX11_force 43 = .ok (.aload_n 0, 1) := by decide +kernel
theorem dX11_force_44 : decode cX11_force 44 = .ok (.iload_n 2, 1) := by decide +kernel
theorem dX11_force_45 : decode cX11_force 45 = .ok (.invokevirtual 127, 3) := by decide +kernel
theorem dX11_force_48 : decode cX11_force 48 = .ok (.ireturn, 1) := by decide +kernel
set_option maxHeartbeats 4000000 in
set_option maxRecDepth 100000 in
theorem c_X11_force (l : Launch) (E : Nat → ClassId) (D : va_G) (G : th_G) (h0 : Nat) (hG0 : G h0 = some (15, 0)) (x1 : Int32) : Met l yX11_force (tb (.code yX11_force cX11_force 3 (some .int))) (rm 3) (va_Pc [.ref h0, .int x1] (th_P E D G)) (QI E D G (fun r => True)) 0 0 (th_A G) := by
  refine Met.ofW (cc := cX11_force) (maxL := 3) (ret := (some .int)) (by decide) rfl ?_
  intro p e s m args below meth c s₁ B hml hv
  obtain ⟨hav, hI, hN, hK⟩ := hv
  have hx := B.exec
  have hb := B.bytes
  have hr := B.returns
  have hts := atoms_spec (ws := tb (.code yX11_force cX11_force 3 (some .int))) B.pre
  have hown : s.vm.findClass RX11 = some m.cls := findClass_of_methodNamed B.named
  have hlocks := B.notSynchronized
  have hS : va_S (th_A G) s.heap s.heap [] := va_S.rf
  have hl := lv_entry ([.ref h0, .int x1]) (n := 3) (Nat.le_of_ble_eq_true rfl)
  rw [show entryFrame m args 3 = entryFrame m ([.ref h0, .int x1] : List Value).toArray 3 from by rw [hav], lg_entry_eq]
  generalize (lg_sl ([.ref h0, .int x1]) ++ List.replicate (3 - (lg_sl ([.ref h0, .int x1])).length) Slot.unset).toArray = ls at hl ⊢
  have hl : lv_has ls 3 [(0, .ref h0), (1, .int x1)] := hl
  generalize hR : (headSpec (tb (.code yX11_force cX11_force 3 (some .int))) (rm 3)).room = R
  have hR := hR.symm
  generalize hQ : MQ below (QI E D G (fun r => True)) args s 0 0 (th_A G) = QF
  have hQ := hQ.symm
  have J_16 : ∀ (H : Heap) (locs : List Loc) (ls : Array Slot) , lv_has ls 3 [(0, .ref h0), (1, .int x1)] → th_I (okC E) D G [] H → va_S (th_A G) s.heap H locs → W p l e R s m args below meth c H locs 0 0 QF (F0 m 16 ls []) := by
    intro H locs ls  hl  hI hS
    refine lv_aload_n hx hb dX11_force_16 rfl (lv_at hl 0 rfl) ?_
    refine lv_bipush (v := (-2)) hx hb dX11_force_17 (by decide) ?_
    refine th_cVi (As := [.int (-2)]) (rest := []) (d := 0) ⟨hx, hb, hml, hown, hts⟩ (c_X11_refuse l E D G h0 hG0 (-2)) wd_407 wd_409 wp_0 wd_1 wd_410 (by decide +kernel) ⟨by rw [hR]; exact Nat.le_of_ble_eq_true rfl, by rw [hR]; exact Nat.le_of_ble_eq_true rfl⟩ hI hN hK hS (rc_15 hI hG0 List.not_mem_nil) rfl rfl hl.1 rfl (Nat.le_of_ble_eq_true rfl) dX11_force_19 ⟨Nat.zero_le _, Nat.zero_le _⟩ (fun r900 H locs hp hI hS => ?_)
    have hpost : True := trivial
    rw [hQ]
    exact W.iret (v := r900) hx hb hr (fun t ht hW => ⟨⟨r900, (), rfl, hpost, by rw [ht]; exact hI, hN.warm hW, va_K.moved hW.alike hK⟩, hS.F ht⟩) hS.2.2 dX11_force_22
  refine lv_iload_n hx hb dX11_force_0 rfl (lv_at hl 1 rfl) ?_
  refine lv_iconst (v := (-1)) hx hb dX11_force_1 (by decide) ?_
  refine lv_icmp_lt (tgt := 16) hx hb dX11_force_2 (by decide) (fun c901 => ?_) (fun c901 => ?_)
  · skip
    have k902 := iv_lt (X := x1.toInt) (Y := (-1)) rfl (by decide) c901
    exact J_16 s.heap [] ls  (lv_sub hl [0, 1] rfl)  hI hS
  · skip
    have k903 := iv_nlt (X := x1.toInt) (Y := (-1)) rfl (by decide) c901
    refine lv_iload_n hx hb dX11_force_5 rfl (lv_at hl 1 rfl) ?_
    refine lv_aload_n hx hb dX11_force_6 rfl (lv_at hl 0 rfl) ?_
    obtain ⟨q904, q906, q908, q910, q912, q914, q916, q918, q920, q922, q924, q926, z928, z931, z932, z933, z934, hO, hq905, hq907, hq909, hq911, hq913, hq915, hq917, hq919, hq921, hq923, hq925, hq927, ⟨k929, k930⟩⟩ := op_15 hI hG0 List.not_mem_nil
    have hI := th_I.weak (a := h0) hI
    refine th_get hx hb hts inT11 hown hK hO rfl 0 (by decide) (hts _ (tb_c wd_345)) rfl rfl dX11_force_7 ?_
    have hI := th_I.close hI hG0 hO (ok_15 hq905 hq907 hq909 hq911 hq913 hq915 hq917 hq919 hq921 hq923 hq925 hq927 ⟨by omega, by omega⟩)
    obtain ⟨q935, q937, q939, q941, q943, q945, q947, q949, q951, q953, z955, z958, z959, z960, hO, hq936, hq938, hq940, hq942, hq944, hq946, hq948, hq950, hq952, hq954, ⟨k956, k957⟩⟩ := op_6 hI hq905 List.not_mem_nil
    have hI := th_I.weak (a := q904) hI
    refine th_getN hx hb hts inT6 hown hK hN hO rfl 10 (by decide) wn_83 rfl rfl dX11_force_10 ?_
    refine lv_icmp_lt (tgt := 23) hx hb dX11_force_13 (by decide) (fun c961 => ?_) (fun c961 => ?_)
    · skip
      have k962 := iv_lt (X := x1.toInt) (Y := z955.toInt) rfl rfl c961
      refine lv_aload_n hx hb dX11_force_23 rfl (lv_at hl 0 rfl) ?_
      have hI := th_I.close hI hq905 hO (ok_6 hq936 hq938 hq940 hq942 hq944 hq946 hq948 hq950 hq952 hq954 ⟨by omega, by omega⟩)
      obtain ⟨q963, q965, q967, q969, q971, q973, q975, q977, q979, q981, q983, q985, z987, z990, z991, z992, z993, hO, hq964, hq966, hq968, hq970, hq972, hq974, hq976, hq978, hq980, hq982, hq984, hq986, ⟨k988, k989⟩⟩ := op_15 hI hG0 List.not_mem_nil
      have hI := th_I.weak (a := h0) hI
      refine th_get hx hb hts inT11 hown hK hO rfl 0 (by decide) (hts _ (tb_c wd_345)) rfl rfl dX11_force_24 ?_
      have hI := th_I.close hI hG0 hO (ok_15 hq964 hq966 hq968 hq970 hq972 hq974 hq976 hq978 hq980 hq982 hq984 hq986 ⟨by omega, by omega⟩)
      obtain ⟨q994, q996, q998, q1000, q1002, q1004, q1006, q1008, q1010, q1012, z1014, z1017, z1018, z1019, hO, hq995, hq997, hq999, hq1001, hq1003, hq1005, hq1007, hq1009, hq1011, hq1013, ⟨k1015, k1016⟩⟩ := op_6 hI hq964 List.not_mem_nil
      have hI := th_I.weak (a := q963) hI
      refine th_getN hx hb hts inT6 hown hK hN hO rfl 11 (by decide) wn_85 rfl rfl dX11_force_27 ?_
      refine lv_istore_n (lv' := [(2, .int z1017), (0, .ref h0), (1, .int x1)]) hx hb dX11_force_30 rfl hl (by decide) rfl (fun ls hl => ?_)
      refine lv_aload_n hx hb dX11_force_31 rfl (lv_at hl 1 rfl) ?_
      have hI := th_I.close hI hq964 hO (ok_6 hq995 hq997 hq999 hq1001 hq1003 hq1005 hq1007 hq1009 hq1011 hq1013 ⟨by omega, by omega⟩)
      obtain ⟨q1020, q1022, q1024, q1026, q1028, q1030, q1032, q1034, q1036, q1038, q1040, q1042, z1044, z1047, z1048, z1049, z1050, hO, hq1021, hq1023, hq1025, hq1027, hq1029, hq1031, hq1033, hq1035, hq1037, hq1039, hq1041, hq1043, ⟨k1045, k1046⟩⟩ := op_15 hI hG0 List.not_mem_nil
      have hI := th_I.weak (a := h0) hI
      refine th_get hx hb hts inT11 hown hK hO rfl 0 (by decide) (hts _ (tb_c wd_345)) rfl rfl dX11_force_32 ?_
      refine lv_iload_n hx hb dX11_force_35 rfl (lv_at hl 2 rfl) ?_
      have hI := th_I.close hI hG0 hO (ok_15 hq1021 hq1023 hq1025 hq1027 hq1029 hq1031 hq1033 hq1035 hq1037 hq1039 hq1041 hq1043 ⟨by omega, by omega⟩)
      obtain ⟨q1051, q1053, q1055, q1057, q1059, q1061, q1063, q1065, q1067, q1069, z1071, z1074, z1075, z1076, hO, hq1052, hq1054, hq1056, hq1058, hq1060, hq1062, hq1064, hq1066, hq1068, hq1070, ⟨k1072, k1073⟩⟩ := op_6 hI hq1021 List.not_mem_nil
      have hI := th_I.weak (a := q1020) hI
      refine th_putN (ty := .int) hx hb hts inT6 tyX6 tyX6_ok nmX6 hown hK hN hO hS ⟨_, hq1021⟩ rfl 11 (by decide) wn_85 rfl rfl (by decide +kernel) rfl rfl (Nat.le_of_ble_eq_true rfl) dX11_force_36 (fun H locs hO oq hS => ?_)
      have hI := th_I.moved hI oq
      have hO : va_at D vwCl (q1020, .inr (6, [.ref q1051, .ref q1053, .ref q1055, .ref q1057, .ref q1059, .ref q1061, .ref q1063, .ref q1065, .ref q1067, .ref q1069, .int z1071, .int x1, .int z1075, .int z1076])) H := hO
      refine lv_aload_n hx hb dX11_force_39 rfl (lv_at hl 1 rfl) ?_
      have hI := th_I.close hI hq1021 hO (ok_6 hq1052 hq1054 hq1056 hq1058 hq1060 hq1062 hq1064 hq1066 hq1068 hq1070 ⟨by omega, by omega⟩)
      refine th_cVv (As := []) (rest := []) (d := 2) ⟨hx, hb, hml, hown, hts⟩ (c_X11_turnRiver l E D G h0 hG0 ) wd_423 wd_425 wp_1 wd_1 wd_426 (by decide +kernel) ⟨by rw [hR]; exact Nat.le_of_ble_eq_true rfl, by rw [hR]; exact Nat.le_of_ble_eq_true rfl⟩ hI hN hK hS (rc_15 hI hG0 List.not_mem_nil) rfl rfl hl.1 rfl (Nat.le_of_ble_eq_true rfl) dX11_force_40 ⟨Nat.zero_le _, Nat.zero_le _⟩ (fun H locs hI hS => ?_)
      refine lv_aload_n hx hb dX11_force_43 rfl (lv_at hl 1 rfl) ?_
      refine lv_iload_n hx hb dX11_force_44 rfl (lv_at hl 0 rfl) ?_
      refine th_cVi (As := [.int z1017]) (rest := []) (d := 0) ⟨hx, hb, hml, hown, hts⟩ (c_X11_accept l E D G h0 hG0 z1017) wd_447 wd_449 wp_3 wd_1 wd_450 (by decide +kernel) ⟨by rw [hR]; exact Nat.le_of_ble_eq_true rfl, by rw [hR]; exact Nat.le_of_ble_eq_true rfl⟩ hI hN hK hS (rc_15 hI hG0 List.not_mem_nil) rfl rfl hl.1 rfl (Nat.le_of_ble_eq_true rfl) dX11_force_45 ⟨Nat.zero_le _, Nat.zero_le _⟩ (fun r1078 H locs hp hI hS => ?_)
      have hpost : True := trivial
      rw [hQ]
      exact W.iret (v := r1078) hx hb hr (fun t ht hW => ⟨⟨r1078, (), rfl, hpost, by rw [ht]; exact hI, hN.warm hW, va_K.moved hW.alike hK⟩, hS.F ht⟩) hS.2.2 dX11_force_48
    · skip
      have k1079 := iv_nlt (X := x1.toInt) (Y := z955.toInt) rfl rfl c961
      have hI := th_I.close hI hq905 hO (ok_6 hq936 hq938 hq940 hq942 hq944 hq946 hq948 hq950 hq952 hq954 ⟨by omega, by omega⟩)
      exact J_16 s.heap [] ls  (lv_sub hl [0, 1] rfl)  hI hS
