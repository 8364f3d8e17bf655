theorem wp_43 : Cond.selects RX12 yX12_looks yX12_looks ∈ TB := tv 43 (by decide +kernel) (by decide +kernel)
theorem wp_44 : Cond.selects RX12 yX12_flowOf yX12_flowOf ∈ TB := tv 44 (by decide +kernel) (by decide +kernel)
theorem wp_45 : Cond.selects RX12 yX12_sets yX12_sets ∈ TB := tv 45 (by decide +kernel) (by decide +kernel)
theorem wp_48 : Cond.selects RX12 yX12_told yX12_told ∈ TB := tv 48 (by decide +kernel) (by decide +kernel)
theorem wp_59 : Cond.selects RX12 yX12_laysNext yX12_laysNext ∈ TB := tv 59 (by decide +kernel) (by decide +kernel)
theorem wp_60 : Cond.selects RX12 yX12_floatsTo yX12_floatsTo ∈ TB := tv 60 (by decide +kernel) (by decide +kernel)
theorem wp_61 : Cond.selects RX12 yX12_isShut yX12_isShut ∈ TB := tv 61 (by decide +kernel) (by decide +kernel)
theorem wp_77 : Cond.selects RX12 yX12_floats yX12_floats ∈ TB := tv 77 (by decide +kernel) (by decide +kernel)
theorem wp_78 : Cond.selects RX12 yX12_isBoat yX12_isBoat ∈ TB := tv 78 (by decide +kernel) (by decide +kernel)
theorem wp_81 : Cond.selects RX12 yX12_isMoored yX12_isMoored ∈ TB := tv 81 (by decide +kernel) (by decide +kernel)
theorem wd_1256 : (Cond.fieldLink RX12 (55 : Nat) "NineRiverModel" "flows" "[I") ∈ TB := tw 1256 (by decide +kernel) (by decide +kernel)
theorem wd_1257 : (Cond.fieldLink RX12 (58 : Nat) "NineRiverModel" "costs" "[I") ∈ TB := tw 1257 (by decide +kernel) (by decide +kernel)
theorem wd_1258 : (Cond.fieldLink RX12 (61 : Nat) "NineRiverModel" "tolls" "[I") ∈ TB := tw 1258 (by decide +kernel) (by decide +kernel)
theorem wd_1259 : (Cond.fieldLink RX12 (64 : Nat) "NineRiverModel" "barred" "[Z") ∈ TB := tw 1259 (by decide +kernel) (by decide +kernel)
theorem wd_1260 : (Cond.fieldLink RX12 (67 : Nat) "NineRiverModel" "next" "[I") ∈ TB := tw 1260 (by decide +kernel) (by decide +kernel)
theorem wd_1261 : (Cond.fieldLink RX12 (70 : Nat) "NineRiverModel" "laidBy" "I") ∈ TB := tw 1261 (by decide +kernel) (by decide +kernel)
theorem wd_1262 : (Cond.fieldLink RX12 (310 : Nat) "NineRiverModel" "paid" "I") ∈ TB := tw 1262 (by decide +kernel) (by decide +kernel)
theorem wd_1455 : (Cond.methodLink RX12 (138 : Nat) yX12_looks) ∈ TB := tw 1455 (by decide +kernel) (by decide +kernel)
theorem wd_1457 : (Jvm.Cond.instanceMethod yX12_looks) ∈ TB := tw 1457 (by decide +kernel) (by decide +kernel)
theorem wd_1458 : (Cond.code yX12_looks cX12_looks 6 (Option.none : Option Jvm.ClassFile.FieldType)) ∈ TB := tw 1458 (by decide +kernel) (by decide +kernel)
theorem wd_1459 : (Cond.methodLink RX12 (282 : Nat) yX12_flowOf) ∈ TB := tw 1459 (by decide +kernel) (by decide +kernel)
theorem wd_1461 : (Jvm.Cond.instanceMethod yX12_flowOf) ∈ TB := tw 1461 (by decide +kernel) (by decide +kernel)
theorem wd_1462 : (Cond.code yX12_flowOf cX12_flowOf 4 (Option.some Jvm.ClassFile.FieldType.int)) ∈ TB := tw 1462 (by decide +kernel) (by decide +kernel)
theorem wd_1463 : (Cond.methodLink RX12 (270 : Nat) yX12_sets) ∈ TB := tw 1463 (by decide +kernel) (by decide +kernel)
theorem wd_1465 : (Jvm.Cond.instanceMethod yX12_sets) ∈ TB := tw 1465 (by decide +kernel) (by decide +kernel)
theorem wd_1466 : (Cond.code yX12_sets cX12_sets 7 (Option.none : Option Jvm.ClassFile.FieldType)) ∈ TB := tw 1466 (by decide +kernel) (by decide +kernel)
theorem wd_1475 : (Cond.methodLink RX12 (274 : Nat) yX12_told) ∈ TB := tw 1475 (by decide +kernel) (by decide +kernel)
theorem wd_1477 : (Jvm.Cond.instanceMethod yX12_told) ∈ TB := tw 1477 (by decide +kernel) (by decide +kernel)
theorem wd_1478 : (Cond.code yX12_told cX12_told 11 (Option.some Jvm.ClassFile.FieldType.long)) ∈ TB := tw 1478 (by decide +kernel) (by decide +kernel)
theorem wd_1524 : (Cond.methodLink RX12 (278 : Nat) yX12_nearest) ∈ TB := tw 1524 (by decide +kernel) (by decide +kernel)
theorem wd_1525 : (Jvm.Cond.static yX12_nearest) ∈ TB := tw 1525 (by decide +kernel) (by decide +kernel)
theorem wd_1526 : (Cond.code yX12_nearest cX12_nearest 4 (Option.some Jvm.ClassFile.FieldType.long)) ∈ TB := tw 1526 (by decide +kernel) (by decide +kernel)
theorem wd_1527 : (Cond.methodLink RX12 (285 : Nat) yX12_laysNext) ∈ TB := tw 1527 (by decide +kernel) (by decide +kernel)
theorem wd_1529 : (Jvm.Cond.instanceMethod yX12_laysNext) ∈ TB := tw 1529 (by decide +kernel) (by decide +kernel)
theorem wd_1530 : (Cond.code yX12_laysNext cX12_laysNext 3 (Option.none : Option Jvm.ClassFile.FieldType)) ∈ TB := tw 1530 (by decide +kernel) (by decide +kernel)
theorem wd_1531 : (Cond.methodLink RX12 (288 : Nat) yX12_floatsTo) ∈ TB := tw 1531 (by decide +kernel) (by decide +kernel)
theorem wd_1533 : (Jvm.Cond.instanceMethod yX12_floatsTo) ∈ TB := tw 1533 (by decide +kernel) (by decide +kernel)
theorem wd_1534 : (Cond.code yX12_floatsTo cX12_floatsTo 7 (Option.some Jvm.ClassFile.FieldType.int)) ∈ TB := tw 1534 (by decide +kernel) (by decide +kernel)
theorem wd_1535 : (Cond.methodLink RX12 (292 : Nat) yX12_either) ∈ TB := tw 1535 (by decide +kernel) (by decide +kernel)
theorem wd_1536 : (Jvm.Cond.static yX12_either) ∈ TB := tw 1536 (by decide +kernel) (by decide +kernel)
theorem wd_1537 : (Cond.code yX12_either cX12_either 1 (Option.some Jvm.ClassFile.FieldType.int)) ∈ TB := tw 1537 (by decide +kernel) (by decide +kernel)
theorem wd_1538 : (Cond.methodLink RX12 (295 : Nat) yX12_isShut) ∈ TB := tw 1538 (by decide +kernel) (by decide +kernel)
theorem wd_1540 : (Jvm.Cond.instanceMethod yX12_isShut) ∈ TB := tw 1540 (by decide +kernel) (by decide +kernel)
theorem wd_1541 : (Cond.code yX12_isShut cX12_isShut 4 (Option.some Jvm.ClassFile.FieldType.boolean)) ∈ TB := tw 1541 (by decide +kernel) (by decide +kernel)
theorem wd_1655 : (Cond.methodLink RX12 (298 : Nat) yX12_isTime) ∈ TB := tw 1655 (by decide +kernel) (by decide +kernel)
theorem wd_1656 : (Jvm.Cond.static yX12_isTime) ∈ TB := tw 1656 (by decide +kernel) (by decide +kernel)
theorem wd_1657 : (Cond.code yX12_isTime cX12_isTime 1 (Option.some Jvm.ClassFile.FieldType.boolean)) ∈ TB := tw 1657 (by decide +kernel) (by decide +kernel)
theorem wd_1658 : (Cond.methodLink RX12 (301 : Nat) yX12_floats) ∈ TB := tw 1658 (by decide +kernel) (by decide +kernel)
theorem wd_1660 : (Jvm.Cond.instanceMethod yX12_floats) ∈ TB := tw 1660 (by decide +kernel) (by decide +kernel)
theorem wd_1661 : (Cond.code yX12_floats cX12_floats 6 (Option.some Jvm.ClassFile.FieldType.int)) ∈ TB := tw 1661 (by decide +kernel) (by decide +kernel)
theorem wd_1670 : (Cond.methodLink RX12 (304 : Nat) yX12_isPlace) ∈ TB := tw 1670 (by decide +kernel) (by decide +kernel)
theorem wd_1671 : (Jvm.Cond.static yX12_isPlace) ∈ TB := tw 1671 (by decide +kernel) (by decide +kernel)
theorem wd_1672 : (Cond.code yX12_isPlace cX12_isPlace 1 (Option.some Jvm.ClassFile.FieldType.boolean)) ∈ TB := tw 1672 (by decide +kernel) (by decide +kernel)
theorem wd_1681 : (Cond.methodLink RX12 (307 : Nat) yX12_isBoat) ∈ TB := tw 1681 (by decide +kernel) (by decide +kernel)
theorem wd_1683 : (Jvm.Cond.instanceMethod yX12_isBoat) ∈ TB := tw 1683 (by decide +kernel) (by decide +kernel)
theorem wd_1684 : (Cond.code yX12_isBoat cX12_isBoat 2 (Option.some Jvm.ClassFile.FieldType.boolean)) ∈ TB := tw 1684 (by decide +kernel) (by decide +kernel)
theorem wd_1697 : (Cond.methodLink RX12 (313 : Nat) yX12_isMoored) ∈ TB := tw 1697 (by decide +kernel) (by decide +kernel)
theorem wd_1699 : (Jvm.Cond.instanceMethod yX12_isMoored) ∈ TB := tw 1699 (by decide +kernel) (by decide +kernel)
theorem wd_1700 : (Cond.code yX12_isMoored cX12_isMoored 3 (Option.some Jvm.ClassFile.FieldType.boolean)) ∈ TB := tw 1700 (by decide +kernel) (by decide +kernel)
theorem dX12_flowOf_0g : (decode cX12_flowOf 0 = .ok (.aload_n 0, 1)) ∧ (decode cX12_flowOf 1 = .ok (.iload_n 1, 1)) ∧ (decode cX12_flowOf 2 = .ok (.iload_n 2, 1)) ∧ (decode cX12_flowOf 3 = .ok (.iconst (-1), 1)) ∧ (decode cX12_flowOf 4 = .ok (.iload_n 3, 1)) ∧ (decode cX12_flowOf 5 = .ok (.invokevirtual 270, 3)) ∧ (decode cX12_flowOf 8 = .ok (.aload_n 0, 1)) ∧ (decode cX12_flowOf 9 = .ok (.iconst 1, 1)) ∧ (decode cX12_flowOf 10 = .ok (.aload_n 0, 1)) ∧ (decode cX12_flowOf 11 = .ok (.getfield 20, 3)) := by decide +kernel
theorem dX12_flowOf_0 : decode cX12_flowOf 0 = .ok (.aload_n 0, 1) := dX12_flowOf_0g.1
theorem dX12_flowOf_1 : decode cX12_flowOf 1 = .ok (.iload_n 1, 1) := dX12_flowOf_0g.2.1
theorem dX12_flowOf_2 : decode cX12_flowOf 2 = .ok (.iload_n 2, 1) := dX12_flowOf_0g.2.2.1
theorem dX12_flowOf_3 : decode cX12_flowOf 3 = .ok (.iconst (-1), 1) := dX12_flowOf_0g.2.2.2.1
theorem dX12_flowOf_4 : decode cX12_flowOf 4 = .ok (.iload_n 3, 1) := dX12_flowOf_0g.2.2.2.2.1
theorem dX12_flowOf_5 : decode cX12_flowOf 5 = .ok (.invokevirtual 270, 3) := dX12_flowOf_0g.2.2.2.2.2.1
theorem dX12_flowOf_8 : decode cX12_flowOf 8 = .ok (.aload_n 0, 1) := dX12_flowOf_0g.2.2.2.2.2.2.1
theorem dX12_flowOf_9 : decode cX12_flowOf 9 = .ok (.iconst 1, 1) := dX12_flowOf_0g.2.2.2.2.2.2.2.1
theorem dX12_flowOf_10 : decode cX12_flowOf 10 = .ok (.aload_n 0, 1) := dX12_flowOf_0g.2.2.2.2.2.2.2.2.1
theorem dX12_flowOf_11 : decode cX12_flowOf 11 = .ok (.getfield 20, 3) := dX12_flowOf_0g.2.2.2.2.2.2.2.2.2
theorem dX12_flowOf_14g : (decode cX12_flowOf 14 = .ok (.sipush 306, 3)) ∧ (decode cX12_flowOf 17 = .ok (.iaload, 1)) ∧ (decode cX12_flowOf 18 = .ok (.aload_n 0, 1)) ∧ (decode cX12_flowOf 19 = .ok (.getfield 52, 3)) ∧ (decode cX12_flowOf 22 = .ok (.iconst 4, 1)) ∧ (decode cX12_flowOf 23 = .ok (.iaload, 1)) ∧ (decode cX12_flowOf 24 = .ok (.isub, 1)) ∧ (decode cX12_flowOf 25 = .ok (.i2l, 1)) ∧ (decode cX12_flowOf 26 = .ok (.invokevirtual 274, 3)) ∧ (decode cX12_flowOf 29 = .ok (.bipush (-6), 2)) := by decide +kernel
theorem dX12_flowOf_14 : decode cX12_flowOf 14 = .ok (.sipush 306, 3) := dX12_flowOf_14g.1
theorem dX12_flowOf_17 : decode cX12_flowOf 17 = .ok (.iaload, 1) := dX12_flowOf_14g.2.1
theorem dX12_flowOf_18 : decode cX12_flowOf 18 = .ok (.aload_n 0, 1) := dX12_flowOf_14g.2.2.1
theorem dX12_flowOf_19 : decode cX12_flowOf 19 = .ok (.getfield 52, 3) := dX12_flowOf_14g.2.2.2.1
theorem dX12_flowOf_22 : decode cX12_flowOf 22 = .ok (.iconst 4, 1) := dX12_flowOf_14g.2.2.2.2.1
theorem dX12_flowOf_23 : decode cX12_flowOf 23 = .ok (.iaload, 1) := dX12_flowOf_14g.2.2.2.2.2.1
theorem dX12_flowOf_24 : decode cX12_flowOf 24 = .ok (.isub, 1) := dX12_flowOf_14g.2.2.2.2.2.2.1
theorem dX12_flowOf_25 : decode cX12_flowOf 25 = .ok (.i2l, 1) := dX12_flowOf_14g.2.2.2.2.2.2.2.1
theorem dX12_flowOf_26 : decode cX12_flowOf 26 = .ok (.invokevirtual 274, 3) := dX12_flowOf_14g.2.2.2.2.2.2.2.2.1
theorem dX12_flowOf_29 : decode cX12_flowOf 29 = .ok (.bipush (-6), 2) := dX12_flowOf_14g.2.2.2.2.2.2.2.2.2
theorem dX12_flowOf_31g : (decode cX12_flowOf 31 = .ok (.bipush 6, 2)) ∧ (decode cX12_flowOf 33 = .ok (.invokestatic 278, 3)) ∧ (decode cX12_flowOf 36 = .ok (.l2i, 1)) ∧ (decode cX12_flowOf 37 = .ok (.ireturn, 1)) := by decide +kernel
theorem dX12_flowOf_31 : decode cX12_flowOf 31 = .ok (.bipush 6, 2) := dX12_flowOf_31g.1
theorem dX12_flowOf_33 : decode cX12_flowOf 33 = .ok (.invokestatic 278, 3) := dX12_flowOf_31g.2.1
theorem dX12_flowOf_36 : decode cX12_flowOf 36 = .ok (.l2i, 1) := dX12_flowOf_31g.2.2.1
theorem dX12_flowOf_37 : decode cX12_flowOf 37 = .ok (.ireturn, 1) := dX12_flowOf_31g.2.2.2
set_option maxHeartbeats 4000000 in
set_option maxRecDepth 100000 in
theorem c_X12_flowOf (l : Launch) (E : Nat → Nat) (D : va_G) (G : th_G) (h0 : Nat) (hG0 : G h0 = some (10, 0)) (x1 : Int32) (x2 : Int32) (x3 : Int32) (hx3 : (0 : Int) ≤ x3.toInt ∧ x3.toInt ≤ 1) : Met l yX12_flowOf (tb (.code yX12_flowOf cX12_flowOf 4 (some .int))) (rm 67) (va_Pc [.ref h0, .int x1, .int x2, .int x3] (PX E D G (fun H => True))) (QXi E D G (fun r H => True)) 0 0 (th_A G) := by
  refine Met.ofW (cc := cX12_flowOf) (maxL := 4) (ret := (some .int)) (by decide) rfl ?_
  intro p e s m args below meth c s₁ B hml hv
  obtain ⟨hav, ⟨hI, hN, hK⟩, hX⟩ := hv
  have hx := B.exec
  have hb := B.bytes
  have hr := B.returns
  have hts := atoms_spec (ws := tb (.code yX12_flowOf cX12_flowOf 4 (some .int))) B.pre
  have hown : s.vm.findClass RX12 = some m.cls := findClass_of_methodNamed B.named
  have hlocks := B.notSynchronized
  have hS : va_S (th_A G) s.heap s.heap [] := va_S.rf
  have hl := lv_entry ([.ref h0, .int x1, .int x2, .int x3]) (n := 4) (Nat.le_of_ble_eq_true rfl)
  rw [show entryFrame m args 4 = entryFrame m ([.ref h0, .int x1, .int x2, .int x3] : List Value).toArray 4 from by rw [hav], lg_entry_eq]
  generalize (lg_sl ([.ref h0, .int x1, .int x2, .int x3]) ++ List.replicate (4 - (lg_sl ([.ref h0, .int x1, .int x2, .int x3])).length) Slot.unset).toArray = ls at hl ⊢
  have hl : lv_has ls 4 [(0, .ref h0), (1, .int x1), (2, .int x2), (3, .int x3)] := hl
  generalize hR : (headSpec (tb (.code yX12_flowOf cX12_flowOf 4 (some .int))) (rm 67)).room = R
  have hR := hR.symm
  generalize hQ : MQ below (QXi E D G (fun r H => True)) args s 0 0 (th_A G) = QF
  have hQ := hQ.symm
  refine lv_aload_n hx hb dX12_flowOf_0 rfl (lv_at hl 0 rfl) ?_
  refine lv_iload_n hx hb dX12_flowOf_1 rfl (lv_at hl 1 rfl) ?_
  refine lv_iload_n hx hb dX12_flowOf_2 rfl (lv_at hl 2 rfl) ?_
  refine lv_iconst (v := (-1)) hx hb dX12_flowOf_3 (by decide) ?_
  refine lv_iload_n hx hb dX12_flowOf_4 rfl (lv_at hl 3 rfl) ?_
  refine mx_v (As := [.int x1, .int x2, .int (-1), .int x3]) (rest := []) (n := 4) (d := 3) ⟨hx, hb, hml, hown, hts⟩ (c_X12_sets l E D G h0 hG0 x1 x2 (-1) x3 ⟨by omega, by omega⟩) wd_1463 wd_1465 wp_45 wd_13 wd_1466 (by decide +kernel) ⟨by rw [hR]; exact Nat.le_of_ble_eq_true rfl, by rw [hR]; exact Nat.le_of_ble_eq_true rfl⟩ hI hN hK hS hG0 (trivial) rfl hl.1 rfl (Nat.le_of_ble_eq_true rfl) dX12_flowOf_5 ⟨Nat.zero_le _, Nat.zero_le _⟩ (fun H locs hI hp hS => ?_)
  refine lv_aload_n hx hb dX12_flowOf_8 rfl (lv_at hl 0 rfl) ?_
  refine lv_iconst (v := 1) hx hb dX12_flowOf_9 (by decide) ?_
  refine lv_aload_n hx hb dX12_flowOf_10 rfl (lv_at hl 0 rfl) ?_
  refine gmA hx hb hts inT12 hown hK hI List.not_mem_nil hG0 3 (by decide) (hts _ (tb_c wd_1236)) rfl rfl dX12_flowOf_11 (fun a2 hq3 hf4 => ?_)
  refine lv_sipush (v := 306) hx hb dX12_flowOf_14 (by decide) ?_
  obtain ⟨F5, hA6, hP7⟩ := om_1 hI hq3 List.not_mem_nil
  refine th_iald hx hb hK hA6 0 rfl (iv_in (X := (306)) (by decide) (by omega) (by omega)) dX12_flowOf_17 (fun v8 e9 => ?_)
  refine lv_aload_n hx hb dX12_flowOf_18 rfl (lv_at hl 0 rfl) ?_
  refine gmA hx hb hts inT12 hown hK hI List.not_mem_nil hG0 22 (by decide) (hts _ (tb_c wd_1255)) rfl rfl dX12_flowOf_19 (fun a10 hq11 hf12 => ?_)
  refine lv_iconst (v := 4) hx hb dX12_flowOf_22 (by decide) ?_
  obtain ⟨F13, hA14⟩ := om_0 hI hq11 List.not_mem_nil
  refine th_iald hx hb hK hA14 0 rfl (iv_in (X := (4)) (by decide) (by omega) (by omega)) dX12_flowOf_23 (fun v15 e16 => ?_)
  refine lv_isub hx hb dX12_flowOf_24 ?_
  refine lv_topi (fun v17 e18 => ?_)
  try have tv17 : v17.toInt = v8.toInt - v15.toInt := iv_sub rfl rfl e18 (by omega) (by omega)
  refine lv_i2l hx hb dX12_flowOf_25 rfl ?_
  refine lv_topl (fun l19 e20 => ?_)
  refine mx_l (As := [.int 1, .long l19]) (rest := []) (n := 2) (d := 66) ⟨hx, hb, hml, hown, hts⟩ (c_X12_told l E D G h0 hG0 1 l19) wd_1475 wd_1477 wp_48 wd_13 wd_1478 (by decide +kernel) ⟨by rw [hR]; exact Nat.le_of_ble_eq_true rfl, by rw [hR]; exact Nat.le_of_ble_eq_true rfl⟩ hI hN hK hS hG0 (trivial) rfl hl.1 rfl (Nat.le_of_ble_eq_true rfl) dX12_flowOf_26 ⟨Nat.zero_le _, Nat.zero_le _⟩ (fun r21 H locs hI hp hS => ?_)
  refine lv_bipush (v := (-6)) hx hb dX12_flowOf_29 (by decide) ?_
  refine lv_bipush (v := 6) hx hb dX12_flowOf_31 (by decide) ?_
  refine ms_l (As := [.long r21, .int (-6), .int 6]) (rest := []) (n := 3) (d := 0) ⟨hx, hb, hml, hown, hts⟩ (c_X12_nearest l H r21 (-6) 6) wd_1524 wd_1525 wd_13 wd_1526 (by decide +kernel) ⟨by rw [hR]; exact Nat.le_of_ble_eq_true rfl, by rw [hR]; exact Nat.le_of_ble_eq_true rfl⟩ hN hS rfl hl.1 rfl (Nat.le_of_ble_eq_true rfl) dX12_flowOf_33 ⟨Nat.zero_le _, Nat.zero_le _⟩ (fun r22 locs hp hS => ?_)
  refine lv_l2i hx hb dX12_flowOf_36 rfl ?_
  refine lv_topi (fun v23 e24 => ?_)
  have hpost : True := trivial
  rw [hQ]
  exact W.iret (v := v23) hx hb hr (fun t ht hW => ⟨⟨v23, v23, rfl, rfl, ⟨by rw [ht]; exact hI, hN.warm hW, va_K.moved hW.alike hK⟩, by first | (rw [ht]; exact hpost) | exact hpost⟩, hS.F ht⟩) hS.2.2 dX12_flowOf_37
theorem dX12_isShut_0g : (decode cX12_isShut 0 = .ok (.iconst 0, 1)) ∧ (decode cX12_isShut 1 = .ok (.istore_n 3, 1)) ∧ (decode cX12_isShut 2 = .ok (.iload_n 3, 1)) ∧ (decode cX12_isShut 3 = .ok (.aload_n 0, 1)) ∧ (decode cX12_isShut 4 = .ok (.getfield 20, 3)) ∧ (decode cX12_isShut 7 = .ok (.sipush 308, 3)) ∧ (decode cX12_isShut 10 = .ok (.iaload, 1)) ∧ (decode cX12_isShut 11 = .ok (.if_icmp .ge 59, 3)) ∧ (decode cX12_isShut 14 = .ok (.aload_n 0, 1)) ∧ (decode cX12_isShut 15 = .ok (.getfield 20, 3)) := by decide +kernel
theorem dX12_isShut_0 : decode cX12_isShut 0 = .ok (.iconst 0, 1) := dX12_isShut_0g.1
theorem dX12_isShut_1 : decode cX12_isShut 1 = .ok (.istore_n 3, 1) := dX12_isShut_0g.2.1
theorem dX12_isShut_2 : decode cX12_isShut 2 = .ok (.iload_n 3, 1) := dX12_isShut_0g.2.2.1
theorem dX12_isShut_3 : decode cX12_isShut 3 = .ok (.aload_n 0, 1) := dX12_isShut_0g.2.2.2.1
theorem dX12_isShut_4 : decode cX12_isShut 4 = .ok (.getfield 20, 3) := dX12_isShut_0g.2.2.2.2.1
theorem dX12_isShut_7 : decode cX12_isShut 7 = .ok (.sipush 308, 3) := dX12_isShut_0g.2.2.2.2.2.1
theorem dX12_isShut_10 : decode cX12_isShut 10 = .ok (.iaload, 1) := dX12_isShut_0g.2.2.2.2.2.2.1
theorem dX12_isShut_11 : decode cX12_isShut 11 = .ok (.if_icmp .ge 59, 3) := dX12_isShut_0g.2.2.2.2.2.2.2.1
theorem dX12_isShut_14 : decode cX12_isShut 14 = .ok (.aload_n 0, 1) := dX12_isShut_0g.2.2.2.2.2.2.2.2.1
theorem dX12_isShut_15 : decode cX12_isShut 15 = .ok (.getfield 20, 3) := dX12_isShut_0g.2.2.2.2.2.2.2.2.2
theorem dX12_isShut_18g : (decode cX12_isShut 18 = .ok (.bipush 106, 2)) ∧ (decode cX12_isShut 20 = .ok (.iconst 3, 1)) ∧ (decode cX12_isShut 21 = .ok (.iload_n 3, 1)) ∧ (decode cX12_isShut 22 = .ok (.imul, 1)) ∧ (decode cX12_isShut 23 = .ok (.iadd, 1)) ∧ (decode cX12_isShut 24 = .ok (.iaload, 1)) ∧ (decode cX12_isShut 25 = .ok (.iload_n 1, 1)) ∧ (decode cX12_isShut 26 = .ok (.if_icmp .ne 38, 3)) ∧ (decode cX12_isShut 29 = .ok (.iload_n 2, 1)) ∧ (decode cX12_isShut 30 = .ok (.aload_n 0, 1)) := by decide +kernel
theorem dX12_isShut_18 : decode cX12_isShut 18 = .ok (.bipush 106, 2) := dX12_isShut_18g.1
theorem dX12_isShut_20 : decode cX12_isShut 20 = .ok (.iconst 3, 1) := dX12_isShut_18g.2.1
theorem dX12_isShut_21 : decode cX12_isShut 21 = .ok (.iload_n 3, 1) := dX12_isShut_18g.2.2.1
theorem dX12_isShut_22 : decode cX12_isShut 22 = .ok (.imul, 1) := dX12_isShut_18g.2.2.2.1
theorem dX12_isShut_23 : decode cX12_isShut 23 = .ok (.iadd, 1) := dX12_isShut_18g.2.2.2.2.1
theorem dX12_isShut_24 : decode cX12_isShut 24 = .ok (.iaload, 1) := dX12_isShut_18g.2.2.2.2.2.1
theorem dX12_isShut_25 : decode cX12_isShut 25 = .ok (.iload_n 1, 1) := dX12_isShut_18g.2.2.2.2.2.2.1
theorem dX12_isShut_26 : decode cX12_isShut 26 = .ok (.if_icmp .ne 38, 3) := dX12_isShut_18g.2.2.2.2.2.2.2.1
theorem dX12_isShut_29 : decode cX12_isShut 29 = .ok (.iload_n 2, 1) := dX12_isShut_18g.2.2.2.2.2.2.2.2.1
theorem dX12_isShut_30 : decode cX12_isShut 30 = .ok (.aload_n 0, 1) := dX12_isShut_18g.2.2.2.2.2.2.2.2.2
theorem dX12_isShut_31g : (decode cX12_isShut 31 = .ok (.getfield 20, 3)) ∧ (decode cX12_isShut 34 = .ok (.bipush 106, 2)) ∧ (decode cX12_isShut 36 = .ok (.iconst 3, 1)) ∧ (decode cX12_isShut 37 = .ok (.iload_n 3, 1)) ∧ (decode cX12_isShut 38 = .ok (.imul, 1)) ∧ (decode cX12_isShut 39 = .ok (.iadd, 1)) ∧ (decode cX12_isShut 40 = .ok (.iconst 1, 1)) ∧ (decode cX12_isShut 41 = .ok (.iadd, 1)) ∧ (decode cX12_isShut 42 = .ok (.iaload, 1)) ∧ (decode cX12_isShut 43 = .ok (.aload_n 0, 1)) := by decide +kernel
theorem dX12_isShut_31 : decode cX12_isShut 31 = .ok (.getfield 20, 3) := dX12_isShut_31g.1
theorem dX12_isShut_34 : decode cX12_isShut 34 = .ok (.bipush 106, 2) := dX12_isShut_31g.2.1
theorem dX12_isShut_36 : decode cX12_isShut 36 = .ok (.iconst 3, 1) := dX12_isShut_31g.2.2.1
theorem dX12_isShut_37 : decode cX12_isShut 37 = .ok (.iload_n 3, 1) := dX12_isShut_31g.2.2.2.1
theorem dX12_isShut_38 : decode cX12_isShut 38 = .ok (.imul, 1) := dX12_isShut_31g.2.2.2.2.1
theorem dX12_isShut_39 : decode cX12_isShut 39 = .ok (.iadd, 1) := dX12_isShut_31g.2.2.2.2.2.1
theorem dX12_isShut_40 : decode cX12_isShut 40 = .ok (.iconst 1, 1) := dX12_isShut_31g.2.2.2.2.2.2.1
theorem dX12_isShut_41 : decode cX12_isShut 41 = .ok (.iadd, 1) := dX12_isShut_31g.2.2.2.2.2.2.2.1
theorem dX12_isShut_42 : decode cX12_isShut 42 = .ok (.iaload, 1) := dX12_isShut_31g.2.2.2.2.2.2.2.2.1
theorem dX12_isShut_43 : decode cX12_isShut 43 = .ok (.aload_n 0, 1) := dX12_isShut_31g.2.2.2.2.2.2.2.2.2
theorem dX12_isShut_44g : (decode cX12_isShut 44 = .ok (.getfield 20, 3)) ∧ (decode cX12_isShut 47 = .ok (.bipush 106, 2)) ∧ (decode cX12_isShut 49 = .ok (.iconst 3, 1)) ∧ (decode cX12_isShut 50 = .ok (.iload_n 3, 1)) ∧ (decode cX12_isShut 51 = .ok (.imul, 1)) ∧ (decode cX12_isShut 52 = .ok (.iadd, 1)) ∧ (decode cX12_isShut 53 = .ok (.iconst 2, 1)) ∧ (decode cX12_isShut 54 = .ok (.iadd, 1)) ∧ (decode cX12_isShut 55 = .ok (.iaload, 1)) ∧ (decode cX12_isShut 56 = .ok (.invokestatic 103, 3)) := by decide +kernel
theorem dX12_isShut_44 : decode cX12_isShut 44 = .ok (.getfield 20, 3) := dX12_isShut_44g.1
theorem dX12_isShut_47 : decode cX12_isShut 47 = .ok (.bipush 106, 2) := dX12_isShut_44g.2.1
theorem dX12_isShut_49 : decode cX12_isShut 49 = .ok (.iconst 3, 1) := dX12_isShut_44g.2.2.1
theorem dX12_isShut_50 : decode cX12_isShut 50 = .ok (.iload_n 3, 1) := dX12_isShut_44g.2.2.2.1
theorem dX12_isShut_51 : decode cX12_isShut 51 = .ok (.imul, 1) := dX12_isShut_44g.2.2.2.2.1
theorem dX12_isShut_52 : decode cX12_isShut 52 = .ok (.iadd, 1) := dX12_isShut_44g.2.2.2.2.2.1
theorem dX12_isShut_53 : decode cX12_isShut 53 = .ok (.iconst 2, 1) := dX12_isShut_44g.2.2.2.2.2.2.1
theorem dX12_isShut_54 : decode cX12_isShut 54 = .ok (.iadd, 1) := dX12_isShut_44g.2.2.2.2.2.2.2.1
theorem dX12_isShut_55 : decode cX12_isShut 55 = .ok (.iaload, 1) := dX12_isShut_44g.2.2.2.2.2.2.2.2.1
theorem dX12_isShut_56 : decode cX12_isShut 56 = .ok (.invokestatic 103, 3) := dX12_isShut_44g.2.2.2.2.2.2.2.2.2
theorem dX12_isShut_59g : (decode cX12_isShut 59 = .ok (.ifCond .eq 5, 3)) ∧ (decode cX12_isShut 62 = .ok (.iconst 1, 1)) ∧ (decode cX12_isShut 63 = .ok (.ireturn, 1)) ∧ (decode cX12_isShut 64 = .ok (.iinc 3 1, 3)) ∧ (decode cX12_isShut 67 = .ok (.goto (-65), 3)) ∧ (decode cX12_isShut 70 = .ok (.iconst 0, 1)) ∧ (decode cX12_isShut 71 = .ok (.ireturn, 1)) := by decide +kernel
theorem dX12_isShut_59 : decode cX12_isShut 59 = .ok (.ifCond .eq 5, 3) := dX12_isShut_59g.1
theorem dX12_isShut_62 : decode cX12_isShut 62 = .ok (.iconst 1, 1) := dX12_isShut_59g.2.1
theorem dX12_isShut_63 : decode cX12_isShut 63 = .ok (.ireturn, 1) := dX12_isShut_59g.2.2.1
theorem dX12_isShut_64 : decode cX12_isShut 64 = .ok (.iinc 3 1, 3) := dX12_isShut_59g.2.2.2.1
theorem dX12_isShut_67 : decode cX12_isShut 67 = .ok (.goto (-65), 3) := dX12_isShut_59g.2.2.2.2.1
theorem dX12_isShut_70 : decode cX12_isShut 70 = .ok (.iconst 0, 1) := dX12_isShut_59g.2.2.2.2.2.1
theorem dX12_isShut_71 : decode cX12_isShut 71 = .ok (.ireturn, 1) := dX12_isShut_59g.2.2.2.2.2.2
set_option maxHeartbeats 4000000 in
set_option maxRecDepth 100000 in
theorem c_X12_isShut (l : Launch) (E : Nat → Nat) (D : va_G) (G : th_G) (H0 : Heap) (h0 : Nat) (hG0 : G h0 = some (10, 0)) (x1 : Int32) (x2 : Int32) : Met l yX12_isShut (tb (.code yX12_isShut cX12_isShut 4 (some .boolean))) (rm 1) (va_Pc [.ref h0, .int x1, .int x2] (PR E D G H0)) (QS H0 (fun r => 0 ≤ (r : Int32).toInt ∧ (r : Int32).toInt ≤ 1)) 0 0 (fun _ => False) := by
  refine Met.ofW (cc := cX12_isShut) (maxL := 4) (ret := (some .boolean)) (by decide) rfl ?_
  intro p e s m args below meth c s₁ B hml hv
  obtain ⟨hav, rfl, hI, hN, hK⟩ := hv
  have hx := B.exec
  have hb := B.bytes
  have hr := B.returns
  have hts := atoms_spec (ws := tb (.code yX12_isShut cX12_isShut 4 (some .boolean))) B.pre
  have hown : s.vm.findClass RX12 = some m.cls := findClass_of_methodNamed B.named
  have hlocks := B.notSynchronized
  have hS : va_S (fun _ => False) s.heap s.heap [] := va_S.rf
  have hl := lv_entry ([.ref h0, .int x1, .int x2]) (n := 4) (Nat.le_of_ble_eq_true rfl)
  rw [show entryFrame m args 4 = entryFrame m ([.ref h0, .int x1, .int x2] : List Value).toArray 4 from by rw [hav], lg_entry_eq]
  generalize (lg_sl ([.ref h0, .int x1, .int x2]) ++ List.replicate (4 - (lg_sl ([.ref h0, .int x1, .int x2])).length) Slot.unset).toArray = ls at hl ⊢
  have hl : lv_has ls 4 [(0, .ref h0), (1, .int x1), (2, .int x2)] := hl
  generalize hR : (headSpec (tb (.code yX12_isShut cX12_isShut 4 (some .boolean))) (rm 1)).room = R
  have hR := hR.symm
  generalize hQ : MQ below (QS s.heap (fun r => 0 ≤ (r : Int32).toInt ∧ (r : Int32).toInt ≤ 1)) args s 0 0 (fun _ => False) = QF
  have hQ := hQ.symm
  obtain ⟨q_3, hq_3, hf_3⟩ := fr_of hI hG0 3 (by decide) (kd := (1, 5123)) rfl
  obtain ⟨F_3, hA_3, hP_3⟩ := om_1 hI hq_3 List.not_mem_nil
  have J_2 : ∀ (nn : Nat) (locs : List Loc) (ls : Array Slot) (v715 : Int32) , (Int.toNat (8 - v715.toInt) = nn) → lv_has ls 4 [(3, .int v715), (0, .ref h0), (1, .int x1), (2, .int x2)] → ((0 : Int) ≤ v715.toInt ∧ v715.toInt ≤ 8) → va_S (fun _ => False) s.heap s.heap locs → W p l e R s m args below meth c s.heap locs 0 0 QF (F0 m 2 ls []) := by
    intro nn
    induction nn using Nat.strongRecOn with
    | ind nn ih_2 =>
      intro locs ls v715  hm hl k716 hS
      refine lv_iload_n hx hb dX12_isShut_2 rfl (lv_at hl 0 rfl) ?_
      refine lv_aload_n hx hb dX12_isShut_3 rfl (lv_at hl 1 rfl) ?_
      refine gmA hx hb hts inT12 hown hK hI List.not_mem_nil hG0 3 (by decide) (hts _ (tb_c wd_1236)) rfl rfl dX12_isShut_4 (fun a717 hq718 hf719 => ?_)
      obtain rfl := fr.uniq (by decide) hf_3 hf719
      refine lv_sipush (v := 308) hx hb dX12_isShut_7 (by decide) ?_
      refine th_iald hx hb hK hA_3 0 rfl (iv_in (X := (308)) (by decide) (by omega) (by omega)) dX12_isShut_10 (fun v720 e721 => ?_)
      have k722 := kg_m308 (kOk.get (i := 308) hP_3 e721 (X := (308)) (by decide) (by omega) (by omega)) (by omega) (by omega) (by omega)
      refine lv_icmp_ge (tgt := 70) hx hb dX12_isShut_11 (by decide) (fun c723 => ?_) (fun c723 => ?_)
      · skip
        have k724 := iv_le (X := v720.toInt) (Y := v715.toInt) rfl rfl c723
        refine lv_iconst (v := 0) hx hb dX12_isShut_70 (by decide) ?_
        have hpost : 0 ≤ (0 : Int32).toInt ∧ (0 : Int32).toInt ≤ 1 := by first | decide | omega
        rw [hQ]
        exact W.zret (v := 0) hx hb hr (by decide) (fun t ht hW => ⟨⟨0, (), rfl, hpost, ht⟩, hS.F ht⟩) hS.2.2 dX12_isShut_71
      · skip
        have k725 := iv_nle (X := v720.toInt) (Y := v715.toInt) rfl rfl c723
        refine lv_aload_n hx hb dX12_isShut_14 rfl (lv_at hl 1 rfl) ?_
        refine gmA hx hb hts inT12 hown hK hI List.not_mem_nil hG0 3 (by decide) (hts _ (tb_c wd_1236)) rfl rfl dX12_isShut_15 (fun a726 hq727 hf728 => ?_)
        obtain rfl := fr.uniq (by decide) hf_3 hf728
        refine lv_bipush (v := 106) hx hb dX12_isShut_18 (by decide) ?_
        refine lv_iconst (v := 3) hx hb dX12_isShut_20 (by decide) ?_
        refine lv_iload_n hx hb dX12_isShut_21 rfl (lv_at hl 0 rfl) ?_
        refine lv_imul hx hb dX12_isShut_22 ?_
        refine lv_topi (fun v729 e730 => ?_)
        have tv729 : v729.toInt = (3) * v715.toInt := iv_mul (by decide) rfl e730 (by omega) (by omega)
        refine lv_iadd hx hb dX12_isShut_23 ?_
        refine lv_topi (fun v731 e732 => ?_)
        have tv731 : v731.toInt = (106) + v729.toInt := iv_add (by decide) rfl e732 (by omega) (by omega)
        refine th_iald hx hb hK hA_3 0 rfl (iv_in (X := v731.toInt) rfl (by omega) (by omega)) dX12_isShut_24 (fun v733 e734 => ?_)
        refine lv_iload_n hx hb dX12_isShut_25 rfl (lv_at hl 2 rfl) ?_
        have k735 := iv_lo v733
        have k736 := iv_hi v733
        have k737 := iv_lo x1
        have k738 := iv_hi x1
        refine lv_icmp_ne (tgt := 64) hx hb dX12_isShut_26 (by decide) (fun c739 => ?_) (fun c739 => ?_)
        · skip
          have k740 := iv_ne (X := v733.toInt) (Y := x1.toInt) rfl rfl c739
          obtain ⟨v741, e742⟩ : ∃ y : Int32, y = v715 + (1) := ⟨_, rfl⟩
          have tv741 : v741.toInt = v715.toInt + (1) := iv_add rfl (by decide) e742 (by omega) (by omega)
          refine lv_iinc (v := v741) (lv' := [(3, .int v741), (0, .ref h0), (1, .int x1), (2, .int x2)]) hx hb dX12_isShut_64 hl (k := 0) rfl (by rw [e742]; rfl) (by decide) rfl (fun ls hl => ?_)
          refine lv_goto (tgt := 2) hx hb dX12_isShut_67 (by decide) ?_
          exact ih_2 _ (by omega) locs ls v741  rfl (lv_sub hl [0, 1, 2, 3] rfl) ⟨by omega, by omega⟩ hS
        · skip
          have k743 := iv_eq (X := v733.toInt) (Y := x1.toInt) rfl rfl c739
          refine lv_iload_n hx hb dX12_isShut_29 rfl (lv_at hl 3 rfl) ?_
          refine lv_aload_n hx hb dX12_isShut_30 rfl (lv_at hl 1 rfl) ?_
          refine gmA hx hb hts inT12 hown hK hI List.not_mem_nil hG0 3 (by decide) (hts _ (tb_c wd_1236)) rfl rfl dX12_isShut_31 (fun a744 hq745 hf746 => ?_)
          obtain rfl := fr.uniq (by decide) hf_3 hf746
          refine lv_bipush (v := 106) hx hb dX12_isShut_34 (by decide) ?_
          refine lv_iconst (v := 3) hx hb dX12_isShut_36 (by decide) ?_
          refine lv_iload_n hx hb dX12_isShut_37 rfl (lv_at hl 0 rfl) ?_
          refine lv_imul hx hb dX12_isShut_38 ?_
          refine lv_topi (fun v747 e748 => ?_)
          have tv747 : v747.toInt = (3) * v715.toInt := iv_mul (by decide) rfl e748 (by omega) (by omega)
          refine lv_iadd hx hb dX12_isShut_39 ?_
          refine lv_topi (fun v749 e750 => ?_)
          have tv749 : v749.toInt = (106) + v747.toInt := iv_add (by decide) rfl e750 (by omega) (by omega)
          refine lv_iconst (v := 1) hx hb dX12_isShut_40 (by decide) ?_
          refine lv_iadd hx hb dX12_isShut_41 ?_
          refine lv_topi (fun v751 e752 => ?_)
          have tv751 : v751.toInt = v749.toInt + (1) := iv_add rfl (by decide) e752 (by omega) (by omega)
          refine th_iald hx hb hK hA_3 0 rfl (iv_in (X := v751.toInt) rfl (by omega) (by omega)) dX12_isShut_42 (fun v753 e754 => ?_)
          refine lv_aload_n hx hb dX12_isShut_43 rfl (lv_at hl 1 rfl) ?_
          refine gmA hx hb hts inT12 hown hK hI List.not_mem_nil hG0 3 (by decide) (hts _ (tb_c wd_1236)) rfl rfl dX12_isShut_44 (fun a755 hq756 hf757 => ?_)
          obtain rfl := fr.uniq (by decide) hf_3 hf757
          refine lv_bipush (v := 106) hx hb dX12_isShut_47 (by decide) ?_
          refine lv_iconst (v := 3) hx hb dX12_isShut_49 (by decide) ?_
          refine lv_iload_n hx hb dX12_isShut_50 rfl (lv_at hl 0 rfl) ?_
          refine lv_imul hx hb dX12_isShut_51 ?_
          refine lv_topi (fun v758 e759 => ?_)
          have tv758 : v758.toInt = (3) * v715.toInt := iv_mul (by decide) rfl e759 (by omega) (by omega)
          refine lv_iadd hx hb dX12_isShut_52 ?_
          refine lv_topi (fun v760 e761 => ?_)
          have tv760 : v760.toInt = (106) + v758.toInt := iv_add (by decide) rfl e761 (by omega) (by omega)
          refine lv_iconst (v := 2) hx hb dX12_isShut_53 (by decide) ?_
          refine lv_iadd hx hb dX12_isShut_54 ?_
          refine lv_topi (fun v762 e763 => ?_)
          have tv762 : v762.toInt = v760.toInt + (2) := iv_add rfl (by decide) e763 (by omega) (by omega)
          refine th_iald hx hb hK hA_3 0 rfl (iv_in (X := v762.toInt) rfl (by omega) (by omega)) dX12_isShut_55 (fun v764 e765 => ?_)
          refine th_cSs (As := [.int x2, .int v753, .int v764]) (rest := []) (n := 3) (d := 0) ⟨hx, hb, hml, hown, hts⟩ (c_X12_lies l s.heap x2 v753 v764) wd_1395 wd_1396 wd_13 wd_1397 (by decide +kernel) ⟨by rw [hR]; exact Nat.le_of_ble_eq_true rfl, by rw [hR]; exact Nat.le_of_ble_eq_true rfl⟩ hN hS rfl hl.1 rfl (Nat.le_of_ble_eq_true rfl) dX12_isShut_56 ⟨Nat.zero_le _, Nat.zero_le _⟩ (fun r766 locs hp hS => ?_)
          rcases hp with ⟨rfl, hp⟩ | ⟨rfl, hp⟩
          · skip
            try simp only [rg, not_and, Int.not_le] at hp
            have hp767 := hp
            refine lv_if_eq (tgt := 64) hx hb dX12_isShut_59 (by decide) (fun c => absurd c (by decide)) (fun _ => ?_)
            refine lv_iconst (v := 1) hx hb dX12_isShut_62 (by decide) ?_
            have hpost : 0 ≤ (1 : Int32).toInt ∧ (1 : Int32).toInt ≤ 1 := by first | decide | omega
            rw [hQ]
            exact W.zret (v := 1) hx hb hr (by decide) (fun t ht hW => ⟨⟨1, (), rfl, hpost, ht⟩, hS.F ht⟩) hS.2.2 dX12_isShut_63
          · skip
            try simp only [rg, not_and, Int.not_le] at hp
            have hp768 := hp
            refine lv_if_eq (tgt := 64) hx hb dX12_isShut_59 (by decide) (fun _ => ?_) (fun c => absurd c (by decide))
            obtain ⟨v769, e770⟩ : ∃ y : Int32, y = v715 + (1) := ⟨_, rfl⟩
            have tv769 : v769.toInt = v715.toInt + (1) := iv_add rfl (by decide) e770 (by omega) (by omega)
            refine lv_iinc (v := v769) (lv' := [(3, .int v769), (0, .ref h0), (1, .int x1), (2, .int x2)]) hx hb dX12_isShut_64 hl (k := 0) rfl (by rw [e770]; rfl) (by decide) rfl (fun ls hl => ?_)
            refine lv_goto (tgt := 2) hx hb dX12_isShut_67 (by decide) ?_
            exact ih_2 _ (by omega) locs ls v769  rfl (lv_sub hl [0, 1, 2, 3] rfl) ⟨by omega, by omega⟩ hS
  refine lv_iconst (v := 0) hx hb dX12_isShut_0 (by decide) ?_
  refine lv_istore_n (lv' := [(3, .int 0), (0, .ref h0), (1, .int x1), (2, .int x2)]) hx hb dX12_isShut_1 rfl hl (by decide) rfl (fun ls hl => ?_)
  have zl : (0 : Int32).toInt = 0 := by decide
  exact J_2 _ [] ls 0  rfl (lv_sub hl [0, 1, 2, 3] rfl) ⟨by decide, by decide⟩ hS
theorem dX12_floatsTo_0g : (decode cX12_floatsTo 0 = .ok (.iload_n 1, 1)) ∧ (decode cX12_floatsTo 1 = .ok (.istore 4, 2)) ∧ (decode cX12_floatsTo 3 = .ok (.iconst 0, 1)) ∧ (decode cX12_floatsTo 4 = .ok (.istore 5, 2)) ∧ (decode cX12_floatsTo 6 = .ok (.iload 5, 2)) ∧ (decode cX12_floatsTo 8 = .ok (.iload_n 3, 1)) ∧ (decode cX12_floatsTo 9 = .ok (.invokestatic 292, 3)) ∧ (decode cX12_floatsTo 12 = .ok (.if_icmp .ge 64, 3)) ∧ (decode cX12_floatsTo 15 = .ok (.iload 4, 2)) ∧ (decode cX12_floatsTo 17 = .ok (.bipush 24, 2)) := by decide +kernel
theorem dX12_floatsTo_0 : decode cX12_floatsTo 0 = .ok (.iload_n 1, 1) := dX12_floatsTo_0g.1
theorem dX12_floatsTo_1 : decode cX12_floatsTo 1 = .ok (.istore 4, 2) := dX12_floatsTo_0g.2.1
theorem dX12_floatsTo_3 : decode cX12_floatsTo 3 = .ok (.iconst 0, 1) := dX12_floatsTo_0g.2.2.1
theorem dX12_floatsTo_4 : decode cX12_floatsTo 4 = .ok (.istore 5, 2) := dX12_floatsTo_0g.2.2.2.1
theorem dX12_floatsTo_6 : decode cX12_floatsTo 6 = .ok (.iload 5, 2) := dX12_floatsTo_0g.2.2.2.2.1
theorem dX12_floatsTo_8 : decode cX12_floatsTo 8 = .ok (.iload_n 3, 1) := dX12_floatsTo_0g.2.2.2.2.2.1
theorem dX12_floatsTo_9 : decode cX12_floatsTo 9 = .ok (.invokestatic 292, 3) := dX12_floatsTo_0g.2.2.2.2.2.2.1
theorem dX12_floatsTo_12 : decode cX12_floatsTo 12 = .ok (.if_icmp .ge 64, 3) := dX12_floatsTo_0g.2.2.2.2.2.2.2.1
theorem dX12_floatsTo_15 : decode cX12_floatsTo 15 = .ok (.iload 4, 2) := dX12_floatsTo_0g.2.2.2.2.2.2.2.2.1
theorem dX12_floatsTo_17 : decode cX12_floatsTo 17 = .ok (.bipush 24, 2) := dX12_floatsTo_0g.2.2.2.2.2.2.2.2.2
theorem dX12_floatsTo_19g : (decode cX12_floatsTo 19 = .ok (.if_icmp .ge 57, 3)) ∧ (decode cX12_floatsTo 22 = .ok (.iload_n 3, 1)) ∧ (decode cX12_floatsTo 23 = .ok (.ifCond .le 10, 3)) ∧ (decode cX12_floatsTo 26 = .ok (.iload 4, 2)) ∧ (decode cX12_floatsTo 28 = .ok (.iconst 1, 1)) ∧ (decode cX12_floatsTo 29 = .ok (.iadd, 1)) ∧ (decode cX12_floatsTo 30 = .ok (.goto 7, 3)) ∧ (decode cX12_floatsTo 33 = .ok (.iload 4, 2)) ∧ (decode cX12_floatsTo 35 = .ok (.iconst 1, 1)) ∧ (decode cX12_floatsTo 36 = .ok (.isub, 1)) := by decide +kernel
theorem dX12_floatsTo_19 : decode cX12_floatsTo 19 = .ok (.if_icmp .ge 57, 3) := dX12_floatsTo_19g.1
theorem dX12_floatsTo_22 : decode cX12_floatsTo 22 = .ok (.iload_n 3, 1) := dX12_floatsTo_19g.2.1
theorem dX12_floatsTo_23 : decode cX12_floatsTo 23 = .ok (.ifCond .le 10, 3) := dX12_floatsTo_19g.2.2.1
theorem dX12_floatsTo_26 : decode cX12_floatsTo 26 = .ok (.iload 4, 2) := dX12_floatsTo_19g.2.2.2.1
theorem dX12_floatsTo_28 : decode cX12_floatsTo 28 = .ok (.iconst 1, 1) := dX12_floatsTo_19g.2.2.2.2.1
theorem dX12_floatsTo_29 : decode cX12_floatsTo 29 = .ok (.iadd, 1) := dX12_floatsTo_19g.2.2.2.2.2.1
theorem dX12_floatsTo_30 : decode cX12_floatsTo 30 = .ok (.goto 7, 3) := dX12_floatsTo_19g.2.2.2.2.2.2.1
theorem dX12_floatsTo_33 : decode cX12_floatsTo 33 = .ok (.iload 4, 2) := dX12_floatsTo_19g.2.2.2.2.2.2.2.1
theorem dX12_floatsTo_35 : decode cX12_floatsTo 35 = .ok (.iconst 1, 1) := dX12_floatsTo_19g.2.2.2.2.2.2.2.2.1
theorem dX12_floatsTo_36 : decode cX12_floatsTo 36 = .ok (.isub, 1) := dX12_floatsTo_19g.2.2.2.2.2.2.2.2.2
theorem dX12_floatsTo_37g : (decode cX12_floatsTo 37 = .ok (.istore 6, 2)) ∧ (decode cX12_floatsTo 39 = .ok (.iload 6, 2)) ∧ (decode cX12_floatsTo 41 = .ok (.ifCond .lt 22, 3)) ∧ (decode cX12_floatsTo 44 = .ok (.aload_n 0, 1)) ∧ (decode cX12_floatsTo 45 = .ok (.iload_n 3, 1)) ∧ (decode cX12_floatsTo 46 = .ok (.ifCond .le 8, 3)) ∧ (decode cX12_floatsTo 49 = .ok (.iload 4, 2)) ∧ (decode cX12_floatsTo 51 = .ok (.goto 5, 3)) ∧ (decode cX12_floatsTo 54 = .ok (.iload 6, 2)) ∧ (decode cX12_floatsTo 56 = .ok (.iload_n 2, 1)) := by decide +kernel
theorem dX12_floatsTo_37 : decode cX12_floatsTo 37 = .ok (.istore 6, 2) := dX12_floatsTo_37g.1
theorem dX12_floatsTo_39 : decode cX12_floatsTo 39 = .ok (.iload 6, 2) := dX12_floatsTo_37g.2.1
theorem dX12_floatsTo_41 : decode cX12_floatsTo 41 = .ok (.ifCond .lt 22, 3) := dX12_floatsTo_37g.2.2.1
theorem dX12_floatsTo_44 : decode cX12_floatsTo 44 = .ok (.aload_n 0, 1) := dX12_floatsTo_37g.2.2.2.1
theorem dX12_floatsTo_45 : decode cX12_floatsTo 45 = .ok (.iload_n 3, 1) := dX12_floatsTo_37g.2.2.2.2.1
theorem dX12_floatsTo_46 : decode cX12_floatsTo 46 = .ok (.ifCond .le 8, 3) := dX12_floatsTo_37g.2.2.2.2.2.1
theorem dX12_floatsTo_49 : decode cX12_floatsTo 49 = .ok (.iload 4, 2) := dX12_floatsTo_37g.2.2.2.2.2.2.1
theorem dX12_floatsTo_51 : decode cX12_floatsTo 51 = .ok (.goto 5, 3) := dX12_floatsTo_37g.2.2.2.2.2.2.2.1
theorem dX12_floatsTo_54 : decode cX12_floatsTo 54 = .ok (.iload 6, 2) := dX12_floatsTo_37g.2.2.2.2.2.2.2.2.1
theorem dX12_floatsTo_56 : decode cX12_floatsTo 56 = .ok (.iload_n 2, 1) := dX12_floatsTo_37g.2.2.2.2.2.2.2.2.2
theorem dX12_floatsTo_57g : (decode cX12_floatsTo 57 = .ok (.invokevirtual 295, 3)) ∧ (decode cX12_floatsTo 60 = .ok (.ifCond .eq 6, 3)) ∧ (decode cX12_floatsTo 63 = .ok (.iload 4, 2)) ∧ (decode cX12_floatsTo 65 = .ok (.ireturn, 1)) ∧ (decode cX12_floatsTo 66 = .ok (.iload 6, 2)) ∧ (decode cX12_floatsTo 68 = .ok (.istore 4, 2)) ∧ (decode cX12_floatsTo 70 = .ok (.iinc 5 1, 3)) ∧ (decode cX12_floatsTo 73 = .ok (.goto (-67), 3)) ∧ (decode cX12_floatsTo 76 = .ok (.iload 4, 2)) ∧ (decode cX12_floatsTo 78 = .ok (.ireturn, 1)) := by decide +kernel
theorem dX12_floatsTo_57 : decode cX12_floatsTo 57 = .ok (.invokevirtual 295, 3) := dX12_floatsTo_57g.1
theorem dX12_floatsTo_60 : decode cX12_floatsTo 60 = .ok (.ifCond .eq 6, 3) := dX12_floatsTo_57g.2.1
theorem dX12_floatsTo_63 : decode cX12_floatsTo 63 = .ok (.iload 4, 2) := dX12_floatsTo_57g.2.2.1
theorem dX12_floatsTo_65 : decode cX12_floatsTo 65 = .ok (.ireturn, 1) := dX12_floatsTo_57g.2.2.2.1
theorem dX12_floatsTo_66 : decode cX12_floatsTo 66 = .ok (.iload 6, 2) := dX12_floatsTo_57g.2.2.2.2.1
theorem dX12_floatsTo_68 : decode cX12_floatsTo 68 = .ok (.istore 4, 2) := dX12_floatsTo_57g.2.2.2.2.2.1
theorem dX12_floatsTo_70 : decode cX12_floatsTo 70 = .ok (.iinc 5 1, 3) := dX12_floatsTo_57g.2.2.2.2.2.2.1
theorem dX12_floatsTo_73 : decode cX12_floatsTo 73 = .ok (.goto (-67), 3) := dX12_floatsTo_57g.2.2.2.2.2.2.2.1
theorem dX12_floatsTo_76 : decode cX12_floatsTo 76 = .ok (.iload 4, 2) := dX12_floatsTo_57g.2.2.2.2.2.2.2.2.1
theorem dX12_floatsTo_78 : decode cX12_floatsTo 78 = .ok (.ireturn, 1) := dX12_floatsTo_57g.2.2.2.2.2.2.2.2.2
set_option maxHeartbeats 4000000 in
set_option maxRecDepth 100000 in
theorem c_X12_floatsTo (l : Launch) (E : Nat → Nat) (D : va_G) (G : th_G) (H0 : Heap) (h0 : Nat) (hG0 : G h0 = some (10, 0)) (x1 : Int32) (x2 : Int32) (x3 : Int32) (hx1 : (0 : Int) ≤ x1.toInt ∧ x1.toInt ≤ 24) : Met l yX12_floatsTo (tb (.code yX12_floatsTo cX12_floatsTo 7 (some .int))) (rm 2) (va_Pc [.ref h0, .int x1, .int x2, .int x3] (PR E D G H0)) (QS H0 (fun r => 0 ≤ (r : Int32).toInt ∧ (r : Int32).toInt ≤ 24)) 0 0 (fun _ => False) := by
  refine Met.ofW (cc := cX12_floatsTo) (maxL := 7) (ret := (some .int)) (by decide) rfl ?_
  intro p e s m args below meth c s₁ B hml hv
  obtain ⟨hav, rfl, hI, hN, hK⟩ := hv
  have hx := B.exec
  have hb := B.bytes
  have hr := B.returns
  have hts := atoms_spec (ws := tb (.code yX12_floatsTo cX12_floatsTo 7 (some .int))) B.pre
  have hown : s.vm.findClass RX12 = some m.cls := findClass_of_methodNamed B.named
  have hlocks := B.notSynchronized
  have hS : va_S (fun _ => False) s.heap s.heap [] := va_S.rf
  have hl := lv_entry ([.ref h0, .int x1, .int x2, .int x3]) (n := 7) (Nat.le_of_ble_eq_true rfl)
  rw [show entryFrame m args 7 = entryFrame m ([.ref h0, .int x1, .int x2, .int x3] : List Value).toArray 7 from by rw [hav], lg_entry_eq]
  generalize (lg_sl ([.ref h0, .int x1, .int x2, .int x3]) ++ List.replicate (7 - (lg_sl ([.ref h0, .int x1, .int x2, .int x3])).length) Slot.unset).toArray = ls at hl ⊢
  have hl : lv_has ls 7 [(0, .ref h0), (1, .int x1), (2, .int x2), (3, .int x3)] := hl
  generalize hR : (headSpec (tb (.code yX12_floatsTo cX12_floatsTo 7 (some .int))) (rm 2)).room = R
  have hR := hR.symm
  generalize hQ : MQ below (QS s.heap (fun r => 0 ≤ (r : Int32).toInt ∧ (r : Int32).toInt ≤ 24)) args s 0 0 (fun _ => False) = QF
  have hQ := hQ.symm
  obtain ⟨q_3, hq_3, hf_3⟩ := fr_of hI hG0 3 (by decide) (kd := (1, 5123)) rfl
  obtain ⟨F_3, hA_3, hP_3⟩ := om_1 hI hq_3 List.not_mem_nil
  have J_6 : ∀ (nn : Nat) (locs : List Loc) (ls : Array Slot) (v1485 : Int32) (v1486 : Int32) , (Int.toNat (2147483647 - v1485.toInt) = nn) → lv_has ls 7 [(5, .int v1485), (4, .int v1486), (0, .ref h0), (1, .int x1), (2, .int x2), (3, .int x3)] → ((0 : Int) ≤ v1485.toInt) → ((0 : Int) ≤ v1486.toInt ∧ v1486.toInt ≤ 24) → ((0 : Int) ≤ x1.toInt ∧ x1.toInt ≤ 24) → va_S (fun _ => False) s.heap s.heap locs → W p l e R s m args below meth c s.heap locs 0 0 QF (F0 m 6 ls []) := by
    intro nn
    induction nn using Nat.strongRecOn with
    | ind nn ih_6 =>
      intro locs ls v1485 v1486  hm hl k1487 k1488 k1489 hS
      refine lv_iload hx hb dX12_floatsTo_6 (lv_at hl 0 rfl) ?_
      refine lv_iload_n hx hb dX12_floatsTo_8 rfl (lv_at hl 5 rfl) ?_
      refine th_cSs (As := [.int x3]) (rest := [.int v1485]) (n := 1) (d := 0) ⟨hx, hb, hml, hown, hts⟩ (c_X12_either l s.heap x3) wd_1535 wd_1536 wd_13 wd_1537 (by decide +kernel) ⟨by rw [hR]; exact Nat.le_of_ble_eq_true rfl, by rw [hR]; exact Nat.le_of_ble_eq_true rfl⟩ hN hS rfl hl.1 rfl (Nat.le_of_ble_eq_true rfl) dX12_floatsTo_9 ⟨Nat.zero_le _, Nat.zero_le _⟩ (fun r1490 locs hp hS => ?_)
      have k1491 := iv_lo v1485
      have k1492 := iv_hi v1485
      have k1493 := iv_lo r1490
      have k1494 := iv_hi r1490
      refine lv_icmp_ge (tgt := 76) hx hb dX12_floatsTo_12 (by decide) (fun c1495 => ?_) (fun c1495 => ?_)
      · skip
        have k1496 := iv_le (X := r1490.toInt) (Y := v1485.toInt) rfl rfl c1495
        refine lv_iload hx hb dX12_floatsTo_76 (lv_at hl 1 rfl) ?_
        have hpost : 0 ≤ (v1486 : Int32).toInt ∧ (v1486 : Int32).toInt ≤ 24 := by first | decide | omega
        rw [hQ]
        exact W.iret (v := v1486) hx hb hr (fun t ht hW => ⟨⟨v1486, (), rfl, hpost, ht⟩, hS.F ht⟩) hS.2.2 dX12_floatsTo_78
      · skip
        have k1497 := iv_nle (X := r1490.toInt) (Y := v1485.toInt) rfl rfl c1495
        refine lv_iload hx hb dX12_floatsTo_15 (lv_at hl 1 rfl) ?_
        refine lv_bipush (v := 24) hx hb dX12_floatsTo_17 (by decide) ?_
        refine lv_icmp_ge (tgt := 76) hx hb dX12_floatsTo_19 (by decide) (fun c1498 => ?_) (fun c1498 => ?_)
        · skip
          have k1499 := iv_le (X := (24)) (Y := v1486.toInt) (by decide) rfl c1498
          refine lv_iload hx hb dX12_floatsTo_76 (lv_at hl 1 rfl) ?_
          have hpost : 0 ≤ (v1486 : Int32).toInt ∧ (v1486 : Int32).toInt ≤ 24 := by first | decide | omega
          rw [hQ]
          exact W.iret (v := v1486) hx hb hr (fun t ht hW => ⟨⟨v1486, (), rfl, hpost, ht⟩, hS.F ht⟩) hS.2.2 dX12_floatsTo_78
        · skip
          have k1500 := iv_nle (X := (24)) (Y := v1486.toInt) (by decide) rfl c1498
          refine lv_iload_n hx hb dX12_floatsTo_22 rfl (lv_at hl 5 rfl) ?_
          have k1501 := iv_lo x3
          have k1502 := iv_hi x3
          refine lv_if_le (tgt := 33) hx hb dX12_floatsTo_23 (by decide) (fun c1503 => ?_) (fun c1503 => ?_)
          · skip
            have k1504 := iv_le (X := x3.toInt) (Y := (0)) rfl (by decide) c1503
            refine lv_iload hx hb dX12_floatsTo_33 (lv_at hl 1 rfl) ?_
            refine lv_iconst (v := 1) hx hb dX12_floatsTo_35 (by decide) ?_
            refine lv_isub hx hb dX12_floatsTo_36 ?_
            refine lv_topi (fun v1505 e1506 => ?_)
            have tv1505 : v1505.toInt = v1486.toInt - (1) := iv_sub rfl (by decide) e1506 (by omega) (by omega)
            refine lv_istore (lv' := [(6, .int v1505), (5, .int v1485), (4, .int v1486), (0, .ref h0), (1, .int x1), (2, .int x2), (3, .int x3)]) hx hb dX12_floatsTo_37 hl (by decide) rfl (fun ls hl => ?_)
            refine lv_iload hx hb dX12_floatsTo_39 (lv_at hl 0 rfl) ?_
            refine lv_if_lt (tgt := 63) hx hb dX12_floatsTo_41 (by decide) (fun c1507 => ?_) (fun c1507 => ?_)
            · skip
              have k1508 := iv_lt (X := v1505.toInt) (Y := (0)) rfl (by decide) c1507
              refine lv_iload hx hb dX12_floatsTo_63 (lv_at hl 2 rfl) ?_
              have hpost : 0 ≤ (v1486 : Int32).toInt ∧ (v1486 : Int32).toInt ≤ 24 := by first | decide | omega
              rw [hQ]
              exact W.iret (v := v1486) hx hb hr (fun t ht hW => ⟨⟨v1486, (), rfl, hpost, ht⟩, hS.F ht⟩) hS.2.2 dX12_floatsTo_65
            · skip
              have k1509 := iv_nlt (X := v1505.toInt) (Y := (0)) rfl (by decide) c1507
              refine lv_aload_n hx hb dX12_floatsTo_44 rfl (lv_at hl 3 rfl) ?_
              refine lv_iload_n hx hb dX12_floatsTo_45 rfl (lv_at hl 6 rfl) ?_
              refine lv_if_le (tgt := 54) hx hb dX12_floatsTo_46 (by decide) (fun c1510 => ?_) (fun c1510 => ?_)
              · skip
                have k1511 := iv_le (X := x3.toInt) (Y := (0)) rfl (by decide) c1510
                refine lv_iload hx hb dX12_floatsTo_54 (lv_at hl 0 rfl) ?_
                refine lv_iload_n hx hb dX12_floatsTo_56 rfl (lv_at hl 5 rfl) ?_
                refine mr_i (As := [.int v1505, .int x2]) (rest := []) (n := 2) (d := 1) ⟨hx, hb, hml, hown, hts⟩ (c_X12_isShut l E D G s.heap h0 hG0 v1505 x2) wd_1538 wd_1540 wp_61 wd_13 wd_1541 (by decide +kernel) ⟨by rw [hR]; exact Nat.le_of_ble_eq_true rfl, by rw [hR]; exact Nat.le_of_ble_eq_true rfl⟩ hI hN hK hS hG0 rfl hl.1 rfl (Nat.le_of_ble_eq_true rfl) dX12_floatsTo_57 ⟨Nat.zero_le _, Nat.zero_le _⟩ (fun r1512 locs hp hS => ?_)
                have hp1513 := hp
                refine lv_if_eq (tgt := 66) hx hb dX12_floatsTo_60 (by decide) (fun c1514 => ?_) (fun c1514 => ?_)
                · skip
                  have k1515 := iv_eq (X := r1512.toInt) (Y := (0)) rfl (by decide) c1514
                  refine lv_iload hx hb dX12_floatsTo_66 (lv_at hl 0 rfl) ?_
                  refine lv_istore (lv' := [(4, .int v1505), (6, .int v1505), (5, .int v1485), (0, .ref h0), (1, .int x1), (2, .int x2), (3, .int x3)]) hx hb dX12_floatsTo_68 hl (by decide) rfl (fun ls hl => ?_)
                  obtain ⟨v1516, e1517⟩ : ∃ y : Int32, y = v1485 + (1) := ⟨_, rfl⟩
                  have tv1516 : v1516.toInt = v1485.toInt + (1) := iv_add rfl (by decide) e1517 (by omega) (by omega)
                  refine lv_iinc (v := v1516) (lv' := [(5, .int v1516), (4, .int v1505), (6, .int v1505), (0, .ref h0), (1, .int x1), (2, .int x2), (3, .int x3)]) hx hb dX12_floatsTo_70 hl (k := 2) rfl (by rw [e1517]; rfl) (by decide) rfl (fun ls hl => ?_)
                  refine lv_goto (tgt := 6) hx hb dX12_floatsTo_73 (by decide) ?_
                  exact ih_6 _ (by omega) locs ls v1516 v1505  rfl (lv_sub hl [0, 1, 3, 4, 5, 6] rfl) (by omega) ⟨by omega, by omega⟩ ⟨by omega, by omega⟩ hS
                · skip
                  have k1518 := iv_ne (X := r1512.toInt) (Y := (0)) rfl (by decide) c1514
                  refine lv_iload hx hb dX12_floatsTo_63 (lv_at hl 2 rfl) ?_
                  have hpost : 0 ≤ (v1486 : Int32).toInt ∧ (v1486 : Int32).toInt ≤ 24 := by first | decide | omega
                  rw [hQ]
                  exact W.iret (v := v1486) hx hb hr (fun t ht hW => ⟨⟨v1486, (), rfl, hpost, ht⟩, hS.F ht⟩) hS.2.2 dX12_floatsTo_65
              · skip
                have k1519 := iv_nle (X := x3.toInt) (Y := (0)) rfl (by decide) c1510
                exfalso; omega
          · skip
            have k1520 := iv_nle (X := x3.toInt) (Y := (0)) rfl (by decide) c1503
            refine lv_iload hx hb dX12_floatsTo_26 (lv_at hl 1 rfl) ?_
            refine lv_iconst (v := 1) hx hb dX12_floatsTo_28 (by decide) ?_
            refine lv_iadd hx hb dX12_floatsTo_29 ?_
            refine lv_topi (fun v1521 e1522 => ?_)
            have tv1521 : v1521.toInt = v1486.toInt + (1) := iv_add rfl (by decide) e1522 (by omega) (by omega)
            refine lv_goto (tgt := 37) hx hb dX12_floatsTo_30 (by decide) ?_
            refine lv_istore (lv' := [(6, .int v1521), (5, .int v1485), (4, .int v1486), (0, .ref h0), (1, .int x1), (2, .int x2), (3, .int x3)]) hx hb dX12_floatsTo_37 hl (by decide) rfl (fun ls hl => ?_)
            refine lv_iload hx hb dX12_floatsTo_39 (lv_at hl 0 rfl) ?_
            refine lv_if_lt (tgt := 63) hx hb dX12_floatsTo_41 (by decide) (fun c1523 => ?_) (fun c1523 => ?_)
            · skip
              have k1524 := iv_lt (X := v1521.toInt) (Y := (0)) rfl (by decide) c1523
              exfalso; omega
            · skip
              have k1525 := iv_nlt (X := v1521.toInt) (Y := (0)) rfl (by decide) c1523
              refine lv_aload_n hx hb dX12_floatsTo_44 rfl (lv_at hl 3 rfl) ?_
              refine lv_iload_n hx hb dX12_floatsTo_45 rfl (lv_at hl 6 rfl) ?_
              refine lv_if_le (tgt := 54) hx hb dX12_floatsTo_46 (by decide) (fun c1526 => ?_) (fun c1526 => ?_)
              · skip
                have k1527 := iv_le (X := x3.toInt) (Y := (0)) rfl (by decide) c1526
                exfalso; omega
              · skip
                have k1528 := iv_nle (X := x3.toInt) (Y := (0)) rfl (by decide) c1526
                refine lv_iload hx hb dX12_floatsTo_49 (lv_at hl 2 rfl) ?_
                refine lv_goto (tgt := 56) hx hb dX12_floatsTo_51 (by decide) ?_
                refine lv_iload_n hx hb dX12_floatsTo_56 rfl (lv_at hl 5 rfl) ?_
                refine mr_i (As := [.int v1486, .int x2]) (rest := []) (n := 2) (d := 1) ⟨hx, hb, hml, hown, hts⟩ (c_X12_isShut l E D G s.heap h0 hG0 v1486 x2) wd_1538 wd_1540 wp_61 wd_13 wd_1541 (by decide +kernel) ⟨by rw [hR]; exact Nat.le_of_ble_eq_true rfl, by rw [hR]; exact Nat.le_of_ble_eq_true rfl⟩ hI hN hK hS hG0 rfl hl.1 rfl (Nat.le_of_ble_eq_true rfl) dX12_floatsTo_57 ⟨Nat.zero_le _, Nat.zero_le _⟩ (fun r1529 locs hp hS => ?_)
                have hp1530 := hp
                refine lv_if_eq (tgt := 66) hx hb dX12_floatsTo_60 (by decide) (fun c1531 => ?_) (fun c1531 => ?_)
                · skip
                  have k1532 := iv_eq (X := r1529.toInt) (Y := (0)) rfl (by decide) c1531
                  refine lv_iload hx hb dX12_floatsTo_66 (lv_at hl 0 rfl) ?_
                  refine lv_istore (lv' := [(4, .int v1521), (6, .int v1521), (5, .int v1485), (0, .ref h0), (1, .int x1), (2, .int x2), (3, .int x3)]) hx hb dX12_floatsTo_68 hl (by decide) rfl (fun ls hl => ?_)
                  obtain ⟨v1533, e1534⟩ : ∃ y : Int32, y = v1485 + (1) := ⟨_, rfl⟩
                  have tv1533 : v1533.toInt = v1485.toInt + (1) := iv_add rfl (by decide) e1534 (by omega) (by omega)
                  refine lv_iinc (v := v1533) (lv' := [(5, .int v1533), (4, .int v1521), (6, .int v1521), (0, .ref h0), (1, .int x1), (2, .int x2), (3, .int x3)]) hx hb dX12_floatsTo_70 hl (k := 2) rfl (by rw [e1534]; rfl) (by decide) rfl (fun ls hl => ?_)
                  refine lv_goto (tgt := 6) hx hb dX12_floatsTo_73 (by decide) ?_
                  exact ih_6 _ (by omega) locs ls v1533 v1521  rfl (lv_sub hl [0, 1, 3, 4, 5, 6] rfl) (by omega) ⟨by omega, by omega⟩ ⟨by omega, by omega⟩ hS
                · skip
                  have k1535 := iv_ne (X := r1529.toInt) (Y := (0)) rfl (by decide) c1531
                  refine lv_iload hx hb dX12_floatsTo_63 (lv_at hl 2 rfl) ?_
                  have hpost : 0 ≤ (v1486 : Int32).toInt ∧ (v1486 : Int32).toInt ≤ 24 := by first | decide | omega
                  rw [hQ]
                  exact W.iret (v := v1486) hx hb hr (fun t ht hW => ⟨⟨v1486, (), rfl, hpost, ht⟩, hS.F ht⟩) hS.2.2 dX12_floatsTo_65
  refine lv_iload_n hx hb dX12_floatsTo_0 rfl (lv_at hl 1 rfl) ?_
  refine lv_istore (lv' := [(4, .int x1), (0, .ref h0), (1, .int x1), (2, .int x2), (3, .int x3)]) hx hb dX12_floatsTo_1 hl (by decide) rfl (fun ls hl => ?_)
  refine lv_iconst (v := 0) hx hb dX12_floatsTo_3 (by decide) ?_
  refine lv_istore (lv' := [(5, .int 0), (4, .int x1), (0, .ref h0), (1, .int x1), (2, .int x2), (3, .int x3)]) hx hb dX12_floatsTo_4 hl (by decide) rfl (fun ls hl => ?_)
  have zl : (0 : Int32).toInt = 0 := by decide
  exact J_6 _ [] ls 0 x1  rfl (lv_sub hl [0, 1, 2, 3, 4, 5] rfl) (by decide) ⟨by omega, by omega⟩ ⟨by omega, by omega⟩ hS
theorem dX12_laysNext_0g : (decode cX12_laysNext 0 = .ok (.iconst 0, 1)) ∧ (decode cX12_laysNext 1 = .ok (.istore_n 1, 1)) ∧ (decode cX12_laysNext 2 = .ok (.iload_n 1, 1)) ∧ (decode cX12_laysNext 3 = .ok (.bipush 96, 2)) ∧ (decode cX12_laysNext 5 = .ok (.if_icmp .ge 65, 3)) ∧ (decode cX12_laysNext 8 = .ok (.iconst 0, 1)) ∧ (decode cX12_laysNext 9 = .ok (.istore_n 2, 1)) ∧ (decode cX12_laysNext 10 = .ok (.iload_n 2, 1)) ∧ (decode cX12_laysNext 11 = .ok (.bipush 24, 2)) ∧ (decode cX12_laysNext 13 = .ok (.if_icmp .ge 37, 3)) := by decide +kernel
theorem dX12_laysNext_0 : decode cX12_laysNext 0 = .ok (.iconst 0, 1) := dX12_laysNext_0g.1
theorem dX12_laysNext_1 : decode cX12_laysNext 1 = .ok (.istore_n 1, 1) := dX12_laysNext_0g.2.1
theorem dX12_laysNext_2 : decode cX12_laysNext 2 = .ok (.iload_n 1, 1) := dX12_laysNext_0g.2.2.1
theorem dX12_laysNext_3 : decode cX12_laysNext 3 = .ok (.bipush 96, 2) := dX12_laysNext_0g.2.2.2.1
theorem dX12_laysNext_5 : decode cX12_laysNext 5 = .ok (.if_icmp .ge 65, 3) := dX12_laysNext_0g.2.2.2.2.1
theorem dX12_laysNext_8 : decode cX12_laysNext 8 = .ok (.iconst 0, 1) := dX12_laysNext_0g.2.2.2.2.2.1
theorem dX12_laysNext_9 : decode cX12_laysNext 9 = .ok (.istore_n 2, 1) := dX12_laysNext_0g.2.2.2.2.2.2.1
theorem dX12_laysNext_10 : decode cX12_laysNext 10 = .ok (.iload_n 2, 1) := dX12_laysNext_0g.2.2.2.2.2.2.2.1
theorem dX12_laysNext_11 : decode cX12_laysNext 11 = .ok (.bipush 24, 2) := dX12_laysNext_0g.2.2.2.2.2.2.2.2.1
theorem dX12_laysNext_13 : decode cX12_laysNext 13 = .ok (.if_icmp .ge 37, 3) := dX12_laysNext_0g.2.2.2.2.2.2.2.2.2
theorem dX12_laysNext_16g : (decode cX12_laysNext 16 = .ok (.aload_n 0, 1)) ∧ (decode cX12_laysNext 17 = .ok (.getfield 67, 3)) ∧ (decode cX12_laysNext 20 = .ok (.bipush 25, 2)) ∧ (decode cX12_laysNext 22 = .ok (.iload_n 1, 1)) ∧ (decode cX12_laysNext 23 = .ok (.imul, 1)) ∧ (decode cX12_laysNext 24 = .ok (.iload_n 2, 1)) ∧ (decode cX12_laysNext 25 = .ok (.iadd, 1)) ∧ (decode cX12_laysNext 26 = .ok (.aload_n 0, 1)) ∧ (decode cX12_laysNext 27 = .ok (.iload_n 2, 1)) ∧ (decode cX12_laysNext 28 = .ok (.iload_n 1, 1)) := by decide +kernel
theorem dX12_laysNext_16 : decode cX12_laysNext 16 = .ok (.aload_n 0, 1) := dX12_laysNext_16g.1
theorem dX12_laysNext_17 : decode cX12_laysNext 17 = .ok (.getfield 67, 3) := dX12_laysNext_16g.2.1
theorem dX12_laysNext_20 : decode cX12_laysNext 20 = .ok (.bipush 25, 2) := dX12_laysNext_16g.2.2.1
theorem dX12_laysNext_22 : decode cX12_laysNext 22 = .ok (.iload_n 1, 1) := dX12_laysNext_16g.2.2.2.1
theorem dX12_laysNext_23 : decode cX12_laysNext 23 = .ok (.imul, 1) := dX12_laysNext_16g.2.2.2.2.1
theorem dX12_laysNext_24 : decode cX12_laysNext 24 = .ok (.iload_n 2, 1) := dX12_laysNext_16g.2.2.2.2.2.1
theorem dX12_laysNext_25 : decode cX12_laysNext 25 = .ok (.iadd, 1) := dX12_laysNext_16g.2.2.2.2.2.2.1
theorem dX12_laysNext_26 : decode cX12_laysNext 26 = .ok (.aload_n 0, 1) := dX12_laysNext_16g.2.2.2.2.2.2.2.1
theorem dX12_laysNext_27 : decode cX12_laysNext 27 = .ok (.iload_n 2, 1) := dX12_laysNext_16g.2.2.2.2.2.2.2.2.1
theorem dX12_laysNext_28 : decode cX12_laysNext 28 = .ok (.iload_n 1, 1) := dX12_laysNext_16g.2.2.2.2.2.2.2.2.2
theorem dX12_laysNext_29g : (decode cX12_laysNext 29 = .ok (.aload_n 0, 1)) ∧ (decode cX12_laysNext 30 = .ok (.getfield 55, 3)) ∧ (decode cX12_laysNext 33 = .ok (.bipush 24, 2)) ∧ (decode cX12_laysNext 35 = .ok (.iload_n 1, 1)) ∧ (decode cX12_laysNext 36 = .ok (.imul, 1)) ∧ (decode cX12_laysNext 37 = .ok (.iload_n 2, 1)) ∧ (decode cX12_laysNext 38 = .ok (.iadd, 1)) ∧ (decode cX12_laysNext 39 = .ok (.iaload, 1)) ∧ (decode cX12_laysNext 40 = .ok (.invokevirtual 288, 3)) ∧ (decode cX12_laysNext 43 = .ok (.iastore, 1)) := by decide +kernel
theorem dX12_laysNext_29 : decode cX12_laysNext 29 = .ok (.aload_n 0, 1) := dX12_laysNext_29g.1
theorem dX12_laysNext_30 : decode cX12_laysNext 30 = .ok (.getfield 55, 3) := dX12_laysNext_29g.2.1
theorem dX12_laysNext_33 : decode cX12_laysNext 33 = .ok (.bipush 24, 2) := dX12_laysNext_29g.2.2.1
theorem dX12_laysNext_35 : decode cX12_laysNext 35 = .ok (.iload_n 1, 1) := dX12_laysNext_29g.2.2.2.1
theorem dX12_laysNext_36 : decode cX12_laysNext 36 = .ok (.imul, 1) := dX12_laysNext_29g.2.2.2.2.1
theorem dX12_laysNext_37 : decode cX12_laysNext 37 = .ok (.iload_n 2, 1) := dX12_laysNext_29g.2.2.2.2.2.1
theorem dX12_laysNext_38 : decode cX12_laysNext 38 = .ok (.iadd, 1) := dX12_laysNext_29g.2.2.2.2.2.2.1
theorem dX12_laysNext_39 : decode cX12_laysNext 39 = .ok (.iaload, 1) := dX12_laysNext_29g.2.2.2.2.2.2.2.1
theorem dX12_laysNext_40 : decode cX12_laysNext 40 = .ok (.invokevirtual 288, 3) := dX12_laysNext_29g.2.2.2.2.2.2.2.2.1
theorem dX12_laysNext_43 : decode cX12_laysNext 43 = .ok (.iastore, 1) := dX12_laysNext_29g.2.2.2.2.2.2.2.2.2
theorem dX12_laysNext_44g : (decode cX12_laysNext 44 = .ok (.iinc 2 1, 3)) ∧ (decode cX12_laysNext 47 = .ok (.goto (-37), 3)) ∧ (decode cX12_laysNext 50 = .ok (.aload_n 0, 1)) ∧ (decode cX12_laysNext 51 = .ok (.getfield 67, 3)) ∧ (decode cX12_laysNext 54 = .ok (.bipush 25, 2)) ∧ (decode cX12_laysNext 56 = .ok (.iload_n 1, 1)) ∧ (decode cX12_laysNext 57 = .ok (.imul, 1)) ∧ (decode cX12_laysNext 58 = .ok (.bipush 24, 2)) ∧ (decode cX12_laysNext 60 = .ok (.iadd, 1)) ∧ (decode cX12_laysNext 61 = .ok (.bipush 24, 2)) := by decide +kernel
theorem dX12_laysNext_44 : decode cX12_laysNext 44 = .ok (.iinc 2 1, 3) := dX12_laysNext_44g.1
theorem dX12_laysNext_47 : decode cX12_laysNext 47 = .ok (.goto (-37), 3) := dX12_laysNext_44g.2.1
theorem dX12_laysNext_50 : decode cX12_laysNext 50 = .ok (.aload_n 0, 1) := dX12_laysNext_44g.2.2.1
theorem dX12_laysNext_51 : decode cX12_laysNext 51 = .ok (.getfield 67, 3) := dX12_laysNext_44g.2.2.2.1
theorem dX12_laysNext_54 : decode cX12_laysNext 54 = .ok (.bipush 25, 2) := dX12_laysNext_44g.2.2.2.2.1
theorem dX12_laysNext_56 : decode cX12_laysNext 56 = .ok (.iload_n 1, 1) := dX12_laysNext_44g.2.2.2.2.2.1
theorem dX12_laysNext_57 : decode cX12_laysNext 57 = .ok (.imul, 1) := dX12_laysNext_44g.2.2.2.2.2.2.1
theorem dX12_laysNext_58 : decode cX12_laysNext 58 = .ok (.bipush 24, 2) := dX12_laysNext_44g.2.2.2.2.2.2.2.1
theorem dX12_laysNext_60 : decode cX12_laysNext 60 = .ok (.iadd, 1) := dX12_laysNext_44g.2.2.2.2.2.2.2.2.1
theorem dX12_laysNext_61 : decode cX12_laysNext 61 = .ok (.bipush 24, 2) := dX12_laysNext_44g.2.2.2.2.2.2.2.2.2
theorem dX12_laysNext_63g : (decode cX12_laysNext 63 = .ok (.iastore, 1)) ∧ (decode cX12_laysNext 64 = .ok (.iinc 1 1, 3)) ∧ (decode cX12_laysNext 67 = .ok (.goto (-65), 3)) ∧ (decode cX12_laysNext 70 = .ok (.return_, 1)) := by decide +kernel
theorem dX12_laysNext_63 : decode cX12_laysNext 63 = .ok (.iastore, 1) := dX12_laysNext_63g.1
theorem dX12_laysNext_64 : decode cX12_laysNext 64 = .ok (.iinc 1 1, 3) := dX12_laysNext_63g.2.1
theorem dX12_laysNext_67 : decode cX12_laysNext 67 = .ok (.goto (-65), 3) := dX12_laysNext_63g.2.2.1
theorem dX12_laysNext_70 : decode cX12_laysNext 70 = .ok (.return_, 1) := dX12_laysNext_63g.2.2.2
set_option maxHeartbeats 4000000 in
set_option maxRecDepth 100000 in
theorem c_X12_laysNext (l : Launch) (E : Nat → Nat) (D : va_G) (G : th_G) (h0 : Nat) (hG0 : G h0 = some (10, 0)) : Met l yX12_laysNext (tb (.code yX12_laysNext cX12_laysNext 3 none)) (rm 3) (va_Pc [.ref h0] (PX E D G (fun H => True))) (QXv E D G (fun H => True)) 0 0 (th_A G) := by
  refine Met.ofW (cc := cX12_laysNext) (maxL := 3) (ret := none) (by decide) rfl ?_
  intro p e s m args below meth c s₁ B hml hv
  obtain ⟨hav, ⟨hI, hN, hK⟩, hX⟩ := hv
  have hx := B.exec
  have hb := B.bytes
  have hr := B.returns
  have hts := atoms_spec (ws := tb (.code yX12_laysNext cX12_laysNext 3 none)) B.pre
  have hown : s.vm.findClass RX12 = some m.cls := findClass_of_methodNamed B.named
  have hlocks := B.notSynchronized
  have hS : va_S (th_A G) s.heap s.heap [] := va_S.rf
  have hl := lv_entry ([.ref h0]) (n := 3) (Nat.le_of_ble_eq_true rfl)
  rw [show entryFrame m args 3 = entryFrame m ([.ref h0] : List Value).toArray 3 from by rw [hav], lg_entry_eq]
  generalize (lg_sl ([.ref h0]) ++ List.replicate (3 - (lg_sl ([.ref h0])).length) Slot.unset).toArray = ls at hl ⊢
  have hl : lv_has ls 3 [(0, .ref h0)] := hl
  generalize hR : (headSpec (tb (.code yX12_laysNext cX12_laysNext 3 none)) (rm 3)).room = R
  have hR := hR.symm
  generalize hQ : MQ below (QXv E D G (fun H => True)) args s 0 0 (th_A G) = QF
  have hQ := hQ.symm
  have J_2 : ∀ (nn : Nat) (H : Heap) (locs : List Loc) (ls : Array Slot) (v2639 : Int32) , (Int.toNat (96 - v2639.toInt) = nn) → lv_has ls 3 [(1, .int v2639), (0, .ref h0)] → ((0 : Int) ≤ v2639.toInt ∧ v2639.toInt ≤ 96) → th_I (okM E) D G [] H → va_S (th_A G) s.heap H locs → W p l e R s m args below meth c H locs 0 0 QF (F0 m 2 ls []) := by
    intro nn
    induction nn using Nat.strongRecOn with
    | ind nn ih_2 =>
      intro H locs ls v2639  hm hl k2640 hI hS
      have J_10 : ∀ (nn : Nat) (H : Heap) (locs : List Loc) (ls : Array Slot) (v2641 : Int32) , (Int.toNat (24 - v2641.toInt) = nn) → lv_has ls 3 [(2, .int v2641), (1, .int v2639), (0, .ref h0)] → ((0 : Int) ≤ v2641.toInt ∧ v2641.toInt ≤ 24) → ((0 : Int) ≤ v2639.toInt ∧ v2639.toInt ≤ 95) → th_I (okM E) D G [] H → va_S (th_A G) s.heap H locs → W p l e R s m args below meth c H locs 0 0 QF (F0 m 10 ls []) := by
        intro nn
        induction nn using Nat.strongRecOn with
        | ind nn ih_10 =>
          intro H locs ls v2641  hm hl k2643 k2644 hI hS
          refine lv_iload_n hx hb dX12_laysNext_10 rfl (lv_at hl 0 rfl) ?_
          refine lv_bipush (v := 24) hx hb dX12_laysNext_11 (by decide) ?_
          refine lv_icmp_ge (tgt := 50) hx hb dX12_laysNext_13 (by decide) (fun c2645 => ?_) (fun c2645 => ?_)
          · skip
            have k2646 := iv_le (X := (24)) (Y := v2641.toInt) (by decide) rfl c2645
            refine lv_aload_n hx hb dX12_laysNext_50 rfl (lv_at hl 2 rfl) ?_
            refine gmA hx hb hts inT12 hown hK hI List.not_mem_nil hG0 27 (by decide) (hts _ (tb_c wd_1260)) rfl rfl dX12_laysNext_51 (fun a2647 hq2648 hf2649 => ?_)
            refine lv_bipush (v := 25) hx hb dX12_laysNext_54 (by decide) ?_
            refine lv_iload_n hx hb dX12_laysNext_56 rfl (lv_at hl 1 rfl) ?_
            refine lv_imul hx hb dX12_laysNext_57 ?_
            refine lv_topi (fun v2650 e2651 => ?_)
            have tv2650 : v2650.toInt = (25) * v2639.toInt := iv_mul (by decide) rfl e2651 (by omega) (by omega)
            refine lv_bipush (v := 24) hx hb dX12_laysNext_58 (by decide) ?_
            refine lv_iadd hx hb dX12_laysNext_60 ?_
            refine lv_topi (fun v2652 e2653 => ?_)
            have tv2652 : v2652.toInt = v2650.toInt + (24) := iv_add rfl (by decide) e2653 (by omega) (by omega)
            refine lv_bipush (v := 24) hx hb dX12_laysNext_61 (by decide) ?_
            obtain ⟨F2654, hA2655, hP2656⟩ := om_3 hI hq2648 List.not_mem_nil
            refine th_iast hx hb hK hA2655 0 rfl hS ⟨_, hq2648⟩ (iv_in (X := v2652.toInt) rfl (by omega) (by omega)) dX12_laysNext_63 (fun H locs hA2657 oq hS => ?_)
            have hP2658 := rgs_set (k := v2652.toNatClampNeg) (v := 24) hP2656 (by decide) (by decide)
            have hI := th_I.put hI hq2648 hA2657 (ok_m3 hP2658) oq
            have hf2649 := fr.arr hG0 hq2648 (by decide) oq hf2649
            have e2659 : 24 = (upd F2654 (v2652 : Int32).toNatClampNeg 24) (v2652 : Int32).toNatClampNeg := rd_us
            obtain ⟨v2660, e2661⟩ : ∃ y : Int32, y = v2639 + (1) := ⟨_, rfl⟩
            have tv2660 : v2660.toInt = v2639.toInt + (1) := iv_add rfl (by decide) e2661 (by omega) (by omega)
            refine lv_iinc (v := v2660) (lv' := [(1, .int v2660), (2, .int v2641), (0, .ref h0)]) hx hb dX12_laysNext_64 hl (k := 1) rfl (by rw [e2661]; rfl) (by decide) rfl (fun ls hl => ?_)
            refine lv_goto (tgt := 2) hx hb dX12_laysNext_67 (by decide) ?_
            exact ih_2 _ (by omega) H locs ls v2660  rfl (lv_sub hl [0, 2] rfl) ⟨by omega, by omega⟩ hI hS
          · skip
            have k2662 := iv_nle (X := (24)) (Y := v2641.toInt) (by decide) rfl c2645
            refine lv_aload_n hx hb dX12_laysNext_16 rfl (lv_at hl 2 rfl) ?_
            refine gmA hx hb hts inT12 hown hK hI List.not_mem_nil hG0 27 (by decide) (hts _ (tb_c wd_1260)) rfl rfl dX12_laysNext_17 (fun a2663 hq2664 hf2665 => ?_)
            refine lv_bipush (v := 25) hx hb dX12_laysNext_20 (by decide) ?_
            refine lv_iload_n hx hb dX12_laysNext_22 rfl (lv_at hl 1 rfl) ?_
            refine lv_imul hx hb dX12_laysNext_23 ?_
            refine lv_topi (fun v2666 e2667 => ?_)
            have tv2666 : v2666.toInt = (25) * v2639.toInt := iv_mul (by decide) rfl e2667 (by omega) (by omega)
            refine lv_iload_n hx hb dX12_laysNext_24 rfl (lv_at hl 0 rfl) ?_
            refine lv_iadd hx hb dX12_laysNext_25 ?_
            refine lv_topi (fun v2668 e2669 => ?_)
            have tv2668 : v2668.toInt = v2666.toInt + v2641.toInt := iv_add rfl rfl e2669 (by omega) (by omega)
            refine lv_aload_n hx hb dX12_laysNext_26 rfl (lv_at hl 2 rfl) ?_
            refine lv_iload_n hx hb dX12_laysNext_27 rfl (lv_at hl 0 rfl) ?_
            refine lv_iload_n hx hb dX12_laysNext_28 rfl (lv_at hl 1 rfl) ?_
            refine lv_aload_n hx hb dX12_laysNext_29 rfl (lv_at hl 2 rfl) ?_
            refine gmA hx hb hts inT12 hown hK hI List.not_mem_nil hG0 23 (by decide) (hts _ (tb_c wd_1256)) rfl rfl dX12_laysNext_30 (fun a2670 hq2671 hf2672 => ?_)
            refine lv_bipush (v := 24) hx hb dX12_laysNext_33 (by decide) ?_
            refine lv_iload_n hx hb dX12_laysNext_35 rfl (lv_at hl 1 rfl) ?_
            refine lv_imul hx hb dX12_laysNext_36 ?_
            refine lv_topi (fun v2673 e2674 => ?_)
            have tv2673 : v2673.toInt = (24) * v2639.toInt := iv_mul (by decide) rfl e2674 (by omega) (by omega)
            refine lv_iload_n hx hb dX12_laysNext_37 rfl (lv_at hl 0 rfl) ?_
            refine lv_iadd hx hb dX12_laysNext_38 ?_
            refine lv_topi (fun v2675 e2676 => ?_)
            have tv2675 : v2675.toInt = v2673.toInt + v2641.toInt := iv_add rfl rfl e2676 (by omega) (by omega)
            obtain ⟨F2677, hA2678⟩ := om_0 hI hq2671 List.not_mem_nil
            refine th_iald hx hb hK hA2678 0 rfl (iv_in (X := v2675.toInt) rfl (by omega) (by omega)) dX12_laysNext_39 (fun v2679 e2680 => ?_)
            refine mr_i (As := [.int v2641, .int v2639, .int v2679]) (rest := [.int v2668, .ref a2663]) (n := 3) (d := 2) ⟨hx, hb, hml, hown, hts⟩ (c_X12_floatsTo l E D G H h0 hG0 v2641 v2639 v2679 ⟨by omega, by omega⟩) wd_1531 wd_1533 wp_60 wd_13 wd_1534 (by decide +kernel) ⟨by rw [hR]; exact Nat.le_of_ble_eq_true rfl, by rw [hR]; exact Nat.le_of_ble_eq_true rfl⟩ hI hN hK hS hG0 rfl hl.1 rfl (Nat.le_of_ble_eq_true rfl) dX12_laysNext_40 ⟨Nat.zero_le _, Nat.zero_le _⟩ (fun r2681 locs hp hS => ?_)
            have hp2682 := hp
            obtain ⟨F2683, hA2684, hP2685⟩ := om_3 hI hq2664 List.not_mem_nil
            refine th_iast hx hb hK hA2684 0 rfl hS ⟨_, hq2664⟩ (iv_in (X := v2668.toInt) rfl (by omega) (by omega)) dX12_laysNext_43 (fun H locs hA2686 oq hS => ?_)
            have hP2687 := rgs_set (k := v2668.toNatClampNeg) (v := r2681) hP2685 (by omega) (by omega)
            have hI := th_I.put hI hq2664 hA2686 (ok_m3 hP2687) oq
            have hf2665 := fr.arr hG0 hq2664 (by decide) oq hf2665
            have hf2672 := fr.arr hG0 hq2664 (by decide) oq hf2672
            have hA2678 := va_at.kept hA2678 (oq _ (m_ne hq2671 hq2664 (by first | decide | (dsimp only; decide))))
            have e2688 : r2681 = (upd F2683 (v2668 : Int32).toNatClampNeg r2681) (v2668 : Int32).toNatClampNeg := rd_us
            obtain ⟨v2689, e2690⟩ : ∃ y : Int32, y = v2641 + (1) := ⟨_, rfl⟩
            have tv2689 : v2689.toInt = v2641.toInt + (1) := iv_add rfl (by decide) e2690 (by omega) (by omega)
            refine lv_iinc (v := v2689) (lv' := [(2, .int v2689), (1, .int v2639), (0, .ref h0)]) hx hb dX12_laysNext_44 hl (k := 0) rfl (by rw [e2690]; rfl) (by decide) rfl (fun ls hl => ?_)
            refine lv_goto (tgt := 10) hx hb dX12_laysNext_47 (by decide) ?_
            exact ih_10 _ (by omega) H locs ls v2689  rfl (lv_sub hl [0, 1, 2] rfl) ⟨by omega, by omega⟩ ⟨by omega, by omega⟩ hI hS
      refine lv_iload_n hx hb dX12_laysNext_2 rfl (lv_at hl 0 rfl) ?_
      refine lv_bipush (v := 96) hx hb dX12_laysNext_3 (by decide) ?_
      refine lv_icmp_ge (tgt := 70) hx hb dX12_laysNext_5 (by decide) (fun c2691 => ?_) (fun c2691 => ?_)
      · skip
        have k2692 := iv_le (X := (96)) (Y := v2639.toInt) (by decide) rfl c2691
        have hpost : True := trivial
        rw [hQ]
        exact W.vret hx hb hr (fun t ht hW => ⟨⟨(), rfl, trivial, ⟨by rw [ht]; exact hI, hN.warm hW, va_K.moved hW.alike hK⟩, by first | (rw [ht]; exact hpost) | exact hpost⟩, hS.F ht⟩) hS.2.2 dX12_laysNext_70
      · skip
        have k2693 := iv_nle (X := (96)) (Y := v2639.toInt) (by decide) rfl c2691
        refine lv_iconst (v := 0) hx hb dX12_laysNext_8 (by decide) ?_
        refine lv_istore_n (lv' := [(2, .int 0), (1, .int v2639), (0, .ref h0)]) hx hb dX12_laysNext_9 rfl hl (by decide) rfl (fun ls hl => ?_)
        have zl : (0 : Int32).toInt = 0 := by decide
        exact J_10 _ H locs ls 0  rfl (lv_sub hl [0, 1, 2] rfl) ⟨by decide, by decide⟩ ⟨by omega, by omega⟩ hI hS
  refine lv_iconst (v := 0) hx hb dX12_laysNext_0 (by decide) ?_
  refine lv_istore_n (lv' := [(1, .int 0), (0, .ref h0)]) hx hb dX12_laysNext_1 rfl hl (by decide) rfl (fun ls hl => ?_)
  have zl : (0 : Int32).toInt = 0 := by decide
  exact J_2 _ s.heap [] ls 0  rfl (lv_sub hl [0, 1] rfl) ⟨by decide, by decide⟩ hI hS
theorem dX12_looks_0g : (decode cX12_looks 0 = .ok (.aload_n 0, 1)) ∧ (decode cX12_looks 1 = .ok (.getfield 70, 3)) ∧ (decode cX12_looks 4 = .ok (.aload_n 0, 1)) ∧ (decode cX12_looks 5 = .ok (.getfield 11, 3)) ∧ (decode cX12_looks 8 = .ok (.if_icmp .ne 4, 3)) ∧ (decode cX12_looks 11 = .ok (.return_, 1)) ∧ (decode cX12_looks 12 = .ok (.aload_n 0, 1)) ∧ (decode cX12_looks 13 = .ok (.aload_n 0, 1)) ∧ (decode cX12_looks 14 = .ok (.getfield 11, 3)) ∧ (decode cX12_looks 17 = .ok (.putfield 70, 3)) := by decide +kernel
theorem dX12_looks_0 : decode cX12_looks 0 = .ok (.aload_n 0, 1) := dX12_looks_0g.1
theorem dX12_looks_1 : decode cX12_looks 1 = .ok (.getfield 70, 3) := dX12_looks_0g.2.1
theorem dX12_looks_4 : decode cX12_looks 4 = .ok (.aload_n 0, 1) := dX12_looks_0g.2.2.1
theorem dX12_looks_5 : decode cX12_looks 5 = .ok (.getfield 11, 3) := dX12_looks_0g.2.2.2.1
theorem dX12_looks_8 : decode cX12_looks 8 = .ok (.if_icmp .ne 4, 3) := dX12_looks_0g.2.2.2.2.1
theorem dX12_looks_11 : decode cX12_looks 11 = .ok (.return_, 1) := dX12_looks_0g.2.2.2.2.2.1
theorem dX12_looks_12 : decode cX12_looks 12 = .ok (.aload_n 0, 1) := dX12_looks_0g.2.2.2.2.2.2.1
theorem dX12_looks_13 : decode cX12_looks 13 = .ok (.aload_n 0, 1) := dX12_looks_0g.2.2.2.2.2.2.2.1
theorem dX12_looks_14 : decode cX12_looks 14 = .ok (.getfield 11, 3) := dX12_looks_0g.2.2.2.2.2.2.2.2.1
theorem dX12_looks_17 : decode cX12_looks 17 = .ok (.putfield 70, 3) := dX12_looks_0g.2.2.2.2.2.2.2.2.2
theorem dX12_looks_20g : (decode cX12_looks 20 = .ok (.iconst 0, 1)) ∧ (decode cX12_looks 21 = .ok (.istore_n 1, 1)) ∧ (decode cX12_looks 22 = .ok (.iload_n 1, 1)) ∧ (decode cX12_looks 23 = .ok (.bipush 96, 2)) ∧ (decode cX12_looks 25 = .ok (.if_icmp .ge 157, 3)) ∧ (decode cX12_looks 28 = .ok (.iconst 0, 1)) ∧ (decode cX12_looks 29 = .ok (.istore_n 2, 1)) ∧ (decode cX12_looks 30 = .ok (.iload_n 2, 1)) ∧ (decode cX12_looks 31 = .ok (.bipush 24, 2)) ∧ (decode cX12_looks 33 = .ok (.if_icmp .ge 143, 3)) := by decide +kernel
theorem dX12_looks_20 : decode cX12_looks 20 = .ok (.iconst 0, 1) := dX12_looks_20g.1
theorem dX12_looks_21 : decode cX12_looks 21 = .ok (.istore_n 1, 1) := dX12_looks_20g.2.1
theorem dX12_looks_22 : decode cX12_looks 22 = .ok (.iload_n 1, 1) := dX12_looks_20g.2.2.1
theorem dX12_looks_23 : decode cX12_looks 23 = .ok (.bipush 96, 2) := dX12_looks_20g.2.2.2.1
theorem dX12_looks_25 : decode cX12_looks 25 = .ok (.if_icmp .ge 157, 3) := dX12_looks_20g.2.2.2.2.1
theorem dX12_looks_28 : decode cX12_looks 28 = .ok (.iconst 0, 1) := dX12_looks_20g.2.2.2.2.2.1
theorem dX12_looks_29 : decode cX12_looks 29 = .ok (.istore_n 2, 1) := dX12_looks_20g.2.2.2.2.2.2.1
theorem dX12_looks_30 : decode cX12_looks 30 = .ok (.iload_n 2, 1) := dX12_looks_20g.2.2.2.2.2.2.2.1
theorem dX12_looks_31 : decode cX12_looks 31 = .ok (.bipush 24, 2) := dX12_looks_20g.2.2.2.2.2.2.2.2.1
theorem dX12_looks_33 : decode cX12_looks 33 = .ok (.if_icmp .ge 143, 3) := dX12_looks_20g.2.2.2.2.2.2.2.2.2
theorem dX12_looks_36g : (decode cX12_looks 36 = .ok (.aload_n 0, 1)) ∧ (decode cX12_looks 37 = .ok (.getfield 20, 3)) ∧ (decode cX12_looks 40 = .ok (.bipush 10, 2)) ∧ (decode cX12_looks 42 = .ok (.iload_n 1, 1)) ∧ (decode cX12_looks 43 = .ok (.iadd, 1)) ∧ (decode cX12_looks 44 = .ok (.iaload, 1)) ∧ (decode cX12_looks 45 = .ok (.iconst 1, 1)) ∧ (decode cX12_looks 46 = .ok (.if_icmp .ne 7, 3)) ∧ (decode cX12_looks 49 = .ok (.iconst 1, 1)) ∧ (decode cX12_looks 50 = .ok (.goto 4, 3)) := by decide +kernel
theorem dX12_looks_36 : decode cX12_looks 36 = .ok (.aload_n 0, 1) := dX12_looks_36g.1
theorem dX12_looks_37 : decode cX12_looks 37 = .ok (.getfield 20, 3) := dX12_looks_36g.2.1
theorem dX12_looks_40 : decode cX12_looks 40 = .ok (.bipush 10, 2) := dX12_looks_36g.2.2.1
theorem dX12_looks_42 : decode cX12_looks 42 = .ok (.iload_n 1, 1) := dX12_looks_36g.2.2.2.1
theorem dX12_looks_43 : decode cX12_looks 43 = .ok (.iadd, 1) := dX12_looks_36g.2.2.2.2.1
theorem dX12_looks_44 : decode cX12_looks 44 = .ok (.iaload, 1) := dX12_looks_36g.2.2.2.2.2.1
theorem dX12_looks_45 : decode cX12_looks 45 = .ok (.iconst 1, 1) := dX12_looks_36g.2.2.2.2.2.2.1
theorem dX12_looks_46 : decode cX12_looks 46 = .ok (.if_icmp .ne 7, 3) := dX12_looks_36g.2.2.2.2.2.2.2.1
theorem dX12_looks_49 : decode cX12_looks 49 = .ok (.iconst 1, 1) := dX12_looks_36g.2.2.2.2.2.2.2.2.1
theorem dX12_looks_50 : decode cX12_looks 50 = .ok (.goto 4, 3) := dX12_looks_36g.2.2.2.2.2.2.2.2.2
theorem dX12_looks_53g : (decode cX12_looks 53 = .ok (.iconst 0, 1)) ∧ (decode cX12_looks 54 = .ok (.istore_n 3, 1)) ∧ (decode cX12_looks 55 = .ok (.bipush 24, 2)) ∧ (decode cX12_looks 57 = .ok (.iload_n 1, 1)) ∧ (decode cX12_looks 58 = .ok (.imul, 1)) ∧ (decode cX12_looks 59 = .ok (.iload_n 2, 1)) ∧ (decode cX12_looks 60 = .ok (.iadd, 1)) ∧ (decode cX12_looks 61 = .ok (.istore 4, 2)) ∧ (decode cX12_looks 63 = .ok (.aload_n 0, 1)) ∧ (decode cX12_looks 64 = .ok (.getfield 55, 3)) := by decide +kernel
theorem dX12_looks_53 : decode cX12_looks 53 = .ok (.iconst 0, 1) := dX12_looks_53g.1
theorem dX12_looks_54 : decode cX12_looks 54 = .ok (.istore_n 3, 1) := dX12_looks_53g.2.1
theorem dX12_looks_55 : decode cX12_looks 55 = .ok (.bipush 24, 2) := dX12_looks_53g.2.2.1
theorem dX12_looks_57 : decode cX12_looks 57 = .ok (.iload_n 1, 1) := dX12_looks_53g.2.2.2.1
theorem dX12_looks_58 : decode cX12_looks 58 = .ok (.imul, 1) := dX12_looks_53g.2.2.2.2.1
theorem dX12_looks_59 : decode cX12_looks 59 = .ok (.iload_n 2, 1) := dX12_looks_53g.2.2.2.2.2.1
theorem dX12_looks_60 : decode cX12_looks 60 = .ok (.iadd, 1) := dX12_looks_53g.2.2.2.2.2.2.1
theorem dX12_looks_61 : decode cX12_looks 61 = .ok (.istore 4, 2) := dX12_looks_53g.2.2.2.2.2.2.2.1
theorem dX12_looks_63 : decode cX12_looks 63 = .ok (.aload_n 0, 1) := dX12_looks_53g.2.2.2.2.2.2.2.2.1
theorem dX12_looks_64 : decode cX12_looks 64 = .ok (.getfield 55, 3) := dX12_looks_53g.2.2.2.2.2.2.2.2.2
theorem dX12_looks_67g : (decode cX12_looks 67 = .ok (.iload 4, 2)) ∧ (decode cX12_looks 69 = .ok (.aload_n 0, 1)) ∧ (decode cX12_looks 70 = .ok (.iload_n 2, 1)) ∧ (decode cX12_looks 71 = .ok (.iload_n 1, 1)) ∧ (decode cX12_looks 72 = .ok (.iload_n 3, 1)) ∧ (decode cX12_looks 73 = .ok (.invokevirtual 282, 3)) ∧ (decode cX12_looks 76 = .ok (.iastore, 1)) ∧ (decode cX12_looks 77 = .ok (.aload_n 0, 1)) ∧ (decode cX12_looks 78 = .ok (.getfield 58, 3)) ∧ (decode cX12_looks 81 = .ok (.iload 4, 2)) := by decide +kernel
theorem dX12_looks_67 : decode cX12_looks 67 = .ok (.iload 4, 2) := dX12_looks_67g.1
theorem dX12_looks_69 : decode cX12_looks 69 = .ok (.aload_n 0, 1) := dX12_looks_67g.2.1
theorem dX12_looks_70 : decode cX12_looks 70 = .ok (.iload_n 2, 1) := dX12_looks_67g.2.2.1
theorem dX12_looks_71 : decode cX12_looks 71 = .ok (.iload_n 1, 1) := dX12_looks_67g.2.2.2.1
theorem dX12_looks_72 : decode cX12_looks 72 = .ok (.iload_n 3, 1) := dX12_looks_67g.2.2.2.2.1
theorem dX12_looks_73 : decode cX12_looks 73 = .ok (.invokevirtual 282, 3) := dX12_looks_67g.2.2.2.2.2.1
theorem dX12_looks_76 : decode cX12_looks 76 = .ok (.iastore, 1) := dX12_looks_67g.2.2.2.2.2.2.1
theorem dX12_looks_77 : decode cX12_looks 77 = .ok (.aload_n 0, 1) := dX12_looks_67g.2.2.2.2.2.2.2.1
theorem dX12_looks_78 : decode cX12_looks 78 = .ok (.getfield 58, 3) := dX12_looks_67g.2.2.2.2.2.2.2.2.1
theorem dX12_looks_81 : decode cX12_looks 81 = .ok (.iload 4, 2) := dX12_looks_67g.2.2.2.2.2.2.2.2.2
theorem dX12_looks_83g : (decode cX12_looks 83 = .ok (.aload_n 0, 1)) ∧ (decode cX12_looks 84 = .ok (.iconst 2, 1)) ∧ (decode cX12_looks 85 = .ok (.lconst 1, 1)) ∧ (decode cX12_looks 86 = .ok (.invokevirtual 274, 3)) ∧ (decode cX12_looks 89 = .ok (.iconst 0, 1)) ∧ (decode cX12_looks 90 = .ok (.sipush 999, 3)) ∧ (decode cX12_looks 93 = .ok (.invokestatic 278, 3)) ∧ (decode cX12_looks 96 = .ok (.l2i, 1)) ∧ (decode cX12_looks 97 = .ok (.iastore, 1)) ∧ (decode cX12_looks 98 = .ok (.aload_n 0, 1)) := by decide +kernel
theorem dX12_looks_83 : decode cX12_looks 83 = .ok (.aload_n 0, 1) := dX12_looks_83g.1
theorem dX12_looks_84 : decode cX12_looks 84 = .ok (.iconst 2, 1) := dX12_looks_83g.2.1
theorem dX12_looks_85 : decode cX12_looks 85 = .ok (.lconst 1, 1) := dX12_looks_83g.2.2.1
theorem dX12_looks_86 : decode cX12_looks 86 = .ok (.invokevirtual 274, 3) := dX12_looks_83g.2.2.2.1
theorem dX12_looks_89 : decode cX12_looks 89 = .ok (.iconst 0, 1) := dX12_looks_83g.2.2.2.2.1
theorem dX12_looks_90 : decode cX12_looks 90 = .ok (.sipush 999, 3) := dX12_looks_83g.2.2.2.2.2.1
theorem dX12_looks_93 : decode cX12_looks 93 = .ok (.invokestatic 278, 3) := dX12_looks_83g.2.2.2.2.2.2.1
theorem dX12_looks_96 : decode cX12_looks 96 = .ok (.l2i, 1) := dX12_looks_83g.2.2.2.2.2.2.2.1
theorem dX12_looks_97 : decode cX12_looks 97 = .ok (.iastore, 1) := dX12_looks_83g.2.2.2.2.2.2.2.2.1
theorem dX12_looks_98 : decode cX12_looks 98 = .ok (.aload_n 0, 1) := dX12_looks_83g.2.2.2.2.2.2.2.2.2
theorem dX12_looks_99g : (decode cX12_looks 99 = .ok (.getfield 64, 3)) ∧ (decode cX12_looks 102 = .ok (.iload 4, 2)) ∧ (decode cX12_looks 104 = .ok (.aload_n 0, 1)) ∧ (decode cX12_looks 105 = .ok (.iconst 4, 1)) ∧ (decode cX12_looks 106 = .ok (.lconst 0, 1)) ∧ (decode cX12_looks 107 = .ok (.invokevirtual 274, 3)) ∧ (decode cX12_looks 110 = .ok (.lconst 1, 1)) ∧ (decode cX12_looks 111 = .ok (.lcmp, 1)) ∧ (decode cX12_looks 112 = .ok (.ifCond .ne 7, 3)) ∧ (decode cX12_looks 115 = .ok (.iconst 1, 1)) := by decide +kernel
theorem dX12_looks_99 : decode cX12_looks 99 = .ok (.getfield 64, 3) := dX12_looks_99g.1
theorem dX12_looks_102 : decode cX12_looks 102 = .ok (.iload 4, 2) := dX12_looks_99g.2.1
theorem dX12_looks_104 : decode cX12_looks 104 = .ok (.aload_n 0, 1) := dX12_looks_99g.2.2.1
theorem dX12_looks_105 : decode cX12_looks 105 = .ok (.iconst 4, 1) := dX12_looks_99g.2.2.2.1
theorem dX12_looks_106 : decode cX12_looks 106 = .ok (.lconst 0, 1) := dX12_looks_99g.2.2.2.2.1
theorem dX12_looks_107 : decode cX12_looks 107 = .ok (.invokevirtual 274, 3) := dX12_looks_99g.2.2.2.2.2.1
theorem dX12_looks_110 : decode cX12_looks 110 = .ok (.lconst 1, 1) := dX12_looks_99g.2.2.2.2.2.2.1
theorem dX12_looks_111 : decode cX12_looks 111 = .ok (.lcmp, 1) := dX12_looks_99g.2.2.2.2.2.2.2.1
theorem dX12_looks_112 : decode cX12_looks 112 = .ok (.ifCond .ne 7, 3) := dX12_looks_99g.2.2.2.2.2.2.2.2.1
theorem dX12_looks_115 : decode cX12_looks 115 = .ok (.iconst 1, 1) := dX12_looks_99g.2.2.2.2.2.2.2.2.2
theorem dX12_looks_116g : (decode cX12_looks 116 = .ok (.goto 4, 3)) ∧ (decode cX12_looks 119 = .ok (.iconst 0, 1)) ∧ (decode cX12_looks 120 = .ok (.bastore, 1)) ∧ (decode cX12_looks 121 = .ok (.iconst 0, 1)) ∧ (decode cX12_looks 122 = .ok (.istore 5, 2)) ∧ (decode cX12_looks 124 = .ok (.iload 5, 2)) ∧ (decode cX12_looks 126 = .ok (.iconst 2, 1)) ∧ (decode cX12_looks 127 = .ok (.if_icmp .ge 43, 3)) ∧ (decode cX12_looks 130 = .ok (.aload_n 0, 1)) ∧ (decode cX12_looks 131 = .ok (.iload_n 2, 1)) := by decide +kernel
theorem dX12_looks_116 : decode cX12_looks 116 = .ok (.goto 4, 3) := dX12_looks_116g.1
theorem dX12_looks_119 : decode cX12_looks 119 = .ok (.iconst 0, 1) := dX12_looks_116g.2.1
theorem dX12_looks_120 : decode cX12_looks 120 = .ok (.bastore, 1) := dX12_looks_116g.2.2.1
theorem dX12_looks_121 : decode cX12_looks 121 = .ok (.iconst 0, 1) := dX12_looks_116g.2.2.2.1
theorem dX12_looks_122 : decode cX12_looks 122 = .ok (.istore 5, 2) := dX12_looks_116g.2.2.2.2.1
theorem dX12_looks_124 : decode cX12_looks 124 = .ok (.iload 5, 2) := dX12_looks_116g.2.2.2.2.2.1
theorem dX12_looks_126 : decode cX12_looks 126 = .ok (.iconst 2, 1) := dX12_looks_116g.2.2.2.2.2.2.1
theorem dX12_looks_127 : decode cX12_looks 127 = .ok (.if_icmp .ge 43, 3) := dX12_looks_116g.2.2.2.2.2.2.2.1
theorem dX12_looks_130 : decode cX12_looks 130 = .ok (.aload_n 0, 1) := dX12_looks_116g.2.2.2.2.2.2.2.2.1
theorem dX12_looks_131 : decode cX12_looks 131 = .ok (.iload_n 2, 1) := dX12_looks_116g.2.2.2.2.2.2.2.2.2
theorem dX12_looks_132g : (decode cX12_looks 132 = .ok (.iload_n 1, 1)) ∧ (decode cX12_looks 133 = .ok (.iload 5, 2)) ∧ (decode cX12_looks 135 = .ok (.iload_n 3, 1)) ∧ (decode cX12_looks 136 = .ok (.invokevirtual 270, 3)) ∧ (decode cX12_looks 139 = .ok (.aload_n 0, 1)) ∧ (decode cX12_looks 140 = .ok (.getfield 61, 3)) ∧ (decode cX12_looks 143 = .ok (.iconst 2, 1)) ∧ (decode cX12_looks 144 = .ok (.iload 4, 2)) ∧ (decode cX12_looks 146 = .ok (.imul, 1)) ∧ (decode cX12_looks 147 = .ok (.iload 5, 2)) := by decide +kernel
theorem dX12_looks_132 : decode cX12_looks 132 = .ok (.iload_n 1, 1) := dX12_looks_132g.1
theorem dX12_looks_133 : decode cX12_looks 133 = .ok (.iload 5, 2) := dX12_looks_132g.2.1
theorem dX12_looks_135 : decode cX12_looks 135 = .ok (.iload_n 3, 1) := dX12_looks_132g.2.2.1
theorem dX12_looks_136 : decode cX12_looks 136 = .ok (.invokevirtual 270, 3) := dX12_looks_132g.2.2.2.1
theorem dX12_looks_139 : decode cX12_looks 139 = .ok (.aload_n 0, 1) := dX12_looks_132g.2.2.2.2.1
theorem dX12_looks_140 : decode cX12_looks 140 = .ok (.getfield 61, 3) := dX12_looks_132g.2.2.2.2.2.1
theorem dX12_looks_143 : decode cX12_looks 143 = .ok (.iconst 2, 1) := dX12_looks_132g.2.2.2.2.2.2.1
theorem dX12_looks_144 : decode cX12_looks 144 = .ok (.iload 4, 2) := dX12_looks_132g.2.2.2.2.2.2.2.1
theorem dX12_looks_146 : decode cX12_looks 146 = .ok (.imul, 1) := dX12_looks_132g.2.2.2.2.2.2.2.2.1
theorem dX12_looks_147 : decode cX12_looks 147 = .ok (.iload 5, 2) := dX12_looks_132g.2.2.2.2.2.2.2.2.2
theorem dX12_looks_149g : (decode cX12_looks 149 = .ok (.iadd, 1)) ∧ (decode cX12_looks 150 = .ok (.aload_n 0, 1)) ∧ (decode cX12_looks 151 = .ok (.iconst 3, 1)) ∧ (decode cX12_looks 152 = .ok (.lconst 0, 1)) ∧ (decode cX12_looks 153 = .ok (.invokevirtual 274, 3)) ∧ (decode cX12_looks 156 = .ok (.iconst 0, 1)) ∧ (decode cX12_looks 157 = .ok (.bipush 99, 2)) ∧ (decode cX12_looks 159 = .ok (.invokestatic 278, 3)) ∧ (decode cX12_looks 162 = .ok (.l2i, 1)) ∧ (decode cX12_looks 163 = .ok (.iastore, 1)) := by decide +kernel
theorem dX12_looks_149 : decode cX12_looks 149 = .ok (.iadd, 1) := dX12_looks_149g.1
theorem dX12_looks_150 : decode cX12_looks 150 = .ok (.aload_n 0, 1) := dX12_looks_149g.2.1
theorem dX12_looks_151 : decode cX12_looks 151 = .ok (.iconst 3, 1) := dX12_looks_149g.2.2.1
theorem dX12_looks_152 : decode cX12_looks 152 = .ok (.lconst 0, 1) := dX12_looks_149g.2.2.2.1
theorem dX12_looks_153 : decode cX12_looks 153 = .ok (.invokevirtual 274, 3) := dX12_looks_149g.2.2.2.2.1
theorem dX12_looks_156 : decode cX12_looks 156 = .ok (.iconst 0, 1) := dX12_looks_149g.2.2.2.2.2.1
theorem dX12_looks_157 : decode cX12_looks 157 = .ok (.bipush 99, 2) := dX12_looks_149g.2.2.2.2.2.2.1
theorem dX12_looks_159 : decode cX12_looks 159 = .ok (.invokestatic 278, 3) := dX12_looks_149g.2.2.2.2.2.2.2.1
theorem dX12_looks_162 : decode cX12_looks 162 = .ok (.l2i, 1) := dX12_looks_149g.2.2.2.2.2.2.2.2.1
theorem dX12_looks_163 : decode cX12_looks 163 = .ok (.iastore, 1) := dX12_looks_149g.2.2.2.2.2.2.2.2.2
theorem dX12_looks_164g : (decode cX12_looks 164 = .ok (.iinc 5 1, 3)) ∧ (decode cX12_looks 167 = .ok (.goto (-43), 3)) ∧ (decode cX12_looks 170 = .ok (.iinc 2 1, 3)) ∧ (decode cX12_looks 173 = .ok (.goto (-143), 3)) ∧ (decode cX12_looks 176 = .ok (.iinc 1 1, 3)) ∧ (decode cX12_looks 179 = .ok (.goto (-157), 3)) ∧ (decode cX12_looks 182 = .ok (.aload_n 0, 1)) ∧ (decode cX12_looks 183 = .ok (.invokevirtual 285, 3)) ∧ (decode cX12_looks 186 = .ok (.return_, 1)) := by decide +kernel
theorem dX12_looks_164 : decode cX12_looks 164 = .ok (.iinc 5 1, 3) := dX12_looks_164g.1
theorem dX12_looks_167 : decode cX12_looks 167 = .ok (.goto (-43), 3) := dX12_looks_164g.2.1
theorem dX12_looks_170 : decode cX12_looks 170 = .ok (.iinc 2 1, 3) := dX12_looks_164g.2.2.1
theorem dX12_looks_173 : decode cX12_looks 173 = .ok (.goto (-143), 3) := dX12_looks_164g.2.2.2.1
theorem dX12_looks_176 : decode cX12_looks 176 = .ok (.iinc 1 1, 3) := dX12_looks_164g.2.2.2.2.1
theorem dX12_looks_179 : decode cX12_looks 179 = .ok (.goto (-157), 3) := dX12_looks_164g.2.2.2.2.2.1
theorem dX12_looks_182 : decode cX12_looks 182 = .ok (.aload_n 0, 1) := dX12_looks_164g.2.2.2.2.2.2.1
theorem dX12_looks_183 : decode cX12_looks 183 = .ok (.invokevirtual 285, 3) := dX12_looks_164g.2.2.2.2.2.2.2.1
theorem dX12_looks_186 : decode cX12_looks 186 = .ok (.return_, 1) := dX12_looks_164g.2.2.2.2.2.2.2.2
set_option maxHeartbeats 4000000 in
set_option maxRecDepth 100000 in
theorem c_X12_looks (l : Launch) (E : Nat → Nat) (D : va_G) (G : th_G) (h0 : Nat) (hG0 : G h0 = some (10, 0)) : Met l yX12_looks (tb (.code yX12_looks cX12_looks 6 none)) (rm 68) (va_Pc [.ref h0] (PX E D G (fun H => True))) (QXv E D G (fun H => True)) 0 0 (th_A G) := by
  refine Met.ofW (cc := cX12_looks) (maxL := 6) (ret := none) (by decide) rfl ?_
  intro p e s m args below meth c s₁ B hml hv
  obtain ⟨hav, ⟨hI, hN, hK⟩, hX⟩ := hv
  have hx := B.exec
  have hb := B.bytes
  have hr := B.returns
  have hts := atoms_spec (ws := tb (.code yX12_looks cX12_looks 6 none)) B.pre
  have hown : s.vm.findClass RX12 = some m.cls := findClass_of_methodNamed B.named
  have hlocks := B.notSynchronized
  have hS : va_S (th_A G) s.heap s.heap [] := va_S.rf
  have hl := lv_entry ([.ref h0]) (n := 6) (Nat.le_of_ble_eq_true rfl)
  rw [show entryFrame m args 6 = entryFrame m ([.ref h0] : List Value).toArray 6 from by rw [hav], lg_entry_eq]
  generalize (lg_sl ([.ref h0]) ++ List.replicate (6 - (lg_sl ([.ref h0])).length) Slot.unset).toArray = ls at hl ⊢
  have hl : lv_has ls 6 [(0, .ref h0)] := hl
  generalize hR : (headSpec (tb (.code yX12_looks cX12_looks 6 none)) (rm 68)).room = R
  have hR := hR.symm
  generalize hQ : MQ below (QXv E D G (fun H => True)) args s 0 0 (th_A G) = QF
  have hQ := hQ.symm
  have J_22 : ∀ (nn : Nat) (H : Heap) (locs : List Loc) (ls : Array Slot) (v11532 : Int32) , (Int.toNat (96 - v11532.toInt) = nn) → lv_has ls 6 [(1, .int v11532), (0, .ref h0)] → ((0 : Int) ≤ v11532.toInt ∧ v11532.toInt ≤ 96) → th_I (okM E) D G [] H → va_S (th_A G) s.heap H locs → W p l e R s m args below meth c H locs 0 0 QF (F0 m 22 ls []) := by
    intro nn
    induction nn using Nat.strongRecOn with
    | ind nn ih_22 =>
      intro H locs ls v11532  hm hl k11533 hI hS
      have J_30 : ∀ (nn : Nat) (H : Heap) (locs : List Loc) (ls : Array Slot) (v11534 : Int32) , (Int.toNat (24 - v11534.toInt) = nn) → lv_has ls 6 [(2, .int v11534), (1, .int v11532), (0, .ref h0)] → ((0 : Int) ≤ v11534.toInt ∧ v11534.toInt ≤ 24) → ((0 : Int) ≤ v11532.toInt ∧ v11532.toInt ≤ 95) → th_I (okM E) D G [] H → va_S (th_A G) s.heap H locs → W p l e R s m args below meth c H locs 0 0 QF (F0 m 30 ls []) := by
        intro nn
        induction nn using Nat.strongRecOn with
        | ind nn ih_30 =>
          intro H locs ls v11534  hm hl k11536 k11537 hI hS
          have J_124 : ∀ (nn : Nat) (H : Heap) (locs : List Loc) (ls : Array Slot) (v11538 : Int32) (v11539 : Int32) (v11540 : Int32) , (Int.toNat (2 - v11538.toInt) = nn) → lv_has ls 6 [(5, .int v11538), (4, .int v11539), (3, .int v11540), (2, .int v11534), (1, .int v11532), (0, .ref h0)] → ((0 : Int) ≤ v11538.toInt ∧ v11538.toInt ≤ 2) → ((0 : Int) ≤ v11539.toInt ∧ v11539.toInt ≤ 2303) → ((0 : Int) ≤ v11540.toInt ∧ v11540.toInt ≤ 1) → ((0 : Int) ≤ v11534.toInt ∧ v11534.toInt ≤ 23) → th_I (okM E) D G [] H → va_S (th_A G) s.heap H locs → W p l e R s m args below meth c H locs 0 0 QF (F0 m 124 ls []) := by
            intro nn
            induction nn using Nat.strongRecOn with
            | ind nn ih_124 =>
              intro H locs ls v11538 v11539 v11540  hm hl k11543 k11544 k11545 k11546 hI hS
              refine lv_iload hx hb dX12_looks_124 (lv_at hl 0 rfl) ?_
              refine lv_iconst (v := 2) hx hb dX12_looks_126 (by decide) ?_
              refine lv_icmp_ge (tgt := 170) hx hb dX12_looks_127 (by decide) (fun c11547 => ?_) (fun c11547 => ?_)
              · skip
                have k11548 := iv_le (X := (2)) (Y := v11538.toInt) (by decide) rfl c11547
                obtain ⟨v11549, e11550⟩ : ∃ y : Int32, y = v11534 + (1) := ⟨_, rfl⟩
                have tv11549 : v11549.toInt = v11534.toInt + (1) := iv_add rfl (by decide) e11550 (by omega) (by omega)
                refine lv_iinc (v := v11549) (lv' := [(2, .int v11549), (5, .int v11538), (4, .int v11539), (3, .int v11540), (1, .int v11532), (0, .ref h0)]) hx hb dX12_looks_170 hl (k := 3) rfl (by rw [e11550]; rfl) (by decide) rfl (fun ls hl => ?_)
                refine lv_goto (tgt := 30) hx hb dX12_looks_173 (by decide) ?_
                exact ih_30 _ (by omega) H locs ls v11549  rfl (lv_sub hl [0, 4, 5] rfl) ⟨by omega, by omega⟩ ⟨by omega, by omega⟩ hI hS
              · skip
                have k11551 := iv_nle (X := (2)) (Y := v11538.toInt) (by decide) rfl c11547
                refine lv_aload_n hx hb dX12_looks_130 rfl (lv_at hl 5 rfl) ?_
                refine lv_iload_n hx hb dX12_looks_131 rfl (lv_at hl 3 rfl) ?_
                refine lv_iload_n hx hb dX12_looks_132 rfl (lv_at hl 4 rfl) ?_
                refine lv_iload hx hb dX12_looks_133 (lv_at hl 0 rfl) ?_
                refine lv_iload_n hx hb dX12_looks_135 rfl (lv_at hl 2 rfl) ?_
                refine mx_v (As := [.int v11534, .int v11532, .int v11538, .int v11540]) (rest := []) (n := 4) (d := 3) ⟨hx, hb, hml, hown, hts⟩ (c_X12_sets l E D G h0 hG0 v11534 v11532 v11538 v11540 ⟨by omega, by omega⟩) wd_1463 wd_1465 wp_45 wd_13 wd_1466 (by decide +kernel) ⟨by rw [hR]; exact Nat.le_of_ble_eq_true rfl, by rw [hR]; exact Nat.le_of_ble_eq_true rfl⟩ hI hN hK hS hG0 (trivial) rfl hl.1 rfl (Nat.le_of_ble_eq_true rfl) dX12_looks_136 ⟨Nat.zero_le _, Nat.zero_le _⟩ (fun H locs hI hp hS => ?_)
                refine lv_aload_n hx hb dX12_looks_139 rfl (lv_at hl 5 rfl) ?_
                refine gmA hx hb hts inT12 hown hK hI List.not_mem_nil hG0 25 (by decide) (hts _ (tb_c wd_1258)) rfl rfl dX12_looks_140 (fun a11553 hq11554 hf11555 => ?_)
                refine lv_iconst (v := 2) hx hb dX12_looks_143 (by decide) ?_
                refine lv_iload hx hb dX12_looks_144 (lv_at hl 1 rfl) ?_
                refine lv_imul hx hb dX12_looks_146 ?_
                refine lv_topi (fun v11556 e11557 => ?_)
                have tv11556 : v11556.toInt = (2) * v11539.toInt := iv_mul (by decide) rfl e11557 (by omega) (by omega)
                refine lv_iload hx hb dX12_looks_147 (lv_at hl 0 rfl) ?_
                refine lv_iadd hx hb dX12_looks_149 ?_
                refine lv_topi (fun v11558 e11559 => ?_)
                have tv11558 : v11558.toInt = v11556.toInt + v11538.toInt := iv_add rfl rfl e11559 (by omega) (by omega)
                refine lv_aload_n hx hb dX12_looks_150 rfl (lv_at hl 5 rfl) ?_
                refine lv_iconst (v := 3) hx hb dX12_looks_151 (by decide) ?_
                refine lv_lconst hx hb dX12_looks_152 rfl ?_
                refine lv_topl (fun l11560 e11561 => ?_)
                refine mx_l (As := [.int 3, .long l11560]) (rest := [.int v11558, .ref a11553]) (n := 2) (d := 66) ⟨hx, hb, hml, hown, hts⟩ (c_X12_told l E D G h0 hG0 3 l11560) wd_1475 wd_1477 wp_48 wd_13 wd_1478 (by decide +kernel) ⟨by rw [hR]; exact Nat.le_of_ble_eq_true rfl, by rw [hR]; exact Nat.le_of_ble_eq_true rfl⟩ hI hN hK hS hG0 (trivial) rfl hl.1 rfl (Nat.le_of_ble_eq_true rfl) dX12_looks_153 ⟨Nat.zero_le _, Nat.zero_le _⟩ (fun r11562 H locs hI hp hS => ?_)
                refine lv_iconst (v := 0) hx hb dX12_looks_156 (by decide) ?_
                refine lv_bipush (v := 99) hx hb dX12_looks_157 (by decide) ?_
                refine ms_l (As := [.long r11562, .int 0, .int 99]) (rest := [.int v11558, .ref a11553]) (n := 3) (d := 0) ⟨hx, hb, hml, hown, hts⟩ (c_X12_nearest l H r11562 0 99) wd_1524 wd_1525 wd_13 wd_1526 (by decide +kernel) ⟨by rw [hR]; exact Nat.le_of_ble_eq_true rfl, by rw [hR]; exact Nat.le_of_ble_eq_true rfl⟩ hN hS rfl hl.1 rfl (Nat.le_of_ble_eq_true rfl) dX12_looks_159 ⟨Nat.zero_le _, Nat.zero_le _⟩ (fun r11563 locs hp hS => ?_)
                refine lv_l2i hx hb dX12_looks_162 rfl ?_
                refine lv_topi (fun v11564 e11565 => ?_)
                obtain ⟨F11566, hA11567⟩ := om_0 hI hq11554 List.not_mem_nil
                refine th_iast hx hb hK hA11567 0 rfl hS ⟨_, hq11554⟩ (iv_in (X := v11558.toInt) rfl (by omega) (by omega)) dX12_looks_163 (fun H locs hA11568 oq hS => ?_)
                have hI := th_I.put hI hq11554 hA11568 ok_m0 oq
                have e11569 : v11564 = (upd F11566 (v11558 : Int32).toNatClampNeg v11564) (v11558 : Int32).toNatClampNeg := rd_us
                obtain ⟨v11570, e11571⟩ : ∃ y : Int32, y = v11538 + (1) := ⟨_, rfl⟩
                have tv11570 : v11570.toInt = v11538.toInt + (1) := iv_add rfl (by decide) e11571 (by omega) (by omega)
                refine lv_iinc (v := v11570) (lv' := [(5, .int v11570), (4, .int v11539), (3, .int v11540), (2, .int v11534), (1, .int v11532), (0, .ref h0)]) hx hb dX12_looks_164 hl (k := 0) rfl (by rw [e11571]; rfl) (by decide) rfl (fun ls hl => ?_)
                refine lv_goto (tgt := 124) hx hb dX12_looks_167 (by decide) ?_
                exact ih_124 _ (by omega) H locs ls v11570 v11539 v11540  rfl (lv_sub hl [0, 1, 2, 3, 4, 5] rfl) ⟨by omega, by omega⟩ ⟨by omega, by omega⟩ ⟨by omega, by omega⟩ ⟨by omega, by omega⟩ hI hS
          have J_120 : ∀ (H : Heap) (locs : List Loc) (ls : Array Slot) (v11572 : Int32) (v11573 : Int32) (v11576 : Int32) (v11577 : Int32) (a11578 : Nat) , lv_has ls 6 [(4, .int v11572), (3, .int v11573), (2, .int v11534), (1, .int v11532), (0, .ref h0)] → ((0 : Int) ≤ v11572.toInt ∧ v11572.toInt ≤ 2303) → ((0 : Int) ≤ v11573.toInt ∧ v11573.toInt ≤ 1) → ((0 : Int) ≤ v11534.toInt ∧ v11534.toInt ≤ 23) → ((0 : Int) ≤ v11576.toInt ∧ v11576.toInt ≤ 1) → ((0 : Int) ≤ v11577.toInt ∧ v11577.toInt ≤ 2303) → G a11578 = some (5, 2304) → th_I (okM E) D G [] H → va_S (th_A G) s.heap H locs → W p l e R s m args below meth c H locs 0 0 QF (F0 m 120 ls [.int v11576, .int v11577, .ref a11578]) := by
            intro H locs ls v11572 v11573 v11576 v11577 a11578  hl k11579 k11580 k11581 k11582 k11583 ha11578 hI hS
            obtain ⟨F11584, hA11585⟩ := om_5 hI ha11578 List.not_mem_nil
            refine th_zast hx hb hK hA11585 2 rfl hS ⟨_, ha11578⟩ (iv_in (X := v11577.toInt) rfl (by omega) (by omega)) dX12_looks_120 (fun H locs hA11586 oq hS => ?_)
            have hI := th_I.put hI ha11578 hA11586 ok_m5 oq
            refine lv_iconst (v := 0) hx hb dX12_looks_121 (by decide) ?_
            refine lv_istore (lv' := [(5, .int 0), (4, .int v11572), (3, .int v11573), (2, .int v11534), (1, .int v11532), (0, .ref h0)]) hx hb dX12_looks_122 hl (by decide) rfl (fun ls hl => ?_)
            have zl : (0 : Int32).toInt = 0 := by decide
            exact J_124 _ H locs ls 0 v11572 v11573  rfl (lv_sub hl [0, 1, 2, 3, 4, 5] rfl) ⟨by decide, by decide⟩ ⟨by omega, by omega⟩ ⟨by omega, by omega⟩ ⟨by omega, by omega⟩ hI hS
          have J_54 : ∀ (H : Heap) (locs : List Loc) (ls : Array Slot) (v11589 : Int32) , lv_has ls 6 [(2, .int v11534), (1, .int v11532), (0, .ref h0)] → ((0 : Int) ≤ v11534.toInt ∧ v11534.toInt ≤ 23) → ((0 : Int) ≤ v11589.toInt ∧ v11589.toInt ≤ 1) → th_I (okM E) D G [] H → va_S (th_A G) s.heap H locs → W p l e R s m args below meth c H locs 0 0 QF (F0 m 54 ls [.int v11589]) := by
            intro H locs ls v11589  hl k11590 k11591 hI hS
            refine lv_istore_n (lv' := [(3, .int v11589), (2, .int v11534), (1, .int v11532), (0, .ref h0)]) hx hb dX12_looks_54 rfl hl (by decide) rfl (fun ls hl => ?_)
            refine lv_bipush (v := 24) hx hb dX12_looks_55 (by decide) ?_
            refine lv_iload_n hx hb dX12_looks_57 rfl (lv_at hl 2 rfl) ?_
            refine lv_imul hx hb dX12_looks_58 ?_
            refine lv_topi (fun v11592 e11593 => ?_)
            have tv11592 : v11592.toInt = (24) * v11532.toInt := iv_mul (by decide) rfl e11593 (by omega) (by omega)
            refine lv_iload_n hx hb dX12_looks_59 rfl (lv_at hl 1 rfl) ?_
            refine lv_iadd hx hb dX12_looks_60 ?_
            refine lv_topi (fun v11594 e11595 => ?_)
            have tv11594 : v11594.toInt = v11592.toInt + v11534.toInt := iv_add rfl rfl e11595 (by omega) (by omega)
            refine lv_istore (lv' := [(4, .int v11594), (3, .int v11589), (2, .int v11534), (1, .int v11532), (0, .ref h0)]) hx hb dX12_looks_61 hl (by decide) rfl (fun ls hl => ?_)
            refine lv_aload_n hx hb dX12_looks_63 rfl (lv_at hl 4 rfl) ?_
            refine gmA hx hb hts inT12 hown hK hI List.not_mem_nil hG0 23 (by decide) (hts _ (tb_c wd_1256)) rfl rfl dX12_looks_64 (fun a11596 hq11597 hf11598 => ?_)
            refine lv_iload hx hb dX12_looks_67 (lv_at hl 0 rfl) ?_
            refine lv_aload_n hx hb dX12_looks_69 rfl (lv_at hl 4 rfl) ?_
            refine lv_iload_n hx hb dX12_looks_70 rfl (lv_at hl 2 rfl) ?_
            refine lv_iload_n hx hb dX12_looks_71 rfl (lv_at hl 3 rfl) ?_
            refine lv_iload_n hx hb dX12_looks_72 rfl (lv_at hl 1 rfl) ?_
            refine mx_i (As := [.int v11534, .int v11532, .int v11589]) (rest := [.int v11594, .ref a11596]) (n := 3) (d := 67) ⟨hx, hb, hml, hown, hts⟩ (c_X12_flowOf l E D G h0 hG0 v11534 v11532 v11589 ⟨by omega, by omega⟩) wd_1459 wd_1461 wp_44 wd_13 wd_1462 (by decide +kernel) ⟨by rw [hR]; exact Nat.le_of_ble_eq_true rfl, by rw [hR]; exact Nat.le_of_ble_eq_true rfl⟩ hI hN hK hS hG0 (trivial) rfl hl.1 rfl (Nat.le_of_ble_eq_true rfl) dX12_looks_73 ⟨Nat.zero_le _, Nat.zero_le _⟩ (fun r11599 H locs hI hp hS => ?_)
            obtain ⟨F11600, hA11601⟩ := om_0 hI hq11597 List.not_mem_nil
            refine th_iast hx hb hK hA11601 0 rfl hS ⟨_, hq11597⟩ (iv_in (X := v11594.toInt) rfl (by omega) (by omega)) dX12_looks_76 (fun H locs hA11602 oq hS => ?_)
            have hI := th_I.put hI hq11597 hA11602 ok_m0 oq
            have e11603 : r11599 = (upd F11600 (v11594 : Int32).toNatClampNeg r11599) (v11594 : Int32).toNatClampNeg := rd_us
            refine lv_aload_n hx hb dX12_looks_77 rfl (lv_at hl 4 rfl) ?_
            refine gmA hx hb hts inT12 hown hK hI List.not_mem_nil hG0 24 (by decide) (hts _ (tb_c wd_1257)) rfl rfl dX12_looks_78 (fun a11604 hq11605 hf11606 => ?_)
            refine lv_iload hx hb dX12_looks_81 (lv_at hl 0 rfl) ?_
            refine lv_aload_n hx hb dX12_looks_83 rfl (lv_at hl 4 rfl) ?_
            refine lv_iconst (v := 2) hx hb dX12_looks_84 (by decide) ?_
            refine lv_lconst hx hb dX12_looks_85 rfl ?_
            refine lv_topl (fun l11607 e11608 => ?_)
            refine mx_l (As := [.int 2, .long l11607]) (rest := [.int v11594, .ref a11604]) (n := 2) (d := 66) ⟨hx, hb, hml, hown, hts⟩ (c_X12_told l E D G h0 hG0 2 l11607) wd_1475 wd_1477 wp_48 wd_13 wd_1478 (by decide +kernel) ⟨by rw [hR]; exact Nat.le_of_ble_eq_true rfl, by rw [hR]; exact Nat.le_of_ble_eq_true rfl⟩ hI hN hK hS hG0 (trivial) rfl hl.1 rfl (Nat.le_of_ble_eq_true rfl) dX12_looks_86 ⟨Nat.zero_le _, Nat.zero_le _⟩ (fun r11609 H locs hI hp hS => ?_)
            refine lv_iconst (v := 0) hx hb dX12_looks_89 (by decide) ?_
            refine lv_sipush (v := 999) hx hb dX12_looks_90 (by decide) ?_
            refine ms_l (As := [.long r11609, .int 0, .int 999]) (rest := [.int v11594, .ref a11604]) (n := 3) (d := 0) ⟨hx, hb, hml, hown, hts⟩ (c_X12_nearest l H r11609 0 999) wd_1524 wd_1525 wd_13 wd_1526 (by decide +kernel) ⟨by rw [hR]; exact Nat.le_of_ble_eq_true rfl, by rw [hR]; exact Nat.le_of_ble_eq_true rfl⟩ hN hS rfl hl.1 rfl (Nat.le_of_ble_eq_true rfl) dX12_looks_93 ⟨Nat.zero_le _, Nat.zero_le _⟩ (fun r11610 locs hp hS => ?_)
            refine lv_l2i hx hb dX12_looks_96 rfl ?_
            refine lv_topi (fun v11611 e11612 => ?_)
            obtain ⟨F11613, hA11614⟩ := om_0 hI hq11605 List.not_mem_nil
            refine th_iast hx hb hK hA11614 0 rfl hS ⟨_, hq11605⟩ (iv_in (X := v11594.toInt) rfl (by omega) (by omega)) dX12_looks_97 (fun H locs hA11615 oq hS => ?_)
            have hI := th_I.put hI hq11605 hA11615 ok_m0 oq
            have e11616 : v11611 = (upd F11613 (v11594 : Int32).toNatClampNeg v11611) (v11594 : Int32).toNatClampNeg := rd_us
            refine lv_aload_n hx hb dX12_looks_98 rfl (lv_at hl 4 rfl) ?_
            refine gmA hx hb hts inT12 hown hK hI List.not_mem_nil hG0 26 (by decide) (hts _ (tb_c wd_1259)) rfl rfl dX12_looks_99 (fun a11617 hq11618 hf11619 => ?_)
            refine lv_iload hx hb dX12_looks_102 (lv_at hl 0 rfl) ?_
            refine lv_aload_n hx hb dX12_looks_104 rfl (lv_at hl 4 rfl) ?_
            refine lv_iconst (v := 4) hx hb dX12_looks_105 (by decide) ?_
            refine lv_lconst hx hb dX12_looks_106 rfl ?_
            refine lv_topl (fun l11620 e11621 => ?_)
            refine mx_l (As := [.int 4, .long l11620]) (rest := [.int v11594, .ref a11617]) (n := 2) (d := 66) ⟨hx, hb, hml, hown, hts⟩ (c_X12_told l E D G h0 hG0 4 l11620) wd_1475 wd_1477 wp_48 wd_13 wd_1478 (by decide +kernel) ⟨by rw [hR]; exact Nat.le_of_ble_eq_true rfl, by rw [hR]; exact Nat.le_of_ble_eq_true rfl⟩ hI hN hK hS hG0 (trivial) rfl hl.1 rfl (Nat.le_of_ble_eq_true rfl) dX12_looks_107 ⟨Nat.zero_le _, Nat.zero_le _⟩ (fun r11622 H locs hI hp hS => ?_)
            refine lv_lconst hx hb dX12_looks_110 rfl ?_
            refine lv_topl (fun l11623 e11624 => ?_)
            refine W.lcmp hx hb dX12_looks_111 ?_
            refine lv_topi (fun v11625 e11626 => ?_)
            have tv11625 := iv_cmp e11626
            refine lv_if_ne (tgt := 119) hx hb dX12_looks_112 (by decide) (fun c11627 => ?_) (fun c11627 => ?_)
            · skip
              have k11628 := iv_ne (X := v11625.toInt) (Y := (0)) rfl (by decide) c11627
              refine lv_iconst (v := 0) hx hb dX12_looks_119 (by decide) ?_
              exact J_120 H locs ls v11594 v11589 0 v11594 a11617  (lv_sub hl [0, 1, 2, 3, 4] rfl) ⟨by omega, by omega⟩ ⟨by omega, by omega⟩ ⟨by omega, by omega⟩ ⟨by decide, by decide⟩ ⟨by omega, by omega⟩ hq11618 hI hS
            · skip
              have k11629 := iv_eq (X := v11625.toInt) (Y := (0)) rfl (by decide) c11627
              refine lv_iconst (v := 1) hx hb dX12_looks_115 (by decide) ?_
              refine lv_goto (tgt := 120) hx hb dX12_looks_116 (by decide) ?_
              exact J_120 H locs ls v11594 v11589 1 v11594 a11617  (lv_sub hl [0, 1, 2, 3, 4] rfl) ⟨by omega, by omega⟩ ⟨by omega, by omega⟩ ⟨by omega, by omega⟩ ⟨by decide, by decide⟩ ⟨by omega, by omega⟩ hq11618 hI hS
          refine lv_iload_n hx hb dX12_looks_30 rfl (lv_at hl 0 rfl) ?_
          refine lv_bipush (v := 24) hx hb dX12_looks_31 (by decide) ?_
          refine lv_icmp_ge (tgt := 176) hx hb dX12_looks_33 (by decide) (fun c11630 => ?_) (fun c11630 => ?_)
          · skip
            have k11631 := iv_le (X := (24)) (Y := v11534.toInt) (by decide) rfl c11630
            obtain ⟨v11632, e11633⟩ : ∃ y : Int32, y = v11532 + (1) := ⟨_, rfl⟩
            have tv11632 : v11632.toInt = v11532.toInt + (1) := iv_add rfl (by decide) e11633 (by omega) (by omega)
            refine lv_iinc (v := v11632) (lv' := [(1, .int v11632), (2, .int v11534), (0, .ref h0)]) hx hb dX12_looks_176 hl (k := 1) rfl (by rw [e11633]; rfl) (by decide) rfl (fun ls hl => ?_)
            refine lv_goto (tgt := 22) hx hb dX12_looks_179 (by decide) ?_
            exact ih_22 _ (by omega) H locs ls v11632  rfl (lv_sub hl [0, 2] rfl) ⟨by omega, by omega⟩ hI hS
          · skip
            have k11634 := iv_nle (X := (24)) (Y := v11534.toInt) (by decide) rfl c11630
            refine lv_aload_n hx hb dX12_looks_36 rfl (lv_at hl 2 rfl) ?_
            refine gmA hx hb hts inT12 hown hK hI List.not_mem_nil hG0 3 (by decide) (hts _ (tb_c wd_1236)) rfl rfl dX12_looks_37 (fun a11635 hq11636 hf11637 => ?_)
            refine lv_bipush (v := 10) hx hb dX12_looks_40 (by decide) ?_
            refine lv_iload_n hx hb dX12_looks_42 rfl (lv_at hl 1 rfl) ?_
            refine lv_iadd hx hb dX12_looks_43 ?_
            refine lv_topi (fun v11638 e11639 => ?_)
            have tv11638 : v11638.toInt = (10) + v11532.toInt := iv_add (by decide) rfl e11639 (by omega) (by omega)
            obtain ⟨F11640, hA11641, hP11642⟩ := om_1 hI hq11636 List.not_mem_nil
            refine th_iald hx hb hK hA11641 0 rfl (iv_in (X := v11638.toInt) rfl (by omega) (by omega)) dX12_looks_44 (fun v11643 e11644 => ?_)
            refine lv_iconst (v := 1) hx hb dX12_looks_45 (by decide) ?_
            have k11645 := iv_lo v11643
            have k11646 := iv_hi v11643
            refine lv_icmp_ne (tgt := 53) hx hb dX12_looks_46 (by decide) (fun c11647 => ?_) (fun c11647 => ?_)
            · skip
              have k11648 := iv_ne (X := v11643.toInt) (Y := (1)) rfl (by decide) c11647
              refine lv_iconst (v := 0) hx hb dX12_looks_53 (by decide) ?_
              exact J_54 H locs ls 0  (lv_sub hl [0, 1, 2] rfl) ⟨by omega, by omega⟩ ⟨by decide, by decide⟩ hI hS
            · skip
              have k11649 := iv_eq (X := v11643.toInt) (Y := (1)) rfl (by decide) c11647
              refine lv_iconst (v := 1) hx hb dX12_looks_49 (by decide) ?_
              refine lv_goto (tgt := 54) hx hb dX12_looks_50 (by decide) ?_
              exact J_54 H locs ls 1  (lv_sub hl [0, 1, 2] rfl) ⟨by omega, by omega⟩ ⟨by decide, by decide⟩ hI hS
      refine lv_iload_n hx hb dX12_looks_22 rfl (lv_at hl 0 rfl) ?_
      refine lv_bipush (v := 96) hx hb dX12_looks_23 (by decide) ?_
      refine lv_icmp_ge (tgt := 182) hx hb dX12_looks_25 (by decide) (fun c11650 => ?_) (fun c11650 => ?_)
      · skip
        have k11651 := iv_le (X := (96)) (Y := v11532.toInt) (by decide) rfl c11650
        refine lv_aload_n hx hb dX12_looks_182 rfl (lv_at hl 1 rfl) ?_
        refine mx_v (As := []) (rest := []) (n := 0) (d := 3) ⟨hx, hb, hml, hown, hts⟩ (c_X12_laysNext l E D G h0 hG0 ) wd_1527 wd_1529 wp_59 wd_13 wd_1530 (by decide +kernel) ⟨by rw [hR]; exact Nat.le_of_ble_eq_true rfl, by rw [hR]; exact Nat.le_of_ble_eq_true rfl⟩ hI hN hK hS hG0 (trivial) rfl hl.1 rfl (Nat.le_of_ble_eq_true rfl) dX12_looks_183 ⟨Nat.zero_le _, Nat.zero_le _⟩ (fun H locs hI hp hS => ?_)
        have hpost : True := trivial
        rw [hQ]
        exact W.vret hx hb hr (fun t ht hW => ⟨⟨(), rfl, trivial, ⟨by rw [ht]; exact hI, hN.warm hW, va_K.moved hW.alike hK⟩, by first | (rw [ht]; exact hpost) | exact hpost⟩, hS.F ht⟩) hS.2.2 dX12_looks_186
      · skip
        have k11653 := iv_nle (X := (96)) (Y := v11532.toInt) (by decide) rfl c11650
        refine lv_iconst (v := 0) hx hb dX12_looks_28 (by decide) ?_
        refine lv_istore_n (lv' := [(2, .int 0), (1, .int v11532), (0, .ref h0)]) hx hb dX12_looks_29 rfl hl (by decide) rfl (fun ls hl => ?_)
        have zl : (0 : Int32).toInt = 0 := by decide
        exact J_30 _ H locs ls 0  rfl (lv_sub hl [0, 1, 2] rfl) ⟨by decide, by decide⟩ ⟨by omega, by omega⟩ hI hS
  refine lv_aload_n hx hb dX12_looks_0 rfl (lv_at hl 0 rfl) ?_
  refine gmI hx hb hts inT12 hown hK hI List.not_mem_nil hG0 28 (by decide) (hts _ (tb_c wd_1261)) rfl rfl dX12_looks_1 (fun w11654 hg11655 k11656 k11657 => ?_)
  refine lv_aload_n hx hb dX12_looks_4 rfl (lv_at hl 0 rfl) ?_
  refine gmI hx hb hts inT12 hown hK hI List.not_mem_nil hG0 1 (by decide) (hts _ (tb_c wd_1234)) rfl rfl dX12_looks_5 (fun w11658 hg11659 k11660 k11661 => ?_)
  refine lv_icmp_ne (tgt := 12) hx hb dX12_looks_8 (by decide) (fun c11662 => ?_) (fun c11662 => ?_)
  · skip
    have k11663 := iv_ne (X := w11654.toInt) (Y := w11658.toInt) rfl rfl c11662
    refine lv_aload_n hx hb dX12_looks_12 rfl (lv_at hl 0 rfl) ?_
    refine lv_aload_n hx hb dX12_looks_13 rfl (lv_at hl 0 rfl) ?_
    refine gmI hx hb hts inT12 hown hK hI List.not_mem_nil hG0 1 (by decide) (hts _ (tb_c wd_1234)) rfl rfl dX12_looks_14 (fun w11664 hg11665 k11666 k11667 => ?_)
    obtain rfl := gf.uniq (by decide) hg11659 hg11665
    refine pmI (ty := .int) hx hb hts inT12 hown hK hI List.not_mem_nil hG0 hS ⟨_, hG0⟩ 28 (by decide) (hts _ (tb_c wd_1261)) rfl rfl (by decide +kernel) rfl rfl rfl (by omega) (by omega) dX12_looks_17 (fun H locs hI hgP hS => ?_)
    have hg11659 := hgP.2.2.1 1 _ (by decide) (by decide) hg11659
    have hg11668 := hgP.2.1
    refine lv_iconst (v := 0) hx hb dX12_looks_20 (by decide) ?_
    refine lv_istore_n (lv' := [(1, .int 0), (0, .ref h0)]) hx hb dX12_looks_21 rfl hl (by decide) rfl (fun ls hl => ?_)
    have zl : (0 : Int32).toInt = 0 := by decide
    exact J_22 _ H locs ls 0  rfl (lv_sub hl [0, 1] rfl) ⟨by decide, by decide⟩ hI hS
  · skip
    have k11669 := iv_eq (X := w11654.toInt) (Y := w11658.toInt) rfl rfl c11662
    have hpost : True := trivial
    rw [hQ]
    exact W.vret hx hb hr (fun t ht hW => ⟨⟨(), rfl, trivial, ⟨by rw [ht]; exact hI, hN.warm hW, va_K.moved hW.alike hK⟩, by first | (rw [ht]; exact hpost) | exact hpost⟩, hS.F ht⟩) hS.2.2 dX12_looks_11
theorem dX12_flow_0g : (decode cX12_flow 0 = .ok (.iload_n 1, 1)) ∧ (decode cX12_flow 1 = .ok (.invokestatic 118, 3)) ∧ (decode cX12_flow 4 = .ok (.ifCond .eq 10, 3)) ∧ (decode cX12_flow 7 = .ok (.iload_n 2, 1)) ∧ (decode cX12_flow 8 = .ok (.invokestatic 114, 3)) ∧ (decode cX12_flow 11 = .ok (.ifCond .ne 7, 3)) ∧ (decode cX12_flow 14 = .ok (.sipush (-1000), 3)) ∧ (decode cX12_flow 17 = .ok (.ireturn, 1)) ∧ (decode cX12_flow 18 = .ok (.aload_n 0, 1)) ∧ (decode cX12_flow 19 = .ok (.invokevirtual 138, 3)) := by decide +kernel
theorem dX12_flow_0 : decode cX12_flow 0 = .ok (.iload_n 1, 1) := dX12_flow_0g.1
theorem dX12_flow_1 : decode cX12_flow 1 = .ok (.invokestatic 118, 3) := dX12_flow_0g.2.1
theorem dX12_flow_4 : decode cX12_flow 4 = .ok (.ifCond .eq 10, 3) := dX12_flow_0g.2.2.1
theorem dX12_flow_7 : decode cX12_flow 7 = .ok (.iload_n 2, 1) := dX12_flow_0g.2.2.2.1
theorem dX12_flow_8 : decode cX12_flow 8 = .ok (.invokestatic 114, 3) := dX12_flow_0g.2.2.2.2.1
theorem dX12_flow_11 : decode cX12_flow 11 = .ok (.ifCond .ne 7, 3) := dX12_flow_0g.2.2.2.2.2.1
theorem dX12_flow_14 : decode cX12_flow 14 = .ok (.sipush (-1000), 3) := dX12_flow_0g.2.2.2.2.2.2.1
theorem dX12_flow_17 : decode cX12_flow 17 = .ok (.ireturn, 1) := dX12_flow_0g.2.2.2.2.2.2.2.1
theorem dX12_flow_18 : decode cX12_flow 18 = .ok (.aload_n 0, 1) := dX12_flow_0g.2.2.2.2.2.2.2.2.1
theorem dX12_flow_19 : decode cX12_flow 19 = .ok (.invokevirtual 138, 3) := dX12_flow_0g.2.2.2.2.2.2.2.2.2
theorem dX12_flow_22g : (decode cX12_flow 22 = .ok (.aload_n 0, 1)) ∧ (decode cX12_flow 23 = .ok (.getfield 55, 3)) ∧ (decode cX12_flow 26 = .ok (.bipush 24, 2)) ∧ (decode cX12_flow 28 = .ok (.iload_n 2, 1)) ∧ (decode cX12_flow 29 = .ok (.imul, 1)) ∧ (decode cX12_flow 30 = .ok (.iload_n 1, 1)) ∧ (decode cX12_flow 31 = .ok (.iadd, 1)) ∧ (decode cX12_flow 32 = .ok (.iaload, 1)) ∧ (decode cX12_flow 33 = .ok (.ireturn, 1)) := by decide +kernel
theorem dX12_flow_22 : decode cX12_flow 22 = .ok (.aload_n 0, 1) := dX12_flow_22g.1
theorem dX12_flow_23 : decode cX12_flow 23 = .ok (.getfield 55, 3) := dX12_flow_22g.2.1
theorem dX12_flow_26 : decode cX12_flow 26 = .ok (.bipush 24, 2) := dX12_flow_22g.2.2.1
theorem dX12_flow_28 : decode cX12_flow 28 = .ok (.iload_n 2, 1) := dX12_flow_22g.2.2.2.1
theorem dX12_flow_29 : decode cX12_flow 29 = .ok (.imul, 1) := dX12_flow_22g.2.2.2.2.1
theorem dX12_flow_30 : decode cX12_flow 30 = .ok (.iload_n 1, 1) := dX12_flow_22g.2.2.2.2.2.1
theorem dX12_flow_31 : decode cX12_flow 31 = .ok (.iadd, 1) := dX12_flow_22g.2.2.2.2.2.2.1
theorem dX12_flow_32 : decode cX12_flow 32 = .ok (.iaload, 1) := dX12_flow_22g.2.2.2.2.2.2.2.1
theorem dX12_flow_33 : decode cX12_flow 33 = .ok (.ireturn, 1) := dX12_flow_22g.2.2.2.2.2.2.2.2
set_option maxHeartbeats 4000000 in
set_option maxRecDepth 100000 in
theorem c_X12_flow (l : Launch) (E : Nat → Nat) (D : va_G) (G : th_G) (h0 : Nat) (hG0 : G h0 = some (10, 0)) (x1 : Int32) (x2 : Int32) : Met l yX12_flow (tb (.code yX12_flow cX12_flow 3 (some .int))) (rm 69) (va_Pc [.ref h0, .int x1, .int x2] (PX E D G (fun H => True))) (QXi E D G (fun r H => True)) 0 0 (th_A G) := by
  refine Met.ofW (cc := cX12_flow) (maxL := 3) (ret := (some .int)) (by decide) rfl ?_
  intro p e s m args below meth c s₁ B hml hv
  obtain ⟨hav, ⟨hI, hN, hK⟩, hX⟩ := hv
  have hx := B.exec
  have hb := B.bytes
  have hr := B.returns
  have hts := atoms_spec (ws := tb (.code yX12_flow cX12_flow 3 (some .int))) B.pre
  have hown : s.vm.findClass RX12 = some m.cls := findClass_of_methodNamed B.named
  have hlocks := B.notSynchronized
  have hS : va_S (th_A G) s.heap s.heap [] := va_S.rf
  have hl := lv_entry ([.ref h0, .int x1, .int x2]) (n := 3) (Nat.le_of_ble_eq_true rfl)
  rw [show entryFrame m args 3 = entryFrame m ([.ref h0, .int x1, .int x2] : List Value).toArray 3 from by rw [hav], lg_entry_eq]
  generalize (lg_sl ([.ref h0, .int x1, .int x2]) ++ List.replicate (3 - (lg_sl ([.ref h0, .int x1, .int x2])).length) Slot.unset).toArray = ls at hl ⊢
  have hl : lv_has ls 3 [(0, .ref h0), (1, .int x1), (2, .int x2)] := hl
  generalize hR : (headSpec (tb (.code yX12_flow cX12_flow 3 (some .int))) (rm 69)).room = R
  have hR := hR.symm
  generalize hQ : MQ below (QXi E D G (fun r H => True)) args s 0 0 (th_A G) = QF
  have hQ := hQ.symm
  have J_14 : ∀ (H : Heap) (locs : List Loc) (ls : Array Slot)  , lv_has ls 3 [(0, .ref h0), (1, .int x1), (2, .int x2)] → th_I (okM E) D G [] H → va_S (th_A G) s.heap H locs → W p l e R s m args below meth c H locs 0 0 QF (F0 m 14 ls []) := by
    intro H locs ls   hl  hI hS
    refine lv_sipush (v := (-1000)) hx hb dX12_flow_14 (by decide) ?_
    have hpost : True := trivial
    rw [hQ]
    exact W.iret (v := (-1000)) hx hb hr (fun t ht hW => ⟨⟨(-1000), (-1000), rfl, rfl, ⟨by rw [ht]; exact hI, hN.warm hW, va_K.moved hW.alike hK⟩, by first | (rw [ht]; exact hpost) | exact hpost⟩, hS.F ht⟩) hS.2.2 dX12_flow_17
  refine lv_iload_n hx hb dX12_flow_0 rfl (lv_at hl 1 rfl) ?_
  refine th_cSs (As := [.int x1]) (rest := []) (n := 1) (d := 1) ⟨hx, hb, hml, hown, hts⟩ (c_X12_isCell l s.heap x1) wd_1414 wd_1415 wd_13 wd_1416 (by decide +kernel) ⟨by rw [hR]; exact Nat.le_of_ble_eq_true rfl, by rw [hR]; exact Nat.le_of_ble_eq_true rfl⟩ hN hS rfl hl.1 rfl (Nat.le_of_ble_eq_true rfl) dX12_flow_1 ⟨Nat.zero_le _, Nat.zero_le _⟩ (fun r145 locs hp hS => ?_)
  rcases hp with ⟨rfl, hp⟩ | ⟨rfl, hp⟩
  · skip
    try simp only [rg, not_and, Int.not_le] at hp
    have hp146 := hp
    refine lv_if_eq (tgt := 14) hx hb dX12_flow_4 (by decide) (fun c => absurd c (by decide)) (fun _ => ?_)
    refine lv_iload_n hx hb dX12_flow_7 rfl (lv_at hl 2 rfl) ?_
    refine th_cSs (As := [.int x2]) (rest := []) (n := 1) (d := 1) ⟨hx, hb, hml, hown, hts⟩ (c_X12_isHour l s.heap x2) wd_1428 wd_1429 wd_13 wd_1430 (by decide +kernel) ⟨by rw [hR]; exact Nat.le_of_ble_eq_true rfl, by rw [hR]; exact Nat.le_of_ble_eq_true rfl⟩ hN hS rfl hl.1 rfl (Nat.le_of_ble_eq_true rfl) dX12_flow_8 ⟨Nat.zero_le _, Nat.zero_le _⟩ (fun r147 locs hp hS => ?_)
    rcases hp with ⟨rfl, hp⟩ | ⟨rfl, hp⟩
    · skip
      try simp only [rg, not_and, Int.not_le] at hp
      have hp148 := hp
      refine lv_if_ne (tgt := 18) hx hb dX12_flow_11 (by decide) (fun _ => ?_) (fun c => absurd c (by decide))
      refine lv_aload_n hx hb dX12_flow_18 rfl (lv_at hl 0 rfl) ?_
      refine mx_v (As := []) (rest := []) (n := 0) (d := 68) ⟨hx, hb, hml, hown, hts⟩ (c_X12_looks l E D G h0 hG0 ) wd_1455 wd_1457 wp_43 wd_13 wd_1458 (by decide +kernel) ⟨by rw [hR]; exact Nat.le_of_ble_eq_true rfl, by rw [hR]; exact Nat.le_of_ble_eq_true rfl⟩ hI hN hK hS hG0 (trivial) rfl hl.1 rfl (Nat.le_of_ble_eq_true rfl) dX12_flow_19 ⟨Nat.zero_le _, Nat.zero_le _⟩ (fun H locs hI hp hS => ?_)
      refine lv_aload_n hx hb dX12_flow_22 rfl (lv_at hl 0 rfl) ?_
      refine gmA hx hb hts inT12 hown hK hI List.not_mem_nil hG0 23 (by decide) (hts _ (tb_c wd_1256)) rfl rfl dX12_flow_23 (fun a150 hq151 hf152 => ?_)
      refine lv_bipush (v := 24) hx hb dX12_flow_26 (by decide) ?_
      refine lv_iload_n hx hb dX12_flow_28 rfl (lv_at hl 2 rfl) ?_
      refine lv_imul hx hb dX12_flow_29 ?_
      refine lv_topi (fun v153 e154 => ?_)
      have tv153 : v153.toInt = (24) * x2.toInt := iv_mul (by decide) rfl e154 (by omega) (by omega)
      refine lv_iload_n hx hb dX12_flow_30 rfl (lv_at hl 1 rfl) ?_
      refine lv_iadd hx hb dX12_flow_31 ?_
      refine lv_topi (fun v155 e156 => ?_)
      have tv155 : v155.toInt = v153.toInt + x1.toInt := iv_add rfl rfl e156 (by omega) (by omega)
      obtain ⟨F157, hA158⟩ := om_0 hI hq151 List.not_mem_nil
      refine th_iald hx hb hK hA158 0 rfl (iv_in (X := v155.toInt) rfl (by omega) (by omega)) dX12_flow_32 (fun v159 e160 => ?_)
      have hpost : True := trivial
      rw [hQ]
      exact W.iret (v := v159) hx hb hr (fun t ht hW => ⟨⟨v159, v159, rfl, rfl, ⟨by rw [ht]; exact hI, hN.warm hW, va_K.moved hW.alike hK⟩, by first | (rw [ht]; exact hpost) | exact hpost⟩, hS.F ht⟩) hS.2.2 dX12_flow_33
    · skip
      try simp only [rg, not_and, Int.not_le] at hp
      have hp161 := hp
      refine lv_if_ne (tgt := 18) hx hb dX12_flow_11 (by decide) (fun c => absurd c (by decide)) (fun _ => ?_)
      exact J_14 s.heap locs ls   (lv_sub hl [0, 1, 2] rfl)  hI hS
  · skip
    try simp only [rg, not_and, Int.not_le] at hp
    have hp162 := hp
    refine lv_if_eq (tgt := 14) hx hb dX12_flow_4 (by decide) (fun _ => ?_) (fun c => absurd c (by decide))
    exact J_14 s.heap locs ls   (lv_sub hl [0, 1, 2] rfl)  hI hS
theorem dX12_asks_0g : (decode cX12_asks 0 = .ok (.iload_n 1, 1)) ∧ (decode cX12_asks 1 = .ok (.invokestatic 118, 3)) ∧ (decode cX12_asks 4 = .ok (.ifCond .eq 19, 3)) ∧ (decode cX12_asks 7 = .ok (.iload_n 2, 1)) ∧ (decode cX12_asks 8 = .ok (.invokestatic 114, 3)) ∧ (decode cX12_asks 11 = .ok (.ifCond .eq 12, 3)) ∧ (decode cX12_asks 14 = .ok (.iload_n 3, 1)) ∧ (decode cX12_asks 15 = .ok (.iconst 0, 1)) ∧ (decode cX12_asks 16 = .ok (.iconst 3, 1)) ∧ (decode cX12_asks 17 = .ok (.invokestatic 103, 3)) := by decide +kernel
theorem dX12_asks_0 : decode cX12_asks 0 = .ok (.iload_n 1, 1) := dX12_asks_0g.1
theorem dX12_asks_1 : decode cX12_asks 1 = .ok (.invokestatic 118, 3) := dX12_asks_0g.2.1
theorem dX12_asks_4 : decode cX12_asks 4 = .ok (.ifCond .eq 19, 3) := dX12_asks_0g.2.2.1
theorem dX12_asks_7 : decode cX12_asks 7 = .ok (.iload_n 2, 1) := dX12_asks_0g.2.2.2.1
theorem dX12_asks_8 : decode cX12_asks 8 = .ok (.invokestatic 114, 3) := dX12_asks_0g.2.2.2.2.1
theorem dX12_asks_11 : decode cX12_asks 11 = .ok (.ifCond .eq 12, 3) := dX12_asks_0g.2.2.2.2.2.1
theorem dX12_asks_14 : decode cX12_asks 14 = .ok (.iload_n 3, 1) := dX12_asks_0g.2.2.2.2.2.2.1
theorem dX12_asks_15 : decode cX12_asks 15 = .ok (.iconst 0, 1) := dX12_asks_0g.2.2.2.2.2.2.2.1
theorem dX12_asks_16 : decode cX12_asks 16 = .ok (.iconst 3, 1) := dX12_asks_0g.2.2.2.2.2.2.2.2.1
theorem dX12_asks_17 : decode cX12_asks 17 = .ok (.invokestatic 103, 3) := dX12_asks_0g.2.2.2.2.2.2.2.2.2
theorem dX12_asks_20g : (decode cX12_asks 20 = .ok (.ifCond .ne 5, 3)) ∧ (decode cX12_asks 23 = .ok (.iconst (-1), 1)) ∧ (decode cX12_asks 24 = .ok (.ireturn, 1)) ∧ (decode cX12_asks 25 = .ok (.aload_n 0, 1)) ∧ (decode cX12_asks 26 = .ok (.invokevirtual 138, 3)) ∧ (decode cX12_asks 29 = .ok (.bipush 24, 2)) ∧ (decode cX12_asks 31 = .ok (.iload_n 2, 1)) ∧ (decode cX12_asks 32 = .ok (.imul, 1)) ∧ (decode cX12_asks 33 = .ok (.iload_n 1, 1)) ∧ (decode cX12_asks 34 = .ok (.iadd, 1)) := by decide +kernel
theorem dX12_asks_20 : decode cX12_asks 20 = .ok (.ifCond .ne 5, 3) := dX12_asks_20g.1
theorem dX12_asks_23 : decode cX12_asks 23 = .ok (.iconst (-1), 1) := dX12_asks_20g.2.1
theorem dX12_asks_24 : decode cX12_asks 24 = .ok (.ireturn, 1) := dX12_asks_20g.2.2.1
theorem dX12_asks_25 : decode cX12_asks 25 = .ok (.aload_n 0, 1) := dX12_asks_20g.2.2.2.1
theorem dX12_asks_26 : decode cX12_asks 26 = .ok (.invokevirtual 138, 3) := dX12_asks_20g.2.2.2.2.1
theorem dX12_asks_29 : decode cX12_asks 29 = .ok (.bipush 24, 2) := dX12_asks_20g.2.2.2.2.2.1
theorem dX12_asks_31 : decode cX12_asks 31 = .ok (.iload_n 2, 1) := dX12_asks_20g.2.2.2.2.2.2.1
theorem dX12_asks_32 : decode cX12_asks 32 = .ok (.imul, 1) := dX12_asks_20g.2.2.2.2.2.2.2.1
theorem dX12_asks_33 : decode cX12_asks 33 = .ok (.iload_n 1, 1) := dX12_asks_20g.2.2.2.2.2.2.2.2.1
theorem dX12_asks_34 : decode cX12_asks 34 = .ok (.iadd, 1) := dX12_asks_20g.2.2.2.2.2.2.2.2.2
theorem dX12_asks_35g : (decode cX12_asks 35 = .ok (.istore 4, 2)) ∧ (decode cX12_asks 37 = .ok (.iload_n 3, 1)) ∧ (decode cX12_asks 38 = .ok (.ifCond .ne 13, 3)) ∧ (decode cX12_asks 41 = .ok (.aload_n 0, 1)) ∧ (decode cX12_asks 42 = .ok (.getfield 58, 3)) ∧ (decode cX12_asks 45 = .ok (.iload 4, 2)) ∧ (decode cX12_asks 47 = .ok (.iaload, 1)) ∧ (decode cX12_asks 48 = .ok (.goto 54, 3)) ∧ (decode cX12_asks 51 = .ok (.iload_n 3, 1)) ∧ (decode cX12_asks 52 = .ok (.iconst 1, 1)) := by decide +kernel
theorem dX12_asks_35 : decode cX12_asks 35 = .ok (.istore 4, 2) := dX12_asks_35g.1
theorem dX12_asks_37 : decode cX12_asks 37 = .ok (.iload_n 3, 1) := dX12_asks_35g.2.1
theorem dX12_asks_38 : decode cX12_asks 38 = .ok (.ifCond .ne 13, 3) := dX12_asks_35g.2.2.1
theorem dX12_asks_41 : decode cX12_asks 41 = .ok (.aload_n 0, 1) := dX12_asks_35g.2.2.2.1
theorem dX12_asks_42 : decode cX12_asks 42 = .ok (.getfield 58, 3) := dX12_asks_35g.2.2.2.2.1
theorem dX12_asks_45 : decode cX12_asks 45 = .ok (.iload 4, 2) := dX12_asks_35g.2.2.2.2.2.1
theorem dX12_asks_47 : decode cX12_asks 47 = .ok (.iaload, 1) := dX12_asks_35g.2.2.2.2.2.2.1
theorem dX12_asks_48 : decode cX12_asks 48 = .ok (.goto 54, 3) := dX12_asks_35g.2.2.2.2.2.2.2.1
theorem dX12_asks_51 : decode cX12_asks 51 = .ok (.iload_n 3, 1) := dX12_asks_35g.2.2.2.2.2.2.2.2.1
theorem dX12_asks_52 : decode cX12_asks 52 = .ok (.iconst 1, 1) := dX12_asks_35g.2.2.2.2.2.2.2.2.2
theorem dX12_asks_53g : (decode cX12_asks 53 = .ok (.if_icmp .ne 21, 3)) ∧ (decode cX12_asks 56 = .ok (.aload_n 0, 1)) ∧ (decode cX12_asks 57 = .ok (.getfield 64, 3)) ∧ (decode cX12_asks 60 = .ok (.iload 4, 2)) ∧ (decode cX12_asks 62 = .ok (.baload, 1)) ∧ (decode cX12_asks 63 = .ok (.ifCond .eq 7, 3)) ∧ (decode cX12_asks 66 = .ok (.iconst 1, 1)) ∧ (decode cX12_asks 67 = .ok (.goto 35, 3)) ∧ (decode cX12_asks 70 = .ok (.iconst 0, 1)) ∧ (decode cX12_asks 71 = .ok (.goto 31, 3)) := by decide +kernel
theorem dX12_asks_53 : decode cX12_asks 53 = .ok (.if_icmp .ne 21, 3) := dX12_asks_53g.1
theorem dX12_asks_56 : decode cX12_asks 56 = .ok (.aload_n 0, 1) := dX12_asks_53g.2.1
theorem dX12_asks_57 : decode cX12_asks 57 = .ok (.getfield 64, 3) := dX12_asks_53g.2.2.1
theorem dX12_asks_60 : decode cX12_asks 60 = .ok (.iload 4, 2) := dX12_asks_53g.2.2.2.1
theorem dX12_asks_62 : decode cX12_asks 62 = .ok (.baload, 1) := dX12_asks_53g.2.2.2.2.1
theorem dX12_asks_63 : decode cX12_asks 63 = .ok (.ifCond .eq 7, 3) := dX12_asks_53g.2.2.2.2.2.1
theorem dX12_asks_66 : decode cX12_asks 66 = .ok (.iconst 1, 1) := dX12_asks_53g.2.2.2.2.2.2.1
theorem dX12_asks_67 : decode cX12_asks 67 = .ok (.goto 35, 3) := dX12_asks_53g.2.2.2.2.2.2.2.1
theorem dX12_asks_70 : decode cX12_asks 70 = .ok (.iconst 0, 1) := dX12_asks_53g.2.2.2.2.2.2.2.2.1
theorem dX12_asks_71 : decode cX12_asks 71 = .ok (.goto 31, 3) := dX12_asks_53g.2.2.2.2.2.2.2.2.2
theorem dX12_asks_74g : (decode cX12_asks 74 = .ok (.iload_n 3, 1)) ∧ (decode cX12_asks 75 = .ok (.iconst 2, 1)) ∧ (decode cX12_asks 76 = .ok (.if_icmp .ne 17, 3)) ∧ (decode cX12_asks 79 = .ok (.aload_n 0, 1)) ∧ (decode cX12_asks 80 = .ok (.getfield 61, 3)) ∧ (decode cX12_asks 83 = .ok (.iconst 2, 1)) ∧ (decode cX12_asks 84 = .ok (.iload 4, 2)) ∧ (decode cX12_asks 86 = .ok (.imul, 1)) ∧ (decode cX12_asks 87 = .ok (.iconst 1, 1)) ∧ (decode cX12_asks 88 = .ok (.iadd, 1)) := by decide +kernel
theorem dX12_asks_74 : decode cX12_asks 74 = .ok (.iload_n 3, 1) := dX12_asks_74g.1
theorem dX12_asks_75 : decode cX12_asks 75 = .ok (.iconst 2, 1) := dX12_asks_74g.2.1
theorem dX12_asks_76 : decode cX12_asks 76 = .ok (.if_icmp .ne 17, 3) := dX12_asks_74g.2.2.1
theorem dX12_asks_79 : decode cX12_asks 79 = .ok (.aload_n 0, 1) := dX12_asks_74g.2.2.2.1
theorem dX12_asks_80 : decode cX12_asks 80 = .ok (.getfield 61, 3) := dX12_asks_74g.2.2.2.2.1
theorem dX12_asks_83 : decode cX12_asks 83 = .ok (.iconst 2, 1) := dX12_asks_74g.2.2.2.2.2.1
theorem dX12_asks_84 : decode cX12_asks 84 = .ok (.iload 4, 2) := dX12_asks_74g.2.2.2.2.2.2.1
theorem dX12_asks_86 : decode cX12_asks 86 = .ok (.imul, 1) := dX12_asks_74g.2.2.2.2.2.2.2.1
theorem dX12_asks_87 : decode cX12_asks 87 = .ok (.iconst 1, 1) := dX12_asks_74g.2.2.2.2.2.2.2.2.1
theorem dX12_asks_88 : decode cX12_asks 88 = .ok (.iadd, 1) := dX12_asks_74g.2.2.2.2.2.2.2.2.2
theorem dX12_asks_89g : (decode cX12_asks 89 = .ok (.iaload, 1)) ∧ (decode cX12_asks 90 = .ok (.goto 12, 3)) ∧ (decode cX12_asks 93 = .ok (.aload_n 0, 1)) ∧ (decode cX12_asks 94 = .ok (.getfield 61, 3)) ∧ (decode cX12_asks 97 = .ok (.iconst 2, 1)) ∧ (decode cX12_asks 98 = .ok (.iload 4, 2)) ∧ (decode cX12_asks 100 = .ok (.imul, 1)) ∧ (decode cX12_asks 101 = .ok (.iaload, 1)) ∧ (decode cX12_asks 102 = .ok (.ireturn, 1)) := by decide +kernel
theorem dX12_asks_89 : decode cX12_asks 89 = .ok (.iaload, 1) := dX12_asks_89g.1
theorem dX12_asks_90 : decode cX12_asks 90 = .ok (.goto 12, 3) := dX12_asks_89g.2.1
theorem dX12_asks_93 : decode cX12_asks 93 = .ok (.aload_n 0, 1) := dX12_asks_89g.2.2.1
theorem dX12_asks_94 : decode cX12_asks 94 = .ok (.getfield 61, 3) := dX12_asks_89g.2.2.2.1
theorem dX12_asks_97 : decode cX12_asks 97 = .ok (.iconst 2, 1) := dX12_asks_89g.2.2.2.2.1
theorem dX12_asks_98 : decode cX12_asks 98 = .ok (.iload 4, 2) := dX12_asks_89g.2.2.2.2.2.1
theorem dX12_asks_100 : decode cX12_asks 100 = .ok (.imul, 1) := dX12_asks_89g.2.2.2.2.2.2.1
theorem dX12_asks_101 : decode cX12_asks 101 = .ok (.iaload, 1) := dX12_asks_89g.2.2.2.2.2.2.2.1
theorem dX12_asks_102 : decode cX12_asks 102 = .ok (.ireturn, 1) := dX12_asks_89g.2.2.2.2.2.2.2.2
set_option maxHeartbeats 4000000 in
set_option maxRecDepth 100000 in
theorem c_X12_asks (l : Launch) (E : Nat → Nat) (D : va_G) (G : th_G) (h0 : Nat) (hG0 : G h0 = some (10, 0)) (x1 : Int32) (x2 : Int32) (x3 : Int32) : Met l yX12_asks (tb (.code yX12_asks cX12_asks 5 (some .int))) (rm 69) (va_Pc [.ref h0, .int x1, .int x2, .int x3] (PX E D G (fun H => True))) (QXi E D G (fun r H => True)) 0 0 (th_A G) := by
  refine Met.ofW (cc := cX12_asks) (maxL := 5) (ret := (some .int)) (by decide) rfl ?_
  intro p e s m args below meth c s₁ B hml hv
  obtain ⟨hav, ⟨hI, hN, hK⟩, hX⟩ := hv
  have hx := B.exec
  have hb := B.bytes
  have hr := B.returns
  have hts := atoms_spec (ws := tb (.code yX12_asks cX12_asks 5 (some .int))) B.pre
  have hown : s.vm.findClass RX12 = some m.cls := findClass_of_methodNamed B.named
  have hlocks := B.notSynchronized
  have hS : va_S (th_A G) s.heap s.heap [] := va_S.rf
  have hl := lv_entry ([.ref h0, .int x1, .int x2, .int x3]) (n := 5) (Nat.le_of_ble_eq_true rfl)
  rw [show entryFrame m args 5 = entryFrame m ([.ref h0, .int x1, .int x2, .int x3] : List Value).toArray 5 from by rw [hav], lg_entry_eq]
  generalize (lg_sl ([.ref h0, .int x1, .int x2, .int x3]) ++ List.replicate (5 - (lg_sl ([.ref h0, .int x1, .int x2, .int x3])).length) Slot.unset).toArray = ls at hl ⊢
  have hl : lv_has ls 5 [(0, .ref h0), (1, .int x1), (2, .int x2), (3, .int x3)] := hl
  generalize hR : (headSpec (tb (.code yX12_asks cX12_asks 5 (some .int))) (rm 69)).room = R
  have hR := hR.symm
  generalize hQ : MQ below (QXi E D G (fun r H => True)) args s 0 0 (th_A G) = QF
  have hQ := hQ.symm
  have J_23 : ∀ (H : Heap) (locs : List Loc) (ls : Array Slot)  , lv_has ls 5 [(0, .ref h0), (1, .int x1), (2, .int x2), (3, .int x3)] → th_I (okM E) D G [] H → va_S (th_A G) s.heap H locs → W p l e R s m args below meth c H locs 0 0 QF (F0 m 23 ls []) := by
    intro H locs ls   hl  hI hS
    refine lv_iconst (v := (-1)) hx hb dX12_asks_23 (by decide) ?_
    have hpost : True := trivial
    rw [hQ]
    exact W.iret (v := (-1)) hx hb hr (fun t ht hW => ⟨⟨(-1), (-1), rfl, rfl, ⟨by rw [ht]; exact hI, hN.warm hW, va_K.moved hW.alike hK⟩, by first | (rw [ht]; exact hpost) | exact hpost⟩, hS.F ht⟩) hS.2.2 dX12_asks_24
  refine lv_iload_n hx hb dX12_asks_0 rfl (lv_at hl 1 rfl) ?_
  refine th_cSs (As := [.int x1]) (rest := []) (n := 1) (d := 1) ⟨hx, hb, hml, hown, hts⟩ (c_X12_isCell l s.heap x1) wd_1414 wd_1415 wd_13 wd_1416 (by decide +kernel) ⟨by rw [hR]; exact Nat.le_of_ble_eq_true rfl, by rw [hR]; exact Nat.le_of_ble_eq_true rfl⟩ hN hS rfl hl.1 rfl (Nat.le_of_ble_eq_true rfl) dX12_asks_1 ⟨Nat.zero_le _, Nat.zero_le _⟩ (fun r497 locs hp hS => ?_)
  rcases hp with ⟨rfl, hp⟩ | ⟨rfl, hp⟩
  · skip
    try simp only [rg, not_and, Int.not_le] at hp
    have hp498 := hp
    refine lv_if_eq (tgt := 23) hx hb dX12_asks_4 (by decide) (fun c => absurd c (by decide)) (fun _ => ?_)
    refine lv_iload_n hx hb dX12_asks_7 rfl (lv_at hl 2 rfl) ?_
    refine th_cSs (As := [.int x2]) (rest := []) (n := 1) (d := 1) ⟨hx, hb, hml, hown, hts⟩ (c_X12_isHour l s.heap x2) wd_1428 wd_1429 wd_13 wd_1430 (by decide +kernel) ⟨by rw [hR]; exact Nat.le_of_ble_eq_true rfl, by rw [hR]; exact Nat.le_of_ble_eq_true rfl⟩ hN hS rfl hl.1 rfl (Nat.le_of_ble_eq_true rfl) dX12_asks_8 ⟨Nat.zero_le _, Nat.zero_le _⟩ (fun r499 locs hp hS => ?_)
    rcases hp with ⟨rfl, hp⟩ | ⟨rfl, hp⟩
    · skip
      try simp only [rg, not_and, Int.not_le] at hp
      have hp500 := hp
      refine lv_if_eq (tgt := 23) hx hb dX12_asks_11 (by decide) (fun c => absurd c (by decide)) (fun _ => ?_)
      refine lv_iload_n hx hb dX12_asks_14 rfl (lv_at hl 3 rfl) ?_
      refine lv_iconst (v := 0) hx hb dX12_asks_15 (by decide) ?_
      refine lv_iconst (v := 3) hx hb dX12_asks_16 (by decide) ?_
      refine th_cSs (As := [.int x3, .int 0, .int 3]) (rest := []) (n := 3) (d := 0) ⟨hx, hb, hml, hown, hts⟩ (c_X12_lies l s.heap x3 0 3) wd_1395 wd_1396 wd_13 wd_1397 (by decide +kernel) ⟨by rw [hR]; exact Nat.le_of_ble_eq_true rfl, by rw [hR]; exact Nat.le_of_ble_eq_true rfl⟩ hN hS rfl hl.1 rfl (Nat.le_of_ble_eq_true rfl) dX12_asks_17 ⟨Nat.zero_le _, Nat.zero_le _⟩ (fun r501 locs hp hS => ?_)
      rcases hp with ⟨rfl, hp⟩ | ⟨rfl, hp⟩
      · skip
        try simp only [rg, not_and, Int.not_le] at hp
        have hp502 := hp
        try rw [show (0 : Int32).toInt = 0 from by decide] at hp502
        try rw [show (3 : Int32).toInt = 3 from by decide] at hp502
        refine lv_if_ne (tgt := 25) hx hb dX12_asks_20 (by decide) (fun _ => ?_) (fun c => absurd c (by decide))
        refine lv_aload_n hx hb dX12_asks_25 rfl (lv_at hl 0 rfl) ?_
        refine mx_v (As := []) (rest := []) (n := 0) (d := 68) ⟨hx, hb, hml, hown, hts⟩ (c_X12_looks l E D G h0 hG0 ) wd_1455 wd_1457 wp_43 wd_13 wd_1458 (by decide +kernel) ⟨by rw [hR]; exact Nat.le_of_ble_eq_true rfl, by rw [hR]; exact Nat.le_of_ble_eq_true rfl⟩ hI hN hK hS hG0 (trivial) rfl hl.1 rfl (Nat.le_of_ble_eq_true rfl) dX12_asks_26 ⟨Nat.zero_le _, Nat.zero_le _⟩ (fun H locs hI hp hS => ?_)
        refine lv_bipush (v := 24) hx hb dX12_asks_29 (by decide) ?_
        refine lv_iload_n hx hb dX12_asks_31 rfl (lv_at hl 2 rfl) ?_
        refine lv_imul hx hb dX12_asks_32 ?_
        refine lv_topi (fun v504 e505 => ?_)
        have tv504 : v504.toInt = (24) * x2.toInt := iv_mul (by decide) rfl e505 (by omega) (by omega)
        refine lv_iload_n hx hb dX12_asks_33 rfl (lv_at hl 1 rfl) ?_
        refine lv_iadd hx hb dX12_asks_34 ?_
        refine lv_topi (fun v506 e507 => ?_)
        have tv506 : v506.toInt = v504.toInt + x1.toInt := iv_add rfl rfl e507 (by omega) (by omega)
        refine lv_istore (lv' := [(4, .int v506), (0, .ref h0), (1, .int x1), (2, .int x2), (3, .int x3)]) hx hb dX12_asks_35 hl (by decide) rfl (fun ls hl => ?_)
        refine lv_iload_n hx hb dX12_asks_37 rfl (lv_at hl 4 rfl) ?_
        refine lv_if_ne (tgt := 51) hx hb dX12_asks_38 (by decide) (fun c508 => ?_) (fun c508 => ?_)
        · skip
          have k509 := iv_ne (X := x3.toInt) (Y := (0)) rfl (by decide) c508
          refine lv_iload_n hx hb dX12_asks_51 rfl (lv_at hl 4 rfl) ?_
          refine lv_iconst (v := 1) hx hb dX12_asks_52 (by decide) ?_
          refine lv_icmp_ne (tgt := 74) hx hb dX12_asks_53 (by decide) (fun c510 => ?_) (fun c510 => ?_)
          · skip
            have k511 := iv_ne (X := x3.toInt) (Y := (1)) rfl (by decide) c510
            refine lv_iload_n hx hb dX12_asks_74 rfl (lv_at hl 4 rfl) ?_
            refine lv_iconst (v := 2) hx hb dX12_asks_75 (by decide) ?_
            refine lv_icmp_ne (tgt := 93) hx hb dX12_asks_76 (by decide) (fun c512 => ?_) (fun c512 => ?_)
            · skip
              have k513 := iv_ne (X := x3.toInt) (Y := (2)) rfl (by decide) c512
              refine lv_aload_n hx hb dX12_asks_93 rfl (lv_at hl 1 rfl) ?_
              refine gmA hx hb hts inT12 hown hK hI List.not_mem_nil hG0 25 (by decide) (hts _ (tb_c wd_1258)) rfl rfl dX12_asks_94 (fun a514 hq515 hf516 => ?_)
              refine lv_iconst (v := 2) hx hb dX12_asks_97 (by decide) ?_
              refine lv_iload hx hb dX12_asks_98 (lv_at hl 0 rfl) ?_
              refine lv_imul hx hb dX12_asks_100 ?_
              refine lv_topi (fun v517 e518 => ?_)
              have tv517 : v517.toInt = (2) * v506.toInt := iv_mul (by decide) rfl e518 (by omega) (by omega)
              obtain ⟨F519, hA520⟩ := om_0 hI hq515 List.not_mem_nil
              refine th_iald hx hb hK hA520 0 rfl (iv_in (X := v517.toInt) rfl (by omega) (by omega)) dX12_asks_101 (fun v521 e522 => ?_)
              have hpost : True := trivial
              rw [hQ]
              exact W.iret (v := v521) hx hb hr (fun t ht hW => ⟨⟨v521, v521, rfl, rfl, ⟨by rw [ht]; exact hI, hN.warm hW, va_K.moved hW.alike hK⟩, by first | (rw [ht]; exact hpost) | exact hpost⟩, hS.F ht⟩) hS.2.2 dX12_asks_102
            · skip
              have k523 := iv_eq (X := x3.toInt) (Y := (2)) rfl (by decide) c512
              refine lv_aload_n hx hb dX12_asks_79 rfl (lv_at hl 1 rfl) ?_
              refine gmA hx hb hts inT12 hown hK hI List.not_mem_nil hG0 25 (by decide) (hts _ (tb_c wd_1258)) rfl rfl dX12_asks_80 (fun a524 hq525 hf526 => ?_)
              refine lv_iconst (v := 2) hx hb dX12_asks_83 (by decide) ?_
              refine lv_iload hx hb dX12_asks_84 (lv_at hl 0 rfl) ?_
              refine lv_imul hx hb dX12_asks_86 ?_
              refine lv_topi (fun v527 e528 => ?_)
              have tv527 : v527.toInt = (2) * v506.toInt := iv_mul (by decide) rfl e528 (by omega) (by omega)
              refine lv_iconst (v := 1) hx hb dX12_asks_87 (by decide) ?_
              refine lv_iadd hx hb dX12_asks_88 ?_
              refine lv_topi (fun v529 e530 => ?_)
              have tv529 : v529.toInt = v527.toInt + (1) := iv_add rfl (by decide) e530 (by omega) (by omega)
              obtain ⟨F531, hA532⟩ := om_0 hI hq525 List.not_mem_nil
              refine th_iald hx hb hK hA532 0 rfl (iv_in (X := v529.toInt) rfl (by omega) (by omega)) dX12_asks_89 (fun v533 e534 => ?_)
              refine lv_goto (tgt := 102) hx hb dX12_asks_90 (by decide) ?_
              have hpost : True := trivial
              rw [hQ]
              exact W.iret (v := v533) hx hb hr (fun t ht hW => ⟨⟨v533, v533, rfl, rfl, ⟨by rw [ht]; exact hI, hN.warm hW, va_K.moved hW.alike hK⟩, by first | (rw [ht]; exact hpost) | exact hpost⟩, hS.F ht⟩) hS.2.2 dX12_asks_102
          · skip
            have k535 := iv_eq (X := x3.toInt) (Y := (1)) rfl (by decide) c510
            refine lv_aload_n hx hb dX12_asks_56 rfl (lv_at hl 1 rfl) ?_
            refine gmA hx hb hts inT12 hown hK hI List.not_mem_nil hG0 26 (by decide) (hts _ (tb_c wd_1259)) rfl rfl dX12_asks_57 (fun a536 hq537 hf538 => ?_)
            refine lv_iload hx hb dX12_asks_60 (lv_at hl 0 rfl) ?_
            obtain ⟨F539, hA540⟩ := om_5 hI hq537 List.not_mem_nil
            refine va_zald hx hb hK (th_one hA540) 0 2 rfl rfl (iv_in (X := v506.toInt) rfl (by omega) (by omega)) dX12_asks_62 ?_
            refine lv_topi (fun v541 e542 => ?_)
            have k543 := iv_lo v541
            have k544 := iv_hi v541
            refine lv_if_eq (tgt := 70) hx hb dX12_asks_63 (by decide) (fun c545 => ?_) (fun c545 => ?_)
            · skip
              have k546 := iv_eq (X := v541.toInt) (Y := (0)) rfl (by decide) c545
              refine lv_iconst (v := 0) hx hb dX12_asks_70 (by decide) ?_
              refine lv_goto (tgt := 102) hx hb dX12_asks_71 (by decide) ?_
              have hpost : True := trivial
              rw [hQ]
              exact W.iret (v := 0) hx hb hr (fun t ht hW => ⟨⟨0, 0, rfl, rfl, ⟨by rw [ht]; exact hI, hN.warm hW, va_K.moved hW.alike hK⟩, by first | (rw [ht]; exact hpost) | exact hpost⟩, hS.F ht⟩) hS.2.2 dX12_asks_102
            · skip
              have k547 := iv_ne (X := v541.toInt) (Y := (0)) rfl (by decide) c545
              refine lv_iconst (v := 1) hx hb dX12_asks_66 (by decide) ?_
              refine lv_goto (tgt := 102) hx hb dX12_asks_67 (by decide) ?_
              have hpost : True := trivial
              rw [hQ]
              exact W.iret (v := 1) hx hb hr (fun t ht hW => ⟨⟨1, 1, rfl, rfl, ⟨by rw [ht]; exact hI, hN.warm hW, va_K.moved hW.alike hK⟩, by first | (rw [ht]; exact hpost) | exact hpost⟩, hS.F ht⟩) hS.2.2 dX12_asks_102
        · skip
          have k548 := iv_eq (X := x3.toInt) (Y := (0)) rfl (by decide) c508
          refine lv_aload_n hx hb dX12_asks_41 rfl (lv_at hl 1 rfl) ?_
          refine gmA hx hb hts inT12 hown hK hI List.not_mem_nil hG0 24 (by decide) (hts _ (tb_c wd_1257)) rfl rfl dX12_asks_42 (fun a549 hq550 hf551 => ?_)
          refine lv_iload hx hb dX12_asks_45 (lv_at hl 0 rfl) ?_
          obtain ⟨F552, hA553⟩ := om_0 hI hq550 List.not_mem_nil
          refine th_iald hx hb hK hA553 0 rfl (iv_in (X := v506.toInt) rfl (by omega) (by omega)) dX12_asks_47 (fun v554 e555 => ?_)
          refine lv_goto (tgt := 102) hx hb dX12_asks_48 (by decide) ?_
          have hpost : True := trivial
          rw [hQ]
          exact W.iret (v := v554) hx hb hr (fun t ht hW => ⟨⟨v554, v554, rfl, rfl, ⟨by rw [ht]; exact hI, hN.warm hW, va_K.moved hW.alike hK⟩, by first | (rw [ht]; exact hpost) | exact hpost⟩, hS.F ht⟩) hS.2.2 dX12_asks_102
      · skip
        try simp only [rg, not_and, Int.not_le] at hp
        have hp556 := hp
        try rw [show (0 : Int32).toInt = 0 from by decide] at hp556
        try rw [show (3 : Int32).toInt = 3 from by decide] at hp556
        refine lv_if_ne (tgt := 25) hx hb dX12_asks_20 (by decide) (fun c => absurd c (by decide)) (fun _ => ?_)
        exact J_23 s.heap locs ls   (lv_sub hl [0, 1, 2, 3] rfl)  hI hS
    · skip
      try simp only [rg, not_and, Int.not_le] at hp
      have hp557 := hp
      refine lv_if_eq (tgt := 23) hx hb dX12_asks_11 (by decide) (fun _ => ?_) (fun c => absurd c (by decide))
      exact J_23 s.heap locs ls   (lv_sub hl [0, 1, 2, 3] rfl)  hI hS
  · skip
    try simp only [rg, not_and, Int.not_le] at hp
    have hp558 := hp
    refine lv_if_eq (tgt := 23) hx hb dX12_asks_4 (by decide) (fun _ => ?_) (fun c => absurd c (by decide))
    exact J_23 s.heap locs ls   (lv_sub hl [0, 1, 2, 3] rfl)  hI hS
theorem dX12_grinds_0g : (decode cX12_grinds 0 = .ok (.iload_n 1, 1)) ∧ (decode cX12_grinds 1 = .ok (.iconst 0, 1)) ∧ (decode cX12_grinds 2 = .ok (.aload_n 0, 1)) ∧ (decode cX12_grinds 3 = .ok (.getfield 20, 3)) ∧ (decode cX12_grinds 6 = .ok (.sipush 309, 3)) ∧ (decode cX12_grinds 9 = .ok (.iaload, 1)) ∧ (decode cX12_grinds 10 = .ok (.iconst 1, 1)) ∧ (decode cX12_grinds 11 = .ok (.isub, 1)) ∧ (decode cX12_grinds 12 = .ok (.invokestatic 103, 3)) ∧ (decode cX12_grinds 15 = .ok (.ifCond .eq 11, 3)) := by decide +kernel
theorem dX12_grinds_0 : decode cX12_grinds 0 = .ok (.iload_n 1, 1) := dX12_grinds_0g.1
theorem dX12_grinds_1 : decode cX12_grinds 1 = .ok (.iconst 0, 1) := dX12_grinds_0g.2.1
theorem dX12_grinds_2 : decode cX12_grinds 2 = .ok (.aload_n 0, 1) := dX12_grinds_0g.2.2.1
theorem dX12_grinds_3 : decode cX12_grinds 3 = .ok (.getfield 20, 3) := dX12_grinds_0g.2.2.2.1
theorem dX12_grinds_6 : decode cX12_grinds 6 = .ok (.sipush 309, 3) := dX12_grinds_0g.2.2.2.2.1
theorem dX12_grinds_9 : decode cX12_grinds 9 = .ok (.iaload, 1) := dX12_grinds_0g.2.2.2.2.2.1
theorem dX12_grinds_10 : decode cX12_grinds 10 = .ok (.iconst 1, 1) := dX12_grinds_0g.2.2.2.2.2.2.1
theorem dX12_grinds_11 : decode cX12_grinds 11 = .ok (.isub, 1) := dX12_grinds_0g.2.2.2.2.2.2.2.1
theorem dX12_grinds_12 : decode cX12_grinds 12 = .ok (.invokestatic 103, 3) := dX12_grinds_0g.2.2.2.2.2.2.2.2.1
theorem dX12_grinds_15 : decode cX12_grinds 15 = .ok (.ifCond .eq 11, 3) := dX12_grinds_0g.2.2.2.2.2.2.2.2.2
theorem dX12_grinds_18g : (decode cX12_grinds 18 = .ok (.iload_n 2, 1)) ∧ (decode cX12_grinds 19 = .ok (.iload_n 3, 1)) ∧ (decode cX12_grinds 20 = .ok (.invokestatic 121, 3)) ∧ (decode cX12_grinds 23 = .ok (.ifCond .ne 5, 3)) ∧ (decode cX12_grinds 26 = .ok (.iconst (-1), 1)) ∧ (decode cX12_grinds 27 = .ok (.ireturn, 1)) ∧ (decode cX12_grinds 28 = .ok (.aload_n 0, 1)) ∧ (decode cX12_grinds 29 = .ok (.invokevirtual 138, 3)) ∧ (decode cX12_grinds 32 = .ok (.iconst 0, 1)) ∧ (decode cX12_grinds 33 = .ok (.istore 4, 2)) := by decide +kernel
theorem dX12_grinds_18 : decode cX12_grinds 18 = .ok (.iload_n 2, 1) := dX12_grinds_18g.1
theorem dX12_grinds_19 : decode cX12_grinds 19 = .ok (.iload_n 3, 1) := dX12_grinds_18g.2.1
theorem dX12_grinds_20 : decode cX12_grinds 20 = .ok (.invokestatic 121, 3) := dX12_grinds_18g.2.2.1
theorem dX12_grinds_23 : decode cX12_grinds 23 = .ok (.ifCond .ne 5, 3) := dX12_grinds_18g.2.2.2.1
theorem dX12_grinds_26 : decode cX12_grinds 26 = .ok (.iconst (-1), 1) := dX12_grinds_18g.2.2.2.2.1
theorem dX12_grinds_27 : decode cX12_grinds 27 = .ok (.ireturn, 1) := dX12_grinds_18g.2.2.2.2.2.1
theorem dX12_grinds_28 : decode cX12_grinds 28 = .ok (.aload_n 0, 1) := dX12_grinds_18g.2.2.2.2.2.2.1
theorem dX12_grinds_29 : decode cX12_grinds 29 = .ok (.invokevirtual 138, 3) := dX12_grinds_18g.2.2.2.2.2.2.2.1
theorem dX12_grinds_32 : decode cX12_grinds 32 = .ok (.iconst 0, 1) := dX12_grinds_18g.2.2.2.2.2.2.2.2.1
theorem dX12_grinds_33 : decode cX12_grinds 33 = .ok (.istore 4, 2) := dX12_grinds_18g.2.2.2.2.2.2.2.2.2
theorem dX12_grinds_35g : (decode cX12_grinds 35 = .ok (.iload_n 2, 1)) ∧ (decode cX12_grinds 36 = .ok (.istore 5, 2)) ∧ (decode cX12_grinds 38 = .ok (.iload 5, 2)) ∧ (decode cX12_grinds 40 = .ok (.iload_n 3, 1)) ∧ (decode cX12_grinds 41 = .ok (.if_icmp .gt 38, 3)) ∧ (decode cX12_grinds 44 = .ok (.iload 4, 2)) ∧ (decode cX12_grinds 46 = .ok (.aload_n 0, 1)) ∧ (decode cX12_grinds 47 = .ok (.getfield 55, 3)) ∧ (decode cX12_grinds 50 = .ok (.bipush 24, 2)) ∧ (decode cX12_grinds 52 = .ok (.iload 5, 2)) := by decide +kernel
theorem dX12_grinds_35 : decode cX12_grinds 35 = .ok (.iload_n 2, 1) := dX12_grinds_35g.1
theorem dX12_grinds_36 : decode cX12_grinds 36 = .ok (.istore 5, 2) := dX12_grinds_35g.2.1
theorem dX12_grinds_38 : decode cX12_grinds 38 = .ok (.iload 5, 2) := dX12_grinds_35g.2.2.1
theorem dX12_grinds_40 : decode cX12_grinds 40 = .ok (.iload_n 3, 1) := dX12_grinds_35g.2.2.2.1
theorem dX12_grinds_41 : decode cX12_grinds 41 = .ok (.if_icmp .gt 38, 3) := dX12_grinds_35g.2.2.2.2.1
theorem dX12_grinds_44 : decode cX12_grinds 44 = .ok (.iload 4, 2) := dX12_grinds_35g.2.2.2.2.2.1
theorem dX12_grinds_46 : decode cX12_grinds 46 = .ok (.aload_n 0, 1) := dX12_grinds_35g.2.2.2.2.2.2.1
theorem dX12_grinds_47 : decode cX12_grinds 47 = .ok (.getfield 55, 3) := dX12_grinds_35g.2.2.2.2.2.2.2.1
theorem dX12_grinds_50 : decode cX12_grinds 50 = .ok (.bipush 24, 2) := dX12_grinds_35g.2.2.2.2.2.2.2.2.1
theorem dX12_grinds_52 : decode cX12_grinds 52 = .ok (.iload 5, 2) := dX12_grinds_35g.2.2.2.2.2.2.2.2.2
theorem dX12_grinds_54g : (decode cX12_grinds 54 = .ok (.imul, 1)) ∧ (decode cX12_grinds 55 = .ok (.aload_n 0, 1)) ∧ (decode cX12_grinds 56 = .ok (.getfield 20, 3)) ∧ (decode cX12_grinds 59 = .ok (.sipush 130, 3)) ∧ (decode cX12_grinds 62 = .ok (.iload_n 1, 1)) ∧ (decode cX12_grinds 63 = .ok (.iadd, 1)) ∧ (decode cX12_grinds 64 = .ok (.iaload, 1)) ∧ (decode cX12_grinds 65 = .ok (.iadd, 1)) ∧ (decode cX12_grinds 66 = .ok (.iaload, 1)) ∧ (decode cX12_grinds 67 = .ok (.invokestatic 292, 3)) := by decide +kernel
theorem dX12_grinds_54 : decode cX12_grinds 54 = .ok (.imul, 1) := dX12_grinds_54g.1
theorem dX12_grinds_55 : decode cX12_grinds 55 = .ok (.aload_n 0, 1) := dX12_grinds_54g.2.1
theorem dX12_grinds_56 : decode cX12_grinds 56 = .ok (.getfield 20, 3) := dX12_grinds_54g.2.2.1
theorem dX12_grinds_59 : decode cX12_grinds 59 = .ok (.sipush 130, 3) := dX12_grinds_54g.2.2.2.1
theorem dX12_grinds_62 : decode cX12_grinds 62 = .ok (.iload_n 1, 1) := dX12_grinds_54g.2.2.2.2.1
theorem dX12_grinds_63 : decode cX12_grinds 63 = .ok (.iadd, 1) := dX12_grinds_54g.2.2.2.2.2.1
theorem dX12_grinds_64 : decode cX12_grinds 64 = .ok (.iaload, 1) := dX12_grinds_54g.2.2.2.2.2.2.1
theorem dX12_grinds_65 : decode cX12_grinds 65 = .ok (.iadd, 1) := dX12_grinds_54g.2.2.2.2.2.2.2.1
theorem dX12_grinds_66 : decode cX12_grinds 66 = .ok (.iaload, 1) := dX12_grinds_54g.2.2.2.2.2.2.2.2.1
theorem dX12_grinds_67 : decode cX12_grinds 67 = .ok (.invokestatic 292, 3) := dX12_grinds_54g.2.2.2.2.2.2.2.2.2
theorem dX12_grinds_70g : (decode cX12_grinds 70 = .ok (.iadd, 1)) ∧ (decode cX12_grinds 71 = .ok (.istore 4, 2)) ∧ (decode cX12_grinds 73 = .ok (.iinc 5 1, 3)) ∧ (decode cX12_grinds 76 = .ok (.goto (-38), 3)) ∧ (decode cX12_grinds 79 = .ok (.iload 4, 2)) ∧ (decode cX12_grinds 81 = .ok (.ireturn, 1)) := by decide +kernel
theorem dX12_grinds_70 : decode cX12_grinds 70 = .ok (.iadd, 1) := dX12_grinds_70g.1
theorem dX12_grinds_71 : decode cX12_grinds 71 = .ok (.istore 4, 2) := dX12_grinds_70g.2.1
theorem dX12_grinds_73 : decode cX12_grinds 73 = .ok (.iinc 5 1, 3) := dX12_grinds_70g.2.2.1
theorem dX12_grinds_76 : decode cX12_grinds 76 = .ok (.goto (-38), 3) := dX12_grinds_70g.2.2.2.1
theorem dX12_grinds_79 : decode cX12_grinds 79 = .ok (.iload 4, 2) := dX12_grinds_70g.2.2.2.2.1
theorem dX12_grinds_81 : decode cX12_grinds 81 = .ok (.ireturn, 1) := dX12_grinds_70g.2.2.2.2.2
set_option maxHeartbeats 4000000 in
set_option maxRecDepth 100000 in
theorem c_X12_grinds (l : Launch) (E : Nat → Nat) (D : va_G) (G : th_G) (h0 : Nat) (hG0 : G h0 = some (10, 0)) (x1 : Int32) (x2 : Int32) (x3 : Int32) : Met l yX12_grinds (tb (.code yX12_grinds cX12_grinds 6 (some .int))) (rm 69) (va_Pc [.ref h0, .int x1, .int x2, .int x3] (PX E D G (fun H => True))) (QXi E D G (fun r H => True)) 0 0 (th_A G) := by
  refine Met.ofW (cc := cX12_grinds) (maxL := 6) (ret := (some .int)) (by decide) rfl ?_
  intro p e s m args below meth c s₁ B hml hv
  obtain ⟨hav, ⟨hI, hN, hK⟩, hX⟩ := hv
  have hx := B.exec
  have hb := B.bytes
  have hr := B.returns
  have hts := atoms_spec (ws := tb (.code yX12_grinds cX12_grinds 6 (some .int))) B.pre
  have hown : s.vm.findClass RX12 = some m.cls := findClass_of_methodNamed B.named
  have hlocks := B.notSynchronized
  have hS : va_S (th_A G) s.heap s.heap [] := va_S.rf
  have hl := lv_entry ([.ref h0, .int x1, .int x2, .int x3]) (n := 6) (Nat.le_of_ble_eq_true rfl)
  rw [show entryFrame m args 6 = entryFrame m ([.ref h0, .int x1, .int x2, .int x3] : List Value).toArray 6 from by rw [hav], lg_entry_eq]
  generalize (lg_sl ([.ref h0, .int x1, .int x2, .int x3]) ++ List.replicate (6 - (lg_sl ([.ref h0, .int x1, .int x2, .int x3])).length) Slot.unset).toArray = ls at hl ⊢
  have hl : lv_has ls 6 [(0, .ref h0), (1, .int x1), (2, .int x2), (3, .int x3)] := hl
  generalize hR : (headSpec (tb (.code yX12_grinds cX12_grinds 6 (some .int))) (rm 69)).room = R
  have hR := hR.symm
  generalize hQ : MQ below (QXi E D G (fun r H => True)) args s 0 0 (th_A G) = QF
  have hQ := hQ.symm
  have J_38 : ∀ (nn : Nat) (H : Heap) (locs : List Loc) (ls : Array Slot) (v419 : Int32) (v420 : Int32) , (Int.toNat (96 - v419.toInt) = nn) → lv_has ls 6 [(5, .int v419), (4, .int v420), (0, .ref h0), (1, .int x1), (2, .int x2), (3, .int x3)] → ((0 : Int) ≤ v419.toInt ∧ v419.toInt ≤ 96) → ((0 : Int) ≤ x1.toInt ∧ x1.toInt ≤ 5) → ((0 : Int) ≤ x2.toInt ∧ x2.toInt ≤ 95) → ((0 : Int) ≤ x3.toInt ∧ x3.toInt ≤ 95) → th_I (okM E) D G [] H → va_S (th_A G) s.heap H locs → W p l e R s m args below meth c H locs 0 0 QF (F0 m 38 ls []) := by
    intro nn
    induction nn using Nat.strongRecOn with
    | ind nn ih_38 =>
      intro H locs ls v419 v420  hm hl k421 k422 k423 k424 hI hS
      refine lv_iload hx hb dX12_grinds_38 (lv_at hl 0 rfl) ?_
      refine lv_iload_n hx hb dX12_grinds_40 rfl (lv_at hl 5 rfl) ?_
      refine lv_icmp_gt (tgt := 79) hx hb dX12_grinds_41 (by decide) (fun c425 => ?_) (fun c425 => ?_)
      · skip
        have k426 := iv_lt (X := x3.toInt) (Y := v419.toInt) rfl rfl c425
        refine lv_iload hx hb dX12_grinds_79 (lv_at hl 1 rfl) ?_
        have hpost : True := trivial
        rw [hQ]
        exact W.iret (v := v420) hx hb hr (fun t ht hW => ⟨⟨v420, v420, rfl, rfl, ⟨by rw [ht]; exact hI, hN.warm hW, va_K.moved hW.alike hK⟩, by first | (rw [ht]; exact hpost) | exact hpost⟩, hS.F ht⟩) hS.2.2 dX12_grinds_81
      · skip
        have k427 := iv_nlt (X := x3.toInt) (Y := v419.toInt) rfl rfl c425
        refine lv_iload hx hb dX12_grinds_44 (lv_at hl 1 rfl) ?_
        refine lv_aload_n hx hb dX12_grinds_46 rfl (lv_at hl 2 rfl) ?_
        refine gmA hx hb hts inT12 hown hK hI List.not_mem_nil hG0 23 (by decide) (hts _ (tb_c wd_1256)) rfl rfl dX12_grinds_47 (fun a428 hq429 hf430 => ?_)
        refine lv_bipush (v := 24) hx hb dX12_grinds_50 (by decide) ?_
        refine lv_iload hx hb dX12_grinds_52 (lv_at hl 0 rfl) ?_
        refine lv_imul hx hb dX12_grinds_54 ?_
        refine lv_topi (fun v431 e432 => ?_)
        have tv431 : v431.toInt = (24) * v419.toInt := iv_mul (by decide) rfl e432 (by omega) (by omega)
        refine lv_aload_n hx hb dX12_grinds_55 rfl (lv_at hl 2 rfl) ?_
        refine gmA hx hb hts inT12 hown hK hI List.not_mem_nil hG0 3 (by decide) (hts _ (tb_c wd_1236)) rfl rfl dX12_grinds_56 (fun a433 hq434 hf435 => ?_)
        refine lv_sipush (v := 130) hx hb dX12_grinds_59 (by decide) ?_
        refine lv_iload_n hx hb dX12_grinds_62 rfl (lv_at hl 3 rfl) ?_
        refine lv_iadd hx hb dX12_grinds_63 ?_
        refine lv_topi (fun v436 e437 => ?_)
        have tv436 : v436.toInt = (130) + x1.toInt := iv_add (by decide) rfl e437 (by omega) (by omega)
        obtain ⟨F438, hA439, hP440⟩ := om_1 hI hq434 List.not_mem_nil
        refine th_iald hx hb hK hA439 0 rfl (iv_in (X := v436.toInt) rfl (by omega) (by omega)) dX12_grinds_64 (fun v441 e442 => ?_)
        have k443 := kg_mill (kOk.get (i := v436) hP440 e442 (X := v436.toInt) rfl (by omega) (by omega)) (by omega) (by omega) (by omega)
        refine lv_iadd hx hb dX12_grinds_65 ?_
        refine lv_topi (fun v444 e445 => ?_)
        have tv444 : v444.toInt = v431.toInt + v441.toInt := iv_add rfl rfl e445 (by omega) (by omega)
        obtain ⟨F446, hA447⟩ := om_0 hI hq429 List.not_mem_nil
        refine th_iald hx hb hK hA447 0 rfl (iv_in (X := v444.toInt) rfl (by omega) (by omega)) dX12_grinds_66 (fun v448 e449 => ?_)
        refine th_cSs (As := [.int v448]) (rest := [.int v420]) (n := 1) (d := 0) ⟨hx, hb, hml, hown, hts⟩ (c_X12_either l H v448) wd_1535 wd_1536 wd_13 wd_1537 (by decide +kernel) ⟨by rw [hR]; exact Nat.le_of_ble_eq_true rfl, by rw [hR]; exact Nat.le_of_ble_eq_true rfl⟩ hN hS rfl hl.1 rfl (Nat.le_of_ble_eq_true rfl) dX12_grinds_67 ⟨Nat.zero_le _, Nat.zero_le _⟩ (fun r450 locs hp hS => ?_)
        refine lv_iadd hx hb dX12_grinds_70 ?_
        refine lv_topi (fun v451 e452 => ?_)
        try have tv451 : v451.toInt = v420.toInt + r450.toInt := iv_add rfl rfl e452 (by omega) (by omega)
        refine lv_istore (lv' := [(4, .int v451), (5, .int v419), (0, .ref h0), (1, .int x1), (2, .int x2), (3, .int x3)]) hx hb dX12_grinds_71 hl (by decide) rfl (fun ls hl => ?_)
        obtain ⟨v453, e454⟩ : ∃ y : Int32, y = v419 + (1) := ⟨_, rfl⟩
        have tv453 : v453.toInt = v419.toInt + (1) := iv_add rfl (by decide) e454 (by omega) (by omega)
        refine lv_iinc (v := v453) (lv' := [(5, .int v453), (4, .int v451), (0, .ref h0), (1, .int x1), (2, .int x2), (3, .int x3)]) hx hb dX12_grinds_73 hl (k := 1) rfl (by rw [e454]; rfl) (by decide) rfl (fun ls hl => ?_)
        refine lv_goto (tgt := 38) hx hb dX12_grinds_76 (by decide) ?_
        exact ih_38 _ (by omega) H locs ls v453 v451  rfl (lv_sub hl [0, 1, 2, 3, 4, 5] rfl) ⟨by omega, by omega⟩ ⟨by omega, by omega⟩ ⟨by omega, by omega⟩ ⟨by omega, by omega⟩ hI hS
  have J_26 : ∀ (H : Heap) (locs : List Loc) (ls : Array Slot)  , lv_has ls 6 [(0, .ref h0), (1, .int x1), (2, .int x2), (3, .int x3)] → th_I (okM E) D G [] H → va_S (th_A G) s.heap H locs → W p l e R s m args below meth c H locs 0 0 QF (F0 m 26 ls []) := by
    intro H locs ls   hl  hI hS
    refine lv_iconst (v := (-1)) hx hb dX12_grinds_26 (by decide) ?_
    have hpost : True := trivial
    rw [hQ]
    exact W.iret (v := (-1)) hx hb hr (fun t ht hW => ⟨⟨(-1), (-1), rfl, rfl, ⟨by rw [ht]; exact hI, hN.warm hW, va_K.moved hW.alike hK⟩, by first | (rw [ht]; exact hpost) | exact hpost⟩, hS.F ht⟩) hS.2.2 dX12_grinds_27
  refine lv_iload_n hx hb dX12_grinds_0 rfl (lv_at hl 1 rfl) ?_
  refine lv_iconst (v := 0) hx hb dX12_grinds_1 (by decide) ?_
  refine lv_aload_n hx hb dX12_grinds_2 rfl (lv_at hl 0 rfl) ?_
  refine gmA hx hb hts inT12 hown hK hI List.not_mem_nil hG0 3 (by decide) (hts _ (tb_c wd_1236)) rfl rfl dX12_grinds_3 (fun a455 hq456 hf457 => ?_)
  refine lv_sipush (v := 309) hx hb dX12_grinds_6 (by decide) ?_
  obtain ⟨F458, hA459, hP460⟩ := om_1 hI hq456 List.not_mem_nil
  refine th_iald hx hb hK hA459 0 rfl (iv_in (X := (309)) (by decide) (by omega) (by omega)) dX12_grinds_9 (fun v461 e462 => ?_)
  have k463 := kg_m309 (kOk.get (i := 309) hP460 e462 (X := (309)) (by decide) (by omega) (by omega)) (by omega) (by omega) (by omega)
  refine lv_iconst (v := 1) hx hb dX12_grinds_10 (by decide) ?_
  refine lv_isub hx hb dX12_grinds_11 ?_
  refine lv_topi (fun v464 e465 => ?_)
  have tv464 : v464.toInt = v461.toInt - (1) := iv_sub rfl (by decide) e465 (by omega) (by omega)
  refine th_cSs (As := [.int x1, .int 0, .int v464]) (rest := []) (n := 3) (d := 0) ⟨hx, hb, hml, hown, hts⟩ (c_X12_lies l s.heap x1 0 v464) wd_1395 wd_1396 wd_13 wd_1397 (by decide +kernel) ⟨by rw [hR]; exact Nat.le_of_ble_eq_true rfl, by rw [hR]; exact Nat.le_of_ble_eq_true rfl⟩ hN hS rfl hl.1 rfl (Nat.le_of_ble_eq_true rfl) dX12_grinds_12 ⟨Nat.zero_le _, Nat.zero_le _⟩ (fun r466 locs hp hS => ?_)
  rcases hp with ⟨rfl, hp⟩ | ⟨rfl, hp⟩
  · skip
    try simp only [rg, not_and, Int.not_le] at hp
    have hp467 := hp
    try rw [show (0 : Int32).toInt = 0 from by decide] at hp467
    refine lv_if_eq (tgt := 26) hx hb dX12_grinds_15 (by decide) (fun c => absurd c (by decide)) (fun _ => ?_)
    refine lv_iload_n hx hb dX12_grinds_18 rfl (lv_at hl 2 rfl) ?_
    refine lv_iload_n hx hb dX12_grinds_19 rfl (lv_at hl 3 rfl) ?_
    refine th_cSs (As := [.int x2, .int x3]) (rest := []) (n := 2) (d := 2) ⟨hx, hb, hml, hown, hts⟩ (c_X12_areHours l s.heap x2 x3) wd_1425 wd_1426 wd_13 wd_1427 (by decide +kernel) ⟨by rw [hR]; exact Nat.le_of_ble_eq_true rfl, by rw [hR]; exact Nat.le_of_ble_eq_true rfl⟩ hN hS rfl hl.1 rfl (Nat.le_of_ble_eq_true rfl) dX12_grinds_20 ⟨Nat.zero_le _, Nat.zero_le _⟩ (fun r468 locs hp hS => ?_)
    rcases hp with ⟨rfl, hp⟩ | ⟨rfl, hp⟩
    · skip
      try simp only [rg, not_and, Int.not_le] at hp
      have hp469 := hp
      refine lv_if_ne (tgt := 28) hx hb dX12_grinds_23 (by decide) (fun _ => ?_) (fun c => absurd c (by decide))
      refine lv_aload_n hx hb dX12_grinds_28 rfl (lv_at hl 0 rfl) ?_
      refine mx_v (As := []) (rest := []) (n := 0) (d := 68) ⟨hx, hb, hml, hown, hts⟩ (c_X12_looks l E D G h0 hG0 ) wd_1455 wd_1457 wp_43 wd_13 wd_1458 (by decide +kernel) ⟨by rw [hR]; exact Nat.le_of_ble_eq_true rfl, by rw [hR]; exact Nat.le_of_ble_eq_true rfl⟩ hI hN hK hS hG0 (trivial) rfl hl.1 rfl (Nat.le_of_ble_eq_true rfl) dX12_grinds_29 ⟨Nat.zero_le _, Nat.zero_le _⟩ (fun H locs hI hp hS => ?_)
      refine lv_iconst (v := 0) hx hb dX12_grinds_32 (by decide) ?_
      refine lv_istore (lv' := [(4, .int 0), (0, .ref h0), (1, .int x1), (2, .int x2), (3, .int x3)]) hx hb dX12_grinds_33 hl (by decide) rfl (fun ls hl => ?_)
      refine lv_iload_n hx hb dX12_grinds_35 rfl (lv_at hl 3 rfl) ?_
      refine lv_istore (lv' := [(5, .int x2), (4, .int 0), (0, .ref h0), (1, .int x1), (2, .int x2), (3, .int x3)]) hx hb dX12_grinds_36 hl (by decide) rfl (fun ls hl => ?_)
      exact J_38 _ H locs ls x2 0  rfl (lv_sub hl [0, 1, 2, 3, 4, 5] rfl) ⟨by omega, by omega⟩ ⟨by omega, by omega⟩ ⟨by omega, by omega⟩ ⟨by omega, by omega⟩ hI hS
    · skip
      try simp only [rg, not_and, Int.not_le] at hp
      have hp471 := hp
      refine lv_if_ne (tgt := 28) hx hb dX12_grinds_23 (by decide) (fun c => absurd c (by decide)) (fun _ => ?_)
      exact J_26 s.heap locs ls   (lv_sub hl [0, 1, 2, 3] rfl)  hI hS
  · skip
    try simp only [rg, not_and, Int.not_le] at hp
    have hp472 := hp
    try rw [show (0 : Int32).toInt = 0 from by decide] at hp472
    refine lv_if_eq (tgt := 26) hx hb dX12_grinds_15 (by decide) (fun _ => ?_) (fun c => absurd c (by decide))
    exact J_26 s.heap locs ls   (lv_sub hl [0, 1, 2, 3] rfl)  hI hS
theorem dX12_floats_0g : (decode cX12_floats 0 = .ok (.iload_n 1, 1)) ∧ (decode cX12_floats 1 = .ok (.istore 4, 2)) ∧ (decode cX12_floats 3 = .ok (.iload_n 2, 1)) ∧ (decode cX12_floats 4 = .ok (.istore 5, 2)) ∧ (decode cX12_floats 6 = .ok (.iload 5, 2)) ∧ (decode cX12_floats 8 = .ok (.iload_n 3, 1)) ∧ (decode cX12_floats 9 = .ok (.if_icmp .ge 24, 3)) ∧ (decode cX12_floats 12 = .ok (.aload_n 0, 1)) ∧ (decode cX12_floats 13 = .ok (.getfield 67, 3)) ∧ (decode cX12_floats 16 = .ok (.bipush 25, 2)) := by decide +kernel
theorem dX12_floats_0 : decode cX12_floats 0 = .ok (.iload_n 1, 1) := dX12_floats_0g.1
theorem dX12_floats_1 : decode cX12_floats 1 = .ok (.istore 4, 2) := dX12_floats_0g.2.1
theorem dX12_floats_3 : decode cX12_floats 3 = .ok (.iload_n 2, 1) := dX12_floats_0g.2.2.1
theorem dX12_floats_4 : decode cX12_floats 4 = .ok (.istore 5, 2) := dX12_floats_0g.2.2.2.1
theorem dX12_floats_6 : decode cX12_floats 6 = .ok (.iload 5, 2) := dX12_floats_0g.2.2.2.2.1
theorem dX12_floats_8 : decode cX12_floats 8 = .ok (.iload_n 3, 1) := dX12_floats_0g.2.2.2.2.2.1
theorem dX12_floats_9 : decode cX12_floats 9 = .ok (.if_icmp .ge 24, 3) := dX12_floats_0g.2.2.2.2.2.2.1
theorem dX12_floats_12 : decode cX12_floats 12 = .ok (.aload_n 0, 1) := dX12_floats_0g.2.2.2.2.2.2.2.1
theorem dX12_floats_13 : decode cX12_floats 13 = .ok (.getfield 67, 3) := dX12_floats_0g.2.2.2.2.2.2.2.2.1
theorem dX12_floats_16 : decode cX12_floats 16 = .ok (.bipush 25, 2) := dX12_floats_0g.2.2.2.2.2.2.2.2.2
theorem dX12_floats_18g : (decode cX12_floats 18 = .ok (.iload 5, 2)) ∧ (decode cX12_floats 20 = .ok (.imul, 1)) ∧ (decode cX12_floats 21 = .ok (.iload 4, 2)) ∧ (decode cX12_floats 23 = .ok (.iadd, 1)) ∧ (decode cX12_floats 24 = .ok (.iaload, 1)) ∧ (decode cX12_floats 25 = .ok (.istore 4, 2)) ∧ (decode cX12_floats 27 = .ok (.iinc 5 1, 3)) ∧ (decode cX12_floats 30 = .ok (.goto (-24), 3)) ∧ (decode cX12_floats 33 = .ok (.iload 4, 2)) ∧ (decode cX12_floats 35 = .ok (.ireturn, 1)) := by decide +kernel
theorem dX12_floats_18 : decode cX12_floats 18 = .ok (.iload 5, 2) := dX12_floats_18g.1
theorem dX12_floats_20 : decode cX12_floats 20 = .ok (.imul, 1) := dX12_floats_18g.2.1
theorem dX12_floats_21 : decode cX12_floats 21 = .ok (.iload 4, 2) := dX12_floats_18g.2.2.1
theorem dX12_floats_23 : decode cX12_floats 23 = .ok (.iadd, 1) := dX12_floats_18g.2.2.2.1
theorem dX12_floats_24 : decode cX12_floats 24 = .ok (.iaload, 1) := dX12_floats_18g.2.2.2.2.1
theorem dX12_floats_25 : decode cX12_floats 25 = .ok (.istore 4, 2) := dX12_floats_18g.2.2.2.2.2.1
theorem dX12_floats_27 : decode cX12_floats 27 = .ok (.iinc 5 1, 3) := dX12_floats_18g.2.2.2.2.2.2.1
theorem dX12_floats_30 : decode cX12_floats 30 = .ok (.goto (-24), 3) := dX12_floats_18g.2.2.2.2.2.2.2.1
theorem dX12_floats_33 : decode cX12_floats 33 = .ok (.iload 4, 2) := dX12_floats_18g.2.2.2.2.2.2.2.2.1
theorem dX12_floats_35 : decode cX12_floats 35 = .ok (.ireturn, 1) := dX12_floats_18g.2.2.2.2.2.2.2.2.2
set_option maxHeartbeats 4000000 in
set_option maxRecDepth 100000 in
theorem c_X12_floats (l : Launch) (E : Nat → Nat) (D : va_G) (G : th_G) (H0 : Heap) (h0 : Nat) (hG0 : G h0 = some (10, 0)) (x1 : Int32) (x2 : Int32) (x3 : Int32) (hx1 : (0 : Int) ≤ x1.toInt ∧ x1.toInt ≤ 24) (hx2 : (0 : Int) ≤ x2.toInt) (hx3 : x3.toInt ≤ 96) : Met l yX12_floats (tb (.code yX12_floats cX12_floats 6 (some .int))) (rm 0) (va_Pc [.ref h0, .int x1, .int x2, .int x3] (PR E D G H0)) (QS H0 (fun r => 0 ≤ (r : Int32).toInt ∧ (r : Int32).toInt ≤ 24)) 0 0 (fun _ => False) := by
  refine Met.ofW (cc := cX12_floats) (maxL := 6) (ret := (some .int)) (by decide) rfl ?_
  intro p e s m args below meth c s₁ B hml hv
  obtain ⟨hav, rfl, hI, hN, hK⟩ := hv
  have hx := B.exec
  have hb := B.bytes
  have hr := B.returns
  have hts := atoms_spec (ws := tb (.code yX12_floats cX12_floats 6 (some .int))) B.pre
  have hown : s.vm.findClass RX12 = some m.cls := findClass_of_methodNamed B.named
  have hlocks := B.notSynchronized
  have hS : va_S (fun _ => False) s.heap s.heap [] := va_S.rf
  have hl := lv_entry ([.ref h0, .int x1, .int x2, .int x3]) (n := 6) (Nat.le_of_ble_eq_true rfl)
  rw [show entryFrame m args 6 = entryFrame m ([.ref h0, .int x1, .int x2, .int x3] : List Value).toArray 6 from by rw [hav], lg_entry_eq]
  generalize (lg_sl ([.ref h0, .int x1, .int x2, .int x3]) ++ List.replicate (6 - (lg_sl ([.ref h0, .int x1, .int x2, .int x3])).length) Slot.unset).toArray = ls at hl ⊢
  have hl : lv_has ls 6 [(0, .ref h0), (1, .int x1), (2, .int x2), (3, .int x3)] := hl
  generalize hR : (headSpec (tb (.code yX12_floats cX12_floats 6 (some .int))) (rm 0)).room = R
  have hR := hR.symm
  generalize hQ : MQ below (QS s.heap (fun r => 0 ≤ (r : Int32).toInt ∧ (r : Int32).toInt ≤ 24)) args s 0 0 (fun _ => False) = QF
  have hQ := hQ.symm
  obtain ⟨q_3, hq_3, hf_3⟩ := fr_of hI hG0 3 (by decide) (kd := (1, 5123)) rfl
  obtain ⟨F_3, hA_3, hP_3⟩ := om_1 hI hq_3 List.not_mem_nil
  have J_6 : ∀ (nn : Nat) (locs : List Loc) (ls : Array Slot) (v167 : Int32) (v168 : Int32) , (Int.toNat (96 - v167.toInt) = nn) → lv_has ls 6 [(5, .int v167), (4, .int v168), (0, .ref h0), (1, .int x1), (2, .int x2), (3, .int x3)] → ((0 : Int) ≤ v167.toInt) → ((0 : Int) ≤ v168.toInt ∧ v168.toInt ≤ 24) → ((0 : Int) ≤ x1.toInt ∧ x1.toInt ≤ 24) → ((0 : Int) ≤ x2.toInt) → (x3.toInt ≤ 96) → va_S (fun _ => False) s.heap s.heap locs → W p l e R s m args below meth c s.heap locs 0 0 QF (F0 m 6 ls []) := by
    intro nn
    induction nn using Nat.strongRecOn with
    | ind nn ih_6 =>
      intro locs ls v167 v168  hm hl k169 k170 k171 k172 k173 hS
      refine lv_iload hx hb dX12_floats_6 (lv_at hl 0 rfl) ?_
      refine lv_iload_n hx hb dX12_floats_8 rfl (lv_at hl 5 rfl) ?_
      have k174 := iv_lo v167
      have k175 := iv_hi v167
      have k176 := iv_lo x3
      have k177 := iv_hi x3
      refine lv_icmp_ge (tgt := 33) hx hb dX12_floats_9 (by decide) (fun c178 => ?_) (fun c178 => ?_)
      · skip
        have k179 := iv_le (X := x3.toInt) (Y := v167.toInt) rfl rfl c178
        refine lv_iload hx hb dX12_floats_33 (lv_at hl 1 rfl) ?_
        have hpost : 0 ≤ (v168 : Int32).toInt ∧ (v168 : Int32).toInt ≤ 24 := by first | decide | omega
        rw [hQ]
        exact W.iret (v := v168) hx hb hr (fun t ht hW => ⟨⟨v168, (), rfl, hpost, ht⟩, hS.F ht⟩) hS.2.2 dX12_floats_35
      · skip
        have k180 := iv_nle (X := x3.toInt) (Y := v167.toInt) rfl rfl c178
        refine lv_aload_n hx hb dX12_floats_12 rfl (lv_at hl 2 rfl) ?_
        refine gmA hx hb hts inT12 hown hK hI List.not_mem_nil hG0 27 (by decide) (hts _ (tb_c wd_1260)) rfl rfl dX12_floats_13 (fun a181 hq182 hf183 => ?_)
        refine lv_bipush (v := 25) hx hb dX12_floats_16 (by decide) ?_
        refine lv_iload hx hb dX12_floats_18 (lv_at hl 0 rfl) ?_
        refine lv_imul hx hb dX12_floats_20 ?_
        refine lv_topi (fun v184 e185 => ?_)
        have tv184 : v184.toInt = (25) * v167.toInt := iv_mul (by decide) rfl e185 (by omega) (by omega)
        refine lv_iload hx hb dX12_floats_21 (lv_at hl 1 rfl) ?_
        refine lv_iadd hx hb dX12_floats_23 ?_
        refine lv_topi (fun v186 e187 => ?_)
        have tv186 : v186.toInt = v184.toInt + v168.toInt := iv_add rfl rfl e187 (by omega) (by omega)
        obtain ⟨F188, hA189, hP190⟩ := om_3 hI hq182 List.not_mem_nil
        refine th_iald hx hb hK hA189 0 rfl (iv_in (X := v186.toInt) rfl (by omega) (by omega)) dX12_floats_24 (fun v191 e192 => ?_)
        have k193 := rgs_get hP190 e192 (X := v186.toInt) rfl (by omega) (by omega)
        refine lv_istore (lv' := [(4, .int v191), (5, .int v167), (0, .ref h0), (1, .int x1), (2, .int x2), (3, .int x3)]) hx hb dX12_floats_25 hl (by decide) rfl (fun ls hl => ?_)
        obtain ⟨v194, e195⟩ : ∃ y : Int32, y = v167 + (1) := ⟨_, rfl⟩
        have tv194 : v194.toInt = v167.toInt + (1) := iv_add rfl (by decide) e195 (by omega) (by omega)
        refine lv_iinc (v := v194) (lv' := [(5, .int v194), (4, .int v191), (0, .ref h0), (1, .int x1), (2, .int x2), (3, .int x3)]) hx hb dX12_floats_27 hl (k := 1) rfl (by rw [e195]; rfl) (by decide) rfl (fun ls hl => ?_)
        refine lv_goto (tgt := 6) hx hb dX12_floats_30 (by decide) ?_
        exact ih_6 _ (by omega) locs ls v194 v191  rfl (lv_sub hl [0, 1, 2, 3, 4, 5] rfl) (by omega) ⟨by omega, by omega⟩ ⟨by omega, by omega⟩ (by omega) (by omega) hS
  refine lv_iload_n hx hb dX12_floats_0 rfl (lv_at hl 1 rfl) ?_
  refine lv_istore (lv' := [(4, .int x1), (0, .ref h0), (1, .int x1), (2, .int x2), (3, .int x3)]) hx hb dX12_floats_1 hl (by decide) rfl (fun ls hl => ?_)
  refine lv_iload_n hx hb dX12_floats_3 rfl (lv_at hl 3 rfl) ?_
  refine lv_istore (lv' := [(5, .int x2), (4, .int x1), (0, .ref h0), (1, .int x1), (2, .int x2), (3, .int x3)]) hx hb dX12_floats_4 hl (by decide) rfl (fun ls hl => ?_)
  exact J_6 _ [] ls x2 x1  rfl (lv_sub hl [0, 1, 2, 3, 4, 5] rfl) (by omega) ⟨by omega, by omega⟩ ⟨by omega, by omega⟩ (by omega) (by omega) hS
theorem dX12_where_0g : (decode cX12_where 0 = .ok (.iload_n 1, 1)) ∧ (decode cX12_where 1 = .ok (.invokestatic 118, 3)) ∧ (decode cX12_where 4 = .ok (.ifCond .eq 20, 3)) ∧ (decode cX12_where 7 = .ok (.iload_n 2, 1)) ∧ (decode cX12_where 8 = .ok (.invokestatic 298, 3)) ∧ (decode cX12_where 11 = .ok (.ifCond .eq 13, 3)) ∧ (decode cX12_where 14 = .ok (.iload_n 3, 1)) ∧ (decode cX12_where 15 = .ok (.iload_n 2, 1)) ∧ (decode cX12_where 16 = .ok (.bipush 96, 2)) ∧ (decode cX12_where 18 = .ok (.invokestatic 103, 3)) := by decide +kernel
theorem dX12_where_0 : decode cX12_where 0 = .ok (.iload_n 1, 1) := dX12_where_0g.1
theorem dX12_where_1 : decode cX12_where 1 = .ok (.invokestatic 118, 3) := dX12_where_0g.2.1
theorem dX12_where_4 : decode cX12_where 4 = .ok (.ifCond .eq 20, 3) := dX12_where_0g.2.2.1
theorem dX12_where_7 : decode cX12_where 7 = .ok (.iload_n 2, 1) := dX12_where_0g.2.2.2.1
theorem dX12_where_8 : decode cX12_where 8 = .ok (.invokestatic 298, 3) := dX12_where_0g.2.2.2.2.1
theorem dX12_where_11 : decode cX12_where 11 = .ok (.ifCond .eq 13, 3) := dX12_where_0g.2.2.2.2.2.1
theorem dX12_where_14 : decode cX12_where 14 = .ok (.iload_n 3, 1) := dX12_where_0g.2.2.2.2.2.2.1
theorem dX12_where_15 : decode cX12_where 15 = .ok (.iload_n 2, 1) := dX12_where_0g.2.2.2.2.2.2.2.1
theorem dX12_where_16 : decode cX12_where 16 = .ok (.bipush 96, 2) := dX12_where_0g.2.2.2.2.2.2.2.2.1
theorem dX12_where_18 : decode cX12_where 18 = .ok (.invokestatic 103, 3) := dX12_where_0g.2.2.2.2.2.2.2.2.2
theorem dX12_where_21g : (decode cX12_where 21 = .ok (.ifCond .ne 5, 3)) ∧ (decode cX12_where 24 = .ok (.iconst (-1), 1)) ∧ (decode cX12_where 25 = .ok (.ireturn, 1)) ∧ (decode cX12_where 26 = .ok (.aload_n 0, 1)) ∧ (decode cX12_where 27 = .ok (.invokevirtual 138, 3)) ∧ (decode cX12_where 30 = .ok (.aload_n 0, 1)) ∧ (decode cX12_where 31 = .ok (.iload_n 1, 1)) ∧ (decode cX12_where 32 = .ok (.iload_n 2, 1)) ∧ (decode cX12_where 33 = .ok (.iload_n 3, 1)) ∧ (decode cX12_where 34 = .ok (.invokevirtual 301, 3)) := by decide +kernel
theorem dX12_where_21 : decode cX12_where 21 = .ok (.ifCond .ne 5, 3) := dX12_where_21g.1
theorem dX12_where_24 : decode cX12_where 24 = .ok (.iconst (-1), 1) := dX12_where_21g.2.1
theorem dX12_where_25 : decode cX12_where 25 = .ok (.ireturn, 1) := dX12_where_21g.2.2.1
theorem dX12_where_26 : decode cX12_where 26 = .ok (.aload_n 0, 1) := dX12_where_21g.2.2.2.1
theorem dX12_where_27 : decode cX12_where 27 = .ok (.invokevirtual 138, 3) := dX12_where_21g.2.2.2.2.1
theorem dX12_where_30 : decode cX12_where 30 = .ok (.aload_n 0, 1) := dX12_where_21g.2.2.2.2.2.1
theorem dX12_where_31 : decode cX12_where 31 = .ok (.iload_n 1, 1) := dX12_where_21g.2.2.2.2.2.2.1
theorem dX12_where_32 : decode cX12_where 32 = .ok (.iload_n 2, 1) := dX12_where_21g.2.2.2.2.2.2.2.1
theorem dX12_where_33 : decode cX12_where 33 = .ok (.iload_n 3, 1) := dX12_where_21g.2.2.2.2.2.2.2.2.1
theorem dX12_where_34 : decode cX12_where 34 = .ok (.invokevirtual 301, 3) := dX12_where_21g.2.2.2.2.2.2.2.2.2
theorem dX12_where_37 : decode cX12_where 37 = .ok (.ireturn, 1) := by decide +kernel
set_option maxHeartbeats 4000000 in
set_option maxRecDepth 100000 in
theorem c_X12_where (l : Launch) (E : Nat → Nat) (D : va_G) (G : th_G) (h0 : Nat) (hG0 : G h0 = some (10, 0)) (x1 : Int32) (x2 : Int32) (x3 : Int32) : Met l yX12_where (tb (.code yX12_where cX12_where 4 (some .int))) (rm 69) (va_Pc [.ref h0, .int x1, .int x2, .int x3] (PX E D G (fun H => True))) (QXi E D G (fun r H => True)) 0 0 (th_A G) := by
  refine Met.ofW (cc := cX12_where) (maxL := 4) (ret := (some .int)) (by decide) rfl ?_
  intro p e s m args below meth c s₁ B hml hv
  obtain ⟨hav, ⟨hI, hN, hK⟩, hX⟩ := hv
  have hx := B.exec
  have hb := B.bytes
  have hr := B.returns
  have hts := atoms_spec (ws := tb (.code yX12_where cX12_where 4 (some .int))) B.pre
  have hown : s.vm.findClass RX12 = some m.cls := findClass_of_methodNamed B.named
  have hlocks := B.notSynchronized
  have hS : va_S (th_A G) s.heap s.heap [] := va_S.rf
  have hl := lv_entry ([.ref h0, .int x1, .int x2, .int x3]) (n := 4) (Nat.le_of_ble_eq_true rfl)
  rw [show entryFrame m args 4 = entryFrame m ([.ref h0, .int x1, .int x2, .int x3] : List Value).toArray 4 from by rw [hav], lg_entry_eq]
  generalize (lg_sl ([.ref h0, .int x1, .int x2, .int x3]) ++ List.replicate (4 - (lg_sl ([.ref h0, .int x1, .int x2, .int x3])).length) Slot.unset).toArray = ls at hl ⊢
  have hl : lv_has ls 4 [(0, .ref h0), (1, .int x1), (2, .int x2), (3, .int x3)] := hl
  generalize hR : (headSpec (tb (.code yX12_where cX12_where 4 (some .int))) (rm 69)).room = R
  have hR := hR.symm
  generalize hQ : MQ below (QXi E D G (fun r H => True)) args s 0 0 (th_A G) = QF
  have hQ := hQ.symm
  have J_24 : ∀ (H : Heap) (locs : List Loc) (ls : Array Slot)  , lv_has ls 4 [(0, .ref h0), (1, .int x1), (2, .int x2), (3, .int x3)] → th_I (okM E) D G [] H → va_S (th_A G) s.heap H locs → W p l e R s m args below meth c H locs 0 0 QF (F0 m 24 ls []) := by
    intro H locs ls   hl  hI hS
    refine lv_iconst (v := (-1)) hx hb dX12_where_24 (by decide) ?_
    have hpost : True := trivial
    rw [hQ]
    exact W.iret (v := (-1)) hx hb hr (fun t ht hW => ⟨⟨(-1), (-1), rfl, rfl, ⟨by rw [ht]; exact hI, hN.warm hW, va_K.moved hW.alike hK⟩, by first | (rw [ht]; exact hpost) | exact hpost⟩, hS.F ht⟩) hS.2.2 dX12_where_25
  refine lv_iload_n hx hb dX12_where_0 rfl (lv_at hl 1 rfl) ?_
  refine th_cSs (As := [.int x1]) (rest := []) (n := 1) (d := 1) ⟨hx, hb, hml, hown, hts⟩ (c_X12_isCell l s.heap x1) wd_1414 wd_1415 wd_13 wd_1416 (by decide +kernel) ⟨by rw [hR]; exact Nat.le_of_ble_eq_true rfl, by rw [hR]; exact Nat.le_of_ble_eq_true rfl⟩ hN hS rfl hl.1 rfl (Nat.le_of_ble_eq_true rfl) dX12_where_1 ⟨Nat.zero_le _, Nat.zero_le _⟩ (fun r97 locs hp hS => ?_)
  rcases hp with ⟨rfl, hp⟩ | ⟨rfl, hp⟩
  · skip
    try simp only [rg, not_and, Int.not_le] at hp
    have hp98 := hp
    refine lv_if_eq (tgt := 24) hx hb dX12_where_4 (by decide) (fun c => absurd c (by decide)) (fun _ => ?_)
    refine lv_iload_n hx hb dX12_where_7 rfl (lv_at hl 2 rfl) ?_
    refine th_cSs (As := [.int x2]) (rest := []) (n := 1) (d := 1) ⟨hx, hb, hml, hown, hts⟩ (c_X12_isTime l s.heap x2) wd_1655 wd_1656 wd_13 wd_1657 (by decide +kernel) ⟨by rw [hR]; exact Nat.le_of_ble_eq_true rfl, by rw [hR]; exact Nat.le_of_ble_eq_true rfl⟩ hN hS rfl hl.1 rfl (Nat.le_of_ble_eq_true rfl) dX12_where_8 ⟨Nat.zero_le _, Nat.zero_le _⟩ (fun r99 locs hp hS => ?_)
    rcases hp with ⟨rfl, hp⟩ | ⟨rfl, hp⟩
    · skip
      try simp only [rg, not_and, Int.not_le] at hp
      have hp100 := hp
      refine lv_if_eq (tgt := 24) hx hb dX12_where_11 (by decide) (fun c => absurd c (by decide)) (fun _ => ?_)
      refine lv_iload_n hx hb dX12_where_14 rfl (lv_at hl 3 rfl) ?_
      refine lv_iload_n hx hb dX12_where_15 rfl (lv_at hl 2 rfl) ?_
      refine lv_bipush (v := 96) hx hb dX12_where_16 (by decide) ?_
      refine th_cSs (As := [.int x3, .int x2, .int 96]) (rest := []) (n := 3) (d := 0) ⟨hx, hb, hml, hown, hts⟩ (c_X12_lies l s.heap x3 x2 96) wd_1395 wd_1396 wd_13 wd_1397 (by decide +kernel) ⟨by rw [hR]; exact Nat.le_of_ble_eq_true rfl, by rw [hR]; exact Nat.le_of_ble_eq_true rfl⟩ hN hS rfl hl.1 rfl (Nat.le_of_ble_eq_true rfl) dX12_where_18 ⟨Nat.zero_le _, Nat.zero_le _⟩ (fun r101 locs hp hS => ?_)
      rcases hp with ⟨rfl, hp⟩ | ⟨rfl, hp⟩
      · skip
        try simp only [rg, not_and, Int.not_le] at hp
        have hp102 := hp
        try rw [show (96 : Int32).toInt = 96 from by decide] at hp102
        refine lv_if_ne (tgt := 26) hx hb dX12_where_21 (by decide) (fun _ => ?_) (fun c => absurd c (by decide))
        refine lv_aload_n hx hb dX12_where_26 rfl (lv_at hl 0 rfl) ?_
        refine mx_v (As := []) (rest := []) (n := 0) (d := 68) ⟨hx, hb, hml, hown, hts⟩ (c_X12_looks l E D G h0 hG0 ) wd_1455 wd_1457 wp_43 wd_13 wd_1458 (by decide +kernel) ⟨by rw [hR]; exact Nat.le_of_ble_eq_true rfl, by rw [hR]; exact Nat.le_of_ble_eq_true rfl⟩ hI hN hK hS hG0 (trivial) rfl hl.1 rfl (Nat.le_of_ble_eq_true rfl) dX12_where_27 ⟨Nat.zero_le _, Nat.zero_le _⟩ (fun H locs hI hp hS => ?_)
        refine lv_aload_n hx hb dX12_where_30 rfl (lv_at hl 0 rfl) ?_
        refine lv_iload_n hx hb dX12_where_31 rfl (lv_at hl 1 rfl) ?_
        refine lv_iload_n hx hb dX12_where_32 rfl (lv_at hl 2 rfl) ?_
        refine lv_iload_n hx hb dX12_where_33 rfl (lv_at hl 3 rfl) ?_
        refine mr_i (As := [.int x1, .int x2, .int x3]) (rest := []) (n := 3) (d := 0) ⟨hx, hb, hml, hown, hts⟩ (c_X12_floats l E D G H h0 hG0 x1 x2 x3 ⟨by omega, by omega⟩ (by omega) (by omega)) wd_1658 wd_1660 wp_77 wd_13 wd_1661 (by decide +kernel) ⟨by rw [hR]; exact Nat.le_of_ble_eq_true rfl, by rw [hR]; exact Nat.le_of_ble_eq_true rfl⟩ hI hN hK hS hG0 rfl hl.1 rfl (Nat.le_of_ble_eq_true rfl) dX12_where_34 ⟨Nat.zero_le _, Nat.zero_le _⟩ (fun r104 locs hp hS => ?_)
        have hp105 := hp
        have hpost : True := trivial
        rw [hQ]
        exact W.iret (v := r104) hx hb hr (fun t ht hW => ⟨⟨r104, r104, rfl, rfl, ⟨by rw [ht]; exact hI, hN.warm hW, va_K.moved hW.alike hK⟩, by first | (rw [ht]; exact hpost) | exact hpost⟩, hS.F ht⟩) hS.2.2 dX12_where_37
      · skip
        try simp only [rg, not_and, Int.not_le] at hp
        have hp106 := hp
        try rw [show (96 : Int32).toInt = 96 from by decide] at hp106
        refine lv_if_ne (tgt := 26) hx hb dX12_where_21 (by decide) (fun c => absurd c (by decide)) (fun _ => ?_)
        exact J_24 s.heap locs ls   (lv_sub hl [0, 1, 2, 3] rfl)  hI hS
    · skip
      try simp only [rg, not_and, Int.not_le] at hp
      have hp107 := hp
      refine lv_if_eq (tgt := 24) hx hb dX12_where_11 (by decide) (fun _ => ?_) (fun c => absurd c (by decide))
      exact J_24 s.heap locs ls   (lv_sub hl [0, 1, 2, 3] rfl)  hI hS
  · skip
    try simp only [rg, not_and, Int.not_le] at hp
    have hp108 := hp
    refine lv_if_eq (tgt := 24) hx hb dX12_where_4 (by decide) (fun _ => ?_) (fun c => absurd c (by decide))
    exact J_24 s.heap locs ls   (lv_sub hl [0, 1, 2, 3] rfl)  hI hS
theorem dX12_below_0g : (decode cX12_below 0 = .ok (.iload_n 1, 1)) ∧ (decode cX12_below 1 = .ok (.invokestatic 118, 3)) ∧ (decode cX12_below 4 = .ok (.ifCond .eq 17, 3)) ∧ (decode cX12_below 7 = .ok (.iload_n 2, 1)) ∧ (decode cX12_below 8 = .ok (.invokestatic 298, 3)) ∧ (decode cX12_below 11 = .ok (.ifCond .eq 10, 3)) ∧ (decode cX12_below 14 = .ok (.iload_n 3, 1)) ∧ (decode cX12_below 15 = .ok (.invokestatic 298, 3)) ∧ (decode cX12_below 18 = .ok (.ifCond .ne 5, 3)) ∧ (decode cX12_below 21 = .ok (.iconst (-1), 1)) := by decide +kernel
theorem dX12_below_0 : decode cX12_below 0 = .ok (.iload_n 1, 1) := dX12_below_0g.1
theorem dX12_below_1 : decode cX12_below 1 = .ok (.invokestatic 118, 3) := dX12_below_0g.2.1
theorem dX12_below_4 : decode cX12_below 4 = .ok (.ifCond .eq 17, 3) := dX12_below_0g.2.2.1
theorem dX12_below_7 : decode cX12_below 7 = .ok (.iload_n 2, 1) := dX12_below_0g.2.2.2.1
theorem dX12_below_8 : decode cX12_below 8 = .ok (.invokestatic 298, 3) := dX12_below_0g.2.2.2.2.1
theorem dX12_below_11 : decode cX12_below 11 = .ok (.ifCond .eq 10, 3) := dX12_below_0g.2.2.2.2.2.1
theorem dX12_below_14 : decode cX12_below 14 = .ok (.iload_n 3, 1) := dX12_below_0g.2.2.2.2.2.2.1
theorem dX12_below_15 : decode cX12_below 15 = .ok (.invokestatic 298, 3) := dX12_below_0g.2.2.2.2.2.2.2.1
theorem dX12_below_18 : decode cX12_below 18 = .ok (.ifCond .ne 5, 3) := dX12_below_0g.2.2.2.2.2.2.2.2.1
theorem dX12_below_21 : decode cX12_below 21 = .ok (.iconst (-1), 1) := dX12_below_0g.2.2.2.2.2.2.2.2.2
theorem dX12_below_22g : (decode cX12_below 22 = .ok (.ireturn, 1)) ∧ (decode cX12_below 23 = .ok (.aload_n 0, 1)) ∧ (decode cX12_below 24 = .ok (.invokevirtual 138, 3)) ∧ (decode cX12_below 27 = .ok (.iconst 1, 1)) ∧ (decode cX12_below 28 = .ok (.iload_n 1, 1)) ∧ (decode cX12_below 29 = .ok (.ishl, 1)) ∧ (decode cX12_below 30 = .ok (.istore 4, 2)) ∧ (decode cX12_below 32 = .ok (.iload_n 1, 1)) ∧ (decode cX12_below 33 = .ok (.istore 5, 2)) ∧ (decode cX12_below 35 = .ok (.iload_n 2, 1)) := by decide +kernel
theorem dX12_below_22 : decode cX12_below 22 = .ok (.ireturn, 1) := dX12_below_22g.1
theorem dX12_below_23 : decode cX12_below 23 = .ok (.aload_n 0, 1) := dX12_below_22g.2.1
theorem dX12_below_24 : decode cX12_below 24 = .ok (.invokevirtual 138, 3) := dX12_below_22g.2.2.1
theorem dX12_below_27 : decode cX12_below 27 = .ok (.iconst 1, 1) := dX12_below_22g.2.2.2.1
theorem dX12_below_28 : decode cX12_below 28 = .ok (.iload_n 1, 1) := dX12_below_22g.2.2.2.2.1
theorem dX12_below_29 : decode cX12_below 29 = .ok (.ishl, 1) := dX12_below_22g.2.2.2.2.2.1
theorem dX12_below_30 : decode cX12_below 30 = .ok (.istore 4, 2) := dX12_below_22g.2.2.2.2.2.2.1
theorem dX12_below_32 : decode cX12_below 32 = .ok (.iload_n 1, 1) := dX12_below_22g.2.2.2.2.2.2.2.1
theorem dX12_below_33 : decode cX12_below 33 = .ok (.istore 5, 2) := dX12_below_22g.2.2.2.2.2.2.2.2.1
theorem dX12_below_35 : decode cX12_below 35 = .ok (.iload_n 2, 1) := dX12_below_22g.2.2.2.2.2.2.2.2.2
theorem dX12_below_36g : (decode cX12_below 36 = .ok (.istore 6, 2)) ∧ (decode cX12_below 38 = .ok (.iload 6, 2)) ∧ (decode cX12_below 40 = .ok (.iload_n 2, 1)) ∧ (decode cX12_below 41 = .ok (.iload_n 3, 1)) ∧ (decode cX12_below 42 = .ok (.iadd, 1)) ∧ (decode cX12_below 43 = .ok (.if_icmp .ge 40, 3)) ∧ (decode cX12_below 46 = .ok (.iload 6, 2)) ∧ (decode cX12_below 48 = .ok (.bipush 96, 2)) ∧ (decode cX12_below 50 = .ok (.if_icmp .ge 33, 3)) ∧ (decode cX12_below 53 = .ok (.aload_n 0, 1)) := by decide +kernel
theorem dX12_below_36 : decode cX12_below 36 = .ok (.istore 6, 2) := dX12_below_36g.1
theorem dX12_below_38 : decode cX12_below 38 = .ok (.iload 6, 2) := dX12_below_36g.2.1
theorem dX12_below_40 : decode cX12_below 40 = .ok (.iload_n 2, 1) := dX12_below_36g.2.2.1
theorem dX12_below_41 : decode cX12_below 41 = .ok (.iload_n 3, 1) := dX12_below_36g.2.2.2.1
theorem dX12_below_42 : decode cX12_below 42 = .ok (.iadd, 1) := dX12_below_36g.2.2.2.2.1
theorem dX12_below_43 : decode cX12_below 43 = .ok (.if_icmp .ge 40, 3) := dX12_below_36g.2.2.2.2.2.1
theorem dX12_below_46 : decode cX12_below 46 = .ok (.iload 6, 2) := dX12_below_36g.2.2.2.2.2.2.1
theorem dX12_below_48 : decode cX12_below 48 = .ok (.bipush 96, 2) := dX12_below_36g.2.2.2.2.2.2.2.1
theorem dX12_below_50 : decode cX12_below 50 = .ok (.if_icmp .ge 33, 3) := dX12_below_36g.2.2.2.2.2.2.2.2.1
theorem dX12_below_53 : decode cX12_below 53 = .ok (.aload_n 0, 1) := dX12_below_36g.2.2.2.2.2.2.2.2.2
theorem dX12_below_54g : (decode cX12_below 54 = .ok (.getfield 67, 3)) ∧ (decode cX12_below 57 = .ok (.bipush 25, 2)) ∧ (decode cX12_below 59 = .ok (.iload 6, 2)) ∧ (decode cX12_below 61 = .ok (.imul, 1)) ∧ (decode cX12_below 62 = .ok (.iload 5, 2)) ∧ (decode cX12_below 64 = .ok (.iadd, 1)) ∧ (decode cX12_below 65 = .ok (.iaload, 1)) ∧ (decode cX12_below 66 = .ok (.istore 5, 2)) ∧ (decode cX12_below 68 = .ok (.iload 4, 2)) ∧ (decode cX12_below 70 = .ok (.iconst 1, 1)) := by decide +kernel
theorem dX12_below_54 : decode cX12_below 54 = .ok (.getfield 67, 3) := dX12_below_54g.1
theorem dX12_below_57 : decode cX12_below 57 = .ok (.bipush 25, 2) := dX12_below_54g.2.1
theorem dX12_below_59 : decode cX12_below 59 = .ok (.iload 6, 2) := dX12_below_54g.2.2.1
theorem dX12_below_61 : decode cX12_below 61 = .ok (.imul, 1) := dX12_below_54g.2.2.2.1
theorem dX12_below_62 : decode cX12_below 62 = .ok (.iload 5, 2) := dX12_below_54g.2.2.2.2.1
theorem dX12_below_64 : decode cX12_below 64 = .ok (.iadd, 1) := dX12_below_54g.2.2.2.2.2.1
theorem dX12_below_65 : decode cX12_below 65 = .ok (.iaload, 1) := dX12_below_54g.2.2.2.2.2.2.1
theorem dX12_below_66 : decode cX12_below 66 = .ok (.istore 5, 2) := dX12_below_54g.2.2.2.2.2.2.2.1
theorem dX12_below_68 : decode cX12_below 68 = .ok (.iload 4, 2) := dX12_below_54g.2.2.2.2.2.2.2.2.1
theorem dX12_below_70 : decode cX12_below 70 = .ok (.iconst 1, 1) := dX12_below_54g.2.2.2.2.2.2.2.2.2
theorem dX12_below_71g : (decode cX12_below 71 = .ok (.iload 5, 2)) ∧ (decode cX12_below 73 = .ok (.ishl, 1)) ∧ (decode cX12_below 74 = .ok (.ior, 1)) ∧ (decode cX12_below 75 = .ok (.istore 4, 2)) ∧ (decode cX12_below 77 = .ok (.iinc 6 1, 3)) ∧ (decode cX12_below 80 = .ok (.goto (-42), 3)) ∧ (decode cX12_below 83 = .ok (.iload 4, 2)) ∧ (decode cX12_below 85 = .ok (.ireturn, 1)) := by decide +kernel
theorem dX12_below_71 : decode cX12_below 71 = .ok (.iload 5, 2) := dX12_below_71g.1
theorem dX12_below_73 : decode cX12_below 73 = .ok (.ishl, 1) := dX12_below_71g.2.1
theorem dX12_below_74 : decode cX12_below 74 = .ok (.ior, 1) := dX12_below_71g.2.2.1
theorem dX12_below_75 : decode cX12_below 75 = .ok (.istore 4, 2) := dX12_below_71g.2.2.2.1
theorem dX12_below_77 : decode cX12_below 77 = .ok (.iinc 6 1, 3) := dX12_below_71g.2.2.2.2.1
theorem dX12_below_80 : decode cX12_below 80 = .ok (.goto (-42), 3) := dX12_below_71g.2.2.2.2.2.1
theorem dX12_below_83 : decode cX12_below 83 = .ok (.iload 4, 2) := dX12_below_71g.2.2.2.2.2.2.1
theorem dX12_below_85 : decode cX12_below 85 = .ok (.ireturn, 1) := dX12_below_71g.2.2.2.2.2.2.2
set_option maxHeartbeats 4000000 in
set_option maxRecDepth 100000 in
theorem c_X12_below (l : Launch) (E : Nat → Nat) (D : va_G) (G : th_G) (h0 : Nat) (hG0 : G h0 = some (10, 0)) (x1 : Int32) (x2 : Int32) (x3 : Int32) : Met l yX12_below (tb (.code yX12_below cX12_below 7 (some .int))) (rm 69) (va_Pc [.ref h0, .int x1, .int x2, .int x3] (PX E D G (fun H => True))) (QXi E D G (fun r H => True)) 0 0 (th_A G) := by
  refine Met.ofW (cc := cX12_below) (maxL := 7) (ret := (some .int)) (by decide) rfl ?_
  intro p e s m args below meth c s₁ B hml hv
  obtain ⟨hav, ⟨hI, hN, hK⟩, hX⟩ := hv
  have hx := B.exec
  have hb := B.bytes
  have hr := B.returns
  have hts := atoms_spec (ws := tb (.code yX12_below cX12_below 7 (some .int))) B.pre
  have hown : s.vm.findClass RX12 = some m.cls := findClass_of_methodNamed B.named
  have hlocks := B.notSynchronized
  have hS : va_S (th_A G) s.heap s.heap [] := va_S.rf
  have hl := lv_entry ([.ref h0, .int x1, .int x2, .int x3]) (n := 7) (Nat.le_of_ble_eq_true rfl)
  rw [show entryFrame m args 7 = entryFrame m ([.ref h0, .int x1, .int x2, .int x3] : List Value).toArray 7 from by rw [hav], lg_entry_eq]
  generalize (lg_sl ([.ref h0, .int x1, .int x2, .int x3]) ++ List.replicate (7 - (lg_sl ([.ref h0, .int x1, .int x2, .int x3])).length) Slot.unset).toArray = ls at hl ⊢
  have hl : lv_has ls 7 [(0, .ref h0), (1, .int x1), (2, .int x2), (3, .int x3)] := hl
  generalize hR : (headSpec (tb (.code yX12_below cX12_below 7 (some .int))) (rm 69)).room = R
  have hR := hR.symm
  generalize hQ : MQ below (QXi E D G (fun r H => True)) args s 0 0 (th_A G) = QF
  have hQ := hQ.symm
  have J_38 : ∀ (nn : Nat) (H : Heap) (locs : List Loc) (ls : Array Slot) (v347 : Int32) (v348 : Int32) (v349 : Int32) , (Int.toNat (96 - v347.toInt) = nn) → lv_has ls 7 [(6, .int v347), (5, .int v348), (4, .int v349), (0, .ref h0), (1, .int x1), (2, .int x2), (3, .int x3)] → ((0 : Int) ≤ v347.toInt ∧ v347.toInt ≤ 96) → ((0 : Int) ≤ v348.toInt ∧ v348.toInt ≤ 24) → ((0 : Int) ≤ x1.toInt ∧ x1.toInt ≤ 23) → ((0 : Int) ≤ x2.toInt ∧ x2.toInt ≤ 96) → ((0 : Int) ≤ x3.toInt ∧ x3.toInt ≤ 96) → th_I (okM E) D G [] H → va_S (th_A G) s.heap H locs → W p l e R s m args below meth c H locs 0 0 QF (F0 m 38 ls []) := by
    intro nn
    induction nn using Nat.strongRecOn with
    | ind nn ih_38 =>
      intro H locs ls v347 v348 v349  hm hl k350 k351 k352 k353 k354 hI hS
      refine lv_iload hx hb dX12_below_38 (lv_at hl 0 rfl) ?_
      refine lv_iload_n hx hb dX12_below_40 rfl (lv_at hl 5 rfl) ?_
      refine lv_iload_n hx hb dX12_below_41 rfl (lv_at hl 6 rfl) ?_
      refine lv_iadd hx hb dX12_below_42 ?_
      refine lv_topi (fun v355 e356 => ?_)
      have tv355 : v355.toInt = x2.toInt + x3.toInt := iv_add rfl rfl e356 (by omega) (by omega)
      refine lv_icmp_ge (tgt := 83) hx hb dX12_below_43 (by decide) (fun c357 => ?_) (fun c357 => ?_)
      · skip
        have k358 := iv_le (X := v355.toInt) (Y := v347.toInt) rfl rfl c357
        refine lv_iload hx hb dX12_below_83 (lv_at hl 2 rfl) ?_
        have hpost : True := trivial
        rw [hQ]
        exact W.iret (v := v349) hx hb hr (fun t ht hW => ⟨⟨v349, v349, rfl, rfl, ⟨by rw [ht]; exact hI, hN.warm hW, va_K.moved hW.alike hK⟩, by first | (rw [ht]; exact hpost) | exact hpost⟩, hS.F ht⟩) hS.2.2 dX12_below_85
      · skip
        have k359 := iv_nle (X := v355.toInt) (Y := v347.toInt) rfl rfl c357
        refine lv_iload hx hb dX12_below_46 (lv_at hl 0 rfl) ?_
        refine lv_bipush (v := 96) hx hb dX12_below_48 (by decide) ?_
        refine lv_icmp_ge (tgt := 83) hx hb dX12_below_50 (by decide) (fun c360 => ?_) (fun c360 => ?_)
        · skip
          have k361 := iv_le (X := (96)) (Y := v347.toInt) (by decide) rfl c360
          refine lv_iload hx hb dX12_below_83 (lv_at hl 2 rfl) ?_
          have hpost : True := trivial
          rw [hQ]
          exact W.iret (v := v349) hx hb hr (fun t ht hW => ⟨⟨v349, v349, rfl, rfl, ⟨by rw [ht]; exact hI, hN.warm hW, va_K.moved hW.alike hK⟩, by first | (rw [ht]; exact hpost) | exact hpost⟩, hS.F ht⟩) hS.2.2 dX12_below_85
        · skip
          have k362 := iv_nle (X := (96)) (Y := v347.toInt) (by decide) rfl c360
          refine lv_aload_n hx hb dX12_below_53 rfl (lv_at hl 3 rfl) ?_
          refine gmA hx hb hts inT12 hown hK hI List.not_mem_nil hG0 27 (by decide) (hts _ (tb_c wd_1260)) rfl rfl dX12_below_54 (fun a363 hq364 hf365 => ?_)
          refine lv_bipush (v := 25) hx hb dX12_below_57 (by decide) ?_
          refine lv_iload hx hb dX12_below_59 (lv_at hl 0 rfl) ?_
          refine lv_imul hx hb dX12_below_61 ?_
          refine lv_topi (fun v366 e367 => ?_)
          have tv366 : v366.toInt = (25) * v347.toInt := iv_mul (by decide) rfl e367 (by omega) (by omega)
          refine lv_iload hx hb dX12_below_62 (lv_at hl 1 rfl) ?_
          refine lv_iadd hx hb dX12_below_64 ?_
          refine lv_topi (fun v368 e369 => ?_)
          have tv368 : v368.toInt = v366.toInt + v348.toInt := iv_add rfl rfl e369 (by omega) (by omega)
          obtain ⟨F370, hA371, hP372⟩ := om_3 hI hq364 List.not_mem_nil
          refine th_iald hx hb hK hA371 0 rfl (iv_in (X := v368.toInt) rfl (by omega) (by omega)) dX12_below_65 (fun v373 e374 => ?_)
          have k375 := rgs_get hP372 e374 (X := v368.toInt) rfl (by omega) (by omega)
          refine lv_istore (lv' := [(5, .int v373), (6, .int v347), (4, .int v349), (0, .ref h0), (1, .int x1), (2, .int x2), (3, .int x3)]) hx hb dX12_below_66 hl (by decide) rfl (fun ls hl => ?_)
          refine lv_iload hx hb dX12_below_68 (lv_at hl 2 rfl) ?_
          refine lv_iconst (v := 1) hx hb dX12_below_70 (by decide) ?_
          refine lv_iload hx hb dX12_below_71 (lv_at hl 0 rfl) ?_
          refine lv_ishl hx hb dX12_below_73 ?_
          refine lv_topi (fun v376 e377 => ?_)
          refine lv_ior hx hb dX12_below_74 ?_
          refine lv_topi (fun v378 e379 => ?_)
          refine lv_istore (lv' := [(4, .int v378), (5, .int v373), (6, .int v347), (0, .ref h0), (1, .int x1), (2, .int x2), (3, .int x3)]) hx hb dX12_below_75 hl (by decide) rfl (fun ls hl => ?_)
          obtain ⟨v380, e381⟩ : ∃ y : Int32, y = v347 + (1) := ⟨_, rfl⟩
          have tv380 : v380.toInt = v347.toInt + (1) := iv_add rfl (by decide) e381 (by omega) (by omega)
          refine lv_iinc (v := v380) (lv' := [(6, .int v380), (4, .int v378), (5, .int v373), (0, .ref h0), (1, .int x1), (2, .int x2), (3, .int x3)]) hx hb dX12_below_77 hl (k := 2) rfl (by rw [e381]; rfl) (by decide) rfl (fun ls hl => ?_)
          refine lv_goto (tgt := 38) hx hb dX12_below_80 (by decide) ?_
          exact ih_38 _ (by omega) H locs ls v380 v373 v378  rfl (lv_sub hl [0, 2, 1, 3, 4, 5, 6] rfl) ⟨by omega, by omega⟩ ⟨by omega, by omega⟩ ⟨by omega, by omega⟩ ⟨by omega, by omega⟩ ⟨by omega, by omega⟩ hI hS
  have J_21 : ∀ (H : Heap) (locs : List Loc) (ls : Array Slot)  , lv_has ls 7 [(0, .ref h0), (1, .int x1), (2, .int x2), (3, .int x3)] → th_I (okM E) D G [] H → va_S (th_A G) s.heap H locs → W p l e R s m args below meth c H locs 0 0 QF (F0 m 21 ls []) := by
    intro H locs ls   hl  hI hS
    refine lv_iconst (v := (-1)) hx hb dX12_below_21 (by decide) ?_
    have hpost : True := trivial
    rw [hQ]
    exact W.iret (v := (-1)) hx hb hr (fun t ht hW => ⟨⟨(-1), (-1), rfl, rfl, ⟨by rw [ht]; exact hI, hN.warm hW, va_K.moved hW.alike hK⟩, by first | (rw [ht]; exact hpost) | exact hpost⟩, hS.F ht⟩) hS.2.2 dX12_below_22
  refine lv_iload_n hx hb dX12_below_0 rfl (lv_at hl 1 rfl) ?_
  refine th_cSs (As := [.int x1]) (rest := []) (n := 1) (d := 1) ⟨hx, hb, hml, hown, hts⟩ (c_X12_isCell l s.heap x1) wd_1414 wd_1415 wd_13 wd_1416 (by decide +kernel) ⟨by rw [hR]; exact Nat.le_of_ble_eq_true rfl, by rw [hR]; exact Nat.le_of_ble_eq_true rfl⟩ hN hS rfl hl.1 rfl (Nat.le_of_ble_eq_true rfl) dX12_below_1 ⟨Nat.zero_le _, Nat.zero_le _⟩ (fun r382 locs hp hS => ?_)
  rcases hp with ⟨rfl, hp⟩ | ⟨rfl, hp⟩
  · skip
    try simp only [rg, not_and, Int.not_le] at hp
    have hp383 := hp
    refine lv_if_eq (tgt := 21) hx hb dX12_below_4 (by decide) (fun c => absurd c (by decide)) (fun _ => ?_)
    refine lv_iload_n hx hb dX12_below_7 rfl (lv_at hl 2 rfl) ?_
    refine th_cSs (As := [.int x2]) (rest := []) (n := 1) (d := 1) ⟨hx, hb, hml, hown, hts⟩ (c_X12_isTime l s.heap x2) wd_1655 wd_1656 wd_13 wd_1657 (by decide +kernel) ⟨by rw [hR]; exact Nat.le_of_ble_eq_true rfl, by rw [hR]; exact Nat.le_of_ble_eq_true rfl⟩ hN hS rfl hl.1 rfl (Nat.le_of_ble_eq_true rfl) dX12_below_8 ⟨Nat.zero_le _, Nat.zero_le _⟩ (fun r384 locs hp hS => ?_)
    rcases hp with ⟨rfl, hp⟩ | ⟨rfl, hp⟩
    · skip
      try simp only [rg, not_and, Int.not_le] at hp
      have hp385 := hp
      refine lv_if_eq (tgt := 21) hx hb dX12_below_11 (by decide) (fun c => absurd c (by decide)) (fun _ => ?_)
      refine lv_iload_n hx hb dX12_below_14 rfl (lv_at hl 3 rfl) ?_
      refine th_cSs (As := [.int x3]) (rest := []) (n := 1) (d := 1) ⟨hx, hb, hml, hown, hts⟩ (c_X12_isTime l s.heap x3) wd_1655 wd_1656 wd_13 wd_1657 (by decide +kernel) ⟨by rw [hR]; exact Nat.le_of_ble_eq_true rfl, by rw [hR]; exact Nat.le_of_ble_eq_true rfl⟩ hN hS rfl hl.1 rfl (Nat.le_of_ble_eq_true rfl) dX12_below_15 ⟨Nat.zero_le _, Nat.zero_le _⟩ (fun r386 locs hp hS => ?_)
      rcases hp with ⟨rfl, hp⟩ | ⟨rfl, hp⟩
      · skip
        try simp only [rg, not_and, Int.not_le] at hp
        have hp387 := hp
        refine lv_if_ne (tgt := 23) hx hb dX12_below_18 (by decide) (fun _ => ?_) (fun c => absurd c (by decide))
        refine lv_aload_n hx hb dX12_below_23 rfl (lv_at hl 0 rfl) ?_
        refine mx_v (As := []) (rest := []) (n := 0) (d := 68) ⟨hx, hb, hml, hown, hts⟩ (c_X12_looks l E D G h0 hG0 ) wd_1455 wd_1457 wp_43 wd_13 wd_1458 (by decide +kernel) ⟨by rw [hR]; exact Nat.le_of_ble_eq_true rfl, by rw [hR]; exact Nat.le_of_ble_eq_true rfl⟩ hI hN hK hS hG0 (trivial) rfl hl.1 rfl (Nat.le_of_ble_eq_true rfl) dX12_below_24 ⟨Nat.zero_le _, Nat.zero_le _⟩ (fun H locs hI hp hS => ?_)
        refine lv_iconst (v := 1) hx hb dX12_below_27 (by decide) ?_
        refine lv_iload_n hx hb dX12_below_28 rfl (lv_at hl 1 rfl) ?_
        refine lv_ishl hx hb dX12_below_29 ?_
        refine lv_topi (fun v389 e390 => ?_)
        refine lv_istore (lv' := [(4, .int v389), (0, .ref h0), (1, .int x1), (2, .int x2), (3, .int x3)]) hx hb dX12_below_30 hl (by decide) rfl (fun ls hl => ?_)
        refine lv_iload_n hx hb dX12_below_32 rfl (lv_at hl 2 rfl) ?_
        refine lv_istore (lv' := [(5, .int x1), (4, .int v389), (0, .ref h0), (1, .int x1), (2, .int x2), (3, .int x3)]) hx hb dX12_below_33 hl (by decide) rfl (fun ls hl => ?_)
        refine lv_iload_n hx hb dX12_below_35 rfl (lv_at hl 4 rfl) ?_
        refine lv_istore (lv' := [(6, .int x2), (5, .int x1), (4, .int v389), (0, .ref h0), (1, .int x1), (2, .int x2), (3, .int x3)]) hx hb dX12_below_36 hl (by decide) rfl (fun ls hl => ?_)
        exact J_38 _ H locs ls x2 x1 v389  rfl (lv_sub hl [0, 1, 2, 3, 4, 5, 6] rfl) ⟨by omega, by omega⟩ ⟨by omega, by omega⟩ ⟨by omega, by omega⟩ ⟨by omega, by omega⟩ ⟨by omega, by omega⟩ hI hS
      · skip
        try simp only [rg, not_and, Int.not_le] at hp
        have hp391 := hp
        refine lv_if_ne (tgt := 23) hx hb dX12_below_18 (by decide) (fun c => absurd c (by decide)) (fun _ => ?_)
        exact J_21 s.heap locs ls   (lv_sub hl [0, 1, 2, 3] rfl)  hI hS
    · skip
      try simp only [rg, not_and, Int.not_le] at hp
      have hp392 := hp
      refine lv_if_eq (tgt := 21) hx hb dX12_below_11 (by decide) (fun _ => ?_) (fun c => absurd c (by decide))
      exact J_21 s.heap locs ls   (lv_sub hl [0, 1, 2, 3] rfl)  hI hS
  · skip
    try simp only [rg, not_and, Int.not_le] at hp
    have hp393 := hp
    refine lv_if_eq (tgt := 21) hx hb dX12_below_4 (by decide) (fun _ => ?_) (fun c => absurd c (by decide))
    exact J_21 s.heap locs ls   (lv_sub hl [0, 1, 2, 3] rfl)  hI hS
theorem dX12_sources_0g : (decode cX12_sources 0 = .ok (.iload_n 1, 1)) ∧ (decode cX12_sources 1 = .ok (.invokestatic 304, 3)) ∧ (decode cX12_sources 4 = .ok (.ifCond .eq 19, 3)) ∧ (decode cX12_sources 7 = .ok (.iload_n 2, 1)) ∧ (decode cX12_sources 8 = .ok (.invokestatic 298, 3)) ∧ (decode cX12_sources 11 = .ok (.ifCond .eq 12, 3)) ∧ (decode cX12_sources 14 = .ok (.iload_n 3, 1)) ∧ (decode cX12_sources 15 = .ok (.iconst 0, 1)) ∧ (decode cX12_sources 16 = .ok (.iload_n 2, 1)) ∧ (decode cX12_sources 17 = .ok (.invokestatic 103, 3)) := by decide +kernel
theorem dX12_sources_0 : decode cX12_sources 0 = .ok (.iload_n 1, 1) := dX12_sources_0g.1
theorem dX12_sources_1 : decode cX12_sources 1 = .ok (.invokestatic 304, 3) := dX12_sources_0g.2.1
theorem dX12_sources_4 : decode cX12_sources 4 = .ok (.ifCond .eq 19, 3) := dX12_sources_0g.2.2.1
theorem dX12_sources_7 : decode cX12_sources 7 = .ok (.iload_n 2, 1) := dX12_sources_0g.2.2.2.1
theorem dX12_sources_8 : decode cX12_sources 8 = .ok (.invokestatic 298, 3) := dX12_sources_0g.2.2.2.2.1
theorem dX12_sources_11 : decode cX12_sources 11 = .ok (.ifCond .eq 12, 3) := dX12_sources_0g.2.2.2.2.2.1
theorem dX12_sources_14 : decode cX12_sources 14 = .ok (.iload_n 3, 1) := dX12_sources_0g.2.2.2.2.2.2.1
theorem dX12_sources_15 : decode cX12_sources 15 = .ok (.iconst 0, 1) := dX12_sources_0g.2.2.2.2.2.2.2.1
theorem dX12_sources_16 : decode cX12_sources 16 = .ok (.iload_n 2, 1) := dX12_sources_0g.2.2.2.2.2.2.2.2.1
theorem dX12_sources_17 : decode cX12_sources 17 = .ok (.invokestatic 103, 3) := dX12_sources_0g.2.2.2.2.2.2.2.2.2
theorem dX12_sources_20g : (decode cX12_sources 20 = .ok (.ifCond .ne 5, 3)) ∧ (decode cX12_sources 23 = .ok (.iconst (-1), 1)) ∧ (decode cX12_sources 24 = .ok (.ireturn, 1)) ∧ (decode cX12_sources 25 = .ok (.aload_n 0, 1)) ∧ (decode cX12_sources 26 = .ok (.invokevirtual 138, 3)) ∧ (decode cX12_sources 29 = .ok (.iconst 0, 1)) ∧ (decode cX12_sources 30 = .ok (.istore 4, 2)) ∧ (decode cX12_sources 32 = .ok (.iconst 0, 1)) ∧ (decode cX12_sources 33 = .ok (.istore 5, 2)) ∧ (decode cX12_sources 35 = .ok (.iload 5, 2)) := by decide +kernel
theorem dX12_sources_20 : decode cX12_sources 20 = .ok (.ifCond .ne 5, 3) := dX12_sources_20g.1
theorem dX12_sources_23 : decode cX12_sources 23 = .ok (.iconst (-1), 1) := dX12_sources_20g.2.1
theorem dX12_sources_24 : decode cX12_sources 24 = .ok (.ireturn, 1) := dX12_sources_20g.2.2.1
theorem dX12_sources_25 : decode cX12_sources 25 = .ok (.aload_n 0, 1) := dX12_sources_20g.2.2.2.1
theorem dX12_sources_26 : decode cX12_sources 26 = .ok (.invokevirtual 138, 3) := dX12_sources_20g.2.2.2.2.1
theorem dX12_sources_29 : decode cX12_sources 29 = .ok (.iconst 0, 1) := dX12_sources_20g.2.2.2.2.2.1
theorem dX12_sources_30 : decode cX12_sources 30 = .ok (.istore 4, 2) := dX12_sources_20g.2.2.2.2.2.2.1
theorem dX12_sources_32 : decode cX12_sources 32 = .ok (.iconst 0, 1) := dX12_sources_20g.2.2.2.2.2.2.2.1
theorem dX12_sources_33 : decode cX12_sources 33 = .ok (.istore 5, 2) := dX12_sources_20g.2.2.2.2.2.2.2.2.1
theorem dX12_sources_35 : decode cX12_sources 35 = .ok (.iload 5, 2) := dX12_sources_20g.2.2.2.2.2.2.2.2.2
theorem dX12_sources_37g : (decode cX12_sources 37 = .ok (.bipush 24, 2)) ∧ (decode cX12_sources 39 = .ok (.if_icmp .ge 34, 3)) ∧ (decode cX12_sources 42 = .ok (.iload 4, 2)) ∧ (decode cX12_sources 44 = .ok (.aload_n 0, 1)) ∧ (decode cX12_sources 45 = .ok (.iload 5, 2)) ∧ (decode cX12_sources 47 = .ok (.iload_n 3, 1)) ∧ (decode cX12_sources 48 = .ok (.iload_n 2, 1)) ∧ (decode cX12_sources 49 = .ok (.invokevirtual 301, 3)) ∧ (decode cX12_sources 52 = .ok (.iload_n 1, 1)) ∧ (decode cX12_sources 53 = .ok (.if_icmp .ne 10, 3)) := by decide +kernel
theorem dX12_sources_37 : decode cX12_sources 37 = .ok (.bipush 24, 2) := dX12_sources_37g.1
theorem dX12_sources_39 : decode cX12_sources 39 = .ok (.if_icmp .ge 34, 3) := dX12_sources_37g.2.1
theorem dX12_sources_42 : decode cX12_sources 42 = .ok (.iload 4, 2) := dX12_sources_37g.2.2.1
theorem dX12_sources_44 : decode cX12_sources 44 = .ok (.aload_n 0, 1) := dX12_sources_37g.2.2.2.1
theorem dX12_sources_45 : decode cX12_sources 45 = .ok (.iload 5, 2) := dX12_sources_37g.2.2.2.2.1
theorem dX12_sources_47 : decode cX12_sources 47 = .ok (.iload_n 3, 1) := dX12_sources_37g.2.2.2.2.2.1
theorem dX12_sources_48 : decode cX12_sources 48 = .ok (.iload_n 2, 1) := dX12_sources_37g.2.2.2.2.2.2.1
theorem dX12_sources_49 : decode cX12_sources 49 = .ok (.invokevirtual 301, 3) := dX12_sources_37g.2.2.2.2.2.2.2.1
theorem dX12_sources_52 : decode cX12_sources 52 = .ok (.iload_n 1, 1) := dX12_sources_37g.2.2.2.2.2.2.2.2.1
theorem dX12_sources_53 : decode cX12_sources 53 = .ok (.if_icmp .ne 10, 3) := dX12_sources_37g.2.2.2.2.2.2.2.2.2
theorem dX12_sources_56g : (decode cX12_sources 56 = .ok (.iconst 1, 1)) ∧ (decode cX12_sources 57 = .ok (.iload 5, 2)) ∧ (decode cX12_sources 59 = .ok (.ishl, 1)) ∧ (decode cX12_sources 60 = .ok (.goto 4, 3)) ∧ (decode cX12_sources 63 = .ok (.iconst 0, 1)) ∧ (decode cX12_sources 64 = .ok (.ior, 1)) ∧ (decode cX12_sources 65 = .ok (.istore 4, 2)) ∧ (decode cX12_sources 67 = .ok (.iinc 5 1, 3)) ∧ (decode cX12_sources 70 = .ok (.goto (-35), 3)) ∧ (decode cX12_sources 73 = .ok (.iload 4, 2)) := by decide +kernel
theorem dX12_sources_56 : decode cX12_sources 56 = .ok (.iconst 1, 1) := dX12_sources_56g.1
theorem dX12_sources_57 : decode cX12_sources 57 = .ok (.iload 5, 2) := dX12_sources_56g.2.1
theorem dX12_sources_59 : decode cX12_sources 59 = .ok (.ishl, 1) := dX12_sources_56g.2.2.1
theorem dX12_sources_60 : decode cX12_sources 60 = .ok (.goto 4, 3) := dX12_sources_56g.2.2.2.1
theorem dX12_sources_63 : decode cX12_sources 63 = .ok (.iconst 0, 1) := dX12_sources_56g.2.2.2.2.1
theorem dX12_sources_64 : decode cX12_sources 64 = .ok (.ior, 1) := dX12_sources_56g.2.2.2.2.2.1
theorem dX12_sources_65 : decode cX12_sources 65 = .ok (.istore 4, 2) := dX12_sources_56g.2.2.2.2.2.2.1
theorem dX12_sources_67 : decode cX12_sources 67 = .ok (.iinc 5 1, 3) := dX12_sources_56g.2.2.2.2.2.2.2.1
theorem dX12_sources_70 : decode cX12_sources 70 = .ok (.goto (-35), 3) := dX12_sources_56g.2.2.2.2.2.2.2.2.1
theorem dX12_sources_73 : decode cX12_sources 73 = .ok (.iload 4, 2) := dX12_sources_56g.2.2.2.2.2.2.2.2.2
theorem dX12_sources_75 : decode cX12_sources 75 = .ok (.ireturn, 1) := by decide +kernel
set_option maxHeartbeats 4000000 in
set_option maxRecDepth 100000 in
theorem c_X12_sources (l : Launch) (E : Nat → Nat) (D : va_G) (G : th_G) (h0 : Nat) (hG0 : G h0 = some (10, 0)) (x1 : Int32) (x2 : Int32) (x3 : Int32) : Met l yX12_sources (tb (.code yX12_sources cX12_sources 6 (some .int))) (rm 69) (va_Pc [.ref h0, .int x1, .int x2, .int x3] (PX E D G (fun H => True))) (QXi E D G (fun r H => True)) 0 0 (th_A G) := by
  refine Met.ofW (cc := cX12_sources) (maxL := 6) (ret := (some .int)) (by decide) rfl ?_
  intro p e s m args below meth c s₁ B hml hv
  obtain ⟨hav, ⟨hI, hN, hK⟩, hX⟩ := hv
  have hx := B.exec
  have hb := B.bytes
  have hr := B.returns
  have hts := atoms_spec (ws := tb (.code yX12_sources cX12_sources 6 (some .int))) B.pre
  have hown : s.vm.findClass RX12 = some m.cls := findClass_of_methodNamed B.named
  have hlocks := B.notSynchronized
  have hS : va_S (th_A G) s.heap s.heap [] := va_S.rf
  have hl := lv_entry ([.ref h0, .int x1, .int x2, .int x3]) (n := 6) (Nat.le_of_ble_eq_true rfl)
  rw [show entryFrame m args 6 = entryFrame m ([.ref h0, .int x1, .int x2, .int x3] : List Value).toArray 6 from by rw [hav], lg_entry_eq]
  generalize (lg_sl ([.ref h0, .int x1, .int x2, .int x3]) ++ List.replicate (6 - (lg_sl ([.ref h0, .int x1, .int x2, .int x3])).length) Slot.unset).toArray = ls at hl ⊢
  have hl : lv_has ls 6 [(0, .ref h0), (1, .int x1), (2, .int x2), (3, .int x3)] := hl
  generalize hR : (headSpec (tb (.code yX12_sources cX12_sources 6 (some .int))) (rm 69)).room = R
  have hR := hR.symm
  generalize hQ : MQ below (QXi E D G (fun r H => True)) args s 0 0 (th_A G) = QF
  have hQ := hQ.symm
  have J_35 : ∀ (nn : Nat) (H : Heap) (locs : List Loc) (ls : Array Slot) (v609 : Int32) (v610 : Int32) , (Int.toNat (24 - v609.toInt) = nn) → lv_has ls 6 [(5, .int v609), (4, .int v610), (0, .ref h0), (1, .int x1), (2, .int x2), (3, .int x3)] → ((0 : Int) ≤ v609.toInt ∧ v609.toInt ≤ 24) → ((0 : Int) ≤ x1.toInt ∧ x1.toInt ≤ 24) → ((0 : Int) ≤ x2.toInt ∧ x2.toInt ≤ 96) → ((0 : Int) ≤ x3.toInt ∧ x3.toInt ≤ 96) → th_I (okM E) D G [] H → va_S (th_A G) s.heap H locs → W p l e R s m args below meth c H locs 0 0 QF (F0 m 35 ls []) := by
    intro nn
    induction nn using Nat.strongRecOn with
    | ind nn ih_35 =>
      intro H locs ls v609 v610  hm hl k611 k612 k613 k614 hI hS
      refine lv_iload hx hb dX12_sources_35 (lv_at hl 0 rfl) ?_
      refine lv_bipush (v := 24) hx hb dX12_sources_37 (by decide) ?_
      refine lv_icmp_ge (tgt := 73) hx hb dX12_sources_39 (by decide) (fun c615 => ?_) (fun c615 => ?_)
      · skip
        have k616 := iv_le (X := (24)) (Y := v609.toInt) (by decide) rfl c615
        refine lv_iload hx hb dX12_sources_73 (lv_at hl 1 rfl) ?_
        have hpost : True := trivial
        rw [hQ]
        exact W.iret (v := v610) hx hb hr (fun t ht hW => ⟨⟨v610, v610, rfl, rfl, ⟨by rw [ht]; exact hI, hN.warm hW, va_K.moved hW.alike hK⟩, by first | (rw [ht]; exact hpost) | exact hpost⟩, hS.F ht⟩) hS.2.2 dX12_sources_75
      · skip
        have k617 := iv_nle (X := (24)) (Y := v609.toInt) (by decide) rfl c615
        refine lv_iload hx hb dX12_sources_42 (lv_at hl 1 rfl) ?_
        refine lv_aload_n hx hb dX12_sources_44 rfl (lv_at hl 2 rfl) ?_
        refine lv_iload hx hb dX12_sources_45 (lv_at hl 0 rfl) ?_
        refine lv_iload_n hx hb dX12_sources_47 rfl (lv_at hl 5 rfl) ?_
        refine lv_iload_n hx hb dX12_sources_48 rfl (lv_at hl 4 rfl) ?_
        refine mr_i (As := [.int v609, .int x3, .int x2]) (rest := [.int v610]) (n := 3) (d := 0) ⟨hx, hb, hml, hown, hts⟩ (c_X12_floats l E D G H h0 hG0 v609 x3 x2 ⟨by omega, by omega⟩ (by omega) (by omega)) wd_1658 wd_1660 wp_77 wd_13 wd_1661 (by decide +kernel) ⟨by rw [hR]; exact Nat.le_of_ble_eq_true rfl, by rw [hR]; exact Nat.le_of_ble_eq_true rfl⟩ hI hN hK hS hG0 rfl hl.1 rfl (Nat.le_of_ble_eq_true rfl) dX12_sources_49 ⟨Nat.zero_le _, Nat.zero_le _⟩ (fun r618 locs hp hS => ?_)
        have hp619 := hp
        refine lv_iload_n hx hb dX12_sources_52 rfl (lv_at hl 3 rfl) ?_
        refine lv_icmp_ne (tgt := 63) hx hb dX12_sources_53 (by decide) (fun c620 => ?_) (fun c620 => ?_)
        · skip
          have k621 := iv_ne (X := r618.toInt) (Y := x1.toInt) rfl rfl c620
          refine lv_iconst (v := 0) hx hb dX12_sources_63 (by decide) ?_
          refine lv_ior hx hb dX12_sources_64 ?_
          refine lv_topi (fun v622 e623 => ?_)
          refine lv_istore (lv' := [(4, .int v622), (5, .int v609), (0, .ref h0), (1, .int x1), (2, .int x2), (3, .int x3)]) hx hb dX12_sources_65 hl (by decide) rfl (fun ls hl => ?_)
          obtain ⟨v624, e625⟩ : ∃ y : Int32, y = v609 + (1) := ⟨_, rfl⟩
          have tv624 : v624.toInt = v609.toInt + (1) := iv_add rfl (by decide) e625 (by omega) (by omega)
          refine lv_iinc (v := v624) (lv' := [(5, .int v624), (4, .int v622), (0, .ref h0), (1, .int x1), (2, .int x2), (3, .int x3)]) hx hb dX12_sources_67 hl (k := 1) rfl (by rw [e625]; rfl) (by decide) rfl (fun ls hl => ?_)
          refine lv_goto (tgt := 35) hx hb dX12_sources_70 (by decide) ?_
          exact ih_35 _ (by omega) H locs ls v624 v622  rfl (lv_sub hl [0, 1, 2, 3, 4, 5] rfl) ⟨by omega, by omega⟩ ⟨by omega, by omega⟩ ⟨by omega, by omega⟩ ⟨by omega, by omega⟩ hI hS
        · skip
          have k626 := iv_eq (X := r618.toInt) (Y := x1.toInt) rfl rfl c620
          refine lv_iconst (v := 1) hx hb dX12_sources_56 (by decide) ?_
          refine lv_iload hx hb dX12_sources_57 (lv_at hl 0 rfl) ?_
          refine lv_ishl hx hb dX12_sources_59 ?_
          refine lv_topi (fun v627 e628 => ?_)
          refine lv_goto (tgt := 64) hx hb dX12_sources_60 (by decide) ?_
          refine lv_ior hx hb dX12_sources_64 ?_
          refine lv_topi (fun v629 e630 => ?_)
          refine lv_istore (lv' := [(4, .int v629), (5, .int v609), (0, .ref h0), (1, .int x1), (2, .int x2), (3, .int x3)]) hx hb dX12_sources_65 hl (by decide) rfl (fun ls hl => ?_)
          obtain ⟨v631, e632⟩ : ∃ y : Int32, y = v609 + (1) := ⟨_, rfl⟩
          have tv631 : v631.toInt = v609.toInt + (1) := iv_add rfl (by decide) e632 (by omega) (by omega)
          refine lv_iinc (v := v631) (lv' := [(5, .int v631), (4, .int v629), (0, .ref h0), (1, .int x1), (2, .int x2), (3, .int x3)]) hx hb dX12_sources_67 hl (k := 1) rfl (by rw [e632]; rfl) (by decide) rfl (fun ls hl => ?_)
          refine lv_goto (tgt := 35) hx hb dX12_sources_70 (by decide) ?_
          exact ih_35 _ (by omega) H locs ls v631 v629  rfl (lv_sub hl [0, 1, 2, 3, 4, 5] rfl) ⟨by omega, by omega⟩ ⟨by omega, by omega⟩ ⟨by omega, by omega⟩ ⟨by omega, by omega⟩ hI hS
  have J_23 : ∀ (H : Heap) (locs : List Loc) (ls : Array Slot)  , lv_has ls 6 [(0, .ref h0), (1, .int x1), (2, .int x2), (3, .int x3)] → th_I (okM E) D G [] H → va_S (th_A G) s.heap H locs → W p l e R s m args below meth c H locs 0 0 QF (F0 m 23 ls []) := by
    intro H locs ls   hl  hI hS
    refine lv_iconst (v := (-1)) hx hb dX12_sources_23 (by decide) ?_
    have hpost : True := trivial
    rw [hQ]
    exact W.iret (v := (-1)) hx hb hr (fun t ht hW => ⟨⟨(-1), (-1), rfl, rfl, ⟨by rw [ht]; exact hI, hN.warm hW, va_K.moved hW.alike hK⟩, by first | (rw [ht]; exact hpost) | exact hpost⟩, hS.F ht⟩) hS.2.2 dX12_sources_24
  refine lv_iload_n hx hb dX12_sources_0 rfl (lv_at hl 1 rfl) ?_
  refine th_cSs (As := [.int x1]) (rest := []) (n := 1) (d := 1) ⟨hx, hb, hml, hown, hts⟩ (c_X12_isPlace l s.heap x1) wd_1670 wd_1671 wd_13 wd_1672 (by decide +kernel) ⟨by rw [hR]; exact Nat.le_of_ble_eq_true rfl, by rw [hR]; exact Nat.le_of_ble_eq_true rfl⟩ hN hS rfl hl.1 rfl (Nat.le_of_ble_eq_true rfl) dX12_sources_1 ⟨Nat.zero_le _, Nat.zero_le _⟩ (fun r633 locs hp hS => ?_)
  rcases hp with ⟨rfl, hp⟩ | ⟨rfl, hp⟩
  · skip
    try simp only [rg, not_and, Int.not_le] at hp
    have hp634 := hp
    refine lv_if_eq (tgt := 23) hx hb dX12_sources_4 (by decide) (fun c => absurd c (by decide)) (fun _ => ?_)
    refine lv_iload_n hx hb dX12_sources_7 rfl (lv_at hl 2 rfl) ?_
    refine th_cSs (As := [.int x2]) (rest := []) (n := 1) (d := 1) ⟨hx, hb, hml, hown, hts⟩ (c_X12_isTime l s.heap x2) wd_1655 wd_1656 wd_13 wd_1657 (by decide +kernel) ⟨by rw [hR]; exact Nat.le_of_ble_eq_true rfl, by rw [hR]; exact Nat.le_of_ble_eq_true rfl⟩ hN hS rfl hl.1 rfl (Nat.le_of_ble_eq_true rfl) dX12_sources_8 ⟨Nat.zero_le _, Nat.zero_le _⟩ (fun r635 locs hp hS => ?_)
    rcases hp with ⟨rfl, hp⟩ | ⟨rfl, hp⟩
    · skip
      try simp only [rg, not_and, Int.not_le] at hp
      have hp636 := hp
      refine lv_if_eq (tgt := 23) hx hb dX12_sources_11 (by decide) (fun c => absurd c (by decide)) (fun _ => ?_)
      refine lv_iload_n hx hb dX12_sources_14 rfl (lv_at hl 3 rfl) ?_
      refine lv_iconst (v := 0) hx hb dX12_sources_15 (by decide) ?_
      refine lv_iload_n hx hb dX12_sources_16 rfl (lv_at hl 2 rfl) ?_
      refine th_cSs (As := [.int x3, .int 0, .int x2]) (rest := []) (n := 3) (d := 0) ⟨hx, hb, hml, hown, hts⟩ (c_X12_lies l s.heap x3 0 x2) wd_1395 wd_1396 wd_13 wd_1397 (by decide +kernel) ⟨by rw [hR]; exact Nat.le_of_ble_eq_true rfl, by rw [hR]; exact Nat.le_of_ble_eq_true rfl⟩ hN hS rfl hl.1 rfl (Nat.le_of_ble_eq_true rfl) dX12_sources_17 ⟨Nat.zero_le _, Nat.zero_le _⟩ (fun r637 locs hp hS => ?_)
      rcases hp with ⟨rfl, hp⟩ | ⟨rfl, hp⟩
      · skip
        try simp only [rg, not_and, Int.not_le] at hp
        have hp638 := hp
        try rw [show (0 : Int32).toInt = 0 from by decide] at hp638
        refine lv_if_ne (tgt := 25) hx hb dX12_sources_20 (by decide) (fun _ => ?_) (fun c => absurd c (by decide))
        refine lv_aload_n hx hb dX12_sources_25 rfl (lv_at hl 0 rfl) ?_
        refine mx_v (As := []) (rest := []) (n := 0) (d := 68) ⟨hx, hb, hml, hown, hts⟩ (c_X12_looks l E D G h0 hG0 ) wd_1455 wd_1457 wp_43 wd_13 wd_1458 (by decide +kernel) ⟨by rw [hR]; exact Nat.le_of_ble_eq_true rfl, by rw [hR]; exact Nat.le_of_ble_eq_true rfl⟩ hI hN hK hS hG0 (trivial) rfl hl.1 rfl (Nat.le_of_ble_eq_true rfl) dX12_sources_26 ⟨Nat.zero_le _, Nat.zero_le _⟩ (fun H locs hI hp hS => ?_)
        refine lv_iconst (v := 0) hx hb dX12_sources_29 (by decide) ?_
        refine lv_istore (lv' := [(4, .int 0), (0, .ref h0), (1, .int x1), (2, .int x2), (3, .int x3)]) hx hb dX12_sources_30 hl (by decide) rfl (fun ls hl => ?_)
        refine lv_iconst (v := 0) hx hb dX12_sources_32 (by decide) ?_
        refine lv_istore (lv' := [(5, .int 0), (4, .int 0), (0, .ref h0), (1, .int x1), (2, .int x2), (3, .int x3)]) hx hb dX12_sources_33 hl (by decide) rfl (fun ls hl => ?_)
        have zl : (0 : Int32).toInt = 0 := by decide
        exact J_35 _ H locs ls 0 0  rfl (lv_sub hl [0, 1, 2, 3, 4, 5] rfl) ⟨by decide, by decide⟩ ⟨by omega, by omega⟩ ⟨by omega, by omega⟩ ⟨by omega, by omega⟩ hI hS
      · skip
        try simp only [rg, not_and, Int.not_le] at hp
        have hp640 := hp
        try rw [show (0 : Int32).toInt = 0 from by decide] at hp640
        refine lv_if_ne (tgt := 25) hx hb dX12_sources_20 (by decide) (fun c => absurd c (by decide)) (fun _ => ?_)
        exact J_23 s.heap locs ls   (lv_sub hl [0, 1, 2, 3] rfl)  hI hS
    · skip
      try simp only [rg, not_and, Int.not_le] at hp
      have hp641 := hp
      refine lv_if_eq (tgt := 23) hx hb dX12_sources_11 (by decide) (fun _ => ?_) (fun c => absurd c (by decide))
      exact J_23 s.heap locs ls   (lv_sub hl [0, 1, 2, 3] rfl)  hI hS
  · skip
    try simp only [rg, not_and, Int.not_le] at hp
    have hp642 := hp
    refine lv_if_eq (tgt := 23) hx hb dX12_sources_4 (by decide) (fun _ => ?_) (fun c => absurd c (by decide))
    exact J_23 s.heap locs ls   (lv_sub hl [0, 1, 2, 3] rfl)  hI hS
theorem dX12_boat_0g : (decode cX12_boat 0 = .ok (.iload_n 1, 1)) ∧ (decode cX12_boat 1 = .ok (.invokestatic 118, 3)) ∧ (decode cX12_boat 4 = .ok (.ifCond .eq 10, 3)) ∧ (decode cX12_boat 7 = .ok (.iload_n 2, 1)) ∧ (decode cX12_boat 8 = .ok (.invokestatic 114, 3)) ∧ (decode cX12_boat 11 = .ok (.ifCond .ne 9, 3)) ∧ (decode cX12_boat 14 = .ok (.aload_n 0, 1)) ∧ (decode cX12_boat 15 = .ok (.iconst (-1), 1)) ∧ (decode cX12_boat 16 = .ok (.invokevirtual 107, 3)) ∧ (decode cX12_boat 19 = .ok (.ireturn, 1)) := by decide +kernel
theorem dX12_boat_0 : decode cX12_boat 0 = .ok (.iload_n 1, 1) := dX12_boat_0g.1
theorem dX12_boat_1 : decode cX12_boat 1 = .ok (.invokestatic 118, 3) := dX12_boat_0g.2.1
theorem dX12_boat_4 : decode cX12_boat 4 = .ok (.ifCond .eq 10, 3) := dX12_boat_0g.2.2.1
theorem dX12_boat_7 : decode cX12_boat 7 = .ok (.iload_n 2, 1) := dX12_boat_0g.2.2.2.1
theorem dX12_boat_8 : decode cX12_boat 8 = .ok (.invokestatic 114, 3) := dX12_boat_0g.2.2.2.2.1
theorem dX12_boat_11 : decode cX12_boat 11 = .ok (.ifCond .ne 9, 3) := dX12_boat_0g.2.2.2.2.2.1
theorem dX12_boat_14 : decode cX12_boat 14 = .ok (.aload_n 0, 1) := dX12_boat_0g.2.2.2.2.2.2.1
theorem dX12_boat_15 : decode cX12_boat 15 = .ok (.iconst (-1), 1) := dX12_boat_0g.2.2.2.2.2.2.2.1
theorem dX12_boat_16 : decode cX12_boat 16 = .ok (.invokevirtual 107, 3) := dX12_boat_0g.2.2.2.2.2.2.2.2.1
theorem dX12_boat_19 : decode cX12_boat 19 = .ok (.ireturn, 1) := dX12_boat_0g.2.2.2.2.2.2.2.2.2
theorem dX12_boat_20g : (decode cX12_boat 20 = .ok (.aload_n 0, 1)) ∧ (decode cX12_boat 21 = .ok (.getfield 20, 3)) ∧ (decode cX12_boat 24 = .ok (.sipush 310, 3)) ∧ (decode cX12_boat 27 = .ok (.iaload, 1)) ∧ (decode cX12_boat 28 = .ok (.bipush 6, 2)) ∧ (decode cX12_boat 30 = .ok (.if_icmp .ne 10, 3)) ∧ (decode cX12_boat 33 = .ok (.aload_n 0, 1)) ∧ (decode cX12_boat 34 = .ok (.bipush (-5), 2)) ∧ (decode cX12_boat 36 = .ok (.invokevirtual 107, 3)) ∧ (decode cX12_boat 39 = .ok (.ireturn, 1)) := by decide +kernel
theorem dX12_boat_20 : decode cX12_boat 20 = .ok (.aload_n 0, 1) := dX12_boat_20g.1
theorem dX12_boat_21 : decode cX12_boat 21 = .ok (.getfield 20, 3) := dX12_boat_20g.2.1
theorem dX12_boat_24 : decode cX12_boat 24 = .ok (.sipush 310, 3) := dX12_boat_20g.2.2.1
theorem dX12_boat_27 : decode cX12_boat 27 = .ok (.iaload, 1) := dX12_boat_20g.2.2.2.1
theorem dX12_boat_28 : decode cX12_boat 28 = .ok (.bipush 6, 2) := dX12_boat_20g.2.2.2.2.1
theorem dX12_boat_30 : decode cX12_boat 30 = .ok (.if_icmp .ne 10, 3) := dX12_boat_20g.2.2.2.2.2.1
theorem dX12_boat_33 : decode cX12_boat 33 = .ok (.aload_n 0, 1) := dX12_boat_20g.2.2.2.2.2.2.1
theorem dX12_boat_34 : decode cX12_boat 34 = .ok (.bipush (-5), 2) := dX12_boat_20g.2.2.2.2.2.2.2.1
theorem dX12_boat_36 : decode cX12_boat 36 = .ok (.invokevirtual 107, 3) := dX12_boat_20g.2.2.2.2.2.2.2.2.1
theorem dX12_boat_39 : decode cX12_boat 39 = .ok (.ireturn, 1) := dX12_boat_20g.2.2.2.2.2.2.2.2.2
theorem dX12_boat_40g : (decode cX12_boat 40 = .ok (.aload_n 0, 1)) ∧ (decode cX12_boat 41 = .ok (.aload_n 0, 1)) ∧ (decode cX12_boat 42 = .ok (.sipush 136, 3)) ∧ (decode cX12_boat 45 = .ok (.sipush 310, 3)) ∧ (decode cX12_boat 48 = .ok (.iconst 4, 1)) ∧ (decode cX12_boat 49 = .ok (.iload_n 1, 1)) ∧ (decode cX12_boat 50 = .ok (.iload_n 2, 1)) ∧ (decode cX12_boat 51 = .ok (.iconst 0, 1)) ∧ (decode cX12_boat 52 = .ok (.iconst (-1), 1)) ∧ (decode cX12_boat 53 = .ok (.invokevirtual 125, 3)) := by decide +kernel
theorem dX12_boat_40 : decode cX12_boat 40 = .ok (.aload_n 0, 1) := dX12_boat_40g.1
theorem dX12_boat_41 : decode cX12_boat 41 = .ok (.aload_n 0, 1) := dX12_boat_40g.2.1
theorem dX12_boat_42 : decode cX12_boat 42 = .ok (.sipush 136, 3) := dX12_boat_40g.2.2.1
theorem dX12_boat_45 : decode cX12_boat 45 = .ok (.sipush 310, 3) := dX12_boat_40g.2.2.2.1
theorem dX12_boat_48 : decode cX12_boat 48 = .ok (.iconst 4, 1) := dX12_boat_40g.2.2.2.2.1
theorem dX12_boat_49 : decode cX12_boat 49 = .ok (.iload_n 1, 1) := dX12_boat_40g.2.2.2.2.2.1
theorem dX12_boat_50 : decode cX12_boat 50 = .ok (.iload_n 2, 1) := dX12_boat_40g.2.2.2.2.2.2.1
theorem dX12_boat_51 : decode cX12_boat 51 = .ok (.iconst 0, 1) := dX12_boat_40g.2.2.2.2.2.2.2.1
theorem dX12_boat_52 : decode cX12_boat 52 = .ok (.iconst (-1), 1) := dX12_boat_40g.2.2.2.2.2.2.2.2.1
theorem dX12_boat_53 : decode cX12_boat 53 = .ok (.invokevirtual 125, 3) := dX12_boat_40g.2.2.2.2.2.2.2.2.2
theorem dX12_boat_56g : (decode cX12_boat 56 = .ok (.iconst 1, 1)) ∧ (decode cX12_boat 57 = .ok (.isub, 1)) ∧ (decode cX12_boat 58 = .ok (.invokevirtual 111, 3)) ∧ (decode cX12_boat 61 = .ok (.ireturn, 1)) := by decide +kernel
theorem dX12_boat_56 : decode cX12_boat 56 = .ok (.iconst 1, 1) := dX12_boat_56g.1
theorem dX12_boat_57 : decode cX12_boat 57 = .ok (.isub, 1) := dX12_boat_56g.2.1
theorem dX12_boat_58 : decode cX12_boat 58 = .ok (.invokevirtual 111, 3) := dX12_boat_56g.2.2.1
theorem dX12_boat_61 : decode cX12_boat 61 = .ok (.ireturn, 1) := dX12_boat_56g.2.2.2
set_option maxHeartbeats 4000000 in
set_option maxRecDepth 100000 in
theorem c_X12_boat (l : Launch) (E : Nat → Nat) (D : va_G) (G : th_G) (h0 : Nat) (hG0 : G h0 = some (10, 0)) (x1 : Int32) (x2 : Int32) : Met l yX12_boat (tb (.code yX12_boat cX12_boat 3 (some .int))) (rm 2) (va_Pc [.ref h0, .int x1, .int x2] (PX E D G (fun H => True))) (QXi E D G (fun r H => True)) 0 0 (th_A G) := by
  refine Met.ofW (cc := cX12_boat) (maxL := 3) (ret := (some .int)) (by decide) rfl ?_
  intro p e s m args below meth c s₁ B hml hv
  obtain ⟨hav, ⟨hI, hN, hK⟩, hX⟩ := hv
  have hx := B.exec
  have hb := B.bytes
  have hr := B.returns
  have hts := atoms_spec (ws := tb (.code yX12_boat cX12_boat 3 (some .int))) B.pre
  have hown : s.vm.findClass RX12 = some m.cls := findClass_of_methodNamed B.named
  have hlocks := B.notSynchronized
  have hS : va_S (th_A G) s.heap s.heap [] := va_S.rf
  have hl := lv_entry ([.ref h0, .int x1, .int x2]) (n := 3) (Nat.le_of_ble_eq_true rfl)
  rw [show entryFrame m args 3 = entryFrame m ([.ref h0, .int x1, .int x2] : List Value).toArray 3 from by rw [hav], lg_entry_eq]
  generalize (lg_sl ([.ref h0, .int x1, .int x2]) ++ List.replicate (3 - (lg_sl ([.ref h0, .int x1, .int x2])).length) Slot.unset).toArray = ls at hl ⊢
  have hl : lv_has ls 3 [(0, .ref h0), (1, .int x1), (2, .int x2)] := hl
  generalize hR : (headSpec (tb (.code yX12_boat cX12_boat 3 (some .int))) (rm 2)).room = R
  have hR := hR.symm
  generalize hQ : MQ below (QXi E D G (fun r H => True)) args s 0 0 (th_A G) = QF
  have hQ := hQ.symm
  have J_14 : ∀ (H : Heap) (locs : List Loc) (ls : Array Slot)  , lv_has ls 3 [(0, .ref h0), (1, .int x1), (2, .int x2)] → th_I (okM E) D G [] H → va_S (th_A G) s.heap H locs → W p l e R s m args below meth c H locs 0 0 QF (F0 m 14 ls []) := by
    intro H locs ls   hl  hI hS
    refine lv_aload_n hx hb dX12_boat_14 rfl (lv_at hl 0 rfl) ?_
    refine lv_iconst (v := (-1)) hx hb dX12_boat_15 (by decide) ?_
    refine mx_i (As := [.int (-1)]) (rest := []) (n := 1) (d := 0) ⟨hx, hb, hml, hown, hts⟩ (c_X12_refuses l E D G h0 hG0 (-1) ⟨by decide, by decide⟩) wd_1398 wd_1400 wp_40 wd_13 wd_1401 (by decide +kernel) ⟨by rw [hR]; exact Nat.le_of_ble_eq_true rfl, by rw [hR]; exact Nat.le_of_ble_eq_true rfl⟩ hI hN hK hS hG0 (trivial) rfl hl.1 rfl (Nat.le_of_ble_eq_true rfl) dX12_boat_16 ⟨Nat.zero_le _, Nat.zero_le _⟩ (fun r192 H locs hI hp hS => ?_)
    obtain rfl := hp.symm
    have hpost : True := trivial
    rw [hQ]
    exact W.iret (v := (-1)) hx hb hr (fun t ht hW => ⟨⟨(-1), (-1), rfl, rfl, ⟨by rw [ht]; exact hI, hN.warm hW, va_K.moved hW.alike hK⟩, by first | (rw [ht]; exact hpost) | exact hpost⟩, hS.F ht⟩) hS.2.2 dX12_boat_19
  refine lv_iload_n hx hb dX12_boat_0 rfl (lv_at hl 1 rfl) ?_
  refine th_cSs (As := [.int x1]) (rest := []) (n := 1) (d := 1) ⟨hx, hb, hml, hown, hts⟩ (c_X12_isCell l s.heap x1) wd_1414 wd_1415 wd_13 wd_1416 (by decide +kernel) ⟨by rw [hR]; exact Nat.le_of_ble_eq_true rfl, by rw [hR]; exact Nat.le_of_ble_eq_true rfl⟩ hN hS rfl hl.1 rfl (Nat.le_of_ble_eq_true rfl) dX12_boat_1 ⟨Nat.zero_le _, Nat.zero_le _⟩ (fun r193 locs hp hS => ?_)
  rcases hp with ⟨rfl, hp⟩ | ⟨rfl, hp⟩
  · skip
    try simp only [rg, not_and, Int.not_le] at hp
    have hp194 := hp
    refine lv_if_eq (tgt := 14) hx hb dX12_boat_4 (by decide) (fun c => absurd c (by decide)) (fun _ => ?_)
    refine lv_iload_n hx hb dX12_boat_7 rfl (lv_at hl 2 rfl) ?_
    refine th_cSs (As := [.int x2]) (rest := []) (n := 1) (d := 1) ⟨hx, hb, hml, hown, hts⟩ (c_X12_isHour l s.heap x2) wd_1428 wd_1429 wd_13 wd_1430 (by decide +kernel) ⟨by rw [hR]; exact Nat.le_of_ble_eq_true rfl, by rw [hR]; exact Nat.le_of_ble_eq_true rfl⟩ hN hS rfl hl.1 rfl (Nat.le_of_ble_eq_true rfl) dX12_boat_8 ⟨Nat.zero_le _, Nat.zero_le _⟩ (fun r195 locs hp hS => ?_)
    rcases hp with ⟨rfl, hp⟩ | ⟨rfl, hp⟩
    · skip
      try simp only [rg, not_and, Int.not_le] at hp
      have hp196 := hp
      refine lv_if_ne (tgt := 20) hx hb dX12_boat_11 (by decide) (fun _ => ?_) (fun c => absurd c (by decide))
      refine lv_aload_n hx hb dX12_boat_20 rfl (lv_at hl 0 rfl) ?_
      refine gmA hx hb hts inT12 hown hK hI List.not_mem_nil hG0 3 (by decide) (hts _ (tb_c wd_1236)) rfl rfl dX12_boat_21 (fun a197 hq198 hf199 => ?_)
      refine lv_sipush (v := 310) hx hb dX12_boat_24 (by decide) ?_
      obtain ⟨F200, hA201, hP202⟩ := om_1 hI hq198 List.not_mem_nil
      refine th_iald hx hb hK hA201 0 rfl (iv_in (X := (310)) (by decide) (by omega) (by omega)) dX12_boat_27 (fun v203 e204 => ?_)
      have k205 := kg_m310 (kOk.get (i := 310) hP202 e204 (X := (310)) (by decide) (by omega) (by omega)) (by omega) (by omega) (by omega)
      refine lv_bipush (v := 6) hx hb dX12_boat_28 (by decide) ?_
      refine lv_icmp_ne (tgt := 40) hx hb dX12_boat_30 (by decide) (fun c206 => ?_) (fun c206 => ?_)
      · skip
        have k207 := iv_ne (X := v203.toInt) (Y := (6)) rfl (by decide) c206
        refine lv_aload_n hx hb dX12_boat_40 rfl (lv_at hl 0 rfl) ?_
        refine lv_aload_n hx hb dX12_boat_41 rfl (lv_at hl 0 rfl) ?_
        refine lv_sipush (v := 136) hx hb dX12_boat_42 (by decide) ?_
        refine lv_sipush (v := 310) hx hb dX12_boat_45 (by decide) ?_
        refine lv_iconst (v := 4) hx hb dX12_boat_48 (by decide) ?_
        refine lv_iload_n hx hb dX12_boat_49 rfl (lv_at hl 1 rfl) ?_
        refine lv_iload_n hx hb dX12_boat_50 rfl (lv_at hl 2 rfl) ?_
        refine lv_iconst (v := 0) hx hb dX12_boat_51 (by decide) ?_
        refine lv_iconst (v := (-1)) hx hb dX12_boat_52 (by decide) ?_
        refine mx_i (As := [.int 136, .int 310, .int 4, .int x1, .int x2, .int 0, .int (-1)]) (rest := [.ref h0]) (n := 7) (d := 0) ⟨hx, hb, hml, hown, hts⟩ (c_X12_comesBehind_310 l E D G h0 hG0 x1 x2 0 (-1) ⟨by omega, by omega⟩ ⟨by omega, by omega⟩ F200 hP202 (lt_of_rd e204 rfl (by omega))) wd_1435 wd_1437 wp_42 wd_13 wd_1438 (by decide +kernel) ⟨by rw [hR]; exact Nat.le_of_ble_eq_true rfl, by rw [hR]; exact Nat.le_of_ble_eq_true rfl⟩ hI hN hK hS hG0 (⟨a197, hf199, hq198, hA201⟩) rfl hl.1 rfl (Nat.le_of_ble_eq_true rfl) dX12_boat_53 ⟨Nat.zero_le _, Nat.zero_le _⟩ (fun r208 H locs hI hp hS => ?_)
        refine lv_iconst (v := 1) hx hb dX12_boat_56 (by decide) ?_
        refine lv_isub hx hb dX12_boat_57 ?_
        refine lv_topi (fun v209 e210 => ?_)
        try have tv209 : v209.toInt = r208.toInt - (1) := iv_sub rfl (by decide) e210 (by omega) (by omega)
        refine mx_i (As := [.int v209]) (rest := []) (n := 1) (d := 0) ⟨hx, hb, hml, hown, hts⟩ (c_X12_good l E D G h0 hG0 v209) wd_1402 wd_1404 wp_41 wd_13 wd_1405 (by decide +kernel) ⟨by rw [hR]; exact Nat.le_of_ble_eq_true rfl, by rw [hR]; exact Nat.le_of_ble_eq_true rfl⟩ hI hN hK hS hG0 (trivial) rfl hl.1 rfl (Nat.le_of_ble_eq_true rfl) dX12_boat_58 ⟨Nat.zero_le _, Nat.zero_le _⟩ (fun r211 H locs hI hp hS => ?_)
        obtain rfl := hp.symm
        have hpost : True := trivial
        rw [hQ]
        exact W.iret (v := v209) hx hb hr (fun t ht hW => ⟨⟨v209, v209, rfl, rfl, ⟨by rw [ht]; exact hI, hN.warm hW, va_K.moved hW.alike hK⟩, by first | (rw [ht]; exact hpost) | exact hpost⟩, hS.F ht⟩) hS.2.2 dX12_boat_61
      · skip
        have k212 := iv_eq (X := v203.toInt) (Y := (6)) rfl (by decide) c206
        refine lv_aload_n hx hb dX12_boat_33 rfl (lv_at hl 0 rfl) ?_
        refine lv_bipush (v := (-5)) hx hb dX12_boat_34 (by decide) ?_
        refine mx_i (As := [.int (-5)]) (rest := []) (n := 1) (d := 0) ⟨hx, hb, hml, hown, hts⟩ (c_X12_refuses l E D G h0 hG0 (-5) ⟨by decide, by decide⟩) wd_1398 wd_1400 wp_40 wd_13 wd_1401 (by decide +kernel) ⟨by rw [hR]; exact Nat.le_of_ble_eq_true rfl, by rw [hR]; exact Nat.le_of_ble_eq_true rfl⟩ hI hN hK hS hG0 (trivial) rfl hl.1 rfl (Nat.le_of_ble_eq_true rfl) dX12_boat_36 ⟨Nat.zero_le _, Nat.zero_le _⟩ (fun r213 H locs hI hp hS => ?_)
        obtain rfl := hp.symm
        have hpost : True := trivial
        rw [hQ]
        exact W.iret (v := (-5)) hx hb hr (fun t ht hW => ⟨⟨(-5), (-5), rfl, rfl, ⟨by rw [ht]; exact hI, hN.warm hW, va_K.moved hW.alike hK⟩, by first | (rw [ht]; exact hpost) | exact hpost⟩, hS.F ht⟩) hS.2.2 dX12_boat_39
    · skip
      try simp only [rg, not_and, Int.not_le] at hp
      have hp214 := hp
      refine lv_if_ne (tgt := 20) hx hb dX12_boat_11 (by decide) (fun c => absurd c (by decide)) (fun _ => ?_)
      exact J_14 s.heap locs ls   (lv_sub hl [0, 1, 2] rfl)  hI hS
  · skip
    try simp only [rg, not_and, Int.not_le] at hp
    have hp215 := hp
    refine lv_if_eq (tgt := 14) hx hb dX12_boat_4 (by decide) (fun _ => ?_) (fun c => absurd c (by decide))
    exact J_14 s.heap locs ls   (lv_sub hl [0, 1, 2] rfl)  hI hS
theorem dX12_isBoat_0g : (decode cX12_isBoat 0 = .ok (.iload_n 1, 1)) ∧ (decode cX12_isBoat 1 = .ok (.iconst 0, 1)) ∧ (decode cX12_isBoat 2 = .ok (.aload_n 0, 1)) ∧ (decode cX12_isBoat 3 = .ok (.getfield 20, 3)) ∧ (decode cX12_isBoat 6 = .ok (.sipush 310, 3)) ∧ (decode cX12_isBoat 9 = .ok (.iaload, 1)) ∧ (decode cX12_isBoat 10 = .ok (.iconst 1, 1)) ∧ (decode cX12_isBoat 11 = .ok (.isub, 1)) ∧ (decode cX12_isBoat 12 = .ok (.invokestatic 103, 3)) ∧ (decode cX12_isBoat 15 = .ok (.ireturn, 1)) := by decide +kernel
theorem dX12_isBoat_0 : decode cX12_isBoat 0 = .ok (.iload_n 1, 1) := dX12_isBoat_0g.1
theorem dX12_isBoat_1 : decode cX12_isBoat 1 = .ok (.iconst 0, 1) := dX12_isBoat_0g.2.1
theorem dX12_isBoat_2 : decode cX12_isBoat 2 = .ok (.aload_n 0, 1) := dX12_isBoat_0g.2.2.1
theorem dX12_isBoat_3 : decode cX12_isBoat 3 = .ok (.getfield 20, 3) := dX12_isBoat_0g.2.2.2.1
theorem dX12_isBoat_6 : decode cX12_isBoat 6 = .ok (.sipush 310, 3) := dX12_isBoat_0g.2.2.2.2.1
theorem dX12_isBoat_9 : decode cX12_isBoat 9 = .ok (.iaload, 1) := dX12_isBoat_0g.2.2.2.2.2.1
theorem dX12_isBoat_10 : decode cX12_isBoat 10 = .ok (.iconst 1, 1) := dX12_isBoat_0g.2.2.2.2.2.2.1
theorem dX12_isBoat_11 : decode cX12_isBoat 11 = .ok (.isub, 1) := dX12_isBoat_0g.2.2.2.2.2.2.2.1
theorem dX12_isBoat_12 : decode cX12_isBoat 12 = .ok (.invokestatic 103, 3) := dX12_isBoat_0g.2.2.2.2.2.2.2.2.1
theorem dX12_isBoat_15 : decode cX12_isBoat 15 = .ok (.ireturn, 1) := dX12_isBoat_0g.2.2.2.2.2.2.2.2.2
set_option maxHeartbeats 4000000 in
set_option maxRecDepth 100000 in
theorem c_X12_isBoat (l : Launch) (E : Nat → Nat) (D : va_G) (G : th_G) (H0 : Heap) (h0 : Nat) (hG0 : G h0 = some (10, 0)) (x1 : Int32) : Met l yX12_isBoat (tb (.code yX12_isBoat cX12_isBoat 2 (some .boolean))) (rm 1) (va_Pc [.ref h0, .int x1] (PR E D G H0)) (QS H0 (fun r => ((r : Int32) = 1 ∧ (0 ≤ x1.toInt ∧ x1.toInt ≤ 5)) ∨ ((r : Int32) = 0 ∧ True))) 0 0 (fun _ => False) := by
  refine Met.ofW (cc := cX12_isBoat) (maxL := 2) (ret := (some .boolean)) (by decide) rfl ?_
  intro p e s m args below meth c s₁ B hml hv
  obtain ⟨hav, rfl, hI, hN, hK⟩ := hv
  have hx := B.exec
  have hb := B.bytes
  have hr := B.returns
  have hts := atoms_spec (ws := tb (.code yX12_isBoat cX12_isBoat 2 (some .boolean))) B.pre
  have hown : s.vm.findClass RX12 = some m.cls := findClass_of_methodNamed B.named
  have hlocks := B.notSynchronized
  have hS : va_S (fun _ => False) s.heap s.heap [] := va_S.rf
  have hl := lv_entry ([.ref h0, .int x1]) (n := 2) (Nat.le_of_ble_eq_true rfl)
  rw [show entryFrame m args 2 = entryFrame m ([.ref h0, .int x1] : List Value).toArray 2 from by rw [hav], lg_entry_eq]
  generalize (lg_sl ([.ref h0, .int x1]) ++ List.replicate (2 - (lg_sl ([.ref h0, .int x1])).length) Slot.unset).toArray = ls at hl ⊢
  have hl : lv_has ls 2 [(0, .ref h0), (1, .int x1)] := hl
  generalize hR : (headSpec (tb (.code yX12_isBoat cX12_isBoat 2 (some .boolean))) (rm 1)).room = R
  have hR := hR.symm
  generalize hQ : MQ below (QS s.heap (fun r => ((r : Int32) = 1 ∧ (0 ≤ x1.toInt ∧ x1.toInt ≤ 5)) ∨ ((r : Int32) = 0 ∧ True))) args s 0 0 (fun _ => False) = QF
  have hQ := hQ.symm
  obtain ⟨q_3, hq_3, hf_3⟩ := fr_of hI hG0 3 (by decide) (kd := (1, 5123)) rfl
  obtain ⟨F_3, hA_3, hP_3⟩ := om_1 hI hq_3 List.not_mem_nil
  refine lv_iload_n hx hb dX12_isBoat_0 rfl (lv_at hl 1 rfl) ?_
  refine lv_iconst (v := 0) hx hb dX12_isBoat_1 (by decide) ?_
  refine lv_aload_n hx hb dX12_isBoat_2 rfl (lv_at hl 0 rfl) ?_
  refine gmA hx hb hts inT12 hown hK hI List.not_mem_nil hG0 3 (by decide) (hts _ (tb_c wd_1236)) rfl rfl dX12_isBoat_3 (fun a1 hq2 hf3 => ?_)
  obtain rfl := fr.uniq (by decide) hf_3 hf3
  refine lv_sipush (v := 310) hx hb dX12_isBoat_6 (by decide) ?_
  refine th_iald hx hb hK hA_3 0 rfl (iv_in (X := (310)) (by decide) (by omega) (by omega)) dX12_isBoat_9 (fun v4 e5 => ?_)
  have k6 := kg_m310 (kOk.get (i := 310) hP_3 e5 (X := (310)) (by decide) (by omega) (by omega)) (by omega) (by omega) (by omega)
  refine lv_iconst (v := 1) hx hb dX12_isBoat_10 (by decide) ?_
  refine lv_isub hx hb dX12_isBoat_11 ?_
  refine lv_topi (fun v7 e8 => ?_)
  have tv7 : v7.toInt = v4.toInt - (1) := iv_sub rfl (by decide) e8 (by omega) (by omega)
  refine th_cSs (As := [.int x1, .int 0, .int v7]) (rest := []) (n := 3) (d := 0) ⟨hx, hb, hml, hown, hts⟩ (c_X12_lies l s.heap x1 0 v7) wd_1395 wd_1396 wd_13 wd_1397 (by decide +kernel) ⟨by rw [hR]; exact Nat.le_of_ble_eq_true rfl, by rw [hR]; exact Nat.le_of_ble_eq_true rfl⟩ hN hS rfl hl.1 rfl (Nat.le_of_ble_eq_true rfl) dX12_isBoat_12 ⟨Nat.zero_le _, Nat.zero_le _⟩ (fun r9 locs hp hS => ?_)
  rcases hp with ⟨rfl, hp⟩ | ⟨rfl, hp⟩
  · skip
    try simp only [rg, not_and, Int.not_le] at hp
    have hp10 := hp
    try rw [show (0 : Int32).toInt = 0 from by decide] at hp10
    have hpost : ((1 : Int32) = 1 ∧ (0 ≤ x1.toInt ∧ x1.toInt ≤ 5)) ∨ ((1 : Int32) = 0 ∧ True) := by first | exact Or.inl ⟨rfl, by omega⟩ | exact Or.inr ⟨rfl, trivial⟩
    rw [hQ]
    exact W.zret (v := 1) hx hb hr (by decide) (fun t ht hW => ⟨⟨1, (), rfl, hpost, ht⟩, hS.F ht⟩) hS.2.2 dX12_isBoat_15
  · skip
    try simp only [rg, not_and, Int.not_le] at hp
    have hp11 := hp
    try rw [show (0 : Int32).toInt = 0 from by decide] at hp11
    have hpost : ((0 : Int32) = 1 ∧ (0 ≤ x1.toInt ∧ x1.toInt ≤ 5)) ∨ ((0 : Int32) = 0 ∧ True) := by first | exact Or.inl ⟨rfl, by omega⟩ | exact Or.inr ⟨rfl, trivial⟩
    rw [hQ]
    exact W.zret (v := 0) hx hb hr (by decide) (fun t ht hW => ⟨⟨0, (), rfl, hpost, ht⟩, hS.F ht⟩) hS.2.2 dX12_isBoat_15
theorem dX12_moor_0g : (decode cX12_moor 0 = .ok (.iload_n 2, 1)) ∧ (decode cX12_moor 1 = .ok (.iload_n 3, 1)) ∧ (decode cX12_moor 2 = .ok (.invokestatic 121, 3)) ∧ (decode cX12_moor 5 = .ok (.ifCond .ne 9, 3)) ∧ (decode cX12_moor 8 = .ok (.aload_n 0, 1)) ∧ (decode cX12_moor 9 = .ok (.iconst (-1), 1)) ∧ (decode cX12_moor 10 = .ok (.invokevirtual 107, 3)) ∧ (decode cX12_moor 13 = .ok (.ireturn, 1)) ∧ (decode cX12_moor 14 = .ok (.aload_n 0, 1)) ∧ (decode cX12_moor 15 = .ok (.iload_n 1, 1)) := by decide +kernel
theorem dX12_moor_0 : decode cX12_moor 0 = .ok (.iload_n 2, 1) := dX12_moor_0g.1
theorem dX12_moor_1 : decode cX12_moor 1 = .ok (.iload_n 3, 1) := dX12_moor_0g.2.1
theorem dX12_moor_2 : decode cX12_moor 2 = .ok (.invokestatic 121, 3) := dX12_moor_0g.2.2.1
theorem dX12_moor_5 : decode cX12_moor 5 = .ok (.ifCond .ne 9, 3) := dX12_moor_0g.2.2.2.1
theorem dX12_moor_8 : decode cX12_moor 8 = .ok (.aload_n 0, 1) := dX12_moor_0g.2.2.2.2.1
theorem dX12_moor_9 : decode cX12_moor 9 = .ok (.iconst (-1), 1) := dX12_moor_0g.2.2.2.2.2.1
theorem dX12_moor_10 : decode cX12_moor 10 = .ok (.invokevirtual 107, 3) := dX12_moor_0g.2.2.2.2.2.2.1
theorem dX12_moor_13 : decode cX12_moor 13 = .ok (.ireturn, 1) := dX12_moor_0g.2.2.2.2.2.2.2.1
theorem dX12_moor_14 : decode cX12_moor 14 = .ok (.aload_n 0, 1) := dX12_moor_0g.2.2.2.2.2.2.2.2.1
theorem dX12_moor_15 : decode cX12_moor 15 = .ok (.iload_n 1, 1) := dX12_moor_0g.2.2.2.2.2.2.2.2.2
theorem dX12_moor_16g : (decode cX12_moor 16 = .ok (.invokevirtual 307, 3)) ∧ (decode cX12_moor 19 = .ok (.ifCond .ne 10, 3)) ∧ (decode cX12_moor 22 = .ok (.aload_n 0, 1)) ∧ (decode cX12_moor 23 = .ok (.bipush (-2), 2)) ∧ (decode cX12_moor 25 = .ok (.invokevirtual 107, 3)) ∧ (decode cX12_moor 28 = .ok (.ireturn, 1)) ∧ (decode cX12_moor 29 = .ok (.aload_n 0, 1)) ∧ (decode cX12_moor 30 = .ok (.getfield 20, 3)) ∧ (decode cX12_moor 33 = .ok (.sipush 136, 3)) ∧ (decode cX12_moor 36 = .ok (.iconst 4, 1)) := by decide +kernel
theorem dX12_moor_16 : decode cX12_moor 16 = .ok (.invokevirtual 307, 3) := dX12_moor_16g.1
theorem dX12_moor_19 : decode cX12_moor 19 = .ok (.ifCond .ne 10, 3) := dX12_moor_16g.2.1
theorem dX12_moor_22 : decode cX12_moor 22 = .ok (.aload_n 0, 1) := dX12_moor_16g.2.2.1
theorem dX12_moor_23 : decode cX12_moor 23 = .ok (.bipush (-2), 2) := dX12_moor_16g.2.2.2.1
theorem dX12_moor_25 : decode cX12_moor 25 = .ok (.invokevirtual 107, 3) := dX12_moor_16g.2.2.2.2.1
theorem dX12_moor_28 : decode cX12_moor 28 = .ok (.ireturn, 1) := dX12_moor_16g.2.2.2.2.2.1
theorem dX12_moor_29 : decode cX12_moor 29 = .ok (.aload_n 0, 1) := dX12_moor_16g.2.2.2.2.2.2.1
theorem dX12_moor_30 : decode cX12_moor 30 = .ok (.getfield 20, 3) := dX12_moor_16g.2.2.2.2.2.2.2.1
theorem dX12_moor_33 : decode cX12_moor 33 = .ok (.sipush 136, 3) := dX12_moor_16g.2.2.2.2.2.2.2.2.1
theorem dX12_moor_36 : decode cX12_moor 36 = .ok (.iconst 4, 1) := dX12_moor_16g.2.2.2.2.2.2.2.2.2
theorem dX12_moor_37g : (decode cX12_moor 37 = .ok (.iload_n 1, 1)) ∧ (decode cX12_moor 38 = .ok (.imul, 1)) ∧ (decode cX12_moor 39 = .ok (.iadd, 1)) ∧ (decode cX12_moor 40 = .ok (.iconst 2, 1)) ∧ (decode cX12_moor 41 = .ok (.iadd, 1)) ∧ (decode cX12_moor 42 = .ok (.iload_n 2, 1)) ∧ (decode cX12_moor 43 = .ok (.iastore, 1)) ∧ (decode cX12_moor 44 = .ok (.aload_n 0, 1)) ∧ (decode cX12_moor 45 = .ok (.getfield 20, 3)) ∧ (decode cX12_moor 48 = .ok (.sipush 136, 3)) := by decide +kernel
theorem dX12_moor_37 : decode cX12_moor 37 = .ok (.iload_n 1, 1) := dX12_moor_37g.1
theorem dX12_moor_38 : decode cX12_moor 38 = .ok (.imul, 1) := dX12_moor_37g.2.1
theorem dX12_moor_39 : decode cX12_moor 39 = .ok (.iadd, 1) := dX12_moor_37g.2.2.1
theorem dX12_moor_40 : decode cX12_moor 40 = .ok (.iconst 2, 1) := dX12_moor_37g.2.2.2.1
theorem dX12_moor_41 : decode cX12_moor 41 = .ok (.iadd, 1) := dX12_moor_37g.2.2.2.2.1
theorem dX12_moor_42 : decode cX12_moor 42 = .ok (.iload_n 2, 1) := dX12_moor_37g.2.2.2.2.2.1
theorem dX12_moor_43 : decode cX12_moor 43 = .ok (.iastore, 1) := dX12_moor_37g.2.2.2.2.2.2.1
theorem dX12_moor_44 : decode cX12_moor 44 = .ok (.aload_n 0, 1) := dX12_moor_37g.2.2.2.2.2.2.2.1
theorem dX12_moor_45 : decode cX12_moor 45 = .ok (.getfield 20, 3) := dX12_moor_37g.2.2.2.2.2.2.2.2.1
theorem dX12_moor_48 : decode cX12_moor 48 = .ok (.sipush 136, 3) := dX12_moor_37g.2.2.2.2.2.2.2.2.2
theorem dX12_moor_51g : (decode cX12_moor 51 = .ok (.iconst 4, 1)) ∧ (decode cX12_moor 52 = .ok (.iload_n 1, 1)) ∧ (decode cX12_moor 53 = .ok (.imul, 1)) ∧ (decode cX12_moor 54 = .ok (.iadd, 1)) ∧ (decode cX12_moor 55 = .ok (.iconst 3, 1)) ∧ (decode cX12_moor 56 = .ok (.iadd, 1)) ∧ (decode cX12_moor 57 = .ok (.iload_n 3, 1)) ∧ (decode cX12_moor 58 = .ok (.iastore, 1)) ∧ (decode cX12_moor 59 = .ok (.aload_n 0, 1)) ∧ (decode cX12_moor 60 = .ok (.iconst 0, 1)) := by decide +kernel
theorem dX12_moor_51 : decode cX12_moor 51 = .ok (.iconst 4, 1) := dX12_moor_51g.1
theorem dX12_moor_52 : decode cX12_moor 52 = .ok (.iload_n 1, 1) := dX12_moor_51g.2.1
theorem dX12_moor_53 : decode cX12_moor 53 = .ok (.imul, 1) := dX12_moor_51g.2.2.1
theorem dX12_moor_54 : decode cX12_moor 54 = .ok (.iadd, 1) := dX12_moor_51g.2.2.2.1
theorem dX12_moor_55 : decode cX12_moor 55 = .ok (.iconst 3, 1) := dX12_moor_51g.2.2.2.2.1
theorem dX12_moor_56 : decode cX12_moor 56 = .ok (.iadd, 1) := dX12_moor_51g.2.2.2.2.2.1
theorem dX12_moor_57 : decode cX12_moor 57 = .ok (.iload_n 3, 1) := dX12_moor_51g.2.2.2.2.2.2.1
theorem dX12_moor_58 : decode cX12_moor 58 = .ok (.iastore, 1) := dX12_moor_51g.2.2.2.2.2.2.2.1
theorem dX12_moor_59 : decode cX12_moor 59 = .ok (.aload_n 0, 1) := dX12_moor_51g.2.2.2.2.2.2.2.2.1
theorem dX12_moor_60 : decode cX12_moor 60 = .ok (.iconst 0, 1) := dX12_moor_51g.2.2.2.2.2.2.2.2.2
theorem dX12_moor_61g : (decode cX12_moor 61 = .ok (.invokevirtual 111, 3)) ∧ (decode cX12_moor 64 = .ok (.ireturn, 1)) := by decide +kernel
theorem dX12_moor_61 : decode cX12_moor 61 = .ok (.invokevirtual 111, 3) := dX12_moor_61g.1
theorem dX12_moor_64 : decode cX12_moor 64 = .ok (.ireturn, 1) := dX12_moor_61g.2
set_option maxHeartbeats 4000000 in
set_option maxRecDepth 100000 in
theorem c_X12_moor (l : Launch) (E : Nat → Nat) (D : va_G) (G : th_G) (h0 : Nat) (hG0 : G h0 = some (10, 0)) (x1 : Int32) (x2 : Int32) (x3 : Int32) : Met l yX12_moor (tb (.code yX12_moor cX12_moor 4 (some .int))) (rm 3) (va_Pc [.ref h0, .int x1, .int x2, .int x3] (PX E D G (fun H => True))) (QXi E D G (fun r H => True)) 0 0 (th_A G) := by
  refine Met.ofW (cc := cX12_moor) (maxL := 4) (ret := (some .int)) (by decide) rfl ?_
  intro p e s m args below meth c s₁ B hml hv
  obtain ⟨hav, ⟨hI, hN, hK⟩, hX⟩ := hv
  have hx := B.exec
  have hb := B.bytes
  have hr := B.returns
  have hts := atoms_spec (ws := tb (.code yX12_moor cX12_moor 4 (some .int))) B.pre
  have hown : s.vm.findClass RX12 = some m.cls := findClass_of_methodNamed B.named
  have hlocks := B.notSynchronized
  have hS : va_S (th_A G) s.heap s.heap [] := va_S.rf
  have hl := lv_entry ([.ref h0, .int x1, .int x2, .int x3]) (n := 4) (Nat.le_of_ble_eq_true rfl)
  rw [show entryFrame m args 4 = entryFrame m ([.ref h0, .int x1, .int x2, .int x3] : List Value).toArray 4 from by rw [hav], lg_entry_eq]
  generalize (lg_sl ([.ref h0, .int x1, .int x2, .int x3]) ++ List.replicate (4 - (lg_sl ([.ref h0, .int x1, .int x2, .int x3])).length) Slot.unset).toArray = ls at hl ⊢
  have hl : lv_has ls 4 [(0, .ref h0), (1, .int x1), (2, .int x2), (3, .int x3)] := hl
  generalize hR : (headSpec (tb (.code yX12_moor cX12_moor 4 (some .int))) (rm 3)).room = R
  have hR := hR.symm
  generalize hQ : MQ below (QXi E D G (fun r H => True)) args s 0 0 (th_A G) = QF
  have hQ := hQ.symm
  refine lv_iload_n hx hb dX12_moor_0 rfl (lv_at hl 2 rfl) ?_
  refine lv_iload_n hx hb dX12_moor_1 rfl (lv_at hl 3 rfl) ?_
  refine th_cSs (As := [.int x2, .int x3]) (rest := []) (n := 2) (d := 2) ⟨hx, hb, hml, hown, hts⟩ (c_X12_areHours l s.heap x2 x3) wd_1425 wd_1426 wd_13 wd_1427 (by decide +kernel) ⟨by rw [hR]; exact Nat.le_of_ble_eq_true rfl, by rw [hR]; exact Nat.le_of_ble_eq_true rfl⟩ hN hS rfl hl.1 rfl (Nat.le_of_ble_eq_true rfl) dX12_moor_2 ⟨Nat.zero_le _, Nat.zero_le _⟩ (fun r1 locs hp hS => ?_)
  rcases hp with ⟨rfl, hp⟩ | ⟨rfl, hp⟩
  · skip
    try simp only [rg, not_and, Int.not_le] at hp
    have hp2 := hp
    refine lv_if_ne (tgt := 14) hx hb dX12_moor_5 (by decide) (fun _ => ?_) (fun c => absurd c (by decide))
    refine lv_aload_n hx hb dX12_moor_14 rfl (lv_at hl 0 rfl) ?_
    refine lv_iload_n hx hb dX12_moor_15 rfl (lv_at hl 1 rfl) ?_
    refine mr_i (As := [.int x1]) (rest := []) (n := 1) (d := 1) ⟨hx, hb, hml, hown, hts⟩ (c_X12_isBoat l E D G s.heap h0 hG0 x1) wd_1681 wd_1683 wp_78 wd_13 wd_1684 (by decide +kernel) ⟨by rw [hR]; exact Nat.le_of_ble_eq_true rfl, by rw [hR]; exact Nat.le_of_ble_eq_true rfl⟩ hI hN hK hS hG0 rfl hl.1 rfl (Nat.le_of_ble_eq_true rfl) dX12_moor_16 ⟨Nat.zero_le _, Nat.zero_le _⟩ (fun r3 locs hp hS => ?_)
    rcases hp with ⟨rfl, hp⟩ | ⟨rfl, hp⟩
    · skip
      try simp only [rg, not_and, Int.not_le] at hp
      have hp4 := hp
      refine lv_if_ne (tgt := 29) hx hb dX12_moor_19 (by decide) (fun _ => ?_) (fun c => absurd c (by decide))
      refine lv_aload_n hx hb dX12_moor_29 rfl (lv_at hl 0 rfl) ?_
      refine gmA hx hb hts inT12 hown hK hI List.not_mem_nil hG0 3 (by decide) (hts _ (tb_c wd_1236)) rfl rfl dX12_moor_30 (fun a5 hq6 hf7 => ?_)
      refine lv_sipush (v := 136) hx hb dX12_moor_33 (by decide) ?_
      refine lv_iconst (v := 4) hx hb dX12_moor_36 (by decide) ?_
      refine lv_iload_n hx hb dX12_moor_37 rfl (lv_at hl 1 rfl) ?_
      refine lv_imul hx hb dX12_moor_38 ?_
      refine lv_topi (fun v8 e9 => ?_)
      have tv8 : v8.toInt = (4) * x1.toInt := iv_mul (by decide) rfl e9 (by omega) (by omega)
      refine lv_iadd hx hb dX12_moor_39 ?_
      refine lv_topi (fun v10 e11 => ?_)
      have tv10 : v10.toInt = (136) + v8.toInt := iv_add (by decide) rfl e11 (by omega) (by omega)
      refine lv_iconst (v := 2) hx hb dX12_moor_40 (by decide) ?_
      refine lv_iadd hx hb dX12_moor_41 ?_
      refine lv_topi (fun v12 e13 => ?_)
      have tv12 : v12.toInt = v10.toInt + (2) := iv_add rfl (by decide) e13 (by omega) (by omega)
      refine lv_iload_n hx hb dX12_moor_42 rfl (lv_at hl 2 rfl) ?_
      obtain ⟨F14, hA15, hP16⟩ := om_1 hI hq6 List.not_mem_nil
      refine th_iast hx hb hK hA15 0 rfl hS ⟨_, hq6⟩ (iv_in (X := v12.toInt) rfl (by omega) (by omega)) dX12_moor_43 (fun H locs hA17 oq hS => ?_)
      have hP18 := kOk.set (i := v12) (v := x2) hP16 (X := v12.toInt) (V := x2.toInt) rfl rfl (by omega) (by omega) (ks_boat2 (by omega) (by omega) (by omega))
      have hI := th_I.put hI hq6 hA17 (ok_m1 hP18) oq
      have hf7 := fr.arr hG0 hq6 (by decide) oq hf7
      have e19 : x2 = (upd F14 (v12 : Int32).toNatClampNeg x2) (v12 : Int32).toNatClampNeg := rd_us
      refine lv_aload_n hx hb dX12_moor_44 rfl (lv_at hl 0 rfl) ?_
      refine gmA hx hb hts inT12 hown hK hI List.not_mem_nil hG0 3 (by decide) (hts _ (tb_c wd_1236)) rfl rfl dX12_moor_45 (fun a20 hq21 hf22 => ?_)
      obtain rfl := fr.uniq (by decide) hf7 hf22
      refine lv_sipush (v := 136) hx hb dX12_moor_48 (by decide) ?_
      refine lv_iconst (v := 4) hx hb dX12_moor_51 (by decide) ?_
      refine lv_iload_n hx hb dX12_moor_52 rfl (lv_at hl 1 rfl) ?_
      refine lv_imul hx hb dX12_moor_53 ?_
      refine lv_topi (fun v23 e24 => ?_)
      have tv23 : v23.toInt = (4) * x1.toInt := iv_mul (by decide) rfl e24 (by omega) (by omega)
      refine lv_iadd hx hb dX12_moor_54 ?_
      refine lv_topi (fun v25 e26 => ?_)
      have tv25 : v25.toInt = (136) + v23.toInt := iv_add (by decide) rfl e26 (by omega) (by omega)
      refine lv_iconst (v := 3) hx hb dX12_moor_55 (by decide) ?_
      refine lv_iadd hx hb dX12_moor_56 ?_
      refine lv_topi (fun v27 e28 => ?_)
      have tv27 : v27.toInt = v25.toInt + (3) := iv_add rfl (by decide) e28 (by omega) (by omega)
      refine lv_iload_n hx hb dX12_moor_57 rfl (lv_at hl 3 rfl) ?_
      refine th_iast hx hb hK hA17 0 rfl hS ⟨_, hq6⟩ (iv_in (X := v27.toInt) rfl (by omega) (by omega)) dX12_moor_58 (fun H locs hA29 oq hS => ?_)
      have hP30 := kOk.set (i := v27) (v := x3) hP18 (X := v27.toInt) (V := x3.toInt) rfl rfl (by omega) (by omega) (ks_boat3 (by omega) (by omega) (by omega))
      have hI := th_I.put hI hq6 hA29 (ok_m1 hP30) oq
      have hf7 := fr.arr hG0 hq6 (by decide) oq hf7
      have e31 := rd_un (i := v12) (j := v27) (v := x3) e19 (X := v12.toInt) (Y := v27.toInt) rfl rfl (by omega) (by omega) (by omega)
      have e32 : x3 = (upd (upd F14 (v12 : Int32).toNatClampNeg x2) (v27 : Int32).toNatClampNeg x3) (v27 : Int32).toNatClampNeg := rd_us
      refine lv_aload_n hx hb dX12_moor_59 rfl (lv_at hl 0 rfl) ?_
      refine lv_iconst (v := 0) hx hb dX12_moor_60 (by decide) ?_
      refine mx_i (As := [.int 0]) (rest := []) (n := 1) (d := 0) ⟨hx, hb, hml, hown, hts⟩ (c_X12_good l E D G h0 hG0 0) wd_1402 wd_1404 wp_41 wd_13 wd_1405 (by decide +kernel) ⟨by rw [hR]; exact Nat.le_of_ble_eq_true rfl, by rw [hR]; exact Nat.le_of_ble_eq_true rfl⟩ hI hN hK hS hG0 (trivial) rfl hl.1 rfl (Nat.le_of_ble_eq_true rfl) dX12_moor_61 ⟨Nat.zero_le _, Nat.zero_le _⟩ (fun r33 H locs hI hp hS => ?_)
      obtain rfl := hp.symm
      have hpost : True := trivial
      rw [hQ]
      exact W.iret (v := 0) hx hb hr (fun t ht hW => ⟨⟨0, 0, rfl, rfl, ⟨by rw [ht]; exact hI, hN.warm hW, va_K.moved hW.alike hK⟩, by first | (rw [ht]; exact hpost) | exact hpost⟩, hS.F ht⟩) hS.2.2 dX12_moor_64
    · skip
      try simp only [rg, not_and, Int.not_le] at hp
      have hp34 := hp
      refine lv_if_ne (tgt := 29) hx hb dX12_moor_19 (by decide) (fun c => absurd c (by decide)) (fun _ => ?_)
      refine lv_aload_n hx hb dX12_moor_22 rfl (lv_at hl 0 rfl) ?_
      refine lv_bipush (v := (-2)) hx hb dX12_moor_23 (by decide) ?_
      refine mx_i (As := [.int (-2)]) (rest := []) (n := 1) (d := 0) ⟨hx, hb, hml, hown, hts⟩ (c_X12_refuses l E D G h0 hG0 (-2) ⟨by decide, by decide⟩) wd_1398 wd_1400 wp_40 wd_13 wd_1401 (by decide +kernel) ⟨by rw [hR]; exact Nat.le_of_ble_eq_true rfl, by rw [hR]; exact Nat.le_of_ble_eq_true rfl⟩ hI hN hK hS hG0 (trivial) rfl hl.1 rfl (Nat.le_of_ble_eq_true rfl) dX12_moor_25 ⟨Nat.zero_le _, Nat.zero_le _⟩ (fun r35 H locs hI hp hS => ?_)
      obtain rfl := hp.symm
      have hpost : True := trivial
      rw [hQ]
      exact W.iret (v := (-2)) hx hb hr (fun t ht hW => ⟨⟨(-2), (-2), rfl, rfl, ⟨by rw [ht]; exact hI, hN.warm hW, va_K.moved hW.alike hK⟩, by first | (rw [ht]; exact hpost) | exact hpost⟩, hS.F ht⟩) hS.2.2 dX12_moor_28
  · skip
    try simp only [rg, not_and, Int.not_le] at hp
    have hp36 := hp
    refine lv_if_ne (tgt := 14) hx hb dX12_moor_5 (by decide) (fun c => absurd c (by decide)) (fun _ => ?_)
    refine lv_aload_n hx hb dX12_moor_8 rfl (lv_at hl 0 rfl) ?_
    refine lv_iconst (v := (-1)) hx hb dX12_moor_9 (by decide) ?_
    refine mx_i (As := [.int (-1)]) (rest := []) (n := 1) (d := 0) ⟨hx, hb, hml, hown, hts⟩ (c_X12_refuses l E D G h0 hG0 (-1) ⟨by decide, by decide⟩) wd_1398 wd_1400 wp_40 wd_13 wd_1401 (by decide +kernel) ⟨by rw [hR]; exact Nat.le_of_ble_eq_true rfl, by rw [hR]; exact Nat.le_of_ble_eq_true rfl⟩ hI hN hK hS hG0 (trivial) rfl hl.1 rfl (Nat.le_of_ble_eq_true rfl) dX12_moor_10 ⟨Nat.zero_le _, Nat.zero_le _⟩ (fun r37 H locs hI hp hS => ?_)
    obtain rfl := hp.symm
    have hpost : True := trivial
    rw [hQ]
    exact W.iret (v := (-1)) hx hb hr (fun t ht hW => ⟨⟨(-1), (-1), rfl, rfl, ⟨by rw [ht]; exact hI, hN.warm hW, va_K.moved hW.alike hK⟩, by first | (rw [ht]; exact hpost) | exact hpost⟩, hS.F ht⟩) hS.2.2 dX12_moor_13
theorem dX12_putIn_0g : (decode cX12_putIn 0 = .ok (.aload_n 0, 1)) ∧ (decode cX12_putIn 1 = .ok (.getfield 20, 3)) ∧ (decode cX12_putIn 4 = .ok (.sipush 136, 3)) ∧ (decode cX12_putIn 7 = .ok (.iconst 4, 1)) ∧ (decode cX12_putIn 8 = .ok (.iload_n 1, 1)) ∧ (decode cX12_putIn 9 = .ok (.imul, 1)) ∧ (decode cX12_putIn 10 = .ok (.iadd, 1)) ∧ (decode cX12_putIn 11 = .ok (.iconst 1, 1)) ∧ (decode cX12_putIn 12 = .ok (.iadd, 1)) ∧ (decode cX12_putIn 13 = .ok (.iaload, 1)) := by decide +kernel
theorem dX12_putIn_0 : decode cX12_putIn 0 = .ok (.aload_n 0, 1) := dX12_putIn_0g.1
theorem dX12_putIn_1 : decode cX12_putIn 1 = .ok (.getfield 20, 3) := dX12_putIn_0g.2.1
theorem dX12_putIn_4 : decode cX12_putIn 4 = .ok (.sipush 136, 3) := dX12_putIn_0g.2.2.1
theorem dX12_putIn_7 : decode cX12_putIn 7 = .ok (.iconst 4, 1) := dX12_putIn_0g.2.2.2.1
theorem dX12_putIn_8 : decode cX12_putIn 8 = .ok (.iload_n 1, 1) := dX12_putIn_0g.2.2.2.2.1
theorem dX12_putIn_9 : decode cX12_putIn 9 = .ok (.imul, 1) := dX12_putIn_0g.2.2.2.2.2.1
theorem dX12_putIn_10 : decode cX12_putIn 10 = .ok (.iadd, 1) := dX12_putIn_0g.2.2.2.2.2.2.1
theorem dX12_putIn_11 : decode cX12_putIn 11 = .ok (.iconst 1, 1) := dX12_putIn_0g.2.2.2.2.2.2.2.1
theorem dX12_putIn_12 : decode cX12_putIn 12 = .ok (.iadd, 1) := dX12_putIn_0g.2.2.2.2.2.2.2.2.1
theorem dX12_putIn_13 : decode cX12_putIn 13 = .ok (.iaload, 1) := dX12_putIn_0g.2.2.2.2.2.2.2.2.2
theorem dX12_putIn_14 : decode cX12_putIn 14 = .ok (.ireturn, 1) := by decide +kernel
set_option maxHeartbeats 4000000 in
set_option maxRecDepth 100000 in
theorem c_X12_putIn (l : Launch) (E : Nat → Nat) (D : va_G) (G : th_G) (H0 : Heap) (h0 : Nat) (hG0 : G h0 = some (10, 0)) (x1 : Int32) (hx1 : (0 : Int) ≤ x1.toInt ∧ x1.toInt ≤ 5) : Met l yX12_putIn (tb (.code yX12_putIn cX12_putIn 2 (some .int))) (rm 0) (va_Pc [.ref h0, .int x1] (PR E D G H0)) (QS H0 (fun r => 0 ≤ (r : Int32).toInt ∧ (r : Int32).toInt ≤ 95)) 0 0 (fun _ => False) := by
  refine Met.ofW (cc := cX12_putIn) (maxL := 2) (ret := (some .int)) (by decide) rfl ?_
  intro p e s m args below meth c s₁ B hml hv
  obtain ⟨hav, rfl, hI, hN, hK⟩ := hv
  have hx := B.exec
  have hb := B.bytes
  have hr := B.returns
  have hts := atoms_spec (ws := tb (.code yX12_putIn cX12_putIn 2 (some .int))) B.pre
  have hown : s.vm.findClass RX12 = some m.cls := findClass_of_methodNamed B.named
  have hlocks := B.notSynchronized
  have hS : va_S (fun _ => False) s.heap s.heap [] := va_S.rf
  have hl := lv_entry ([.ref h0, .int x1]) (n := 2) (Nat.le_of_ble_eq_true rfl)
  rw [show entryFrame m args 2 = entryFrame m ([.ref h0, .int x1] : List Value).toArray 2 from by rw [hav], lg_entry_eq]
  generalize (lg_sl ([.ref h0, .int x1]) ++ List.replicate (2 - (lg_sl ([.ref h0, .int x1])).length) Slot.unset).toArray = ls at hl ⊢
  have hl : lv_has ls 2 [(0, .ref h0), (1, .int x1)] := hl
  generalize hR : (headSpec (tb (.code yX12_putIn cX12_putIn 2 (some .int))) (rm 0)).room = R
  have hR := hR.symm
  generalize hQ : MQ below (QS s.heap (fun r => 0 ≤ (r : Int32).toInt ∧ (r : Int32).toInt ≤ 95)) args s 0 0 (fun _ => False) = QF
  have hQ := hQ.symm
  obtain ⟨q_3, hq_3, hf_3⟩ := fr_of hI hG0 3 (by decide) (kd := (1, 5123)) rfl
  obtain ⟨F_3, hA_3, hP_3⟩ := om_1 hI hq_3 List.not_mem_nil
  refine lv_aload_n hx hb dX12_putIn_0 rfl (lv_at hl 0 rfl) ?_
  refine gmA hx hb hts inT12 hown hK hI List.not_mem_nil hG0 3 (by decide) (hts _ (tb_c wd_1236)) rfl rfl dX12_putIn_1 (fun a1 hq2 hf3 => ?_)
  obtain rfl := fr.uniq (by decide) hf_3 hf3
  refine lv_sipush (v := 136) hx hb dX12_putIn_4 (by decide) ?_
  refine lv_iconst (v := 4) hx hb dX12_putIn_7 (by decide) ?_
  refine lv_iload_n hx hb dX12_putIn_8 rfl (lv_at hl 1 rfl) ?_
  refine lv_imul hx hb dX12_putIn_9 ?_
  refine lv_topi (fun v4 e5 => ?_)
  have tv4 : v4.toInt = (4) * x1.toInt := iv_mul (by decide) rfl e5 (by omega) (by omega)
  refine lv_iadd hx hb dX12_putIn_10 ?_
  refine lv_topi (fun v6 e7 => ?_)
  have tv6 : v6.toInt = (136) + v4.toInt := iv_add (by decide) rfl e7 (by omega) (by omega)
  refine lv_iconst (v := 1) hx hb dX12_putIn_11 (by decide) ?_
  refine lv_iadd hx hb dX12_putIn_12 ?_
  refine lv_topi (fun v8 e9 => ?_)
  have tv8 : v8.toInt = v6.toInt + (1) := iv_add rfl (by decide) e9 (by omega) (by omega)
  refine th_iald hx hb hK hA_3 0 rfl (iv_in (X := v8.toInt) rfl (by omega) (by omega)) dX12_putIn_13 (fun v10 e11 => ?_)
  have k12 := kg_boat1 (kOk.get (i := v8) hP_3 e11 (X := v8.toInt) rfl (by omega) (by omega)) (by omega) (by omega) (by omega)
  have hpost : 0 ≤ (v10 : Int32).toInt ∧ (v10 : Int32).toInt ≤ 95 := by omega
  rw [hQ]
  exact W.iret (v := v10) hx hb hr (fun t ht hW => ⟨⟨v10, (), rfl, hpost, ht⟩, hS.F ht⟩) hS.2.2 dX12_putIn_14
theorem dX12_isMoored_0g : (decode cX12_isMoored 0 = .ok (.iload_n 2, 1)) ∧ (decode cX12_isMoored 1 = .ok (.aload_n 0, 1)) ∧ (decode cX12_isMoored 2 = .ok (.getfield 20, 3)) ∧ (decode cX12_isMoored 5 = .ok (.sipush 136, 3)) ∧ (decode cX12_isMoored 8 = .ok (.iconst 4, 1)) ∧ (decode cX12_isMoored 9 = .ok (.iload_n 1, 1)) ∧ (decode cX12_isMoored 10 = .ok (.imul, 1)) ∧ (decode cX12_isMoored 11 = .ok (.iadd, 1)) ∧ (decode cX12_isMoored 12 = .ok (.iconst 2, 1)) ∧ (decode cX12_isMoored 13 = .ok (.iadd, 1)) := by decide +kernel
theorem dX12_isMoored_0 : decode cX12_isMoored 0 = .ok (.iload_n 2, 1) := dX12_isMoored_0g.1
theorem dX12_isMoored_1 : decode cX12_isMoored 1 = .ok (.aload_n 0, 1) := dX12_isMoored_0g.2.1
theorem dX12_isMoored_2 : decode cX12_isMoored 2 = .ok (.getfield 20, 3) := dX12_isMoored_0g.2.2.1
theorem dX12_isMoored_5 : decode cX12_isMoored 5 = .ok (.sipush 136, 3) := dX12_isMoored_0g.2.2.2.1
theorem dX12_isMoored_8 : decode cX12_isMoored 8 = .ok (.iconst 4, 1) := dX12_isMoored_0g.2.2.2.2.1
theorem dX12_isMoored_9 : decode cX12_isMoored 9 = .ok (.iload_n 1, 1) := dX12_isMoored_0g.2.2.2.2.2.1
theorem dX12_isMoored_10 : decode cX12_isMoored 10 = .ok (.imul, 1) := dX12_isMoored_0g.2.2.2.2.2.2.1
theorem dX12_isMoored_11 : decode cX12_isMoored 11 = .ok (.iadd, 1) := dX12_isMoored_0g.2.2.2.2.2.2.2.1
theorem dX12_isMoored_12 : decode cX12_isMoored 12 = .ok (.iconst 2, 1) := dX12_isMoored_0g.2.2.2.2.2.2.2.2.1
theorem dX12_isMoored_13 : decode cX12_isMoored 13 = .ok (.iadd, 1) := dX12_isMoored_0g.2.2.2.2.2.2.2.2.2
theorem dX12_isMoored_14g : (decode cX12_isMoored 14 = .ok (.iaload, 1)) ∧ (decode cX12_isMoored 15 = .ok (.aload_n 0, 1)) ∧ (decode cX12_isMoored 16 = .ok (.getfield 20, 3)) ∧ (decode cX12_isMoored 19 = .ok (.sipush 136, 3)) ∧ (decode cX12_isMoored 22 = .ok (.iconst 4, 1)) ∧ (decode cX12_isMoored 23 = .ok (.iload_n 1, 1)) ∧ (decode cX12_isMoored 24 = .ok (.imul, 1)) ∧ (decode cX12_isMoored 25 = .ok (.iadd, 1)) ∧ (decode cX12_isMoored 26 = .ok (.iconst 3, 1)) ∧ (decode cX12_isMoored 27 = .ok (.iadd, 1)) := by decide +kernel
theorem dX12_isMoored_14 : decode cX12_isMoored 14 = .ok (.iaload, 1) := dX12_isMoored_14g.1
theorem dX12_isMoored_15 : decode cX12_isMoored 15 = .ok (.aload_n 0, 1) := dX12_isMoored_14g.2.1
theorem dX12_isMoored_16 : decode cX12_isMoored 16 = .ok (.getfield 20, 3) := dX12_isMoored_14g.2.2.1
theorem dX12_isMoored_19 : decode cX12_isMoored 19 = .ok (.sipush 136, 3) := dX12_isMoored_14g.2.2.2.1
theorem dX12_isMoored_22 : decode cX12_isMoored 22 = .ok (.iconst 4, 1) := dX12_isMoored_14g.2.2.2.2.1
theorem dX12_isMoored_23 : decode cX12_isMoored 23 = .ok (.iload_n 1, 1) := dX12_isMoored_14g.2.2.2.2.2.1
theorem dX12_isMoored_24 : decode cX12_isMoored 24 = .ok (.imul, 1) := dX12_isMoored_14g.2.2.2.2.2.2.1
theorem dX12_isMoored_25 : decode cX12_isMoored 25 = .ok (.iadd, 1) := dX12_isMoored_14g.2.2.2.2.2.2.2.1
theorem dX12_isMoored_26 : decode cX12_isMoored 26 = .ok (.iconst 3, 1) := dX12_isMoored_14g.2.2.2.2.2.2.2.2.1
theorem dX12_isMoored_27 : decode cX12_isMoored 27 = .ok (.iadd, 1) := dX12_isMoored_14g.2.2.2.2.2.2.2.2.2
theorem dX12_isMoored_28g : (decode cX12_isMoored 28 = .ok (.iaload, 1)) ∧ (decode cX12_isMoored 29 = .ok (.invokestatic 103, 3)) ∧ (decode cX12_isMoored 32 = .ok (.ireturn, 1)) := by decide +kernel
theorem dX12_isMoored_28 : decode cX12_isMoored 28 = .ok (.iaload, 1) := dX12_isMoored_28g.1
theorem dX12_isMoored_29 : decode cX12_isMoored 29 = .ok (.invokestatic 103, 3) := dX12_isMoored_28g.2.1
theorem dX12_isMoored_32 : decode cX12_isMoored 32 = .ok (.ireturn, 1) := dX12_isMoored_28g.2.2
set_option maxHeartbeats 4000000 in
set_option maxRecDepth 100000 in
theorem c_X12_isMoored (l : Launch) (E : Nat → Nat) (D : va_G) (G : th_G) (H0 : Heap) (h0 : Nat) (hG0 : G h0 = some (10, 0)) (x1 : Int32) (x2 : Int32) (hx1 : (0 : Int) ≤ x1.toInt ∧ x1.toInt ≤ 5) : Met l yX12_isMoored (tb (.code yX12_isMoored cX12_isMoored 3 (some .boolean))) (rm 1) (va_Pc [.ref h0, .int x1, .int x2] (PR E D G H0)) (QS H0 (fun r => 0 ≤ (r : Int32).toInt ∧ (r : Int32).toInt ≤ 1)) 0 0 (fun _ => False) := by
  refine Met.ofW (cc := cX12_isMoored) (maxL := 3) (ret := (some .boolean)) (by decide) rfl ?_
  intro p e s m args below meth c s₁ B hml hv
  obtain ⟨hav, rfl, hI, hN, hK⟩ := hv
  have hx := B.exec
  have hb := B.bytes
  have hr := B.returns
  have hts := atoms_spec (ws := tb (.code yX12_isMoored cX12_isMoored 3 (some .boolean))) B.pre
  have hown : s.vm.findClass RX12 = some m.cls := findClass_of_methodNamed B.named
  have hlocks := B.notSynchronized
  have hS : va_S (fun _ => False) s.heap s.heap [] := va_S.rf
  have hl := lv_entry ([.ref h0, .int x1, .int x2]) (n := 3) (Nat.le_of_ble_eq_true rfl)
  rw [show entryFrame m args 3 = entryFrame m ([.ref h0, .int x1, .int x2] : List Value).toArray 3 from by rw [hav], lg_entry_eq]
  generalize (lg_sl ([.ref h0, .int x1, .int x2]) ++ List.replicate (3 - (lg_sl ([.ref h0, .int x1, .int x2])).length) Slot.unset).toArray = ls at hl ⊢
  have hl : lv_has ls 3 [(0, .ref h0), (1, .int x1), (2, .int x2)] := hl
  generalize hR : (headSpec (tb (.code yX12_isMoored cX12_isMoored 3 (some .boolean))) (rm 1)).room = R
  have hR := hR.symm
  generalize hQ : MQ below (QS s.heap (fun r => 0 ≤ (r : Int32).toInt ∧ (r : Int32).toInt ≤ 1)) args s 0 0 (fun _ => False) = QF
  have hQ := hQ.symm
  obtain ⟨q_3, hq_3, hf_3⟩ := fr_of hI hG0 3 (by decide) (kd := (1, 5123)) rfl
  obtain ⟨F_3, hA_3, hP_3⟩ := om_1 hI hq_3 List.not_mem_nil
  refine lv_iload_n hx hb dX12_isMoored_0 rfl (lv_at hl 2 rfl) ?_
  refine lv_aload_n hx hb dX12_isMoored_1 rfl (lv_at hl 0 rfl) ?_
  refine gmA hx hb hts inT12 hown hK hI List.not_mem_nil hG0 3 (by decide) (hts _ (tb_c wd_1236)) rfl rfl dX12_isMoored_2 (fun a1 hq2 hf3 => ?_)
  obtain rfl := fr.uniq (by decide) hf_3 hf3
  refine lv_sipush (v := 136) hx hb dX12_isMoored_5 (by decide) ?_
  refine lv_iconst (v := 4) hx hb dX12_isMoored_8 (by decide) ?_
  refine lv_iload_n hx hb dX12_isMoored_9 rfl (lv_at hl 1 rfl) ?_
  refine lv_imul hx hb dX12_isMoored_10 ?_
  refine lv_topi (fun v4 e5 => ?_)
  have tv4 : v4.toInt = (4) * x1.toInt := iv_mul (by decide) rfl e5 (by omega) (by omega)
  refine lv_iadd hx hb dX12_isMoored_11 ?_
  refine lv_topi (fun v6 e7 => ?_)
  have tv6 : v6.toInt = (136) + v4.toInt := iv_add (by decide) rfl e7 (by omega) (by omega)
  refine lv_iconst (v := 2) hx hb dX12_isMoored_12 (by decide) ?_
  refine lv_iadd hx hb dX12_isMoored_13 ?_
  refine lv_topi (fun v8 e9 => ?_)
  have tv8 : v8.toInt = v6.toInt + (2) := iv_add rfl (by decide) e9 (by omega) (by omega)
  refine th_iald hx hb hK hA_3 0 rfl (iv_in (X := v8.toInt) rfl (by omega) (by omega)) dX12_isMoored_14 (fun v10 e11 => ?_)
  refine lv_aload_n hx hb dX12_isMoored_15 rfl (lv_at hl 0 rfl) ?_
  refine gmA hx hb hts inT12 hown hK hI List.not_mem_nil hG0 3 (by decide) (hts _ (tb_c wd_1236)) rfl rfl dX12_isMoored_16 (fun a12 hq13 hf14 => ?_)
  obtain rfl := fr.uniq (by decide) hf_3 hf14
  refine lv_sipush (v := 136) hx hb dX12_isMoored_19 (by decide) ?_
  refine lv_iconst (v := 4) hx hb dX12_isMoored_22 (by decide) ?_
  refine lv_iload_n hx hb dX12_isMoored_23 rfl (lv_at hl 1 rfl) ?_
  refine lv_imul hx hb dX12_isMoored_24 ?_
  refine lv_topi (fun v15 e16 => ?_)
  have tv15 : v15.toInt = (4) * x1.toInt := iv_mul (by decide) rfl e16 (by omega) (by omega)
  refine lv_iadd hx hb dX12_isMoored_25 ?_
  refine lv_topi (fun v17 e18 => ?_)
  have tv17 : v17.toInt = (136) + v15.toInt := iv_add (by decide) rfl e18 (by omega) (by omega)
  refine lv_iconst (v := 3) hx hb dX12_isMoored_26 (by decide) ?_
  refine lv_iadd hx hb dX12_isMoored_27 ?_
  refine lv_topi (fun v19 e20 => ?_)
  have tv19 : v19.toInt = v17.toInt + (3) := iv_add rfl (by decide) e20 (by omega) (by omega)
  refine th_iald hx hb hK hA_3 0 rfl (iv_in (X := v19.toInt) rfl (by omega) (by omega)) dX12_isMoored_28 (fun v21 e22 => ?_)
  refine th_cSs (As := [.int x2, .int v10, .int v21]) (rest := []) (n := 3) (d := 0) ⟨hx, hb, hml, hown, hts⟩ (c_X12_lies l s.heap x2 v10 v21) wd_1395 wd_1396 wd_13 wd_1397 (by decide +kernel) ⟨by rw [hR]; exact Nat.le_of_ble_eq_true rfl, by rw [hR]; exact Nat.le_of_ble_eq_true rfl⟩ hN hS rfl hl.1 rfl (Nat.le_of_ble_eq_true rfl) dX12_isMoored_29 ⟨Nat.zero_le _, Nat.zero_le _⟩ (fun r23 locs hp hS => ?_)
  rcases hp with ⟨rfl, hp⟩ | ⟨rfl, hp⟩
  · skip
    try simp only [rg, not_and, Int.not_le] at hp
    have hp24 := hp
    have hpost : 0 ≤ (1 : Int32).toInt ∧ (1 : Int32).toInt ≤ 1 := by first | decide | omega
    rw [hQ]
    exact W.zret (v := 1) hx hb hr (by decide) (fun t ht hW => ⟨⟨1, (), rfl, hpost, ht⟩, hS.F ht⟩) hS.2.2 dX12_isMoored_32
  · skip
    try simp only [rg, not_and, Int.not_le] at hp
    have hp25 := hp
    have hpost : 0 ≤ (0 : Int32).toInt ∧ (0 : Int32).toInt ≤ 1 := by first | decide | omega
    rw [hQ]
    exact W.zret (v := 0) hx hb hr (by decide) (fun t ht hW => ⟨⟨0, (), rfl, hpost, ht⟩, hS.F ht⟩) hS.2.2 dX12_isMoored_32
theorem dX12_sailsTo_0g : (decode cX12_sailsTo 0 = .ok (.aload_n 0, 1)) ∧ (decode cX12_sailsTo 1 = .ok (.getfield 20, 3)) ∧ (decode cX12_sailsTo 4 = .ok (.sipush 136, 3)) ∧ (decode cX12_sailsTo 7 = .ok (.iconst 4, 1)) ∧ (decode cX12_sailsTo 8 = .ok (.iload_n 1, 1)) ∧ (decode cX12_sailsTo 9 = .ok (.imul, 1)) ∧ (decode cX12_sailsTo 10 = .ok (.iadd, 1)) ∧ (decode cX12_sailsTo 11 = .ok (.iaload, 1)) ∧ (decode cX12_sailsTo 12 = .ok (.istore_n 3, 1)) ∧ (decode cX12_sailsTo 13 = .ok (.aload_n 0, 1)) := by decide +kernel
theorem dX12_sailsTo_0 : decode cX12_sailsTo 0 = .ok (.aload_n 0, 1) := dX12_sailsTo_0g.1
theorem dX12_sailsTo_1 : decode cX12_sailsTo 1 = .ok (.getfield 20, 3) := dX12_sailsTo_0g.2.1
theorem dX12_sailsTo_4 : decode cX12_sailsTo 4 = .ok (.sipush 136, 3) := dX12_sailsTo_0g.2.2.1
theorem dX12_sailsTo_7 : decode cX12_sailsTo 7 = .ok (.iconst 4, 1) := dX12_sailsTo_0g.2.2.2.1
theorem dX12_sailsTo_8 : decode cX12_sailsTo 8 = .ok (.iload_n 1, 1) := dX12_sailsTo_0g.2.2.2.2.1
theorem dX12_sailsTo_9 : decode cX12_sailsTo 9 = .ok (.imul, 1) := dX12_sailsTo_0g.2.2.2.2.2.1
theorem dX12_sailsTo_10 : decode cX12_sailsTo 10 = .ok (.iadd, 1) := dX12_sailsTo_0g.2.2.2.2.2.2.1
theorem dX12_sailsTo_11 : decode cX12_sailsTo 11 = .ok (.iaload, 1) := dX12_sailsTo_0g.2.2.2.2.2.2.2.1
theorem dX12_sailsTo_12 : decode cX12_sailsTo 12 = .ok (.istore_n 3, 1) := dX12_sailsTo_0g.2.2.2.2.2.2.2.2.1
theorem dX12_sailsTo_13 : decode cX12_sailsTo 13 = .ok (.aload_n 0, 1) := dX12_sailsTo_0g.2.2.2.2.2.2.2.2.2
theorem dX12_sailsTo_14g : (decode cX12_sailsTo 14 = .ok (.iconst 0, 1)) ∧ (decode cX12_sailsTo 15 = .ok (.putfield 310, 3)) ∧ (decode cX12_sailsTo 18 = .ok (.aload_n 0, 1)) ∧ (decode cX12_sailsTo 19 = .ok (.getfield 20, 3)) ∧ (decode cX12_sailsTo 22 = .ok (.sipush 136, 3)) ∧ (decode cX12_sailsTo 25 = .ok (.iconst 4, 1)) ∧ (decode cX12_sailsTo 26 = .ok (.iload_n 1, 1)) ∧ (decode cX12_sailsTo 27 = .ok (.imul, 1)) ∧ (decode cX12_sailsTo 28 = .ok (.iadd, 1)) ∧ (decode cX12_sailsTo 29 = .ok (.iconst 1, 1)) := by decide +kernel
theorem dX12_sailsTo_14 : decode cX12_sailsTo 14 = .ok (.iconst 0, 1) := dX12_sailsTo_14g.1
theorem dX12_sailsTo_15 : decode cX12_sailsTo 15 = .ok (.putfield 310, 3) := dX12_sailsTo_14g.2.1
theorem dX12_sailsTo_18 : decode cX12_sailsTo 18 = .ok (.aload_n 0, 1) := dX12_sailsTo_14g.2.2.1
theorem dX12_sailsTo_19 : decode cX12_sailsTo 19 = .ok (.getfield 20, 3) := dX12_sailsTo_14g.2.2.2.1
theorem dX12_sailsTo_22 : decode cX12_sailsTo 22 = .ok (.sipush 136, 3) := dX12_sailsTo_14g.2.2.2.2.1
theorem dX12_sailsTo_25 : decode cX12_sailsTo 25 = .ok (.iconst 4, 1) := dX12_sailsTo_14g.2.2.2.2.2.1
theorem dX12_sailsTo_26 : decode cX12_sailsTo 26 = .ok (.iload_n 1, 1) := dX12_sailsTo_14g.2.2.2.2.2.2.1
theorem dX12_sailsTo_27 : decode cX12_sailsTo 27 = .ok (.imul, 1) := dX12_sailsTo_14g.2.2.2.2.2.2.2.1
theorem dX12_sailsTo_28 : decode cX12_sailsTo 28 = .ok (.iadd, 1) := dX12_sailsTo_14g.2.2.2.2.2.2.2.2.1
theorem dX12_sailsTo_29 : decode cX12_sailsTo 29 = .ok (.iconst 1, 1) := dX12_sailsTo_14g.2.2.2.2.2.2.2.2.2
theorem dX12_sailsTo_30g : (decode cX12_sailsTo 30 = .ok (.iadd, 1)) ∧ (decode cX12_sailsTo 31 = .ok (.iaload, 1)) ∧ (decode cX12_sailsTo 32 = .ok (.istore 4, 2)) ∧ (decode cX12_sailsTo 34 = .ok (.iload 4, 2)) ∧ (decode cX12_sailsTo 36 = .ok (.iload_n 2, 1)) ∧ (decode cX12_sailsTo 37 = .ok (.if_icmp .ge 127, 3)) ∧ (decode cX12_sailsTo 40 = .ok (.aload_n 0, 1)) ∧ (decode cX12_sailsTo 41 = .ok (.iload_n 1, 1)) ∧ (decode cX12_sailsTo 42 = .ok (.iload 4, 2)) ∧ (decode cX12_sailsTo 44 = .ok (.invokevirtual 313, 3)) := by decide +kernel
theorem dX12_sailsTo_30 : decode cX12_sailsTo 30 = .ok (.iadd, 1) := dX12_sailsTo_30g.1
theorem dX12_sailsTo_31 : decode cX12_sailsTo 31 = .ok (.iaload, 1) := dX12_sailsTo_30g.2.1
theorem dX12_sailsTo_32 : decode cX12_sailsTo 32 = .ok (.istore 4, 2) := dX12_sailsTo_30g.2.2.1
theorem dX12_sailsTo_34 : decode cX12_sailsTo 34 = .ok (.iload 4, 2) := dX12_sailsTo_30g.2.2.2.1
theorem dX12_sailsTo_36 : decode cX12_sailsTo 36 = .ok (.iload_n 2, 1) := dX12_sailsTo_30g.2.2.2.2.1
theorem dX12_sailsTo_37 : decode cX12_sailsTo 37 = .ok (.if_icmp .ge 127, 3) := dX12_sailsTo_30g.2.2.2.2.2.1
theorem dX12_sailsTo_40 : decode cX12_sailsTo 40 = .ok (.aload_n 0, 1) := dX12_sailsTo_30g.2.2.2.2.2.2.1
theorem dX12_sailsTo_41 : decode cX12_sailsTo 41 = .ok (.iload_n 1, 1) := dX12_sailsTo_30g.2.2.2.2.2.2.2.1
theorem dX12_sailsTo_42 : decode cX12_sailsTo 42 = .ok (.iload 4, 2) := dX12_sailsTo_30g.2.2.2.2.2.2.2.2.1
theorem dX12_sailsTo_44 : decode cX12_sailsTo 44 = .ok (.invokevirtual 313, 3) := dX12_sailsTo_30g.2.2.2.2.2.2.2.2.2
theorem dX12_sailsTo_47g : (decode cX12_sailsTo 47 = .ok (.ifCond .ne 111, 3)) ∧ (decode cX12_sailsTo 50 = .ok (.iload_n 3, 1)) ∧ (decode cX12_sailsTo 51 = .ok (.bipush 24, 2)) ∧ (decode cX12_sailsTo 53 = .ok (.if_icmp .ne 6, 3)) ∧ (decode cX12_sailsTo 56 = .ok (.goto 102, 3)) ∧ (decode cX12_sailsTo 59 = .ok (.aload_n 0, 1)) ∧ (decode cX12_sailsTo 60 = .ok (.getfield 67, 3)) ∧ (decode cX12_sailsTo 63 = .ok (.bipush 25, 2)) ∧ (decode cX12_sailsTo 65 = .ok (.iload 4, 2)) ∧ (decode cX12_sailsTo 67 = .ok (.imul, 1)) := by decide +kernel
theorem dX12_sailsTo_47 : decode cX12_sailsTo 47 = .ok (.ifCond .ne 111, 3) := dX12_sailsTo_47g.1
theorem dX12_sailsTo_50 : decode cX12_sailsTo 50 = .ok (.iload_n 3, 1) := dX12_sailsTo_47g.2.1
theorem dX12_sailsTo_51 : decode cX12_sailsTo 51 = .ok (.bipush 24, 2) := dX12_sailsTo_47g.2.2.1
theorem dX12_sailsTo_53 : decode cX12_sailsTo 53 = .ok (.if_icmp .ne 6, 3) := dX12_sailsTo_47g.2.2.2.1
theorem dX12_sailsTo_56 : decode cX12_sailsTo 56 = .ok (.goto 102, 3) := dX12_sailsTo_47g.2.2.2.2.1
theorem dX12_sailsTo_59 : decode cX12_sailsTo 59 = .ok (.aload_n 0, 1) := dX12_sailsTo_47g.2.2.2.2.2.1
theorem dX12_sailsTo_60 : decode cX12_sailsTo 60 = .ok (.getfield 67, 3) := dX12_sailsTo_47g.2.2.2.2.2.2.1
theorem dX12_sailsTo_63 : decode cX12_sailsTo 63 = .ok (.bipush 25, 2) := dX12_sailsTo_47g.2.2.2.2.2.2.2.1
theorem dX12_sailsTo_65 : decode cX12_sailsTo 65 = .ok (.iload 4, 2) := dX12_sailsTo_47g.2.2.2.2.2.2.2.2.1
theorem dX12_sailsTo_67 : decode cX12_sailsTo 67 = .ok (.imul, 1) := dX12_sailsTo_47g.2.2.2.2.2.2.2.2.2
theorem dX12_sailsTo_68g : (decode cX12_sailsTo 68 = .ok (.iload_n 3, 1)) ∧ (decode cX12_sailsTo 69 = .ok (.iadd, 1)) ∧ (decode cX12_sailsTo 70 = .ok (.iaload, 1)) ∧ (decode cX12_sailsTo 71 = .ok (.istore 5, 2)) ∧ (decode cX12_sailsTo 73 = .ok (.iload_n 3, 1)) ∧ (decode cX12_sailsTo 74 = .ok (.istore 6, 2)) ∧ (decode cX12_sailsTo 76 = .ok (.iload 6, 2)) ∧ (decode cX12_sailsTo 78 = .ok (.iload 5, 2)) ∧ (decode cX12_sailsTo 80 = .ok (.if_icmp .ge 35, 3)) ∧ (decode cX12_sailsTo 83 = .ok (.aload_n 0, 1)) := by decide +kernel
theorem dX12_sailsTo_68 : decode cX12_sailsTo 68 = .ok (.iload_n 3, 1) := dX12_sailsTo_68g.1
theorem dX12_sailsTo_69 : decode cX12_sailsTo 69 = .ok (.iadd, 1) := dX12_sailsTo_68g.2.1
theorem dX12_sailsTo_70 : decode cX12_sailsTo 70 = .ok (.iaload, 1) := dX12_sailsTo_68g.2.2.1
theorem dX12_sailsTo_71 : decode cX12_sailsTo 71 = .ok (.istore 5, 2) := dX12_sailsTo_68g.2.2.2.1
theorem dX12_sailsTo_73 : decode cX12_sailsTo 73 = .ok (.iload_n 3, 1) := dX12_sailsTo_68g.2.2.2.2.1
theorem dX12_sailsTo_74 : decode cX12_sailsTo 74 = .ok (.istore 6, 2) := dX12_sailsTo_68g.2.2.2.2.2.1
theorem dX12_sailsTo_76 : decode cX12_sailsTo 76 = .ok (.iload 6, 2) := dX12_sailsTo_68g.2.2.2.2.2.2.1
theorem dX12_sailsTo_78 : decode cX12_sailsTo 78 = .ok (.iload 5, 2) := dX12_sailsTo_68g.2.2.2.2.2.2.2.1
theorem dX12_sailsTo_80 : decode cX12_sailsTo 80 = .ok (.if_icmp .ge 35, 3) := dX12_sailsTo_68g.2.2.2.2.2.2.2.2.1
theorem dX12_sailsTo_83 : decode cX12_sailsTo 83 = .ok (.aload_n 0, 1) := dX12_sailsTo_68g.2.2.2.2.2.2.2.2.2
theorem dX12_sailsTo_84g : (decode cX12_sailsTo 84 = .ok (.dup, 1)) ∧ (decode cX12_sailsTo 85 = .ok (.getfield 310, 3)) ∧ (decode cX12_sailsTo 88 = .ok (.aload_n 0, 1)) ∧ (decode cX12_sailsTo 89 = .ok (.getfield 61, 3)) ∧ (decode cX12_sailsTo 92 = .ok (.iconst 2, 1)) ∧ (decode cX12_sailsTo 93 = .ok (.bipush 24, 2)) ∧ (decode cX12_sailsTo 95 = .ok (.iload 4, 2)) ∧ (decode cX12_sailsTo 97 = .ok (.imul, 1)) ∧ (decode cX12_sailsTo 98 = .ok (.iload 6, 2)) ∧ (decode cX12_sailsTo 100 = .ok (.iadd, 1)) := by decide +kernel
theorem dX12_sailsTo_84 : decode cX12_sailsTo 84 = .ok (.dup, 1) := dX12_sailsTo_84g.1
theorem dX12_sailsTo_85 : decode cX12_sailsTo 85 = .ok (.getfield 310, 3) := dX12_sailsTo_84g.2.1
theorem dX12_sailsTo_88 : decode cX12_sailsTo 88 = .ok (.aload_n 0, 1) := dX12_sailsTo_84g.2.2.1
theorem dX12_sailsTo_89 : decode cX12_sailsTo 89 = .ok (.getfield 61, 3) := dX12_sailsTo_84g.2.2.2.1
theorem dX12_sailsTo_92 : decode cX12_sailsTo 92 = .ok (.iconst 2, 1) := dX12_sailsTo_84g.2.2.2.2.1
theorem dX12_sailsTo_93 : decode cX12_sailsTo 93 = .ok (.bipush 24, 2) := dX12_sailsTo_84g.2.2.2.2.2.1
theorem dX12_sailsTo_95 : decode cX12_sailsTo 95 = .ok (.iload 4, 2) := dX12_sailsTo_84g.2.2.2.2.2.2.1
theorem dX12_sailsTo_97 : decode cX12_sailsTo 97 = .ok (.imul, 1) := dX12_sailsTo_84g.2.2.2.2.2.2.2.1
theorem dX12_sailsTo_98 : decode cX12_sailsTo 98 = .ok (.iload 6, 2) := dX12_sailsTo_84g.2.2.2.2.2.2.2.2.1
theorem dX12_sailsTo_100 : decode cX12_sailsTo 100 = .ok (.iadd, 1) := dX12_sailsTo_84g.2.2.2.2.2.2.2.2.2
theorem dX12_sailsTo_101g : (decode cX12_sailsTo 101 = .ok (.imul, 1)) ∧ (decode cX12_sailsTo 102 = .ok (.iconst 1, 1)) ∧ (decode cX12_sailsTo 103 = .ok (.iadd, 1)) ∧ (decode cX12_sailsTo 104 = .ok (.iaload, 1)) ∧ (decode cX12_sailsTo 105 = .ok (.iadd, 1)) ∧ (decode cX12_sailsTo 106 = .ok (.putfield 310, 3)) ∧ (decode cX12_sailsTo 109 = .ok (.iinc 6 1, 3)) ∧ (decode cX12_sailsTo 112 = .ok (.goto (-36), 3)) ∧ (decode cX12_sailsTo 115 = .ok (.iload_n 3, 1)) ∧ (decode cX12_sailsTo 116 = .ok (.istore 6, 2)) := by decide +kernel
theorem dX12_sailsTo_101 : decode cX12_sailsTo 101 = .ok (.imul, 1) := dX12_sailsTo_101g.1
theorem dX12_sailsTo_102 : decode cX12_sailsTo 102 = .ok (.iconst 1, 1) := dX12_sailsTo_101g.2.1
theorem dX12_sailsTo_103 : decode cX12_sailsTo 103 = .ok (.iadd, 1) := dX12_sailsTo_101g.2.2.1
theorem dX12_sailsTo_104 : decode cX12_sailsTo 104 = .ok (.iaload, 1) := dX12_sailsTo_101g.2.2.2.1
theorem dX12_sailsTo_105 : decode cX12_sailsTo 105 = .ok (.iadd, 1) := dX12_sailsTo_101g.2.2.2.2.1
theorem dX12_sailsTo_106 : decode cX12_sailsTo 106 = .ok (.putfield 310, 3) := dX12_sailsTo_101g.2.2.2.2.2.1
theorem dX12_sailsTo_109 : decode cX12_sailsTo 109 = .ok (.iinc 6 1, 3) := dX12_sailsTo_101g.2.2.2.2.2.2.1
theorem dX12_sailsTo_112 : decode cX12_sailsTo 112 = .ok (.goto (-36), 3) := dX12_sailsTo_101g.2.2.2.2.2.2.2.1
theorem dX12_sailsTo_115 : decode cX12_sailsTo 115 = .ok (.iload_n 3, 1) := dX12_sailsTo_101g.2.2.2.2.2.2.2.2.1
theorem dX12_sailsTo_116 : decode cX12_sailsTo 116 = .ok (.istore 6, 2) := dX12_sailsTo_101g.2.2.2.2.2.2.2.2.2
theorem dX12_sailsTo_118g : (decode cX12_sailsTo 118 = .ok (.iload 6, 2)) ∧ (decode cX12_sailsTo 120 = .ok (.iload 5, 2)) ∧ (decode cX12_sailsTo 122 = .ok (.if_icmp .le 33, 3)) ∧ (decode cX12_sailsTo 125 = .ok (.aload_n 0, 1)) ∧ (decode cX12_sailsTo 126 = .ok (.dup, 1)) ∧ (decode cX12_sailsTo 127 = .ok (.getfield 310, 3)) ∧ (decode cX12_sailsTo 130 = .ok (.aload_n 0, 1)) ∧ (decode cX12_sailsTo 131 = .ok (.getfield 61, 3)) ∧ (decode cX12_sailsTo 134 = .ok (.iconst 2, 1)) ∧ (decode cX12_sailsTo 135 = .ok (.bipush 24, 2)) := by decide +kernel
theorem dX12_sailsTo_118 : decode cX12_sailsTo 118 = .ok (.iload 6, 2) := dX12_sailsTo_118g.1
theorem dX12_sailsTo_120 : decode cX12_sailsTo 120 = .ok (.iload 5, 2) := dX12_sailsTo_118g.2.1
theorem dX12_sailsTo_122 : decode cX12_sailsTo 122 = .ok (.if_icmp .le 33, 3) := dX12_sailsTo_118g.2.2.1
theorem dX12_sailsTo_125 : decode cX12_sailsTo 125 = .ok (.aload_n 0, 1) := dX12_sailsTo_118g.2.2.2.1
theorem dX12_sailsTo_126 : decode cX12_sailsTo 126 = .ok (.dup, 1) := dX12_sailsTo_118g.2.2.2.2.1
theorem dX12_sailsTo_127 : decode cX12_sailsTo 127 = .ok (.getfield 310, 3) := dX12_sailsTo_118g.2.2.2.2.2.1
theorem dX12_sailsTo_130 : decode cX12_sailsTo 130 = .ok (.aload_n 0, 1) := dX12_sailsTo_118g.2.2.2.2.2.2.1
theorem dX12_sailsTo_131 : decode cX12_sailsTo 131 = .ok (.getfield 61, 3) := dX12_sailsTo_118g.2.2.2.2.2.2.2.1
theorem dX12_sailsTo_134 : decode cX12_sailsTo 134 = .ok (.iconst 2, 1) := dX12_sailsTo_118g.2.2.2.2.2.2.2.2.1
theorem dX12_sailsTo_135 : decode cX12_sailsTo 135 = .ok (.bipush 24, 2) := dX12_sailsTo_118g.2.2.2.2.2.2.2.2.2
theorem dX12_sailsTo_137g : (decode cX12_sailsTo 137 = .ok (.iload 4, 2)) ∧ (decode cX12_sailsTo 139 = .ok (.imul, 1)) ∧ (decode cX12_sailsTo 140 = .ok (.iload 6, 2)) ∧ (decode cX12_sailsTo 142 = .ok (.iadd, 1)) ∧ (decode cX12_sailsTo 143 = .ok (.imul, 1)) ∧ (decode cX12_sailsTo 144 = .ok (.iaload, 1)) ∧ (decode cX12_sailsTo 145 = .ok (.iadd, 1)) ∧ (decode cX12_sailsTo 146 = .ok (.putfield 310, 3)) ∧ (decode cX12_sailsTo 149 = .ok (.iinc 6 (-1), 3)) ∧ (decode cX12_sailsTo 152 = .ok (.goto (-34), 3)) := by decide +kernel
theorem dX12_sailsTo_137 : decode cX12_sailsTo 137 = .ok (.iload 4, 2) := dX12_sailsTo_137g.1
theorem dX12_sailsTo_139 : decode cX12_sailsTo 139 = .ok (.imul, 1) := dX12_sailsTo_137g.2.1
theorem dX12_sailsTo_140 : decode cX12_sailsTo 140 = .ok (.iload 6, 2) := dX12_sailsTo_137g.2.2.1
theorem dX12_sailsTo_142 : decode cX12_sailsTo 142 = .ok (.iadd, 1) := dX12_sailsTo_137g.2.2.2.1
theorem dX12_sailsTo_143 : decode cX12_sailsTo 143 = .ok (.imul, 1) := dX12_sailsTo_137g.2.2.2.2.1
theorem dX12_sailsTo_144 : decode cX12_sailsTo 144 = .ok (.iaload, 1) := dX12_sailsTo_137g.2.2.2.2.2.1
theorem dX12_sailsTo_145 : decode cX12_sailsTo 145 = .ok (.iadd, 1) := dX12_sailsTo_137g.2.2.2.2.2.2.1
theorem dX12_sailsTo_146 : decode cX12_sailsTo 146 = .ok (.putfield 310, 3) := dX12_sailsTo_137g.2.2.2.2.2.2.2.1
theorem dX12_sailsTo_149 : decode cX12_sailsTo 149 = .ok (.iinc 6 (-1), 3) := dX12_sailsTo_137g.2.2.2.2.2.2.2.2.1
theorem dX12_sailsTo_152 : decode cX12_sailsTo 152 = .ok (.goto (-34), 3) := dX12_sailsTo_137g.2.2.2.2.2.2.2.2.2
theorem dX12_sailsTo_155g : (decode cX12_sailsTo 155 = .ok (.iload 5, 2)) ∧ (decode cX12_sailsTo 157 = .ok (.istore_n 3, 1)) ∧ (decode cX12_sailsTo 158 = .ok (.iinc 4 1, 3)) ∧ (decode cX12_sailsTo 161 = .ok (.goto (-127), 3)) ∧ (decode cX12_sailsTo 164 = .ok (.iload_n 3, 1)) ∧ (decode cX12_sailsTo 165 = .ok (.ireturn, 1)) := by decide +kernel
theorem dX12_sailsTo_155 : decode cX12_sailsTo 155 = .ok (.iload 5, 2) := dX12_sailsTo_155g.1
theorem dX12_sailsTo_157 : decode cX12_sailsTo 157 = .ok (.istore_n 3, 1) := dX12_sailsTo_155g.2.1
theorem dX12_sailsTo_158 : decode cX12_sailsTo 158 = .ok (.iinc 4 1, 3) := dX12_sailsTo_155g.2.2.1
theorem dX12_sailsTo_161 : decode cX12_sailsTo 161 = .ok (.goto (-127), 3) := dX12_sailsTo_155g.2.2.2.1
theorem dX12_sailsTo_164 : decode cX12_sailsTo 164 = .ok (.iload_n 3, 1) := dX12_sailsTo_155g.2.2.2.2.1
theorem dX12_sailsTo_165 : decode cX12_sailsTo 165 = .ok (.ireturn, 1) := dX12_sailsTo_155g.2.2.2.2.2
set_option maxHeartbeats 4000000 in
set_option maxRecDepth 100000 in
theorem c_X12_sailsTo (l : Launch) (E : Nat → Nat) (D : va_G) (G : th_G) (h0 : Nat) (hG0 : G h0 = some (10, 0)) (x1 : Int32) (x2 : Int32) (hx1 : (0 : Int) ≤ x1.toInt ∧ x1.toInt ≤ 5) (hx2 : x2.toInt ≤ 96) : Met l yX12_sailsTo (tb (.code yX12_sailsTo cX12_sailsTo 7 (some .int))) (rm 2) (va_Pc [.ref h0, .int x1, .int x2] (PX E D G (fun H => True))) (QXi E D G (fun r H => 0 ≤ (r : Int32).toInt ∧ (r : Int32).toInt ≤ 24)) 0 0 (th_A G) := by
  refine Met.ofW (cc := cX12_sailsTo) (maxL := 7) (ret := (some .int)) (by decide) rfl ?_
  intro p e s m args below meth c s₁ B hml hv
  obtain ⟨hav, ⟨hI, hN, hK⟩, hX⟩ := hv
  have hx := B.exec
  have hb := B.bytes
  have hr := B.returns
  have hts := atoms_spec (ws := tb (.code yX12_sailsTo cX12_sailsTo 7 (some .int))) B.pre
  have hown : s.vm.findClass RX12 = some m.cls := findClass_of_methodNamed B.named
  have hlocks := B.notSynchronized
  have hS : va_S (th_A G) s.heap s.heap [] := va_S.rf
  have hl := lv_entry ([.ref h0, .int x1, .int x2]) (n := 7) (Nat.le_of_ble_eq_true rfl)
  rw [show entryFrame m args 7 = entryFrame m ([.ref h0, .int x1, .int x2] : List Value).toArray 7 from by rw [hav], lg_entry_eq]
  generalize (lg_sl ([.ref h0, .int x1, .int x2]) ++ List.replicate (7 - (lg_sl ([.ref h0, .int x1, .int x2])).length) Slot.unset).toArray = ls at hl ⊢
  have hl : lv_has ls 7 [(0, .ref h0), (1, .int x1), (2, .int x2)] := hl
  generalize hR : (headSpec (tb (.code yX12_sailsTo cX12_sailsTo 7 (some .int))) (rm 2)).room = R
  have hR := hR.symm
  generalize hQ : MQ below (QXi E D G (fun r H => 0 ≤ (r : Int32).toInt ∧ (r : Int32).toInt ≤ 24)) args s 0 0 (th_A G) = QF
  have hQ := hQ.symm
  have J_34 : ∀ (nn : Nat) (H : Heap) (locs : List Loc) (ls : Array Slot) (v1284 : Int32) (v1285 : Int32) , (Int.toNat (96 - v1284.toInt) = nn) → lv_has ls 7 [(4, .int v1284), (3, .int v1285), (0, .ref h0), (1, .int x1), (2, .int x2)] → ((0 : Int) ≤ v1284.toInt ∧ v1284.toInt ≤ 96) → ((0 : Int) ≤ v1285.toInt ∧ v1285.toInt ≤ 24) → ((0 : Int) ≤ x1.toInt ∧ x1.toInt ≤ 5) → (x2.toInt ≤ 96) → th_I (okM E) D G [] H → va_S (th_A G) s.heap H locs → W p l e R s m args below meth c H locs 0 0 QF (F0 m 34 ls []) := by
    intro nn
    induction nn using Nat.strongRecOn with
    | ind nn ih_34 =>
      intro H locs ls v1284 v1285  hm hl k1286 k1287 k1288 k1289 hI hS
      have J_118 : ∀ (nn : Nat) (H : Heap) (locs : List Loc) (ls : Array Slot) (v1290 : Int32) (v1291 : Int32) , (Int.toNat (v1290.toInt - (0)) = nn) → lv_has ls 7 [(6, .int v1290), (5, .int v1291), (4, .int v1284), (3, .int v1285), (0, .ref h0), (1, .int x1), (2, .int x2)] → ((0 : Int) ≤ v1290.toInt ∧ v1290.toInt ≤ 23) → ((0 : Int) ≤ v1291.toInt ∧ v1291.toInt ≤ 24) → ((0 : Int) ≤ v1284.toInt ∧ v1284.toInt ≤ 95) → ((0 : Int) ≤ v1285.toInt ∧ v1285.toInt ≤ 23) → ((1 : Int) ≤ x2.toInt ∧ x2.toInt ≤ 96) → th_I (okM E) D G [] H → va_S (th_A G) s.heap H locs → W p l e R s m args below meth c H locs 0 0 QF (F0 m 118 ls []) := by
        intro nn
        induction nn using Nat.strongRecOn with
        | ind nn ih_118 =>
          intro H locs ls v1290 v1291  hm hl k1294 k1295 k1296 k1297 k1298 hI hS
          refine lv_iload hx hb dX12_sailsTo_118 (lv_at hl 0 rfl) ?_
          refine lv_iload hx hb dX12_sailsTo_120 (lv_at hl 1 rfl) ?_
          refine lv_icmp_le (tgt := 155) hx hb dX12_sailsTo_122 (by decide) (fun c1299 => ?_) (fun c1299 => ?_)
          · skip
            have k1300 := iv_le (X := v1290.toInt) (Y := v1291.toInt) rfl rfl c1299
            refine lv_iload hx hb dX12_sailsTo_155 (lv_at hl 1 rfl) ?_
            refine lv_istore_n (lv' := [(3, .int v1291), (6, .int v1290), (5, .int v1291), (4, .int v1284), (0, .ref h0), (1, .int x1), (2, .int x2)]) hx hb dX12_sailsTo_157 rfl hl (by decide) rfl (fun ls hl => ?_)
            obtain ⟨v1301, e1302⟩ : ∃ y : Int32, y = v1284 + (1) := ⟨_, rfl⟩
            have tv1301 : v1301.toInt = v1284.toInt + (1) := iv_add rfl (by decide) e1302 (by omega) (by omega)
            refine lv_iinc (v := v1301) (lv' := [(4, .int v1301), (3, .int v1291), (6, .int v1290), (5, .int v1291), (0, .ref h0), (1, .int x1), (2, .int x2)]) hx hb dX12_sailsTo_158 hl (k := 3) rfl (by rw [e1302]; rfl) (by decide) rfl (fun ls hl => ?_)
            refine lv_goto (tgt := 34) hx hb dX12_sailsTo_161 (by decide) ?_
            exact ih_34 _ (by omega) H locs ls v1301 v1291  rfl (lv_sub hl [0, 1, 4, 5, 6] rfl) ⟨by omega, by omega⟩ ⟨by omega, by omega⟩ ⟨by omega, by omega⟩ (by omega) hI hS
          · skip
            have k1303 := iv_nle (X := v1290.toInt) (Y := v1291.toInt) rfl rfl c1299
            refine lv_aload_n hx hb dX12_sailsTo_125 rfl (lv_at hl 4 rfl) ?_
            refine lv_dup hx hb dX12_sailsTo_126 rfl ?_
            refine gmI hx hb hts inT12 hown hK hI List.not_mem_nil hG0 29 (by decide) (hts _ (tb_c wd_1262)) rfl rfl dX12_sailsTo_127 (fun w1304 hg1305 k1306 k1307 => ?_)
            refine lv_aload_n hx hb dX12_sailsTo_130 rfl (lv_at hl 4 rfl) ?_
            refine gmA hx hb hts inT12 hown hK hI List.not_mem_nil hG0 25 (by decide) (hts _ (tb_c wd_1258)) rfl rfl dX12_sailsTo_131 (fun a1308 hq1309 hf1310 => ?_)
            refine lv_iconst (v := 2) hx hb dX12_sailsTo_134 (by decide) ?_
            refine lv_bipush (v := 24) hx hb dX12_sailsTo_135 (by decide) ?_
            refine lv_iload hx hb dX12_sailsTo_137 (lv_at hl 2 rfl) ?_
            refine lv_imul hx hb dX12_sailsTo_139 ?_
            refine lv_topi (fun v1311 e1312 => ?_)
            have tv1311 : v1311.toInt = (24) * v1284.toInt := iv_mul (by decide) rfl e1312 (by omega) (by omega)
            refine lv_iload hx hb dX12_sailsTo_140 (lv_at hl 0 rfl) ?_
            refine lv_iadd hx hb dX12_sailsTo_142 ?_
            refine lv_topi (fun v1313 e1314 => ?_)
            have tv1313 : v1313.toInt = v1311.toInt + v1290.toInt := iv_add rfl rfl e1314 (by omega) (by omega)
            refine lv_imul hx hb dX12_sailsTo_143 ?_
            refine lv_topi (fun v1315 e1316 => ?_)
            have tv1315 : v1315.toInt = (2) * v1313.toInt := iv_mul (by decide) rfl e1316 (by omega) (by omega)
            obtain ⟨F1317, hA1318⟩ := om_0 hI hq1309 List.not_mem_nil
            refine th_iald hx hb hK hA1318 0 rfl (iv_in (X := v1315.toInt) rfl (by omega) (by omega)) dX12_sailsTo_144 (fun v1319 e1320 => ?_)
            refine lv_iadd hx hb dX12_sailsTo_145 ?_
            refine lv_topi (fun v1321 e1322 => ?_)
            try have tv1321 : v1321.toInt = w1304.toInt + v1319.toInt := iv_add rfl rfl e1322 (by omega) (by omega)
            have k1323 := iv_lo v1321
            have k1324 := iv_hi v1321
            refine pmI (ty := .int) hx hb hts inT12 hown hK hI List.not_mem_nil hG0 hS ⟨_, hG0⟩ 29 (by decide) (hts _ (tb_c wd_1262)) rfl rfl (by decide +kernel) rfl rfl rfl (by omega) (by omega) dX12_sailsTo_146 (fun H locs hI hgP hS => ?_)
            have hg1325 := hgP.2.1
            have hf1310 := hgP.2.2.2 25 _ (by decide) (by decide) hf1310
            have hA1318 := va_at.kept hA1318 (hgP.1 _ (m_ne hq1309 hG0 (by first | decide | (dsimp only; decide))))
            obtain ⟨v1326, e1327⟩ : ∃ y : Int32, y = v1290 + (-1) := ⟨_, rfl⟩
            have tv1326 : v1326.toInt = v1290.toInt + (-1) := iv_add rfl (by decide) e1327 (by omega) (by omega)
            refine lv_iinc (v := v1326) (lv' := [(6, .int v1326), (5, .int v1291), (4, .int v1284), (3, .int v1285), (0, .ref h0), (1, .int x1), (2, .int x2)]) hx hb dX12_sailsTo_149 hl (k := 0) rfl (by rw [e1327]; rfl) (by decide) rfl (fun ls hl => ?_)
            refine lv_goto (tgt := 118) hx hb dX12_sailsTo_152 (by decide) ?_
            exact ih_118 _ (by omega) H locs ls v1326 v1291  rfl (lv_sub hl [0, 1, 2, 3, 4, 5, 6] rfl) ⟨by omega, by omega⟩ ⟨by omega, by omega⟩ ⟨by omega, by omega⟩ ⟨by omega, by omega⟩ ⟨by omega, by omega⟩ hI hS
      have J_76 : ∀ (nn : Nat) (H : Heap) (locs : List Loc) (ls : Array Slot) (v1328 : Int32) (v1329 : Int32) , (Int.toNat (24 - v1328.toInt) = nn) → lv_has ls 7 [(6, .int v1328), (5, .int v1329), (4, .int v1284), (3, .int v1285), (0, .ref h0), (1, .int x1), (2, .int x2)] → ((0 : Int) ≤ v1328.toInt ∧ v1328.toInt ≤ 24) → ((0 : Int) ≤ v1329.toInt ∧ v1329.toInt ≤ 24) → ((0 : Int) ≤ v1284.toInt ∧ v1284.toInt ≤ 95) → ((0 : Int) ≤ v1285.toInt ∧ v1285.toInt ≤ 23) → ((1 : Int) ≤ x2.toInt ∧ x2.toInt ≤ 96) → th_I (okM E) D G [] H → va_S (th_A G) s.heap H locs → W p l e R s m args below meth c H locs 0 0 QF (F0 m 76 ls []) := by
        intro nn
        induction nn using Nat.strongRecOn with
        | ind nn ih_76 =>
          intro H locs ls v1328 v1329  hm hl k1332 k1333 k1334 k1335 k1336 hI hS
          refine lv_iload hx hb dX12_sailsTo_76 (lv_at hl 0 rfl) ?_
          refine lv_iload hx hb dX12_sailsTo_78 (lv_at hl 1 rfl) ?_
          refine lv_icmp_ge (tgt := 115) hx hb dX12_sailsTo_80 (by decide) (fun c1337 => ?_) (fun c1337 => ?_)
          · skip
            have k1338 := iv_le (X := v1329.toInt) (Y := v1328.toInt) rfl rfl c1337
            refine lv_iload_n hx hb dX12_sailsTo_115 rfl (lv_at hl 3 rfl) ?_
            refine lv_istore (lv' := [(6, .int v1285), (5, .int v1329), (4, .int v1284), (3, .int v1285), (0, .ref h0), (1, .int x1), (2, .int x2)]) hx hb dX12_sailsTo_116 hl (by decide) rfl (fun ls hl => ?_)
            exact J_118 _ H locs ls v1285 v1329  rfl (lv_sub hl [0, 1, 2, 3, 4, 5, 6] rfl) ⟨by omega, by omega⟩ ⟨by omega, by omega⟩ ⟨by omega, by omega⟩ ⟨by omega, by omega⟩ ⟨by omega, by omega⟩ hI hS
          · skip
            have k1339 := iv_nle (X := v1329.toInt) (Y := v1328.toInt) rfl rfl c1337
            refine lv_aload_n hx hb dX12_sailsTo_83 rfl (lv_at hl 4 rfl) ?_
            refine lv_dup hx hb dX12_sailsTo_84 rfl ?_
            refine gmI hx hb hts inT12 hown hK hI List.not_mem_nil hG0 29 (by decide) (hts _ (tb_c wd_1262)) rfl rfl dX12_sailsTo_85 (fun w1340 hg1341 k1342 k1343 => ?_)
            refine lv_aload_n hx hb dX12_sailsTo_88 rfl (lv_at hl 4 rfl) ?_
            refine gmA hx hb hts inT12 hown hK hI List.not_mem_nil hG0 25 (by decide) (hts _ (tb_c wd_1258)) rfl rfl dX12_sailsTo_89 (fun a1344 hq1345 hf1346 => ?_)
            refine lv_iconst (v := 2) hx hb dX12_sailsTo_92 (by decide) ?_
            refine lv_bipush (v := 24) hx hb dX12_sailsTo_93 (by decide) ?_
            refine lv_iload hx hb dX12_sailsTo_95 (lv_at hl 2 rfl) ?_
            refine lv_imul hx hb dX12_sailsTo_97 ?_
            refine lv_topi (fun v1347 e1348 => ?_)
            have tv1347 : v1347.toInt = (24) * v1284.toInt := iv_mul (by decide) rfl e1348 (by omega) (by omega)
            refine lv_iload hx hb dX12_sailsTo_98 (lv_at hl 0 rfl) ?_
            refine lv_iadd hx hb dX12_sailsTo_100 ?_
            refine lv_topi (fun v1349 e1350 => ?_)
            have tv1349 : v1349.toInt = v1347.toInt + v1328.toInt := iv_add rfl rfl e1350 (by omega) (by omega)
            refine lv_imul hx hb dX12_sailsTo_101 ?_
            refine lv_topi (fun v1351 e1352 => ?_)
            have tv1351 : v1351.toInt = (2) * v1349.toInt := iv_mul (by decide) rfl e1352 (by omega) (by omega)
            refine lv_iconst (v := 1) hx hb dX12_sailsTo_102 (by decide) ?_
            refine lv_iadd hx hb dX12_sailsTo_103 ?_
            refine lv_topi (fun v1353 e1354 => ?_)
            have tv1353 : v1353.toInt = v1351.toInt + (1) := iv_add rfl (by decide) e1354 (by omega) (by omega)
            obtain ⟨F1355, hA1356⟩ := om_0 hI hq1345 List.not_mem_nil
            refine th_iald hx hb hK hA1356 0 rfl (iv_in (X := v1353.toInt) rfl (by omega) (by omega)) dX12_sailsTo_104 (fun v1357 e1358 => ?_)
            refine lv_iadd hx hb dX12_sailsTo_105 ?_
            refine lv_topi (fun v1359 e1360 => ?_)
            try have tv1359 : v1359.toInt = w1340.toInt + v1357.toInt := iv_add rfl rfl e1360 (by omega) (by omega)
            have k1361 := iv_lo v1359
            have k1362 := iv_hi v1359
            refine pmI (ty := .int) hx hb hts inT12 hown hK hI List.not_mem_nil hG0 hS ⟨_, hG0⟩ 29 (by decide) (hts _ (tb_c wd_1262)) rfl rfl (by decide +kernel) rfl rfl rfl (by omega) (by omega) dX12_sailsTo_106 (fun H locs hI hgP hS => ?_)
            have hg1363 := hgP.2.1
            have hf1346 := hgP.2.2.2 25 _ (by decide) (by decide) hf1346
            have hA1356 := va_at.kept hA1356 (hgP.1 _ (m_ne hq1345 hG0 (by first | decide | (dsimp only; decide))))
            obtain ⟨v1364, e1365⟩ : ∃ y : Int32, y = v1328 + (1) := ⟨_, rfl⟩
            have tv1364 : v1364.toInt = v1328.toInt + (1) := iv_add rfl (by decide) e1365 (by omega) (by omega)
            refine lv_iinc (v := v1364) (lv' := [(6, .int v1364), (5, .int v1329), (4, .int v1284), (3, .int v1285), (0, .ref h0), (1, .int x1), (2, .int x2)]) hx hb dX12_sailsTo_109 hl (k := 0) rfl (by rw [e1365]; rfl) (by decide) rfl (fun ls hl => ?_)
            refine lv_goto (tgt := 76) hx hb dX12_sailsTo_112 (by decide) ?_
            exact ih_76 _ (by omega) H locs ls v1364 v1329  rfl (lv_sub hl [0, 1, 2, 3, 4, 5, 6] rfl) ⟨by omega, by omega⟩ ⟨by omega, by omega⟩ ⟨by omega, by omega⟩ ⟨by omega, by omega⟩ ⟨by omega, by omega⟩ hI hS
      refine lv_iload hx hb dX12_sailsTo_34 (lv_at hl 0 rfl) ?_
      refine lv_iload_n hx hb dX12_sailsTo_36 rfl (lv_at hl 4 rfl) ?_
      have k1366 := iv_lo x2
      have k1367 := iv_hi x2
      refine lv_icmp_ge (tgt := 164) hx hb dX12_sailsTo_37 (by decide) (fun c1368 => ?_) (fun c1368 => ?_)
      · skip
        have k1369 := iv_le (X := x2.toInt) (Y := v1284.toInt) rfl rfl c1368
        refine lv_iload_n hx hb dX12_sailsTo_164 rfl (lv_at hl 1 rfl) ?_
        have hpost : 0 ≤ (v1285 : Int32).toInt ∧ (v1285 : Int32).toInt ≤ 24 := by first | decide | omega
        rw [hQ]
        exact W.iret (v := v1285) hx hb hr (fun t ht hW => ⟨⟨v1285, v1285, rfl, rfl, ⟨by rw [ht]; exact hI, hN.warm hW, va_K.moved hW.alike hK⟩, by first | (rw [ht]; exact hpost) | exact hpost⟩, hS.F ht⟩) hS.2.2 dX12_sailsTo_165
      · skip
        have k1370 := iv_nle (X := x2.toInt) (Y := v1284.toInt) rfl rfl c1368
        refine lv_aload_n hx hb dX12_sailsTo_40 rfl (lv_at hl 2 rfl) ?_
        refine lv_iload_n hx hb dX12_sailsTo_41 rfl (lv_at hl 3 rfl) ?_
        refine lv_iload hx hb dX12_sailsTo_42 (lv_at hl 0 rfl) ?_
        refine mr_i (As := [.int x1, .int v1284]) (rest := []) (n := 2) (d := 1) ⟨hx, hb, hml, hown, hts⟩ (c_X12_isMoored l E D G H h0 hG0 x1 v1284 ⟨by omega, by omega⟩) wd_1697 wd_1699 wp_81 wd_13 wd_1700 (by decide +kernel) ⟨by rw [hR]; exact Nat.le_of_ble_eq_true rfl, by rw [hR]; exact Nat.le_of_ble_eq_true rfl⟩ hI hN hK hS hG0 rfl hl.1 rfl (Nat.le_of_ble_eq_true rfl) dX12_sailsTo_44 ⟨Nat.zero_le _, Nat.zero_le _⟩ (fun r1371 locs hp hS => ?_)
        have hp1372 := hp
        refine lv_if_ne (tgt := 158) hx hb dX12_sailsTo_47 (by decide) (fun c1373 => ?_) (fun c1373 => ?_)
        · skip
          have k1374 := iv_ne (X := r1371.toInt) (Y := (0)) rfl (by decide) c1373
          obtain ⟨v1375, e1376⟩ : ∃ y : Int32, y = v1284 + (1) := ⟨_, rfl⟩
          have tv1375 : v1375.toInt = v1284.toInt + (1) := iv_add rfl (by decide) e1376 (by omega) (by omega)
          refine lv_iinc (v := v1375) (lv' := [(4, .int v1375), (3, .int v1285), (0, .ref h0), (1, .int x1), (2, .int x2)]) hx hb dX12_sailsTo_158 hl (k := 0) rfl (by rw [e1376]; rfl) (by decide) rfl (fun ls hl => ?_)
          refine lv_goto (tgt := 34) hx hb dX12_sailsTo_161 (by decide) ?_
          exact ih_34 _ (by omega) H locs ls v1375 v1285  rfl (lv_sub hl [0, 1, 2, 3, 4] rfl) ⟨by omega, by omega⟩ ⟨by omega, by omega⟩ ⟨by omega, by omega⟩ (by omega) hI hS
        · skip
          have k1377 := iv_eq (X := r1371.toInt) (Y := (0)) rfl (by decide) c1373
          refine lv_iload_n hx hb dX12_sailsTo_50 rfl (lv_at hl 1 rfl) ?_
          refine lv_bipush (v := 24) hx hb dX12_sailsTo_51 (by decide) ?_
          refine lv_icmp_ne (tgt := 59) hx hb dX12_sailsTo_53 (by decide) (fun c1378 => ?_) (fun c1378 => ?_)
          · skip
            have k1379 := iv_ne (X := v1285.toInt) (Y := (24)) rfl (by decide) c1378
            refine lv_aload_n hx hb dX12_sailsTo_59 rfl (lv_at hl 2 rfl) ?_
            refine gmA hx hb hts inT12 hown hK hI List.not_mem_nil hG0 27 (by decide) (hts _ (tb_c wd_1260)) rfl rfl dX12_sailsTo_60 (fun a1380 hq1381 hf1382 => ?_)
            refine lv_bipush (v := 25) hx hb dX12_sailsTo_63 (by decide) ?_
            refine lv_iload hx hb dX12_sailsTo_65 (lv_at hl 0 rfl) ?_
            refine lv_imul hx hb dX12_sailsTo_67 ?_
            refine lv_topi (fun v1383 e1384 => ?_)
            have tv1383 : v1383.toInt = (25) * v1284.toInt := iv_mul (by decide) rfl e1384 (by omega) (by omega)
            refine lv_iload_n hx hb dX12_sailsTo_68 rfl (lv_at hl 1 rfl) ?_
            refine lv_iadd hx hb dX12_sailsTo_69 ?_
            refine lv_topi (fun v1385 e1386 => ?_)
            have tv1385 : v1385.toInt = v1383.toInt + v1285.toInt := iv_add rfl rfl e1386 (by omega) (by omega)
            obtain ⟨F1387, hA1388, hP1389⟩ := om_3 hI hq1381 List.not_mem_nil
            refine th_iald hx hb hK hA1388 0 rfl (iv_in (X := v1385.toInt) rfl (by omega) (by omega)) dX12_sailsTo_70 (fun v1390 e1391 => ?_)
            have k1392 := rgs_get hP1389 e1391 (X := v1385.toInt) rfl (by omega) (by omega)
            refine lv_istore (lv' := [(5, .int v1390), (4, .int v1284), (3, .int v1285), (0, .ref h0), (1, .int x1), (2, .int x2)]) hx hb dX12_sailsTo_71 hl (by decide) rfl (fun ls hl => ?_)
            refine lv_iload_n hx hb dX12_sailsTo_73 rfl (lv_at hl 2 rfl) ?_
            refine lv_istore (lv' := [(6, .int v1285), (5, .int v1390), (4, .int v1284), (3, .int v1285), (0, .ref h0), (1, .int x1), (2, .int x2)]) hx hb dX12_sailsTo_74 hl (by decide) rfl (fun ls hl => ?_)
            exact J_76 _ H locs ls v1285 v1390  rfl (lv_sub hl [0, 1, 2, 3, 4, 5, 6] rfl) ⟨by omega, by omega⟩ ⟨by omega, by omega⟩ ⟨by omega, by omega⟩ ⟨by omega, by omega⟩ ⟨by omega, by omega⟩ hI hS
          · skip
            have k1393 := iv_eq (X := v1285.toInt) (Y := (24)) rfl (by decide) c1378
            refine lv_goto (tgt := 158) hx hb dX12_sailsTo_56 (by decide) ?_
            obtain ⟨v1394, e1395⟩ : ∃ y : Int32, y = v1284 + (1) := ⟨_, rfl⟩
            have tv1394 : v1394.toInt = v1284.toInt + (1) := iv_add rfl (by decide) e1395 (by omega) (by omega)
            refine lv_iinc (v := v1394) (lv' := [(4, .int v1394), (3, .int v1285), (0, .ref h0), (1, .int x1), (2, .int x2)]) hx hb dX12_sailsTo_158 hl (k := 0) rfl (by rw [e1395]; rfl) (by decide) rfl (fun ls hl => ?_)
            refine lv_goto (tgt := 34) hx hb dX12_sailsTo_161 (by decide) ?_
            exact ih_34 _ (by omega) H locs ls v1394 v1285  rfl (lv_sub hl [0, 1, 2, 3, 4] rfl) ⟨by omega, by omega⟩ ⟨by omega, by omega⟩ ⟨by omega, by omega⟩ (by omega) hI hS
  refine lv_aload_n hx hb dX12_sailsTo_0 rfl (lv_at hl 0 rfl) ?_
  refine gmA hx hb hts inT12 hown hK hI List.not_mem_nil hG0 3 (by decide) (hts _ (tb_c wd_1236)) rfl rfl dX12_sailsTo_1 (fun a1396 hq1397 hf1398 => ?_)
  refine lv_sipush (v := 136) hx hb dX12_sailsTo_4 (by decide) ?_
  refine lv_iconst (v := 4) hx hb dX12_sailsTo_7 (by decide) ?_
  refine lv_iload_n hx hb dX12_sailsTo_8 rfl (lv_at hl 1 rfl) ?_
  refine lv_imul hx hb dX12_sailsTo_9 ?_
  refine lv_topi (fun v1399 e1400 => ?_)
  have tv1399 : v1399.toInt = (4) * x1.toInt := iv_mul (by decide) rfl e1400 (by omega) (by omega)
  refine lv_iadd hx hb dX12_sailsTo_10 ?_
  refine lv_topi (fun v1401 e1402 => ?_)
  have tv1401 : v1401.toInt = (136) + v1399.toInt := iv_add (by decide) rfl e1402 (by omega) (by omega)
  obtain ⟨F1403, hA1404, hP1405⟩ := om_1 hI hq1397 List.not_mem_nil
  refine th_iald hx hb hK hA1404 0 rfl (iv_in (X := v1401.toInt) rfl (by omega) (by omega)) dX12_sailsTo_11 (fun v1406 e1407 => ?_)
  have k1408 := kg_boat0 (kOk.get (i := v1401) hP1405 e1407 (X := v1401.toInt) rfl (by omega) (by omega)) (by omega) (by omega) (by omega)
  refine lv_istore_n (lv' := [(3, .int v1406), (0, .ref h0), (1, .int x1), (2, .int x2)]) hx hb dX12_sailsTo_12 rfl hl (by decide) rfl (fun ls hl => ?_)
  refine lv_aload_n hx hb dX12_sailsTo_13 rfl (lv_at hl 1 rfl) ?_
  refine lv_iconst (v := 0) hx hb dX12_sailsTo_14 (by decide) ?_
  refine pmI (ty := .int) hx hb hts inT12 hown hK hI List.not_mem_nil hG0 hS ⟨_, hG0⟩ 29 (by decide) (hts _ (tb_c wd_1262)) rfl rfl (by decide +kernel) rfl rfl rfl (by decide) (by decide) dX12_sailsTo_15 (fun H locs hI hgP hS => ?_)
  have hg1409 := hgP.2.1
  have hf1398 := hgP.2.2.2 3 _ (by decide) (by decide) hf1398
  have hA1404 := va_at.kept hA1404 (hgP.1 _ (m_ne hq1397 hG0 (by first | decide | (dsimp only; decide))))
  refine lv_aload_n hx hb dX12_sailsTo_18 rfl (lv_at hl 1 rfl) ?_
  refine gmA hx hb hts inT12 hown hK hI List.not_mem_nil hG0 3 (by decide) (hts _ (tb_c wd_1236)) rfl rfl dX12_sailsTo_19 (fun a1410 hq1411 hf1412 => ?_)
  obtain rfl := fr.uniq (by decide) hf1398 hf1412
  refine lv_sipush (v := 136) hx hb dX12_sailsTo_22 (by decide) ?_
  refine lv_iconst (v := 4) hx hb dX12_sailsTo_25 (by decide) ?_
  refine lv_iload_n hx hb dX12_sailsTo_26 rfl (lv_at hl 2 rfl) ?_
  refine lv_imul hx hb dX12_sailsTo_27 ?_
  refine lv_topi (fun v1413 e1414 => ?_)
  have tv1413 : v1413.toInt = (4) * x1.toInt := iv_mul (by decide) rfl e1414 (by omega) (by omega)
  refine lv_iadd hx hb dX12_sailsTo_28 ?_
  refine lv_topi (fun v1415 e1416 => ?_)
  have tv1415 : v1415.toInt = (136) + v1413.toInt := iv_add (by decide) rfl e1416 (by omega) (by omega)
  refine lv_iconst (v := 1) hx hb dX12_sailsTo_29 (by decide) ?_
  refine lv_iadd hx hb dX12_sailsTo_30 ?_
  refine lv_topi (fun v1417 e1418 => ?_)
  have tv1417 : v1417.toInt = v1415.toInt + (1) := iv_add rfl (by decide) e1418 (by omega) (by omega)
  refine th_iald hx hb hK hA1404 0 rfl (iv_in (X := v1417.toInt) rfl (by omega) (by omega)) dX12_sailsTo_31 (fun v1419 e1420 => ?_)
  have k1421 := kg_boat1 (kOk.get (i := v1417) hP1405 e1420 (X := v1417.toInt) rfl (by omega) (by omega)) (by omega) (by omega) (by omega)
  refine lv_istore (lv' := [(4, .int v1419), (3, .int v1406), (0, .ref h0), (1, .int x1), (2, .int x2)]) hx hb dX12_sailsTo_32 hl (by decide) rfl (fun ls hl => ?_)
  exact J_34 _ H locs ls v1419 v1406  rfl (lv_sub hl [0, 1, 2, 3, 4] rfl) ⟨by omega, by omega⟩ ⟨by omega, by omega⟩ ⟨by omega, by omega⟩ (by omega) hI hS
