theorem wn_768 : (Cond.fieldLinkNest RX0 (32 : Nat) "NineRiver$Law" "size" "I" "NineRiver") ∈ lw_tbl := List.mem_append_right _ (List.mem_of_getElem? (i := 768) (by decide +kernel))
theorem wn_770 : (Cond.fieldLinkNest RX0 (37 : Nat) "NineRiver$Law" "kinds" "[I" "NineRiver") ∈ lw_tbl := List.mem_append_right _ (List.mem_of_getElem? (i := 770) (by decide +kernel))
theorem wn_772 : (Cond.fieldLinkNest RX0 (43 : Nat) "NineRiver$Law" "marks" "[I" "NineRiver") ∈ lw_tbl := List.mem_append_right _ (List.mem_of_getElem? (i := 772) (by decide +kernel))
theorem wn_774 : (Cond.fieldLinkNest RX0 (40 : Nat) "NineRiver$Law" "code" "[I" "NineRiver") ∈ lw_tbl := List.mem_append_right _ (List.mem_of_getElem? (i := 774) (by decide +kernel))
theorem wn_87 : (Cond.fieldLinkNest RX0 (23 : Nat) "NineRiver$State" "natural" "I" "NineRiver") ∈ lw_tbl := List.mem_append_right _ (List.mem_of_getElem? (i := 87) (by decide +kernel))
theorem wn_91 : (Cond.fieldLinkNest RX0 (29 : Nat) "NineRiver$State" "year" "I" "NineRiver") ∈ lw_tbl := List.mem_append_right _ (List.mem_of_getElem? (i := 91) (by decide +kernel))
theorem wp_6 : Cond.selects RX0 yX0_run yX0_run ∈ TB := tv 6 (by decide +kernel) (by decide +kernel)
theorem wd_179 : (Cond.fieldLink RX0 (15 : Nat) "NineRiver$Asker" "stack" "[J") ∈ TB := tw 179 (by decide +kernel) (by decide +kernel)
theorem wd_180 : (Cond.fieldLink RX0 (19 : Nat) "NineRiver$Asker" "isSo" "Z") ∈ TB := tw 180 (by decide +kernel) (by decide +kernel)
theorem wd_575 : (Cond.methodLink RX0 (46 : Nat) yX0_run) ∈ TB := tw 575 (by decide +kernel) (by decide +kernel)
theorem wd_577 : (Jvm.Cond.instanceMethod yX0_run) ∈ TB := tw 577 (by decide +kernel) (by decide +kernel)
theorem wd_578 : (Cond.code yX0_run cX0_run 14 (Option.some Jvm.ClassFile.FieldType.boolean)) ∈ TB := tw 578 (by decide +kernel) (by decide +kernel)
theorem wd_579 : (Cond.constantLong RX0 (51 : Nat) (1000000000 : Int64)) ∈ TB := tw 579 (by decide +kernel) (by decide +kernel)
theorem wd_580 : (Cond.constantLong RX0 (53 : Nat) (-1000000000 : Int64)) ∈ TB := tw 580 (by decide +kernel) (by decide +kernel)
theorem wd_581 : (Cond.constant RX0 (50 : Nat) (-2000000000 : Int32)) ∈ TB := tw 581 (by decide +kernel) (by decide +kernel)
theorem wd_7 : (Cond.initialized RX0) ∈ TB := tw 7 (by decide +kernel) (by decide +kernel)
theorem dX0_about_0 : decode cX0_about 0 = .ok (.aload_n 0, 1) := by decide +kernel
theorem dX0_about_1 : decode cX0_about 1 = .ok (.getfield 9, 3) := by decide +kernel
theorem dX0_about_4 : decode cX0_about 4 = .ok (.iconst 0, 1) := by decide +kernel
theorem dX0_about_5 : decode cX0_about 5 = .ok (.iload_n 1, 1) := by decide +kernel
theorem dX0_about_6 : decode cX0_about 6 = .ok (.iastore, 1) := by decide +kernel
theorem dX0_about_7 : decode cX0_about 7 = .ok (.aload_n 0, 1) := by decide +kernel
theorem dX0_about_8 : decode cX0_about 8 = .ok (.getfield 9, 3) := by decide +kernel
theorem dX0_about_11 : decode cX0_about 11 = .ok (.iconst 1, 1) := by decide +kernel
theorem dX0_about_12 : decode cX0_about 12 = .ok (.iload_n 2, 1) := by decide +kernel
theorem dX0_about_13 : decode cX0_about 13 = .ok (.bipush 24, 2) := by decide +kernel
theorem dX0_about_15 : decode cX0_about 15 = .ok (.irem, 1) := by decide +kernel
theorem dX0_about_16 : decode cX0_about 16 = .ok (.iastore, 1) := by decide +kernel
theorem dX0_about_17 : decode cX0_about 17 = .ok (.aload_n 0, 1) := by decide +kernel
theorem dX0_about_18 : decode cX0_about 18 = .ok (.getfield 9, 3) := by decide +kernel
theorem dX0_about_21 : decode cX0_about 21 = .ok (.iconst 2, 1) := by decide +kernel
theorem dX0_about_22 : decode cX0_about 22 = .ok (.iload_n 2, 1) := by decide +kernel
theorem dX0_about_23 : decode cX0_about 23 = .ok (.bipush 24, 2) := by decide +kernel
theorem dX0_about_25 : decode cX0_about 25 = .ok (.idiv, 1) := by decide +kernel
theorem dX0_about_26 : decode cX0_about 26 = .ok (.iastore, 1) := by decide +kernel
theorem dX0_about_27 : decode cX0_about 27 = .ok (.aload_n 0, 1) := by decide +kernel
theorem dX0_about_28 : decode cX0_about 28 = .ok (.getfield 9, 3) := by decide +kernel
theorem dX0_about_31 : decode cX0_about 31 = .ok (.iconst 3, 1) := by decide +kernel
theorem dX0_about_32 : decode cX0_about 32 = .ok (.iload_n 3, 1) := by decide +kernel
theorem dX0_about_33 : decode cX0_about 33 = .ok (.iastore, 1) := by decide +kernel
theorem dX0_about_34 : decode cX0_about 34 = .ok (.aload_n 0, 1) := by decide +kernel
theorem dX0_about_35 : decode cX0_about 35 = .ok (.getfield 9, 3) := by decide +kernel
theorem dX0_about_38 : decode cX0_about 38 = .ok (.iconst 4, 1) := by decide +kernel
theorem dX0_about_39 : decode cX0_about 39 = .ok (.iload 4, 2) := by decide +kernel
theorem dX0_about_41 : decode cX0_about 41 = .ok (.iastore, 1) := by decide +kernel
theorem dX0_about_42 : decode cX0_about 42 = .ok (.aload_n 0, 1) := by decide +kernel
theorem dX0_about_43 : decode cX0_about 43 = .ok (.getfield 9, 3) := by decide +kernel
theorem dX0_about_46 : decode cX0_about 46 = .ok (.iconst 5, 1) := by decide +kernel
theorem dX0_about_47 : decode cX0_about 47 = .ok (.iload 5, 2) := by decide +kernel
theorem dX0_about_49 : decode cX0_about 49 = .ok (.iastore, 1) := by decide +kernel
theorem dX0_about_50 : decode cX0_about 50 = .ok (.aload_n 0, 1) := by decide +kernel
theorem dX0_about_51 : decode cX0_about 51 = .ok (.getfield 9, 3) := by decide +kernel
theorem dX0_about_54 : decode cX0_about 54 = .ok (.bipush 6, 2) := by decide +kernel
theorem dX0_about_56 : decode cX0_about 56 = .ok (.aload 6, 2) := by decide +kernel
theorem dX0_about_58 : decode cX0_about 58 = .ok (.getfield 23, 3) := by decide +kernel
theorem dX0_about_61 : decode cX0_about 61 = .ok (.iastore, 1) := by decide +kernel
theorem dX0_about_62 : decode cX0_about 62 = .ok (.aload_n 0, 1) := by decide +kernel
theorem dX0_about_63 : decode cX0_about 63 = .ok (.getfield 9, 3) := by decide +kernel
theorem dX0_about_66 : decode cX0_about 66 = .ok (.bipush 7, 2) := by decide +kernel
theorem dX0_about_68 : decode cX0_about 68 = .ok (.iconst (-1), 1) := by decide +kernel
theorem dX0_about_69 : decode cX0_about 69 = .ok (.iastore, 1) := by decide +kernel
theorem dX0_about_70 : decode cX0_about 70 = .ok (.aload_n 0, 1) := by decide +kernel
theorem dX0_about_71 : decode cX0_about 71 = .ok (.getfield 9, 3) := by decide +kernel
theorem dX0_about_74 : decode cX0_about 74 = .ok (.bipush 8, 2) := by decide +kernel
theorem dX0_about_76 : decode cX0_about 76 = .ok (.aload 6, 2) := by decide +kernel
theorem dX0_about_78 : decode cX0_about 78 = .ok (.getfield 29, 3) := by decide +kernel
theorem dX0_about_81 : decode cX0_about 81 = .ok (.iastore, 1) := by decide +kernel
theorem dX0_about_82 : decode cX0_about 82 = .ok (.return_, 1) := by decide +kernel
set_option maxHeartbeats 4000000 in
set_option maxRecDepth 100000 in
theorem c_X0_about (l : Launch) (E : Nat → ClassId) (D : va_G) (G : th_G) (h0 : Nat) (hG0 : G h0 = some (8, 0)) (x1 : Int32) (x2 : Int32) (x3 : Int32) (x4 : Int32) (x5 : Int32) (p6 : Nat) (hp6 : G p6 = some (6, 0)) : Met l yX0_about (tb (.code yX0_about cX0_about 7 none)) (rm 0) (va_Pc [.ref h0, .int x1, .int x2, .int x3, .int x4, .int x5, .ref p6] (th_P E D G)) (QV E D G) 0 0 (th_A G) := by
  refine Met.ofW (cc := cX0_about) (maxL := 7) (ret := none) (by decide) rfl ?_
  intro p e s m args below meth c s₁ B hml hv
  obtain ⟨hav, hI, hN, hK⟩ := hv
  have hx := B.exec
  have hb := B.bytes
  have hr := B.returns
  have hts := atoms_spec (ws := tb (.code yX0_about cX0_about 7 none)) B.pre
  have hown : s.vm.findClass RX0 = some m.cls := findClass_of_methodNamed B.named
  have hlocks := B.notSynchronized
  have hS : va_S (th_A G) s.heap s.heap [] := va_S.rf
  have hl := lv_entry ([.ref h0, .int x1, .int x2, .int x3, .int x4, .int x5, .ref p6]) (n := 7) (Nat.le_of_ble_eq_true rfl)
  rw [show entryFrame m args 7 = entryFrame m ([.ref h0, .int x1, .int x2, .int x3, .int x4, .int x5, .ref p6] : List Value).toArray 7 from by rw [hav], lg_entry_eq]
  generalize (lg_sl ([.ref h0, .int x1, .int x2, .int x3, .int x4, .int x5, .ref p6]) ++ List.replicate (7 - (lg_sl ([.ref h0, .int x1, .int x2, .int x3, .int x4, .int x5, .ref p6])).length) Slot.unset).toArray = ls at hl ⊢
  have hl : lv_has ls 7 [(0, .ref h0), (1, .int x1), (2, .int x2), (3, .int x3), (4, .int x4), (5, .int x5), (6, .ref p6)] := hl
  generalize hR : (headSpec (tb (.code yX0_about cX0_about 7 none)) (rm 0)).room = R
  have hR := hR.symm
  generalize hQ : MQ below (QV E D G) args s 0 0 (th_A G) = QF
  have hQ := hQ.symm
  refine lv_aload_n hx hb dX0_about_0 rfl (lv_at hl 0 rfl) ?_
  obtain ⟨a1, a3, w5, hO, hq2, hq4⟩ := op_8 hI hG0 List.not_mem_nil
  have hI := th_I.weak (a := h0) hI
  refine th_get hx hb hts inT0 hown hK hO rfl 0 (by decide) (hts _ (tb_c wd_178)) rfl rfl dX0_about_1 ?_
  refine lv_iconst (v := 0) hx hb dX0_about_4 (by decide) ?_
  refine lv_iload_n hx hb dX0_about_5 rfl (lv_at hl 1 rfl) ?_
  obtain ⟨_, hA6⟩ := op_0 hI hq2 (th_ne hG0 hq2 (show (8 : Nat) ≠ 0 by decide))
  refine th_iast hx hb hK hA6 0 rfl hS ⟨_, hq2⟩ (iv_in (X := (0)) (by decide) (by omega) (by omega)) dX0_about_6 (fun H locs hA6 oq hS => ?_)
  have hI := th_I.put hI hq2 hA6 ok_0 oq
  have hO := hO.kept (oq _ (fun z => th_ne hG0 hq2 (show (8 : Nat) ≠ 0 by decide) (List.mem_singleton.mpr z.symm)))
  refine lv_aload_n hx hb dX0_about_7 rfl (lv_at hl 0 rfl) ?_
  refine th_get hx hb hts inT0 hown hK hO rfl 0 (by decide) (hts _ (tb_c wd_178)) rfl rfl dX0_about_8 ?_
  refine lv_iconst (v := 1) hx hb dX0_about_11 (by decide) ?_
  refine lv_iload_n hx hb dX0_about_12 rfl (lv_at hl 2 rfl) ?_
  refine lv_bipush (v := 24) hx hb dX0_about_13 (by decide) ?_
  refine lv_irem hx hb dX0_about_15 (by decide) ?_
  refine lv_topi (fun v7 e8 => ?_)
  obtain ⟨_, hA9⟩ := op_0 hI hq2 (th_ne hG0 hq2 (show (8 : Nat) ≠ 0 by decide))
  refine th_iast hx hb hK hA9 0 rfl hS ⟨_, hq2⟩ (iv_in (X := (1)) (by decide) (by omega) (by omega)) dX0_about_16 (fun H locs hA9 oq hS => ?_)
  have hI := th_I.put hI hq2 hA9 ok_0 oq
  have hO := hO.kept (oq _ (fun z => th_ne hG0 hq2 (show (8 : Nat) ≠ 0 by decide) (List.mem_singleton.mpr z.symm)))
  refine lv_aload_n hx hb dX0_about_17 rfl (lv_at hl 0 rfl) ?_
  refine th_get hx hb hts inT0 hown hK hO rfl 0 (by decide) (hts _ (tb_c wd_178)) rfl rfl dX0_about_18 ?_
  refine lv_iconst (v := 2) hx hb dX0_about_21 (by decide) ?_
  refine lv_iload_n hx hb dX0_about_22 rfl (lv_at hl 2 rfl) ?_
  refine lv_bipush (v := 24) hx hb dX0_about_23 (by decide) ?_
  refine lv_idiv hx hb dX0_about_25 (by decide) ?_
  refine lv_topi (fun v10 e11 => ?_)
  obtain ⟨_, hA12⟩ := op_0 hI hq2 (th_ne hG0 hq2 (show (8 : Nat) ≠ 0 by decide))
  refine th_iast hx hb hK hA12 0 rfl hS ⟨_, hq2⟩ (iv_in (X := (2)) (by decide) (by omega) (by omega)) dX0_about_26 (fun H locs hA12 oq hS => ?_)
  have hI := th_I.put hI hq2 hA12 ok_0 oq
  have hO := hO.kept (oq _ (fun z => th_ne hG0 hq2 (show (8 : Nat) ≠ 0 by decide) (List.mem_singleton.mpr z.symm)))
  refine lv_aload_n hx hb dX0_about_27 rfl (lv_at hl 0 rfl) ?_
  refine th_get hx hb hts inT0 hown hK hO rfl 0 (by decide) (hts _ (tb_c wd_178)) rfl rfl dX0_about_28 ?_
  refine lv_iconst (v := 3) hx hb dX0_about_31 (by decide) ?_
  refine lv_iload_n hx hb dX0_about_32 rfl (lv_at hl 3 rfl) ?_
  obtain ⟨_, hA13⟩ := op_0 hI hq2 (th_ne hG0 hq2 (show (8 : Nat) ≠ 0 by decide))
  refine th_iast hx hb hK hA13 0 rfl hS ⟨_, hq2⟩ (iv_in (X := (3)) (by decide) (by omega) (by omega)) dX0_about_33 (fun H locs hA13 oq hS => ?_)
  have hI := th_I.put hI hq2 hA13 ok_0 oq
  have hO := hO.kept (oq _ (fun z => th_ne hG0 hq2 (show (8 : Nat) ≠ 0 by decide) (List.mem_singleton.mpr z.symm)))
  refine lv_aload_n hx hb dX0_about_34 rfl (lv_at hl 0 rfl) ?_
  refine th_get hx hb hts inT0 hown hK hO rfl 0 (by decide) (hts _ (tb_c wd_178)) rfl rfl dX0_about_35 ?_
  refine lv_iconst (v := 4) hx hb dX0_about_38 (by decide) ?_
  refine lv_iload hx hb dX0_about_39 (lv_at hl 4 rfl) ?_
  obtain ⟨_, hA14⟩ := op_0 hI hq2 (th_ne hG0 hq2 (show (8 : Nat) ≠ 0 by decide))
  refine th_iast hx hb hK hA14 0 rfl hS ⟨_, hq2⟩ (iv_in (X := (4)) (by decide) (by omega) (by omega)) dX0_about_41 (fun H locs hA14 oq hS => ?_)
  have hI := th_I.put hI hq2 hA14 ok_0 oq
  have hO := hO.kept (oq _ (fun z => th_ne hG0 hq2 (show (8 : Nat) ≠ 0 by decide) (List.mem_singleton.mpr z.symm)))
  refine lv_aload_n hx hb dX0_about_42 rfl (lv_at hl 0 rfl) ?_
  refine th_get hx hb hts inT0 hown hK hO rfl 0 (by decide) (hts _ (tb_c wd_178)) rfl rfl dX0_about_43 ?_
  refine lv_iconst (v := 5) hx hb dX0_about_46 (by decide) ?_
  refine lv_iload hx hb dX0_about_47 (lv_at hl 5 rfl) ?_
  obtain ⟨_, hA15⟩ := op_0 hI hq2 (th_ne hG0 hq2 (show (8 : Nat) ≠ 0 by decide))
  refine th_iast hx hb hK hA15 0 rfl hS ⟨_, hq2⟩ (iv_in (X := (5)) (by decide) (by omega) (by omega)) dX0_about_49 (fun H locs hA15 oq hS => ?_)
  have hI := th_I.put hI hq2 hA15 ok_0 oq
  have hO := hO.kept (oq _ (fun z => th_ne hG0 hq2 (show (8 : Nat) ≠ 0 by decide) (List.mem_singleton.mpr z.symm)))
  refine lv_aload_n hx hb dX0_about_50 rfl (lv_at hl 0 rfl) ?_
  refine th_get hx hb hts inT0 hown hK hO rfl 0 (by decide) (hts _ (tb_c wd_178)) rfl rfl dX0_about_51 ?_
  refine lv_bipush (v := 6) hx hb dX0_about_54 (by decide) ?_
  refine lv_aload hx hb dX0_about_56 (lv_at hl 6 rfl) ?_
  have hI := th_I.close hI hG0 hO (ok_8 hq2 hq4)
  obtain ⟨a16, a18, a20, a22, a24, a26, a28, a30, a32, a34, w36, w39, w40, w41, hO, hq17, hq19, hq21, hq23, hq25, hq27, hq29, hq31, hq33, hq35, ⟨k37, k38⟩⟩ := op_6 hI hp6 List.not_mem_nil
  have hI := th_I.weak (a := p6) hI
  refine th_getN hx hb hts inT6 hown hK hN hO rfl 12 (by decide) wn_87 rfl rfl dX0_about_58 ?_
  obtain ⟨_, hA42⟩ := op_0 hI hq2 (th_ne hp6 hq2 (show (6 : Nat) ≠ 0 by decide))
  refine th_iast hx hb hK hA42 0 rfl hS ⟨_, hq2⟩ (iv_in (X := (6)) (by decide) (by omega) (by omega)) dX0_about_61 (fun H locs hA42 oq hS => ?_)
  have hI := th_I.put hI hq2 hA42 ok_0 oq
  have hO := hO.kept (oq _ (fun z => th_ne hp6 hq2 (show (6 : Nat) ≠ 0 by decide) (List.mem_singleton.mpr z.symm)))
  refine lv_aload_n hx hb dX0_about_62 rfl (lv_at hl 0 rfl) ?_
  have hI := th_I.close hI hp6 hO (ok_6 hq17 hq19 hq21 hq23 hq25 hq27 hq29 hq31 hq33 hq35 ⟨by omega, by omega⟩)
  obtain ⟨a43, a45, w47, hO, hq44, hq46⟩ := op_8 hI hG0 List.not_mem_nil
  have hI := th_I.weak (a := h0) hI
  refine th_get hx hb hts inT0 hown hK hO rfl 0 (by decide) (hts _ (tb_c wd_178)) rfl rfl dX0_about_63 ?_
  refine lv_bipush (v := 7) hx hb dX0_about_66 (by decide) ?_
  refine lv_iconst (v := (-1)) hx hb dX0_about_68 (by decide) ?_
  obtain ⟨_, hA48⟩ := op_0 hI hq44 (th_ne hG0 hq44 (show (8 : Nat) ≠ 0 by decide))
  refine th_iast hx hb hK hA48 0 rfl hS ⟨_, hq44⟩ (iv_in (X := (7)) (by decide) (by omega) (by omega)) dX0_about_69 (fun H locs hA48 oq hS => ?_)
  have hI := th_I.put hI hq44 hA48 ok_0 oq
  have hO := hO.kept (oq _ (fun z => th_ne hG0 hq44 (show (8 : Nat) ≠ 0 by decide) (List.mem_singleton.mpr z.symm)))
  refine lv_aload_n hx hb dX0_about_70 rfl (lv_at hl 0 rfl) ?_
  refine th_get hx hb hts inT0 hown hK hO rfl 0 (by decide) (hts _ (tb_c wd_178)) rfl rfl dX0_about_71 ?_
  refine lv_bipush (v := 8) hx hb dX0_about_74 (by decide) ?_
  refine lv_aload hx hb dX0_about_76 (lv_at hl 6 rfl) ?_
  have hI := th_I.close hI hG0 hO (ok_8 hq44 hq46)
  obtain ⟨a49, a51, a53, a55, a57, a59, a61, a63, a65, a67, w69, w72, w73, w74, hO, hq50, hq52, hq54, hq56, hq58, hq60, hq62, hq64, hq66, hq68, ⟨k70, k71⟩⟩ := op_6 hI hp6 List.not_mem_nil
  have hI := th_I.weak (a := p6) hI
  refine th_getN hx hb hts inT6 hown hK hN hO rfl 13 (by decide) wn_91 rfl rfl dX0_about_78 ?_
  obtain ⟨_, hA75⟩ := op_0 hI hq44 (th_ne hp6 hq44 (show (6 : Nat) ≠ 0 by decide))
  refine th_iast hx hb hK hA75 0 rfl hS ⟨_, hq44⟩ (iv_in (X := (8)) (by decide) (by omega) (by omega)) dX0_about_81 (fun H locs hA75 oq hS => ?_)
  have hI := th_I.put hI hq44 hA75 ok_0 oq
  have hO := hO.kept (oq _ (fun z => th_ne hp6 hq44 (show (6 : Nat) ≠ 0 by decide) (List.mem_singleton.mpr z.symm)))
  have hI := th_I.close hI hp6 hO (ok_6 hq50 hq52 hq54 hq56 hq58 hq60 hq62 hq64 hq66 hq68 ⟨by omega, by omega⟩)
  rw [hQ]
  exact W.vret hx hb hr (fun t ht hW => ⟨⟨(), rfl, trivial, by rw [ht]; exact hI, hN.warm hW, va_K.moved hW.alike hK⟩, hS.F ht⟩) hS.2.2 dX0_about_82
theorem dX0_run_0 : decode cX0_run 0 = .ok (.iconst 0, 1) := by decide +kernel
theorem dX0_run_1 : decode cX0_run 1 = .ok (.istore 4, 2) := by decide +kernel
theorem dX0_run_3 : decode cX0_run 3 = .ok (.iload_n 2, 1) := by decide +kernel
theorem dX0_run_4 : decode cX0_run 4 = .ok (.istore 5, 2) := by decide +kernel
theorem dX0_run_6 : decode cX0_run 6 = .ok (.iload 5, 2) := by decide +kernel
theorem dX0_run_8 : decode cX0_run 8 = .ok (.ifCond .lt 411, 3) := by decide +kernel
theorem dX0_run_11 : decode cX0_run 11 = .ok (.iload 5, 2) := by decide +kernel
theorem dX0_run_13 : decode cX0_run 13 = .ok (.iload_n 3, 1) := by decide +kernel
theorem dX0_run_14 : decode cX0_run 14 = .ok (.if_icmp .ge 405, 3) := by decide +kernel
theorem dX0_run_17 : decode cX0_run 17 = .ok (.iload 5, 2) := by decide +kernel
theorem dX0_run_19 : decode cX0_run 19 = .ok (.aload_n 1, 1) := by decide +kernel
theorem dX0_run_20 : decode cX0_run 20 = .ok (.arraylength, 1) := by decide +kernel
theorem dX0_run_21 : decode cX0_run 21 = .ok (.if_icmp .ge 398, 3) := by decide +kernel
theorem dX0_run_24 : decode cX0_run 24 = .ok (.aload_n 1, 1) := by decide +kernel
theorem dX0_run_25 : decode cX0_run 25 = .ok (.iload 5, 2) := by decide +kernel
theorem dX0_run_27 : decode cX0_run 27 = .ok (.iaload, 1) := by decide +kernel
theorem dX0_run_28 : decode cX0_run 28 = .ok (.bipush 15, 2) := by decide +kernel
theorem dX0_run_30 : decode cX0_run 30 = .ok (.iand, 1) := by decide +kernel
theorem dX0_run_31 : decode cX0_run 31 = .ok (.istore 6, 2) := by decide +kernel
theorem dX0_run_33 : decode cX0_run 33 = .ok (.aload_n 1, 1) := by decide +kernel
theorem dX0_run_34 : decode cX0_run 34 = .ok (.iload 5, 2) := by decide +kernel
theorem dX0_run_36 : decode cX0_run 36 = .ok (.iaload, 1) := by decide +kernel
theorem dX0_run_37 : decode cX0_run 37 = .ok (.iconst 4, 1) := by decide +kernel
theorem dX0_run_38 : decode cX0_run 38 = .ok (.ishr, 1) := by decide +kernel
theorem dX0_run_39 : decode cX0_run 39 = .ok (.istore 7, 2) := by decide +kernel
theorem dX0_run_41 : decode cX0_run 41 = .ok (.iload 6, 2) := by decide +kernel
theorem dX0_run_43 : decode cX0_run 43 = .ok (.ifCond .eq 9, 3) := by decide +kernel
theorem dX0_run_46 : decode cX0_run 46 = .ok (.iload 6, 2) := by decide +kernel
theorem dX0_run_48 : decode cX0_run 48 = .ok (.iconst 1, 1) := by decide +kernel
theorem dX0_run_49 : decode cX0_run 49 = .ok (.if_icmp .ne 68, 3) := by decide +kernel
theorem dX0_run_52 : decode cX0_run 52 = .ok (.iload 4, 2) := by decide +kernel
theorem dX0_run_54 : decode cX0_run 54 = .ok (.aload_n 0, 1) := by decide +kernel
theorem dX0_run_55 : decode cX0_run 55 = .ok (.getfield 15, 3) := by decide +kernel
theorem dX0_run_58 : decode cX0_run 58 = .ok (.arraylength, 1) := by decide +kernel
theorem dX0_run_59 : decode cX0_run 59 = .ok (.if_icmp .ge 24, 3) := by decide +kernel
theorem dX0_run_62 : decode cX0_run 62 = .ok (.iload 7, 2) := by decide +kernel
theorem dX0_run_64 : decode cX0_run 64 = .ok (.ifCond .lt 19, 3) := by decide +kernel
theorem dX0_run_67 : decode cX0_run 67 = .ok (.iload 6, 2) := by decide +kernel
theorem dX0_run_69 : decode cX0_run 69 = .ok (.iconst 1, 1) := by decide +kernel
theorem dX0_run_70 : decode cX0_run 70 = .ok (.if_icmp .ne 15, 3) := by decide +kernel
theorem dX0_run_73 : decode cX0_run 73 = .ok (.iload 7, 2) := by decide +kernel
theorem dX0_run_75 : decode cX0_run 75 = .ok (.aload_n 0, 1) := by decide +kernel
theorem dX0_run_76 : decode cX0_run 76 = .ok (.getfield 9, 3) := by decide +kernel
theorem dX0_run_79 : decode cX0_run 79 = .ok (.arraylength, 1) := by decide +kernel
theorem dX0_run_80 : decode cX0_run 80 = .ok (.if_icmp .lt 5, 3) := by decide +kernel
theorem dX0_run_83 : decode cX0_run 83 = .ok (.iconst 0, 1) := by decide +kernel
theorem dX0_run_84 : decode cX0_run 84 = .ok (.ireturn, 1) := by decide +kernel
theorem dX0_run_85 : decode cX0_run 85 = .ok (.aload_n 0, 1) := by decide +kernel
theorem dX0_run_86 : decode cX0_run 86 = .ok (.getfield 15, 3) := by decide +kernel
theorem dX0_run_89 : decode cX0_run 89 = .ok (.iload 4, 2) := by decide +kernel
theorem dX0_run_91 : decode cX0_run 91 = .ok (.iload 6, 2) := by decide +kernel
theorem dX0_run_93 : decode cX0_run 93 = .ok (.ifCond .ne 9, 3) := by decide +kernel
theorem dX0_run_96 : decode cX0_run 96 = .ok (.iload 7, 2) := by decide +kernel
theorem dX0_run_98 : decode cX0_run 98 = .ok (.i2l, 1) := by decide +kernel
theorem dX0_run_99 : decode cX0_run 99 = .ok (.goto 11, 3) := by decide +kernel
theorem dX0_run_102 : decode cX0_run 102 = .ok (.aload_n 0, 1) := by decide +kernel
theorem dX0_run_103 : decode cX0_run 103 = .ok (.getfield 9, 3) := by decide +kernel
theorem dX0_run_106 : decode cX0_run 106 = .ok (.iload 7, 2) := by decide +kernel
theorem dX0_run_108 : decode cX0_run 108 = .ok (.iaload, 1) := by decide +kernel
theorem dX0_run_109 : decode cX0_run 109 = .ok (.i2l, 1) := by decide +kernel
theorem dX0_run_110 : decode cX0_run 110 = .ok (.lastore, 1) := by decide +kernel
theorem dX0_run_111 : decode cX0_run 111 = .ok (.iinc 4 1, 3) := by decide +kernel
theorem dX0_run_114 : decode cX0_run 114 = .ok (.goto 299, 3) := by decide +kernel
theorem dX0_run_117 : decode cX0_run 117 = .ok (.iload 6, 2) := by decide +kernel
theorem dX0_run_119 : decode cX0_run 119 = .ok (.bipush 10, 2) := by decide +kernel
theorem dX0_run_121 : decode cX0_run 121 = .ok (.if_icmp .ne 22, 3) := by decide +kernel
theorem dX0_run_124 : decode cX0_run 124 = .ok (.aload_n 0, 1) := by decide +kernel
theorem dX0_run_125 : decode cX0_run 125 = .ok (.aload_n 0, 1) := by decide +kernel
theorem dX0_run_126 : decode cX0_run 126 = .ok (.getfield 19, 3) := by decide +kernel
theorem dX0_run_129 : decode cX0_run 129 = .ok (.ifCond .ne 7, 3) := by decide +kernel
theorem dX0_run_132 : decode cX0_run 132 = .ok (.iconst 1, 1) := by decide +kernel
theorem dX0_run_133 : decode cX0_run 133 = .ok (.goto 4, 3) := by decide +kernel
theorem dX0_run_136 : decode cX0_run 136 = .ok (.iconst 0, 1) := by decide +kernel
theorem dX0_run_137 : decode cX0_run 137 = .ok (.putfield 19, 3) := by decide +kernel
theorem dX0_run_140 : decode cX0_run 140 = .ok (.goto 273, 3) := by decide +kernel
theorem dX0_run_143 : decode cX0_run 143 = .ok (.iload 6, 2) := by decide +kernel
theorem dX0_run_145 : decode cX0_run 145 = .ok (.bipush 11, 2) := by decide +kernel
theorem dX0_run_147 : decode cX0_run 147 = .ok (.if_icmp .lt 43, 3) := by decide +kernel
theorem dX0_run_150 : decode cX0_run 150 = .ok (.aload_n 0, 1) := by decide +kernel
theorem dX0_run_151 : decode cX0_run 151 = .ok (.getfield 19, 3) := by decide +kernel
theorem dX0_run_154 : decode cX0_run 154 = .ok (.iload 6, 2) := by decide +kernel
theorem dX0_run_156 : decode cX0_run 156 = .ok (.bipush 11, 2) := by decide +kernel
theorem dX0_run_158 : decode cX0_run 158 = .ok (.if_icmp .ne 7, 3) := by decide +kernel
theorem dX0_run_161 : decode cX0_run 161 = .ok (.iconst 1, 1) := by decide +kernel
theorem dX0_run_162 : decode cX0_run 162 = .ok (.goto 4, 3) := by decide +kernel
theorem dX0_run_165 : decode cX0_run 165 = .ok (.iconst 0, 1) := by decide +kernel
theorem dX0_run_166 : decode cX0_run 166 = .ok (.if_icmp .ne 17, 3) := by decide +kernel
theorem dX0_run_169 : decode cX0_run 169 = .ok (.iload 7, 2) := by decide +kernel
theorem dX0_run_171 : decode cX0_run 171 = .ok (.iload 5, 2) := by decide +kernel
theorem dX0_run_173 : decode cX0_run 173 = .ok (.if_icmp .le 10, 3) := by decide +kernel
theorem dX0_run_176 : decode cX0_run 176 = .ok (.iload 7, 2) := by decide +kernel
theorem dX0_run_178 : decode cX0_run 178 = .ok (.iconst 1, 1) := by decide +kernel
theorem dX0_run_179 : decode cX0_run 179 = .ok (.isub, 1) := by decide +kernel
theorem dX0_run_180 : decode cX0_run 180 = .ok (.goto 5, 3) := by decide +kernel
theorem dX0_run_183 : decode cX0_run 183 = .ok (.iload 5, 2) := by decide +kernel
theorem dX0_run_185 : decode cX0_run 185 = .ok (.istore 5, 2) := by decide +kernel
theorem dX0_run_187 : decode cX0_run 187 = .ok (.goto 226, 3) := by decide +kernel
theorem dX0_run_190 : decode cX0_run 190 = .ok (.iload 4, 2) := by decide +kernel
theorem dX0_run_192 : decode cX0_run 192 = .ok (.iconst 2, 1) := by decide +kernel
theorem dX0_run_193 : decode cX0_run 193 = .ok (.if_icmp .ge 5, 3) := by decide +kernel
theorem dX0_run_196 : decode cX0_run 196 = .ok (.iconst 0, 1) := by decide +kernel
theorem dX0_run_197 : decode cX0_run 197 = .ok (.ireturn, 1) := by decide +kernel
theorem dX0_run_198 : decode cX0_run 198 = .ok (.iinc 4 (-1), 3) := by decide +kernel
theorem dX0_run_201 : decode cX0_run 201 = .ok (.aload_n 0, 1) := by decide +kernel
theorem dX0_run_202 : decode cX0_run 202 = .ok (.getfield 15, 3) := by decide +kernel
theorem dX0_run_205 : decode cX0_run 205 = .ok (.iload 4, 2) := by decide +kernel
theorem dX0_run_207 : decode cX0_run 207 = .ok (.iconst 1, 1) := by decide +kernel
theorem dX0_run_208 : decode cX0_run 208 = .ok (.isub, 1) := by decide +kernel
theorem dX0_run_209 : decode cX0_run 209 = .ok (.laload, 1) := by decide +kernel
theorem dX0_run_210 : decode cX0_run 210 = .ok (.lstore 8, 2) := by decide +kernel
theorem dX0_run_212 : decode cX0_run 212 = .ok (.aload_n 0, 1) := by decide +kernel
theorem dX0_run_213 : decode cX0_run 213 = .ok (.getfield 15, 3) := by decide +kernel
theorem dX0_run_216 : decode cX0_run 216 = .ok (.iload 4, 2) := by decide +kernel
theorem dX0_run_218 : decode cX0_run 218 = .ok (.laload, 1) := by decide +kernel
theorem dX0_run_219 : decode cX0_run 219 = .ok (.lstore 10, 2) := by decide +kernel
theorem dX0_run_221 : decode cX0_run 221 = .ok (.iload 6, 2) := by decide +kernel
theorem dX0_run_223 : decode cX0_run 223 = .ok (.bipush 7, 2) := by decide +kernel
theorem dX0_run_225 : decode cX0_run 225 = .ok (.if_icmp .lt 72, 3) := by decide +kernel
theorem dX0_run_228 : decode cX0_run 228 = .ok (.aload_n 0, 1) := by decide +kernel
theorem dX0_run_229 : decode cX0_run 229 = .ok (.iload 6, 2) := by decide +kernel
theorem dX0_run_231 : decode cX0_run 231 = .ok (.bipush 7, 2) := by decide +kernel
theorem dX0_run_233 : decode cX0_run 233 = .ok (.if_icmp .ne 19, 3) := by decide +kernel
theorem dX0_run_236 : decode cX0_run 236 = .ok (.lload 8, 2) := by decide +kernel
theorem dX0_run_238 : decode cX0_run 238 = .ok (.lload 10, 2) := by decide +kernel
theorem dX0_run_240 : decode cX0_run 240 = .ok (.lcmp, 1) := by decide +kernel
theorem dX0_run_241 : decode cX0_run 241 = .ok (.ifCond .ge 7, 3) := by decide +kernel
theorem dX0_run_244 : decode cX0_run 244 = .ok (.iconst 1, 1) := by decide +kernel
theorem dX0_run_245 : decode cX0_run 245 = .ok (.goto 43, 3) := by decide +kernel
theorem dX0_run_248 : decode cX0_run 248 = .ok (.iconst 0, 1) := by decide +kernel
theorem dX0_run_249 : decode cX0_run 249 = .ok (.goto 39, 3) := by decide +kernel
theorem dX0_run_252 : decode cX0_run 252 = .ok (.iload 6, 2) := by decide +kernel
theorem dX0_run_254 : decode cX0_run 254 = .ok (.bipush 8, 2) := by decide +kernel
theorem dX0_run_256 : decode cX0_run 256 = .ok (.if_icmp .ne 19, 3) := by decide +kernel
theorem dX0_run_259 : decode cX0_run 259 = .ok (.lload 8, 2) := by decide +kernel
theorem dX0_run_261 : decode cX0_run 261 = .ok (.lload 10, 2) := by decide +kernel
theorem dX0_run_263 : decode cX0_run 263 = .ok (.lcmp, 1) := by decide +kernel
theorem dX0_run_264 : decode cX0_run 264 = .ok (.ifCond .le 7, 3) := by decide +kernel
theorem dX0_run_267 : decode cX0_run 267 = .ok (.iconst 1, 1) := by decide +kernel
theorem dX0_run_268 : decode cX0_run 268 = .ok (.goto 20, 3) := by decide +kernel
theorem dX0_run_271 : decode cX0_run 271 = .ok (.iconst 0, 1) := by decide +kernel
theorem dX0_run_272 : decode cX0_run 272 = .ok (.goto 16, 3) := by decide +kernel
theorem dX0_run_275 : decode cX0_run 275 = .ok (.lload 8, 2) := by decide +kernel
theorem dX0_run_277 : decode cX0_run 277 = .ok (.lload 10, 2) := by decide +kernel
theorem dX0_run_279 : decode cX0_run 279 = .ok (.lcmp, 1) := by decide +kernel
theorem dX0_run_280 : decode cX0_run 280 = .ok (.ifCond .ne 7, 3) := by decide +kernel
theorem dX0_run_283 : decode cX0_run 283 = .ok (.iconst 1, 1) := by decide +kernel
theorem dX0_run_284 : decode cX0_run 284 = .ok (.goto 4, 3) := by decide +kernel
theorem dX0_run_287 : decode cX0_run 287 = .ok (.iconst 0, 1) := by decide +kernel
theorem dX0_run_288 : decode cX0_run 288 = .ok (.putfield 19, 3) := by decide +kernel
theorem dX0_run_291 : decode cX0_run 291 = .ok (.iinc 4 (-1), 3) := by decide +kernel
theorem dX0_run_294 : decode cX0_run 294 = .ok (.goto 119, 3) := by decide +kernel
theorem dX0_run_297 : decode cX0_run 297 = .ok (.lload 10, 2) := by decide +kernel
theorem dX0_run_299 : decode cX0_run 299 = .ok (.lconst 0, 1) := by decide +kernel
theorem dX0_run_300 : decode cX0_run 300 = .ok (.lcmp, 1) := by decide +kernel
theorem dX0_run_301 : decode cX0_run 301 = .ok (.ifCond .ne 18, 3) := by decide +kernel
theorem dX0_run_304 : decode cX0_run 304 = .ok (.iload 6, 2) := by decide +kernel
theorem dX0_run_306 : decode cX0_run 306 = .ok (.iconst 5, 1) := by decide +kernel
theorem dX0_run_307 : decode cX0_run 307 = .ok (.if_icmp .eq 10, 3) := by decide +kernel
theorem dX0_run_310 : decode cX0_run 310 = .ok (.iload 6, 2) := by decide +kernel
theorem dX0_run_312 : decode cX0_run 312 = .ok (.bipush 6, 2) := by decide +kernel
theorem dX0_run_314 : decode cX0_run 314 = .ok (.if_icmp .ne 5, 3) := by decide +kernel
theorem dX0_run_317 : decode cX0_run 317 = .ok (.iconst 0, 1) := by decide +kernel
theorem dX0_run_318 : decode cX0_run 318 = .ok (.ireturn, 1) := by decide +kernel
theorem dX0_run_319 : decode cX0_run 319 = .ok (.iload 6, 2) := by decide +kernel
theorem dX0_run_321 : decode cX0_run 321 = .ok (.iconst 2, 1) := by decide +kernel
theorem dX0_run_322 : decode cX0_run 322 = .ok (.if_icmp .ne 11, 3) := by decide +kernel
theorem dX0_run_325 : decode cX0_run 325 = .ok (.lload 8, 2) := by decide +kernel
theorem dX0_run_327 : decode cX0_run 327 = .ok (.lload 10, 2) := by decide +kernel
theorem dX0_run_329 : decode cX0_run 329 = .ok (.ladd, 1) := by decide +kernel
theorem dX0_run_330 : decode cX0_run 330 = .ok (.goto 50, 3) := by decide +kernel
theorem dX0_run_333 : decode cX0_run 333 = .ok (.iload 6, 2) := by decide +kernel
theorem dX0_run_335 : decode cX0_run 335 = .ok (.iconst 3, 1) := by decide +kernel
theorem dX0_run_336 : decode cX0_run 336 = .ok (.if_icmp .ne 11, 3) := by decide +kernel
theorem dX0_run_339 : decode cX0_run 339 = .ok (.lload 8, 2) := by decide +kernel
theorem dX0_run_341 : decode cX0_run 341 = .ok (.lload 10, 2) := by decide +kernel
theorem dX0_run_343 : decode cX0_run 343 = .ok (.lsub, 1) := by decide +kernel
theorem dX0_run_344 : decode cX0_run 344 = .ok (.goto 36, 3) := by decide +kernel
theorem dX0_run_347 : decode cX0_run 347 = .ok (.iload 6, 2) := by decide +kernel
theorem dX0_run_349 : decode cX0_run 349 = .ok (.iconst 4, 1) := by decide +kernel
theorem dX0_run_350 : decode cX0_run 350 = .ok (.if_icmp .ne 11, 3) := by decide +kernel
theorem dX0_run_353 : decode cX0_run 353 = .ok (.lload 8, 2) := by decide +kernel
theorem dX0_run_355 : decode cX0_run 355 = .ok (.lload 10, 2) := by decide +kernel
theorem dX0_run_357 : decode cX0_run 357 = .ok (.lmul, 1) := by decide +kernel
theorem dX0_run_358 : decode cX0_run 358 = .ok (.goto 22, 3) := by decide +kernel
theorem dX0_run_361 : decode cX0_run 361 = .ok (.iload 6, 2) := by decide +kernel
theorem dX0_run_363 : decode cX0_run 363 = .ok (.iconst 5, 1) := by decide +kernel
theorem dX0_run_364 : decode cX0_run 364 = .ok (.if_icmp .ne 11, 3) := by decide +kernel
theorem dX0_run_367 : decode cX0_run 367 = .ok (.lload 8, 2) := by decide +kernel
theorem dX0_run_369 : decode cX0_run 369 = .ok (.lload 10, 2) := by decide +kernel
theorem dX0_run_371 : decode cX0_run 371 = .ok (.ldiv, 1) := by decide +kernel
theorem dX0_run_372 : decode cX0_run 372 = .ok (.goto 8, 3) := by decide +kernel
theorem dX0_run_375 : decode cX0_run 375 = .ok (.lload 8, 2) := by decide +kernel
theorem dX0_run_377 : decode cX0_run 377 = .ok (.lload 10, 2) := by decide +kernel
theorem dX0_run_379 : decode cX0_run 379 = .ok (.lrem, 1) := by decide +kernel
theorem dX0_run_380 : decode cX0_run 380 = .ok (.lstore 12, 2) := by decide +kernel
theorem dX0_run_382 : decode cX0_run 382 = .ok (.lload 12, 2) := by decide +kernel
theorem dX0_run_384 : decode cX0_run 384 = .ok (.ldc2_w 51, 3) := by decide +kernel
theorem dX0_run_387 : decode cX0_run 387 = .ok (.lcmp, 1) := by decide +kernel
theorem dX0_run_388 : decode cX0_run 388 = .ok (.ifCond .gt 12, 3) := by decide +kernel
theorem dX0_run_391 : decode cX0_run 391 = .ok (.lload 12, 2) := by decide +kernel
theorem dX0_run_393 : decode cX0_run 393 = .ok (.ldc2_w 53, 3) := by decide +kernel
theorem dX0_run_396 : decode cX0_run 396 = .ok (.lcmp, 1) := by decide +kernel
theorem dX0_run_397 : decode cX0_run 397 = .ok (.ifCond .ge 5, 3) := by decide +kernel
theorem dX0_run_400 : decode cX0_run 400 = .ok (.iconst 0, 1) := by decide +kernel
theorem dX0_run_401 : decode cX0_run 401 = .ok (.ireturn, 1) := by decide +kernel
theorem dX0_run_402 : decode cX0_run 402 = .ok (.aload_n 0, 1) := by decide +kernel
theorem dX0_run_403 : decode cX0_run 403 = .ok (.getfield 15, 3) := by decide +kernel
theorem dX0_run_406 : decode cX0_run 406 = .ok (.iload 4, 2) := by decide +kernel
theorem dX0_run_408 : decode cX0_run 408 = .ok (.iconst 1, 1) := by decide +kernel
theorem dX0_run_409 : decode cX0_run 409 = .ok (.isub, 1) := by decide +kernel
theorem dX0_run_410 : decode cX0_run 410 = .ok (.lload 12, 2) := by decide +kernel
theorem dX0_run_412 : decode cX0_run 412 = .ok (.lastore, 1) := by decide +kernel
theorem dX0_run_413 : decode cX0_run 413 = .ok (.iinc 5 1, 3) := by decide +kernel
theorem dX0_run_416 : decode cX0_run 416 = .ok (.goto (-410), 3) := by decide +kernel
theorem dX0_run_419 : decode cX0_run 419 = .ok (.iconst 1, 1) := by decide +kernel
theorem dX0_run_420 : decode cX0_run 420 = .ok (.ireturn, 1) := by decide +kernel
set_option maxHeartbeats 4000000 in
set_option maxRecDepth 100000 in
theorem c_X0_run (l : Launch) (E : Nat → ClassId) (D : va_G) (G : th_G) (h0 : Nat) (hG0 : G h0 = some (8, 0)) (p1 n1 : Nat) (hp1 : G p1 = some (0, n1)) (hn1 : n1 ≤ 400) (x2 : Int32) (x3 : Int32) : Met l yX0_run (tb (.code yX0_run cX0_run 14 (some .boolean))) (rm 0) (va_Pc [.ref h0, .ref p1, .int x2, .int x3] (th_P E D G)) (QI E D G (fun r => True)) 0 0 (th_A G) := by
  refine Met.ofW (cc := cX0_run) (maxL := 14) (ret := (some .boolean)) (by decide) rfl ?_
  intro p e s m args below meth c s₁ B hml hv
  obtain ⟨hav, hI, hN, hK⟩ := hv
  have hx := B.exec
  have hb := B.bytes
  have hr := B.returns
  have hts := atoms_spec (ws := tb (.code yX0_run cX0_run 14 (some .boolean))) B.pre
  have hown : s.vm.findClass RX0 = some m.cls := findClass_of_methodNamed B.named
  have hlocks := B.notSynchronized
  have hS : va_S (th_A G) s.heap s.heap [] := va_S.rf
  have hl := lv_entry ([.ref h0, .ref p1, .int x2, .int x3]) (n := 14) (Nat.le_of_ble_eq_true rfl)
  rw [show entryFrame m args 14 = entryFrame m ([.ref h0, .ref p1, .int x2, .int x3] : List Value).toArray 14 from by rw [hav], lg_entry_eq]
  generalize (lg_sl ([.ref h0, .ref p1, .int x2, .int x3]) ++ List.replicate (14 - (lg_sl ([.ref h0, .ref p1, .int x2, .int x3])).length) Slot.unset).toArray = ls at hl ⊢
  have hl : lv_has ls 14 [(0, .ref h0), (1, .ref p1), (2, .int x2), (3, .int x3)] := hl
  generalize hR : (headSpec (tb (.code yX0_run cX0_run 14 (some .boolean))) (rm 0)).room = R
  have hR := hR.symm
  generalize hQ : MQ below (QI E D G (fun r => True)) args s 0 0 (th_A G) = QF
  have hQ := hQ.symm
  have J_6 : ∀ (nn : Nat) (H : Heap) (locs : List Loc) (ls : Array Slot) (v15070 : Int32) (v15071 : Int32), (Int.toNat (v15071.toInt - (0)) = nn) → lv_has ls 14 [(5, .int v15070), (4, .int v15071), (0, .ref h0), (1, .ref p1), (2, .int x2), (3, .int x3)] → ((0 : Int) ≤ v15071.toInt ∧ v15071.toInt ≤ 96) → th_I (okC E) D G [] H → va_S (th_A G) s.heap H locs → W p l e R s m args below meth c H locs 0 0 QF (F0 m 6 ls []) := by
    intro nn
    induction nn using Nat.strongRecOn with
    | ind nn ih_6 =>
      intro H locs ls v15070 v15071 hm hl k15072 hI hS
      have J_400 : ∀ (H : Heap) (locs : List Loc) (ls : Array Slot) (l15073 : Int64) (l15074 : Int64) (l15075 : Int64) (v15076 : Int32) (v15077 : Int32) (v15078 : Int32) (v15079 : Int32), lv_has ls 14 [(12, .long l15073), (10, .long l15074), (8, .long l15075), (4, .int v15076), (7, .int v15077), (6, .int v15078), (5, .int v15079), (0, .ref h0), (1, .ref p1), (2, .int x2), (3, .int x3)] → ((1 : Int) ≤ v15076.toInt ∧ v15076.toInt ≤ 95) → ((2 : Int) ≤ v15078.toInt ∧ v15078.toInt ≤ 6) → ((0 : Int) ≤ v15079.toInt) → ((1 : Int) ≤ x3.toInt) → th_I (okC E) D G [] H → va_S (th_A G) s.heap H locs → W p l e R s m args below meth c H locs 0 0 QF (F0 m 400 ls []) := by
        intro H locs ls l15073 l15074 l15075 v15076 v15077 v15078 v15079 hl k15080 k15081 k15082 k15083 hI hS
        refine lv_iconst (v := 0) hx hb dX0_run_400 (by decide) ?_
        have hpost : True := trivial
        rw [hQ]
        exact W.zret (v := 0) hx hb hr (by decide) (fun t ht hW => ⟨⟨0, (), rfl, hpost, by rw [ht]; exact hI, hN.warm hW, va_K.moved hW.alike hK⟩, hS.F ht⟩) hS.2.2 dX0_run_401
      have J_380 : ∀ (H : Heap) (locs : List Loc) (ls : Array Slot) (l15084 : Int64) (l15085 : Int64) (v15086 : Int32) (v15087 : Int32) (v15088 : Int32) (v15089 : Int32) (l15090 : Int64), lv_has ls 14 [(10, .long l15084), (8, .long l15085), (4, .int v15086), (7, .int v15087), (6, .int v15088), (5, .int v15089), (0, .ref h0), (1, .ref p1), (2, .int x2), (3, .int x3)] → ((1 : Int) ≤ v15086.toInt ∧ v15086.toInt ≤ 95) → ((2 : Int) ≤ v15088.toInt ∧ v15088.toInt ≤ 6) → ((0 : Int) ≤ v15089.toInt) → ((1 : Int) ≤ x3.toInt) → th_I (okC E) D G [] H → va_S (th_A G) s.heap H locs → W p l e R s m args below meth c H locs 0 0 QF (F0 m 380 ls [.long l15090]) := by
        intro H locs ls l15084 l15085 v15086 v15087 v15088 v15089 l15090 hl k15091 k15092 k15093 k15094 hI hS
        refine lv_lstore (lv' := [(12, .long l15090), (10, .long l15084), (8, .long l15085), (4, .int v15086), (7, .int v15087), (6, .int v15088), (5, .int v15089), (0, .ref h0), (1, .ref p1), (2, .int x2), (3, .int x3)]) hx hb dX0_run_380 hl (by decide) rfl (fun ls hl => ?_)
        refine lv_lload hx hb dX0_run_382 (lv_at hl 0 rfl) ?_
        refine lv_ldc2 hx hb hown (hts _ (tb_c wd_579)) dX0_run_384 ?_
        refine lv_topl (fun l15095 e15096 => ?_)
        refine W.lcmp hx hb dX0_run_387 ?_
        refine lv_topi (fun v15097 e15098 => ?_)
        have tv15097 := iv_cmp e15098
        refine lv_if_gt (tgt := 400) hx hb dX0_run_388 (by decide) (fun c15099 => ?_) (fun c15099 => ?_)
        · skip
          have k15100 := iv_lt (X := (0)) (Y := v15097.toInt) (by decide) rfl c15099
          exact J_400 H locs ls l15090 l15084 l15085 v15086 v15087 v15088 v15089 (lv_sub hl [0, 1, 2, 3, 4, 5, 6, 7, 8, 9, 10] rfl) ⟨by omega, by omega⟩ ⟨by omega, by omega⟩ (by omega) (by omega) hI hS
        · skip
          have k15101 := iv_nlt (X := (0)) (Y := v15097.toInt) (by decide) rfl c15099
          refine lv_lload hx hb dX0_run_391 (lv_at hl 0 rfl) ?_
          refine lv_ldc2 hx hb hown (hts _ (tb_c wd_580)) dX0_run_393 ?_
          refine lv_topl (fun l15102 e15103 => ?_)
          refine W.lcmp hx hb dX0_run_396 ?_
          refine lv_topi (fun v15104 e15105 => ?_)
          have tv15104 := iv_cmp e15105
          refine lv_if_ge (tgt := 402) hx hb dX0_run_397 (by decide) (fun c15106 => ?_) (fun c15106 => ?_)
          · skip
            have k15107 := iv_le (X := (0)) (Y := v15104.toInt) (by decide) rfl c15106
            refine lv_aload_n hx hb dX0_run_402 rfl (lv_at hl 7 rfl) ?_
            obtain ⟨a15108, a15110, w15112, hO, hq15109, hq15111⟩ := op_8 hI hG0 List.not_mem_nil
            have hI := th_I.weak (a := h0) hI
            refine th_get hx hb hts inT0 hown hK hO rfl 1 (by decide) (hts _ (tb_c wd_179)) rfl rfl dX0_run_403 ?_
            refine lv_iload hx hb dX0_run_406 (lv_at hl 3 rfl) ?_
            refine lv_iconst (v := 1) hx hb dX0_run_408 (by decide) ?_
            refine lv_isub hx hb dX0_run_409 ?_
            refine lv_topi (fun v15113 e15114 => ?_)
            have tv15113 : v15113.toInt = v15086.toInt - (1) := iv_sub rfl (by decide) e15114 (by omega) (by omega)
            refine lv_lload hx hb dX0_run_410 (lv_at hl 0 rfl) ?_
            obtain ⟨_, hA15115⟩ := op_1 hI hq15111 (th_ne hG0 hq15111 (show (8 : Nat) ≠ 1 by decide))
            refine th_last hx hb hK hA15115 1 rfl hS ⟨_, hq15111⟩ (iv_in (X := v15113.toInt) rfl (by omega) (by omega)) dX0_run_412 (fun H locs hA15115 oq hS => ?_)
            have hI := th_I.put hI hq15111 hA15115 ok_1 oq
            have hO := hO.kept (oq _ (fun z => th_ne hG0 hq15111 (show (8 : Nat) ≠ 1 by decide) (List.mem_singleton.mpr z.symm)))
            obtain ⟨v15116, e15117⟩ : ∃ y : Int32, y = v15089 + (1) := ⟨_, rfl⟩
            have k15118 := iv_lo v15089
            have k15119 := iv_hi v15089
            refine lv_iinc (v := v15116) (lv' := [(5, .int v15116), (12, .long l15090), (10, .long l15084), (8, .long l15085), (4, .int v15086), (7, .int v15087), (6, .int v15088), (0, .ref h0), (1, .ref p1), (2, .int x2), (3, .int x3)]) hx hb dX0_run_413 hl (k := 6) rfl (by rw [e15117]; rfl) (by decide) rfl (fun ls hl => ?_)
            refine lv_goto (tgt := 6) hx hb dX0_run_416 (by decide) ?_
            have hI := th_I.close hI hG0 hO (ok_8 hq15109 hq15111)
            exact ih_6 _ (by omega) H locs ls v15116 v15086 rfl (lv_sub hl [0, 4, 7, 8, 9, 10] rfl) ⟨by omega, by omega⟩ hI hS
          · skip
            have k15120 := iv_nle (X := (0)) (Y := v15104.toInt) (by decide) rfl c15106
            exact J_400 H locs ls l15090 l15084 l15085 v15086 v15087 v15088 v15089 (lv_sub hl [0, 1, 2, 3, 4, 5, 6, 7, 8, 9, 10] rfl) ⟨by omega, by omega⟩ ⟨by omega, by omega⟩ (by omega) (by omega) hI hS
      have J_319 : ∀ (H : Heap) (locs : List Loc) (ls : Array Slot) (l15121 : Int64) (l15122 : Int64) (v15123 : Int32) (v15124 : Int32) (v15125 : Int32) (v15126 : Int32), lv_has ls 14 [(10, .long l15121), (8, .long l15122), (4, .int v15123), (7, .int v15124), (6, .int v15125), (5, .int v15126), (0, .ref h0), (1, .ref p1), (2, .int x2), (3, .int x3)] → ((1 : Int) ≤ v15123.toInt ∧ v15123.toInt ≤ 95) → ((2 : Int) ≤ v15125.toInt ∧ v15125.toInt ≤ 6) → ((0 : Int) ≤ v15126.toInt) → ((1 : Int) ≤ x3.toInt) → th_I (okC E) D G [] H → va_S (th_A G) s.heap H locs → W p l e R s m args below meth c H locs 0 0 QF (F0 m 319 ls []) := by
        intro H locs ls l15121 l15122 v15123 v15124 v15125 v15126 hl k15127 k15128 k15129 k15130 hI hS
        refine lv_iload hx hb dX0_run_319 (lv_at hl 4 rfl) ?_
        refine lv_iconst (v := 2) hx hb dX0_run_321 (by decide) ?_
        refine lv_icmp_ne (tgt := 333) hx hb dX0_run_322 (by decide) (fun c15131 => ?_) (fun c15131 => ?_)
        · skip
          have k15132 := iv_ne (X := v15125.toInt) (Y := (2)) rfl (by decide) c15131
          refine lv_iload hx hb dX0_run_333 (lv_at hl 4 rfl) ?_
          refine lv_iconst (v := 3) hx hb dX0_run_335 (by decide) ?_
          refine lv_icmp_ne (tgt := 347) hx hb dX0_run_336 (by decide) (fun c15133 => ?_) (fun c15133 => ?_)
          · skip
            have k15134 := iv_ne (X := v15125.toInt) (Y := (3)) rfl (by decide) c15133
            refine lv_iload hx hb dX0_run_347 (lv_at hl 4 rfl) ?_
            refine lv_iconst (v := 4) hx hb dX0_run_349 (by decide) ?_
            refine lv_icmp_ne (tgt := 361) hx hb dX0_run_350 (by decide) (fun c15135 => ?_) (fun c15135 => ?_)
            · skip
              have k15136 := iv_ne (X := v15125.toInt) (Y := (4)) rfl (by decide) c15135
              refine lv_iload hx hb dX0_run_361 (lv_at hl 4 rfl) ?_
              refine lv_iconst (v := 5) hx hb dX0_run_363 (by decide) ?_
              refine lv_icmp_ne (tgt := 375) hx hb dX0_run_364 (by decide) (fun c15137 => ?_) (fun c15137 => ?_)
              · skip
                have k15138 := iv_ne (X := v15125.toInt) (Y := (5)) rfl (by decide) c15137
                refine lv_lload hx hb dX0_run_375 (lv_at hl 1 rfl) ?_
                refine lv_lload hx hb dX0_run_377 (lv_at hl 0 rfl) ?_
                refine lv_lrem hx hb dX0_run_379 (by assumption) ?_
                refine lv_topl (fun l15139 e15140 => ?_)
                exact J_380 H locs ls l15121 l15122 v15123 v15124 v15125 v15126 l15139 (lv_sub hl [0, 1, 2, 3, 4, 5, 6, 7, 8, 9] rfl) ⟨by omega, by omega⟩ ⟨by omega, by omega⟩ (by omega) (by omega) hI hS
              · skip
                have k15141 := iv_eq (X := v15125.toInt) (Y := (5)) rfl (by decide) c15137
                refine lv_lload hx hb dX0_run_367 (lv_at hl 1 rfl) ?_
                refine lv_lload hx hb dX0_run_369 (lv_at hl 0 rfl) ?_
                refine lv_ldiv hx hb dX0_run_371 (by assumption) ?_
                refine lv_topl (fun l15142 e15143 => ?_)
                refine lv_goto (tgt := 380) hx hb dX0_run_372 (by decide) ?_
                exact J_380 H locs ls l15121 l15122 v15123 v15124 v15125 v15126 l15142 (lv_sub hl [0, 1, 2, 3, 4, 5, 6, 7, 8, 9] rfl) ⟨by omega, by omega⟩ ⟨by omega, by omega⟩ (by omega) (by omega) hI hS
            · skip
              have k15144 := iv_eq (X := v15125.toInt) (Y := (4)) rfl (by decide) c15135
              refine lv_lload hx hb dX0_run_353 (lv_at hl 1 rfl) ?_
              refine lv_lload hx hb dX0_run_355 (lv_at hl 0 rfl) ?_
              refine lv_lmul hx hb dX0_run_357 ?_
              refine lv_topl (fun l15145 e15146 => ?_)
              refine lv_goto (tgt := 380) hx hb dX0_run_358 (by decide) ?_
              exact J_380 H locs ls l15121 l15122 v15123 v15124 v15125 v15126 l15145 (lv_sub hl [0, 1, 2, 3, 4, 5, 6, 7, 8, 9] rfl) ⟨by omega, by omega⟩ ⟨by omega, by omega⟩ (by omega) (by omega) hI hS
          · skip
            have k15147 := iv_eq (X := v15125.toInt) (Y := (3)) rfl (by decide) c15133
            refine lv_lload hx hb dX0_run_339 (lv_at hl 1 rfl) ?_
            refine lv_lload hx hb dX0_run_341 (lv_at hl 0 rfl) ?_
            refine lv_lsub hx hb dX0_run_343 ?_
            refine lv_topl (fun l15148 e15149 => ?_)
            refine lv_goto (tgt := 380) hx hb dX0_run_344 (by decide) ?_
            exact J_380 H locs ls l15121 l15122 v15123 v15124 v15125 v15126 l15148 (lv_sub hl [0, 1, 2, 3, 4, 5, 6, 7, 8, 9] rfl) ⟨by omega, by omega⟩ ⟨by omega, by omega⟩ (by omega) (by omega) hI hS
        · skip
          have k15150 := iv_eq (X := v15125.toInt) (Y := (2)) rfl (by decide) c15131
          refine lv_lload hx hb dX0_run_325 (lv_at hl 1 rfl) ?_
          refine lv_lload hx hb dX0_run_327 (lv_at hl 0 rfl) ?_
          refine lv_ladd hx hb dX0_run_329 ?_
          refine lv_topl (fun l15151 e15152 => ?_)
          refine lv_goto (tgt := 380) hx hb dX0_run_330 (by decide) ?_
          exact J_380 H locs ls l15121 l15122 v15123 v15124 v15125 v15126 l15151 (lv_sub hl [0, 1, 2, 3, 4, 5, 6, 7, 8, 9] rfl) ⟨by omega, by omega⟩ ⟨by omega, by omega⟩ (by omega) (by omega) hI hS
      have J_317 : ∀ (H : Heap) (locs : List Loc) (ls : Array Slot) (l15153 : Int64) (l15154 : Int64) (v15155 : Int32) (v15156 : Int32) (v15157 : Int32) (v15158 : Int32), lv_has ls 14 [(10, .long l15153), (8, .long l15154), (4, .int v15155), (7, .int v15156), (6, .int v15157), (5, .int v15158), (0, .ref h0), (1, .ref p1), (2, .int x2), (3, .int x3)] → ((1 : Int) ≤ v15155.toInt ∧ v15155.toInt ≤ 95) → ((5 : Int) ≤ v15157.toInt ∧ v15157.toInt ≤ 6) → ((0 : Int) ≤ v15158.toInt) → ((1 : Int) ≤ x3.toInt) → th_I (okC E) D G [] H → va_S (th_A G) s.heap H locs → W p l e R s m args below meth c H locs 0 0 QF (F0 m 317 ls []) := by
        intro H locs ls l15153 l15154 v15155 v15156 v15157 v15158 hl k15159 k15160 k15161 k15162 hI hS
        refine lv_iconst (v := 0) hx hb dX0_run_317 (by decide) ?_
        have hpost : True := trivial
        rw [hQ]
        exact W.zret (v := 0) hx hb hr (by decide) (fun t ht hW => ⟨⟨0, (), rfl, hpost, by rw [ht]; exact hI, hN.warm hW, va_K.moved hW.alike hK⟩, hS.F ht⟩) hS.2.2 dX0_run_318
      have J_288 : ∀ (H : Heap) (locs : List Loc) (ls : Array Slot) (l15163 : Int64) (l15164 : Int64) (v15165 : Int32) (v15166 : Int32) (v15167 : Int32) (v15168 : Int32) (v15169 : Int32), lv_has ls 14 [(10, .long l15163), (8, .long l15164), (4, .int v15165), (7, .int v15166), (6, .int v15167), (5, .int v15168), (0, .ref h0), (1, .ref p1), (2, .int x2), (3, .int x3)] → ((1 : Int) ≤ v15165.toInt ∧ v15165.toInt ≤ 95) → ((7 : Int) ≤ v15167.toInt ∧ v15167.toInt ≤ 10) → ((0 : Int) ≤ v15168.toInt) → ((1 : Int) ≤ x3.toInt) → ((0 : Int) ≤ v15169.toInt ∧ v15169.toInt ≤ 1) → th_I (okC E) D G [] H → va_S (th_A G) s.heap H locs → W p l e R s m args below meth c H locs 0 0 QF (F0 m 288 ls [.int v15169, .ref h0]) := by
        intro H locs ls l15163 l15164 v15165 v15166 v15167 v15168 v15169 hl k15170 k15171 k15172 k15173 k15174 hI hS
        obtain ⟨a15175, a15177, w15179, hO, hq15176, hq15178⟩ := op_8 hI hG0 List.not_mem_nil
        have hI := th_I.weak (a := h0) hI
        refine th_put (ty := .boolean) hx hb hts inT0 tyX0 tyX0_ok nmX0 hown hK hO hS ⟨_, hG0⟩ rfl 2 (by decide) (hts _ (tb_c wd_180)) rfl rfl (by decide +kernel) (th_zn (by omega)) (th_zf (by omega)) (Nat.le_of_ble_eq_true rfl) dX0_run_288 (fun H locs hO oq hS => ?_)
        have hI := th_I.moved hI oq
        have hO : va_at D vwCl (h0, .inr (0, [.ref a15175, .ref a15177, .int v15169])) H := hO
        obtain ⟨v15180, e15181⟩ : ∃ y : Int32, y = v15165 + (-1) := ⟨_, rfl⟩
        have tv15180 : v15180.toInt = v15165.toInt + (-1) := iv_add rfl (by decide) e15181 (by omega) (by omega)
        refine lv_iinc (v := v15180) (lv' := [(4, .int v15180), (10, .long l15163), (8, .long l15164), (7, .int v15166), (6, .int v15167), (5, .int v15168), (0, .ref h0), (1, .ref p1), (2, .int x2), (3, .int x3)]) hx hb dX0_run_291 hl (k := 2) rfl (by rw [e15181]; rfl) (by decide) rfl (fun ls hl => ?_)
        refine lv_goto (tgt := 413) hx hb dX0_run_294 (by decide) ?_
        obtain ⟨v15182, e15183⟩ : ∃ y : Int32, y = v15168 + (1) := ⟨_, rfl⟩
        have k15184 := iv_lo v15168
        have k15185 := iv_hi v15168
        refine lv_iinc (v := v15182) (lv' := [(5, .int v15182), (4, .int v15180), (10, .long l15163), (8, .long l15164), (7, .int v15166), (6, .int v15167), (0, .ref h0), (1, .ref p1), (2, .int x2), (3, .int x3)]) hx hb dX0_run_413 hl (k := 5) rfl (by rw [e15183]; rfl) (by decide) rfl (fun ls hl => ?_)
        refine lv_goto (tgt := 6) hx hb dX0_run_416 (by decide) ?_
        have hI := th_I.close hI hG0 hO (ok_8 hq15176 hq15178)
        exact ih_6 _ (by omega) H locs ls v15182 v15180 rfl (lv_sub hl [0, 1, 6, 7, 8, 9] rfl) ⟨by omega, by omega⟩ hI hS
      have J_185 : ∀ (H : Heap) (locs : List Loc) (ls : Array Slot) (v15186 : Int32) (v15187 : Int32) (v15189 : Int32) (v15190 : Int32), lv_has ls 14 [(7, .int v15186), (6, .int v15187), (5, .int v15070), (4, .int v15189), (0, .ref h0), (1, .ref p1), (2, .int x2), (3, .int x3)] → ((11 : Int) ≤ v15187.toInt ∧ v15187.toInt ≤ 15) → ((0 : Int) ≤ v15070.toInt) → ((0 : Int) ≤ v15189.toInt ∧ v15189.toInt ≤ 96) → ((1 : Int) ≤ x3.toInt) → ((0 : Int) ≤ v15190.toInt) → th_I (okC E) D G [] H → va_S (th_A G) s.heap H locs → W p l e R s m args below meth c H locs 0 0 QF (F0 m 185 ls [.int v15190]) := by
        intro H locs ls v15186 v15187 v15189 v15190 hl k15191 k15192 k15193 k15194 k15195 hI hS
        refine lv_istore (lv' := [(5, .int v15190), (7, .int v15186), (6, .int v15187), (4, .int v15189), (0, .ref h0), (1, .ref p1), (2, .int x2), (3, .int x3)]) hx hb dX0_run_185 hl (by decide) rfl (fun ls hl => ?_)
        refine lv_goto (tgt := 413) hx hb dX0_run_187 (by decide) ?_
        obtain ⟨v15196, e15197⟩ : ∃ y : Int32, y = v15190 + (1) := ⟨_, rfl⟩
        have k15198 := iv_lo v15190
        have k15199 := iv_hi v15190
        refine lv_iinc (v := v15196) (lv' := [(5, .int v15196), (7, .int v15186), (6, .int v15187), (4, .int v15189), (0, .ref h0), (1, .ref p1), (2, .int x2), (3, .int x3)]) hx hb dX0_run_413 hl (k := 0) rfl (by rw [e15197]; rfl) (by decide) rfl (fun ls hl => ?_)
        refine lv_goto (tgt := 6) hx hb dX0_run_416 (by decide) ?_
        exact ih_6 _ (by omega) H locs ls v15196 v15189 rfl (lv_sub hl [0, 3, 4, 5, 6, 7] rfl) ⟨by omega, by omega⟩ hI hS
      have J_183 : ∀ (H : Heap) (locs : List Loc) (ls : Array Slot) (v15200 : Int32) (v15201 : Int32) (v15203 : Int32), lv_has ls 14 [(7, .int v15200), (6, .int v15201), (5, .int v15070), (4, .int v15203), (0, .ref h0), (1, .ref p1), (2, .int x2), (3, .int x3)] → ((11 : Int) ≤ v15201.toInt ∧ v15201.toInt ≤ 15) → ((0 : Int) ≤ v15070.toInt) → ((0 : Int) ≤ v15203.toInt ∧ v15203.toInt ≤ 96) → ((1 : Int) ≤ x3.toInt) → th_I (okC E) D G [] H → va_S (th_A G) s.heap H locs → W p l e R s m args below meth c H locs 0 0 QF (F0 m 183 ls []) := by
        intro H locs ls v15200 v15201 v15203 hl k15204 k15205 k15206 k15207 hI hS
        refine lv_iload hx hb dX0_run_183 (lv_at hl 2 rfl) ?_
        exact J_185 H locs ls v15200 v15201 v15203 v15070 (lv_sub hl [0, 1, 2, 3, 4, 5, 6, 7] rfl) ⟨by omega, by omega⟩ (by omega) ⟨by omega, by omega⟩ (by omega) (by omega) hI hS
      have J_166 : ∀ (H : Heap) (locs : List Loc) (ls : Array Slot) (v15208 : Int32) (v15209 : Int32) (v15211 : Int32) (v15212 : Int32) (v15213 : Int32), lv_has ls 14 [(7, .int v15208), (6, .int v15209), (5, .int v15070), (4, .int v15211), (0, .ref h0), (1, .ref p1), (2, .int x2), (3, .int x3)] → ((11 : Int) ≤ v15209.toInt ∧ v15209.toInt ≤ 15) → ((0 : Int) ≤ v15070.toInt) → ((0 : Int) ≤ v15211.toInt ∧ v15211.toInt ≤ 96) → ((1 : Int) ≤ x3.toInt) → ((0 : Int) ≤ v15212.toInt ∧ v15212.toInt ≤ 1) → th_I (okC E) D G [] H → va_S (th_A G) s.heap H locs → W p l e R s m args below meth c H locs 0 0 QF (F0 m 166 ls [.int v15212, .int v15213]) := by
        intro H locs ls v15208 v15209 v15211 v15212 v15213 hl k15214 k15215 k15216 k15217 k15218 hI hS
        have k15219 := iv_lo v15213
        have k15220 := iv_hi v15213
        refine lv_icmp_ne (tgt := 183) hx hb dX0_run_166 (by decide) (fun c15221 => ?_) (fun c15221 => ?_)
        · skip
          have k15222 := iv_ne (X := v15213.toInt) (Y := v15212.toInt) rfl rfl c15221
          exact J_183 H locs ls v15208 v15209 v15211 (lv_sub hl [0, 1, 2, 3, 4, 5, 6, 7] rfl) ⟨by omega, by omega⟩ (by omega) ⟨by omega, by omega⟩ (by omega) hI hS
        · skip
          have k15223 := iv_eq (X := v15213.toInt) (Y := v15212.toInt) rfl rfl c15221
          refine lv_iload hx hb dX0_run_169 (lv_at hl 0 rfl) ?_
          refine lv_iload hx hb dX0_run_171 (lv_at hl 2 rfl) ?_
          have k15224 := iv_lo v15208
          have k15225 := iv_hi v15208
          have k15226 := iv_lo v15070
          have k15227 := iv_hi v15070
          refine lv_icmp_le (tgt := 183) hx hb dX0_run_173 (by decide) (fun c15228 => ?_) (fun c15228 => ?_)
          · skip
            have k15229 := iv_le (X := v15208.toInt) (Y := v15070.toInt) rfl rfl c15228
            exact J_183 H locs ls v15208 v15209 v15211 (lv_sub hl [0, 1, 2, 3, 4, 5, 6, 7] rfl) ⟨by omega, by omega⟩ (by omega) ⟨by omega, by omega⟩ (by omega) hI hS
          · skip
            have k15230 := iv_nle (X := v15208.toInt) (Y := v15070.toInt) rfl rfl c15228
            refine lv_iload hx hb dX0_run_176 (lv_at hl 0 rfl) ?_
            refine lv_iconst (v := 1) hx hb dX0_run_178 (by decide) ?_
            refine lv_isub hx hb dX0_run_179 ?_
            refine lv_topi (fun v15231 e15232 => ?_)
            have tv15231 : v15231.toInt = v15208.toInt - (1) := iv_sub rfl (by decide) e15232 (by omega) (by omega)
            refine lv_goto (tgt := 185) hx hb dX0_run_180 (by decide) ?_
            exact J_185 H locs ls v15208 v15209 v15211 v15231 (lv_sub hl [0, 1, 2, 3, 4, 5, 6, 7] rfl) ⟨by omega, by omega⟩ (by omega) ⟨by omega, by omega⟩ (by omega) (by omega) hI hS
      have J_137 : ∀ (H : Heap) (locs : List Loc) (ls : Array Slot) (v15233 : Int32) (v15234 : Int32) (v15236 : Int32) (v15237 : Int32), lv_has ls 14 [(7, .int v15233), (6, .int v15234), (5, .int v15070), (4, .int v15236), (0, .ref h0), (1, .ref p1), (2, .int x2), (3, .int x3)] → ((10 : Int) ≤ v15234.toInt ∧ v15234.toInt ≤ 10) → ((0 : Int) ≤ v15070.toInt) → ((0 : Int) ≤ v15236.toInt ∧ v15236.toInt ≤ 96) → ((1 : Int) ≤ x3.toInt) → ((0 : Int) ≤ v15237.toInt ∧ v15237.toInt ≤ 1) → th_I (okC E) D G [] H → va_S (th_A G) s.heap H locs → W p l e R s m args below meth c H locs 0 0 QF (F0 m 137 ls [.int v15237, .ref h0]) := by
        intro H locs ls v15233 v15234 v15236 v15237 hl k15238 k15239 k15240 k15241 k15242 hI hS
        obtain ⟨a15243, a15245, w15247, hO, hq15244, hq15246⟩ := op_8 hI hG0 List.not_mem_nil
        have hI := th_I.weak (a := h0) hI
        refine th_put (ty := .boolean) hx hb hts inT0 tyX0 tyX0_ok nmX0 hown hK hO hS ⟨_, hG0⟩ rfl 2 (by decide) (hts _ (tb_c wd_180)) rfl rfl (by decide +kernel) (th_zn (by omega)) (th_zf (by omega)) (Nat.le_of_ble_eq_true rfl) dX0_run_137 (fun H locs hO oq hS => ?_)
        have hI := th_I.moved hI oq
        have hO : va_at D vwCl (h0, .inr (0, [.ref a15243, .ref a15245, .int v15237])) H := hO
        refine lv_goto (tgt := 413) hx hb dX0_run_140 (by decide) ?_
        obtain ⟨v15248, e15249⟩ : ∃ y : Int32, y = v15070 + (1) := ⟨_, rfl⟩
        have k15250 := iv_lo v15070
        have k15251 := iv_hi v15070
        refine lv_iinc (v := v15248) (lv' := [(5, .int v15248), (7, .int v15233), (6, .int v15234), (4, .int v15236), (0, .ref h0), (1, .ref p1), (2, .int x2), (3, .int x3)]) hx hb dX0_run_413 hl (k := 2) rfl (by rw [e15249]; rfl) (by decide) rfl (fun ls hl => ?_)
        refine lv_goto (tgt := 6) hx hb dX0_run_416 (by decide) ?_
        have hI := th_I.close hI hG0 hO (ok_8 hq15244 hq15246)
        exact ih_6 _ (by omega) H locs ls v15248 v15236 rfl (lv_sub hl [0, 3, 4, 5, 6, 7] rfl) ⟨by omega, by omega⟩ hI hS
      have J_110 : ∀ (H : Heap) (locs : List Loc) (ls : Array Slot) (v15252 : Int32) (v15253 : Int32) (l15256 : Int64) (v15257 : Int32) (a15258 : Nat), lv_has ls 14 [(7, .int v15252), (6, .int v15253), (5, .int v15070), (4, .int v15071), (0, .ref h0), (1, .ref p1), (2, .int x2), (3, .int x3)] → ((0 : Int) ≤ v15252.toInt) → ((0 : Int) ≤ v15253.toInt ∧ v15253.toInt ≤ 1) → ((0 : Int) ≤ v15070.toInt) → ((0 : Int) ≤ v15071.toInt ∧ v15071.toInt ≤ 63) → ((1 : Int) ≤ x3.toInt) → ((0 : Int) ≤ v15257.toInt ∧ v15257.toInt ≤ 63) → G a15258 = some (1, 64) → th_I (okC E) D G [] H → va_S (th_A G) s.heap H locs → W p l e R s m args below meth c H locs 0 0 QF (F0 m 110 ls [.long l15256, .int v15257, .ref a15258]) := by
        intro H locs ls v15252 v15253 l15256 v15257 a15258 hl k15259 k15260 k15261 k15262 k15263 k15264 ha15258 hI hS
        obtain ⟨_, hA15265⟩ := op_1 hI ha15258 List.not_mem_nil
        refine th_last hx hb hK hA15265 1 rfl hS ⟨_, ha15258⟩ (iv_in (X := v15257.toInt) rfl (by omega) (by omega)) dX0_run_110 (fun H locs hA15265 oq hS => ?_)
        have hI := th_I.put hI ha15258 hA15265 ok_1 oq
        obtain ⟨v15266, e15267⟩ : ∃ y : Int32, y = v15071 + (1) := ⟨_, rfl⟩
        have tv15266 : v15266.toInt = v15071.toInt + (1) := iv_add rfl (by decide) e15267 (by omega) (by omega)
        refine lv_iinc (v := v15266) (lv' := [(4, .int v15266), (7, .int v15252), (6, .int v15253), (5, .int v15070), (0, .ref h0), (1, .ref p1), (2, .int x2), (3, .int x3)]) hx hb dX0_run_111 hl (k := 3) rfl (by rw [e15267]; rfl) (by decide) rfl (fun ls hl => ?_)
        refine lv_goto (tgt := 413) hx hb dX0_run_114 (by decide) ?_
        obtain ⟨v15268, e15269⟩ : ∃ y : Int32, y = v15070 + (1) := ⟨_, rfl⟩
        have k15270 := iv_lo v15070
        have k15271 := iv_hi v15070
        refine lv_iinc (v := v15268) (lv' := [(5, .int v15268), (4, .int v15266), (7, .int v15252), (6, .int v15253), (0, .ref h0), (1, .ref p1), (2, .int x2), (3, .int x3)]) hx hb dX0_run_413 hl (k := 3) rfl (by rw [e15269]; rfl) (by decide) rfl (fun ls hl => ?_)
        refine lv_goto (tgt := 6) hx hb dX0_run_416 (by decide) ?_
        exact ih_6 _ (by omega) H locs ls v15268 v15266 rfl (lv_sub hl [0, 1, 4, 5, 6, 7] rfl) ⟨by omega, by omega⟩ hI hS
      have J_85 : ∀ (H : Heap) (locs : List Loc) (ls : Array Slot) (v15272 : Int32) (v15273 : Int32), lv_has ls 14 [(7, .int v15272), (6, .int v15273), (5, .int v15070), (4, .int v15071), (0, .ref h0), (1, .ref p1), (2, .int x2), (3, .int x3)] → ((0 : Int) ≤ v15272.toInt) → ((0 : Int) ≤ v15273.toInt ∧ v15273.toInt ≤ 1) → ((0 : Int) ≤ v15070.toInt) → ((0 : Int) ≤ v15071.toInt ∧ v15071.toInt ≤ 63) → ((1 : Int) ≤ x3.toInt) → th_I (okC E) D G [] H → va_S (th_A G) s.heap H locs → W p l e R s m args below meth c H locs 0 0 QF (F0 m 85 ls []) := by
        intro H locs ls v15272 v15273 hl k15276 k15277 k15278 k15279 k15280 hI hS
        refine lv_aload_n hx hb dX0_run_85 rfl (lv_at hl 4 rfl) ?_
        obtain ⟨a15281, a15283, w15285, hO, hq15282, hq15284⟩ := op_8 hI hG0 List.not_mem_nil
        have hI := th_I.weak (a := h0) hI
        refine th_get hx hb hts inT0 hown hK hO rfl 1 (by decide) (hts _ (tb_c wd_179)) rfl rfl dX0_run_86 ?_
        refine lv_iload hx hb dX0_run_89 (lv_at hl 3 rfl) ?_
        refine lv_iload hx hb dX0_run_91 (lv_at hl 1 rfl) ?_
        refine lv_if_ne (tgt := 102) hx hb dX0_run_93 (by decide) (fun c15286 => ?_) (fun c15286 => ?_)
        · skip
          have k15287 := iv_ne (X := v15273.toInt) (Y := (0)) rfl (by decide) c15286
          refine lv_aload_n hx hb dX0_run_102 rfl (lv_at hl 4 rfl) ?_
          refine th_get hx hb hts inT0 hown hK hO rfl 0 (by decide) (hts _ (tb_c wd_178)) rfl rfl dX0_run_103 ?_
          refine lv_iload hx hb dX0_run_106 (lv_at hl 0 rfl) ?_
          obtain ⟨_, hA15288⟩ := op_0 hI hq15282 (th_ne hG0 hq15282 (show (8 : Nat) ≠ 0 by decide))
          refine th_iald hx hb hK hA15288 0 rfl (iv_in (X := v15272.toInt) rfl (by omega) (by omega)) dX0_run_108 (fun v15289 _ => ?_)
          refine lv_i2l hx hb dX0_run_109 rfl ?_
          refine lv_topl (fun l15290 e15291 => ?_)
          have hI := th_I.close hI hG0 hO (ok_8 hq15282 hq15284)
          exact J_110 H locs ls v15272 v15273 l15290 v15071 a15283 (lv_sub hl [0, 1, 2, 3, 4, 5, 6, 7] rfl) (by omega) ⟨by omega, by omega⟩ (by omega) ⟨by omega, by omega⟩ (by omega) ⟨by omega, by omega⟩ hq15284 hI hS
        · skip
          have k15292 := iv_eq (X := v15273.toInt) (Y := (0)) rfl (by decide) c15286
          refine lv_iload hx hb dX0_run_96 (lv_at hl 0 rfl) ?_
          refine lv_i2l hx hb dX0_run_98 rfl ?_
          refine lv_topl (fun l15293 e15294 => ?_)
          refine lv_goto (tgt := 110) hx hb dX0_run_99 (by decide) ?_
          have hI := th_I.close hI hG0 hO (ok_8 hq15282 hq15284)
          exact J_110 H locs ls v15272 v15273 l15293 v15071 a15283 (lv_sub hl [0, 1, 2, 3, 4, 5, 6, 7] rfl) (by omega) ⟨by omega, by omega⟩ (by omega) ⟨by omega, by omega⟩ (by omega) ⟨by omega, by omega⟩ hq15284 hI hS
      have J_83 : ∀ (H : Heap) (locs : List Loc) (ls : Array Slot) (v15295 : Int32) (v15296 : Int32), lv_has ls 14 [(7, .int v15295), (6, .int v15296), (5, .int v15070), (4, .int v15071), (0, .ref h0), (1, .ref p1), (2, .int x2), (3, .int x3)] → ((0 : Int) ≤ v15296.toInt ∧ v15296.toInt ≤ 1) → ((0 : Int) ≤ v15070.toInt) → ((1 : Int) ≤ x3.toInt) → th_I (okC E) D G [] H → va_S (th_A G) s.heap H locs → W p l e R s m args below meth c H locs 0 0 QF (F0 m 83 ls []) := by
        intro H locs ls v15295 v15296 hl k15299 k15300 k15301 hI hS
        refine lv_iconst (v := 0) hx hb dX0_run_83 (by decide) ?_
        have hpost : True := trivial
        rw [hQ]
        exact W.zret (v := 0) hx hb hr (by decide) (fun t ht hW => ⟨⟨0, (), rfl, hpost, by rw [ht]; exact hI, hN.warm hW, va_K.moved hW.alike hK⟩, hS.F ht⟩) hS.2.2 dX0_run_84
      have J_52 : ∀ (H : Heap) (locs : List Loc) (ls : Array Slot) (v15302 : Int32) (v15303 : Int32), lv_has ls 14 [(7, .int v15302), (6, .int v15303), (5, .int v15070), (4, .int v15071), (0, .ref h0), (1, .ref p1), (2, .int x2), (3, .int x3)] → ((0 : Int) ≤ v15303.toInt ∧ v15303.toInt ≤ 1) → ((0 : Int) ≤ v15070.toInt) → ((1 : Int) ≤ x3.toInt) → th_I (okC E) D G [] H → va_S (th_A G) s.heap H locs → W p l e R s m args below meth c H locs 0 0 QF (F0 m 52 ls []) := by
        intro H locs ls v15302 v15303 hl k15306 k15307 k15308 hI hS
        refine lv_iload hx hb dX0_run_52 (lv_at hl 3 rfl) ?_
        refine lv_aload_n hx hb dX0_run_54 rfl (lv_at hl 4 rfl) ?_
        obtain ⟨a15309, a15311, w15313, hO, hq15310, hq15312⟩ := op_8 hI hG0 List.not_mem_nil
        have hI := th_I.weak (a := h0) hI
        refine th_get hx hb hts inT0 hown hK hO rfl 1 (by decide) (hts _ (tb_c wd_179)) rfl rfl dX0_run_55 ?_
        obtain ⟨_, hA15314⟩ := op_1 hI hq15312 (th_ne hG0 hq15312 (show (8 : Nat) ≠ 1 by decide))
        refine va_alen hx hb hK (th_one hA15314) 0 1 rfl (v := 64) rfl (show Int32.ofNat 64 = (64 : Int32) from by decide) dX0_run_58 ?_
        refine lv_icmp_ge (tgt := 83) hx hb dX0_run_59 (by decide) (fun c15315 => ?_) (fun c15315 => ?_)
        · skip
          have k15316 := iv_le (X := (64)) (Y := v15071.toInt) (by decide) rfl c15315
          have hI := th_I.close hI hG0 hO (ok_8 hq15310 hq15312)
          exact J_83 H locs ls v15302 v15303 (lv_sub hl [0, 1, 2, 3, 4, 5, 6, 7] rfl) ⟨by omega, by omega⟩ (by omega) (by omega) hI hS
        · skip
          have k15317 := iv_nle (X := (64)) (Y := v15071.toInt) (by decide) rfl c15315
          refine lv_iload hx hb dX0_run_62 (lv_at hl 0 rfl) ?_
          have k15318 := iv_lo v15302
          have k15319 := iv_hi v15302
          refine lv_if_lt (tgt := 83) hx hb dX0_run_64 (by decide) (fun c15320 => ?_) (fun c15320 => ?_)
          · skip
            have k15321 := iv_lt (X := v15302.toInt) (Y := (0)) rfl (by decide) c15320
            have hI := th_I.close hI hG0 hO (ok_8 hq15310 hq15312)
            exact J_83 H locs ls v15302 v15303 (lv_sub hl [0, 1, 2, 3, 4, 5, 6, 7] rfl) ⟨by omega, by omega⟩ (by omega) (by omega) hI hS
          · skip
            have k15322 := iv_nlt (X := v15302.toInt) (Y := (0)) rfl (by decide) c15320
            refine lv_iload hx hb dX0_run_67 (lv_at hl 1 rfl) ?_
            refine lv_iconst (v := 1) hx hb dX0_run_69 (by decide) ?_
            refine lv_icmp_ne (tgt := 85) hx hb dX0_run_70 (by decide) (fun c15323 => ?_) (fun c15323 => ?_)
            · skip
              have k15324 := iv_ne (X := v15303.toInt) (Y := (1)) rfl (by decide) c15323
              have hI := th_I.close hI hG0 hO (ok_8 hq15310 hq15312)
              exact J_85 H locs ls v15302 v15303 (lv_sub hl [0, 1, 2, 3, 4, 5, 6, 7] rfl) (by omega) ⟨by omega, by omega⟩ (by omega) ⟨by omega, by omega⟩ (by omega) hI hS
            · skip
              have k15325 := iv_eq (X := v15303.toInt) (Y := (1)) rfl (by decide) c15323
              refine lv_iload hx hb dX0_run_73 (lv_at hl 0 rfl) ?_
              refine lv_aload_n hx hb dX0_run_75 rfl (lv_at hl 4 rfl) ?_
              refine th_get hx hb hts inT0 hown hK hO rfl 0 (by decide) (hts _ (tb_c wd_178)) rfl rfl dX0_run_76 ?_
              obtain ⟨_, hA15326⟩ := op_0 hI hq15310 (th_ne hG0 hq15310 (show (8 : Nat) ≠ 0 by decide))
              refine va_alen hx hb hK (th_one hA15326) 0 0 rfl (v := 9) rfl (show Int32.ofNat 9 = (9 : Int32) from by decide) dX0_run_79 ?_
              refine lv_icmp_lt (tgt := 85) hx hb dX0_run_80 (by decide) (fun c15327 => ?_) (fun c15327 => ?_)
              · skip
                have k15328 := iv_lt (X := v15302.toInt) (Y := (9)) rfl (by decide) c15327
                have hI := th_I.close hI hG0 hO (ok_8 hq15310 hq15312)
                exact J_85 H locs ls v15302 v15303 (lv_sub hl [0, 1, 2, 3, 4, 5, 6, 7] rfl) (by omega) ⟨by omega, by omega⟩ (by omega) ⟨by omega, by omega⟩ (by omega) hI hS
              · skip
                have k15329 := iv_nlt (X := v15302.toInt) (Y := (9)) rfl (by decide) c15327
                have hI := th_I.close hI hG0 hO (ok_8 hq15310 hq15312)
                exact J_83 H locs ls v15302 v15303 (lv_sub hl [0, 1, 2, 3, 4, 5, 6, 7] rfl) ⟨by omega, by omega⟩ (by omega) (by omega) hI hS
      refine lv_iload hx hb dX0_run_6 (lv_at hl 0 rfl) ?_
      have k15330 := iv_lo v15070
      have k15331 := iv_hi v15070
      refine lv_if_lt (tgt := 419) hx hb dX0_run_8 (by decide) (fun c15332 => ?_) (fun c15332 => ?_)
      · skip
        have k15333 := iv_lt (X := v15070.toInt) (Y := (0)) rfl (by decide) c15332
        refine lv_iconst (v := 1) hx hb dX0_run_419 (by decide) ?_
        have hpost : True := trivial
        rw [hQ]
        exact W.zret (v := 1) hx hb hr (by decide) (fun t ht hW => ⟨⟨1, (), rfl, hpost, by rw [ht]; exact hI, hN.warm hW, va_K.moved hW.alike hK⟩, hS.F ht⟩) hS.2.2 dX0_run_420
      · skip
        have k15334 := iv_nlt (X := v15070.toInt) (Y := (0)) rfl (by decide) c15332
        refine lv_iload hx hb dX0_run_11 (lv_at hl 0 rfl) ?_
        refine lv_iload_n hx hb dX0_run_13 rfl (lv_at hl 5 rfl) ?_
        have k15335 := iv_lo x3
        have k15336 := iv_hi x3
        refine lv_icmp_ge (tgt := 419) hx hb dX0_run_14 (by decide) (fun c15337 => ?_) (fun c15337 => ?_)
        · skip
          have k15338 := iv_le (X := x3.toInt) (Y := v15070.toInt) rfl rfl c15337
          refine lv_iconst (v := 1) hx hb dX0_run_419 (by decide) ?_
          have hpost : True := trivial
          rw [hQ]
          exact W.zret (v := 1) hx hb hr (by decide) (fun t ht hW => ⟨⟨1, (), rfl, hpost, by rw [ht]; exact hI, hN.warm hW, va_K.moved hW.alike hK⟩, hS.F ht⟩) hS.2.2 dX0_run_420
        · skip
          have k15339 := iv_nle (X := x3.toInt) (Y := v15070.toInt) rfl rfl c15337
          refine lv_iload hx hb dX0_run_17 (lv_at hl 0 rfl) ?_
          refine lv_aload_n hx hb dX0_run_19 rfl (lv_at hl 3 rfl) ?_
          obtain ⟨_, hA15340⟩ := op_0 hI hp1 List.not_mem_nil
          refine va_alen hx hb hK (th_one hA15340) 0 0 rfl (v := nI (n1)) rfl rfl dX0_run_20 ?_
          refine lv_topi (fun v15341 e15342 => ?_)
          have tv15341 : v15341.toInt = ((n1 : Nat) : Int) := by rw [e15342]; exact nI_toInt (by omega)
          have k15343 := iv_lo v15341
          have k15344 := iv_hi v15341
          refine lv_icmp_ge (tgt := 419) hx hb dX0_run_21 (by decide) (fun c15345 => ?_) (fun c15345 => ?_)
          · skip
            have k15346 := iv_le (X := v15341.toInt) (Y := v15070.toInt) rfl rfl c15345
            refine lv_iconst (v := 1) hx hb dX0_run_419 (by decide) ?_
            have hpost : True := trivial
            rw [hQ]
            exact W.zret (v := 1) hx hb hr (by decide) (fun t ht hW => ⟨⟨1, (), rfl, hpost, by rw [ht]; exact hI, hN.warm hW, va_K.moved hW.alike hK⟩, hS.F ht⟩) hS.2.2 dX0_run_420
          · skip
            have k15347 := iv_nle (X := v15341.toInt) (Y := v15070.toInt) rfl rfl c15345
            refine lv_aload_n hx hb dX0_run_24 rfl (lv_at hl 3 rfl) ?_
            refine lv_iload hx hb dX0_run_25 (lv_at hl 0 rfl) ?_
            obtain ⟨_, hA15348⟩ := op_0 hI hp1 List.not_mem_nil
            refine th_iald hx hb hK hA15348 0 rfl (iv_in (X := v15070.toInt) rfl (by omega) (by omega)) dX0_run_27 (fun v15349 _ => ?_)
            refine lv_bipush (v := 15) hx hb dX0_run_28 (by decide) ?_
            refine lv_iand hx hb dX0_run_30 ?_
            refine lv_topi (fun v15350 e15351 => ?_)
            have tv15350 := iv_andr (m := 15) (M := 15) e15351 (by decide) (by decide)
            refine lv_istore (lv' := [(6, .int v15350), (5, .int v15070), (4, .int v15071), (0, .ref h0), (1, .ref p1), (2, .int x2), (3, .int x3)]) hx hb dX0_run_31 hl (by decide) rfl (fun ls hl => ?_)
            refine lv_aload_n hx hb dX0_run_33 rfl (lv_at hl 4 rfl) ?_
            refine lv_iload hx hb dX0_run_34 (lv_at hl 1 rfl) ?_
            obtain ⟨_, hA15352⟩ := op_0 hI hp1 List.not_mem_nil
            refine th_iald hx hb hK hA15352 0 rfl (iv_in (X := v15070.toInt) rfl (by omega) (by omega)) dX0_run_36 (fun v15353 _ => ?_)
            refine lv_iconst (v := 4) hx hb dX0_run_37 (by decide) ?_
            refine lv_ishr hx hb dX0_run_38 ?_
            refine lv_topi (fun v15354 e15355 => ?_)
            refine lv_istore (lv' := [(7, .int v15354), (6, .int v15350), (5, .int v15070), (4, .int v15071), (0, .ref h0), (1, .ref p1), (2, .int x2), (3, .int x3)]) hx hb dX0_run_39 hl (by decide) rfl (fun ls hl => ?_)
            refine lv_iload hx hb dX0_run_41 (lv_at hl 1 rfl) ?_
            refine lv_if_eq (tgt := 52) hx hb dX0_run_43 (by decide) (fun c15356 => ?_) (fun c15356 => ?_)
            · skip
              have k15357 := iv_eq (X := v15350.toInt) (Y := (0)) rfl (by decide) c15356
              exact J_52 H locs ls v15354 v15350 (lv_sub hl [0, 1, 2, 3, 4, 5, 6, 7] rfl) ⟨by omega, by omega⟩ (by omega) (by omega) hI hS
            · skip
              have k15358 := iv_ne (X := v15350.toInt) (Y := (0)) rfl (by decide) c15356
              refine lv_iload hx hb dX0_run_46 (lv_at hl 1 rfl) ?_
              refine lv_iconst (v := 1) hx hb dX0_run_48 (by decide) ?_
              refine lv_icmp_ne (tgt := 117) hx hb dX0_run_49 (by decide) (fun c15359 => ?_) (fun c15359 => ?_)
              · skip
                have k15360 := iv_ne (X := v15350.toInt) (Y := (1)) rfl (by decide) c15359
                refine lv_iload hx hb dX0_run_117 (lv_at hl 1 rfl) ?_
                refine lv_bipush (v := 10) hx hb dX0_run_119 (by decide) ?_
                refine lv_icmp_ne (tgt := 143) hx hb dX0_run_121 (by decide) (fun c15361 => ?_) (fun c15361 => ?_)
                · skip
                  have k15362 := iv_ne (X := v15350.toInt) (Y := (10)) rfl (by decide) c15361
                  refine lv_iload hx hb dX0_run_143 (lv_at hl 1 rfl) ?_
                  refine lv_bipush (v := 11) hx hb dX0_run_145 (by decide) ?_
                  refine lv_icmp_lt (tgt := 190) hx hb dX0_run_147 (by decide) (fun c15363 => ?_) (fun c15363 => ?_)
                  · skip
                    have k15364 := iv_lt (X := v15350.toInt) (Y := (11)) rfl (by decide) c15363
                    refine lv_iload hx hb dX0_run_190 (lv_at hl 3 rfl) ?_
                    refine lv_iconst (v := 2) hx hb dX0_run_192 (by decide) ?_
                    refine lv_icmp_ge (tgt := 198) hx hb dX0_run_193 (by decide) (fun c15365 => ?_) (fun c15365 => ?_)
                    · skip
                      have k15366 := iv_le (X := (2)) (Y := v15071.toInt) (by decide) rfl c15365
                      obtain ⟨v15367, e15368⟩ : ∃ y : Int32, y = v15071 + (-1) := ⟨_, rfl⟩
                      have tv15367 : v15367.toInt = v15071.toInt + (-1) := iv_add rfl (by decide) e15368 (by omega) (by omega)
                      refine lv_iinc (v := v15367) (lv' := [(4, .int v15367), (7, .int v15354), (6, .int v15350), (5, .int v15070), (0, .ref h0), (1, .ref p1), (2, .int x2), (3, .int x3)]) hx hb dX0_run_198 hl (k := 3) rfl (by rw [e15368]; rfl) (by decide) rfl (fun ls hl => ?_)
                      refine lv_aload_n hx hb dX0_run_201 rfl (lv_at hl 4 rfl) ?_
                      obtain ⟨a15369, a15371, w15373, hO, hq15370, hq15372⟩ := op_8 hI hG0 List.not_mem_nil
                      have hI := th_I.weak (a := h0) hI
                      refine th_get hx hb hts inT0 hown hK hO rfl 1 (by decide) (hts _ (tb_c wd_179)) rfl rfl dX0_run_202 ?_
                      refine lv_iload hx hb dX0_run_205 (lv_at hl 0 rfl) ?_
                      refine lv_iconst (v := 1) hx hb dX0_run_207 (by decide) ?_
                      refine lv_isub hx hb dX0_run_208 ?_
                      refine lv_topi (fun v15374 e15375 => ?_)
                      have tv15374 : v15374.toInt = v15367.toInt - (1) := iv_sub rfl (by decide) e15375 (by omega) (by omega)
                      obtain ⟨_, hA15376⟩ := op_1 hI hq15372 (th_ne hG0 hq15372 (show (8 : Nat) ≠ 1 by decide))
                      refine va_lald hx hb hK (th_one hA15376) 0 1 rfl rfl (iv_in (X := v15374.toInt) rfl (by omega) (by omega)) dX0_run_209 ?_
                      refine lv_topl (fun l15377 e15378 => ?_)
                      refine lv_lstore (lv' := [(8, .long l15377), (4, .int v15367), (7, .int v15354), (6, .int v15350), (5, .int v15070), (0, .ref h0), (1, .ref p1), (2, .int x2), (3, .int x3)]) hx hb dX0_run_210 hl (by decide) rfl (fun ls hl => ?_)
                      refine lv_aload_n hx hb dX0_run_212 rfl (lv_at hl 5 rfl) ?_
                      refine th_get hx hb hts inT0 hown hK hO rfl 1 (by decide) (hts _ (tb_c wd_179)) rfl rfl dX0_run_213 ?_
                      refine lv_iload hx hb dX0_run_216 (lv_at hl 1 rfl) ?_
                      obtain ⟨_, hA15379⟩ := op_1 hI hq15372 (th_ne hG0 hq15372 (show (8 : Nat) ≠ 1 by decide))
                      refine va_lald hx hb hK (th_one hA15379) 0 1 rfl rfl (iv_in (X := v15367.toInt) rfl (by omega) (by omega)) dX0_run_218 ?_
                      refine lv_topl (fun l15380 e15381 => ?_)
                      refine lv_lstore (lv' := [(10, .long l15380), (8, .long l15377), (4, .int v15367), (7, .int v15354), (6, .int v15350), (5, .int v15070), (0, .ref h0), (1, .ref p1), (2, .int x2), (3, .int x3)]) hx hb dX0_run_219 hl (by decide) rfl (fun ls hl => ?_)
                      refine lv_iload hx hb dX0_run_221 (lv_at hl 4 rfl) ?_
                      refine lv_bipush (v := 7) hx hb dX0_run_223 (by decide) ?_
                      refine lv_icmp_lt (tgt := 297) hx hb dX0_run_225 (by decide) (fun c15382 => ?_) (fun c15382 => ?_)
                      · skip
                        have k15383 := iv_lt (X := v15350.toInt) (Y := (7)) rfl (by decide) c15382
                        refine lv_lload hx hb dX0_run_297 (lv_at hl 0 rfl) ?_
                        refine lv_lconst hx hb dX0_run_299 rfl ?_
                        refine lv_topl (fun l15384 e15385 => ?_)
                        refine W.lcmp hx hb dX0_run_300 ?_
                        refine lv_topi (fun v15386 e15387 => ?_)
                        have tv15386 := iv_cmp e15387
                        refine lv_if_ne (tgt := 319) hx hb dX0_run_301 (by decide) (fun c15388 => ?_) (fun c15388 => ?_)
                        · skip
                          have k15389 := iv_ne (X := v15386.toInt) (Y := (0)) rfl (by decide) c15388
                          have hI := th_I.close hI hG0 hO (ok_8 hq15370 hq15372)
                          exact J_319 H locs ls l15380 l15377 v15367 v15354 v15350 v15070 (lv_sub hl [0, 1, 2, 3, 4, 5, 6, 7, 8, 9] rfl) ⟨by omega, by omega⟩ ⟨by omega, by omega⟩ (by omega) (by omega) hI hS
                        · skip
                          have k15390 := iv_eq (X := v15386.toInt) (Y := (0)) rfl (by decide) c15388
                          refine lv_iload hx hb dX0_run_304 (lv_at hl 4 rfl) ?_
                          refine lv_iconst (v := 5) hx hb dX0_run_306 (by decide) ?_
                          refine lv_icmp_eq (tgt := 317) hx hb dX0_run_307 (by decide) (fun c15391 => ?_) (fun c15391 => ?_)
                          · skip
                            have k15392 := iv_eq (X := v15350.toInt) (Y := (5)) rfl (by decide) c15391
                            have hI := th_I.close hI hG0 hO (ok_8 hq15370 hq15372)
                            exact J_317 H locs ls l15380 l15377 v15367 v15354 v15350 v15070 (lv_sub hl [0, 1, 2, 3, 4, 5, 6, 7, 8, 9] rfl) ⟨by omega, by omega⟩ ⟨by omega, by omega⟩ (by omega) (by omega) hI hS
                          · skip
                            have k15393 := iv_ne (X := v15350.toInt) (Y := (5)) rfl (by decide) c15391
                            refine lv_iload hx hb dX0_run_310 (lv_at hl 4 rfl) ?_
                            refine lv_bipush (v := 6) hx hb dX0_run_312 (by decide) ?_
                            refine lv_icmp_ne (tgt := 319) hx hb dX0_run_314 (by decide) (fun c15394 => ?_) (fun c15394 => ?_)
                            · skip
                              have k15395 := iv_ne (X := v15350.toInt) (Y := (6)) rfl (by decide) c15394
                              have hI := th_I.close hI hG0 hO (ok_8 hq15370 hq15372)
                              exact J_319 H locs ls l15380 l15377 v15367 v15354 v15350 v15070 (lv_sub hl [0, 1, 2, 3, 4, 5, 6, 7, 8, 9] rfl) ⟨by omega, by omega⟩ ⟨by omega, by omega⟩ (by omega) (by omega) hI hS
                            · skip
                              have k15396 := iv_eq (X := v15350.toInt) (Y := (6)) rfl (by decide) c15394
                              have hI := th_I.close hI hG0 hO (ok_8 hq15370 hq15372)
                              exact J_317 H locs ls l15380 l15377 v15367 v15354 v15350 v15070 (lv_sub hl [0, 1, 2, 3, 4, 5, 6, 7, 8, 9] rfl) ⟨by omega, by omega⟩ ⟨by omega, by omega⟩ (by omega) (by omega) hI hS
                      · skip
                        have k15397 := iv_nlt (X := v15350.toInt) (Y := (7)) rfl (by decide) c15382
                        refine lv_aload_n hx hb dX0_run_228 rfl (lv_at hl 6 rfl) ?_
                        refine lv_iload hx hb dX0_run_229 (lv_at hl 4 rfl) ?_
                        refine lv_bipush (v := 7) hx hb dX0_run_231 (by decide) ?_
                        refine lv_icmp_ne (tgt := 252) hx hb dX0_run_233 (by decide) (fun c15398 => ?_) (fun c15398 => ?_)
                        · skip
                          have k15399 := iv_ne (X := v15350.toInt) (Y := (7)) rfl (by decide) c15398
                          refine lv_iload hx hb dX0_run_252 (lv_at hl 4 rfl) ?_
                          refine lv_bipush (v := 8) hx hb dX0_run_254 (by decide) ?_
                          refine lv_icmp_ne (tgt := 275) hx hb dX0_run_256 (by decide) (fun c15400 => ?_) (fun c15400 => ?_)
                          · skip
                            have k15401 := iv_ne (X := v15350.toInt) (Y := (8)) rfl (by decide) c15400
                            refine lv_lload hx hb dX0_run_275 (lv_at hl 1 rfl) ?_
                            refine lv_lload hx hb dX0_run_277 (lv_at hl 0 rfl) ?_
                            refine W.lcmp hx hb dX0_run_279 ?_
                            refine lv_topi (fun v15402 e15403 => ?_)
                            have tv15402 := iv_cmp e15403
                            refine lv_if_ne (tgt := 287) hx hb dX0_run_280 (by decide) (fun c15404 => ?_) (fun c15404 => ?_)
                            · skip
                              have k15405 := iv_ne (X := v15402.toInt) (Y := (0)) rfl (by decide) c15404
                              refine lv_iconst (v := 0) hx hb dX0_run_287 (by decide) ?_
                              have hI := th_I.close hI hG0 hO (ok_8 hq15370 hq15372)
                              exact J_288 H locs ls l15380 l15377 v15367 v15354 v15350 v15070 0 (lv_sub hl [0, 1, 2, 3, 4, 5, 6, 7, 8, 9] rfl) ⟨by omega, by omega⟩ ⟨by omega, by omega⟩ (by omega) (by omega) ⟨by decide, by decide⟩ hI hS
                            · skip
                              have k15406 := iv_eq (X := v15402.toInt) (Y := (0)) rfl (by decide) c15404
                              refine lv_iconst (v := 1) hx hb dX0_run_283 (by decide) ?_
                              refine lv_goto (tgt := 288) hx hb dX0_run_284 (by decide) ?_
                              have hI := th_I.close hI hG0 hO (ok_8 hq15370 hq15372)
                              exact J_288 H locs ls l15380 l15377 v15367 v15354 v15350 v15070 1 (lv_sub hl [0, 1, 2, 3, 4, 5, 6, 7, 8, 9] rfl) ⟨by omega, by omega⟩ ⟨by omega, by omega⟩ (by omega) (by omega) ⟨by decide, by decide⟩ hI hS
                          · skip
                            have k15407 := iv_eq (X := v15350.toInt) (Y := (8)) rfl (by decide) c15400
                            refine lv_lload hx hb dX0_run_259 (lv_at hl 1 rfl) ?_
                            refine lv_lload hx hb dX0_run_261 (lv_at hl 0 rfl) ?_
                            refine W.lcmp hx hb dX0_run_263 ?_
                            refine lv_topi (fun v15408 e15409 => ?_)
                            have tv15408 := iv_cmp e15409
                            refine lv_if_le (tgt := 271) hx hb dX0_run_264 (by decide) (fun c15410 => ?_) (fun c15410 => ?_)
                            · skip
                              have k15411 := iv_le (X := v15408.toInt) (Y := (0)) rfl (by decide) c15410
                              refine lv_iconst (v := 0) hx hb dX0_run_271 (by decide) ?_
                              refine lv_goto (tgt := 288) hx hb dX0_run_272 (by decide) ?_
                              have hI := th_I.close hI hG0 hO (ok_8 hq15370 hq15372)
                              exact J_288 H locs ls l15380 l15377 v15367 v15354 v15350 v15070 0 (lv_sub hl [0, 1, 2, 3, 4, 5, 6, 7, 8, 9] rfl) ⟨by omega, by omega⟩ ⟨by omega, by omega⟩ (by omega) (by omega) ⟨by decide, by decide⟩ hI hS
                            · skip
                              have k15412 := iv_nle (X := v15408.toInt) (Y := (0)) rfl (by decide) c15410
                              refine lv_iconst (v := 1) hx hb dX0_run_267 (by decide) ?_
                              refine lv_goto (tgt := 288) hx hb dX0_run_268 (by decide) ?_
                              have hI := th_I.close hI hG0 hO (ok_8 hq15370 hq15372)
                              exact J_288 H locs ls l15380 l15377 v15367 v15354 v15350 v15070 1 (lv_sub hl [0, 1, 2, 3, 4, 5, 6, 7, 8, 9] rfl) ⟨by omega, by omega⟩ ⟨by omega, by omega⟩ (by omega) (by omega) ⟨by decide, by decide⟩ hI hS
                        · skip
                          have k15413 := iv_eq (X := v15350.toInt) (Y := (7)) rfl (by decide) c15398
                          refine lv_lload hx hb dX0_run_236 (lv_at hl 1 rfl) ?_
                          refine lv_lload hx hb dX0_run_238 (lv_at hl 0 rfl) ?_
                          refine W.lcmp hx hb dX0_run_240 ?_
                          refine lv_topi (fun v15414 e15415 => ?_)
                          have tv15414 := iv_cmp e15415
                          refine lv_if_ge (tgt := 248) hx hb dX0_run_241 (by decide) (fun c15416 => ?_) (fun c15416 => ?_)
                          · skip
                            have k15417 := iv_le (X := (0)) (Y := v15414.toInt) (by decide) rfl c15416
                            refine lv_iconst (v := 0) hx hb dX0_run_248 (by decide) ?_
                            refine lv_goto (tgt := 288) hx hb dX0_run_249 (by decide) ?_
                            have hI := th_I.close hI hG0 hO (ok_8 hq15370 hq15372)
                            exact J_288 H locs ls l15380 l15377 v15367 v15354 v15350 v15070 0 (lv_sub hl [0, 1, 2, 3, 4, 5, 6, 7, 8, 9] rfl) ⟨by omega, by omega⟩ ⟨by omega, by omega⟩ (by omega) (by omega) ⟨by decide, by decide⟩ hI hS
                          · skip
                            have k15418 := iv_nle (X := (0)) (Y := v15414.toInt) (by decide) rfl c15416
                            refine lv_iconst (v := 1) hx hb dX0_run_244 (by decide) ?_
                            refine lv_goto (tgt := 288) hx hb dX0_run_245 (by decide) ?_
                            have hI := th_I.close hI hG0 hO (ok_8 hq15370 hq15372)
                            exact J_288 H locs ls l15380 l15377 v15367 v15354 v15350 v15070 1 (lv_sub hl [0, 1, 2, 3, 4, 5, 6, 7, 8, 9] rfl) ⟨by omega, by omega⟩ ⟨by omega, by omega⟩ (by omega) (by omega) ⟨by decide, by decide⟩ hI hS
                    · skip
                      have k15419 := iv_nle (X := (2)) (Y := v15071.toInt) (by decide) rfl c15365
                      refine lv_iconst (v := 0) hx hb dX0_run_196 (by decide) ?_
                      have hpost : True := trivial
                      rw [hQ]
                      exact W.zret (v := 0) hx hb hr (by decide) (fun t ht hW => ⟨⟨0, (), rfl, hpost, by rw [ht]; exact hI, hN.warm hW, va_K.moved hW.alike hK⟩, hS.F ht⟩) hS.2.2 dX0_run_197
                  · skip
                    have k15420 := iv_nlt (X := v15350.toInt) (Y := (11)) rfl (by decide) c15363
                    refine lv_aload_n hx hb dX0_run_150 rfl (lv_at hl 4 rfl) ?_
                    obtain ⟨a15421, a15423, w15425, hO, hq15422, hq15424⟩ := op_8 hI hG0 List.not_mem_nil
                    have hI := th_I.weak (a := h0) hI
                    refine th_get hx hb hts inT0 hown hK hO rfl 2 (by decide) (hts _ (tb_c wd_180)) rfl rfl dX0_run_151 ?_
                    refine lv_iload hx hb dX0_run_154 (lv_at hl 1 rfl) ?_
                    refine lv_bipush (v := 11) hx hb dX0_run_156 (by decide) ?_
                    refine lv_icmp_ne (tgt := 165) hx hb dX0_run_158 (by decide) (fun c15426 => ?_) (fun c15426 => ?_)
                    · skip
                      have k15427 := iv_ne (X := v15350.toInt) (Y := (11)) rfl (by decide) c15426
                      refine lv_iconst (v := 0) hx hb dX0_run_165 (by decide) ?_
                      have hI := th_I.close hI hG0 hO (ok_8 hq15422 hq15424)
                      exact J_166 H locs ls v15354 v15350 v15071 0 w15425 (lv_sub hl [0, 1, 2, 3, 4, 5, 6, 7] rfl) ⟨by omega, by omega⟩ (by omega) ⟨by omega, by omega⟩ (by omega) ⟨by decide, by decide⟩ hI hS
                    · skip
                      have k15428 := iv_eq (X := v15350.toInt) (Y := (11)) rfl (by decide) c15426
                      refine lv_iconst (v := 1) hx hb dX0_run_161 (by decide) ?_
                      refine lv_goto (tgt := 166) hx hb dX0_run_162 (by decide) ?_
                      have hI := th_I.close hI hG0 hO (ok_8 hq15422 hq15424)
                      exact J_166 H locs ls v15354 v15350 v15071 1 w15425 (lv_sub hl [0, 1, 2, 3, 4, 5, 6, 7] rfl) ⟨by omega, by omega⟩ (by omega) ⟨by omega, by omega⟩ (by omega) ⟨by decide, by decide⟩ hI hS
                · skip
                  have k15429 := iv_eq (X := v15350.toInt) (Y := (10)) rfl (by decide) c15361
                  refine lv_aload_n hx hb dX0_run_124 rfl (lv_at hl 4 rfl) ?_
                  refine lv_aload_n hx hb dX0_run_125 rfl (lv_at hl 4 rfl) ?_
                  obtain ⟨a15430, a15432, w15434, hO, hq15431, hq15433⟩ := op_8 hI hG0 List.not_mem_nil
                  have hI := th_I.weak (a := h0) hI
                  refine th_get hx hb hts inT0 hown hK hO rfl 2 (by decide) (hts _ (tb_c wd_180)) rfl rfl dX0_run_126 ?_
                  have k15435 := iv_lo w15434
                  have k15436 := iv_hi w15434
                  refine lv_if_ne (tgt := 136) hx hb dX0_run_129 (by decide) (fun c15437 => ?_) (fun c15437 => ?_)
                  · skip
                    have k15438 := iv_ne (X := w15434.toInt) (Y := (0)) rfl (by decide) c15437
                    refine lv_iconst (v := 0) hx hb dX0_run_136 (by decide) ?_
                    have hI := th_I.close hI hG0 hO (ok_8 hq15431 hq15433)
                    exact J_137 H locs ls v15354 v15350 v15071 0 (lv_sub hl [0, 1, 2, 3, 4, 5, 6, 7] rfl) ⟨by omega, by omega⟩ (by omega) ⟨by omega, by omega⟩ (by omega) ⟨by decide, by decide⟩ hI hS
                  · skip
                    have k15439 := iv_eq (X := w15434.toInt) (Y := (0)) rfl (by decide) c15437
                    refine lv_iconst (v := 1) hx hb dX0_run_132 (by decide) ?_
                    refine lv_goto (tgt := 137) hx hb dX0_run_133 (by decide) ?_
                    have hI := th_I.close hI hG0 hO (ok_8 hq15431 hq15433)
                    exact J_137 H locs ls v15354 v15350 v15071 1 (lv_sub hl [0, 1, 2, 3, 4, 5, 6, 7] rfl) ⟨by omega, by omega⟩ (by omega) ⟨by omega, by omega⟩ (by omega) ⟨by decide, by decide⟩ hI hS
              · skip
                have k15440 := iv_eq (X := v15350.toInt) (Y := (1)) rfl (by decide) c15359
                exact J_52 H locs ls v15354 v15350 (lv_sub hl [0, 1, 2, 3, 4, 5, 6, 7] rfl) ⟨by omega, by omega⟩ (by omega) (by omega) hI hS
  refine lv_iconst (v := 0) hx hb dX0_run_0 (by decide) ?_
  refine lv_istore (lv' := [(4, .int 0), (0, .ref h0), (1, .ref p1), (2, .int x2), (3, .int x3)]) hx hb dX0_run_1 hl (by decide) rfl (fun ls hl => ?_)
  refine lv_iload_n hx hb dX0_run_3 rfl (lv_at hl 3 rfl) ?_
  refine lv_istore (lv' := [(5, .int x2), (4, .int 0), (0, .ref h0), (1, .ref p1), (2, .int x2), (3, .int x3)]) hx hb dX0_run_4 hl (by decide) rfl (fun ls hl => ?_)
  have zl : (0 : Int32).toInt = 0 := by decide
  exact J_6 _ s.heap [] ls x2 0 rfl (lv_sub hl [0, 1, 2, 3, 4, 5] rfl) ⟨by decide, by decide⟩ hI hS
theorem dX0_tells_0 : decode cX0_tells 0 = .ok (.aload_n 1, 1) := by decide +kernel
theorem dX0_tells_1 : decode cX0_tells 1 = .ok (.getfield 32, 3) := by decide +kernel
theorem dX0_tells_4 : decode cX0_tells 4 = .ok (.iconst 1, 1) := by decide +kernel
theorem dX0_tells_5 : decode cX0_tells 5 = .ok (.isub, 1) := by decide +kernel
theorem dX0_tells_6 : decode cX0_tells 6 = .ok (.istore_n 3, 1) := by decide +kernel
theorem dX0_tells_7 : decode cX0_tells 7 = .ok (.iload_n 3, 1) := by decide +kernel
theorem dX0_tells_8 : decode cX0_tells 8 = .ok (.ifCond .lt 112, 3) := by decide +kernel
theorem dX0_tells_11 : decode cX0_tells 11 = .ok (.aload_n 1, 1) := by decide +kernel
theorem dX0_tells_12 : decode cX0_tells 12 = .ok (.getfield 37, 3) := by decide +kernel
theorem dX0_tells_15 : decode cX0_tells 15 = .ok (.iload_n 3, 1) := by decide +kernel
theorem dX0_tells_16 : decode cX0_tells 16 = .ok (.iaload, 1) := by decide +kernel
theorem dX0_tells_17 : decode cX0_tells 17 = .ok (.iload_n 2, 1) := by decide +kernel
theorem dX0_tells_18 : decode cX0_tells 18 = .ok (.if_icmp .ne 96, 3) := by decide +kernel
theorem dX0_tells_21 : decode cX0_tells 21 = .ok (.aload_n 0, 1) := by decide +kernel
theorem dX0_tells_22 : decode cX0_tells 22 = .ok (.iconst 1, 1) := by decide +kernel
theorem dX0_tells_23 : decode cX0_tells 23 = .ok (.putfield 19, 3) := by decide +kernel
theorem dX0_tells_26 : decode cX0_tells 26 = .ok (.aload_n 0, 1) := by decide +kernel
theorem dX0_tells_27 : decode cX0_tells 27 = .ok (.aload_n 1, 1) := by decide +kernel
theorem dX0_tells_28 : decode cX0_tells 28 = .ok (.getfield 40, 3) := by decide +kernel
theorem dX0_tells_31 : decode cX0_tells 31 = .ok (.aload_n 1, 1) := by decide +kernel
theorem dX0_tells_32 : decode cX0_tells 32 = .ok (.getfield 43, 3) := by decide +kernel
theorem dX0_tells_35 : decode cX0_tells 35 = .ok (.iconst 2, 1) := by decide +kernel
theorem dX0_tells_36 : decode cX0_tells 36 = .ok (.iload_n 3, 1) := by decide +kernel
theorem dX0_tells_37 : decode cX0_tells 37 = .ok (.imul, 1) := by decide +kernel
theorem dX0_tells_38 : decode cX0_tells 38 = .ok (.iconst 1, 1) := by decide +kernel
theorem dX0_tells_39 : decode cX0_tells 39 = .ok (.iadd, 1) := by decide +kernel
theorem dX0_tells_40 : decode cX0_tells 40 = .ok (.iaload, 1) := by decide +kernel
theorem dX0_tells_41 : decode cX0_tells 41 = .ok (.aload_n 1, 1) := by decide +kernel
theorem dX0_tells_42 : decode cX0_tells 42 = .ok (.getfield 43, 3) := by decide +kernel
theorem dX0_tells_45 : decode cX0_tells 45 = .ok (.iconst 2, 1) := by decide +kernel
theorem dX0_tells_46 : decode cX0_tells 46 = .ok (.iload_n 3, 1) := by decide +kernel
theorem dX0_tells_47 : decode cX0_tells 47 = .ok (.imul, 1) := by decide +kernel
theorem dX0_tells_48 : decode cX0_tells 48 = .ok (.iconst 2, 1) := by decide +kernel
theorem dX0_tells_49 : decode cX0_tells 49 = .ok (.iadd, 1) := by decide +kernel
theorem dX0_tells_50 : decode cX0_tells 50 = .ok (.iaload, 1) := by decide +kernel
theorem dX0_tells_51 : decode cX0_tells 51 = .ok (.invokevirtual 46, 3) := by decide +kernel
theorem dX0_tells_54 : decode cX0_tells 54 = .ok (.istore 4, 2) := by decide +kernel
theorem dX0_tells_56 : decode cX0_tells 56 = .ok (.iload 4, 2) := by decide +kernel
theorem dX0_tells_58 : decode cX0_tells 58 = .ok (.ifCond .eq 56, 3) := by decide +kernel
theorem dX0_tells_61 : decode cX0_tells 61 = .ok (.aload_n 0, 1) := by decide +kernel
theorem dX0_tells_62 : decode cX0_tells 62 = .ok (.getfield 19, 3) := by decide +kernel
theorem dX0_tells_65 : decode cX0_tells 65 = .ok (.ifCond .eq 49, 3) := by decide +kernel
theorem dX0_tells_68 : decode cX0_tells 68 = .ok (.aload_n 0, 1) := by decide +kernel
theorem dX0_tells_69 : decode cX0_tells 69 = .ok (.aload_n 1, 1) := by decide +kernel
theorem dX0_tells_70 : decode cX0_tells 70 = .ok (.getfield 40, 3) := by decide +kernel
theorem dX0_tells_73 : decode cX0_tells 73 = .ok (.aload_n 1, 1) := by decide +kernel
theorem dX0_tells_74 : decode cX0_tells 74 = .ok (.getfield 43, 3) := by decide +kernel
theorem dX0_tells_77 : decode cX0_tells 77 = .ok (.iconst 2, 1) := by decide +kernel
theorem dX0_tells_78 : decode cX0_tells 78 = .ok (.iload_n 3, 1) := by decide +kernel
theorem dX0_tells_79 : decode cX0_tells 79 = .ok (.imul, 1) := by decide +kernel
theorem dX0_tells_80 : decode cX0_tells 80 = .ok (.iaload, 1) := by decide +kernel
theorem dX0_tells_81 : decode cX0_tells 81 = .ok (.aload_n 1, 1) := by decide +kernel
theorem dX0_tells_82 : decode cX0_tells 82 = .ok (.getfield 43, 3) := by decide +kernel
theorem dX0_tells_85 : decode cX0_tells 85 = .ok (.iconst 2, 1) := by decide +kernel
theorem dX0_tells_86 : decode cX0_tells 86 = .ok (.iload_n 3, 1) := by decide +kernel
theorem dX0_tells_87 : decode cX0_tells 87 = .ok (.imul, 1) := by decide +kernel
theorem dX0_tells_88 : decode cX0_tells 88 = .ok (.iconst 1, 1) := by decide +kernel
theorem dX0_tells_89 : decode cX0_tells 89 = .ok (.iadd, 1) := by decide +kernel
theorem dX0_tells_90 : decode cX0_tells 90 = .ok (.iaload, 1) := by decide +kernel
theorem dX0_tells_91 : decode cX0_tells 91 = .ok (.invokevirtual 46, 3) := by decide +kernel
theorem dX0_tells_94 : decode cX0_tells 94 = .ok (.ifCond .eq 20, 3) := by decide +kernel
theorem dX0_tells_97 : decode cX0_tells 97 = .ok (.iload_n 2, 1) := by decide +kernel
theorem dX0_tells_98 : decode cX0_tells 98 = .ok (.iconst 3, 1) := by decide +kernel
theorem dX0_tells_99 : decode cX0_tells 99 = .ok (.if_icmp .ne 7, 3) := by decide +kernel
theorem dX0_tells_102 : decode cX0_tells 102 = .ok (.iconst 0, 1) := by decide +kernel
theorem dX0_tells_103 : decode cX0_tells 103 = .ok (.goto 10, 3) := by decide +kernel
theorem dX0_tells_106 : decode cX0_tells 106 = .ok (.aload_n 0, 1) := by decide +kernel
theorem dX0_tells_107 : decode cX0_tells 107 = .ok (.getfield 15, 3) := by decide +kernel
theorem dX0_tells_110 : decode cX0_tells 110 = .ok (.iconst 0, 1) := by decide +kernel
theorem dX0_tells_111 : decode cX0_tells 111 = .ok (.laload, 1) := by decide +kernel
theorem dX0_tells_112 : decode cX0_tells 112 = .ok (.l2i, 1) := by decide +kernel
theorem dX0_tells_113 : decode cX0_tells 113 = .ok (.ireturn, 1) := by decide +kernel
theorem dX0_tells_114 : decode cX0_tells 114 = .ok (.iinc 3 (-1), 3) := by decide +kernel
theorem dX0_tells_117 : decode cX0_tells 117 = .ok (.goto (-110), 3) := by decide +kernel
theorem dX0_tells_120 : decode cX0_tells 120 = .ok (.ldc 50, 2) := by decide +kernel
theorem dX0_tells_122 : decode cX0_tells 122 = .ok (.ireturn, 1) := by decide +kernel
set_option maxHeartbeats 4000000 in
set_option maxRecDepth 100000 in
theorem c_X0_tells (l : Launch) (E : Nat → ClassId) (D : va_G) (G : th_G) (h0 : Nat) (hG0 : G h0 = some (8, 0)) (p1 n1 : Nat) (hp1 : G p1 = some (5, n1)) (x2 : Int32) : Met l yX0_tells (tb (.code yX0_tells cX0_tells 5 (some .int))) (rm 1) (va_Pc [.ref h0, .ref p1, .int x2] (th_P E D G)) (QI E D G (fun r => True)) 0 0 (th_A G) := by
  refine Met.ofW (cc := cX0_tells) (maxL := 5) (ret := (some .int)) (by decide) rfl ?_
  intro p e s m args below meth c s₁ B hml hv
  obtain ⟨hav, hI, hN, hK⟩ := hv
  have hx := B.exec
  have hb := B.bytes
  have hr := B.returns
  have hts := atoms_spec (ws := tb (.code yX0_tells cX0_tells 5 (some .int))) B.pre
  have hown : s.vm.findClass RX0 = some m.cls := findClass_of_methodNamed B.named
  have hlocks := B.notSynchronized
  have hS : va_S (th_A G) s.heap s.heap [] := va_S.rf
  have hl := lv_entry ([.ref h0, .ref p1, .int x2]) (n := 5) (Nat.le_of_ble_eq_true rfl)
  rw [show entryFrame m args 5 = entryFrame m ([.ref h0, .ref p1, .int x2] : List Value).toArray 5 from by rw [hav], lg_entry_eq]
  generalize (lg_sl ([.ref h0, .ref p1, .int x2]) ++ List.replicate (5 - (lg_sl ([.ref h0, .ref p1, .int x2])).length) Slot.unset).toArray = ls at hl ⊢
  have hl : lv_has ls 5 [(0, .ref h0), (1, .ref p1), (2, .int x2)] := hl
  generalize hR : (headSpec (tb (.code yX0_tells cX0_tells 5 (some .int))) (rm 1)).room = R
  have hR := hR.symm
  generalize hQ : MQ below (QI E D G (fun r => True)) args s 0 0 (th_A G) = QF
  have hQ := hQ.symm
  have J_7 : ∀ (nn : Nat) (H : Heap) (locs : List Loc) (ls : Array Slot) (v888 : Int32), (Int.toNat (v888.toInt - (-1)) = nn) → lv_has ls 5 [(3, .int v888), (0, .ref h0), (1, .ref p1), (2, .int x2)] → ((-1 : Int) ≤ v888.toInt ∧ v888.toInt ≤ 15) → th_I (okC E) D G [] H → va_S (th_A G) s.heap H locs → W p l e R s m args below meth c H locs 0 0 QF (F0 m 7 ls []) := by
    intro nn
    induction nn using Nat.strongRecOn with
    | ind nn ih_7 =>
      intro H locs ls v888 hm hl k889 hI hS
      refine lv_iload_n hx hb dX0_tells_7 rfl (lv_at hl 0 rfl) ?_
      refine lv_if_lt (tgt := 120) hx hb dX0_tells_8 (by decide) (fun c890 => ?_) (fun c890 => ?_)
      · skip
        have k891 := iv_lt (X := v888.toInt) (Y := (0)) rfl (by decide) c890
        refine lv_ldc hx hb hown (hts _ (tb_c wd_581)) dX0_tells_120 ?_
        have hpost : True := trivial
        rw [hQ]
        exact W.iret (v := (-2000000000)) hx hb hr (fun t ht hW => ⟨⟨(-2000000000), (), rfl, hpost, by rw [ht]; exact hI, hN.warm hW, va_K.moved hW.alike hK⟩, hS.F ht⟩) hS.2.2 dX0_tells_122
      · skip
        have k892 := iv_nlt (X := v888.toInt) (Y := (0)) rfl (by decide) c890
        refine lv_aload_n hx hb dX0_tells_11 rfl (lv_at hl 2 rfl) ?_
        obtain ⟨a893, a895, a897, m898, hO, hq894, hq896, ⟨hq899, k900⟩, k901⟩ := op_5 hI hp1 List.not_mem_nil
        have hI := th_I.weak (a := p1) hI
        have k902 : (nI n1).toInt = ((n1 : Nat) : Int) := nI_toInt (by omega)
        refine th_getN hx hb hts inT2 hown hK hN hO rfl 1 (by decide) wn_770 rfl rfl dX0_tells_12 ?_
        refine lv_iload_n hx hb dX0_tells_15 rfl (lv_at hl 0 rfl) ?_
        obtain ⟨_, hA903⟩ := op_0 hI hq894 (th_ne hp1 hq894 (show (5 : Nat) ≠ 0 by decide))
        refine th_iald hx hb hK hA903 0 rfl (iv_in (X := v888.toInt) rfl (by omega) (by omega)) dX0_tells_16 (fun v904 _ => ?_)
        refine lv_iload_n hx hb dX0_tells_17 rfl (lv_at hl 3 rfl) ?_
        have k905 := iv_lo v904
        have k906 := iv_hi v904
        have k907 := iv_lo x2
        have k908 := iv_hi x2
        refine lv_icmp_ne (tgt := 114) hx hb dX0_tells_18 (by decide) (fun c909 => ?_) (fun c909 => ?_)
        · skip
          have k910 := iv_ne (X := v904.toInt) (Y := x2.toInt) rfl rfl c909
          obtain ⟨v911, e912⟩ : ∃ y : Int32, y = v888 + (-1) := ⟨_, rfl⟩
          have tv911 : v911.toInt = v888.toInt + (-1) := iv_add rfl (by decide) e912 (by omega) (by omega)
          refine lv_iinc (v := v911) (lv' := [(3, .int v911), (0, .ref h0), (1, .ref p1), (2, .int x2)]) hx hb dX0_tells_114 hl (k := 0) rfl (by rw [e912]; rfl) (by decide) rfl (fun ls hl => ?_)
          refine lv_goto (tgt := 7) hx hb dX0_tells_117 (by decide) ?_
          have hI := th_I.close hI hp1 hO (ok_5 hq894 hq896 ⟨hq899, by omega⟩ (by omega))
          exact ih_7 _ (by omega) H locs ls v911 rfl (lv_sub hl [0, 1, 2, 3] rfl) ⟨by omega, by omega⟩ hI hS
        · skip
          have k913 := iv_eq (X := v904.toInt) (Y := x2.toInt) rfl rfl c909
          refine lv_aload_n hx hb dX0_tells_21 rfl (lv_at hl 1 rfl) ?_
          refine lv_iconst (v := 1) hx hb dX0_tells_22 (by decide) ?_
          have hI := th_I.close hI hp1 hO (ok_5 hq894 hq896 ⟨hq899, by omega⟩ (by omega))
          obtain ⟨a914, a916, w918, hO, hq915, hq917⟩ := op_8 hI hG0 List.not_mem_nil
          have hI := th_I.weak (a := h0) hI
          refine th_put (ty := .boolean) hx hb hts inT0 tyX0 tyX0_ok nmX0 hown hK hO hS ⟨_, hG0⟩ rfl 2 (by decide) (hts _ (tb_c wd_180)) rfl rfl (by decide +kernel) (by decide) rfl (Nat.le_of_ble_eq_true rfl) dX0_tells_23 (fun H locs hO oq hS => ?_)
          have hI := th_I.moved hI oq
          have hO : va_at D vwCl (h0, .inr (0, [.ref a914, .ref a916, .int 1])) H := hO
          refine lv_aload_n hx hb dX0_tells_26 rfl (lv_at hl 1 rfl) ?_
          refine lv_aload_n hx hb dX0_tells_27 rfl (lv_at hl 2 rfl) ?_
          have hI := th_I.close hI hG0 hO (ok_8 hq915 hq917)
          obtain ⟨a919, a921, a923, m924, hO, hq920, hq922, ⟨hq925, k926⟩, k927⟩ := op_5 hI hp1 List.not_mem_nil
          have hI := th_I.weak (a := p1) hI
          have k928 : (nI n1).toInt = ((n1 : Nat) : Int) := nI_toInt (by omega)
          refine th_getN hx hb hts inT2 hown hK hN hO rfl 3 (by decide) wn_774 rfl rfl dX0_tells_28 ?_
          refine lv_aload_n hx hb dX0_tells_31 rfl (lv_at hl 2 rfl) ?_
          refine th_getN hx hb hts inT2 hown hK hN hO rfl 2 (by decide) wn_772 rfl rfl dX0_tells_32 ?_
          refine lv_iconst (v := 2) hx hb dX0_tells_35 (by decide) ?_
          refine lv_iload_n hx hb dX0_tells_36 rfl (lv_at hl 0 rfl) ?_
          refine lv_imul hx hb dX0_tells_37 ?_
          refine lv_topi (fun v929 e930 => ?_)
          have tv929 : v929.toInt = (2) * v888.toInt := iv_mul (by decide) rfl e930 (by omega) (by omega)
          refine lv_iconst (v := 1) hx hb dX0_tells_38 (by decide) ?_
          refine lv_iadd hx hb dX0_tells_39 ?_
          refine lv_topi (fun v931 e932 => ?_)
          have tv931 : v931.toInt = v929.toInt + (1) := iv_add rfl (by decide) e932 (by omega) (by omega)
          obtain ⟨_, hA933⟩ := op_0 hI hq922 (th_ne hp1 hq922 (show (5 : Nat) ≠ 0 by decide))
          refine th_iald hx hb hK hA933 0 rfl (iv_in (X := v931.toInt) rfl (by omega) (by omega)) dX0_tells_40 (fun v934 _ => ?_)
          refine lv_aload_n hx hb dX0_tells_41 rfl (lv_at hl 2 rfl) ?_
          refine th_getN hx hb hts inT2 hown hK hN hO rfl 2 (by decide) wn_772 rfl rfl dX0_tells_42 ?_
          refine lv_iconst (v := 2) hx hb dX0_tells_45 (by decide) ?_
          refine lv_iload_n hx hb dX0_tells_46 rfl (lv_at hl 0 rfl) ?_
          refine lv_imul hx hb dX0_tells_47 ?_
          refine lv_topi (fun v935 e936 => ?_)
          have tv935 : v935.toInt = (2) * v888.toInt := iv_mul (by decide) rfl e936 (by omega) (by omega)
          refine lv_iconst (v := 2) hx hb dX0_tells_48 (by decide) ?_
          refine lv_iadd hx hb dX0_tells_49 ?_
          refine lv_topi (fun v937 e938 => ?_)
          have tv937 : v937.toInt = v935.toInt + (2) := iv_add rfl (by decide) e938 (by omega) (by omega)
          obtain ⟨_, hA939⟩ := op_0 hI hq922 (th_ne hp1 hq922 (show (5 : Nat) ≠ 0 by decide))
          refine th_iald hx hb hK hA939 0 rfl (iv_in (X := v937.toInt) rfl (by omega) (by omega)) dX0_tells_50 (fun v940 _ => ?_)
          have hI := th_I.close hI hp1 hO (ok_5 hq920 hq922 ⟨hq925, by omega⟩ (by omega))
          refine th_cVi (As := [.ref a923, .int v934, .int v940]) (rest := []) (n := 3) (d := 0) ⟨hx, hb, hml, hown, hts⟩ (c_X0_run l E D G h0 hG0 a923 (m924) hq925 (by omega) v934 v940) wd_575 wd_577 wp_6 wd_7 wd_578 (by decide +kernel) ⟨by rw [hR]; exact Nat.le_of_ble_eq_true rfl, by rw [hR]; exact Nat.le_of_ble_eq_true rfl⟩ hI hN hK hS (rc_8 hI hG0 List.not_mem_nil) rfl rfl hl.1 rfl (Nat.le_of_ble_eq_true rfl) dX0_tells_51 ⟨Nat.zero_le _, Nat.zero_le _⟩ (fun r941 H locs hp hI hS => ?_)
          refine lv_istore (lv' := [(4, .int r941), (3, .int v888), (0, .ref h0), (1, .ref p1), (2, .int x2)]) hx hb dX0_tells_54 hl (by decide) rfl (fun ls hl => ?_)
          refine lv_iload hx hb dX0_tells_56 (lv_at hl 0 rfl) ?_
          have k942 := iv_lo r941
          have k943 := iv_hi r941
          refine lv_if_eq (tgt := 114) hx hb dX0_tells_58 (by decide) (fun c944 => ?_) (fun c944 => ?_)
          · skip
            have k945 := iv_eq (X := r941.toInt) (Y := (0)) rfl (by decide) c944
            obtain ⟨v946, e947⟩ : ∃ y : Int32, y = v888 + (-1) := ⟨_, rfl⟩
            have tv946 : v946.toInt = v888.toInt + (-1) := iv_add rfl (by decide) e947 (by omega) (by omega)
            refine lv_iinc (v := v946) (lv' := [(3, .int v946), (4, .int r941), (0, .ref h0), (1, .ref p1), (2, .int x2)]) hx hb dX0_tells_114 hl (k := 1) rfl (by rw [e947]; rfl) (by decide) rfl (fun ls hl => ?_)
            refine lv_goto (tgt := 7) hx hb dX0_tells_117 (by decide) ?_
            exact ih_7 _ (by omega) H locs ls v946 rfl (lv_sub hl [0, 2, 3, 4] rfl) ⟨by omega, by omega⟩ hI hS
          · skip
            have k948 := iv_ne (X := r941.toInt) (Y := (0)) rfl (by decide) c944
            refine lv_aload_n hx hb dX0_tells_61 rfl (lv_at hl 2 rfl) ?_
            obtain ⟨a949, a951, w953, hO, hq950, hq952⟩ := op_8 hI hG0 List.not_mem_nil
            have hI := th_I.weak (a := h0) hI
            refine th_get hx hb hts inT0 hown hK hO rfl 2 (by decide) (hts _ (tb_c wd_180)) rfl rfl dX0_tells_62 ?_
            have k954 := iv_lo w953
            have k955 := iv_hi w953
            refine lv_if_eq (tgt := 114) hx hb dX0_tells_65 (by decide) (fun c956 => ?_) (fun c956 => ?_)
            · skip
              have k957 := iv_eq (X := w953.toInt) (Y := (0)) rfl (by decide) c956
              obtain ⟨v958, e959⟩ : ∃ y : Int32, y = v888 + (-1) := ⟨_, rfl⟩
              have tv958 : v958.toInt = v888.toInt + (-1) := iv_add rfl (by decide) e959 (by omega) (by omega)
              refine lv_iinc (v := v958) (lv' := [(3, .int v958), (4, .int r941), (0, .ref h0), (1, .ref p1), (2, .int x2)]) hx hb dX0_tells_114 hl (k := 1) rfl (by rw [e959]; rfl) (by decide) rfl (fun ls hl => ?_)
              refine lv_goto (tgt := 7) hx hb dX0_tells_117 (by decide) ?_
              have hI := th_I.close hI hG0 hO (ok_8 hq950 hq952)
              exact ih_7 _ (by omega) H locs ls v958 rfl (lv_sub hl [0, 2, 3, 4] rfl) ⟨by omega, by omega⟩ hI hS
            · skip
              have k960 := iv_ne (X := w953.toInt) (Y := (0)) rfl (by decide) c956
              refine lv_aload_n hx hb dX0_tells_68 rfl (lv_at hl 2 rfl) ?_
              refine lv_aload_n hx hb dX0_tells_69 rfl (lv_at hl 3 rfl) ?_
              have hI := th_I.close hI hG0 hO (ok_8 hq950 hq952)
              obtain ⟨a961, a963, a965, m966, hO, hq962, hq964, ⟨hq967, k968⟩, k969⟩ := op_5 hI hp1 List.not_mem_nil
              have hI := th_I.weak (a := p1) hI
              have k970 : (nI n1).toInt = ((n1 : Nat) : Int) := nI_toInt (by omega)
              refine th_getN hx hb hts inT2 hown hK hN hO rfl 3 (by decide) wn_774 rfl rfl dX0_tells_70 ?_
              refine lv_aload_n hx hb dX0_tells_73 rfl (lv_at hl 3 rfl) ?_
              refine th_getN hx hb hts inT2 hown hK hN hO rfl 2 (by decide) wn_772 rfl rfl dX0_tells_74 ?_
              refine lv_iconst (v := 2) hx hb dX0_tells_77 (by decide) ?_
              refine lv_iload_n hx hb dX0_tells_78 rfl (lv_at hl 1 rfl) ?_
              refine lv_imul hx hb dX0_tells_79 ?_
              refine lv_topi (fun v971 e972 => ?_)
              have tv971 : v971.toInt = (2) * v888.toInt := iv_mul (by decide) rfl e972 (by omega) (by omega)
              obtain ⟨_, hA973⟩ := op_0 hI hq964 (th_ne hp1 hq964 (show (5 : Nat) ≠ 0 by decide))
              refine th_iald hx hb hK hA973 0 rfl (iv_in (X := v971.toInt) rfl (by omega) (by omega)) dX0_tells_80 (fun v974 _ => ?_)
              refine lv_aload_n hx hb dX0_tells_81 rfl (lv_at hl 3 rfl) ?_
              refine th_getN hx hb hts inT2 hown hK hN hO rfl 2 (by decide) wn_772 rfl rfl dX0_tells_82 ?_
              refine lv_iconst (v := 2) hx hb dX0_tells_85 (by decide) ?_
              refine lv_iload_n hx hb dX0_tells_86 rfl (lv_at hl 1 rfl) ?_
              refine lv_imul hx hb dX0_tells_87 ?_
              refine lv_topi (fun v975 e976 => ?_)
              have tv975 : v975.toInt = (2) * v888.toInt := iv_mul (by decide) rfl e976 (by omega) (by omega)
              refine lv_iconst (v := 1) hx hb dX0_tells_88 (by decide) ?_
              refine lv_iadd hx hb dX0_tells_89 ?_
              refine lv_topi (fun v977 e978 => ?_)
              have tv977 : v977.toInt = v975.toInt + (1) := iv_add rfl (by decide) e978 (by omega) (by omega)
              obtain ⟨_, hA979⟩ := op_0 hI hq964 (th_ne hp1 hq964 (show (5 : Nat) ≠ 0 by decide))
              refine th_iald hx hb hK hA979 0 rfl (iv_in (X := v977.toInt) rfl (by omega) (by omega)) dX0_tells_90 (fun v980 _ => ?_)
              have hI := th_I.close hI hp1 hO (ok_5 hq962 hq964 ⟨hq967, by omega⟩ (by omega))
              refine th_cVi (As := [.ref a965, .int v974, .int v980]) (rest := []) (n := 3) (d := 0) ⟨hx, hb, hml, hown, hts⟩ (c_X0_run l E D G h0 hG0 a965 (m966) hq967 (by omega) v974 v980) wd_575 wd_577 wp_6 wd_7 wd_578 (by decide +kernel) ⟨by rw [hR]; exact Nat.le_of_ble_eq_true rfl, by rw [hR]; exact Nat.le_of_ble_eq_true rfl⟩ hI hN hK hS (rc_8 hI hG0 List.not_mem_nil) rfl rfl hl.1 rfl (Nat.le_of_ble_eq_true rfl) dX0_tells_91 ⟨Nat.zero_le _, Nat.zero_le _⟩ (fun r981 H locs hp hI hS => ?_)
              have k982 := iv_lo r981
              have k983 := iv_hi r981
              refine lv_if_eq (tgt := 114) hx hb dX0_tells_94 (by decide) (fun c984 => ?_) (fun c984 => ?_)
              · skip
                have k985 := iv_eq (X := r981.toInt) (Y := (0)) rfl (by decide) c984
                obtain ⟨v986, e987⟩ : ∃ y : Int32, y = v888 + (-1) := ⟨_, rfl⟩
                have tv986 : v986.toInt = v888.toInt + (-1) := iv_add rfl (by decide) e987 (by omega) (by omega)
                refine lv_iinc (v := v986) (lv' := [(3, .int v986), (4, .int r941), (0, .ref h0), (1, .ref p1), (2, .int x2)]) hx hb dX0_tells_114 hl (k := 1) rfl (by rw [e987]; rfl) (by decide) rfl (fun ls hl => ?_)
                refine lv_goto (tgt := 7) hx hb dX0_tells_117 (by decide) ?_
                exact ih_7 _ (by omega) H locs ls v986 rfl (lv_sub hl [0, 2, 3, 4] rfl) ⟨by omega, by omega⟩ hI hS
              · skip
                have k988 := iv_ne (X := r981.toInt) (Y := (0)) rfl (by decide) c984
                refine lv_iload_n hx hb dX0_tells_97 rfl (lv_at hl 4 rfl) ?_
                refine lv_iconst (v := 3) hx hb dX0_tells_98 (by decide) ?_
                refine lv_icmp_ne (tgt := 106) hx hb dX0_tells_99 (by decide) (fun c989 => ?_) (fun c989 => ?_)
                · skip
                  have k990 := iv_ne (X := x2.toInt) (Y := (3)) rfl (by decide) c989
                  refine lv_aload_n hx hb dX0_tells_106 rfl (lv_at hl 2 rfl) ?_
                  obtain ⟨a991, a993, w995, hO, hq992, hq994⟩ := op_8 hI hG0 List.not_mem_nil
                  have hI := th_I.weak (a := h0) hI
                  refine th_get hx hb hts inT0 hown hK hO rfl 1 (by decide) (hts _ (tb_c wd_179)) rfl rfl dX0_tells_107 ?_
                  refine lv_iconst (v := 0) hx hb dX0_tells_110 (by decide) ?_
                  obtain ⟨_, hA996⟩ := op_1 hI hq994 (th_ne hG0 hq994 (show (8 : Nat) ≠ 1 by decide))
                  refine va_lald hx hb hK (th_one hA996) 0 1 rfl rfl (iv_in (X := (0)) (by decide) (by omega) (by omega)) dX0_tells_111 ?_
                  refine lv_topl (fun l997 e998 => ?_)
                  refine lv_l2i hx hb dX0_tells_112 rfl ?_
                  refine lv_topi (fun v999 e1000 => ?_)
                  have hI := th_I.close hI hG0 hO (ok_8 hq992 hq994)
                  have hpost : True := trivial
                  rw [hQ]
                  exact W.iret (v := v999) hx hb hr (fun t ht hW => ⟨⟨v999, (), rfl, hpost, by rw [ht]; exact hI, hN.warm hW, va_K.moved hW.alike hK⟩, hS.F ht⟩) hS.2.2 dX0_tells_113
                · skip
                  have k1001 := iv_eq (X := x2.toInt) (Y := (3)) rfl (by decide) c989
                  refine lv_iconst (v := 0) hx hb dX0_tells_102 (by decide) ?_
                  refine lv_goto (tgt := 113) hx hb dX0_tells_103 (by decide) ?_
                  have hpost : True := trivial
                  rw [hQ]
                  exact W.iret (v := 0) hx hb hr (fun t ht hW => ⟨⟨0, (), rfl, hpost, by rw [ht]; exact hI, hN.warm hW, va_K.moved hW.alike hK⟩, hS.F ht⟩) hS.2.2 dX0_tells_113
  refine lv_aload_n hx hb dX0_tells_0 rfl (lv_at hl 1 rfl) ?_
  obtain ⟨a1002, a1004, a1006, m1007, hO, hq1003, hq1005, ⟨hq1008, k1009⟩, k1010⟩ := op_5 hI hp1 List.not_mem_nil
  have hI := th_I.weak (a := p1) hI
  have k1011 : (nI n1).toInt = ((n1 : Nat) : Int) := nI_toInt (by omega)
  refine th_getN hx hb hts inT2 hown hK hN hO rfl 0 (by decide) wn_768 rfl rfl dX0_tells_1 ?_
  refine lv_iconst (v := 1) hx hb dX0_tells_4 (by decide) ?_
  refine lv_isub hx hb dX0_tells_5 ?_
  refine lv_topi (fun v1012 e1013 => ?_)
  have tv1012 : v1012.toInt = (nI n1).toInt - (1) := iv_sub rfl (by decide) e1013 (by omega) (by omega)
  refine lv_istore_n (lv' := [(3, .int v1012), (0, .ref h0), (1, .ref p1), (2, .int x2)]) hx hb dX0_tells_6 rfl hl (by decide) rfl (fun ls hl => ?_)
  have hI := th_I.close hI hp1 hO (ok_5 hq1003 hq1005 ⟨hq1008, by omega⟩ (by omega))
  exact J_7 _ s.heap [] ls v1012 rfl (lv_sub hl [0, 1, 2, 3] rfl) ⟨by omega, by omega⟩ hI hS
