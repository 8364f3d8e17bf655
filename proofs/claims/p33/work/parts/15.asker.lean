theorem wn_768 : (Cond.fieldLinkNest RX0 (32 : Nat) "NineRiver$Law" "size" "I" "NineRiver") ∈ lw_tbl := List.mem_append_right _ (List.mem_of_getElem? (i := 768) (by decide +kernel))
theorem wn_770 : (Cond.fieldLinkNest RX0 (37 : Nat) "NineRiver$Law" "kinds" "[I" "NineRiver") ∈ lw_tbl := List.mem_append_right _ (List.mem_of_getElem? (i := 770) (by decide +kernel))
theorem wn_772 : (Cond.fieldLinkNest RX0 (43 : Nat) "NineRiver$Law" "marks" "[I" "NineRiver") ∈ lw_tbl := List.mem_append_right _ (List.mem_of_getElem? (i := 772) (by decide +kernel))
theorem wn_774 : (Cond.fieldLinkNest RX0 (40 : Nat) "NineRiver$Law" "code" "[I" "NineRiver") ∈ lw_tbl := List.mem_append_right _ (List.mem_of_getElem? (i := 774) (by decide +kernel))
theorem wn_87 : (Cond.fieldLinkNest RX0 (23 : Nat) "NineRiver$State" "natural" "I" "NineRiver") ∈ lw_tbl := List.mem_append_right _ (List.mem_of_getElem? (i := 87) (by decide +kernel))
theorem wn_91 : (Cond.fieldLinkNest RX0 (29 : Nat) "NineRiver$State" "year" "I" "NineRiver") ∈ lw_tbl := List.mem_append_right _ (List.mem_of_getElem? (i := 91) (by decide +kernel))
theorem wp_6 : Cond.selects RX0 yX0_run yX0_run ∈ TB := tv 6 (by decide +kernel) (by decide +kernel)
theorem wd_179 : (Cond.fieldLink RX0 (15 : Nat) "NineRiver$Asker" "stack" "[J") ∈ TB := tw 179 (by decide +kernel) (by decide +kernel)
theorem wd_180 : (Cond.fieldLink RX0 (19 : Nat) "NineRiver$Asker" "isSo" "Z") ∈ TB := tw 180 (by decide +kernel) (by decide +kernel)
theorem wd_575 : (Cond.methodLink RX0 (46 : Nat) yX0_run) ∈ TB := tw 575 (by decide +kernel) (by decide +kernel)
theorem wd_577 : (Jvm.Cond.instanceMethod yX0_run) ∈ TB := tw 577 (by decide +kernel) (by decide +kernel)
theorem wd_578 : (Cond.code yX0_run cX0_run 14 (Option.some Jvm.ClassFile.FieldType.boolean)) ∈ TB := tw 578 (by decide +kernel) (by decide +kernel)
theorem wd_579 : (Cond.constantLong RX0 (51 : Nat) (1000000000 : Int64)) ∈ TB := tw 579 (by decide +kernel) (by decide +kernel)
theorem wd_580 : (Cond.constantLong RX0 (53 : Nat) (-1000000000 : Int64)) ∈ TB := tw 580 (by decide +kernel) (by decide +kernel)
theorem wd_581 : (Cond.constant RX0 (50 : Nat) (-2000000000 : Int32)) ∈ TB := tw 581 (by decide +kernel) (by decide +kernel)
theorem wd_7 : (Cond.initialized RX0) ∈ TB := tw 7 (by decide +kernel) (by decide +kernel)
theorem dX0_about_0g : (decode cX0_about 0 = .ok (.aload_n 0, 1)) ∧ (decode cX0_about 1 = .ok (.getfield 9, 3)) ∧ (decode cX0_about 4 = .ok (.iconst 0, 1)) ∧ (decode cX0_about 5 = .ok (.iload_n 1, 1)) ∧ (decode cX0_about 6 = .ok (.iastore, 1)) ∧ (decode cX0_about 7 = .ok (.aload_n 0, 1)) ∧ (decode cX0_about 8 = .ok (.getfield 9, 3)) ∧ (decode cX0_about 11 = .ok (.iconst 1, 1)) ∧ (decode cX0_about 12 = .ok (.iload_n 2, 1)) ∧ (decode cX0_about 13 = .ok (.bipush 24, 2)) := by decide +kernel
theorem dX0_about_0 : decode cX0_about 0 = .ok (.aload_n 0, 1) := dX0_about_0g.1
theorem dX0_about_1 : decode cX0_about 1 = .ok (.getfield 9, 3) := dX0_about_0g.2.1
theorem dX0_about_4 : decode cX0_about 4 = .ok (.iconst 0, 1) := dX0_about_0g.2.2.1
theorem dX0_about_5 : decode cX0_about 5 = .ok (.iload_n 1, 1) := dX0_about_0g.2.2.2.1
theorem dX0_about_6 : decode cX0_about 6 = .ok (.iastore, 1) := dX0_about_0g.2.2.2.2.1
theorem dX0_about_7 : decode cX0_about 7 = .ok (.aload_n 0, 1) := dX0_about_0g.2.2.2.2.2.1
theorem dX0_about_8 : decode cX0_about 8 = .ok (.getfield 9, 3) := dX0_about_0g.2.2.2.2.2.2.1
theorem dX0_about_11 : decode cX0_about 11 = .ok (.iconst 1, 1) := dX0_about_0g.2.2.2.2.2.2.2.1
theorem dX0_about_12 : decode cX0_about 12 = .ok (.iload_n 2, 1) := dX0_about_0g.2.2.2.2.2.2.2.2.1
theorem dX0_about_13 : decode cX0_about 13 = .ok (.bipush 24, 2) := dX0_about_0g.2.2.2.2.2.2.2.2.2
theorem dX0_about_15g : (decode cX0_about 15 = .ok (.irem, 1)) ∧ (decode cX0_about 16 = .ok (.iastore, 1)) ∧ (decode cX0_about 17 = .ok (.aload_n 0, 1)) ∧ (decode cX0_about 18 = .ok (.getfield 9, 3)) ∧ (decode cX0_about 21 = .ok (.iconst 2, 1)) ∧ (decode cX0_about 22 = .ok (.iload_n 2, 1)) ∧ (decode cX0_about 23 = .ok (.bipush 24, 2)) ∧ (decode cX0_about 25 = .ok (.idiv, 1)) ∧ (decode cX0_about 26 = .ok (.iastore, 1)) ∧ (decode cX0_about 27 = .ok (.aload_n 0, 1)) := by decide +kernel
theorem dX0_about_15 : decode cX0_about 15 = .ok (.irem, 1) := dX0_about_15g.1
theorem dX0_about_16 : decode cX0_about 16 = .ok (.iastore, 1) := dX0_about_15g.2.1
theorem dX0_about_17 : decode cX0_about 17 = .ok (.aload_n 0, 1) := dX0_about_15g.2.2.1
theorem dX0_about_18 : decode cX0_about 18 = .ok (.getfield 9, 3) := dX0_about_15g.2.2.2.1
theorem dX0_about_21 : decode cX0_about 21 = .ok (.iconst 2, 1) := dX0_about_15g.2.2.2.2.1
theorem dX0_about_22 : decode cX0_about 22 = .ok (.iload_n 2, 1) := dX0_about_15g.2.2.2.2.2.1
theorem dX0_about_23 : decode cX0_about 23 = .ok (.bipush 24, 2) := dX0_about_15g.2.2.2.2.2.2.1
theorem dX0_about_25 : decode cX0_about 25 = .ok (.idiv, 1) := dX0_about_15g.2.2.2.2.2.2.2.1
theorem dX0_about_26 : decode cX0_about 26 = .ok (.iastore, 1) := dX0_about_15g.2.2.2.2.2.2.2.2.1
theorem dX0_about_27 : decode cX0_about 27 = .ok (.aload_n 0, 1) := dX0_about_15g.2.2.2.2.2.2.2.2.2
theorem dX0_about_28g : (decode cX0_about 28 = .ok (.getfield 9, 3)) ∧ (decode cX0_about 31 = .ok (.iconst 3, 1)) ∧ (decode cX0_about 32 = .ok (.iload_n 3, 1)) ∧ (decode cX0_about 33 = .ok (.iastore, 1)) ∧ (decode cX0_about 34 = .ok (.aload_n 0, 1)) ∧ (decode cX0_about 35 = .ok (.getfield 9, 3)) ∧ (decode cX0_about 38 = .ok (.iconst 4, 1)) ∧ (decode cX0_about 39 = .ok (.iload 4, 2)) ∧ (decode cX0_about 41 = .ok (.iastore, 1)) ∧ (decode cX0_about 42 = .ok (.aload_n 0, 1)) := by decide +kernel
theorem dX0_about_28 : decode cX0_about 28 = .ok (.getfield 9, 3) := dX0_about_28g.1
theorem dX0_about_31 : decode cX0_about 31 = .ok (.iconst 3, 1) := dX0_about_28g.2.1
theorem dX0_about_32 : decode cX0_about 32 = .ok (.iload_n 3, 1) := dX0_about_28g.2.2.1
theorem dX0_about_33 : decode cX0_about 33 = .ok (.iastore, 1) := dX0_about_28g.2.2.2.1
theorem dX0_about_34 : decode cX0_about 34 = .ok (.aload_n 0, 1) := dX0_about_28g.2.2.2.2.1
theorem dX0_about_35 : decode cX0_about 35 = .ok (.getfield 9, 3) := dX0_about_28g.2.2.2.2.2.1
theorem dX0_about_38 : decode cX0_about 38 = .ok (.iconst 4, 1) := dX0_about_28g.2.2.2.2.2.2.1
theorem dX0_about_39 : decode cX0_about 39 = .ok (.iload 4, 2) := dX0_about_28g.2.2.2.2.2.2.2.1
theorem dX0_about_41 : decode cX0_about 41 = .ok (.iastore, 1) := dX0_about_28g.2.2.2.2.2.2.2.2.1
theorem dX0_about_42 : decode cX0_about 42 = .ok (.aload_n 0, 1) := dX0_about_28g.2.2.2.2.2.2.2.2.2
theorem dX0_about_43g : (decode cX0_about 43 = .ok (.getfield 9, 3)) ∧ (decode cX0_about 46 = .ok (.iconst 5, 1)) ∧ (decode cX0_about 47 = .ok (.iload 5, 2)) ∧ (decode cX0_about 49 = .ok (.iastore, 1)) ∧ (decode cX0_about 50 = .ok (.aload_n 0, 1)) ∧ (decode cX0_about 51 = .ok (.getfield 9, 3)) ∧ (decode cX0_about 54 = .ok (.bipush 6, 2)) ∧ (decode cX0_about 56 = .ok (.aload 6, 2)) ∧ (decode cX0_about 58 = .ok (.getfield 23, 3)) ∧ (decode cX0_about 61 = .ok (.iastore, 1)) := by decide +kernel
theorem dX0_about_43 : decode cX0_about 43 = .ok (.getfield 9, 3) := dX0_about_43g.1
theorem dX0_about_46 : decode cX0_about 46 = .ok (.iconst 5, 1) := dX0_about_43g.2.1
theorem dX0_about_47 : decode cX0_about 47 = .ok (.iload 5, 2) := dX0_about_43g.2.2.1
theorem dX0_about_49 : decode cX0_about 49 = .ok (.iastore, 1) := dX0_about_43g.2.2.2.1
theorem dX0_about_50 : decode cX0_about 50 = .ok (.aload_n 0, 1) := dX0_about_43g.2.2.2.2.1
theorem dX0_about_51 : decode cX0_about 51 = .ok (.getfield 9, 3) := dX0_about_43g.2.2.2.2.2.1
theorem dX0_about_54 : decode cX0_about 54 = .ok (.bipush 6, 2) := dX0_about_43g.2.2.2.2.2.2.1
theorem dX0_about_56 : decode cX0_about 56 = .ok (.aload 6, 2) := dX0_about_43g.2.2.2.2.2.2.2.1
theorem dX0_about_58 : decode cX0_about 58 = .ok (.getfield 23, 3) := dX0_about_43g.2.2.2.2.2.2.2.2.1
theorem dX0_about_61 : decode cX0_about 61 = .ok (.iastore, 1) := dX0_about_43g.2.2.2.2.2.2.2.2.2
theorem dX0_about_62g : (decode cX0_about 62 = .ok (.aload_n 0, 1)) ∧ (decode cX0_about 63 = .ok (.getfield 9, 3)) ∧ (decode cX0_about 66 = .ok (.bipush 7, 2)) ∧ (decode cX0_about 68 = .ok (.iconst (-1), 1)) ∧ (decode cX0_about 69 = .ok (.iastore, 1)) ∧ (decode cX0_about 70 = .ok (.aload_n 0, 1)) ∧ (decode cX0_about 71 = .ok (.getfield 9, 3)) ∧ (decode cX0_about 74 = .ok (.bipush 8, 2)) ∧ (decode cX0_about 76 = .ok (.aload 6, 2)) ∧ (decode cX0_about 78 = .ok (.getfield 29, 3)) := by decide +kernel
theorem dX0_about_62 : decode cX0_about 62 = .ok (.aload_n 0, 1) := dX0_about_62g.1
theorem dX0_about_63 : decode cX0_about 63 = .ok (.getfield 9, 3) := dX0_about_62g.2.1
theorem dX0_about_66 : decode cX0_about 66 = .ok (.bipush 7, 2) := dX0_about_62g.2.2.1
theorem dX0_about_68 : decode cX0_about 68 = .ok (.iconst (-1), 1) := dX0_about_62g.2.2.2.1
theorem dX0_about_69 : decode cX0_about 69 = .ok (.iastore, 1) := dX0_about_62g.2.2.2.2.1
theorem dX0_about_70 : decode cX0_about 70 = .ok (.aload_n 0, 1) := dX0_about_62g.2.2.2.2.2.1
theorem dX0_about_71 : decode cX0_about 71 = .ok (.getfield 9, 3) := dX0_about_62g.2.2.2.2.2.2.1
theorem dX0_about_74 : decode cX0_about 74 = .ok (.bipush 8, 2) := dX0_about_62g.2.2.2.2.2.2.2.1
theorem dX0_about_76 : decode cX0_about 76 = .ok (.aload 6, 2) := dX0_about_62g.2.2.2.2.2.2.2.2.1
theorem dX0_about_78 : decode cX0_about 78 = .ok (.getfield 29, 3) := dX0_about_62g.2.2.2.2.2.2.2.2.2
theorem dX0_about_81g : (decode cX0_about 81 = .ok (.iastore, 1)) ∧ (decode cX0_about 82 = .ok (.return_, 1)) := by decide +kernel
theorem dX0_about_81 : decode cX0_about 81 = .ok (.iastore, 1) := dX0_about_81g.1
theorem dX0_about_82 : decode cX0_about 82 = .ok (.return_, 1) := dX0_about_81g.2
set_option maxHeartbeats 4000000 in
set_option maxRecDepth 100000 in
theorem c_X0_about (l : Launch) (E : Nat → Nat) (D : va_G) (G : th_G) (h0 : Nat) (hG0 : G h0 = some (8, 0)) (x1 : Int32) (x2 : Int32) (x3 : Int32) (x4 : Int32) (x5 : Int32) (p6 : Nat) (hp6 : G p6 = some (6, 0)) : Met l yX0_about (tb (.code yX0_about cX0_about 7 none)) (rm 0) (va_Pc [.ref h0, .int x1, .int x2, .int x3, .int x4, .int x5, .ref p6] (th_P E D G)) (QV E D G) 0 0 (th_A G) := by
  refine Met.ofW (cc := cX0_about) (maxL := 7) (ret := none) (by decide) rfl ?_
  intro p e s m args below meth c s₁ B hml hv
  obtain ⟨hav, hI, hN, hK⟩ := hv
  have hx := B.exec
  have hb := B.bytes
  have hr := B.returns
  have hts := atoms_spec (ws := tb (.code yX0_about cX0_about 7 none)) B.pre
  have hown : s.vm.findClass RX0 = some m.cls := findClass_of_methodNamed B.named
  have hlocks := B.notSynchronized
  have hS : va_S (th_A G) s.heap s.heap [] := va_S.rf
  have hl := lv_entry ([.ref h0, .int x1, .int x2, .int x3, .int x4, .int x5, .ref p6]) (n := 7) (Nat.le_of_ble_eq_true rfl)
  rw [show entryFrame m args 7 = entryFrame m ([.ref h0, .int x1, .int x2, .int x3, .int x4, .int x5, .ref p6] : List Value).toArray 7 from by rw [hav], lg_entry_eq]
  generalize (lg_sl ([.ref h0, .int x1, .int x2, .int x3, .int x4, .int x5, .ref p6]) ++ List.replicate (7 - (lg_sl ([.ref h0, .int x1, .int x2, .int x3, .int x4, .int x5, .ref p6])).length) Slot.unset).toArray = ls at hl ⊢
  have hl : lv_has ls 7 [(0, .ref h0), (1, .int x1), (2, .int x2), (3, .int x3), (4, .int x4), (5, .int x5), (6, .ref p6)] := hl
  generalize hR : (headSpec (tb (.code yX0_about cX0_about 7 none)) (rm 0)).room = R
  have hR := hR.symm
  generalize hQ : MQ below (QV E D G) args s 0 0 (th_A G) = QF
  have hQ := hQ.symm
  refine lv_aload_n hx hb dX0_about_0 rfl (lv_at hl 0 rfl) ?_
  obtain ⟨a1, a3, w5, hO, hq2, hq4⟩ := op_8 hI hG0 List.not_mem_nil
  have hI := th_I.weak (a := h0) hI
  refine th_get hx hb hts inT0 hown hK hO rfl 0 (by decide) (hts _ (tb_c wd_178)) rfl rfl dX0_about_1 ?_
  refine lv_iconst (v := 0) hx hb dX0_about_4 (by decide) ?_
  refine lv_iload_n hx hb dX0_about_5 rfl (lv_at hl 1 rfl) ?_
  obtain ⟨_, hA6⟩ := op_0 hI hq2 (th_ne hG0 hq2 (show (8 : Nat) ≠ 0 by decide))
  refine th_iast hx hb hK hA6 0 rfl hS ⟨_, hq2⟩ (iv_in (X := (0)) (by decide) (by omega) (by omega)) dX0_about_6 (fun H locs hA6 oq hS => ?_)
  have hI := th_I.put hI hq2 hA6 ok_0 oq
  have hO := hO.kept (oq _ (fun z => th_ne hG0 hq2 (show (8 : Nat) ≠ 0 by decide) (List.mem_singleton.mpr z.symm)))
  refine lv_aload_n hx hb dX0_about_7 rfl (lv_at hl 0 rfl) ?_
  refine th_get hx hb hts inT0 hown hK hO rfl 0 (by decide) (hts _ (tb_c wd_178)) rfl rfl dX0_about_8 ?_
  refine lv_iconst (v := 1) hx hb dX0_about_11 (by decide) ?_
  refine lv_iload_n hx hb dX0_about_12 rfl (lv_at hl 2 rfl) ?_
  refine lv_bipush (v := 24) hx hb dX0_about_13 (by decide) ?_
  refine lv_irem hx hb dX0_about_15 (by decide) ?_
  refine lv_topi (fun v7 e8 => ?_)
  obtain ⟨_, hA9⟩ := op_0 hI hq2 (th_ne hG0 hq2 (show (8 : Nat) ≠ 0 by decide))
  refine th_iast hx hb hK hA9 0 rfl hS ⟨_, hq2⟩ (iv_in (X := (1)) (by decide) (by omega) (by omega)) dX0_about_16 (fun H locs hA9 oq hS => ?_)
  have hI := th_I.put hI hq2 hA9 ok_0 oq
  have hO := hO.kept (oq _ (fun z => th_ne hG0 hq2 (show (8 : Nat) ≠ 0 by decide) (List.mem_singleton.mpr z.symm)))
  refine lv_aload_n hx hb dX0_about_17 rfl (lv_at hl 0 rfl) ?_
  refine th_get hx hb hts inT0 hown hK hO rfl 0 (by decide) (hts _ (tb_c wd_178)) rfl rfl dX0_about_18 ?_
  refine lv_iconst (v := 2) hx hb dX0_about_21 (by decide) ?_
  refine lv_iload_n hx hb dX0_about_22 rfl (lv_at hl 2 rfl) ?_
  refine lv_bipush (v := 24) hx hb dX0_about_23 (by decide) ?_
  refine lv_idiv hx hb dX0_about_25 (by decide) ?_
  refine lv_topi (fun v10 e11 => ?_)
  obtain ⟨_, hA12⟩ := op_0 hI hq2 (th_ne hG0 hq2 (show (8 : Nat) ≠ 0 by decide))
  refine th_iast hx hb hK hA12 0 rfl hS ⟨_, hq2⟩ (iv_in (X := (2)) (by decide) (by omega) (by omega)) dX0_about_26 (fun H locs hA12 oq hS => ?_)
  have hI := th_I.put hI hq2 hA12 ok_0 oq
  have hO := hO.kept (oq _ (fun z => th_ne hG0 hq2 (show (8 : Nat) ≠ 0 by decide) (List.mem_singleton.mpr z.symm)))
  refine lv_aload_n hx hb dX0_about_27 rfl (lv_at hl 0 rfl) ?_
  refine th_get hx hb hts inT0 hown hK hO rfl 0 (by decide) (hts _ (tb_c wd_178)) rfl rfl dX0_about_28 ?_
  refine lv_iconst (v := 3) hx hb dX0_about_31 (by decide) ?_
  refine lv_iload_n hx hb dX0_about_32 rfl (lv_at hl 3 rfl) ?_
  obtain ⟨_, hA13⟩ := op_0 hI hq2 (th_ne hG0 hq2 (show (8 : Nat) ≠ 0 by decide))
  refine th_iast hx hb hK hA13 0 rfl hS ⟨_, hq2⟩ (iv_in (X := (3)) (by decide) (by omega) (by omega)) dX0_about_33 (fun H locs hA13 oq hS => ?_)
  have hI := th_I.put hI hq2 hA13 ok_0 oq
  have hO := hO.kept (oq _ (fun z => th_ne hG0 hq2 (show (8 : Nat) ≠ 0 by decide) (List.mem_singleton.mpr z.symm)))
  refine lv_aload_n hx hb dX0_about_34 rfl (lv_at hl 0 rfl) ?_
  refine th_get hx hb hts inT0 hown hK hO rfl 0 (by decide) (hts _ (tb_c wd_178)) rfl rfl dX0_about_35 ?_
  refine lv_iconst (v := 4) hx hb dX0_about_38 (by decide) ?_
  refine lv_iload hx hb dX0_about_39 (lv_at hl 4 rfl) ?_
  obtain ⟨_, hA14⟩ := op_0 hI hq2 (th_ne hG0 hq2 (show (8 : Nat) ≠ 0 by decide))
  refine th_iast hx hb hK hA14 0 rfl hS ⟨_, hq2⟩ (iv_in (X := (4)) (by decide) (by omega) (by omega)) dX0_about_41 (fun H locs hA14 oq hS => ?_)
  have hI := th_I.put hI hq2 hA14 ok_0 oq
  have hO := hO.kept (oq _ (fun z => th_ne hG0 hq2 (show (8 : Nat) ≠ 0 by decide) (List.mem_singleton.mpr z.symm)))
  refine lv_aload_n hx hb dX0_about_42 rfl (lv_at hl 0 rfl) ?_
  refine th_get hx hb hts inT0 hown hK hO rfl 0 (by decide) (hts _ (tb_c wd_178)) rfl rfl dX0_about_43 ?_
  refine lv_iconst (v := 5) hx hb dX0_about_46 (by decide) ?_
  refine lv_iload hx hb dX0_about_47 (lv_at hl 5 rfl) ?_
  obtain ⟨_, hA15⟩ := op_0 hI hq2 (th_ne hG0 hq2 (show (8 : Nat) ≠ 0 by decide))
  refine th_iast hx hb hK hA15 0 rfl hS ⟨_, hq2⟩ (iv_in (X := (5)) (by decide) (by omega) (by omega)) dX0_about_49 (fun H locs hA15 oq hS => ?_)
  have hI := th_I.put hI hq2 hA15 ok_0 oq
  have hO := hO.kept (oq _ (fun z => th_ne hG0 hq2 (show (8 : Nat) ≠ 0 by decide) (List.mem_singleton.mpr z.symm)))
  refine lv_aload_n hx hb dX0_about_50 rfl (lv_at hl 0 rfl) ?_
  refine th_get hx hb hts inT0 hown hK hO rfl 0 (by decide) (hts _ (tb_c wd_178)) rfl rfl dX0_about_51 ?_
  refine lv_bipush (v := 6) hx hb dX0_about_54 (by decide) ?_
  refine lv_aload hx hb dX0_about_56 (lv_at hl 6 rfl) ?_
  have hI := th_I.close hI hG0 hO (ok_8 hq2 hq4)
  obtain ⟨a16, a18, a20, a22, a24, a26, a28, a30, a32, a34, w36, w39, w40, w41, hO, hq17, hq19, hq21, hq23, hq25, hq27, hq29, hq31, hq33, hq35, ⟨k37, k38⟩, k42⟩ := op_6 hI hp6 List.not_mem_nil
  have hI := th_I.weak (a := p6) hI
  refine th_getN hx hb hts inT6 hown hK hN hO rfl 12 (by decide) wn_87 rfl rfl dX0_about_58 ?_
  obtain ⟨_, hA43⟩ := op_0 hI hq2 (th_ne hp6 hq2 (show (6 : Nat) ≠ 0 by decide))
  refine th_iast hx hb hK hA43 0 rfl hS ⟨_, hq2⟩ (iv_in (X := (6)) (by decide) (by omega) (by omega)) dX0_about_61 (fun H locs hA43 oq hS => ?_)
  have hI := th_I.put hI hq2 hA43 ok_0 oq
  have hO := hO.kept (oq _ (fun z => th_ne hp6 hq2 (show (6 : Nat) ≠ 0 by decide) (List.mem_singleton.mpr z.symm)))
  refine lv_aload_n hx hb dX0_about_62 rfl (lv_at hl 0 rfl) ?_
  have hI := th_I.close hI hp6 hO (ok_6 hq17 hq19 hq21 hq23 hq25 hq27 hq29 hq31 hq33 hq35 ⟨by omega, by omega⟩ k42)
  obtain ⟨a44, a46, w48, hO, hq45, hq47⟩ := op_8 hI hG0 List.not_mem_nil
  have hI := th_I.weak (a := h0) hI
  refine th_get hx hb hts inT0 hown hK hO rfl 0 (by decide) (hts _ (tb_c wd_178)) rfl rfl dX0_about_63 ?_
  refine lv_bipush (v := 7) hx hb dX0_about_66 (by decide) ?_
  refine lv_iconst (v := (-1)) hx hb dX0_about_68 (by decide) ?_
  obtain ⟨_, hA49⟩ := op_0 hI hq45 (th_ne hG0 hq45 (show (8 : Nat) ≠ 0 by decide))
  refine th_iast hx hb hK hA49 0 rfl hS ⟨_, hq45⟩ (iv_in (X := (7)) (by decide) (by omega) (by omega)) dX0_about_69 (fun H locs hA49 oq hS => ?_)
  have hI := th_I.put hI hq45 hA49 ok_0 oq
  have hO := hO.kept (oq _ (fun z => th_ne hG0 hq45 (show (8 : Nat) ≠ 0 by decide) (List.mem_singleton.mpr z.symm)))
  refine lv_aload_n hx hb dX0_about_70 rfl (lv_at hl 0 rfl) ?_
  refine th_get hx hb hts inT0 hown hK hO rfl 0 (by decide) (hts _ (tb_c wd_178)) rfl rfl dX0_about_71 ?_
  refine lv_bipush (v := 8) hx hb dX0_about_74 (by decide) ?_
  refine lv_aload hx hb dX0_about_76 (lv_at hl 6 rfl) ?_
  have hI := th_I.close hI hG0 hO (ok_8 hq45 hq47)
  obtain ⟨a50, a52, a54, a56, a58, a60, a62, a64, a66, a68, w70, w73, w74, w75, hO, hq51, hq53, hq55, hq57, hq59, hq61, hq63, hq65, hq67, hq69, ⟨k71, k72⟩, k76⟩ := op_6 hI hp6 List.not_mem_nil
  have hI := th_I.weak (a := p6) hI
  refine th_getN hx hb hts inT6 hown hK hN hO rfl 13 (by decide) wn_91 rfl rfl dX0_about_78 ?_
  obtain ⟨_, hA77⟩ := op_0 hI hq45 (th_ne hp6 hq45 (show (6 : Nat) ≠ 0 by decide))
  refine th_iast hx hb hK hA77 0 rfl hS ⟨_, hq45⟩ (iv_in (X := (8)) (by decide) (by omega) (by omega)) dX0_about_81 (fun H locs hA77 oq hS => ?_)
  have hI := th_I.put hI hq45 hA77 ok_0 oq
  have hO := hO.kept (oq _ (fun z => th_ne hp6 hq45 (show (6 : Nat) ≠ 0 by decide) (List.mem_singleton.mpr z.symm)))
  have hI := th_I.close hI hp6 hO (ok_6 hq51 hq53 hq55 hq57 hq59 hq61 hq63 hq65 hq67 hq69 ⟨by omega, by omega⟩ k76)
  rw [hQ]
  exact W.vret hx hb hr (fun t ht hW => ⟨⟨(), rfl, trivial, by rw [ht]; exact hI, hN.warm hW, va_K.moved hW.alike hK⟩, hS.F ht⟩) hS.2.2 dX0_about_82
theorem dX0_run_0g : (decode cX0_run 0 = .ok (.iconst 0, 1)) ∧ (decode cX0_run 1 = .ok (.istore 4, 2)) ∧ (decode cX0_run 3 = .ok (.iload_n 2, 1)) ∧ (decode cX0_run 4 = .ok (.istore 5, 2)) ∧ (decode cX0_run 6 = .ok (.iload 5, 2)) ∧ (decode cX0_run 8 = .ok (.ifCond .lt 411, 3)) ∧ (decode cX0_run 11 = .ok (.iload 5, 2)) ∧ (decode cX0_run 13 = .ok (.iload_n 3, 1)) ∧ (decode cX0_run 14 = .ok (.if_icmp .ge 405, 3)) ∧ (decode cX0_run 17 = .ok (.iload 5, 2)) := by decide +kernel
theorem dX0_run_0 : decode cX0_run 0 = .ok (.iconst 0, 1) := dX0_run_0g.1
theorem dX0_run_1 : decode cX0_run 1 = .ok (.istore 4, 2) := dX0_run_0g.2.1
theorem dX0_run_3 : decode cX0_run 3 = .ok (.iload_n 2, 1) := dX0_run_0g.2.2.1
theorem dX0_run_4 : decode cX0_run 4 = .ok (.istore 5, 2) := dX0_run_0g.2.2.2.1
theorem dX0_run_6 : decode cX0_run 6 = .ok (.iload 5, 2) := dX0_run_0g.2.2.2.2.1
theorem dX0_run_8 : decode cX0_run 8 = .ok (.ifCond .lt 411, 3) := dX0_run_0g.2.2.2.2.2.1
theorem dX0_run_11 : decode cX0_run 11 = .ok (.iload 5, 2) := dX0_run_0g.2.2.2.2.2.2.1
theorem dX0_run_13 : decode cX0_run 13 = .ok (.iload_n 3, 1) := dX0_run_0g.2.2.2.2.2.2.2.1
theorem dX0_run_14 : decode cX0_run 14 = .ok (.if_icmp .ge 405, 3) := dX0_run_0g.2.2.2.2.2.2.2.2.1
theorem dX0_run_17 : decode cX0_run 17 = .ok (.iload 5, 2) := dX0_run_0g.2.2.2.2.2.2.2.2.2
theorem dX0_run_19g : (decode cX0_run 19 = .ok (.aload_n 1, 1)) ∧ (decode cX0_run 20 = .ok (.arraylength, 1)) ∧ (decode cX0_run 21 = .ok (.if_icmp .ge 398, 3)) ∧ (decode cX0_run 24 = .ok (.aload_n 1, 1)) ∧ (decode cX0_run 25 = .ok (.iload 5, 2)) ∧ (decode cX0_run 27 = .ok (.iaload, 1)) ∧ (decode cX0_run 28 = .ok (.bipush 15, 2)) ∧ (decode cX0_run 30 = .ok (.iand, 1)) ∧ (decode cX0_run 31 = .ok (.istore 6, 2)) ∧ (decode cX0_run 33 = .ok (.aload_n 1, 1)) := by decide +kernel
theorem dX0_run_19 : decode cX0_run 19 = .ok (.aload_n 1, 1) := dX0_run_19g.1
theorem dX0_run_20 : decode cX0_run 20 = .ok (.arraylength, 1) := dX0_run_19g.2.1
theorem dX0_run_21 : decode cX0_run 21 = .ok (.if_icmp .ge 398, 3) := dX0_run_19g.2.2.1
theorem dX0_run_24 : decode cX0_run 24 = .ok (.aload_n 1, 1) := dX0_run_19g.2.2.2.1
theorem dX0_run_25 : decode cX0_run 25 = .ok (.iload 5, 2) := dX0_run_19g.2.2.2.2.1
theorem dX0_run_27 : decode cX0_run 27 = .ok (.iaload, 1) := dX0_run_19g.2.2.2.2.2.1
theorem dX0_run_28 : decode cX0_run 28 = .ok (.bipush 15, 2) := dX0_run_19g.2.2.2.2.2.2.1
theorem dX0_run_30 : decode cX0_run 30 = .ok (.iand, 1) := dX0_run_19g.2.2.2.2.2.2.2.1
theorem dX0_run_31 : decode cX0_run 31 = .ok (.istore 6, 2) := dX0_run_19g.2.2.2.2.2.2.2.2.1
theorem dX0_run_33 : decode cX0_run 33 = .ok (.aload_n 1, 1) := dX0_run_19g.2.2.2.2.2.2.2.2.2
theorem dX0_run_34g : (decode cX0_run 34 = .ok (.iload 5, 2)) ∧ (decode cX0_run 36 = .ok (.iaload, 1)) ∧ (decode cX0_run 37 = .ok (.iconst 4, 1)) ∧ (decode cX0_run 38 = .ok (.ishr, 1)) ∧ (decode cX0_run 39 = .ok (.istore 7, 2)) ∧ (decode cX0_run 41 = .ok (.iload 6, 2)) ∧ (decode cX0_run 43 = .ok (.ifCond .eq 9, 3)) ∧ (decode cX0_run 46 = .ok (.iload 6, 2)) ∧ (decode cX0_run 48 = .ok (.iconst 1, 1)) ∧ (decode cX0_run 49 = .ok (.if_icmp .ne 68, 3)) := by decide +kernel
theorem dX0_run_34 : decode cX0_run 34 = .ok (.iload 5, 2) := dX0_run_34g.1
theorem dX0_run_36 : decode cX0_run 36 = .ok (.iaload, 1) := dX0_run_34g.2.1
theorem dX0_run_37 : decode cX0_run 37 = .ok (.iconst 4, 1) := dX0_run_34g.2.2.1
theorem dX0_run_38 : decode cX0_run 38 = .ok (.ishr, 1) := dX0_run_34g.2.2.2.1
theorem dX0_run_39 : decode cX0_run 39 = .ok (.istore 7, 2) := dX0_run_34g.2.2.2.2.1
theorem dX0_run_41 : decode cX0_run 41 = .ok (.iload 6, 2) := dX0_run_34g.2.2.2.2.2.1
theorem dX0_run_43 : decode cX0_run 43 = .ok (.ifCond .eq 9, 3) := dX0_run_34g.2.2.2.2.2.2.1
theorem dX0_run_46 : decode cX0_run 46 = .ok (.iload 6, 2) := dX0_run_34g.2.2.2.2.2.2.2.1
theorem dX0_run_48 : decode cX0_run 48 = .ok (.iconst 1, 1) := dX0_run_34g.2.2.2.2.2.2.2.2.1
theorem dX0_run_49 : decode cX0_run 49 = .ok (.if_icmp .ne 68, 3) := dX0_run_34g.2.2.2.2.2.2.2.2.2
theorem dX0_run_52g : (decode cX0_run 52 = .ok (.iload 4, 2)) ∧ (decode cX0_run 54 = .ok (.aload_n 0, 1)) ∧ (decode cX0_run 55 = .ok (.getfield 15, 3)) ∧ (decode cX0_run 58 = .ok (.arraylength, 1)) ∧ (decode cX0_run 59 = .ok (.if_icmp .ge 24, 3)) ∧ (decode cX0_run 62 = .ok (.iload 7, 2)) ∧ (decode cX0_run 64 = .ok (.ifCond .lt 19, 3)) ∧ (decode cX0_run 67 = .ok (.iload 6, 2)) ∧ (decode cX0_run 69 = .ok (.iconst 1, 1)) ∧ (decode cX0_run 70 = .ok (.if_icmp .ne 15, 3)) := by decide +kernel
theorem dX0_run_52 : decode cX0_run 52 = .ok (.iload 4, 2) := dX0_run_52g.1
theorem dX0_run_54 : decode cX0_run 54 = .ok (.aload_n 0, 1) := dX0_run_52g.2.1
theorem dX0_run_55 : decode cX0_run 55 = .ok (.getfield 15, 3) := dX0_run_52g.2.2.1
theorem dX0_run_58 : decode cX0_run 58 = .ok (.arraylength, 1) := dX0_run_52g.2.2.2.1
theorem dX0_run_59 : decode cX0_run 59 = .ok (.if_icmp .ge 24, 3) := dX0_run_52g.2.2.2.2.1
theorem dX0_run_62 : decode cX0_run 62 = .ok (.iload 7, 2) := dX0_run_52g.2.2.2.2.2.1
theorem dX0_run_64 : decode cX0_run 64 = .ok (.ifCond .lt 19, 3) := dX0_run_52g.2.2.2.2.2.2.1
theorem dX0_run_67 : decode cX0_run 67 = .ok (.iload 6, 2) := dX0_run_52g.2.2.2.2.2.2.2.1
theorem dX0_run_69 : decode cX0_run 69 = .ok (.iconst 1, 1) := dX0_run_52g.2.2.2.2.2.2.2.2.1
theorem dX0_run_70 : decode cX0_run 70 = .ok (.if_icmp .ne 15, 3) := dX0_run_52g.2.2.2.2.2.2.2.2.2
theorem dX0_run_73g : (decode cX0_run 73 = .ok (.iload 7, 2)) ∧ (decode cX0_run 75 = .ok (.aload_n 0, 1)) ∧ (decode cX0_run 76 = .ok (.getfield 9, 3)) ∧ (decode cX0_run 79 = .ok (.arraylength, 1)) ∧ (decode cX0_run 80 = .ok (.if_icmp .lt 5, 3)) ∧ (decode cX0_run 83 = .ok (.iconst 0, 1)) ∧ (decode cX0_run 84 = .ok (.ireturn, 1)) ∧ (decode cX0_run 85 = .ok (.aload_n 0, 1)) ∧ (decode cX0_run 86 = .ok (.getfield 15, 3)) ∧ (decode cX0_run 89 = .ok (.iload 4, 2)) := by decide +kernel
theorem dX0_run_73 : decode cX0_run 73 = .ok (.iload 7, 2) := dX0_run_73g.1
theorem dX0_run_75 : decode cX0_run 75 = .ok (.aload_n 0, 1) := dX0_run_73g.2.1
theorem dX0_run_76 : decode cX0_run 76 = .ok (.getfield 9, 3) := dX0_run_73g.2.2.1
theorem dX0_run_79 : decode cX0_run 79 = .ok (.arraylength, 1) := dX0_run_73g.2.2.2.1
theorem dX0_run_80 : decode cX0_run 80 = .ok (.if_icmp .lt 5, 3) := dX0_run_73g.2.2.2.2.1
theorem dX0_run_83 : decode cX0_run 83 = .ok (.iconst 0, 1) := dX0_run_73g.2.2.2.2.2.1
theorem dX0_run_84 : decode cX0_run 84 = .ok (.ireturn, 1) := dX0_run_73g.2.2.2.2.2.2.1
theorem dX0_run_85 : decode cX0_run 85 = .ok (.aload_n 0, 1) := dX0_run_73g.2.2.2.2.2.2.2.1
theorem dX0_run_86 : decode cX0_run 86 = .ok (.getfield 15, 3) := dX0_run_73g.2.2.2.2.2.2.2.2.1
theorem dX0_run_89 : decode cX0_run 89 = .ok (.iload 4, 2) := dX0_run_73g.2.2.2.2.2.2.2.2.2
theorem dX0_run_91g : (decode cX0_run 91 = .ok (.iload 6, 2)) ∧ (decode cX0_run 93 = .ok (.ifCond .ne 9, 3)) ∧ (decode cX0_run 96 = .ok (.iload 7, 2)) ∧ (decode cX0_run 98 = .ok (.i2l, 1)) ∧ (decode cX0_run 99 = .ok (.goto 11, 3)) ∧ (decode cX0_run 102 = .ok (.aload_n 0, 1)) ∧ (decode cX0_run 103 = .ok (.getfield 9, 3)) ∧ (decode cX0_run 106 = .ok (.iload 7, 2)) ∧ (decode cX0_run 108 = .ok (.iaload, 1)) ∧ (decode cX0_run 109 = .ok (.i2l, 1)) := by decide +kernel
theorem dX0_run_91 : decode cX0_run 91 = .ok (.iload 6, 2) := dX0_run_91g.1
theorem dX0_run_93 : decode cX0_run 93 = .ok (.ifCond .ne 9, 3) := dX0_run_91g.2.1
theorem dX0_run_96 : decode cX0_run 96 = .ok (.iload 7, 2) := dX0_run_91g.2.2.1
theorem dX0_run_98 : decode cX0_run 98 = .ok (.i2l, 1) := dX0_run_91g.2.2.2.1
theorem dX0_run_99 : decode cX0_run 99 = .ok (.goto 11, 3) := dX0_run_91g.2.2.2.2.1
theorem dX0_run_102 : decode cX0_run 102 = .ok (.aload_n 0, 1) := dX0_run_91g.2.2.2.2.2.1
theorem dX0_run_103 : decode cX0_run 103 = .ok (.getfield 9, 3) := dX0_run_91g.2.2.2.2.2.2.1
theorem dX0_run_106 : decode cX0_run 106 = .ok (.iload 7, 2) := dX0_run_91g.2.2.2.2.2.2.2.1
theorem dX0_run_108 : decode cX0_run 108 = .ok (.iaload, 1) := dX0_run_91g.2.2.2.2.2.2.2.2.1
theorem dX0_run_109 : decode cX0_run 109 = .ok (.i2l, 1) := dX0_run_91g.2.2.2.2.2.2.2.2.2
theorem dX0_run_110g : (decode cX0_run 110 = .ok (.lastore, 1)) ∧ (decode cX0_run 111 = .ok (.iinc 4 1, 3)) ∧ (decode cX0_run 114 = .ok (.goto 299, 3)) ∧ (decode cX0_run 117 = .ok (.iload 6, 2)) ∧ (decode cX0_run 119 = .ok (.bipush 10, 2)) ∧ (decode cX0_run 121 = .ok (.if_icmp .ne 22, 3)) ∧ (decode cX0_run 124 = .ok (.aload_n 0, 1)) ∧ (decode cX0_run 125 = .ok (.aload_n 0, 1)) ∧ (decode cX0_run 126 = .ok (.getfield 19, 3)) ∧ (decode cX0_run 129 = .ok (.ifCond .ne 7, 3)) := by decide +kernel
theorem dX0_run_110 : decode cX0_run 110 = .ok (.lastore, 1) := dX0_run_110g.1
theorem dX0_run_111 : decode cX0_run 111 = .ok (.iinc 4 1, 3) := dX0_run_110g.2.1
theorem dX0_run_114 : decode cX0_run 114 = .ok (.goto 299, 3) := dX0_run_110g.2.2.1
theorem dX0_run_117 : decode cX0_run 117 = .ok (.iload 6, 2) := dX0_run_110g.2.2.2.1
theorem dX0_run_119 : decode cX0_run 119 = .ok (.bipush 10, 2) := dX0_run_110g.2.2.2.2.1
theorem dX0_run_121 : decode cX0_run 121 = .ok (.if_icmp .ne 22, 3) := dX0_run_110g.2.2.2.2.2.1
theorem dX0_run_124 : decode cX0_run 124 = .ok (.aload_n 0, 1) := dX0_run_110g.2.2.2.2.2.2.1
theorem dX0_run_125 : decode cX0_run 125 = .ok (.aload_n 0, 1) := dX0_run_110g.2.2.2.2.2.2.2.1
theorem dX0_run_126 : decode cX0_run 126 = .ok (.getfield 19, 3) := dX0_run_110g.2.2.2.2.2.2.2.2.1
theorem dX0_run_129 : decode cX0_run 129 = .ok (.ifCond .ne 7, 3) := dX0_run_110g.2.2.2.2.2.2.2.2.2
theorem dX0_run_132g : (decode cX0_run 132 = .ok (.iconst 1, 1)) ∧ (decode cX0_run 133 = .ok (.goto 4, 3)) ∧ (decode cX0_run 136 = .ok (.iconst 0, 1)) ∧ (decode cX0_run 137 = .ok (.putfield 19, 3)) ∧ (decode cX0_run 140 = .ok (.goto 273, 3)) ∧ (decode cX0_run 143 = .ok (.iload 6, 2)) ∧ (decode cX0_run 145 = .ok (.bipush 11, 2)) ∧ (decode cX0_run 147 = .ok (.if_icmp .lt 43, 3)) ∧ (decode cX0_run 150 = .ok (.aload_n 0, 1)) ∧ (decode cX0_run 151 = .ok (.getfield 19, 3)) := by decide +kernel
theorem dX0_run_132 : decode cX0_run 132 = .ok (.iconst 1, 1) := dX0_run_132g.1
theorem dX0_run_133 : decode cX0_run 133 = .ok (.goto 4, 3) := dX0_run_132g.2.1
theorem dX0_run_136 : decode cX0_run 136 = .ok (.iconst 0, 1) := dX0_run_132g.2.2.1
theorem dX0_run_137 : decode cX0_run 137 = .ok (.putfield 19, 3) := dX0_run_132g.2.2.2.1
theorem dX0_run_140 : decode cX0_run 140 = .ok (.goto 273, 3) := dX0_run_132g.2.2.2.2.1
theorem dX0_run_143 : decode cX0_run 143 = .ok (.iload 6, 2) := dX0_run_132g.2.2.2.2.2.1
theorem dX0_run_145 : decode cX0_run 145 = .ok (.bipush 11, 2) := dX0_run_132g.2.2.2.2.2.2.1
theorem dX0_run_147 : decode cX0_run 147 = .ok (.if_icmp .lt 43, 3) := dX0_run_132g.2.2.2.2.2.2.2.1
theorem dX0_run_150 : decode cX0_run 150 = .ok (.aload_n 0, 1) := dX0_run_132g.2.2.2.2.2.2.2.2.1
theorem dX0_run_151 : decode cX0_run 151 = .ok (.getfield 19, 3) := dX0_run_132g.2.2.2.2.2.2.2.2.2
theorem dX0_run_154g : (decode cX0_run 154 = .ok (.iload 6, 2)) ∧ (decode cX0_run 156 = .ok (.bipush 11, 2)) ∧ (decode cX0_run 158 = .ok (.if_icmp .ne 7, 3)) ∧ (decode cX0_run 161 = .ok (.iconst 1, 1)) ∧ (decode cX0_run 162 = .ok (.goto 4, 3)) ∧ (decode cX0_run 165 = .ok (.iconst 0, 1)) ∧ (decode cX0_run 166 = .ok (.if_icmp .ne 17, 3)) ∧ (decode cX0_run 169 = .ok (.iload 7, 2)) ∧ (decode cX0_run 171 = .ok (.iload 5, 2)) ∧ (decode cX0_run 173 = .ok (.if_icmp .le 10, 3)) := by decide +kernel
theorem dX0_run_154 : decode cX0_run 154 = .ok (.iload 6, 2) := dX0_run_154g.1
theorem dX0_run_156 : decode cX0_run 156 = .ok (.bipush 11, 2) := dX0_run_154g.2.1
theorem dX0_run_158 : decode cX0_run 158 = .ok (.if_icmp .ne 7, 3) := dX0_run_154g.2.2.1
theorem dX0_run_161 : decode cX0_run 161 = .ok (.iconst 1, 1) := dX0_run_154g.2.2.2.1
theorem dX0_run_162 : decode cX0_run 162 = .ok (.goto 4, 3) := dX0_run_154g.2.2.2.2.1
theorem dX0_run_165 : decode cX0_run 165 = .ok (.iconst 0, 1) := dX0_run_154g.2.2.2.2.2.1
theorem dX0_run_166 : decode cX0_run 166 = .ok (.if_icmp .ne 17, 3) := dX0_run_154g.2.2.2.2.2.2.1
theorem dX0_run_169 : decode cX0_run 169 = .ok (.iload 7, 2) := dX0_run_154g.2.2.2.2.2.2.2.1
theorem dX0_run_171 : decode cX0_run 171 = .ok (.iload 5, 2) := dX0_run_154g.2.2.2.2.2.2.2.2.1
theorem dX0_run_173 : decode cX0_run 173 = .ok (.if_icmp .le 10, 3) := dX0_run_154g.2.2.2.2.2.2.2.2.2
theorem dX0_run_176g : (decode cX0_run 176 = .ok (.iload 7, 2)) ∧ (decode cX0_run 178 = .ok (.iconst 1, 1)) ∧ (decode cX0_run 179 = .ok (.isub, 1)) ∧ (decode cX0_run 180 = .ok (.goto 5, 3)) ∧ (decode cX0_run 183 = .ok (.iload 5, 2)) ∧ (decode cX0_run 185 = .ok (.istore 5, 2)) ∧ (decode cX0_run 187 = .ok (.goto 226, 3)) ∧ (decode cX0_run 190 = .ok (.iload 4, 2)) ∧ (decode cX0_run 192 = .ok (.iconst 2, 1)) ∧ (decode cX0_run 193 = .ok (.if_icmp .ge 5, 3)) := by decide +kernel
theorem dX0_run_176 : decode cX0_run 176 = .ok (.iload 7, 2) := dX0_run_176g.1
theorem dX0_run_178 : decode cX0_run 178 = .ok (.iconst 1, 1) := dX0_run_176g.2.1
theorem dX0_run_179 : decode cX0_run 179 = .ok (.isub, 1) := dX0_run_176g.2.2.1
theorem dX0_run_180 : decode cX0_run 180 = .ok (.goto 5, 3) := dX0_run_176g.2.2.2.1
theorem dX0_run_183 : decode cX0_run 183 = .ok (.iload 5, 2) := dX0_run_176g.2.2.2.2.1
theorem dX0_run_185 : decode cX0_run 185 = .ok (.istore 5, 2) := dX0_run_176g.2.2.2.2.2.1
theorem dX0_run_187 : decode cX0_run 187 = .ok (.goto 226, 3) := dX0_run_176g.2.2.2.2.2.2.1
theorem dX0_run_190 : decode cX0_run 190 = .ok (.iload 4, 2) := dX0_run_176g.2.2.2.2.2.2.2.1
theorem dX0_run_192 : decode cX0_run 192 = .ok (.iconst 2, 1) := dX0_run_176g.2.2.2.2.2.2.2.2.1
theorem dX0_run_193 : decode cX0_run 193 = .ok (.if_icmp .ge 5, 3) := dX0_run_176g.2.2.2.2.2.2.2.2.2
theorem dX0_run_196g : (decode cX0_run 196 = .ok (.iconst 0, 1)) ∧ (decode cX0_run 197 = .ok (.ireturn, 1)) ∧ (decode cX0_run 198 = .ok (.iinc 4 (-1), 3)) ∧ (decode cX0_run 201 = .ok (.aload_n 0, 1)) ∧ (decode cX0_run 202 = .ok (.getfield 15, 3)) ∧ (decode cX0_run 205 = .ok (.iload 4, 2)) ∧ (decode cX0_run 207 = .ok (.iconst 1, 1)) ∧ (decode cX0_run 208 = .ok (.isub, 1)) ∧ (decode cX0_run 209 = .ok (.laload, 1)) ∧ (decode cX0_run 210 = .ok (.lstore 8, 2)) := by decide +kernel
theorem dX0_run_196 : decode cX0_run 196 = .ok (.iconst 0, 1) := dX0_run_196g.1
theorem dX0_run_197 : decode cX0_run 197 = .ok (.ireturn, 1) := dX0_run_196g.2.1
theorem dX0_run_198 : decode cX0_run 198 = .ok (.iinc 4 (-1), 3) := dX0_run_196g.2.2.1
theorem dX0_run_201 : decode cX0_run 201 = .ok (.aload_n 0, 1) := dX0_run_196g.2.2.2.1
theorem dX0_run_202 : decode cX0_run 202 = .ok (.getfield 15, 3) := dX0_run_196g.2.2.2.2.1
theorem dX0_run_205 : decode cX0_run 205 = .ok (.iload 4, 2) := dX0_run_196g.2.2.2.2.2.1
theorem dX0_run_207 : decode cX0_run 207 = .ok (.iconst 1, 1) := dX0_run_196g.2.2.2.2.2.2.1
theorem dX0_run_208 : decode cX0_run 208 = .ok (.isub, 1) := dX0_run_196g.2.2.2.2.2.2.2.1
theorem dX0_run_209 : decode cX0_run 209 = .ok (.laload, 1) := dX0_run_196g.2.2.2.2.2.2.2.2.1
theorem dX0_run_210 : decode cX0_run 210 = .ok (.lstore 8, 2) := dX0_run_196g.2.2.2.2.2.2.2.2.2
theorem dX0_run_212g : (decode cX0_run 212 = .ok (.aload_n 0, 1)) ∧ (decode cX0_run 213 = .ok (.getfield 15, 3)) ∧ (decode cX0_run 216 = .ok (.iload 4, 2)) ∧ (decode cX0_run 218 = .ok (.laload, 1)) ∧ (decode cX0_run 219 = .ok (.lstore 10, 2)) ∧ (decode cX0_run 221 = .ok (.iload 6, 2)) ∧ (decode cX0_run 223 = .ok (.bipush 7, 2)) ∧ (decode cX0_run 225 = .ok (.if_icmp .lt 72, 3)) ∧ (decode cX0_run 228 = .ok (.aload_n 0, 1)) ∧ (decode cX0_run 229 = .ok (.iload 6, 2)) := by decide +kernel
theorem dX0_run_212 : decode cX0_run 212 = .ok (.aload_n 0, 1) := dX0_run_212g.1
theorem dX0_run_213 : decode cX0_run 213 = .ok (.getfield 15, 3) := dX0_run_212g.2.1
theorem dX0_run_216 : decode cX0_run 216 = .ok (.iload 4, 2) := dX0_run_212g.2.2.1
theorem dX0_run_218 : decode cX0_run 218 = .ok (.laload, 1) := dX0_run_212g.2.2.2.1
theorem dX0_run_219 : decode cX0_run 219 = .ok (.lstore 10, 2) := dX0_run_212g.2.2.2.2.1
theorem dX0_run_221 : decode cX0_run 221 = .ok (.iload 6, 2) := dX0_run_212g.2.2.2.2.2.1
theorem dX0_run_223 : decode cX0_run 223 = .ok (.bipush 7, 2) := dX0_run_212g.2.2.2.2.2.2.1
theorem dX0_run_225 : decode cX0_run 225 = .ok (.if_icmp .lt 72, 3) := dX0_run_212g.2.2.2.2.2.2.2.1
theorem dX0_run_228 : decode cX0_run 228 = .ok (.aload_n 0, 1) := dX0_run_212g.2.2.2.2.2.2.2.2.1
theorem dX0_run_229 : decode cX0_run 229 = .ok (.iload 6, 2) := dX0_run_212g.2.2.2.2.2.2.2.2.2
theorem dX0_run_231g : (decode cX0_run 231 = .ok (.bipush 7, 2)) ∧ (decode cX0_run 233 = .ok (.if_icmp .ne 19, 3)) ∧ (decode cX0_run 236 = .ok (.lload 8, 2)) ∧ (decode cX0_run 238 = .ok (.lload 10, 2)) ∧ (decode cX0_run 240 = .ok (.lcmp, 1)) ∧ (decode cX0_run 241 = .ok (.ifCond .ge 7, 3)) ∧ (decode cX0_run 244 = .ok (.iconst 1, 1)) ∧ (decode cX0_run 245 = .ok (.goto 43, 3)) ∧ (decode cX0_run 248 = .ok (.iconst 0, 1)) ∧ (decode cX0_run 249 = .ok (.goto 39, 3)) := by decide +kernel
theorem dX0_run_231 : decode cX0_run 231 = .ok (.bipush 7, 2) := dX0_run_231g.1
theorem dX0_run_233 : decode cX0_run 233 = .ok (.if_icmp .ne 19, 3) := dX0_run_231g.2.1
theorem dX0_run_236 : decode cX0_run 236 = .ok (.lload 8, 2) := dX0_run_231g.2.2.1
theorem dX0_run_238 : decode cX0_run 238 = .ok (.lload 10, 2) := dX0_run_231g.2.2.2.1
theorem dX0_run_240 : decode cX0_run 240 = .ok (.lcmp, 1) := dX0_run_231g.2.2.2.2.1
theorem dX0_run_241 : decode cX0_run 241 = .ok (.ifCond .ge 7, 3) := dX0_run_231g.2.2.2.2.2.1
theorem dX0_run_244 : decode cX0_run 244 = .ok (.iconst 1, 1) := dX0_run_231g.2.2.2.2.2.2.1
theorem dX0_run_245 : decode cX0_run 245 = .ok (.goto 43, 3) := dX0_run_231g.2.2.2.2.2.2.2.1
theorem dX0_run_248 : decode cX0_run 248 = .ok (.iconst 0, 1) := dX0_run_231g.2.2.2.2.2.2.2.2.1
theorem dX0_run_249 : decode cX0_run 249 = .ok (.goto 39, 3) := dX0_run_231g.2.2.2.2.2.2.2.2.2
theorem dX0_run_252g : (decode cX0_run 252 = .ok (.iload 6, 2)) ∧ (decode cX0_run 254 = .ok (.bipush 8, 2)) ∧ (decode cX0_run 256 = .ok (.if_icmp .ne 19, 3)) ∧ (decode cX0_run 259 = .ok (.lload 8, 2)) ∧ (decode cX0_run 261 = .ok (.lload 10, 2)) ∧ (decode cX0_run 263 = .ok (.lcmp, 1)) ∧ (decode cX0_run 264 = .ok (.ifCond .le 7, 3)) ∧ (decode cX0_run 267 = .ok (.iconst 1, 1)) ∧ (decode cX0_run 268 = .ok (.goto 20, 3)) ∧ (decode cX0_run 271 = .ok (.iconst 0, 1)) := by decide +kernel
theorem dX0_run_252 : decode cX0_run 252 = .ok (.iload 6, 2) := dX0_run_252g.1
theorem dX0_run_254 : decode cX0_run 254 = .ok (.bipush 8, 2) := dX0_run_252g.2.1
theorem dX0_run_256 : decode cX0_run 256 = .ok (.if_icmp .ne 19, 3) := dX0_run_252g.2.2.1
theorem dX0_run_259 : decode cX0_run 259 = .ok (.lload 8, 2) := dX0_run_252g.2.2.2.1
theorem dX0_run_261 : decode cX0_run 261 = .ok (.lload 10, 2) := dX0_run_252g.2.2.2.2.1
theorem dX0_run_263 : decode cX0_run 263 = .ok (.lcmp, 1) := dX0_run_252g.2.2.2.2.2.1
theorem dX0_run_264 : decode cX0_run 264 = .ok (.ifCond .le 7, 3) := dX0_run_252g.2.2.2.2.2.2.1
theorem dX0_run_267 : decode cX0_run 267 = .ok (.iconst 1, 1) := dX0_run_252g.2.2.2.2.2.2.2.1
theorem dX0_run_268 : decode cX0_run 268 = .ok (.goto 20, 3) := dX0_run_252g.2.2.2.2.2.2.2.2.1
theorem dX0_run_271 : decode cX0_run 271 = .ok (.iconst 0, 1) := dX0_run_252g.2.2.2.2.2.2.2.2.2
theorem dX0_run_272g : (decode cX0_run 272 = .ok (.goto 16, 3)) ∧ (decode cX0_run 275 = .ok (.lload 8, 2)) ∧ (decode cX0_run 277 = .ok (.lload 10, 2)) ∧ (decode cX0_run 279 = .ok (.lcmp, 1)) ∧ (decode cX0_run 280 = .ok (.ifCond .ne 7, 3)) ∧ (decode cX0_run 283 = .ok (.iconst 1, 1)) ∧ (decode cX0_run 284 = .ok (.goto 4, 3)) ∧ (decode cX0_run 287 = .ok (.iconst 0, 1)) ∧ (decode cX0_run 288 = .ok (.putfield 19, 3)) ∧ (decode cX0_run 291 = .ok (.iinc 4 (-1), 3)) := by decide +kernel
theorem dX0_run_272 : decode cX0_run 272 = .ok (.goto 16, 3) := dX0_run_272g.1
theorem dX0_run_275 : decode cX0_run 275 = .ok (.lload 8, 2) := dX0_run_272g.2.1
theorem dX0_run_277 : decode cX0_run 277 = .ok (.lload 10, 2) := dX0_run_272g.2.2.1
theorem dX0_run_279 : decode cX0_run 279 = .ok (.lcmp, 1) := dX0_run_272g.2.2.2.1
theorem dX0_run_280 : decode cX0_run 280 = .ok (.ifCond .ne 7, 3) := dX0_run_272g.2.2.2.2.1
theorem dX0_run_283 : decode cX0_run 283 = .ok (.iconst 1, 1) := dX0_run_272g.2.2.2.2.2.1
theorem dX0_run_284 : decode cX0_run 284 = .ok (.goto 4, 3) := dX0_run_272g.2.2.2.2.2.2.1
theorem dX0_run_287 : decode cX0_run 287 = .ok (.iconst 0, 1) := dX0_run_272g.2.2.2.2.2.2.2.1
theorem dX0_run_288 : decode cX0_run 288 = .ok (.putfield 19, 3) := dX0_run_272g.2.2.2.2.2.2.2.2.1
theorem dX0_run_291 : decode cX0_run 291 = .ok (.iinc 4 (-1), 3) := dX0_run_272g.2.2.2.2.2.2.2.2.2
theorem dX0_run_294g : (decode cX0_run 294 = .ok (.goto 119, 3)) ∧ (decode cX0_run 297 = .ok (.lload 10, 2)) ∧ (decode cX0_run 299 = .ok (.lconst 0, 1)) ∧ (decode cX0_run 300 = .ok (.lcmp, 1)) ∧ (decode cX0_run 301 = .ok (.ifCond .ne 18, 3)) ∧ (decode cX0_run 304 = .ok (.iload 6, 2)) ∧ (decode cX0_run 306 = .ok (.iconst 5, 1)) ∧ (decode cX0_run 307 = .ok (.if_icmp .eq 10, 3)) ∧ (decode cX0_run 310 = .ok (.iload 6, 2)) ∧ (decode cX0_run 312 = .ok (.bipush 6, 2)) := by decide +kernel
theorem dX0_run_294 : decode cX0_run 294 = .ok (.goto 119, 3) := dX0_run_294g.1
theorem dX0_run_297 : decode cX0_run 297 = .ok (.lload 10, 2) := dX0_run_294g.2.1
theorem dX0_run_299 : decode cX0_run 299 = .ok (.lconst 0, 1) := dX0_run_294g.2.2.1
theorem dX0_run_300 : decode cX0_run 300 = .ok (.lcmp, 1) := dX0_run_294g.2.2.2.1
theorem dX0_run_301 : decode cX0_run 301 = .ok (.ifCond .ne 18, 3) := dX0_run_294g.2.2.2.2.1
theorem dX0_run_304 : decode cX0_run 304 = .ok (.iload 6, 2) := dX0_run_294g.2.2.2.2.2.1
theorem dX0_run_306 : decode cX0_run 306 = .ok (.iconst 5, 1) := dX0_run_294g.2.2.2.2.2.2.1
theorem dX0_run_307 : decode cX0_run 307 = .ok (.if_icmp .eq 10, 3) := dX0_run_294g.2.2.2.2.2.2.2.1
theorem dX0_run_310 : decode cX0_run 310 = .ok (.iload 6, 2) := dX0_run_294g.2.2.2.2.2.2.2.2.1
theorem dX0_run_312 : decode cX0_run 312 = .ok (.bipush 6, 2) := dX0_run_294g.2.2.2.2.2.2.2.2.2
theorem dX0_run_314g : (decode cX0_run 314 = .ok (.if_icmp .ne 5, 3)) ∧ (decode cX0_run 317 = .ok (.iconst 0, 1)) ∧ (decode cX0_run 318 = .ok (.ireturn, 1)) ∧ (decode cX0_run 319 = .ok (.iload 6, 2)) ∧ (decode cX0_run 321 = .ok (.iconst 2, 1)) ∧ (decode cX0_run 322 = .ok (.if_icmp .ne 11, 3)) ∧ (decode cX0_run 325 = .ok (.lload 8, 2)) ∧ (decode cX0_run 327 = .ok (.lload 10, 2)) ∧ (decode cX0_run 329 = .ok (.ladd, 1)) ∧ (decode cX0_run 330 = .ok (.goto 50, 3)) := by decide +kernel
theorem dX0_run_314 : decode cX0_run 314 = .ok (.if_icmp .ne 5, 3) := dX0_run_314g.1
theorem dX0_run_317 : decode cX0_run 317 = .ok (.iconst 0, 1) := dX0_run_314g.2.1
theorem dX0_run_318 : decode cX0_run 318 = .ok (.ireturn, 1) := dX0_run_314g.2.2.1
theorem dX0_run_319 : decode cX0_run 319 = .ok (.iload 6, 2) := dX0_run_314g.2.2.2.1
theorem dX0_run_321 : decode cX0_run 321 = .ok (.iconst 2, 1) := dX0_run_314g.2.2.2.2.1
theorem dX0_run_322 : decode cX0_run 322 = .ok (.if_icmp .ne 11, 3) := dX0_run_314g.2.2.2.2.2.1
theorem dX0_run_325 : decode cX0_run 325 = .ok (.lload 8, 2) := dX0_run_314g.2.2.2.2.2.2.1
theorem dX0_run_327 : decode cX0_run 327 = .ok (.lload 10, 2) := dX0_run_314g.2.2.2.2.2.2.2.1
theorem dX0_run_329 : decode cX0_run 329 = .ok (.ladd, 1) := dX0_run_314g.2.2.2.2.2.2.2.2.1
theorem dX0_run_330 : decode cX0_run 330 = .ok (.goto 50, 3) := dX0_run_314g.2.2.2.2.2.2.2.2.2
theorem dX0_run_333g : (decode cX0_run 333 = .ok (.iload 6, 2)) ∧ (decode cX0_run 335 = .ok (.iconst 3, 1)) ∧ (decode cX0_run 336 = .ok (.if_icmp .ne 11, 3)) ∧ (decode cX0_run 339 = .ok (.lload 8, 2)) ∧ (decode cX0_run 341 = .ok (.lload 10, 2)) ∧ (decode cX0_run 343 = .ok (.lsub, 1)) ∧ (decode cX0_run 344 = .ok (.goto 36, 3)) ∧ (decode cX0_run 347 = .ok (.iload 6, 2)) ∧ (decode cX0_run 349 = .ok (.iconst 4, 1)) ∧ (decode cX0_run 350 = .ok (.if_icmp .ne 11, 3)) := by decide +kernel
theorem dX0_run_333 : decode cX0_run 333 = .ok (.iload 6, 2) := dX0_run_333g.1
theorem dX0_run_335 : decode cX0_run 335 = .ok (.iconst 3, 1) := dX0_run_333g.2.1
theorem dX0_run_336 : decode cX0_run 336 = .ok (.if_icmp .ne 11, 3) := dX0_run_333g.2.2.1
theorem dX0_run_339 : decode cX0_run 339 = .ok (.lload 8, 2) := dX0_run_333g.2.2.2.1
theorem dX0_run_341 : decode cX0_run 341 = .ok (.lload 10, 2) := dX0_run_333g.2.2.2.2.1
theorem dX0_run_343 : decode cX0_run 343 = .ok (.lsub, 1) := dX0_run_333g.2.2.2.2.2.1
theorem dX0_run_344 : decode cX0_run 344 = .ok (.goto 36, 3) := dX0_run_333g.2.2.2.2.2.2.1
theorem dX0_run_347 : decode cX0_run 347 = .ok (.iload 6, 2) := dX0_run_333g.2.2.2.2.2.2.2.1
theorem dX0_run_349 : decode cX0_run 349 = .ok (.iconst 4, 1) := dX0_run_333g.2.2.2.2.2.2.2.2.1
theorem dX0_run_350 : decode cX0_run 350 = .ok (.if_icmp .ne 11, 3) := dX0_run_333g.2.2.2.2.2.2.2.2.2
theorem dX0_run_353g : (decode cX0_run 353 = .ok (.lload 8, 2)) ∧ (decode cX0_run 355 = .ok (.lload 10, 2)) ∧ (decode cX0_run 357 = .ok (.lmul, 1)) ∧ (decode cX0_run 358 = .ok (.goto 22, 3)) ∧ (decode cX0_run 361 = .ok (.iload 6, 2)) ∧ (decode cX0_run 363 = .ok (.iconst 5, 1)) ∧ (decode cX0_run 364 = .ok (.if_icmp .ne 11, 3)) ∧ (decode cX0_run 367 = .ok (.lload 8, 2)) ∧ (decode cX0_run 369 = .ok (.lload 10, 2)) ∧ (decode cX0_run 371 = .ok (.ldiv, 1)) := by decide +kernel
theorem dX0_run_353 : decode cX0_run 353 = .ok (.lload 8, 2) := dX0_run_353g.1
theorem dX0_run_355 : decode cX0_run 355 = .ok (.lload 10, 2) := dX0_run_353g.2.1
theorem dX0_run_357 : decode cX0_run 357 = .ok (.lmul, 1) := dX0_run_353g.2.2.1
theorem dX0_run_358 : decode cX0_run 358 = .ok (.goto 22, 3) := dX0_run_353g.2.2.2.1
theorem dX0_run_361 : decode cX0_run 361 = .ok (.iload 6, 2) := dX0_run_353g.2.2.2.2.1
theorem dX0_run_363 : decode cX0_run 363 = .ok (.iconst 5, 1) := dX0_run_353g.2.2.2.2.2.1
theorem dX0_run_364 : decode cX0_run 364 = .ok (.if_icmp .ne 11, 3) := dX0_run_353g.2.2.2.2.2.2.1
theorem dX0_run_367 : decode cX0_run 367 = .ok (.lload 8, 2) := dX0_run_353g.2.2.2.2.2.2.2.1
theorem dX0_run_369 : decode cX0_run 369 = .ok (.lload 10, 2) := dX0_run_353g.2.2.2.2.2.2.2.2.1
theorem dX0_run_371 : decode cX0_run 371 = .ok (.ldiv, 1) := dX0_run_353g.2.2.2.2.2.2.2.2.2
theorem dX0_run_372g : (decode cX0_run 372 = .ok (.goto 8, 3)) ∧ (decode cX0_run 375 = .ok (.lload 8, 2)) ∧ (decode cX0_run 377 = .ok (.lload 10, 2)) ∧ (decode cX0_run 379 = .ok (.lrem, 1)) ∧ (decode cX0_run 380 = .ok (.lstore 12, 2)) ∧ (decode cX0_run 382 = .ok (.lload 12, 2)) ∧ (decode cX0_run 384 = .ok (.ldc2_w 51, 3)) ∧ (decode cX0_run 387 = .ok (.lcmp, 1)) ∧ (decode cX0_run 388 = .ok (.ifCond .gt 12, 3)) ∧ (decode cX0_run 391 = .ok (.lload 12, 2)) := by decide +kernel
theorem dX0_run_372 : decode cX0_run 372 = .ok (.goto 8, 3) := dX0_run_372g.1
theorem dX0_run_375 : decode cX0_run 375 = .ok (.lload 8, 2) := dX0_run_372g.2.1
theorem dX0_run_377 : decode cX0_run 377 = .ok (.lload 10, 2) := dX0_run_372g.2.2.1
theorem dX0_run_379 : decode cX0_run 379 = .ok (.lrem, 1) := dX0_run_372g.2.2.2.1
theorem dX0_run_380 : decode cX0_run 380 = .ok (.lstore 12, 2) := dX0_run_372g.2.2.2.2.1
theorem dX0_run_382 : decode cX0_run 382 = .ok (.lload 12, 2) := dX0_run_372g.2.2.2.2.2.1
theorem dX0_run_384 : decode cX0_run 384 = .ok (.ldc2_w 51, 3) := dX0_run_372g.2.2.2.2.2.2.1
theorem dX0_run_387 : decode cX0_run 387 = .ok (.lcmp, 1) := dX0_run_372g.2.2.2.2.2.2.2.1
theorem dX0_run_388 : decode cX0_run 388 = .ok (.ifCond .gt 12, 3) := dX0_run_372g.2.2.2.2.2.2.2.2.1
theorem dX0_run_391 : decode cX0_run 391 = .ok (.lload 12, 2) := dX0_run_372g.2.2.2.2.2.2.2.2.2
theorem dX0_run_393g : (decode cX0_run 393 = .ok (.ldc2_w 53, 3)) ∧ (decode cX0_run 396 = .ok (.lcmp, 1)) ∧ (decode cX0_run 397 = .ok (.ifCond .ge 5, 3)) ∧ (decode cX0_run 400 = .ok (.iconst 0, 1)) ∧ (decode cX0_run 401 = .ok (.ireturn, 1)) ∧ (decode cX0_run 402 = .ok (.aload_n 0, 1)) ∧ (decode cX0_run 403 = .ok (.getfield 15, 3)) ∧ (decode cX0_run 406 = .ok (.iload 4, 2)) ∧ (decode cX0_run 408 = .ok (.iconst 1, 1)) ∧ (decode cX0_run 409 = .ok (.isub, 1)) := by decide +kernel
theorem dX0_run_393 : decode cX0_run 393 = .ok (.ldc2_w 53, 3) := dX0_run_393g.1
theorem dX0_run_396 : decode cX0_run 396 = .ok (.lcmp, 1) := dX0_run_393g.2.1
theorem dX0_run_397 : decode cX0_run 397 = .ok (.ifCond .ge 5, 3) := dX0_run_393g.2.2.1
theorem dX0_run_400 : decode cX0_run 400 = .ok (.iconst 0, 1) := dX0_run_393g.2.2.2.1
theorem dX0_run_401 : decode cX0_run 401 = .ok (.ireturn, 1) := dX0_run_393g.2.2.2.2.1
theorem dX0_run_402 : decode cX0_run 402 = .ok (.aload_n 0, 1) := dX0_run_393g.2.2.2.2.2.1
theorem dX0_run_403 : decode cX0_run 403 = .ok (.getfield 15, 3) := dX0_run_393g.2.2.2.2.2.2.1
theorem dX0_run_406 : decode cX0_run 406 = .ok (.iload 4, 2) := dX0_run_393g.2.2.2.2.2.2.2.1
theorem dX0_run_408 : decode cX0_run 408 = .ok (.iconst 1, 1) := dX0_run_393g.2.2.2.2.2.2.2.2.1
theorem dX0_run_409 : decode cX0_run 409 = .ok (.isub, 1) := dX0_run_393g.2.2.2.2.2.2.2.2.2
theorem dX0_run_410g : (decode cX0_run 410 = .ok (.lload 12, 2)) ∧ (decode cX0_run 412 = .ok (.lastore, 1)) ∧ (decode cX0_run 413 = .ok (.iinc 5 1, 3)) ∧ (decode cX0_run 416 = .ok (.goto (-410), 3)) ∧ (decode cX0_run 419 = .ok (.iconst 1, 1)) ∧ (decode cX0_run 420 = .ok (.ireturn, 1)) := by decide +kernel
theorem dX0_run_410 : decode cX0_run 410 = .ok (.lload 12, 2) := dX0_run_410g.1
theorem dX0_run_412 : decode cX0_run 412 = .ok (.lastore, 1) := dX0_run_410g.2.1
theorem dX0_run_413 : decode cX0_run 413 = .ok (.iinc 5 1, 3) := dX0_run_410g.2.2.1
theorem dX0_run_416 : decode cX0_run 416 = .ok (.goto (-410), 3) := dX0_run_410g.2.2.2.1
theorem dX0_run_419 : decode cX0_run 419 = .ok (.iconst 1, 1) := dX0_run_410g.2.2.2.2.1
theorem dX0_run_420 : decode cX0_run 420 = .ok (.ireturn, 1) := dX0_run_410g.2.2.2.2.2
set_option maxHeartbeats 4000000 in
set_option maxRecDepth 100000 in
theorem c_X0_run (l : Launch) (E : Nat → Nat) (D : va_G) (G : th_G) (h0 : Nat) (hG0 : G h0 = some (8, 0)) (p1 n1 : Nat) (hp1 : G p1 = some (0, n1)) (hn1 : n1 ≤ 400) (x2 : Int32) (x3 : Int32) : Met l yX0_run (tb (.code yX0_run cX0_run 14 (some .boolean))) (rm 0) (va_Pc [.ref h0, .ref p1, .int x2, .int x3] (th_P E D G)) (QI E D G (fun r => 0 ≤ (r : Int32).toInt ∧ (r : Int32).toInt ≤ 1)) 0 0 (th_A G) := by
  refine Met.ofW (cc := cX0_run) (maxL := 14) (ret := (some .boolean)) (by decide) rfl ?_
  intro p e s m args below meth c s₁ B hml hv
  obtain ⟨hav, hI, hN, hK⟩ := hv
  have hx := B.exec
  have hb := B.bytes
  have hr := B.returns
  have hts := atoms_spec (ws := tb (.code yX0_run cX0_run 14 (some .boolean))) B.pre
  have hown : s.vm.findClass RX0 = some m.cls := findClass_of_methodNamed B.named
  have hlocks := B.notSynchronized
  have hS : va_S (th_A G) s.heap s.heap [] := va_S.rf
  have hl := lv_entry ([.ref h0, .ref p1, .int x2, .int x3]) (n := 14) (Nat.le_of_ble_eq_true rfl)
  rw [show entryFrame m args 14 = entryFrame m ([.ref h0, .ref p1, .int x2, .int x3] : List Value).toArray 14 from by rw [hav], lg_entry_eq]
  generalize (lg_sl ([.ref h0, .ref p1, .int x2, .int x3]) ++ List.replicate (14 - (lg_sl ([.ref h0, .ref p1, .int x2, .int x3])).length) Slot.unset).toArray = ls at hl ⊢
  have hl : lv_has ls 14 [(0, .ref h0), (1, .ref p1), (2, .int x2), (3, .int x3)] := hl
  generalize hR : (headSpec (tb (.code yX0_run cX0_run 14 (some .boolean))) (rm 0)).room = R
  have hR := hR.symm
  generalize hQ : MQ below (QI E D G (fun r => 0 ≤ (r : Int32).toInt ∧ (r : Int32).toInt ≤ 1)) args s 0 0 (th_A G) = QF
  have hQ := hQ.symm
  have J_6 : ∀ (nn : Nat) (H : Heap) (locs : List Loc) (ls : Array Slot) (v9863 : Int32) (v9864 : Int32), (Int.toNat (((n1 : Nat) : Int) - v9863.toInt) = nn) → lv_has ls 14 [(5, .int v9863), (4, .int v9864), (0, .ref h0), (1, .ref p1), (2, .int x2), (3, .int x3)] → ((0 : Int) ≤ v9864.toInt ∧ v9864.toInt ≤ 64) → th_I (okC E) D G [] H → va_S (th_A G) s.heap H locs → W p l e R s m args below meth c H locs 0 0 QF (F0 m 6 ls []) := by
    intro nn
    induction nn using Nat.strongRecOn with
    | ind nn ih_6 =>
      intro H locs ls v9863 v9864 hm hl k9865 hI hS
      refine lv_iload hx hb dX0_run_6 (lv_at hl 0 rfl) ?_
      have k9866 := iv_lo v9863
      have k9867 := iv_hi v9863
      refine lv_if_lt (tgt := 419) hx hb dX0_run_8 (by decide) (fun c9868 => ?_) (fun c9868 => ?_)
      · skip
        have k9869 := iv_lt (X := v9863.toInt) (Y := (0)) rfl (by decide) c9868
        refine lv_iconst (v := 1) hx hb dX0_run_419 (by decide) ?_
        have hpost : 0 ≤ (1 : Int32).toInt ∧ (1 : Int32).toInt ≤ 1 := by first | decide | omega
        rw [hQ]
        exact W.zret (v := 1) hx hb hr (by decide) (fun t ht hW => ⟨⟨1, (), rfl, hpost, by rw [ht]; exact hI, hN.warm hW, va_K.moved hW.alike hK⟩, hS.F ht⟩) hS.2.2 dX0_run_420
      · skip
        have k9870 := iv_nlt (X := v9863.toInt) (Y := (0)) rfl (by decide) c9868
        refine lv_iload hx hb dX0_run_11 (lv_at hl 0 rfl) ?_
        refine lv_iload_n hx hb dX0_run_13 rfl (lv_at hl 5 rfl) ?_
        have k9871 := iv_lo x3
        have k9872 := iv_hi x3
        refine lv_icmp_ge (tgt := 419) hx hb dX0_run_14 (by decide) (fun c9873 => ?_) (fun c9873 => ?_)
        · skip
          have k9874 := iv_le (X := x3.toInt) (Y := v9863.toInt) rfl rfl c9873
          refine lv_iconst (v := 1) hx hb dX0_run_419 (by decide) ?_
          have hpost : 0 ≤ (1 : Int32).toInt ∧ (1 : Int32).toInt ≤ 1 := by first | decide | omega
          rw [hQ]
          exact W.zret (v := 1) hx hb hr (by decide) (fun t ht hW => ⟨⟨1, (), rfl, hpost, by rw [ht]; exact hI, hN.warm hW, va_K.moved hW.alike hK⟩, hS.F ht⟩) hS.2.2 dX0_run_420
        · skip
          have k9875 := iv_nle (X := x3.toInt) (Y := v9863.toInt) rfl rfl c9873
          refine lv_iload hx hb dX0_run_17 (lv_at hl 0 rfl) ?_
          refine lv_aload_n hx hb dX0_run_19 rfl (lv_at hl 3 rfl) ?_
          obtain ⟨_, hA9876⟩ := op_0 hI hp1 List.not_mem_nil
          refine va_alen hx hb hK (th_one hA9876) 0 0 rfl (v := nI (n1)) rfl rfl dX0_run_20 ?_
          refine lv_topi (fun v9877 e9878 => ?_)
          have tv9877 : v9877.toInt = ((n1 : Nat) : Int) := by rw [e9878]; exact nI_toInt (by omega)
          have k9879 := iv_lo v9877
          have k9880 := iv_hi v9877
          refine lv_icmp_ge (tgt := 419) hx hb dX0_run_21 (by decide) (fun c9881 => ?_) (fun c9881 => ?_)
          · skip
            have k9882 := iv_le (X := v9877.toInt) (Y := v9863.toInt) rfl rfl c9881
            refine lv_iconst (v := 1) hx hb dX0_run_419 (by decide) ?_
            have hpost : 0 ≤ (1 : Int32).toInt ∧ (1 : Int32).toInt ≤ 1 := by first | decide | omega
            rw [hQ]
            exact W.zret (v := 1) hx hb hr (by decide) (fun t ht hW => ⟨⟨1, (), rfl, hpost, by rw [ht]; exact hI, hN.warm hW, va_K.moved hW.alike hK⟩, hS.F ht⟩) hS.2.2 dX0_run_420
          · skip
            have k9883 := iv_nle (X := v9877.toInt) (Y := v9863.toInt) rfl rfl c9881
            refine lv_aload_n hx hb dX0_run_24 rfl (lv_at hl 3 rfl) ?_
            refine lv_iload hx hb dX0_run_25 (lv_at hl 0 rfl) ?_
            obtain ⟨_, hA9884⟩ := op_0 hI hp1 List.not_mem_nil
            refine th_iald hx hb hK hA9884 0 rfl (iv_in (X := v9863.toInt) rfl (by omega) (by omega)) dX0_run_27 (fun v9885 _ => ?_)
            refine lv_bipush (v := 15) hx hb dX0_run_28 (by decide) ?_
            refine lv_iand hx hb dX0_run_30 ?_
            refine lv_topi (fun v9886 e9887 => ?_)
            have tv9886 := iv_andr (m := 15) (M := 15) e9887 (by decide) (by decide)
            refine lv_istore (lv' := [(6, .int v9886), (5, .int v9863), (4, .int v9864), (0, .ref h0), (1, .ref p1), (2, .int x2), (3, .int x3)]) hx hb dX0_run_31 hl (by decide) rfl (fun ls hl => ?_)
            refine lv_aload_n hx hb dX0_run_33 rfl (lv_at hl 4 rfl) ?_
            refine lv_iload hx hb dX0_run_34 (lv_at hl 1 rfl) ?_
            obtain ⟨_, hA9888⟩ := op_0 hI hp1 List.not_mem_nil
            refine th_iald hx hb hK hA9888 0 rfl (iv_in (X := v9863.toInt) rfl (by omega) (by omega)) dX0_run_36 (fun v9889 _ => ?_)
            refine lv_iconst (v := 4) hx hb dX0_run_37 (by decide) ?_
            refine lv_ishr hx hb dX0_run_38 ?_
            refine lv_topi (fun v9890 e9891 => ?_)
            refine lv_istore (lv' := [(7, .int v9890), (6, .int v9886), (5, .int v9863), (4, .int v9864), (0, .ref h0), (1, .ref p1), (2, .int x2), (3, .int x3)]) hx hb dX0_run_39 hl (by decide) rfl (fun ls hl => ?_)
            refine lv_iload hx hb dX0_run_41 (lv_at hl 1 rfl) ?_
            refine lv_if_eq (tgt := 52) hx hb dX0_run_43 (by decide) (fun c9892 => ?_) (fun c9892 => ?_)
            · skip
              have k9893 := iv_eq (X := v9886.toInt) (Y := (0)) rfl (by decide) c9892
              refine lv_iload hx hb dX0_run_52 (lv_at hl 3 rfl) ?_
              refine lv_aload_n hx hb dX0_run_54 rfl (lv_at hl 4 rfl) ?_
              obtain ⟨a9894, a9896, w9898, hO, hq9895, hq9897⟩ := op_8 hI hG0 List.not_mem_nil
              have hI := th_I.weak (a := h0) hI
              refine th_get hx hb hts inT0 hown hK hO rfl 1 (by decide) (hts _ (tb_c wd_179)) rfl rfl dX0_run_55 ?_
              obtain ⟨_, hA9899⟩ := op_1 hI hq9897 (th_ne hG0 hq9897 (show (8 : Nat) ≠ 1 by decide))
              refine va_alen hx hb hK (th_one hA9899) 0 1 rfl (v := 64) rfl (show Int32.ofNat 64 = (64 : Int32) from by decide) dX0_run_58 ?_
              refine lv_icmp_ge (tgt := 83) hx hb dX0_run_59 (by decide) (fun c9900 => ?_) (fun c9900 => ?_)
              · skip
                have k9901 := iv_le (X := (64)) (Y := v9864.toInt) (by decide) rfl c9900
                refine lv_iconst (v := 0) hx hb dX0_run_83 (by decide) ?_
                have hI := th_I.close hI hG0 hO (ok_8 hq9895 hq9897)
                have hpost : 0 ≤ (0 : Int32).toInt ∧ (0 : Int32).toInt ≤ 1 := by first | decide | omega
                rw [hQ]
                exact W.zret (v := 0) hx hb hr (by decide) (fun t ht hW => ⟨⟨0, (), rfl, hpost, by rw [ht]; exact hI, hN.warm hW, va_K.moved hW.alike hK⟩, hS.F ht⟩) hS.2.2 dX0_run_84
              · skip
                have k9902 := iv_nle (X := (64)) (Y := v9864.toInt) (by decide) rfl c9900
                refine lv_iload hx hb dX0_run_62 (lv_at hl 0 rfl) ?_
                have k9903 := iv_lo v9890
                have k9904 := iv_hi v9890
                refine lv_if_lt (tgt := 83) hx hb dX0_run_64 (by decide) (fun c9905 => ?_) (fun c9905 => ?_)
                · skip
                  have k9906 := iv_lt (X := v9890.toInt) (Y := (0)) rfl (by decide) c9905
                  refine lv_iconst (v := 0) hx hb dX0_run_83 (by decide) ?_
                  have hI := th_I.close hI hG0 hO (ok_8 hq9895 hq9897)
                  have hpost : 0 ≤ (0 : Int32).toInt ∧ (0 : Int32).toInt ≤ 1 := by first | decide | omega
                  rw [hQ]
                  exact W.zret (v := 0) hx hb hr (by decide) (fun t ht hW => ⟨⟨0, (), rfl, hpost, by rw [ht]; exact hI, hN.warm hW, va_K.moved hW.alike hK⟩, hS.F ht⟩) hS.2.2 dX0_run_84
                · skip
                  have k9907 := iv_nlt (X := v9890.toInt) (Y := (0)) rfl (by decide) c9905
                  refine lv_iload hx hb dX0_run_67 (lv_at hl 1 rfl) ?_
                  refine lv_iconst (v := 1) hx hb dX0_run_69 (by decide) ?_
                  refine lv_icmp_ne (tgt := 85) hx hb dX0_run_70 (by decide) (fun c9908 => ?_) (fun c9908 => ?_)
                  · skip
                    have k9909 := iv_ne (X := v9886.toInt) (Y := (1)) rfl (by decide) c9908
                    refine lv_aload_n hx hb dX0_run_85 rfl (lv_at hl 4 rfl) ?_
                    refine th_get hx hb hts inT0 hown hK hO rfl 1 (by decide) (hts _ (tb_c wd_179)) rfl rfl dX0_run_86 ?_
                    refine lv_iload hx hb dX0_run_89 (lv_at hl 3 rfl) ?_
                    refine lv_iload hx hb dX0_run_91 (lv_at hl 1 rfl) ?_
                    refine lv_if_ne (tgt := 102) hx hb dX0_run_93 (by decide) (fun c9910 => ?_) (fun c9910 => ?_)
                    · skip
                      have k9911 := iv_ne (X := v9886.toInt) (Y := (0)) rfl (by decide) c9910
                      exfalso; omega
                    · skip
                      have k9912 := iv_eq (X := v9886.toInt) (Y := (0)) rfl (by decide) c9910
                      refine lv_iload hx hb dX0_run_96 (lv_at hl 0 rfl) ?_
                      refine lv_i2l hx hb dX0_run_98 rfl ?_
                      refine lv_topl (fun l9913 e9914 => ?_)
                      refine lv_goto (tgt := 110) hx hb dX0_run_99 (by decide) ?_
                      obtain ⟨_, hA9915⟩ := op_1 hI hq9897 (th_ne hG0 hq9897 (show (8 : Nat) ≠ 1 by decide))
                      refine th_last hx hb hK hA9915 1 rfl hS ⟨_, hq9897⟩ (iv_in (X := v9864.toInt) rfl (by omega) (by omega)) dX0_run_110 (fun H locs hA9915 oq hS => ?_)
                      have hI := th_I.put hI hq9897 hA9915 ok_1 oq
                      have hO := hO.kept (oq _ (fun z => th_ne hG0 hq9897 (show (8 : Nat) ≠ 1 by decide) (List.mem_singleton.mpr z.symm)))
                      obtain ⟨v9916, e9917⟩ : ∃ y : Int32, y = v9864 + (1) := ⟨_, rfl⟩
                      have tv9916 : v9916.toInt = v9864.toInt + (1) := iv_add rfl (by decide) e9917 (by omega) (by omega)
                      refine lv_iinc (v := v9916) (lv' := [(4, .int v9916), (7, .int v9890), (6, .int v9886), (5, .int v9863), (0, .ref h0), (1, .ref p1), (2, .int x2), (3, .int x3)]) hx hb dX0_run_111 hl (k := 3) rfl (by rw [e9917]; rfl) (by decide) rfl (fun ls hl => ?_)
                      refine lv_goto (tgt := 413) hx hb dX0_run_114 (by decide) ?_
                      obtain ⟨v9918, e9919⟩ : ∃ y : Int32, y = v9863 + (1) := ⟨_, rfl⟩
                      have tv9918 : v9918.toInt = v9863.toInt + (1) := iv_add rfl (by decide) e9919 (by omega) (by omega)
                      refine lv_iinc (v := v9918) (lv' := [(5, .int v9918), (4, .int v9916), (7, .int v9890), (6, .int v9886), (0, .ref h0), (1, .ref p1), (2, .int x2), (3, .int x3)]) hx hb dX0_run_413 hl (k := 3) rfl (by rw [e9919]; rfl) (by decide) rfl (fun ls hl => ?_)
                      refine lv_goto (tgt := 6) hx hb dX0_run_416 (by decide) ?_
                      have hI := th_I.close hI hG0 hO (ok_8 hq9895 hq9897)
                      exact ih_6 _ (by omega) H locs ls v9918 v9916 rfl (lv_sub hl [0, 1, 4, 5, 6, 7] rfl) ⟨by omega, by omega⟩ hI hS
                  · skip
                    have k9920 := iv_eq (X := v9886.toInt) (Y := (1)) rfl (by decide) c9908
                    exfalso; omega
            · skip
              have k9921 := iv_ne (X := v9886.toInt) (Y := (0)) rfl (by decide) c9892
              refine lv_iload hx hb dX0_run_46 (lv_at hl 1 rfl) ?_
              refine lv_iconst (v := 1) hx hb dX0_run_48 (by decide) ?_
              refine lv_icmp_ne (tgt := 117) hx hb dX0_run_49 (by decide) (fun c9922 => ?_) (fun c9922 => ?_)
              · skip
                have k9923 := iv_ne (X := v9886.toInt) (Y := (1)) rfl (by decide) c9922
                refine lv_iload hx hb dX0_run_117 (lv_at hl 1 rfl) ?_
                refine lv_bipush (v := 10) hx hb dX0_run_119 (by decide) ?_
                refine lv_icmp_ne (tgt := 143) hx hb dX0_run_121 (by decide) (fun c9924 => ?_) (fun c9924 => ?_)
                · skip
                  have k9925 := iv_ne (X := v9886.toInt) (Y := (10)) rfl (by decide) c9924
                  refine lv_iload hx hb dX0_run_143 (lv_at hl 1 rfl) ?_
                  refine lv_bipush (v := 11) hx hb dX0_run_145 (by decide) ?_
                  refine lv_icmp_lt (tgt := 190) hx hb dX0_run_147 (by decide) (fun c9926 => ?_) (fun c9926 => ?_)
                  · skip
                    have k9927 := iv_lt (X := v9886.toInt) (Y := (11)) rfl (by decide) c9926
                    refine lv_iload hx hb dX0_run_190 (lv_at hl 3 rfl) ?_
                    refine lv_iconst (v := 2) hx hb dX0_run_192 (by decide) ?_
                    refine lv_icmp_ge (tgt := 198) hx hb dX0_run_193 (by decide) (fun c9928 => ?_) (fun c9928 => ?_)
                    · skip
                      have k9929 := iv_le (X := (2)) (Y := v9864.toInt) (by decide) rfl c9928
                      obtain ⟨v9930, e9931⟩ : ∃ y : Int32, y = v9864 + (-1) := ⟨_, rfl⟩
                      have tv9930 : v9930.toInt = v9864.toInt + (-1) := iv_add rfl (by decide) e9931 (by omega) (by omega)
                      refine lv_iinc (v := v9930) (lv' := [(4, .int v9930), (7, .int v9890), (6, .int v9886), (5, .int v9863), (0, .ref h0), (1, .ref p1), (2, .int x2), (3, .int x3)]) hx hb dX0_run_198 hl (k := 3) rfl (by rw [e9931]; rfl) (by decide) rfl (fun ls hl => ?_)
                      refine lv_aload_n hx hb dX0_run_201 rfl (lv_at hl 4 rfl) ?_
                      obtain ⟨a9932, a9934, w9936, hO, hq9933, hq9935⟩ := op_8 hI hG0 List.not_mem_nil
                      have hI := th_I.weak (a := h0) hI
                      refine th_get hx hb hts inT0 hown hK hO rfl 1 (by decide) (hts _ (tb_c wd_179)) rfl rfl dX0_run_202 ?_
                      refine lv_iload hx hb dX0_run_205 (lv_at hl 0 rfl) ?_
                      refine lv_iconst (v := 1) hx hb dX0_run_207 (by decide) ?_
                      refine lv_isub hx hb dX0_run_208 ?_
                      refine lv_topi (fun v9937 e9938 => ?_)
                      have tv9937 : v9937.toInt = v9930.toInt - (1) := iv_sub rfl (by decide) e9938 (by omega) (by omega)
                      obtain ⟨_, hA9939⟩ := op_1 hI hq9935 (th_ne hG0 hq9935 (show (8 : Nat) ≠ 1 by decide))
                      refine va_lald hx hb hK (th_one hA9939) 0 1 rfl rfl (iv_in (X := v9937.toInt) rfl (by omega) (by omega)) dX0_run_209 ?_
                      refine lv_topl (fun l9940 e9941 => ?_)
                      refine lv_lstore (lv' := [(8, .long l9940), (4, .int v9930), (7, .int v9890), (6, .int v9886), (5, .int v9863), (0, .ref h0), (1, .ref p1), (2, .int x2), (3, .int x3)]) hx hb dX0_run_210 hl (by decide) rfl (fun ls hl => ?_)
                      refine lv_aload_n hx hb dX0_run_212 rfl (lv_at hl 5 rfl) ?_
                      refine th_get hx hb hts inT0 hown hK hO rfl 1 (by decide) (hts _ (tb_c wd_179)) rfl rfl dX0_run_213 ?_
                      refine lv_iload hx hb dX0_run_216 (lv_at hl 1 rfl) ?_
                      obtain ⟨_, hA9942⟩ := op_1 hI hq9935 (th_ne hG0 hq9935 (show (8 : Nat) ≠ 1 by decide))
                      refine va_lald hx hb hK (th_one hA9942) 0 1 rfl rfl (iv_in (X := v9930.toInt) rfl (by omega) (by omega)) dX0_run_218 ?_
                      refine lv_topl (fun l9943 e9944 => ?_)
                      refine lv_lstore (lv' := [(10, .long l9943), (8, .long l9940), (4, .int v9930), (7, .int v9890), (6, .int v9886), (5, .int v9863), (0, .ref h0), (1, .ref p1), (2, .int x2), (3, .int x3)]) hx hb dX0_run_219 hl (by decide) rfl (fun ls hl => ?_)
                      refine lv_iload hx hb dX0_run_221 (lv_at hl 4 rfl) ?_
                      refine lv_bipush (v := 7) hx hb dX0_run_223 (by decide) ?_
                      refine lv_icmp_lt (tgt := 297) hx hb dX0_run_225 (by decide) (fun c9945 => ?_) (fun c9945 => ?_)
                      · skip
                        have k9946 := iv_lt (X := v9886.toInt) (Y := (7)) rfl (by decide) c9945
                        refine lv_lload hx hb dX0_run_297 (lv_at hl 0 rfl) ?_
                        refine lv_lconst hx hb dX0_run_299 rfl ?_
                        refine lv_topl (fun l9947 e9948 => ?_)
                        refine W.lcmp hx hb dX0_run_300 ?_
                        refine lv_topi (fun v9949 e9950 => ?_)
                        have tv9949 := iv_cmp e9950
                        refine lv_if_ne (tgt := 319) hx hb dX0_run_301 (by decide) (fun c9951 => ?_) (fun c9951 => ?_)
                        · skip
                          have k9952 := iv_ne (X := v9949.toInt) (Y := (0)) rfl (by decide) c9951
                          refine lv_iload hx hb dX0_run_319 (lv_at hl 4 rfl) ?_
                          refine lv_iconst (v := 2) hx hb dX0_run_321 (by decide) ?_
                          refine lv_icmp_ne (tgt := 333) hx hb dX0_run_322 (by decide) (fun c9953 => ?_) (fun c9953 => ?_)
                          · skip
                            have k9954 := iv_ne (X := v9886.toInt) (Y := (2)) rfl (by decide) c9953
                            refine lv_iload hx hb dX0_run_333 (lv_at hl 4 rfl) ?_
                            refine lv_iconst (v := 3) hx hb dX0_run_335 (by decide) ?_
                            refine lv_icmp_ne (tgt := 347) hx hb dX0_run_336 (by decide) (fun c9955 => ?_) (fun c9955 => ?_)
                            · skip
                              have k9956 := iv_ne (X := v9886.toInt) (Y := (3)) rfl (by decide) c9955
                              refine lv_iload hx hb dX0_run_347 (lv_at hl 4 rfl) ?_
                              refine lv_iconst (v := 4) hx hb dX0_run_349 (by decide) ?_
                              refine lv_icmp_ne (tgt := 361) hx hb dX0_run_350 (by decide) (fun c9957 => ?_) (fun c9957 => ?_)
                              · skip
                                have k9958 := iv_ne (X := v9886.toInt) (Y := (4)) rfl (by decide) c9957
                                refine lv_iload hx hb dX0_run_361 (lv_at hl 4 rfl) ?_
                                refine lv_iconst (v := 5) hx hb dX0_run_363 (by decide) ?_
                                refine lv_icmp_ne (tgt := 375) hx hb dX0_run_364 (by decide) (fun c9959 => ?_) (fun c9959 => ?_)
                                · skip
                                  have k9960 := iv_ne (X := v9886.toInt) (Y := (5)) rfl (by decide) c9959
                                  refine lv_lload hx hb dX0_run_375 (lv_at hl 1 rfl) ?_
                                  refine lv_lload hx hb dX0_run_377 (lv_at hl 0 rfl) ?_
                                  refine lv_lrem hx hb dX0_run_379 (fun h0 => by have := iv_cmp0 e9950 h0 e9948; omega) ?_
                                  refine lv_topl (fun l9961 e9962 => ?_)
                                  refine lv_lstore (lv' := [(12, .long l9961), (10, .long l9943), (8, .long l9940), (4, .int v9930), (7, .int v9890), (6, .int v9886), (5, .int v9863), (0, .ref h0), (1, .ref p1), (2, .int x2), (3, .int x3)]) hx hb dX0_run_380 hl (by decide) rfl (fun ls hl => ?_)
                                  refine lv_lload hx hb dX0_run_382 (lv_at hl 0 rfl) ?_
                                  refine lv_ldc2 hx hb hown (hts _ (tb_c wd_579)) dX0_run_384 ?_
                                  refine lv_topl (fun l9963 e9964 => ?_)
                                  refine W.lcmp hx hb dX0_run_387 ?_
                                  refine lv_topi (fun v9965 e9966 => ?_)
                                  have tv9965 := iv_cmp e9966
                                  refine lv_if_gt (tgt := 400) hx hb dX0_run_388 (by decide) (fun c9967 => ?_) (fun c9967 => ?_)
                                  · skip
                                    have k9968 := iv_lt (X := (0)) (Y := v9965.toInt) (by decide) rfl c9967
                                    refine lv_iconst (v := 0) hx hb dX0_run_400 (by decide) ?_
                                    have hI := th_I.close hI hG0 hO (ok_8 hq9933 hq9935)
                                    have hpost : 0 ≤ (0 : Int32).toInt ∧ (0 : Int32).toInt ≤ 1 := by first | decide | omega
                                    rw [hQ]
                                    exact W.zret (v := 0) hx hb hr (by decide) (fun t ht hW => ⟨⟨0, (), rfl, hpost, by rw [ht]; exact hI, hN.warm hW, va_K.moved hW.alike hK⟩, hS.F ht⟩) hS.2.2 dX0_run_401
                                  · skip
                                    have k9969 := iv_nlt (X := (0)) (Y := v9965.toInt) (by decide) rfl c9967
                                    refine lv_lload hx hb dX0_run_391 (lv_at hl 0 rfl) ?_
                                    refine lv_ldc2 hx hb hown (hts _ (tb_c wd_580)) dX0_run_393 ?_
                                    refine lv_topl (fun l9970 e9971 => ?_)
                                    refine W.lcmp hx hb dX0_run_396 ?_
                                    refine lv_topi (fun v9972 e9973 => ?_)
                                    have tv9972 := iv_cmp e9973
                                    refine lv_if_ge (tgt := 402) hx hb dX0_run_397 (by decide) (fun c9974 => ?_) (fun c9974 => ?_)
                                    · skip
                                      have k9975 := iv_le (X := (0)) (Y := v9972.toInt) (by decide) rfl c9974
                                      refine lv_aload_n hx hb dX0_run_402 rfl (lv_at hl 7 rfl) ?_
                                      refine th_get hx hb hts inT0 hown hK hO rfl 1 (by decide) (hts _ (tb_c wd_179)) rfl rfl dX0_run_403 ?_
                                      refine lv_iload hx hb dX0_run_406 (lv_at hl 3 rfl) ?_
                                      refine lv_iconst (v := 1) hx hb dX0_run_408 (by decide) ?_
                                      refine lv_isub hx hb dX0_run_409 ?_
                                      refine lv_topi (fun v9976 e9977 => ?_)
                                      have tv9976 : v9976.toInt = v9930.toInt - (1) := iv_sub rfl (by decide) e9977 (by omega) (by omega)
                                      refine lv_lload hx hb dX0_run_410 (lv_at hl 0 rfl) ?_
                                      obtain ⟨_, hA9978⟩ := op_1 hI hq9935 (th_ne hG0 hq9935 (show (8 : Nat) ≠ 1 by decide))
                                      refine th_last hx hb hK hA9978 1 rfl hS ⟨_, hq9935⟩ (iv_in (X := v9976.toInt) rfl (by omega) (by omega)) dX0_run_412 (fun H locs hA9978 oq hS => ?_)
                                      have hI := th_I.put hI hq9935 hA9978 ok_1 oq
                                      have hO := hO.kept (oq _ (fun z => th_ne hG0 hq9935 (show (8 : Nat) ≠ 1 by decide) (List.mem_singleton.mpr z.symm)))
                                      obtain ⟨v9979, e9980⟩ : ∃ y : Int32, y = v9863 + (1) := ⟨_, rfl⟩
                                      have tv9979 : v9979.toInt = v9863.toInt + (1) := iv_add rfl (by decide) e9980 (by omega) (by omega)
                                      refine lv_iinc (v := v9979) (lv' := [(5, .int v9979), (12, .long l9961), (10, .long l9943), (8, .long l9940), (4, .int v9930), (7, .int v9890), (6, .int v9886), (0, .ref h0), (1, .ref p1), (2, .int x2), (3, .int x3)]) hx hb dX0_run_413 hl (k := 6) rfl (by rw [e9980]; rfl) (by decide) rfl (fun ls hl => ?_)
                                      refine lv_goto (tgt := 6) hx hb dX0_run_416 (by decide) ?_
                                      have hI := th_I.close hI hG0 hO (ok_8 hq9933 hq9935)
                                      exact ih_6 _ (by omega) H locs ls v9979 v9930 rfl (lv_sub hl [0, 4, 7, 8, 9, 10] rfl) ⟨by omega, by omega⟩ hI hS
                                    · skip
                                      have k9981 := iv_nle (X := (0)) (Y := v9972.toInt) (by decide) rfl c9974
                                      refine lv_iconst (v := 0) hx hb dX0_run_400 (by decide) ?_
                                      have hI := th_I.close hI hG0 hO (ok_8 hq9933 hq9935)
                                      have hpost : 0 ≤ (0 : Int32).toInt ∧ (0 : Int32).toInt ≤ 1 := by first | decide | omega
                                      rw [hQ]
                                      exact W.zret (v := 0) hx hb hr (by decide) (fun t ht hW => ⟨⟨0, (), rfl, hpost, by rw [ht]; exact hI, hN.warm hW, va_K.moved hW.alike hK⟩, hS.F ht⟩) hS.2.2 dX0_run_401
                                · skip
                                  have k9982 := iv_eq (X := v9886.toInt) (Y := (5)) rfl (by decide) c9959
                                  refine lv_lload hx hb dX0_run_367 (lv_at hl 1 rfl) ?_
                                  refine lv_lload hx hb dX0_run_369 (lv_at hl 0 rfl) ?_
                                  refine lv_ldiv hx hb dX0_run_371 (fun h0 => by have := iv_cmp0 e9950 h0 e9948; omega) ?_
                                  refine lv_topl (fun l9983 e9984 => ?_)
                                  refine lv_goto (tgt := 380) hx hb dX0_run_372 (by decide) ?_
                                  refine lv_lstore (lv' := [(12, .long l9983), (10, .long l9943), (8, .long l9940), (4, .int v9930), (7, .int v9890), (6, .int v9886), (5, .int v9863), (0, .ref h0), (1, .ref p1), (2, .int x2), (3, .int x3)]) hx hb dX0_run_380 hl (by decide) rfl (fun ls hl => ?_)
                                  refine lv_lload hx hb dX0_run_382 (lv_at hl 0 rfl) ?_
                                  refine lv_ldc2 hx hb hown (hts _ (tb_c wd_579)) dX0_run_384 ?_
                                  refine lv_topl (fun l9985 e9986 => ?_)
                                  refine W.lcmp hx hb dX0_run_387 ?_
                                  refine lv_topi (fun v9987 e9988 => ?_)
                                  have tv9987 := iv_cmp e9988
                                  refine lv_if_gt (tgt := 400) hx hb dX0_run_388 (by decide) (fun c9989 => ?_) (fun c9989 => ?_)
                                  · skip
                                    have k9990 := iv_lt (X := (0)) (Y := v9987.toInt) (by decide) rfl c9989
                                    refine lv_iconst (v := 0) hx hb dX0_run_400 (by decide) ?_
                                    have hI := th_I.close hI hG0 hO (ok_8 hq9933 hq9935)
                                    have hpost : 0 ≤ (0 : Int32).toInt ∧ (0 : Int32).toInt ≤ 1 := by first | decide | omega
                                    rw [hQ]
                                    exact W.zret (v := 0) hx hb hr (by decide) (fun t ht hW => ⟨⟨0, (), rfl, hpost, by rw [ht]; exact hI, hN.warm hW, va_K.moved hW.alike hK⟩, hS.F ht⟩) hS.2.2 dX0_run_401
                                  · skip
                                    have k9991 := iv_nlt (X := (0)) (Y := v9987.toInt) (by decide) rfl c9989
                                    refine lv_lload hx hb dX0_run_391 (lv_at hl 0 rfl) ?_
                                    refine lv_ldc2 hx hb hown (hts _ (tb_c wd_580)) dX0_run_393 ?_
                                    refine lv_topl (fun l9992 e9993 => ?_)
                                    refine W.lcmp hx hb dX0_run_396 ?_
                                    refine lv_topi (fun v9994 e9995 => ?_)
                                    have tv9994 := iv_cmp e9995
                                    refine lv_if_ge (tgt := 402) hx hb dX0_run_397 (by decide) (fun c9996 => ?_) (fun c9996 => ?_)
                                    · skip
                                      have k9997 := iv_le (X := (0)) (Y := v9994.toInt) (by decide) rfl c9996
                                      refine lv_aload_n hx hb dX0_run_402 rfl (lv_at hl 7 rfl) ?_
                                      refine th_get hx hb hts inT0 hown hK hO rfl 1 (by decide) (hts _ (tb_c wd_179)) rfl rfl dX0_run_403 ?_
                                      refine lv_iload hx hb dX0_run_406 (lv_at hl 3 rfl) ?_
                                      refine lv_iconst (v := 1) hx hb dX0_run_408 (by decide) ?_
                                      refine lv_isub hx hb dX0_run_409 ?_
                                      refine lv_topi (fun v9998 e9999 => ?_)
                                      have tv9998 : v9998.toInt = v9930.toInt - (1) := iv_sub rfl (by decide) e9999 (by omega) (by omega)
                                      refine lv_lload hx hb dX0_run_410 (lv_at hl 0 rfl) ?_
                                      obtain ⟨_, hA10000⟩ := op_1 hI hq9935 (th_ne hG0 hq9935 (show (8 : Nat) ≠ 1 by decide))
                                      refine th_last hx hb hK hA10000 1 rfl hS ⟨_, hq9935⟩ (iv_in (X := v9998.toInt) rfl (by omega) (by omega)) dX0_run_412 (fun H locs hA10000 oq hS => ?_)
                                      have hI := th_I.put hI hq9935 hA10000 ok_1 oq
                                      have hO := hO.kept (oq _ (fun z => th_ne hG0 hq9935 (show (8 : Nat) ≠ 1 by decide) (List.mem_singleton.mpr z.symm)))
                                      obtain ⟨v10001, e10002⟩ : ∃ y : Int32, y = v9863 + (1) := ⟨_, rfl⟩
                                      have tv10001 : v10001.toInt = v9863.toInt + (1) := iv_add rfl (by decide) e10002 (by omega) (by omega)
                                      refine lv_iinc (v := v10001) (lv' := [(5, .int v10001), (12, .long l9983), (10, .long l9943), (8, .long l9940), (4, .int v9930), (7, .int v9890), (6, .int v9886), (0, .ref h0), (1, .ref p1), (2, .int x2), (3, .int x3)]) hx hb dX0_run_413 hl (k := 6) rfl (by rw [e10002]; rfl) (by decide) rfl (fun ls hl => ?_)
                                      refine lv_goto (tgt := 6) hx hb dX0_run_416 (by decide) ?_
                                      have hI := th_I.close hI hG0 hO (ok_8 hq9933 hq9935)
                                      exact ih_6 _ (by omega) H locs ls v10001 v9930 rfl (lv_sub hl [0, 4, 7, 8, 9, 10] rfl) ⟨by omega, by omega⟩ hI hS
                                    · skip
                                      have k10003 := iv_nle (X := (0)) (Y := v9994.toInt) (by decide) rfl c9996
                                      refine lv_iconst (v := 0) hx hb dX0_run_400 (by decide) ?_
                                      have hI := th_I.close hI hG0 hO (ok_8 hq9933 hq9935)
                                      have hpost : 0 ≤ (0 : Int32).toInt ∧ (0 : Int32).toInt ≤ 1 := by first | decide | omega
                                      rw [hQ]
                                      exact W.zret (v := 0) hx hb hr (by decide) (fun t ht hW => ⟨⟨0, (), rfl, hpost, by rw [ht]; exact hI, hN.warm hW, va_K.moved hW.alike hK⟩, hS.F ht⟩) hS.2.2 dX0_run_401
                              · skip
                                have k10004 := iv_eq (X := v9886.toInt) (Y := (4)) rfl (by decide) c9957
                                refine lv_lload hx hb dX0_run_353 (lv_at hl 1 rfl) ?_
                                refine lv_lload hx hb dX0_run_355 (lv_at hl 0 rfl) ?_
                                refine lv_lmul hx hb dX0_run_357 ?_
                                refine lv_topl (fun l10005 e10006 => ?_)
                                refine lv_goto (tgt := 380) hx hb dX0_run_358 (by decide) ?_
                                refine lv_lstore (lv' := [(12, .long l10005), (10, .long l9943), (8, .long l9940), (4, .int v9930), (7, .int v9890), (6, .int v9886), (5, .int v9863), (0, .ref h0), (1, .ref p1), (2, .int x2), (3, .int x3)]) hx hb dX0_run_380 hl (by decide) rfl (fun ls hl => ?_)
                                refine lv_lload hx hb dX0_run_382 (lv_at hl 0 rfl) ?_
                                refine lv_ldc2 hx hb hown (hts _ (tb_c wd_579)) dX0_run_384 ?_
                                refine lv_topl (fun l10007 e10008 => ?_)
                                refine W.lcmp hx hb dX0_run_387 ?_
                                refine lv_topi (fun v10009 e10010 => ?_)
                                have tv10009 := iv_cmp e10010
                                refine lv_if_gt (tgt := 400) hx hb dX0_run_388 (by decide) (fun c10011 => ?_) (fun c10011 => ?_)
                                · skip
                                  have k10012 := iv_lt (X := (0)) (Y := v10009.toInt) (by decide) rfl c10011
                                  refine lv_iconst (v := 0) hx hb dX0_run_400 (by decide) ?_
                                  have hI := th_I.close hI hG0 hO (ok_8 hq9933 hq9935)
                                  have hpost : 0 ≤ (0 : Int32).toInt ∧ (0 : Int32).toInt ≤ 1 := by first | decide | omega
                                  rw [hQ]
                                  exact W.zret (v := 0) hx hb hr (by decide) (fun t ht hW => ⟨⟨0, (), rfl, hpost, by rw [ht]; exact hI, hN.warm hW, va_K.moved hW.alike hK⟩, hS.F ht⟩) hS.2.2 dX0_run_401
                                · skip
                                  have k10013 := iv_nlt (X := (0)) (Y := v10009.toInt) (by decide) rfl c10011
                                  refine lv_lload hx hb dX0_run_391 (lv_at hl 0 rfl) ?_
                                  refine lv_ldc2 hx hb hown (hts _ (tb_c wd_580)) dX0_run_393 ?_
                                  refine lv_topl (fun l10014 e10015 => ?_)
                                  refine W.lcmp hx hb dX0_run_396 ?_
                                  refine lv_topi (fun v10016 e10017 => ?_)
                                  have tv10016 := iv_cmp e10017
                                  refine lv_if_ge (tgt := 402) hx hb dX0_run_397 (by decide) (fun c10018 => ?_) (fun c10018 => ?_)
                                  · skip
                                    have k10019 := iv_le (X := (0)) (Y := v10016.toInt) (by decide) rfl c10018
                                    refine lv_aload_n hx hb dX0_run_402 rfl (lv_at hl 7 rfl) ?_
                                    refine th_get hx hb hts inT0 hown hK hO rfl 1 (by decide) (hts _ (tb_c wd_179)) rfl rfl dX0_run_403 ?_
                                    refine lv_iload hx hb dX0_run_406 (lv_at hl 3 rfl) ?_
                                    refine lv_iconst (v := 1) hx hb dX0_run_408 (by decide) ?_
                                    refine lv_isub hx hb dX0_run_409 ?_
                                    refine lv_topi (fun v10020 e10021 => ?_)
                                    have tv10020 : v10020.toInt = v9930.toInt - (1) := iv_sub rfl (by decide) e10021 (by omega) (by omega)
                                    refine lv_lload hx hb dX0_run_410 (lv_at hl 0 rfl) ?_
                                    obtain ⟨_, hA10022⟩ := op_1 hI hq9935 (th_ne hG0 hq9935 (show (8 : Nat) ≠ 1 by decide))
                                    refine th_last hx hb hK hA10022 1 rfl hS ⟨_, hq9935⟩ (iv_in (X := v10020.toInt) rfl (by omega) (by omega)) dX0_run_412 (fun H locs hA10022 oq hS => ?_)
                                    have hI := th_I.put hI hq9935 hA10022 ok_1 oq
                                    have hO := hO.kept (oq _ (fun z => th_ne hG0 hq9935 (show (8 : Nat) ≠ 1 by decide) (List.mem_singleton.mpr z.symm)))
                                    obtain ⟨v10023, e10024⟩ : ∃ y : Int32, y = v9863 + (1) := ⟨_, rfl⟩
                                    have tv10023 : v10023.toInt = v9863.toInt + (1) := iv_add rfl (by decide) e10024 (by omega) (by omega)
                                    refine lv_iinc (v := v10023) (lv' := [(5, .int v10023), (12, .long l10005), (10, .long l9943), (8, .long l9940), (4, .int v9930), (7, .int v9890), (6, .int v9886), (0, .ref h0), (1, .ref p1), (2, .int x2), (3, .int x3)]) hx hb dX0_run_413 hl (k := 6) rfl (by rw [e10024]; rfl) (by decide) rfl (fun ls hl => ?_)
                                    refine lv_goto (tgt := 6) hx hb dX0_run_416 (by decide) ?_
                                    have hI := th_I.close hI hG0 hO (ok_8 hq9933 hq9935)
                                    exact ih_6 _ (by omega) H locs ls v10023 v9930 rfl (lv_sub hl [0, 4, 7, 8, 9, 10] rfl) ⟨by omega, by omega⟩ hI hS
                                  · skip
                                    have k10025 := iv_nle (X := (0)) (Y := v10016.toInt) (by decide) rfl c10018
                                    refine lv_iconst (v := 0) hx hb dX0_run_400 (by decide) ?_
                                    have hI := th_I.close hI hG0 hO (ok_8 hq9933 hq9935)
                                    have hpost : 0 ≤ (0 : Int32).toInt ∧ (0 : Int32).toInt ≤ 1 := by first | decide | omega
                                    rw [hQ]
                                    exact W.zret (v := 0) hx hb hr (by decide) (fun t ht hW => ⟨⟨0, (), rfl, hpost, by rw [ht]; exact hI, hN.warm hW, va_K.moved hW.alike hK⟩, hS.F ht⟩) hS.2.2 dX0_run_401
                            · skip
                              have k10026 := iv_eq (X := v9886.toInt) (Y := (3)) rfl (by decide) c9955
                              refine lv_lload hx hb dX0_run_339 (lv_at hl 1 rfl) ?_
                              refine lv_lload hx hb dX0_run_341 (lv_at hl 0 rfl) ?_
                              refine lv_lsub hx hb dX0_run_343 ?_
                              refine lv_topl (fun l10027 e10028 => ?_)
                              refine lv_goto (tgt := 380) hx hb dX0_run_344 (by decide) ?_
                              refine lv_lstore (lv' := [(12, .long l10027), (10, .long l9943), (8, .long l9940), (4, .int v9930), (7, .int v9890), (6, .int v9886), (5, .int v9863), (0, .ref h0), (1, .ref p1), (2, .int x2), (3, .int x3)]) hx hb dX0_run_380 hl (by decide) rfl (fun ls hl => ?_)
                              refine lv_lload hx hb dX0_run_382 (lv_at hl 0 rfl) ?_
                              refine lv_ldc2 hx hb hown (hts _ (tb_c wd_579)) dX0_run_384 ?_
                              refine lv_topl (fun l10029 e10030 => ?_)
                              refine W.lcmp hx hb dX0_run_387 ?_
                              refine lv_topi (fun v10031 e10032 => ?_)
                              have tv10031 := iv_cmp e10032
                              refine lv_if_gt (tgt := 400) hx hb dX0_run_388 (by decide) (fun c10033 => ?_) (fun c10033 => ?_)
                              · skip
                                have k10034 := iv_lt (X := (0)) (Y := v10031.toInt) (by decide) rfl c10033
                                refine lv_iconst (v := 0) hx hb dX0_run_400 (by decide) ?_
                                have hI := th_I.close hI hG0 hO (ok_8 hq9933 hq9935)
                                have hpost : 0 ≤ (0 : Int32).toInt ∧ (0 : Int32).toInt ≤ 1 := by first | decide | omega
                                rw [hQ]
                                exact W.zret (v := 0) hx hb hr (by decide) (fun t ht hW => ⟨⟨0, (), rfl, hpost, by rw [ht]; exact hI, hN.warm hW, va_K.moved hW.alike hK⟩, hS.F ht⟩) hS.2.2 dX0_run_401
                              · skip
                                have k10035 := iv_nlt (X := (0)) (Y := v10031.toInt) (by decide) rfl c10033
                                refine lv_lload hx hb dX0_run_391 (lv_at hl 0 rfl) ?_
                                refine lv_ldc2 hx hb hown (hts _ (tb_c wd_580)) dX0_run_393 ?_
                                refine lv_topl (fun l10036 e10037 => ?_)
                                refine W.lcmp hx hb dX0_run_396 ?_
                                refine lv_topi (fun v10038 e10039 => ?_)
                                have tv10038 := iv_cmp e10039
                                refine lv_if_ge (tgt := 402) hx hb dX0_run_397 (by decide) (fun c10040 => ?_) (fun c10040 => ?_)
                                · skip
                                  have k10041 := iv_le (X := (0)) (Y := v10038.toInt) (by decide) rfl c10040
                                  refine lv_aload_n hx hb dX0_run_402 rfl (lv_at hl 7 rfl) ?_
                                  refine th_get hx hb hts inT0 hown hK hO rfl 1 (by decide) (hts _ (tb_c wd_179)) rfl rfl dX0_run_403 ?_
                                  refine lv_iload hx hb dX0_run_406 (lv_at hl 3 rfl) ?_
                                  refine lv_iconst (v := 1) hx hb dX0_run_408 (by decide) ?_
                                  refine lv_isub hx hb dX0_run_409 ?_
                                  refine lv_topi (fun v10042 e10043 => ?_)
                                  have tv10042 : v10042.toInt = v9930.toInt - (1) := iv_sub rfl (by decide) e10043 (by omega) (by omega)
                                  refine lv_lload hx hb dX0_run_410 (lv_at hl 0 rfl) ?_
                                  obtain ⟨_, hA10044⟩ := op_1 hI hq9935 (th_ne hG0 hq9935 (show (8 : Nat) ≠ 1 by decide))
                                  refine th_last hx hb hK hA10044 1 rfl hS ⟨_, hq9935⟩ (iv_in (X := v10042.toInt) rfl (by omega) (by omega)) dX0_run_412 (fun H locs hA10044 oq hS => ?_)
                                  have hI := th_I.put hI hq9935 hA10044 ok_1 oq
                                  have hO := hO.kept (oq _ (fun z => th_ne hG0 hq9935 (show (8 : Nat) ≠ 1 by decide) (List.mem_singleton.mpr z.symm)))
                                  obtain ⟨v10045, e10046⟩ : ∃ y : Int32, y = v9863 + (1) := ⟨_, rfl⟩
                                  have tv10045 : v10045.toInt = v9863.toInt + (1) := iv_add rfl (by decide) e10046 (by omega) (by omega)
                                  refine lv_iinc (v := v10045) (lv' := [(5, .int v10045), (12, .long l10027), (10, .long l9943), (8, .long l9940), (4, .int v9930), (7, .int v9890), (6, .int v9886), (0, .ref h0), (1, .ref p1), (2, .int x2), (3, .int x3)]) hx hb dX0_run_413 hl (k := 6) rfl (by rw [e10046]; rfl) (by decide) rfl (fun ls hl => ?_)
                                  refine lv_goto (tgt := 6) hx hb dX0_run_416 (by decide) ?_
                                  have hI := th_I.close hI hG0 hO (ok_8 hq9933 hq9935)
                                  exact ih_6 _ (by omega) H locs ls v10045 v9930 rfl (lv_sub hl [0, 4, 7, 8, 9, 10] rfl) ⟨by omega, by omega⟩ hI hS
                                · skip
                                  have k10047 := iv_nle (X := (0)) (Y := v10038.toInt) (by decide) rfl c10040
                                  refine lv_iconst (v := 0) hx hb dX0_run_400 (by decide) ?_
                                  have hI := th_I.close hI hG0 hO (ok_8 hq9933 hq9935)
                                  have hpost : 0 ≤ (0 : Int32).toInt ∧ (0 : Int32).toInt ≤ 1 := by first | decide | omega
                                  rw [hQ]
                                  exact W.zret (v := 0) hx hb hr (by decide) (fun t ht hW => ⟨⟨0, (), rfl, hpost, by rw [ht]; exact hI, hN.warm hW, va_K.moved hW.alike hK⟩, hS.F ht⟩) hS.2.2 dX0_run_401
                          · skip
                            have k10048 := iv_eq (X := v9886.toInt) (Y := (2)) rfl (by decide) c9953
                            refine lv_lload hx hb dX0_run_325 (lv_at hl 1 rfl) ?_
                            refine lv_lload hx hb dX0_run_327 (lv_at hl 0 rfl) ?_
                            refine lv_ladd hx hb dX0_run_329 ?_
                            refine lv_topl (fun l10049 e10050 => ?_)
                            refine lv_goto (tgt := 380) hx hb dX0_run_330 (by decide) ?_
                            refine lv_lstore (lv' := [(12, .long l10049), (10, .long l9943), (8, .long l9940), (4, .int v9930), (7, .int v9890), (6, .int v9886), (5, .int v9863), (0, .ref h0), (1, .ref p1), (2, .int x2), (3, .int x3)]) hx hb dX0_run_380 hl (by decide) rfl (fun ls hl => ?_)
                            refine lv_lload hx hb dX0_run_382 (lv_at hl 0 rfl) ?_
                            refine lv_ldc2 hx hb hown (hts _ (tb_c wd_579)) dX0_run_384 ?_
                            refine lv_topl (fun l10051 e10052 => ?_)
                            refine W.lcmp hx hb dX0_run_387 ?_
                            refine lv_topi (fun v10053 e10054 => ?_)
                            have tv10053 := iv_cmp e10054
                            refine lv_if_gt (tgt := 400) hx hb dX0_run_388 (by decide) (fun c10055 => ?_) (fun c10055 => ?_)
                            · skip
                              have k10056 := iv_lt (X := (0)) (Y := v10053.toInt) (by decide) rfl c10055
                              refine lv_iconst (v := 0) hx hb dX0_run_400 (by decide) ?_
                              have hI := th_I.close hI hG0 hO (ok_8 hq9933 hq9935)
                              have hpost : 0 ≤ (0 : Int32).toInt ∧ (0 : Int32).toInt ≤ 1 := by first | decide | omega
                              rw [hQ]
                              exact W.zret (v := 0) hx hb hr (by decide) (fun t ht hW => ⟨⟨0, (), rfl, hpost, by rw [ht]; exact hI, hN.warm hW, va_K.moved hW.alike hK⟩, hS.F ht⟩) hS.2.2 dX0_run_401
                            · skip
                              have k10057 := iv_nlt (X := (0)) (Y := v10053.toInt) (by decide) rfl c10055
                              refine lv_lload hx hb dX0_run_391 (lv_at hl 0 rfl) ?_
                              refine lv_ldc2 hx hb hown (hts _ (tb_c wd_580)) dX0_run_393 ?_
                              refine lv_topl (fun l10058 e10059 => ?_)
                              refine W.lcmp hx hb dX0_run_396 ?_
                              refine lv_topi (fun v10060 e10061 => ?_)
                              have tv10060 := iv_cmp e10061
                              refine lv_if_ge (tgt := 402) hx hb dX0_run_397 (by decide) (fun c10062 => ?_) (fun c10062 => ?_)
                              · skip
                                have k10063 := iv_le (X := (0)) (Y := v10060.toInt) (by decide) rfl c10062
                                refine lv_aload_n hx hb dX0_run_402 rfl (lv_at hl 7 rfl) ?_
                                refine th_get hx hb hts inT0 hown hK hO rfl 1 (by decide) (hts _ (tb_c wd_179)) rfl rfl dX0_run_403 ?_
                                refine lv_iload hx hb dX0_run_406 (lv_at hl 3 rfl) ?_
                                refine lv_iconst (v := 1) hx hb dX0_run_408 (by decide) ?_
                                refine lv_isub hx hb dX0_run_409 ?_
                                refine lv_topi (fun v10064 e10065 => ?_)
                                have tv10064 : v10064.toInt = v9930.toInt - (1) := iv_sub rfl (by decide) e10065 (by omega) (by omega)
                                refine lv_lload hx hb dX0_run_410 (lv_at hl 0 rfl) ?_
                                obtain ⟨_, hA10066⟩ := op_1 hI hq9935 (th_ne hG0 hq9935 (show (8 : Nat) ≠ 1 by decide))
                                refine th_last hx hb hK hA10066 1 rfl hS ⟨_, hq9935⟩ (iv_in (X := v10064.toInt) rfl (by omega) (by omega)) dX0_run_412 (fun H locs hA10066 oq hS => ?_)
                                have hI := th_I.put hI hq9935 hA10066 ok_1 oq
                                have hO := hO.kept (oq _ (fun z => th_ne hG0 hq9935 (show (8 : Nat) ≠ 1 by decide) (List.mem_singleton.mpr z.symm)))
                                obtain ⟨v10067, e10068⟩ : ∃ y : Int32, y = v9863 + (1) := ⟨_, rfl⟩
                                have tv10067 : v10067.toInt = v9863.toInt + (1) := iv_add rfl (by decide) e10068 (by omega) (by omega)
                                refine lv_iinc (v := v10067) (lv' := [(5, .int v10067), (12, .long l10049), (10, .long l9943), (8, .long l9940), (4, .int v9930), (7, .int v9890), (6, .int v9886), (0, .ref h0), (1, .ref p1), (2, .int x2), (3, .int x3)]) hx hb dX0_run_413 hl (k := 6) rfl (by rw [e10068]; rfl) (by decide) rfl (fun ls hl => ?_)
                                refine lv_goto (tgt := 6) hx hb dX0_run_416 (by decide) ?_
                                have hI := th_I.close hI hG0 hO (ok_8 hq9933 hq9935)
                                exact ih_6 _ (by omega) H locs ls v10067 v9930 rfl (lv_sub hl [0, 4, 7, 8, 9, 10] rfl) ⟨by omega, by omega⟩ hI hS
                              · skip
                                have k10069 := iv_nle (X := (0)) (Y := v10060.toInt) (by decide) rfl c10062
                                refine lv_iconst (v := 0) hx hb dX0_run_400 (by decide) ?_
                                have hI := th_I.close hI hG0 hO (ok_8 hq9933 hq9935)
                                have hpost : 0 ≤ (0 : Int32).toInt ∧ (0 : Int32).toInt ≤ 1 := by first | decide | omega
                                rw [hQ]
                                exact W.zret (v := 0) hx hb hr (by decide) (fun t ht hW => ⟨⟨0, (), rfl, hpost, by rw [ht]; exact hI, hN.warm hW, va_K.moved hW.alike hK⟩, hS.F ht⟩) hS.2.2 dX0_run_401
                        · skip
                          have k10070 := iv_eq (X := v9949.toInt) (Y := (0)) rfl (by decide) c9951
                          refine lv_iload hx hb dX0_run_304 (lv_at hl 4 rfl) ?_
                          refine lv_iconst (v := 5) hx hb dX0_run_306 (by decide) ?_
                          refine lv_icmp_eq (tgt := 317) hx hb dX0_run_307 (by decide) (fun c10071 => ?_) (fun c10071 => ?_)
                          · skip
                            have k10072 := iv_eq (X := v9886.toInt) (Y := (5)) rfl (by decide) c10071
                            refine lv_iconst (v := 0) hx hb dX0_run_317 (by decide) ?_
                            have hI := th_I.close hI hG0 hO (ok_8 hq9933 hq9935)
                            have hpost : 0 ≤ (0 : Int32).toInt ∧ (0 : Int32).toInt ≤ 1 := by first | decide | omega
                            rw [hQ]
                            exact W.zret (v := 0) hx hb hr (by decide) (fun t ht hW => ⟨⟨0, (), rfl, hpost, by rw [ht]; exact hI, hN.warm hW, va_K.moved hW.alike hK⟩, hS.F ht⟩) hS.2.2 dX0_run_318
                          · skip
                            have k10073 := iv_ne (X := v9886.toInt) (Y := (5)) rfl (by decide) c10071
                            refine lv_iload hx hb dX0_run_310 (lv_at hl 4 rfl) ?_
                            refine lv_bipush (v := 6) hx hb dX0_run_312 (by decide) ?_
                            refine lv_icmp_ne (tgt := 319) hx hb dX0_run_314 (by decide) (fun c10074 => ?_) (fun c10074 => ?_)
                            · skip
                              have k10075 := iv_ne (X := v9886.toInt) (Y := (6)) rfl (by decide) c10074
                              refine lv_iload hx hb dX0_run_319 (lv_at hl 4 rfl) ?_
                              refine lv_iconst (v := 2) hx hb dX0_run_321 (by decide) ?_
                              refine lv_icmp_ne (tgt := 333) hx hb dX0_run_322 (by decide) (fun c10076 => ?_) (fun c10076 => ?_)
                              · skip
                                have k10077 := iv_ne (X := v9886.toInt) (Y := (2)) rfl (by decide) c10076
                                refine lv_iload hx hb dX0_run_333 (lv_at hl 4 rfl) ?_
                                refine lv_iconst (v := 3) hx hb dX0_run_335 (by decide) ?_
                                refine lv_icmp_ne (tgt := 347) hx hb dX0_run_336 (by decide) (fun c10078 => ?_) (fun c10078 => ?_)
                                · skip
                                  have k10079 := iv_ne (X := v9886.toInt) (Y := (3)) rfl (by decide) c10078
                                  refine lv_iload hx hb dX0_run_347 (lv_at hl 4 rfl) ?_
                                  refine lv_iconst (v := 4) hx hb dX0_run_349 (by decide) ?_
                                  refine lv_icmp_ne (tgt := 361) hx hb dX0_run_350 (by decide) (fun c10080 => ?_) (fun c10080 => ?_)
                                  · skip
                                    have k10081 := iv_ne (X := v9886.toInt) (Y := (4)) rfl (by decide) c10080
                                    refine lv_iload hx hb dX0_run_361 (lv_at hl 4 rfl) ?_
                                    refine lv_iconst (v := 5) hx hb dX0_run_363 (by decide) ?_
                                    refine lv_icmp_ne (tgt := 375) hx hb dX0_run_364 (by decide) (fun c10082 => ?_) (fun c10082 => ?_)
                                    · skip
                                      have k10083 := iv_ne (X := v9886.toInt) (Y := (5)) rfl (by decide) c10082
                                      exfalso; omega
                                    · skip
                                      have k10084 := iv_eq (X := v9886.toInt) (Y := (5)) rfl (by decide) c10082
                                      refine lv_lload hx hb dX0_run_367 (lv_at hl 1 rfl) ?_
                                      refine lv_lload hx hb dX0_run_369 (lv_at hl 0 rfl) ?_
                                      refine lv_ldiv hx hb dX0_run_371 (fun h0 => by have := iv_cmp0 e9950 h0 e9948; omega) ?_
                                      refine lv_topl (fun l10085 e10086 => ?_)
                                      refine lv_goto (tgt := 380) hx hb dX0_run_372 (by decide) ?_
                                      refine lv_lstore (lv' := [(12, .long l10085), (10, .long l9943), (8, .long l9940), (4, .int v9930), (7, .int v9890), (6, .int v9886), (5, .int v9863), (0, .ref h0), (1, .ref p1), (2, .int x2), (3, .int x3)]) hx hb dX0_run_380 hl (by decide) rfl (fun ls hl => ?_)
                                      refine lv_lload hx hb dX0_run_382 (lv_at hl 0 rfl) ?_
                                      refine lv_ldc2 hx hb hown (hts _ (tb_c wd_579)) dX0_run_384 ?_
                                      refine lv_topl (fun l10087 e10088 => ?_)
                                      refine W.lcmp hx hb dX0_run_387 ?_
                                      refine lv_topi (fun v10089 e10090 => ?_)
                                      have tv10089 := iv_cmp e10090
                                      refine lv_if_gt (tgt := 400) hx hb dX0_run_388 (by decide) (fun c10091 => ?_) (fun c10091 => ?_)
                                      · skip
                                        have k10092 := iv_lt (X := (0)) (Y := v10089.toInt) (by decide) rfl c10091
                                        refine lv_iconst (v := 0) hx hb dX0_run_400 (by decide) ?_
                                        have hI := th_I.close hI hG0 hO (ok_8 hq9933 hq9935)
                                        have hpost : 0 ≤ (0 : Int32).toInt ∧ (0 : Int32).toInt ≤ 1 := by first | decide | omega
                                        rw [hQ]
                                        exact W.zret (v := 0) hx hb hr (by decide) (fun t ht hW => ⟨⟨0, (), rfl, hpost, by rw [ht]; exact hI, hN.warm hW, va_K.moved hW.alike hK⟩, hS.F ht⟩) hS.2.2 dX0_run_401
                                      · skip
                                        have k10093 := iv_nlt (X := (0)) (Y := v10089.toInt) (by decide) rfl c10091
                                        refine lv_lload hx hb dX0_run_391 (lv_at hl 0 rfl) ?_
                                        refine lv_ldc2 hx hb hown (hts _ (tb_c wd_580)) dX0_run_393 ?_
                                        refine lv_topl (fun l10094 e10095 => ?_)
                                        refine W.lcmp hx hb dX0_run_396 ?_
                                        refine lv_topi (fun v10096 e10097 => ?_)
                                        have tv10096 := iv_cmp e10097
                                        refine lv_if_ge (tgt := 402) hx hb dX0_run_397 (by decide) (fun c10098 => ?_) (fun c10098 => ?_)
                                        · skip
                                          have k10099 := iv_le (X := (0)) (Y := v10096.toInt) (by decide) rfl c10098
                                          refine lv_aload_n hx hb dX0_run_402 rfl (lv_at hl 7 rfl) ?_
                                          refine th_get hx hb hts inT0 hown hK hO rfl 1 (by decide) (hts _ (tb_c wd_179)) rfl rfl dX0_run_403 ?_
                                          refine lv_iload hx hb dX0_run_406 (lv_at hl 3 rfl) ?_
                                          refine lv_iconst (v := 1) hx hb dX0_run_408 (by decide) ?_
                                          refine lv_isub hx hb dX0_run_409 ?_
                                          refine lv_topi (fun v10100 e10101 => ?_)
                                          have tv10100 : v10100.toInt = v9930.toInt - (1) := iv_sub rfl (by decide) e10101 (by omega) (by omega)
                                          refine lv_lload hx hb dX0_run_410 (lv_at hl 0 rfl) ?_
                                          obtain ⟨_, hA10102⟩ := op_1 hI hq9935 (th_ne hG0 hq9935 (show (8 : Nat) ≠ 1 by decide))
                                          refine th_last hx hb hK hA10102 1 rfl hS ⟨_, hq9935⟩ (iv_in (X := v10100.toInt) rfl (by omega) (by omega)) dX0_run_412 (fun H locs hA10102 oq hS => ?_)
                                          have hI := th_I.put hI hq9935 hA10102 ok_1 oq
                                          have hO := hO.kept (oq _ (fun z => th_ne hG0 hq9935 (show (8 : Nat) ≠ 1 by decide) (List.mem_singleton.mpr z.symm)))
                                          obtain ⟨v10103, e10104⟩ : ∃ y : Int32, y = v9863 + (1) := ⟨_, rfl⟩
                                          have tv10103 : v10103.toInt = v9863.toInt + (1) := iv_add rfl (by decide) e10104 (by omega) (by omega)
                                          refine lv_iinc (v := v10103) (lv' := [(5, .int v10103), (12, .long l10085), (10, .long l9943), (8, .long l9940), (4, .int v9930), (7, .int v9890), (6, .int v9886), (0, .ref h0), (1, .ref p1), (2, .int x2), (3, .int x3)]) hx hb dX0_run_413 hl (k := 6) rfl (by rw [e10104]; rfl) (by decide) rfl (fun ls hl => ?_)
                                          refine lv_goto (tgt := 6) hx hb dX0_run_416 (by decide) ?_
                                          have hI := th_I.close hI hG0 hO (ok_8 hq9933 hq9935)
                                          exact ih_6 _ (by omega) H locs ls v10103 v9930 rfl (lv_sub hl [0, 4, 7, 8, 9, 10] rfl) ⟨by omega, by omega⟩ hI hS
                                        · skip
                                          have k10105 := iv_nle (X := (0)) (Y := v10096.toInt) (by decide) rfl c10098
                                          refine lv_iconst (v := 0) hx hb dX0_run_400 (by decide) ?_
                                          have hI := th_I.close hI hG0 hO (ok_8 hq9933 hq9935)
                                          have hpost : 0 ≤ (0 : Int32).toInt ∧ (0 : Int32).toInt ≤ 1 := by first | decide | omega
                                          rw [hQ]
                                          exact W.zret (v := 0) hx hb hr (by decide) (fun t ht hW => ⟨⟨0, (), rfl, hpost, by rw [ht]; exact hI, hN.warm hW, va_K.moved hW.alike hK⟩, hS.F ht⟩) hS.2.2 dX0_run_401
                                  · skip
                                    have k10106 := iv_eq (X := v9886.toInt) (Y := (4)) rfl (by decide) c10080
                                    refine lv_lload hx hb dX0_run_353 (lv_at hl 1 rfl) ?_
                                    refine lv_lload hx hb dX0_run_355 (lv_at hl 0 rfl) ?_
                                    refine lv_lmul hx hb dX0_run_357 ?_
                                    refine lv_topl (fun l10107 e10108 => ?_)
                                    refine lv_goto (tgt := 380) hx hb dX0_run_358 (by decide) ?_
                                    refine lv_lstore (lv' := [(12, .long l10107), (10, .long l9943), (8, .long l9940), (4, .int v9930), (7, .int v9890), (6, .int v9886), (5, .int v9863), (0, .ref h0), (1, .ref p1), (2, .int x2), (3, .int x3)]) hx hb dX0_run_380 hl (by decide) rfl (fun ls hl => ?_)
                                    refine lv_lload hx hb dX0_run_382 (lv_at hl 0 rfl) ?_
                                    refine lv_ldc2 hx hb hown (hts _ (tb_c wd_579)) dX0_run_384 ?_
                                    refine lv_topl (fun l10109 e10110 => ?_)
                                    refine W.lcmp hx hb dX0_run_387 ?_
                                    refine lv_topi (fun v10111 e10112 => ?_)
                                    have tv10111 := iv_cmp e10112
                                    refine lv_if_gt (tgt := 400) hx hb dX0_run_388 (by decide) (fun c10113 => ?_) (fun c10113 => ?_)
                                    · skip
                                      have k10114 := iv_lt (X := (0)) (Y := v10111.toInt) (by decide) rfl c10113
                                      refine lv_iconst (v := 0) hx hb dX0_run_400 (by decide) ?_
                                      have hI := th_I.close hI hG0 hO (ok_8 hq9933 hq9935)
                                      have hpost : 0 ≤ (0 : Int32).toInt ∧ (0 : Int32).toInt ≤ 1 := by first | decide | omega
                                      rw [hQ]
                                      exact W.zret (v := 0) hx hb hr (by decide) (fun t ht hW => ⟨⟨0, (), rfl, hpost, by rw [ht]; exact hI, hN.warm hW, va_K.moved hW.alike hK⟩, hS.F ht⟩) hS.2.2 dX0_run_401
                                    · skip
                                      have k10115 := iv_nlt (X := (0)) (Y := v10111.toInt) (by decide) rfl c10113
                                      refine lv_lload hx hb dX0_run_391 (lv_at hl 0 rfl) ?_
                                      refine lv_ldc2 hx hb hown (hts _ (tb_c wd_580)) dX0_run_393 ?_
                                      refine lv_topl (fun l10116 e10117 => ?_)
                                      refine W.lcmp hx hb dX0_run_396 ?_
                                      refine lv_topi (fun v10118 e10119 => ?_)
                                      have tv10118 := iv_cmp e10119
                                      refine lv_if_ge (tgt := 402) hx hb dX0_run_397 (by decide) (fun c10120 => ?_) (fun c10120 => ?_)
                                      · skip
                                        have k10121 := iv_le (X := (0)) (Y := v10118.toInt) (by decide) rfl c10120
                                        refine lv_aload_n hx hb dX0_run_402 rfl (lv_at hl 7 rfl) ?_
                                        refine th_get hx hb hts inT0 hown hK hO rfl 1 (by decide) (hts _ (tb_c wd_179)) rfl rfl dX0_run_403 ?_
                                        refine lv_iload hx hb dX0_run_406 (lv_at hl 3 rfl) ?_
                                        refine lv_iconst (v := 1) hx hb dX0_run_408 (by decide) ?_
                                        refine lv_isub hx hb dX0_run_409 ?_
                                        refine lv_topi (fun v10122 e10123 => ?_)
                                        have tv10122 : v10122.toInt = v9930.toInt - (1) := iv_sub rfl (by decide) e10123 (by omega) (by omega)
                                        refine lv_lload hx hb dX0_run_410 (lv_at hl 0 rfl) ?_
                                        obtain ⟨_, hA10124⟩ := op_1 hI hq9935 (th_ne hG0 hq9935 (show (8 : Nat) ≠ 1 by decide))
                                        refine th_last hx hb hK hA10124 1 rfl hS ⟨_, hq9935⟩ (iv_in (X := v10122.toInt) rfl (by omega) (by omega)) dX0_run_412 (fun H locs hA10124 oq hS => ?_)
                                        have hI := th_I.put hI hq9935 hA10124 ok_1 oq
                                        have hO := hO.kept (oq _ (fun z => th_ne hG0 hq9935 (show (8 : Nat) ≠ 1 by decide) (List.mem_singleton.mpr z.symm)))
                                        obtain ⟨v10125, e10126⟩ : ∃ y : Int32, y = v9863 + (1) := ⟨_, rfl⟩
                                        have tv10125 : v10125.toInt = v9863.toInt + (1) := iv_add rfl (by decide) e10126 (by omega) (by omega)
                                        refine lv_iinc (v := v10125) (lv' := [(5, .int v10125), (12, .long l10107), (10, .long l9943), (8, .long l9940), (4, .int v9930), (7, .int v9890), (6, .int v9886), (0, .ref h0), (1, .ref p1), (2, .int x2), (3, .int x3)]) hx hb dX0_run_413 hl (k := 6) rfl (by rw [e10126]; rfl) (by decide) rfl (fun ls hl => ?_)
                                        refine lv_goto (tgt := 6) hx hb dX0_run_416 (by decide) ?_
                                        have hI := th_I.close hI hG0 hO (ok_8 hq9933 hq9935)
                                        exact ih_6 _ (by omega) H locs ls v10125 v9930 rfl (lv_sub hl [0, 4, 7, 8, 9, 10] rfl) ⟨by omega, by omega⟩ hI hS
                                      · skip
                                        have k10127 := iv_nle (X := (0)) (Y := v10118.toInt) (by decide) rfl c10120
                                        refine lv_iconst (v := 0) hx hb dX0_run_400 (by decide) ?_
                                        have hI := th_I.close hI hG0 hO (ok_8 hq9933 hq9935)
                                        have hpost : 0 ≤ (0 : Int32).toInt ∧ (0 : Int32).toInt ≤ 1 := by first | decide | omega
                                        rw [hQ]
                                        exact W.zret (v := 0) hx hb hr (by decide) (fun t ht hW => ⟨⟨0, (), rfl, hpost, by rw [ht]; exact hI, hN.warm hW, va_K.moved hW.alike hK⟩, hS.F ht⟩) hS.2.2 dX0_run_401
                                · skip
                                  have k10128 := iv_eq (X := v9886.toInt) (Y := (3)) rfl (by decide) c10078
                                  refine lv_lload hx hb dX0_run_339 (lv_at hl 1 rfl) ?_
                                  refine lv_lload hx hb dX0_run_341 (lv_at hl 0 rfl) ?_
                                  refine lv_lsub hx hb dX0_run_343 ?_
                                  refine lv_topl (fun l10129 e10130 => ?_)
                                  refine lv_goto (tgt := 380) hx hb dX0_run_344 (by decide) ?_
                                  refine lv_lstore (lv' := [(12, .long l10129), (10, .long l9943), (8, .long l9940), (4, .int v9930), (7, .int v9890), (6, .int v9886), (5, .int v9863), (0, .ref h0), (1, .ref p1), (2, .int x2), (3, .int x3)]) hx hb dX0_run_380 hl (by decide) rfl (fun ls hl => ?_)
                                  refine lv_lload hx hb dX0_run_382 (lv_at hl 0 rfl) ?_
                                  refine lv_ldc2 hx hb hown (hts _ (tb_c wd_579)) dX0_run_384 ?_
                                  refine lv_topl (fun l10131 e10132 => ?_)
                                  refine W.lcmp hx hb dX0_run_387 ?_
                                  refine lv_topi (fun v10133 e10134 => ?_)
                                  have tv10133 := iv_cmp e10134
                                  refine lv_if_gt (tgt := 400) hx hb dX0_run_388 (by decide) (fun c10135 => ?_) (fun c10135 => ?_)
                                  · skip
                                    have k10136 := iv_lt (X := (0)) (Y := v10133.toInt) (by decide) rfl c10135
                                    refine lv_iconst (v := 0) hx hb dX0_run_400 (by decide) ?_
                                    have hI := th_I.close hI hG0 hO (ok_8 hq9933 hq9935)
                                    have hpost : 0 ≤ (0 : Int32).toInt ∧ (0 : Int32).toInt ≤ 1 := by first | decide | omega
                                    rw [hQ]
                                    exact W.zret (v := 0) hx hb hr (by decide) (fun t ht hW => ⟨⟨0, (), rfl, hpost, by rw [ht]; exact hI, hN.warm hW, va_K.moved hW.alike hK⟩, hS.F ht⟩) hS.2.2 dX0_run_401
                                  · skip
                                    have k10137 := iv_nlt (X := (0)) (Y := v10133.toInt) (by decide) rfl c10135
                                    refine lv_lload hx hb dX0_run_391 (lv_at hl 0 rfl) ?_
                                    refine lv_ldc2 hx hb hown (hts _ (tb_c wd_580)) dX0_run_393 ?_
                                    refine lv_topl (fun l10138 e10139 => ?_)
                                    refine W.lcmp hx hb dX0_run_396 ?_
                                    refine lv_topi (fun v10140 e10141 => ?_)
                                    have tv10140 := iv_cmp e10141
                                    refine lv_if_ge (tgt := 402) hx hb dX0_run_397 (by decide) (fun c10142 => ?_) (fun c10142 => ?_)
                                    · skip
                                      have k10143 := iv_le (X := (0)) (Y := v10140.toInt) (by decide) rfl c10142
                                      refine lv_aload_n hx hb dX0_run_402 rfl (lv_at hl 7 rfl) ?_
                                      refine th_get hx hb hts inT0 hown hK hO rfl 1 (by decide) (hts _ (tb_c wd_179)) rfl rfl dX0_run_403 ?_
                                      refine lv_iload hx hb dX0_run_406 (lv_at hl 3 rfl) ?_
                                      refine lv_iconst (v := 1) hx hb dX0_run_408 (by decide) ?_
                                      refine lv_isub hx hb dX0_run_409 ?_
                                      refine lv_topi (fun v10144 e10145 => ?_)
                                      have tv10144 : v10144.toInt = v9930.toInt - (1) := iv_sub rfl (by decide) e10145 (by omega) (by omega)
                                      refine lv_lload hx hb dX0_run_410 (lv_at hl 0 rfl) ?_
                                      obtain ⟨_, hA10146⟩ := op_1 hI hq9935 (th_ne hG0 hq9935 (show (8 : Nat) ≠ 1 by decide))
                                      refine th_last hx hb hK hA10146 1 rfl hS ⟨_, hq9935⟩ (iv_in (X := v10144.toInt) rfl (by omega) (by omega)) dX0_run_412 (fun H locs hA10146 oq hS => ?_)
                                      have hI := th_I.put hI hq9935 hA10146 ok_1 oq
                                      have hO := hO.kept (oq _ (fun z => th_ne hG0 hq9935 (show (8 : Nat) ≠ 1 by decide) (List.mem_singleton.mpr z.symm)))
                                      obtain ⟨v10147, e10148⟩ : ∃ y : Int32, y = v9863 + (1) := ⟨_, rfl⟩
                                      have tv10147 : v10147.toInt = v9863.toInt + (1) := iv_add rfl (by decide) e10148 (by omega) (by omega)
                                      refine lv_iinc (v := v10147) (lv' := [(5, .int v10147), (12, .long l10129), (10, .long l9943), (8, .long l9940), (4, .int v9930), (7, .int v9890), (6, .int v9886), (0, .ref h0), (1, .ref p1), (2, .int x2), (3, .int x3)]) hx hb dX0_run_413 hl (k := 6) rfl (by rw [e10148]; rfl) (by decide) rfl (fun ls hl => ?_)
                                      refine lv_goto (tgt := 6) hx hb dX0_run_416 (by decide) ?_
                                      have hI := th_I.close hI hG0 hO (ok_8 hq9933 hq9935)
                                      exact ih_6 _ (by omega) H locs ls v10147 v9930 rfl (lv_sub hl [0, 4, 7, 8, 9, 10] rfl) ⟨by omega, by omega⟩ hI hS
                                    · skip
                                      have k10149 := iv_nle (X := (0)) (Y := v10140.toInt) (by decide) rfl c10142
                                      refine lv_iconst (v := 0) hx hb dX0_run_400 (by decide) ?_
                                      have hI := th_I.close hI hG0 hO (ok_8 hq9933 hq9935)
                                      have hpost : 0 ≤ (0 : Int32).toInt ∧ (0 : Int32).toInt ≤ 1 := by first | decide | omega
                                      rw [hQ]
                                      exact W.zret (v := 0) hx hb hr (by decide) (fun t ht hW => ⟨⟨0, (), rfl, hpost, by rw [ht]; exact hI, hN.warm hW, va_K.moved hW.alike hK⟩, hS.F ht⟩) hS.2.2 dX0_run_401
                              · skip
                                have k10150 := iv_eq (X := v9886.toInt) (Y := (2)) rfl (by decide) c10076
                                refine lv_lload hx hb dX0_run_325 (lv_at hl 1 rfl) ?_
                                refine lv_lload hx hb dX0_run_327 (lv_at hl 0 rfl) ?_
                                refine lv_ladd hx hb dX0_run_329 ?_
                                refine lv_topl (fun l10151 e10152 => ?_)
                                refine lv_goto (tgt := 380) hx hb dX0_run_330 (by decide) ?_
                                refine lv_lstore (lv' := [(12, .long l10151), (10, .long l9943), (8, .long l9940), (4, .int v9930), (7, .int v9890), (6, .int v9886), (5, .int v9863), (0, .ref h0), (1, .ref p1), (2, .int x2), (3, .int x3)]) hx hb dX0_run_380 hl (by decide) rfl (fun ls hl => ?_)
                                refine lv_lload hx hb dX0_run_382 (lv_at hl 0 rfl) ?_
                                refine lv_ldc2 hx hb hown (hts _ (tb_c wd_579)) dX0_run_384 ?_
                                refine lv_topl (fun l10153 e10154 => ?_)
                                refine W.lcmp hx hb dX0_run_387 ?_
                                refine lv_topi (fun v10155 e10156 => ?_)
                                have tv10155 := iv_cmp e10156
                                refine lv_if_gt (tgt := 400) hx hb dX0_run_388 (by decide) (fun c10157 => ?_) (fun c10157 => ?_)
                                · skip
                                  have k10158 := iv_lt (X := (0)) (Y := v10155.toInt) (by decide) rfl c10157
                                  refine lv_iconst (v := 0) hx hb dX0_run_400 (by decide) ?_
                                  have hI := th_I.close hI hG0 hO (ok_8 hq9933 hq9935)
                                  have hpost : 0 ≤ (0 : Int32).toInt ∧ (0 : Int32).toInt ≤ 1 := by first | decide | omega
                                  rw [hQ]
                                  exact W.zret (v := 0) hx hb hr (by decide) (fun t ht hW => ⟨⟨0, (), rfl, hpost, by rw [ht]; exact hI, hN.warm hW, va_K.moved hW.alike hK⟩, hS.F ht⟩) hS.2.2 dX0_run_401
                                · skip
                                  have k10159 := iv_nlt (X := (0)) (Y := v10155.toInt) (by decide) rfl c10157
                                  refine lv_lload hx hb dX0_run_391 (lv_at hl 0 rfl) ?_
                                  refine lv_ldc2 hx hb hown (hts _ (tb_c wd_580)) dX0_run_393 ?_
                                  refine lv_topl (fun l10160 e10161 => ?_)
                                  refine W.lcmp hx hb dX0_run_396 ?_
                                  refine lv_topi (fun v10162 e10163 => ?_)
                                  have tv10162 := iv_cmp e10163
                                  refine lv_if_ge (tgt := 402) hx hb dX0_run_397 (by decide) (fun c10164 => ?_) (fun c10164 => ?_)
                                  · skip
                                    have k10165 := iv_le (X := (0)) (Y := v10162.toInt) (by decide) rfl c10164
                                    refine lv_aload_n hx hb dX0_run_402 rfl (lv_at hl 7 rfl) ?_
                                    refine th_get hx hb hts inT0 hown hK hO rfl 1 (by decide) (hts _ (tb_c wd_179)) rfl rfl dX0_run_403 ?_
                                    refine lv_iload hx hb dX0_run_406 (lv_at hl 3 rfl) ?_
                                    refine lv_iconst (v := 1) hx hb dX0_run_408 (by decide) ?_
                                    refine lv_isub hx hb dX0_run_409 ?_
                                    refine lv_topi (fun v10166 e10167 => ?_)
                                    have tv10166 : v10166.toInt = v9930.toInt - (1) := iv_sub rfl (by decide) e10167 (by omega) (by omega)
                                    refine lv_lload hx hb dX0_run_410 (lv_at hl 0 rfl) ?_
                                    obtain ⟨_, hA10168⟩ := op_1 hI hq9935 (th_ne hG0 hq9935 (show (8 : Nat) ≠ 1 by decide))
                                    refine th_last hx hb hK hA10168 1 rfl hS ⟨_, hq9935⟩ (iv_in (X := v10166.toInt) rfl (by omega) (by omega)) dX0_run_412 (fun H locs hA10168 oq hS => ?_)
                                    have hI := th_I.put hI hq9935 hA10168 ok_1 oq
                                    have hO := hO.kept (oq _ (fun z => th_ne hG0 hq9935 (show (8 : Nat) ≠ 1 by decide) (List.mem_singleton.mpr z.symm)))
                                    obtain ⟨v10169, e10170⟩ : ∃ y : Int32, y = v9863 + (1) := ⟨_, rfl⟩
                                    have tv10169 : v10169.toInt = v9863.toInt + (1) := iv_add rfl (by decide) e10170 (by omega) (by omega)
                                    refine lv_iinc (v := v10169) (lv' := [(5, .int v10169), (12, .long l10151), (10, .long l9943), (8, .long l9940), (4, .int v9930), (7, .int v9890), (6, .int v9886), (0, .ref h0), (1, .ref p1), (2, .int x2), (3, .int x3)]) hx hb dX0_run_413 hl (k := 6) rfl (by rw [e10170]; rfl) (by decide) rfl (fun ls hl => ?_)
                                    refine lv_goto (tgt := 6) hx hb dX0_run_416 (by decide) ?_
                                    have hI := th_I.close hI hG0 hO (ok_8 hq9933 hq9935)
                                    exact ih_6 _ (by omega) H locs ls v10169 v9930 rfl (lv_sub hl [0, 4, 7, 8, 9, 10] rfl) ⟨by omega, by omega⟩ hI hS
                                  · skip
                                    have k10171 := iv_nle (X := (0)) (Y := v10162.toInt) (by decide) rfl c10164
                                    refine lv_iconst (v := 0) hx hb dX0_run_400 (by decide) ?_
                                    have hI := th_I.close hI hG0 hO (ok_8 hq9933 hq9935)
                                    have hpost : 0 ≤ (0 : Int32).toInt ∧ (0 : Int32).toInt ≤ 1 := by first | decide | omega
                                    rw [hQ]
                                    exact W.zret (v := 0) hx hb hr (by decide) (fun t ht hW => ⟨⟨0, (), rfl, hpost, by rw [ht]; exact hI, hN.warm hW, va_K.moved hW.alike hK⟩, hS.F ht⟩) hS.2.2 dX0_run_401
                            · skip
                              have k10172 := iv_eq (X := v9886.toInt) (Y := (6)) rfl (by decide) c10074
                              refine lv_iconst (v := 0) hx hb dX0_run_317 (by decide) ?_
                              have hI := th_I.close hI hG0 hO (ok_8 hq9933 hq9935)
                              have hpost : 0 ≤ (0 : Int32).toInt ∧ (0 : Int32).toInt ≤ 1 := by first | decide | omega
                              rw [hQ]
                              exact W.zret (v := 0) hx hb hr (by decide) (fun t ht hW => ⟨⟨0, (), rfl, hpost, by rw [ht]; exact hI, hN.warm hW, va_K.moved hW.alike hK⟩, hS.F ht⟩) hS.2.2 dX0_run_318
                      · skip
                        have k10173 := iv_nlt (X := v9886.toInt) (Y := (7)) rfl (by decide) c9945
                        refine lv_aload_n hx hb dX0_run_228 rfl (lv_at hl 6 rfl) ?_
                        refine lv_iload hx hb dX0_run_229 (lv_at hl 4 rfl) ?_
                        refine lv_bipush (v := 7) hx hb dX0_run_231 (by decide) ?_
                        refine lv_icmp_ne (tgt := 252) hx hb dX0_run_233 (by decide) (fun c10174 => ?_) (fun c10174 => ?_)
                        · skip
                          have k10175 := iv_ne (X := v9886.toInt) (Y := (7)) rfl (by decide) c10174
                          refine lv_iload hx hb dX0_run_252 (lv_at hl 4 rfl) ?_
                          refine lv_bipush (v := 8) hx hb dX0_run_254 (by decide) ?_
                          refine lv_icmp_ne (tgt := 275) hx hb dX0_run_256 (by decide) (fun c10176 => ?_) (fun c10176 => ?_)
                          · skip
                            have k10177 := iv_ne (X := v9886.toInt) (Y := (8)) rfl (by decide) c10176
                            refine lv_lload hx hb dX0_run_275 (lv_at hl 1 rfl) ?_
                            refine lv_lload hx hb dX0_run_277 (lv_at hl 0 rfl) ?_
                            refine W.lcmp hx hb dX0_run_279 ?_
                            refine lv_topi (fun v10178 e10179 => ?_)
                            have tv10178 := iv_cmp e10179
                            refine lv_if_ne (tgt := 287) hx hb dX0_run_280 (by decide) (fun c10180 => ?_) (fun c10180 => ?_)
                            · skip
                              have k10181 := iv_ne (X := v10178.toInt) (Y := (0)) rfl (by decide) c10180
                              refine lv_iconst (v := 0) hx hb dX0_run_287 (by decide) ?_
                              refine th_put (ty := .boolean) hx hb hts inT0 tyX0 tyX0_ok nmX0 hown hK hO hS ⟨_, hG0⟩ rfl 2 (by decide) (hts _ (tb_c wd_180)) rfl rfl (by decide +kernel) (by decide) rfl (Nat.le_of_ble_eq_true rfl) dX0_run_288 (fun H locs hO oq hS => ?_)
                              have hI := th_I.moved hI oq
                              have hO : va_at D vwCl (h0, .inr (0, [.ref a9932, .ref a9934, .int 0])) H := hO
                              obtain ⟨v10182, e10183⟩ : ∃ y : Int32, y = v9930 + (-1) := ⟨_, rfl⟩
                              have tv10182 : v10182.toInt = v9930.toInt + (-1) := iv_add rfl (by decide) e10183 (by omega) (by omega)
                              refine lv_iinc (v := v10182) (lv' := [(4, .int v10182), (10, .long l9943), (8, .long l9940), (7, .int v9890), (6, .int v9886), (5, .int v9863), (0, .ref h0), (1, .ref p1), (2, .int x2), (3, .int x3)]) hx hb dX0_run_291 hl (k := 2) rfl (by rw [e10183]; rfl) (by decide) rfl (fun ls hl => ?_)
                              refine lv_goto (tgt := 413) hx hb dX0_run_294 (by decide) ?_
                              obtain ⟨v10184, e10185⟩ : ∃ y : Int32, y = v9863 + (1) := ⟨_, rfl⟩
                              have tv10184 : v10184.toInt = v9863.toInt + (1) := iv_add rfl (by decide) e10185 (by omega) (by omega)
                              refine lv_iinc (v := v10184) (lv' := [(5, .int v10184), (4, .int v10182), (10, .long l9943), (8, .long l9940), (7, .int v9890), (6, .int v9886), (0, .ref h0), (1, .ref p1), (2, .int x2), (3, .int x3)]) hx hb dX0_run_413 hl (k := 5) rfl (by rw [e10185]; rfl) (by decide) rfl (fun ls hl => ?_)
                              refine lv_goto (tgt := 6) hx hb dX0_run_416 (by decide) ?_
                              have hI := th_I.close hI hG0 hO (ok_8 hq9933 hq9935)
                              exact ih_6 _ (by omega) H locs ls v10184 v10182 rfl (lv_sub hl [0, 1, 6, 7, 8, 9] rfl) ⟨by omega, by omega⟩ hI hS
                            · skip
                              have k10186 := iv_eq (X := v10178.toInt) (Y := (0)) rfl (by decide) c10180
                              refine lv_iconst (v := 1) hx hb dX0_run_283 (by decide) ?_
                              refine lv_goto (tgt := 288) hx hb dX0_run_284 (by decide) ?_
                              refine th_put (ty := .boolean) hx hb hts inT0 tyX0 tyX0_ok nmX0 hown hK hO hS ⟨_, hG0⟩ rfl 2 (by decide) (hts _ (tb_c wd_180)) rfl rfl (by decide +kernel) (by decide) rfl (Nat.le_of_ble_eq_true rfl) dX0_run_288 (fun H locs hO oq hS => ?_)
                              have hI := th_I.moved hI oq
                              have hO : va_at D vwCl (h0, .inr (0, [.ref a9932, .ref a9934, .int 1])) H := hO
                              obtain ⟨v10187, e10188⟩ : ∃ y : Int32, y = v9930 + (-1) := ⟨_, rfl⟩
                              have tv10187 : v10187.toInt = v9930.toInt + (-1) := iv_add rfl (by decide) e10188 (by omega) (by omega)
                              refine lv_iinc (v := v10187) (lv' := [(4, .int v10187), (10, .long l9943), (8, .long l9940), (7, .int v9890), (6, .int v9886), (5, .int v9863), (0, .ref h0), (1, .ref p1), (2, .int x2), (3, .int x3)]) hx hb dX0_run_291 hl (k := 2) rfl (by rw [e10188]; rfl) (by decide) rfl (fun ls hl => ?_)
                              refine lv_goto (tgt := 413) hx hb dX0_run_294 (by decide) ?_
                              obtain ⟨v10189, e10190⟩ : ∃ y : Int32, y = v9863 + (1) := ⟨_, rfl⟩
                              have tv10189 : v10189.toInt = v9863.toInt + (1) := iv_add rfl (by decide) e10190 (by omega) (by omega)
                              refine lv_iinc (v := v10189) (lv' := [(5, .int v10189), (4, .int v10187), (10, .long l9943), (8, .long l9940), (7, .int v9890), (6, .int v9886), (0, .ref h0), (1, .ref p1), (2, .int x2), (3, .int x3)]) hx hb dX0_run_413 hl (k := 5) rfl (by rw [e10190]; rfl) (by decide) rfl (fun ls hl => ?_)
                              refine lv_goto (tgt := 6) hx hb dX0_run_416 (by decide) ?_
                              have hI := th_I.close hI hG0 hO (ok_8 hq9933 hq9935)
                              exact ih_6 _ (by omega) H locs ls v10189 v10187 rfl (lv_sub hl [0, 1, 6, 7, 8, 9] rfl) ⟨by omega, by omega⟩ hI hS
                          · skip
                            have k10191 := iv_eq (X := v9886.toInt) (Y := (8)) rfl (by decide) c10176
                            refine lv_lload hx hb dX0_run_259 (lv_at hl 1 rfl) ?_
                            refine lv_lload hx hb dX0_run_261 (lv_at hl 0 rfl) ?_
                            refine W.lcmp hx hb dX0_run_263 ?_
                            refine lv_topi (fun v10192 e10193 => ?_)
                            have tv10192 := iv_cmp e10193
                            refine lv_if_le (tgt := 271) hx hb dX0_run_264 (by decide) (fun c10194 => ?_) (fun c10194 => ?_)
                            · skip
                              have k10195 := iv_le (X := v10192.toInt) (Y := (0)) rfl (by decide) c10194
                              refine lv_iconst (v := 0) hx hb dX0_run_271 (by decide) ?_
                              refine lv_goto (tgt := 288) hx hb dX0_run_272 (by decide) ?_
                              refine th_put (ty := .boolean) hx hb hts inT0 tyX0 tyX0_ok nmX0 hown hK hO hS ⟨_, hG0⟩ rfl 2 (by decide) (hts _ (tb_c wd_180)) rfl rfl (by decide +kernel) (by decide) rfl (Nat.le_of_ble_eq_true rfl) dX0_run_288 (fun H locs hO oq hS => ?_)
                              have hI := th_I.moved hI oq
                              have hO : va_at D vwCl (h0, .inr (0, [.ref a9932, .ref a9934, .int 0])) H := hO
                              obtain ⟨v10196, e10197⟩ : ∃ y : Int32, y = v9930 + (-1) := ⟨_, rfl⟩
                              have tv10196 : v10196.toInt = v9930.toInt + (-1) := iv_add rfl (by decide) e10197 (by omega) (by omega)
                              refine lv_iinc (v := v10196) (lv' := [(4, .int v10196), (10, .long l9943), (8, .long l9940), (7, .int v9890), (6, .int v9886), (5, .int v9863), (0, .ref h0), (1, .ref p1), (2, .int x2), (3, .int x3)]) hx hb dX0_run_291 hl (k := 2) rfl (by rw [e10197]; rfl) (by decide) rfl (fun ls hl => ?_)
                              refine lv_goto (tgt := 413) hx hb dX0_run_294 (by decide) ?_
                              obtain ⟨v10198, e10199⟩ : ∃ y : Int32, y = v9863 + (1) := ⟨_, rfl⟩
                              have tv10198 : v10198.toInt = v9863.toInt + (1) := iv_add rfl (by decide) e10199 (by omega) (by omega)
                              refine lv_iinc (v := v10198) (lv' := [(5, .int v10198), (4, .int v10196), (10, .long l9943), (8, .long l9940), (7, .int v9890), (6, .int v9886), (0, .ref h0), (1, .ref p1), (2, .int x2), (3, .int x3)]) hx hb dX0_run_413 hl (k := 5) rfl (by rw [e10199]; rfl) (by decide) rfl (fun ls hl => ?_)
                              refine lv_goto (tgt := 6) hx hb dX0_run_416 (by decide) ?_
                              have hI := th_I.close hI hG0 hO (ok_8 hq9933 hq9935)
                              exact ih_6 _ (by omega) H locs ls v10198 v10196 rfl (lv_sub hl [0, 1, 6, 7, 8, 9] rfl) ⟨by omega, by omega⟩ hI hS
                            · skip
                              have k10200 := iv_nle (X := v10192.toInt) (Y := (0)) rfl (by decide) c10194
                              refine lv_iconst (v := 1) hx hb dX0_run_267 (by decide) ?_
                              refine lv_goto (tgt := 288) hx hb dX0_run_268 (by decide) ?_
                              refine th_put (ty := .boolean) hx hb hts inT0 tyX0 tyX0_ok nmX0 hown hK hO hS ⟨_, hG0⟩ rfl 2 (by decide) (hts _ (tb_c wd_180)) rfl rfl (by decide +kernel) (by decide) rfl (Nat.le_of_ble_eq_true rfl) dX0_run_288 (fun H locs hO oq hS => ?_)
                              have hI := th_I.moved hI oq
                              have hO : va_at D vwCl (h0, .inr (0, [.ref a9932, .ref a9934, .int 1])) H := hO
                              obtain ⟨v10201, e10202⟩ : ∃ y : Int32, y = v9930 + (-1) := ⟨_, rfl⟩
                              have tv10201 : v10201.toInt = v9930.toInt + (-1) := iv_add rfl (by decide) e10202 (by omega) (by omega)
                              refine lv_iinc (v := v10201) (lv' := [(4, .int v10201), (10, .long l9943), (8, .long l9940), (7, .int v9890), (6, .int v9886), (5, .int v9863), (0, .ref h0), (1, .ref p1), (2, .int x2), (3, .int x3)]) hx hb dX0_run_291 hl (k := 2) rfl (by rw [e10202]; rfl) (by decide) rfl (fun ls hl => ?_)
                              refine lv_goto (tgt := 413) hx hb dX0_run_294 (by decide) ?_
                              obtain ⟨v10203, e10204⟩ : ∃ y : Int32, y = v9863 + (1) := ⟨_, rfl⟩
                              have tv10203 : v10203.toInt = v9863.toInt + (1) := iv_add rfl (by decide) e10204 (by omega) (by omega)
                              refine lv_iinc (v := v10203) (lv' := [(5, .int v10203), (4, .int v10201), (10, .long l9943), (8, .long l9940), (7, .int v9890), (6, .int v9886), (0, .ref h0), (1, .ref p1), (2, .int x2), (3, .int x3)]) hx hb dX0_run_413 hl (k := 5) rfl (by rw [e10204]; rfl) (by decide) rfl (fun ls hl => ?_)
                              refine lv_goto (tgt := 6) hx hb dX0_run_416 (by decide) ?_
                              have hI := th_I.close hI hG0 hO (ok_8 hq9933 hq9935)
                              exact ih_6 _ (by omega) H locs ls v10203 v10201 rfl (lv_sub hl [0, 1, 6, 7, 8, 9] rfl) ⟨by omega, by omega⟩ hI hS
                        · skip
                          have k10205 := iv_eq (X := v9886.toInt) (Y := (7)) rfl (by decide) c10174
                          refine lv_lload hx hb dX0_run_236 (lv_at hl 1 rfl) ?_
                          refine lv_lload hx hb dX0_run_238 (lv_at hl 0 rfl) ?_
                          refine W.lcmp hx hb dX0_run_240 ?_
                          refine lv_topi (fun v10206 e10207 => ?_)
                          have tv10206 := iv_cmp e10207
                          refine lv_if_ge (tgt := 248) hx hb dX0_run_241 (by decide) (fun c10208 => ?_) (fun c10208 => ?_)
                          · skip
                            have k10209 := iv_le (X := (0)) (Y := v10206.toInt) (by decide) rfl c10208
                            refine lv_iconst (v := 0) hx hb dX0_run_248 (by decide) ?_
                            refine lv_goto (tgt := 288) hx hb dX0_run_249 (by decide) ?_
                            refine th_put (ty := .boolean) hx hb hts inT0 tyX0 tyX0_ok nmX0 hown hK hO hS ⟨_, hG0⟩ rfl 2 (by decide) (hts _ (tb_c wd_180)) rfl rfl (by decide +kernel) (by decide) rfl (Nat.le_of_ble_eq_true rfl) dX0_run_288 (fun H locs hO oq hS => ?_)
                            have hI := th_I.moved hI oq
                            have hO : va_at D vwCl (h0, .inr (0, [.ref a9932, .ref a9934, .int 0])) H := hO
                            obtain ⟨v10210, e10211⟩ : ∃ y : Int32, y = v9930 + (-1) := ⟨_, rfl⟩
                            have tv10210 : v10210.toInt = v9930.toInt + (-1) := iv_add rfl (by decide) e10211 (by omega) (by omega)
                            refine lv_iinc (v := v10210) (lv' := [(4, .int v10210), (10, .long l9943), (8, .long l9940), (7, .int v9890), (6, .int v9886), (5, .int v9863), (0, .ref h0), (1, .ref p1), (2, .int x2), (3, .int x3)]) hx hb dX0_run_291 hl (k := 2) rfl (by rw [e10211]; rfl) (by decide) rfl (fun ls hl => ?_)
                            refine lv_goto (tgt := 413) hx hb dX0_run_294 (by decide) ?_
                            obtain ⟨v10212, e10213⟩ : ∃ y : Int32, y = v9863 + (1) := ⟨_, rfl⟩
                            have tv10212 : v10212.toInt = v9863.toInt + (1) := iv_add rfl (by decide) e10213 (by omega) (by omega)
                            refine lv_iinc (v := v10212) (lv' := [(5, .int v10212), (4, .int v10210), (10, .long l9943), (8, .long l9940), (7, .int v9890), (6, .int v9886), (0, .ref h0), (1, .ref p1), (2, .int x2), (3, .int x3)]) hx hb dX0_run_413 hl (k := 5) rfl (by rw [e10213]; rfl) (by decide) rfl (fun ls hl => ?_)
                            refine lv_goto (tgt := 6) hx hb dX0_run_416 (by decide) ?_
                            have hI := th_I.close hI hG0 hO (ok_8 hq9933 hq9935)
                            exact ih_6 _ (by omega) H locs ls v10212 v10210 rfl (lv_sub hl [0, 1, 6, 7, 8, 9] rfl) ⟨by omega, by omega⟩ hI hS
                          · skip
                            have k10214 := iv_nle (X := (0)) (Y := v10206.toInt) (by decide) rfl c10208
                            refine lv_iconst (v := 1) hx hb dX0_run_244 (by decide) ?_
                            refine lv_goto (tgt := 288) hx hb dX0_run_245 (by decide) ?_
                            refine th_put (ty := .boolean) hx hb hts inT0 tyX0 tyX0_ok nmX0 hown hK hO hS ⟨_, hG0⟩ rfl 2 (by decide) (hts _ (tb_c wd_180)) rfl rfl (by decide +kernel) (by decide) rfl (Nat.le_of_ble_eq_true rfl) dX0_run_288 (fun H locs hO oq hS => ?_)
                            have hI := th_I.moved hI oq
                            have hO : va_at D vwCl (h0, .inr (0, [.ref a9932, .ref a9934, .int 1])) H := hO
                            obtain ⟨v10215, e10216⟩ : ∃ y : Int32, y = v9930 + (-1) := ⟨_, rfl⟩
                            have tv10215 : v10215.toInt = v9930.toInt + (-1) := iv_add rfl (by decide) e10216 (by omega) (by omega)
                            refine lv_iinc (v := v10215) (lv' := [(4, .int v10215), (10, .long l9943), (8, .long l9940), (7, .int v9890), (6, .int v9886), (5, .int v9863), (0, .ref h0), (1, .ref p1), (2, .int x2), (3, .int x3)]) hx hb dX0_run_291 hl (k := 2) rfl (by rw [e10216]; rfl) (by decide) rfl (fun ls hl => ?_)
                            refine lv_goto (tgt := 413) hx hb dX0_run_294 (by decide) ?_
                            obtain ⟨v10217, e10218⟩ : ∃ y : Int32, y = v9863 + (1) := ⟨_, rfl⟩
                            have tv10217 : v10217.toInt = v9863.toInt + (1) := iv_add rfl (by decide) e10218 (by omega) (by omega)
                            refine lv_iinc (v := v10217) (lv' := [(5, .int v10217), (4, .int v10215), (10, .long l9943), (8, .long l9940), (7, .int v9890), (6, .int v9886), (0, .ref h0), (1, .ref p1), (2, .int x2), (3, .int x3)]) hx hb dX0_run_413 hl (k := 5) rfl (by rw [e10218]; rfl) (by decide) rfl (fun ls hl => ?_)
                            refine lv_goto (tgt := 6) hx hb dX0_run_416 (by decide) ?_
                            have hI := th_I.close hI hG0 hO (ok_8 hq9933 hq9935)
                            exact ih_6 _ (by omega) H locs ls v10217 v10215 rfl (lv_sub hl [0, 1, 6, 7, 8, 9] rfl) ⟨by omega, by omega⟩ hI hS
                    · skip
                      have k10219 := iv_nle (X := (2)) (Y := v9864.toInt) (by decide) rfl c9928
                      refine lv_iconst (v := 0) hx hb dX0_run_196 (by decide) ?_
                      have hpost : 0 ≤ (0 : Int32).toInt ∧ (0 : Int32).toInt ≤ 1 := by first | decide | omega
                      rw [hQ]
                      exact W.zret (v := 0) hx hb hr (by decide) (fun t ht hW => ⟨⟨0, (), rfl, hpost, by rw [ht]; exact hI, hN.warm hW, va_K.moved hW.alike hK⟩, hS.F ht⟩) hS.2.2 dX0_run_197
                  · skip
                    have k10220 := iv_nlt (X := v9886.toInt) (Y := (11)) rfl (by decide) c9926
                    refine lv_aload_n hx hb dX0_run_150 rfl (lv_at hl 4 rfl) ?_
                    obtain ⟨a10221, a10223, w10225, hO, hq10222, hq10224⟩ := op_8 hI hG0 List.not_mem_nil
                    have hI := th_I.weak (a := h0) hI
                    refine th_get hx hb hts inT0 hown hK hO rfl 2 (by decide) (hts _ (tb_c wd_180)) rfl rfl dX0_run_151 ?_
                    refine lv_iload hx hb dX0_run_154 (lv_at hl 1 rfl) ?_
                    refine lv_bipush (v := 11) hx hb dX0_run_156 (by decide) ?_
                    refine lv_icmp_ne (tgt := 165) hx hb dX0_run_158 (by decide) (fun c10226 => ?_) (fun c10226 => ?_)
                    · skip
                      have k10227 := iv_ne (X := v9886.toInt) (Y := (11)) rfl (by decide) c10226
                      refine lv_iconst (v := 0) hx hb dX0_run_165 (by decide) ?_
                      have k10228 := iv_lo w10225
                      have k10229 := iv_hi w10225
                      refine lv_icmp_ne (tgt := 183) hx hb dX0_run_166 (by decide) (fun c10230 => ?_) (fun c10230 => ?_)
                      · skip
                        have k10231 := iv_ne (X := w10225.toInt) (Y := (0)) rfl (by decide) c10230
                        refine lv_iload hx hb dX0_run_183 (lv_at hl 2 rfl) ?_
                        refine lv_istore (lv' := [(5, .int v9863), (7, .int v9890), (6, .int v9886), (4, .int v9864), (0, .ref h0), (1, .ref p1), (2, .int x2), (3, .int x3)]) hx hb dX0_run_185 hl (by decide) rfl (fun ls hl => ?_)
                        refine lv_goto (tgt := 413) hx hb dX0_run_187 (by decide) ?_
                        obtain ⟨v10232, e10233⟩ : ∃ y : Int32, y = v9863 + (1) := ⟨_, rfl⟩
                        have tv10232 : v10232.toInt = v9863.toInt + (1) := iv_add rfl (by decide) e10233 (by omega) (by omega)
                        refine lv_iinc (v := v10232) (lv' := [(5, .int v10232), (7, .int v9890), (6, .int v9886), (4, .int v9864), (0, .ref h0), (1, .ref p1), (2, .int x2), (3, .int x3)]) hx hb dX0_run_413 hl (k := 0) rfl (by rw [e10233]; rfl) (by decide) rfl (fun ls hl => ?_)
                        refine lv_goto (tgt := 6) hx hb dX0_run_416 (by decide) ?_
                        have hI := th_I.close hI hG0 hO (ok_8 hq10222 hq10224)
                        exact ih_6 _ (by omega) H locs ls v10232 v9864 rfl (lv_sub hl [0, 3, 4, 5, 6, 7] rfl) ⟨by omega, by omega⟩ hI hS
                      · skip
                        have k10234 := iv_eq (X := w10225.toInt) (Y := (0)) rfl (by decide) c10230
                        refine lv_iload hx hb dX0_run_169 (lv_at hl 0 rfl) ?_
                        refine lv_iload hx hb dX0_run_171 (lv_at hl 2 rfl) ?_
                        have k10235 := iv_lo v9890
                        have k10236 := iv_hi v9890
                        refine lv_icmp_le (tgt := 183) hx hb dX0_run_173 (by decide) (fun c10237 => ?_) (fun c10237 => ?_)
                        · skip
                          have k10238 := iv_le (X := v9890.toInt) (Y := v9863.toInt) rfl rfl c10237
                          refine lv_iload hx hb dX0_run_183 (lv_at hl 2 rfl) ?_
                          refine lv_istore (lv' := [(5, .int v9863), (7, .int v9890), (6, .int v9886), (4, .int v9864), (0, .ref h0), (1, .ref p1), (2, .int x2), (3, .int x3)]) hx hb dX0_run_185 hl (by decide) rfl (fun ls hl => ?_)
                          refine lv_goto (tgt := 413) hx hb dX0_run_187 (by decide) ?_
                          obtain ⟨v10239, e10240⟩ : ∃ y : Int32, y = v9863 + (1) := ⟨_, rfl⟩
                          have tv10239 : v10239.toInt = v9863.toInt + (1) := iv_add rfl (by decide) e10240 (by omega) (by omega)
                          refine lv_iinc (v := v10239) (lv' := [(5, .int v10239), (7, .int v9890), (6, .int v9886), (4, .int v9864), (0, .ref h0), (1, .ref p1), (2, .int x2), (3, .int x3)]) hx hb dX0_run_413 hl (k := 0) rfl (by rw [e10240]; rfl) (by decide) rfl (fun ls hl => ?_)
                          refine lv_goto (tgt := 6) hx hb dX0_run_416 (by decide) ?_
                          have hI := th_I.close hI hG0 hO (ok_8 hq10222 hq10224)
                          exact ih_6 _ (by omega) H locs ls v10239 v9864 rfl (lv_sub hl [0, 3, 4, 5, 6, 7] rfl) ⟨by omega, by omega⟩ hI hS
                        · skip
                          have k10241 := iv_nle (X := v9890.toInt) (Y := v9863.toInt) rfl rfl c10237
                          refine lv_iload hx hb dX0_run_176 (lv_at hl 0 rfl) ?_
                          refine lv_iconst (v := 1) hx hb dX0_run_178 (by decide) ?_
                          refine lv_isub hx hb dX0_run_179 ?_
                          refine lv_topi (fun v10242 e10243 => ?_)
                          have tv10242 : v10242.toInt = v9890.toInt - (1) := iv_sub rfl (by decide) e10243 (by omega) (by omega)
                          refine lv_goto (tgt := 185) hx hb dX0_run_180 (by decide) ?_
                          refine lv_istore (lv' := [(5, .int v10242), (7, .int v9890), (6, .int v9886), (4, .int v9864), (0, .ref h0), (1, .ref p1), (2, .int x2), (3, .int x3)]) hx hb dX0_run_185 hl (by decide) rfl (fun ls hl => ?_)
                          refine lv_goto (tgt := 413) hx hb dX0_run_187 (by decide) ?_
                          obtain ⟨v10244, e10245⟩ : ∃ y : Int32, y = v10242 + (1) := ⟨_, rfl⟩
                          have k10246 := iv_lo v10242
                          have k10247 := iv_hi v10242
                          have tv10244 : v10244.toInt = v10242.toInt + (1) := iv_add rfl (by decide) e10245 (by omega) (by omega)
                          refine lv_iinc (v := v10244) (lv' := [(5, .int v10244), (7, .int v9890), (6, .int v9886), (4, .int v9864), (0, .ref h0), (1, .ref p1), (2, .int x2), (3, .int x3)]) hx hb dX0_run_413 hl (k := 0) rfl (by rw [e10245]; rfl) (by decide) rfl (fun ls hl => ?_)
                          refine lv_goto (tgt := 6) hx hb dX0_run_416 (by decide) ?_
                          have hI := th_I.close hI hG0 hO (ok_8 hq10222 hq10224)
                          exact ih_6 _ (by omega) H locs ls v10244 v9864 rfl (lv_sub hl [0, 3, 4, 5, 6, 7] rfl) ⟨by omega, by omega⟩ hI hS
                    · skip
                      have k10248 := iv_eq (X := v9886.toInt) (Y := (11)) rfl (by decide) c10226
                      refine lv_iconst (v := 1) hx hb dX0_run_161 (by decide) ?_
                      refine lv_goto (tgt := 166) hx hb dX0_run_162 (by decide) ?_
                      have k10249 := iv_lo w10225
                      have k10250 := iv_hi w10225
                      refine lv_icmp_ne (tgt := 183) hx hb dX0_run_166 (by decide) (fun c10251 => ?_) (fun c10251 => ?_)
                      · skip
                        have k10252 := iv_ne (X := w10225.toInt) (Y := (1)) rfl (by decide) c10251
                        refine lv_iload hx hb dX0_run_183 (lv_at hl 2 rfl) ?_
                        refine lv_istore (lv' := [(5, .int v9863), (7, .int v9890), (6, .int v9886), (4, .int v9864), (0, .ref h0), (1, .ref p1), (2, .int x2), (3, .int x3)]) hx hb dX0_run_185 hl (by decide) rfl (fun ls hl => ?_)
                        refine lv_goto (tgt := 413) hx hb dX0_run_187 (by decide) ?_
                        obtain ⟨v10253, e10254⟩ : ∃ y : Int32, y = v9863 + (1) := ⟨_, rfl⟩
                        have tv10253 : v10253.toInt = v9863.toInt + (1) := iv_add rfl (by decide) e10254 (by omega) (by omega)
                        refine lv_iinc (v := v10253) (lv' := [(5, .int v10253), (7, .int v9890), (6, .int v9886), (4, .int v9864), (0, .ref h0), (1, .ref p1), (2, .int x2), (3, .int x3)]) hx hb dX0_run_413 hl (k := 0) rfl (by rw [e10254]; rfl) (by decide) rfl (fun ls hl => ?_)
                        refine lv_goto (tgt := 6) hx hb dX0_run_416 (by decide) ?_
                        have hI := th_I.close hI hG0 hO (ok_8 hq10222 hq10224)
                        exact ih_6 _ (by omega) H locs ls v10253 v9864 rfl (lv_sub hl [0, 3, 4, 5, 6, 7] rfl) ⟨by omega, by omega⟩ hI hS
                      · skip
                        have k10255 := iv_eq (X := w10225.toInt) (Y := (1)) rfl (by decide) c10251
                        refine lv_iload hx hb dX0_run_169 (lv_at hl 0 rfl) ?_
                        refine lv_iload hx hb dX0_run_171 (lv_at hl 2 rfl) ?_
                        have k10256 := iv_lo v9890
                        have k10257 := iv_hi v9890
                        refine lv_icmp_le (tgt := 183) hx hb dX0_run_173 (by decide) (fun c10258 => ?_) (fun c10258 => ?_)
                        · skip
                          have k10259 := iv_le (X := v9890.toInt) (Y := v9863.toInt) rfl rfl c10258
                          refine lv_iload hx hb dX0_run_183 (lv_at hl 2 rfl) ?_
                          refine lv_istore (lv' := [(5, .int v9863), (7, .int v9890), (6, .int v9886), (4, .int v9864), (0, .ref h0), (1, .ref p1), (2, .int x2), (3, .int x3)]) hx hb dX0_run_185 hl (by decide) rfl (fun ls hl => ?_)
                          refine lv_goto (tgt := 413) hx hb dX0_run_187 (by decide) ?_
                          obtain ⟨v10260, e10261⟩ : ∃ y : Int32, y = v9863 + (1) := ⟨_, rfl⟩
                          have tv10260 : v10260.toInt = v9863.toInt + (1) := iv_add rfl (by decide) e10261 (by omega) (by omega)
                          refine lv_iinc (v := v10260) (lv' := [(5, .int v10260), (7, .int v9890), (6, .int v9886), (4, .int v9864), (0, .ref h0), (1, .ref p1), (2, .int x2), (3, .int x3)]) hx hb dX0_run_413 hl (k := 0) rfl (by rw [e10261]; rfl) (by decide) rfl (fun ls hl => ?_)
                          refine lv_goto (tgt := 6) hx hb dX0_run_416 (by decide) ?_
                          have hI := th_I.close hI hG0 hO (ok_8 hq10222 hq10224)
                          exact ih_6 _ (by omega) H locs ls v10260 v9864 rfl (lv_sub hl [0, 3, 4, 5, 6, 7] rfl) ⟨by omega, by omega⟩ hI hS
                        · skip
                          have k10262 := iv_nle (X := v9890.toInt) (Y := v9863.toInt) rfl rfl c10258
                          refine lv_iload hx hb dX0_run_176 (lv_at hl 0 rfl) ?_
                          refine lv_iconst (v := 1) hx hb dX0_run_178 (by decide) ?_
                          refine lv_isub hx hb dX0_run_179 ?_
                          refine lv_topi (fun v10263 e10264 => ?_)
                          have tv10263 : v10263.toInt = v9890.toInt - (1) := iv_sub rfl (by decide) e10264 (by omega) (by omega)
                          refine lv_goto (tgt := 185) hx hb dX0_run_180 (by decide) ?_
                          refine lv_istore (lv' := [(5, .int v10263), (7, .int v9890), (6, .int v9886), (4, .int v9864), (0, .ref h0), (1, .ref p1), (2, .int x2), (3, .int x3)]) hx hb dX0_run_185 hl (by decide) rfl (fun ls hl => ?_)
                          refine lv_goto (tgt := 413) hx hb dX0_run_187 (by decide) ?_
                          obtain ⟨v10265, e10266⟩ : ∃ y : Int32, y = v10263 + (1) := ⟨_, rfl⟩
                          have k10267 := iv_lo v10263
                          have k10268 := iv_hi v10263
                          have tv10265 : v10265.toInt = v10263.toInt + (1) := iv_add rfl (by decide) e10266 (by omega) (by omega)
                          refine lv_iinc (v := v10265) (lv' := [(5, .int v10265), (7, .int v9890), (6, .int v9886), (4, .int v9864), (0, .ref h0), (1, .ref p1), (2, .int x2), (3, .int x3)]) hx hb dX0_run_413 hl (k := 0) rfl (by rw [e10266]; rfl) (by decide) rfl (fun ls hl => ?_)
                          refine lv_goto (tgt := 6) hx hb dX0_run_416 (by decide) ?_
                          have hI := th_I.close hI hG0 hO (ok_8 hq10222 hq10224)
                          exact ih_6 _ (by omega) H locs ls v10265 v9864 rfl (lv_sub hl [0, 3, 4, 5, 6, 7] rfl) ⟨by omega, by omega⟩ hI hS
                · skip
                  have k10269 := iv_eq (X := v9886.toInt) (Y := (10)) rfl (by decide) c9924
                  refine lv_aload_n hx hb dX0_run_124 rfl (lv_at hl 4 rfl) ?_
                  refine lv_aload_n hx hb dX0_run_125 rfl (lv_at hl 4 rfl) ?_
                  obtain ⟨a10270, a10272, w10274, hO, hq10271, hq10273⟩ := op_8 hI hG0 List.not_mem_nil
                  have hI := th_I.weak (a := h0) hI
                  refine th_get hx hb hts inT0 hown hK hO rfl 2 (by decide) (hts _ (tb_c wd_180)) rfl rfl dX0_run_126 ?_
                  have k10275 := iv_lo w10274
                  have k10276 := iv_hi w10274
                  refine lv_if_ne (tgt := 136) hx hb dX0_run_129 (by decide) (fun c10277 => ?_) (fun c10277 => ?_)
                  · skip
                    have k10278 := iv_ne (X := w10274.toInt) (Y := (0)) rfl (by decide) c10277
                    refine lv_iconst (v := 0) hx hb dX0_run_136 (by decide) ?_
                    refine th_put (ty := .boolean) hx hb hts inT0 tyX0 tyX0_ok nmX0 hown hK hO hS ⟨_, hG0⟩ rfl 2 (by decide) (hts _ (tb_c wd_180)) rfl rfl (by decide +kernel) (by decide) rfl (Nat.le_of_ble_eq_true rfl) dX0_run_137 (fun H locs hO oq hS => ?_)
                    have hI := th_I.moved hI oq
                    have hO : va_at D vwCl (h0, .inr (0, [.ref a10270, .ref a10272, .int 0])) H := hO
                    refine lv_goto (tgt := 413) hx hb dX0_run_140 (by decide) ?_
                    obtain ⟨v10279, e10280⟩ : ∃ y : Int32, y = v9863 + (1) := ⟨_, rfl⟩
                    have tv10279 : v10279.toInt = v9863.toInt + (1) := iv_add rfl (by decide) e10280 (by omega) (by omega)
                    refine lv_iinc (v := v10279) (lv' := [(5, .int v10279), (7, .int v9890), (6, .int v9886), (4, .int v9864), (0, .ref h0), (1, .ref p1), (2, .int x2), (3, .int x3)]) hx hb dX0_run_413 hl (k := 2) rfl (by rw [e10280]; rfl) (by decide) rfl (fun ls hl => ?_)
                    refine lv_goto (tgt := 6) hx hb dX0_run_416 (by decide) ?_
                    have hI := th_I.close hI hG0 hO (ok_8 hq10271 hq10273)
                    exact ih_6 _ (by omega) H locs ls v10279 v9864 rfl (lv_sub hl [0, 3, 4, 5, 6, 7] rfl) ⟨by omega, by omega⟩ hI hS
                  · skip
                    have k10281 := iv_eq (X := w10274.toInt) (Y := (0)) rfl (by decide) c10277
                    refine lv_iconst (v := 1) hx hb dX0_run_132 (by decide) ?_
                    refine lv_goto (tgt := 137) hx hb dX0_run_133 (by decide) ?_
                    refine th_put (ty := .boolean) hx hb hts inT0 tyX0 tyX0_ok nmX0 hown hK hO hS ⟨_, hG0⟩ rfl 2 (by decide) (hts _ (tb_c wd_180)) rfl rfl (by decide +kernel) (by decide) rfl (Nat.le_of_ble_eq_true rfl) dX0_run_137 (fun H locs hO oq hS => ?_)
                    have hI := th_I.moved hI oq
                    have hO : va_at D vwCl (h0, .inr (0, [.ref a10270, .ref a10272, .int 1])) H := hO
                    refine lv_goto (tgt := 413) hx hb dX0_run_140 (by decide) ?_
                    obtain ⟨v10282, e10283⟩ : ∃ y : Int32, y = v9863 + (1) := ⟨_, rfl⟩
                    have tv10282 : v10282.toInt = v9863.toInt + (1) := iv_add rfl (by decide) e10283 (by omega) (by omega)
                    refine lv_iinc (v := v10282) (lv' := [(5, .int v10282), (7, .int v9890), (6, .int v9886), (4, .int v9864), (0, .ref h0), (1, .ref p1), (2, .int x2), (3, .int x3)]) hx hb dX0_run_413 hl (k := 2) rfl (by rw [e10283]; rfl) (by decide) rfl (fun ls hl => ?_)
                    refine lv_goto (tgt := 6) hx hb dX0_run_416 (by decide) ?_
                    have hI := th_I.close hI hG0 hO (ok_8 hq10271 hq10273)
                    exact ih_6 _ (by omega) H locs ls v10282 v9864 rfl (lv_sub hl [0, 3, 4, 5, 6, 7] rfl) ⟨by omega, by omega⟩ hI hS
              · skip
                have k10284 := iv_eq (X := v9886.toInt) (Y := (1)) rfl (by decide) c9922
                refine lv_iload hx hb dX0_run_52 (lv_at hl 3 rfl) ?_
                refine lv_aload_n hx hb dX0_run_54 rfl (lv_at hl 4 rfl) ?_
                obtain ⟨a10285, a10287, w10289, hO, hq10286, hq10288⟩ := op_8 hI hG0 List.not_mem_nil
                have hI := th_I.weak (a := h0) hI
                refine th_get hx hb hts inT0 hown hK hO rfl 1 (by decide) (hts _ (tb_c wd_179)) rfl rfl dX0_run_55 ?_
                obtain ⟨_, hA10290⟩ := op_1 hI hq10288 (th_ne hG0 hq10288 (show (8 : Nat) ≠ 1 by decide))
                refine va_alen hx hb hK (th_one hA10290) 0 1 rfl (v := 64) rfl (show Int32.ofNat 64 = (64 : Int32) from by decide) dX0_run_58 ?_
                refine lv_icmp_ge (tgt := 83) hx hb dX0_run_59 (by decide) (fun c10291 => ?_) (fun c10291 => ?_)
                · skip
                  have k10292 := iv_le (X := (64)) (Y := v9864.toInt) (by decide) rfl c10291
                  refine lv_iconst (v := 0) hx hb dX0_run_83 (by decide) ?_
                  have hI := th_I.close hI hG0 hO (ok_8 hq10286 hq10288)
                  have hpost : 0 ≤ (0 : Int32).toInt ∧ (0 : Int32).toInt ≤ 1 := by first | decide | omega
                  rw [hQ]
                  exact W.zret (v := 0) hx hb hr (by decide) (fun t ht hW => ⟨⟨0, (), rfl, hpost, by rw [ht]; exact hI, hN.warm hW, va_K.moved hW.alike hK⟩, hS.F ht⟩) hS.2.2 dX0_run_84
                · skip
                  have k10293 := iv_nle (X := (64)) (Y := v9864.toInt) (by decide) rfl c10291
                  refine lv_iload hx hb dX0_run_62 (lv_at hl 0 rfl) ?_
                  have k10294 := iv_lo v9890
                  have k10295 := iv_hi v9890
                  refine lv_if_lt (tgt := 83) hx hb dX0_run_64 (by decide) (fun c10296 => ?_) (fun c10296 => ?_)
                  · skip
                    have k10297 := iv_lt (X := v9890.toInt) (Y := (0)) rfl (by decide) c10296
                    refine lv_iconst (v := 0) hx hb dX0_run_83 (by decide) ?_
                    have hI := th_I.close hI hG0 hO (ok_8 hq10286 hq10288)
                    have hpost : 0 ≤ (0 : Int32).toInt ∧ (0 : Int32).toInt ≤ 1 := by first | decide | omega
                    rw [hQ]
                    exact W.zret (v := 0) hx hb hr (by decide) (fun t ht hW => ⟨⟨0, (), rfl, hpost, by rw [ht]; exact hI, hN.warm hW, va_K.moved hW.alike hK⟩, hS.F ht⟩) hS.2.2 dX0_run_84
                  · skip
                    have k10298 := iv_nlt (X := v9890.toInt) (Y := (0)) rfl (by decide) c10296
                    refine lv_iload hx hb dX0_run_67 (lv_at hl 1 rfl) ?_
                    refine lv_iconst (v := 1) hx hb dX0_run_69 (by decide) ?_
                    refine lv_icmp_ne (tgt := 85) hx hb dX0_run_70 (by decide) (fun c10299 => ?_) (fun c10299 => ?_)
                    · skip
                      have k10300 := iv_ne (X := v9886.toInt) (Y := (1)) rfl (by decide) c10299
                      exfalso; omega
                    · skip
                      have k10301 := iv_eq (X := v9886.toInt) (Y := (1)) rfl (by decide) c10299
                      refine lv_iload hx hb dX0_run_73 (lv_at hl 0 rfl) ?_
                      refine lv_aload_n hx hb dX0_run_75 rfl (lv_at hl 4 rfl) ?_
                      refine th_get hx hb hts inT0 hown hK hO rfl 0 (by decide) (hts _ (tb_c wd_178)) rfl rfl dX0_run_76 ?_
                      obtain ⟨_, hA10302⟩ := op_0 hI hq10286 (th_ne hG0 hq10286 (show (8 : Nat) ≠ 0 by decide))
                      refine va_alen hx hb hK (th_one hA10302) 0 0 rfl (v := 9) rfl (show Int32.ofNat 9 = (9 : Int32) from by decide) dX0_run_79 ?_
                      refine lv_icmp_lt (tgt := 85) hx hb dX0_run_80 (by decide) (fun c10303 => ?_) (fun c10303 => ?_)
                      · skip
                        have k10304 := iv_lt (X := v9890.toInt) (Y := (9)) rfl (by decide) c10303
                        refine lv_aload_n hx hb dX0_run_85 rfl (lv_at hl 4 rfl) ?_
                        refine th_get hx hb hts inT0 hown hK hO rfl 1 (by decide) (hts _ (tb_c wd_179)) rfl rfl dX0_run_86 ?_
                        refine lv_iload hx hb dX0_run_89 (lv_at hl 3 rfl) ?_
                        refine lv_iload hx hb dX0_run_91 (lv_at hl 1 rfl) ?_
                        refine lv_if_ne (tgt := 102) hx hb dX0_run_93 (by decide) (fun c10305 => ?_) (fun c10305 => ?_)
                        · skip
                          have k10306 := iv_ne (X := v9886.toInt) (Y := (0)) rfl (by decide) c10305
                          refine lv_aload_n hx hb dX0_run_102 rfl (lv_at hl 4 rfl) ?_
                          refine th_get hx hb hts inT0 hown hK hO rfl 0 (by decide) (hts _ (tb_c wd_178)) rfl rfl dX0_run_103 ?_
                          refine lv_iload hx hb dX0_run_106 (lv_at hl 0 rfl) ?_
                          obtain ⟨_, hA10307⟩ := op_0 hI hq10286 (th_ne hG0 hq10286 (show (8 : Nat) ≠ 0 by decide))
                          refine th_iald hx hb hK hA10307 0 rfl (iv_in (X := v9890.toInt) rfl (by omega) (by omega)) dX0_run_108 (fun v10308 _ => ?_)
                          refine lv_i2l hx hb dX0_run_109 rfl ?_
                          refine lv_topl (fun l10309 e10310 => ?_)
                          obtain ⟨_, hA10311⟩ := op_1 hI hq10288 (th_ne hG0 hq10288 (show (8 : Nat) ≠ 1 by decide))
                          refine th_last hx hb hK hA10311 1 rfl hS ⟨_, hq10288⟩ (iv_in (X := v9864.toInt) rfl (by omega) (by omega)) dX0_run_110 (fun H locs hA10311 oq hS => ?_)
                          have hI := th_I.put hI hq10288 hA10311 ok_1 oq
                          have hO := hO.kept (oq _ (fun z => th_ne hG0 hq10288 (show (8 : Nat) ≠ 1 by decide) (List.mem_singleton.mpr z.symm)))
                          obtain ⟨v10312, e10313⟩ : ∃ y : Int32, y = v9864 + (1) := ⟨_, rfl⟩
                          have tv10312 : v10312.toInt = v9864.toInt + (1) := iv_add rfl (by decide) e10313 (by omega) (by omega)
                          refine lv_iinc (v := v10312) (lv' := [(4, .int v10312), (7, .int v9890), (6, .int v9886), (5, .int v9863), (0, .ref h0), (1, .ref p1), (2, .int x2), (3, .int x3)]) hx hb dX0_run_111 hl (k := 3) rfl (by rw [e10313]; rfl) (by decide) rfl (fun ls hl => ?_)
                          refine lv_goto (tgt := 413) hx hb dX0_run_114 (by decide) ?_
                          obtain ⟨v10314, e10315⟩ : ∃ y : Int32, y = v9863 + (1) := ⟨_, rfl⟩
                          have tv10314 : v10314.toInt = v9863.toInt + (1) := iv_add rfl (by decide) e10315 (by omega) (by omega)
                          refine lv_iinc (v := v10314) (lv' := [(5, .int v10314), (4, .int v10312), (7, .int v9890), (6, .int v9886), (0, .ref h0), (1, .ref p1), (2, .int x2), (3, .int x3)]) hx hb dX0_run_413 hl (k := 3) rfl (by rw [e10315]; rfl) (by decide) rfl (fun ls hl => ?_)
                          refine lv_goto (tgt := 6) hx hb dX0_run_416 (by decide) ?_
                          have hI := th_I.close hI hG0 hO (ok_8 hq10286 hq10288)
                          exact ih_6 _ (by omega) H locs ls v10314 v10312 rfl (lv_sub hl [0, 1, 4, 5, 6, 7] rfl) ⟨by omega, by omega⟩ hI hS
                        · skip
                          have k10316 := iv_eq (X := v9886.toInt) (Y := (0)) rfl (by decide) c10305
                          exfalso; omega
                      · skip
                        have k10317 := iv_nlt (X := v9890.toInt) (Y := (9)) rfl (by decide) c10303
                        refine lv_iconst (v := 0) hx hb dX0_run_83 (by decide) ?_
                        have hI := th_I.close hI hG0 hO (ok_8 hq10286 hq10288)
                        have hpost : 0 ≤ (0 : Int32).toInt ∧ (0 : Int32).toInt ≤ 1 := by first | decide | omega
                        rw [hQ]
                        exact W.zret (v := 0) hx hb hr (by decide) (fun t ht hW => ⟨⟨0, (), rfl, hpost, by rw [ht]; exact hI, hN.warm hW, va_K.moved hW.alike hK⟩, hS.F ht⟩) hS.2.2 dX0_run_84
  refine lv_iconst (v := 0) hx hb dX0_run_0 (by decide) ?_
  refine lv_istore (lv' := [(4, .int 0), (0, .ref h0), (1, .ref p1), (2, .int x2), (3, .int x3)]) hx hb dX0_run_1 hl (by decide) rfl (fun ls hl => ?_)
  refine lv_iload_n hx hb dX0_run_3 rfl (lv_at hl 3 rfl) ?_
  refine lv_istore (lv' := [(5, .int x2), (4, .int 0), (0, .ref h0), (1, .ref p1), (2, .int x2), (3, .int x3)]) hx hb dX0_run_4 hl (by decide) rfl (fun ls hl => ?_)
  exact J_6 _ s.heap [] ls x2 0 rfl (lv_sub hl [0, 1, 2, 3, 4, 5] rfl) ⟨by decide, by decide⟩ hI hS
theorem dX0_tells_0g : (decode cX0_tells 0 = .ok (.aload_n 1, 1)) ∧ (decode cX0_tells 1 = .ok (.getfield 32, 3)) ∧ (decode cX0_tells 4 = .ok (.iconst 1, 1)) ∧ (decode cX0_tells 5 = .ok (.isub, 1)) ∧ (decode cX0_tells 6 = .ok (.istore_n 3, 1)) ∧ (decode cX0_tells 7 = .ok (.iload_n 3, 1)) ∧ (decode cX0_tells 8 = .ok (.ifCond .lt 112, 3)) ∧ (decode cX0_tells 11 = .ok (.aload_n 1, 1)) ∧ (decode cX0_tells 12 = .ok (.getfield 37, 3)) ∧ (decode cX0_tells 15 = .ok (.iload_n 3, 1)) := by decide +kernel
theorem dX0_tells_0 : decode cX0_tells 0 = .ok (.aload_n 1, 1) := dX0_tells_0g.1
theorem dX0_tells_1 : decode cX0_tells 1 = .ok (.getfield 32, 3) := dX0_tells_0g.2.1
theorem dX0_tells_4 : decode cX0_tells 4 = .ok (.iconst 1, 1) := dX0_tells_0g.2.2.1
theorem dX0_tells_5 : decode cX0_tells 5 = .ok (.isub, 1) := dX0_tells_0g.2.2.2.1
theorem dX0_tells_6 : decode cX0_tells 6 = .ok (.istore_n 3, 1) := dX0_tells_0g.2.2.2.2.1
theorem dX0_tells_7 : decode cX0_tells 7 = .ok (.iload_n 3, 1) := dX0_tells_0g.2.2.2.2.2.1
theorem dX0_tells_8 : decode cX0_tells 8 = .ok (.ifCond .lt 112, 3) := dX0_tells_0g.2.2.2.2.2.2.1
theorem dX0_tells_11 : decode cX0_tells 11 = .ok (.aload_n 1, 1) := dX0_tells_0g.2.2.2.2.2.2.2.1
theorem dX0_tells_12 : decode cX0_tells 12 = .ok (.getfield 37, 3) := dX0_tells_0g.2.2.2.2.2.2.2.2.1
theorem dX0_tells_15 : decode cX0_tells 15 = .ok (.iload_n 3, 1) := dX0_tells_0g.2.2.2.2.2.2.2.2.2
theorem dX0_tells_16g : (decode cX0_tells 16 = .ok (.iaload, 1)) ∧ (decode cX0_tells 17 = .ok (.iload_n 2, 1)) ∧ (decode cX0_tells 18 = .ok (.if_icmp .ne 96, 3)) ∧ (decode cX0_tells 21 = .ok (.aload_n 0, 1)) ∧ (decode cX0_tells 22 = .ok (.iconst 1, 1)) ∧ (decode cX0_tells 23 = .ok (.putfield 19, 3)) ∧ (decode cX0_tells 26 = .ok (.aload_n 0, 1)) ∧ (decode cX0_tells 27 = .ok (.aload_n 1, 1)) ∧ (decode cX0_tells 28 = .ok (.getfield 40, 3)) ∧ (decode cX0_tells 31 = .ok (.aload_n 1, 1)) := by decide +kernel
theorem dX0_tells_16 : decode cX0_tells 16 = .ok (.iaload, 1) := dX0_tells_16g.1
theorem dX0_tells_17 : decode cX0_tells 17 = .ok (.iload_n 2, 1) := dX0_tells_16g.2.1
theorem dX0_tells_18 : decode cX0_tells 18 = .ok (.if_icmp .ne 96, 3) := dX0_tells_16g.2.2.1
theorem dX0_tells_21 : decode cX0_tells 21 = .ok (.aload_n 0, 1) := dX0_tells_16g.2.2.2.1
theorem dX0_tells_22 : decode cX0_tells 22 = .ok (.iconst 1, 1) := dX0_tells_16g.2.2.2.2.1
theorem dX0_tells_23 : decode cX0_tells 23 = .ok (.putfield 19, 3) := dX0_tells_16g.2.2.2.2.2.1
theorem dX0_tells_26 : decode cX0_tells 26 = .ok (.aload_n 0, 1) := dX0_tells_16g.2.2.2.2.2.2.1
theorem dX0_tells_27 : decode cX0_tells 27 = .ok (.aload_n 1, 1) := dX0_tells_16g.2.2.2.2.2.2.2.1
theorem dX0_tells_28 : decode cX0_tells 28 = .ok (.getfield 40, 3) := dX0_tells_16g.2.2.2.2.2.2.2.2.1
theorem dX0_tells_31 : decode cX0_tells 31 = .ok (.aload_n 1, 1) := dX0_tells_16g.2.2.2.2.2.2.2.2.2
theorem dX0_tells_32g : (decode cX0_tells 32 = .ok (.getfield 43, 3)) ∧ (decode cX0_tells 35 = .ok (.iconst 2, 1)) ∧ (decode cX0_tells 36 = .ok (.iload_n 3, 1)) ∧ (decode cX0_tells 37 = .ok (.imul, 1)) ∧ (decode cX0_tells 38 = .ok (.iconst 1, 1)) ∧ (decode cX0_tells 39 = .ok (.iadd, 1)) ∧ (decode cX0_tells 40 = .ok (.iaload, 1)) ∧ (decode cX0_tells 41 = .ok (.aload_n 1, 1)) ∧ (decode cX0_tells 42 = .ok (.getfield 43, 3)) ∧ (decode cX0_tells 45 = .ok (.iconst 2, 1)) := by decide +kernel
theorem dX0_tells_32 : decode cX0_tells 32 = .ok (.getfield 43, 3) := dX0_tells_32g.1
theorem dX0_tells_35 : decode cX0_tells 35 = .ok (.iconst 2, 1) := dX0_tells_32g.2.1
theorem dX0_tells_36 : decode cX0_tells 36 = .ok (.iload_n 3, 1) := dX0_tells_32g.2.2.1
theorem dX0_tells_37 : decode cX0_tells 37 = .ok (.imul, 1) := dX0_tells_32g.2.2.2.1
theorem dX0_tells_38 : decode cX0_tells 38 = .ok (.iconst 1, 1) := dX0_tells_32g.2.2.2.2.1
theorem dX0_tells_39 : decode cX0_tells 39 = .ok (.iadd, 1) := dX0_tells_32g.2.2.2.2.2.1
theorem dX0_tells_40 : decode cX0_tells 40 = .ok (.iaload, 1) := dX0_tells_32g.2.2.2.2.2.2.1
theorem dX0_tells_41 : decode cX0_tells 41 = .ok (.aload_n 1, 1) := dX0_tells_32g.2.2.2.2.2.2.2.1
theorem dX0_tells_42 : decode cX0_tells 42 = .ok (.getfield 43, 3) := dX0_tells_32g.2.2.2.2.2.2.2.2.1
theorem dX0_tells_45 : decode cX0_tells 45 = .ok (.iconst 2, 1) := dX0_tells_32g.2.2.2.2.2.2.2.2.2
theorem dX0_tells_46g : (decode cX0_tells 46 = .ok (.iload_n 3, 1)) ∧ (decode cX0_tells 47 = .ok (.imul, 1)) ∧ (decode cX0_tells 48 = .ok (.iconst 2, 1)) ∧ (decode cX0_tells 49 = .ok (.iadd, 1)) ∧ (decode cX0_tells 50 = .ok (.iaload, 1)) ∧ (decode cX0_tells 51 = .ok (.invokevirtual 46, 3)) ∧ (decode cX0_tells 54 = .ok (.istore 4, 2)) ∧ (decode cX0_tells 56 = .ok (.iload 4, 2)) ∧ (decode cX0_tells 58 = .ok (.ifCond .eq 56, 3)) ∧ (decode cX0_tells 61 = .ok (.aload_n 0, 1)) := by decide +kernel
theorem dX0_tells_46 : decode cX0_tells 46 = .ok (.iload_n 3, 1) := dX0_tells_46g.1
theorem dX0_tells_47 : decode cX0_tells 47 = .ok (.imul, 1) := dX0_tells_46g.2.1
theorem dX0_tells_48 : decode cX0_tells 48 = .ok (.iconst 2, 1) := dX0_tells_46g.2.2.1
theorem dX0_tells_49 : decode cX0_tells 49 = .ok (.iadd, 1) := dX0_tells_46g.2.2.2.1
theorem dX0_tells_50 : decode cX0_tells 50 = .ok (.iaload, 1) := dX0_tells_46g.2.2.2.2.1
theorem dX0_tells_51 : decode cX0_tells 51 = .ok (.invokevirtual 46, 3) := dX0_tells_46g.2.2.2.2.2.1
theorem dX0_tells_54 : decode cX0_tells 54 = .ok (.istore 4, 2) := dX0_tells_46g.2.2.2.2.2.2.1
theorem dX0_tells_56 : decode cX0_tells 56 = .ok (.iload 4, 2) := dX0_tells_46g.2.2.2.2.2.2.2.1
theorem dX0_tells_58 : decode cX0_tells 58 = .ok (.ifCond .eq 56, 3) := dX0_tells_46g.2.2.2.2.2.2.2.2.1
theorem dX0_tells_61 : decode cX0_tells 61 = .ok (.aload_n 0, 1) := dX0_tells_46g.2.2.2.2.2.2.2.2.2
theorem dX0_tells_62g : (decode cX0_tells 62 = .ok (.getfield 19, 3)) ∧ (decode cX0_tells 65 = .ok (.ifCond .eq 49, 3)) ∧ (decode cX0_tells 68 = .ok (.aload_n 0, 1)) ∧ (decode cX0_tells 69 = .ok (.aload_n 1, 1)) ∧ (decode cX0_tells 70 = .ok (.getfield 40, 3)) ∧ (decode cX0_tells 73 = .ok (.aload_n 1, 1)) ∧ (decode cX0_tells 74 = .ok (.getfield 43, 3)) ∧ (decode cX0_tells 77 = .ok (.iconst 2, 1)) ∧ (decode cX0_tells 78 = .ok (.iload_n 3, 1)) ∧ (decode cX0_tells 79 = .ok (.imul, 1)) := by decide +kernel
theorem dX0_tells_62 : decode cX0_tells 62 = .ok (.getfield 19, 3) := dX0_tells_62g.1
theorem dX0_tells_65 : decode cX0_tells 65 = .ok (.ifCond .eq 49, 3) := dX0_tells_62g.2.1
theorem dX0_tells_68 : decode cX0_tells 68 = .ok (.aload_n 0, 1) := dX0_tells_62g.2.2.1
theorem dX0_tells_69 : decode cX0_tells 69 = .ok (.aload_n 1, 1) := dX0_tells_62g.2.2.2.1
theorem dX0_tells_70 : decode cX0_tells 70 = .ok (.getfield 40, 3) := dX0_tells_62g.2.2.2.2.1
theorem dX0_tells_73 : decode cX0_tells 73 = .ok (.aload_n 1, 1) := dX0_tells_62g.2.2.2.2.2.1
theorem dX0_tells_74 : decode cX0_tells 74 = .ok (.getfield 43, 3) := dX0_tells_62g.2.2.2.2.2.2.1
theorem dX0_tells_77 : decode cX0_tells 77 = .ok (.iconst 2, 1) := dX0_tells_62g.2.2.2.2.2.2.2.1
theorem dX0_tells_78 : decode cX0_tells 78 = .ok (.iload_n 3, 1) := dX0_tells_62g.2.2.2.2.2.2.2.2.1
theorem dX0_tells_79 : decode cX0_tells 79 = .ok (.imul, 1) := dX0_tells_62g.2.2.2.2.2.2.2.2.2
theorem dX0_tells_80g : (decode cX0_tells 80 = .ok (.iaload, 1)) ∧ (decode cX0_tells 81 = .ok (.aload_n 1, 1)) ∧ (decode cX0_tells 82 = .ok (.getfield 43, 3)) ∧ (decode cX0_tells 85 = .ok (.iconst 2, 1)) ∧ (decode cX0_tells 86 = .ok (.iload_n 3, 1)) ∧ (decode cX0_tells 87 = .ok (.imul, 1)) ∧ (decode cX0_tells 88 = .ok (.iconst 1, 1)) ∧ (decode cX0_tells 89 = .ok (.iadd, 1)) ∧ (decode cX0_tells 90 = .ok (.iaload, 1)) ∧ (decode cX0_tells 91 = .ok (.invokevirtual 46, 3)) := by decide +kernel
theorem dX0_tells_80 : decode cX0_tells 80 = .ok (.iaload, 1) := dX0_tells_80g.1
theorem dX0_tells_81 : decode cX0_tells 81 = .ok (.aload_n 1, 1) := dX0_tells_80g.2.1
theorem dX0_tells_82 : decode cX0_tells 82 = .ok (.getfield 43, 3) := dX0_tells_80g.2.2.1
theorem dX0_tells_85 : decode cX0_tells 85 = .ok (.iconst 2, 1) := dX0_tells_80g.2.2.2.1
theorem dX0_tells_86 : decode cX0_tells 86 = .ok (.iload_n 3, 1) := dX0_tells_80g.2.2.2.2.1
theorem dX0_tells_87 : decode cX0_tells 87 = .ok (.imul, 1) := dX0_tells_80g.2.2.2.2.2.1
theorem dX0_tells_88 : decode cX0_tells 88 = .ok (.iconst 1, 1) := dX0_tells_80g.2.2.2.2.2.2.1
theorem dX0_tells_89 : decode cX0_tells 89 = .ok (.iadd, 1) := dX0_tells_80g.2.2.2.2.2.2.2.1
theorem dX0_tells_90 : decode cX0_tells 90 = .ok (.iaload, 1) := dX0_tells_80g.2.2.2.2.2.2.2.2.1
theorem dX0_tells_91 : decode cX0_tells 91 = .ok (.invokevirtual 46, 3) := dX0_tells_80g.2.2.2.2.2.2.2.2.2
theorem dX0_tells_94g : (decode cX0_tells 94 = .ok (.ifCond .eq 20, 3)) ∧ (decode cX0_tells 97 = .ok (.iload_n 2, 1)) ∧ (decode cX0_tells 98 = .ok (.iconst 3, 1)) ∧ (decode cX0_tells 99 = .ok (.if_icmp .ne 7, 3)) ∧ (decode cX0_tells 102 = .ok (.iconst 0, 1)) ∧ (decode cX0_tells 103 = .ok (.goto 10, 3)) ∧ (decode cX0_tells 106 = .ok (.aload_n 0, 1)) ∧ (decode cX0_tells 107 = .ok (.getfield 15, 3)) ∧ (decode cX0_tells 110 = .ok (.iconst 0, 1)) ∧ (decode cX0_tells 111 = .ok (.laload, 1)) := by decide +kernel
theorem dX0_tells_94 : decode cX0_tells 94 = .ok (.ifCond .eq 20, 3) := dX0_tells_94g.1
theorem dX0_tells_97 : decode cX0_tells 97 = .ok (.iload_n 2, 1) := dX0_tells_94g.2.1
theorem dX0_tells_98 : decode cX0_tells 98 = .ok (.iconst 3, 1) := dX0_tells_94g.2.2.1
theorem dX0_tells_99 : decode cX0_tells 99 = .ok (.if_icmp .ne 7, 3) := dX0_tells_94g.2.2.2.1
theorem dX0_tells_102 : decode cX0_tells 102 = .ok (.iconst 0, 1) := dX0_tells_94g.2.2.2.2.1
theorem dX0_tells_103 : decode cX0_tells 103 = .ok (.goto 10, 3) := dX0_tells_94g.2.2.2.2.2.1
theorem dX0_tells_106 : decode cX0_tells 106 = .ok (.aload_n 0, 1) := dX0_tells_94g.2.2.2.2.2.2.1
theorem dX0_tells_107 : decode cX0_tells 107 = .ok (.getfield 15, 3) := dX0_tells_94g.2.2.2.2.2.2.2.1
theorem dX0_tells_110 : decode cX0_tells 110 = .ok (.iconst 0, 1) := dX0_tells_94g.2.2.2.2.2.2.2.2.1
theorem dX0_tells_111 : decode cX0_tells 111 = .ok (.laload, 1) := dX0_tells_94g.2.2.2.2.2.2.2.2.2
theorem dX0_tells_112g : (decode cX0_tells 112 = .ok (.l2i, 1)) ∧ (decode cX0_tells 113 = .ok (.ireturn, 1)) ∧ (decode cX0_tells 114 = .ok (.iinc 3 (-1), 3)) ∧ (decode cX0_tells 117 = .ok (.goto (-110), 3)) ∧ (decode cX0_tells 120 = .ok (.ldc 50, 2)) ∧ (decode cX0_tells 122 = .ok (.ireturn, 1)) := by decide +kernel
theorem dX0_tells_112 : decode cX0_tells 112 = .ok (.l2i, 1) := dX0_tells_112g.1
theorem dX0_tells_113 : decode cX0_tells 113 = .ok (.ireturn, 1) := dX0_tells_112g.2.1
theorem dX0_tells_114 : decode cX0_tells 114 = .ok (.iinc 3 (-1), 3) := dX0_tells_112g.2.2.1
theorem dX0_tells_117 : decode cX0_tells 117 = .ok (.goto (-110), 3) := dX0_tells_112g.2.2.2.1
theorem dX0_tells_120 : decode cX0_tells 120 = .ok (.ldc 50, 2) := dX0_tells_112g.2.2.2.2.1
theorem dX0_tells_122 : decode cX0_tells 122 = .ok (.ireturn, 1) := dX0_tells_112g.2.2.2.2.2
set_option maxHeartbeats 4000000 in
set_option maxRecDepth 100000 in
theorem c_X0_tells (l : Launch) (E : Nat → Nat) (D : va_G) (G : th_G) (h0 : Nat) (hG0 : G h0 = some (8, 0)) (p1 n1 : Nat) (hp1 : G p1 = some (5, n1)) (x2 : Int32) : Met l yX0_tells (tb (.code yX0_tells cX0_tells 5 (some .int))) (rm 1) (va_Pc [.ref h0, .ref p1, .int x2] (th_P E D G)) (QI E D G (fun r => True)) 0 0 (th_A G) := by
  refine Met.ofW (cc := cX0_tells) (maxL := 5) (ret := (some .int)) (by decide) rfl ?_
  intro p e s m args below meth c s₁ B hml hv
  obtain ⟨hav, hI, hN, hK⟩ := hv
  have hx := B.exec
  have hb := B.bytes
  have hr := B.returns
  have hts := atoms_spec (ws := tb (.code yX0_tells cX0_tells 5 (some .int))) B.pre
  have hown : s.vm.findClass RX0 = some m.cls := findClass_of_methodNamed B.named
  have hlocks := B.notSynchronized
  have hS : va_S (th_A G) s.heap s.heap [] := va_S.rf
  have hl := lv_entry ([.ref h0, .ref p1, .int x2]) (n := 5) (Nat.le_of_ble_eq_true rfl)
  rw [show entryFrame m args 5 = entryFrame m ([.ref h0, .ref p1, .int x2] : List Value).toArray 5 from by rw [hav], lg_entry_eq]
  generalize (lg_sl ([.ref h0, .ref p1, .int x2]) ++ List.replicate (5 - (lg_sl ([.ref h0, .ref p1, .int x2])).length) Slot.unset).toArray = ls at hl ⊢
  have hl : lv_has ls 5 [(0, .ref h0), (1, .ref p1), (2, .int x2)] := hl
  generalize hR : (headSpec (tb (.code yX0_tells cX0_tells 5 (some .int))) (rm 1)).room = R
  have hR := hR.symm
  generalize hQ : MQ below (QI E D G (fun r => True)) args s 0 0 (th_A G) = QF
  have hQ := hQ.symm
  have J_7 : ∀ (nn : Nat) (H : Heap) (locs : List Loc) (ls : Array Slot) (v874 : Int32), (Int.toNat (v874.toInt - (-1)) = nn) → lv_has ls 5 [(3, .int v874), (0, .ref h0), (1, .ref p1), (2, .int x2)] → ((-1 : Int) ≤ v874.toInt ∧ v874.toInt ≤ 15) → (v874.toInt < ((n1 : Nat) : Int)) → th_I (okC E) D G [] H → va_S (th_A G) s.heap H locs → W p l e R s m args below meth c H locs 0 0 QF (F0 m 7 ls []) := by
    intro nn
    induction nn using Nat.strongRecOn with
    | ind nn ih_7 =>
      intro H locs ls v874 hm hl k875 k876 hI hS
      refine lv_iload_n hx hb dX0_tells_7 rfl (lv_at hl 0 rfl) ?_
      refine lv_if_lt (tgt := 120) hx hb dX0_tells_8 (by decide) (fun c877 => ?_) (fun c877 => ?_)
      · skip
        have k878 := iv_lt (X := v874.toInt) (Y := (0)) rfl (by decide) c877
        refine lv_ldc hx hb hown (hts _ (tb_c wd_581)) dX0_tells_120 ?_
        have hpost : True := trivial
        rw [hQ]
        exact W.iret (v := (-2000000000)) hx hb hr (fun t ht hW => ⟨⟨(-2000000000), (), rfl, hpost, by rw [ht]; exact hI, hN.warm hW, va_K.moved hW.alike hK⟩, hS.F ht⟩) hS.2.2 dX0_tells_122
      · skip
        have k879 := iv_nlt (X := v874.toInt) (Y := (0)) rfl (by decide) c877
        refine lv_aload_n hx hb dX0_tells_11 rfl (lv_at hl 2 rfl) ?_
        obtain ⟨a880, a882, a884, m885, hO, hq881, hq883, ⟨hq886, k887⟩, k888⟩ := op_5 hI hp1 List.not_mem_nil
        have hI := th_I.weak (a := p1) hI
        have k889 : (nI n1).toInt = ((n1 : Nat) : Int) := nI_toInt (by omega)
        refine th_getN hx hb hts inT2 hown hK hN hO rfl 1 (by decide) wn_770 rfl rfl dX0_tells_12 ?_
        refine lv_iload_n hx hb dX0_tells_15 rfl (lv_at hl 0 rfl) ?_
        obtain ⟨_, hA890⟩ := op_0 hI hq881 (th_ne hp1 hq881 (show (5 : Nat) ≠ 0 by decide))
        refine th_iald hx hb hK hA890 0 rfl (iv_in (X := v874.toInt) rfl (by omega) (by omega)) dX0_tells_16 (fun v891 _ => ?_)
        refine lv_iload_n hx hb dX0_tells_17 rfl (lv_at hl 3 rfl) ?_
        have k892 := iv_lo v891
        have k893 := iv_hi v891
        have k894 := iv_lo x2
        have k895 := iv_hi x2
        refine lv_icmp_ne (tgt := 114) hx hb dX0_tells_18 (by decide) (fun c896 => ?_) (fun c896 => ?_)
        · skip
          have k897 := iv_ne (X := v891.toInt) (Y := x2.toInt) rfl rfl c896
          obtain ⟨v898, e899⟩ : ∃ y : Int32, y = v874 + (-1) := ⟨_, rfl⟩
          have tv898 : v898.toInt = v874.toInt + (-1) := iv_add rfl (by decide) e899 (by omega) (by omega)
          refine lv_iinc (v := v898) (lv' := [(3, .int v898), (0, .ref h0), (1, .ref p1), (2, .int x2)]) hx hb dX0_tells_114 hl (k := 0) rfl (by rw [e899]; rfl) (by decide) rfl (fun ls hl => ?_)
          refine lv_goto (tgt := 7) hx hb dX0_tells_117 (by decide) ?_
          have hI := th_I.close hI hp1 hO (ok_5 hq881 hq883 ⟨hq886, by omega⟩ (by omega))
          exact ih_7 _ (by omega) H locs ls v898 rfl (lv_sub hl [0, 1, 2, 3] rfl) ⟨by omega, by omega⟩ (by omega) hI hS
        · skip
          have k900 := iv_eq (X := v891.toInt) (Y := x2.toInt) rfl rfl c896
          refine lv_aload_n hx hb dX0_tells_21 rfl (lv_at hl 1 rfl) ?_
          refine lv_iconst (v := 1) hx hb dX0_tells_22 (by decide) ?_
          have hI := th_I.close hI hp1 hO (ok_5 hq881 hq883 ⟨hq886, by omega⟩ (by omega))
          obtain ⟨a901, a903, w905, hO, hq902, hq904⟩ := op_8 hI hG0 List.not_mem_nil
          have hI := th_I.weak (a := h0) hI
          refine th_put (ty := .boolean) hx hb hts inT0 tyX0 tyX0_ok nmX0 hown hK hO hS ⟨_, hG0⟩ rfl 2 (by decide) (hts _ (tb_c wd_180)) rfl rfl (by decide +kernel) (by decide) rfl (Nat.le_of_ble_eq_true rfl) dX0_tells_23 (fun H locs hO oq hS => ?_)
          have hI := th_I.moved hI oq
          have hO : va_at D vwCl (h0, .inr (0, [.ref a901, .ref a903, .int 1])) H := hO
          refine lv_aload_n hx hb dX0_tells_26 rfl (lv_at hl 1 rfl) ?_
          refine lv_aload_n hx hb dX0_tells_27 rfl (lv_at hl 2 rfl) ?_
          have hI := th_I.close hI hG0 hO (ok_8 hq902 hq904)
          obtain ⟨a906, a908, a910, m911, hO, hq907, hq909, ⟨hq912, k913⟩, k914⟩ := op_5 hI hp1 List.not_mem_nil
          have hI := th_I.weak (a := p1) hI
          have k915 : (nI n1).toInt = ((n1 : Nat) : Int) := nI_toInt (by omega)
          refine th_getN hx hb hts inT2 hown hK hN hO rfl 3 (by decide) wn_774 rfl rfl dX0_tells_28 ?_
          refine lv_aload_n hx hb dX0_tells_31 rfl (lv_at hl 2 rfl) ?_
          refine th_getN hx hb hts inT2 hown hK hN hO rfl 2 (by decide) wn_772 rfl rfl dX0_tells_32 ?_
          refine lv_iconst (v := 2) hx hb dX0_tells_35 (by decide) ?_
          refine lv_iload_n hx hb dX0_tells_36 rfl (lv_at hl 0 rfl) ?_
          refine lv_imul hx hb dX0_tells_37 ?_
          refine lv_topi (fun v916 e917 => ?_)
          have tv916 : v916.toInt = (2) * v874.toInt := iv_mul (by decide) rfl e917 (by omega) (by omega)
          refine lv_iconst (v := 1) hx hb dX0_tells_38 (by decide) ?_
          refine lv_iadd hx hb dX0_tells_39 ?_
          refine lv_topi (fun v918 e919 => ?_)
          have tv918 : v918.toInt = v916.toInt + (1) := iv_add rfl (by decide) e919 (by omega) (by omega)
          obtain ⟨_, hA920⟩ := op_0 hI hq909 (th_ne hp1 hq909 (show (5 : Nat) ≠ 0 by decide))
          refine th_iald hx hb hK hA920 0 rfl (iv_in (X := v918.toInt) rfl (by omega) (by omega)) dX0_tells_40 (fun v921 _ => ?_)
          refine lv_aload_n hx hb dX0_tells_41 rfl (lv_at hl 2 rfl) ?_
          refine th_getN hx hb hts inT2 hown hK hN hO rfl 2 (by decide) wn_772 rfl rfl dX0_tells_42 ?_
          refine lv_iconst (v := 2) hx hb dX0_tells_45 (by decide) ?_
          refine lv_iload_n hx hb dX0_tells_46 rfl (lv_at hl 0 rfl) ?_
          refine lv_imul hx hb dX0_tells_47 ?_
          refine lv_topi (fun v922 e923 => ?_)
          have tv922 : v922.toInt = (2) * v874.toInt := iv_mul (by decide) rfl e923 (by omega) (by omega)
          refine lv_iconst (v := 2) hx hb dX0_tells_48 (by decide) ?_
          refine lv_iadd hx hb dX0_tells_49 ?_
          refine lv_topi (fun v924 e925 => ?_)
          have tv924 : v924.toInt = v922.toInt + (2) := iv_add rfl (by decide) e925 (by omega) (by omega)
          obtain ⟨_, hA926⟩ := op_0 hI hq909 (th_ne hp1 hq909 (show (5 : Nat) ≠ 0 by decide))
          refine th_iald hx hb hK hA926 0 rfl (iv_in (X := v924.toInt) rfl (by omega) (by omega)) dX0_tells_50 (fun v927 _ => ?_)
          have hI := th_I.close hI hp1 hO (ok_5 hq907 hq909 ⟨hq912, by omega⟩ (by omega))
          refine th_cVi (As := [.ref a910, .int v921, .int v927]) (rest := []) (n := 3) (d := 0) ⟨hx, hb, hml, hown, hts⟩ (c_X0_run l E D G h0 hG0 a910 (m911) hq912 (by omega) v921 v927) wd_575 wd_577 wp_6 wd_7 wd_578 (by decide +kernel) ⟨by rw [hR]; exact Nat.le_of_ble_eq_true rfl, by rw [hR]; exact Nat.le_of_ble_eq_true rfl⟩ hI hN hK hS (rc_8 hI hG0 List.not_mem_nil) rfl rfl hl.1 rfl (Nat.le_of_ble_eq_true rfl) dX0_tells_51 ⟨Nat.zero_le _, Nat.zero_le _⟩ (fun r928 H locs hp hI hS => ?_)
          have hp929 := hp
          refine lv_istore (lv' := [(4, .int r928), (3, .int v874), (0, .ref h0), (1, .ref p1), (2, .int x2)]) hx hb dX0_tells_54 hl (by decide) rfl (fun ls hl => ?_)
          refine lv_iload hx hb dX0_tells_56 (lv_at hl 0 rfl) ?_
          refine lv_if_eq (tgt := 114) hx hb dX0_tells_58 (by decide) (fun c930 => ?_) (fun c930 => ?_)
          · skip
            have k931 := iv_eq (X := r928.toInt) (Y := (0)) rfl (by decide) c930
            obtain ⟨v932, e933⟩ : ∃ y : Int32, y = v874 + (-1) := ⟨_, rfl⟩
            have tv932 : v932.toInt = v874.toInt + (-1) := iv_add rfl (by decide) e933 (by omega) (by omega)
            refine lv_iinc (v := v932) (lv' := [(3, .int v932), (4, .int r928), (0, .ref h0), (1, .ref p1), (2, .int x2)]) hx hb dX0_tells_114 hl (k := 1) rfl (by rw [e933]; rfl) (by decide) rfl (fun ls hl => ?_)
            refine lv_goto (tgt := 7) hx hb dX0_tells_117 (by decide) ?_
            exact ih_7 _ (by omega) H locs ls v932 rfl (lv_sub hl [0, 2, 3, 4] rfl) ⟨by omega, by omega⟩ (by omega) hI hS
          · skip
            have k934 := iv_ne (X := r928.toInt) (Y := (0)) rfl (by decide) c930
            refine lv_aload_n hx hb dX0_tells_61 rfl (lv_at hl 2 rfl) ?_
            obtain ⟨a935, a937, w939, hO, hq936, hq938⟩ := op_8 hI hG0 List.not_mem_nil
            have hI := th_I.weak (a := h0) hI
            refine th_get hx hb hts inT0 hown hK hO rfl 2 (by decide) (hts _ (tb_c wd_180)) rfl rfl dX0_tells_62 ?_
            have k940 := iv_lo w939
            have k941 := iv_hi w939
            refine lv_if_eq (tgt := 114) hx hb dX0_tells_65 (by decide) (fun c942 => ?_) (fun c942 => ?_)
            · skip
              have k943 := iv_eq (X := w939.toInt) (Y := (0)) rfl (by decide) c942
              obtain ⟨v944, e945⟩ : ∃ y : Int32, y = v874 + (-1) := ⟨_, rfl⟩
              have tv944 : v944.toInt = v874.toInt + (-1) := iv_add rfl (by decide) e945 (by omega) (by omega)
              refine lv_iinc (v := v944) (lv' := [(3, .int v944), (4, .int r928), (0, .ref h0), (1, .ref p1), (2, .int x2)]) hx hb dX0_tells_114 hl (k := 1) rfl (by rw [e945]; rfl) (by decide) rfl (fun ls hl => ?_)
              refine lv_goto (tgt := 7) hx hb dX0_tells_117 (by decide) ?_
              have hI := th_I.close hI hG0 hO (ok_8 hq936 hq938)
              exact ih_7 _ (by omega) H locs ls v944 rfl (lv_sub hl [0, 2, 3, 4] rfl) ⟨by omega, by omega⟩ (by omega) hI hS
            · skip
              have k946 := iv_ne (X := w939.toInt) (Y := (0)) rfl (by decide) c942
              refine lv_aload_n hx hb dX0_tells_68 rfl (lv_at hl 2 rfl) ?_
              refine lv_aload_n hx hb dX0_tells_69 rfl (lv_at hl 3 rfl) ?_
              have hI := th_I.close hI hG0 hO (ok_8 hq936 hq938)
              obtain ⟨a947, a949, a951, m952, hO, hq948, hq950, ⟨hq953, k954⟩, k955⟩ := op_5 hI hp1 List.not_mem_nil
              have hI := th_I.weak (a := p1) hI
              have k956 : (nI n1).toInt = ((n1 : Nat) : Int) := nI_toInt (by omega)
              refine th_getN hx hb hts inT2 hown hK hN hO rfl 3 (by decide) wn_774 rfl rfl dX0_tells_70 ?_
              refine lv_aload_n hx hb dX0_tells_73 rfl (lv_at hl 3 rfl) ?_
              refine th_getN hx hb hts inT2 hown hK hN hO rfl 2 (by decide) wn_772 rfl rfl dX0_tells_74 ?_
              refine lv_iconst (v := 2) hx hb dX0_tells_77 (by decide) ?_
              refine lv_iload_n hx hb dX0_tells_78 rfl (lv_at hl 1 rfl) ?_
              refine lv_imul hx hb dX0_tells_79 ?_
              refine lv_topi (fun v957 e958 => ?_)
              have tv957 : v957.toInt = (2) * v874.toInt := iv_mul (by decide) rfl e958 (by omega) (by omega)
              obtain ⟨_, hA959⟩ := op_0 hI hq950 (th_ne hp1 hq950 (show (5 : Nat) ≠ 0 by decide))
              refine th_iald hx hb hK hA959 0 rfl (iv_in (X := v957.toInt) rfl (by omega) (by omega)) dX0_tells_80 (fun v960 _ => ?_)
              refine lv_aload_n hx hb dX0_tells_81 rfl (lv_at hl 3 rfl) ?_
              refine th_getN hx hb hts inT2 hown hK hN hO rfl 2 (by decide) wn_772 rfl rfl dX0_tells_82 ?_
              refine lv_iconst (v := 2) hx hb dX0_tells_85 (by decide) ?_
              refine lv_iload_n hx hb dX0_tells_86 rfl (lv_at hl 1 rfl) ?_
              refine lv_imul hx hb dX0_tells_87 ?_
              refine lv_topi (fun v961 e962 => ?_)
              have tv961 : v961.toInt = (2) * v874.toInt := iv_mul (by decide) rfl e962 (by omega) (by omega)
              refine lv_iconst (v := 1) hx hb dX0_tells_88 (by decide) ?_
              refine lv_iadd hx hb dX0_tells_89 ?_
              refine lv_topi (fun v963 e964 => ?_)
              have tv963 : v963.toInt = v961.toInt + (1) := iv_add rfl (by decide) e964 (by omega) (by omega)
              obtain ⟨_, hA965⟩ := op_0 hI hq950 (th_ne hp1 hq950 (show (5 : Nat) ≠ 0 by decide))
              refine th_iald hx hb hK hA965 0 rfl (iv_in (X := v963.toInt) rfl (by omega) (by omega)) dX0_tells_90 (fun v966 _ => ?_)
              have hI := th_I.close hI hp1 hO (ok_5 hq948 hq950 ⟨hq953, by omega⟩ (by omega))
              refine th_cVi (As := [.ref a951, .int v960, .int v966]) (rest := []) (n := 3) (d := 0) ⟨hx, hb, hml, hown, hts⟩ (c_X0_run l E D G h0 hG0 a951 (m952) hq953 (by omega) v960 v966) wd_575 wd_577 wp_6 wd_7 wd_578 (by decide +kernel) ⟨by rw [hR]; exact Nat.le_of_ble_eq_true rfl, by rw [hR]; exact Nat.le_of_ble_eq_true rfl⟩ hI hN hK hS (rc_8 hI hG0 List.not_mem_nil) rfl rfl hl.1 rfl (Nat.le_of_ble_eq_true rfl) dX0_tells_91 ⟨Nat.zero_le _, Nat.zero_le _⟩ (fun r967 H locs hp hI hS => ?_)
              have hp968 := hp
              refine lv_if_eq (tgt := 114) hx hb dX0_tells_94 (by decide) (fun c969 => ?_) (fun c969 => ?_)
              · skip
                have k970 := iv_eq (X := r967.toInt) (Y := (0)) rfl (by decide) c969
                obtain ⟨v971, e972⟩ : ∃ y : Int32, y = v874 + (-1) := ⟨_, rfl⟩
                have tv971 : v971.toInt = v874.toInt + (-1) := iv_add rfl (by decide) e972 (by omega) (by omega)
                refine lv_iinc (v := v971) (lv' := [(3, .int v971), (4, .int r928), (0, .ref h0), (1, .ref p1), (2, .int x2)]) hx hb dX0_tells_114 hl (k := 1) rfl (by rw [e972]; rfl) (by decide) rfl (fun ls hl => ?_)
                refine lv_goto (tgt := 7) hx hb dX0_tells_117 (by decide) ?_
                exact ih_7 _ (by omega) H locs ls v971 rfl (lv_sub hl [0, 2, 3, 4] rfl) ⟨by omega, by omega⟩ (by omega) hI hS
              · skip
                have k973 := iv_ne (X := r967.toInt) (Y := (0)) rfl (by decide) c969
                refine lv_iload_n hx hb dX0_tells_97 rfl (lv_at hl 4 rfl) ?_
                refine lv_iconst (v := 3) hx hb dX0_tells_98 (by decide) ?_
                refine lv_icmp_ne (tgt := 106) hx hb dX0_tells_99 (by decide) (fun c974 => ?_) (fun c974 => ?_)
                · skip
                  have k975 := iv_ne (X := x2.toInt) (Y := (3)) rfl (by decide) c974
                  refine lv_aload_n hx hb dX0_tells_106 rfl (lv_at hl 2 rfl) ?_
                  obtain ⟨a976, a978, w980, hO, hq977, hq979⟩ := op_8 hI hG0 List.not_mem_nil
                  have hI := th_I.weak (a := h0) hI
                  refine th_get hx hb hts inT0 hown hK hO rfl 1 (by decide) (hts _ (tb_c wd_179)) rfl rfl dX0_tells_107 ?_
                  refine lv_iconst (v := 0) hx hb dX0_tells_110 (by decide) ?_
                  obtain ⟨_, hA981⟩ := op_1 hI hq979 (th_ne hG0 hq979 (show (8 : Nat) ≠ 1 by decide))
                  refine va_lald hx hb hK (th_one hA981) 0 1 rfl rfl (iv_in (X := (0)) (by decide) (by omega) (by omega)) dX0_tells_111 ?_
                  refine lv_topl (fun l982 e983 => ?_)
                  refine lv_l2i hx hb dX0_tells_112 rfl ?_
                  refine lv_topi (fun v984 e985 => ?_)
                  have hI := th_I.close hI hG0 hO (ok_8 hq977 hq979)
                  have hpost : True := trivial
                  rw [hQ]
                  exact W.iret (v := v984) hx hb hr (fun t ht hW => ⟨⟨v984, (), rfl, hpost, by rw [ht]; exact hI, hN.warm hW, va_K.moved hW.alike hK⟩, hS.F ht⟩) hS.2.2 dX0_tells_113
                · skip
                  have k986 := iv_eq (X := x2.toInt) (Y := (3)) rfl (by decide) c974
                  refine lv_iconst (v := 0) hx hb dX0_tells_102 (by decide) ?_
                  refine lv_goto (tgt := 113) hx hb dX0_tells_103 (by decide) ?_
                  have hpost : True := trivial
                  rw [hQ]
                  exact W.iret (v := 0) hx hb hr (fun t ht hW => ⟨⟨0, (), rfl, hpost, by rw [ht]; exact hI, hN.warm hW, va_K.moved hW.alike hK⟩, hS.F ht⟩) hS.2.2 dX0_tells_113
  refine lv_aload_n hx hb dX0_tells_0 rfl (lv_at hl 1 rfl) ?_
  obtain ⟨a987, a989, a991, m992, hO, hq988, hq990, ⟨hq993, k994⟩, k995⟩ := op_5 hI hp1 List.not_mem_nil
  have hI := th_I.weak (a := p1) hI
  have k996 : (nI n1).toInt = ((n1 : Nat) : Int) := nI_toInt (by omega)
  refine th_getN hx hb hts inT2 hown hK hN hO rfl 0 (by decide) wn_768 rfl rfl dX0_tells_1 ?_
  refine lv_iconst (v := 1) hx hb dX0_tells_4 (by decide) ?_
  refine lv_isub hx hb dX0_tells_5 ?_
  refine lv_topi (fun v997 e998 => ?_)
  have tv997 : v997.toInt = (nI n1).toInt - (1) := iv_sub rfl (by decide) e998 (by omega) (by omega)
  refine lv_istore_n (lv' := [(3, .int v997), (0, .ref h0), (1, .ref p1), (2, .int x2)]) hx hb dX0_tells_6 rfl hl (by decide) rfl (fun ls hl => ?_)
  have hI := th_I.close hI hp1 hO (ok_5 hq988 hq990 ⟨hq993, by omega⟩ (by omega))
  exact J_7 _ s.heap [] ls v997 rfl (lv_sub hl [0, 1, 2, 3] rfl) ⟨by omega, by omega⟩ (by omega) hI hS
