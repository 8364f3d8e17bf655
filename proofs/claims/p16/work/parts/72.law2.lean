theorem wd_643 : (Cond.methodLink RX11 (197 : Nat) yX3_read) ∈ TB := tw 643 (by decide +kernel) (by decide +kernel)
theorem wd_644 : (Jvm.Cond.instanceMethod yX3_read) ∈ TB := tw 644 (by decide +kernel) (by decide +kernel)
theorem wd_645 : (Cond.selects RX3 yX3_read yX3_read) ∈ TB := tw 645 (by decide +kernel) (by decide +kernel)
theorem wd_646 : (Cond.code yX3_read cX3_read 7 (Option.some (Jvm.ClassFile.FieldType.object "NineRiver$Law"))) ∈ TB := tw 646 (by decide +kernel) (by decide +kernel)
theorem wd_785 : (Cond.methodLink RX11 (201 : Nat) yX3_stoppedAt) ∈ TB := tw 785 (by decide +kernel) (by decide +kernel)
theorem wd_786 : (Jvm.Cond.instanceMethod yX3_stoppedAt) ∈ TB := tw 786 (by decide +kernel) (by decide +kernel)
theorem wd_787 : (Cond.selects RX3 yX3_stoppedAt yX3_stoppedAt) ∈ TB := tw 787 (by decide +kernel) (by decide +kernel)
theorem wd_788 : (Cond.code yX3_stoppedAt cX3_stoppedAt 1 (Option.some Jvm.ClassFile.FieldType.int)) ∈ TB := tw 788 (by decide +kernel) (by decide +kernel)
theorem wd_789 : (Cond.methodLink RX11 (204 : Nat) yX6_keepLaw) ∈ TB := tw 789 (by decide +kernel) (by decide +kernel)
theorem wd_790 : (Jvm.Cond.instanceMethod yX6_keepLaw) ∈ TB := tw 790 (by decide +kernel) (by decide +kernel)
theorem wd_791 : (Cond.selects RX6 yX6_keepLaw yX6_keepLaw) ∈ TB := tw 791 (by decide +kernel) (by decide +kernel)
theorem wd_792 : (Cond.code yX6_keepLaw cX6_keepLaw 2 (Option.some Jvm.ClassFile.FieldType.int)) ∈ TB := tw 792 (by decide +kernel) (by decide +kernel)
theorem dX11_law_0g : (decode cX11_law 0 = .ok (.aload_n 0, 1)) ∧ (decode cX11_law 1 = .ok (.getfield 89, 3)) ∧ (decode cX11_law 4 = .ok (.istore_n 1, 1)) ∧ (decode cX11_law 5 = .ok (.aload_n 0, 1)) ∧ (decode cX11_law 6 = .ok (.iconst 0, 1)) ∧ (decode cX11_law 7 = .ok (.putfield 89, 3)) ∧ (decode cX11_law 10 = .ok (.aload_n 0, 1)) ∧ (decode cX11_law 11 = .ok (.getfield 12, 3)) ∧ (decode cX11_law 14 = .ok (.getfield 194, 3)) ∧ (decode cX11_law 17 = .ok (.bipush 6, 2)) := by decide +kernel
theorem dX11_law_0 : decode cX11_law 0 = .ok (.aload_n 0, 1) := dX11_law_0g.1
theorem dX11_law_1 : decode cX11_law 1 = .ok (.getfield 89, 3) := dX11_law_0g.2.1
theorem dX11_law_4 : decode cX11_law 4 = .ok (.istore_n 1, 1) := dX11_law_0g.2.2.1
theorem dX11_law_5 : decode cX11_law 5 = .ok (.aload_n 0, 1) := dX11_law_0g.2.2.2.1
theorem dX11_law_6 : decode cX11_law 6 = .ok (.iconst 0, 1) := dX11_law_0g.2.2.2.2.1
theorem dX11_law_7 : decode cX11_law 7 = .ok (.putfield 89, 3) := dX11_law_0g.2.2.2.2.2.1
theorem dX11_law_10 : decode cX11_law 10 = .ok (.aload_n 0, 1) := dX11_law_0g.2.2.2.2.2.2.1
theorem dX11_law_11 : decode cX11_law 11 = .ok (.getfield 12, 3) := dX11_law_0g.2.2.2.2.2.2.2.1
theorem dX11_law_14 : decode cX11_law 14 = .ok (.getfield 194, 3) := dX11_law_0g.2.2.2.2.2.2.2.2.1
theorem dX11_law_17 : decode cX11_law 17 = .ok (.bipush 6, 2) := dX11_law_0g.2.2.2.2.2.2.2.2.2
theorem dX11_law_19g : (decode cX11_law 19 = .ok (.if_icmp .lt 10, 3)) ∧ (decode cX11_law 22 = .ok (.aload_n 0, 1)) ∧ (decode cX11_law 23 = .ok (.bipush (-5), 2)) ∧ (decode cX11_law 25 = .ok (.invokevirtual 113, 3)) ∧ (decode cX11_law 28 = .ok (.ireturn, 1)) ∧ (decode cX11_law 29 = .ok (.aload_n 0, 1)) ∧ (decode cX11_law 30 = .ok (.getfield 33, 3)) ∧ (decode cX11_law 33 = .ok (.aload_n 0, 1)) ∧ (decode cX11_law 34 = .ok (.getfield 20, 3)) ∧ (decode cX11_law 37 = .ok (.iload_n 1, 1)) := by decide +kernel
theorem dX11_law_19 : decode cX11_law 19 = .ok (.if_icmp .lt 10, 3) := dX11_law_19g.1
theorem dX11_law_22 : decode cX11_law 22 = .ok (.aload_n 0, 1) := dX11_law_19g.2.1
theorem dX11_law_23 : decode cX11_law 23 = .ok (.bipush (-5), 2) := dX11_law_19g.2.2.1
theorem dX11_law_25 : decode cX11_law 25 = .ok (.invokevirtual 113, 3) := dX11_law_19g.2.2.2.1
theorem dX11_law_28 : decode cX11_law 28 = .ok (.ireturn, 1) := dX11_law_19g.2.2.2.2.1
theorem dX11_law_29 : decode cX11_law 29 = .ok (.aload_n 0, 1) := dX11_law_19g.2.2.2.2.2.1
theorem dX11_law_30 : decode cX11_law 30 = .ok (.getfield 33, 3) := dX11_law_19g.2.2.2.2.2.2.1
theorem dX11_law_33 : decode cX11_law 33 = .ok (.aload_n 0, 1) := dX11_law_19g.2.2.2.2.2.2.2.1
theorem dX11_law_34 : decode cX11_law 34 = .ok (.getfield 20, 3) := dX11_law_19g.2.2.2.2.2.2.2.2.1
theorem dX11_law_37 : decode cX11_law 37 = .ok (.iload_n 1, 1) := dX11_law_19g.2.2.2.2.2.2.2.2.2
theorem dX11_law_38g : (decode cX11_law 38 = .ok (.invokevirtual 197, 3)) ∧ (decode cX11_law 41 = .ok (.astore_n 2, 1)) ∧ (decode cX11_law 42 = .ok (.aload_n 0, 1)) ∧ (decode cX11_law 43 = .ok (.aload_n 2, 1)) ∧ (decode cX11_law 44 = .ok (.ifnonnull 13, 3)) ∧ (decode cX11_law 47 = .ok (.aload_n 0, 1)) ∧ (decode cX11_law 48 = .ok (.getfield 33, 3)) ∧ (decode cX11_law 51 = .ok (.invokevirtual 201, 3)) ∧ (decode cX11_law 54 = .ok (.goto 4, 3)) ∧ (decode cX11_law 57 = .ok (.iconst (-1), 1)) := by decide +kernel
theorem dX11_law_38 : decode cX11_law 38 = .ok (.invokevirtual 197, 3) := dX11_law_38g.1
theorem dX11_law_41 : decode cX11_law 41 = .ok (.astore_n 2, 1) := dX11_law_38g.2.1
theorem dX11_law_42 : decode cX11_law 42 = .ok (.aload_n 0, 1) := dX11_law_38g.2.2.1
theorem dX11_law_43 : decode cX11_law 43 = .ok (.aload_n 2, 1) := dX11_law_38g.2.2.2.1
theorem dX11_law_44 : decode cX11_law 44 = .ok (.ifnonnull 13, 3) := dX11_law_38g.2.2.2.2.1
theorem dX11_law_47 : decode cX11_law 47 = .ok (.aload_n 0, 1) := dX11_law_38g.2.2.2.2.2.1
theorem dX11_law_48 : decode cX11_law 48 = .ok (.getfield 33, 3) := dX11_law_38g.2.2.2.2.2.2.1
theorem dX11_law_51 : decode cX11_law 51 = .ok (.invokevirtual 201, 3) := dX11_law_38g.2.2.2.2.2.2.2.1
theorem dX11_law_54 : decode cX11_law 54 = .ok (.goto 4, 3) := dX11_law_38g.2.2.2.2.2.2.2.2.1
theorem dX11_law_57 : decode cX11_law 57 = .ok (.iconst (-1), 1) := dX11_law_38g.2.2.2.2.2.2.2.2.2
theorem dX11_law_58g : (decode cX11_law 58 = .ok (.putfield 93, 3)) ∧ (decode cX11_law 61 = .ok (.aload_n 2, 1)) ∧ (decode cX11_law 62 = .ok (.ifnonnull 10, 3)) ∧ (decode cX11_law 65 = .ok (.aload_n 0, 1)) ∧ (decode cX11_law 66 = .ok (.bipush (-6), 2)) ∧ (decode cX11_law 68 = .ok (.invokevirtual 113, 3)) ∧ (decode cX11_law 71 = .ok (.ireturn, 1)) ∧ (decode cX11_law 72 = .ok (.aload_n 0, 1)) ∧ (decode cX11_law 73 = .ok (.aload_n 0, 1)) ∧ (decode cX11_law 74 = .ok (.getfield 12, 3)) := by decide +kernel
theorem dX11_law_58 : decode cX11_law 58 = .ok (.putfield 93, 3) := dX11_law_58g.1
theorem dX11_law_61 : decode cX11_law 61 = .ok (.aload_n 2, 1) := dX11_law_58g.2.1
theorem dX11_law_62 : decode cX11_law 62 = .ok (.ifnonnull 10, 3) := dX11_law_58g.2.2.1
theorem dX11_law_65 : decode cX11_law 65 = .ok (.aload_n 0, 1) := dX11_law_58g.2.2.2.1
theorem dX11_law_66 : decode cX11_law 66 = .ok (.bipush (-6), 2) := dX11_law_58g.2.2.2.2.1
theorem dX11_law_68 : decode cX11_law 68 = .ok (.invokevirtual 113, 3) := dX11_law_58g.2.2.2.2.2.1
theorem dX11_law_71 : decode cX11_law 71 = .ok (.ireturn, 1) := dX11_law_58g.2.2.2.2.2.2.1
theorem dX11_law_72 : decode cX11_law 72 = .ok (.aload_n 0, 1) := dX11_law_58g.2.2.2.2.2.2.2.1
theorem dX11_law_73 : decode cX11_law 73 = .ok (.aload_n 0, 1) := dX11_law_58g.2.2.2.2.2.2.2.2.1
theorem dX11_law_74 : decode cX11_law 74 = .ok (.getfield 12, 3) := dX11_law_58g.2.2.2.2.2.2.2.2.2
theorem dX11_law_77g : (decode cX11_law 77 = .ok (.aload_n 2, 1)) ∧ (decode cX11_law 78 = .ok (.invokevirtual 204, 3)) ∧ (decode cX11_law 81 = .ok (.invokevirtual 127, 3)) ∧ (decode cX11_law 84 = .ok (.ireturn, 1)) := by decide +kernel
theorem dX11_law_77 : decode cX11_law 77 = .ok (.aload_n 2, 1) := dX11_law_77g.1
theorem dX11_law_78 : decode cX11_law 78 = .ok (.invokevirtual 204, 3) := dX11_law_77g.2.1
theorem dX11_law_81 : decode cX11_law 81 = .ok (.invokevirtual 127, 3) := dX11_law_77g.2.2.1
theorem dX11_law_84 : decode cX11_law 84 = .ok (.ireturn, 1) := dX11_law_77g.2.2.2
set_option maxHeartbeats 4000000 in
set_option maxRecDepth 100000 in
theorem c_X11_law (l : Launch) (E : Nat → Nat) (D : va_G) (Gi : th_G) (sz : Nat) (adK adV : Nat → Nat) (h0 n : Nat) (hG0 : Gi h0 = some (15, n)) (sa ta ra : Nat) (e1 : E (1000 + 512 * h0) = sa + 1) (e3 : E (1003 + 512 * h0) = ta + 1) (e5 : E (1004 + 512 * h0) = ra + 1) : Met l yX11_law (tb (.code yX11_law cX11_law 3 (some .int))) ({ frames := 50, cells := 4, slots := 441, locals := 2000 } : Room) (va_Pc [.ref h0] (PLw E D Gi sz adK adV)) (QMI (mL E (1001 + 512 * h0) (1002 + 512 * h0) (1000 + 512 * sa) (tC E ta)) D Gi sz (fun r => (r : Int32).toInt = lwR (E (1000 + 512 * sa)) (lwo (tC E ta) (E (1001 + 512 * h0))))) 4 441 (nA Gi sz) := by
  refine Met.ofW (cc := cX11_law) (maxL := 3) (ret := (some .int)) (by decide) rfl ?_
  intro p e s m args below meth c s₁ B hml hv
  obtain ⟨hav, rfl, ⟨hI, hN, hK⟩, hWS, hCL⟩ := hv
  have hx := B.exec
  have hb := B.bytes
  have hr := B.returns
  have hts := atoms_spec (ws := tb (.code yX11_law cX11_law 3 (some .int))) B.pre
  have hown : s.vm.findClass RX11 = some m.cls := findClass_of_methodNamed B.named
  have hlocks := B.notSynchronized
  have hl := lv_entry ([.ref h0]) (n := 3) (Nat.le_of_ble_eq_true rfl)
  rw [show entryFrame m args 3 = entryFrame m ([.ref h0] : List Value).toArray 3 from by rw [hav], lg_entry_eq]
  generalize (lg_sl ([.ref h0]) ++ List.replicate (3 - (lg_sl ([.ref h0])).length) Slot.unset).toArray = ls at hl ⊢
  have hl : lv_has ls 3 [(0, .ref h0)] := hl
  generalize hR : (headSpec (tb (.code yX11_law cX11_law 3 (some .int))) ({ frames := 50, cells := 4, slots := 441, locals := 2000 } : Room)).room = R
  have hR := hR.symm
  generalize hAe : nA Gi s.heap.size = A at hWS
  have hA : ∀ q : Nat, s.heap.size ≤ q → A q := fun q h => by rw [← hAe]; exact Or.inr h
  have hS : va_S A s.heap s.heap [] := va_S.rf
  obtain ⟨G, hle0, hI, hAG, hG0⟩ : ∃ G, gle Gi G ∧ th_I (okC E) D G [] s.heap ∧ (∀ (r : Nat) (k : th_K), G r = some k → A r) ∧ G h0 = some (15, n) := ⟨Gi, gle.rf, hI, fun r k h => by rw [← hAe]; exact Or.inl ⟨k, h⟩, hG0⟩
  generalize hQ : MQ below (QMI (mL E (1001 + 512 * h0) (1002 + 512 * h0) (1000 + 512 * sa) (tC E ta)) D Gi s.heap.size (fun r => (r : Int32).toInt = lwR (E (1000 + 512 * sa)) (lwo (tC E ta) (E (1001 + 512 * h0))))) args s 4 441 A = QF
  have hQ := hQ.symm
  refine lv_aload_n hx hb dX11_law_0 rfl (lv_at hl 0 rfl) ?_
  obtain ⟨a1, a4, a6, a8, a10, a12, a14, a16, a18, a20, a22, w24, w27, w28, w29, w30, hO, hq2, hq3, hq5, hq7, hq9, hq11, hq13, hq15, hq17, hq19, hq21, hq23, ⟨k25, k26⟩, k31⟩ := op_15 hI hG0 List.not_mem_nil
  have hI := th_I.weak (a := h0) hI
  have k32 : w24.toInt = ((E (1001 + 512 * h0) : Nat) : Int) := k31.2.1
  have k33 : w27.toInt = ((E (1002 + 512 * h0) : Nat) : Int) - 1 := k31.2.2.1
  obtain rfl := eaU_q k31.1 e1
  obtain rfl := eaU_q k31.2.2.2.2 e5
  obtain rfl := eaU_q k31.2.2.2.1 e3
  refine th_get hx hb hts inT11 hown hK hO rfl 12 (by decide) (hts _ (tb_c wd_357)) rfl rfl dX11_law_1 ?_
  refine lv_istore_n (lv' := [(1, .int w24), (0, .ref h0)]) hx hb dX11_law_4 rfl hl (by decide) rfl (fun ls hl => ?_)
  refine lv_aload_n hx hb dX11_law_5 rfl (lv_at hl 1 rfl) ?_
  refine lv_iconst (v := 0) hx hb dX11_law_6 (by decide) ?_
  refine th_put (ty := .int) hx hb hts inT11 tyX11 tyX11_ok nmX11 hown hK hO hS (hAG _ _ hG0) rfl 12 (by decide) (hts _ (tb_c wd_357)) rfl rfl (by decide +kernel) rfl rfl (Nat.le_of_ble_eq_true rfl) dX11_law_7 (fun H locs hO oq hS => ?_)
  have hI := th_I.moved hI oq
  have k34 : (0 : Int32).toInt = 0 := by decide
  have hO : va_at D vwCl (h0, .inr (11, [.ref sa, .ref n, .ref ta, .ref a6, .ref a8, .ref ra, .ref a12, .ref a14, .ref a16, .ref a18, .ref a20, .ref a22, .int 0, .int w27, .int w28, .int w29, .int w30])) H := hO
  obtain ⟨Eu35, hEu35⟩ : ∃ x : Nat → Nat, x = eu E (1001 + 512 * h0) ((0 : Int32).toInt.toNat) := ⟨_, rfl⟩
  have hI : th_I (okC Eu35) D G [] H := by rw [hEu35]; exact ea_close hI hG0 hO ⟨by omega, by omega⟩ (ok_15 hq2 hq3 hq5 hq7 hq9 hq11 hq13 hq15 hq17 hq19 hq21 hq23 ⟨by omega, by omega⟩ ⟨by rw [eu_ne (by omega)]; exact k31.1, by show (0 : Int32).toInt = ((eu E (1001 + 512 * h0) ((0 : Int32).toInt.toNat) (1001 + 512 * h0) : Nat) : Int); rw [eu_at]; omega, by show _ = ((eu E (1001 + 512 * h0) ((0 : Int32).toInt.toNat) (1002 + 512 * h0) : Nat) : Int) - 1; rw [eu_ne (by omega)]; exact k31.2.2.1, by rw [eu_ne (by omega)]; exact k31.2.2.2.1, by rw [eu_ne (by omega)]; exact k31.2.2.2.2⟩)
  have hK : va_K D vwCl (th_tys Eu35) s := by rw [hEu35, tys_eu (by omega)]; exact hK
  have zEu35 : Eu35 (1001 + 512 * h0) = ((0 : Int32).toInt.toNat) := by rw [hEu35]; exact eu_at
  have e1 : Eu35 (1000 + 512 * h0) = sa + 1 := by rw [hEu35, eu_ne (by omega)]; exact e1
  have e3 : Eu35 (1003 + 512 * h0) = ta + 1 := by rw [hEu35, eu_ne (by omega)]; exact e3
  have e5 : Eu35 (1004 + 512 * h0) = ra + 1 := by rw [hEu35, eu_ne (by omega)]; exact e5
  have k36 : Eu35 (1002 + 512 * h0) = E (1002 + 512 * h0) := by rw [hEu35, eu_ne (by omega)]
  have k37 : Eu35 (1000 + 512 * sa) = E (1000 + 512 * sa) := by rw [hEu35, eu_ne (by omega)]
  refine lv_aload_n hx hb dX11_law_10 rfl (lv_at hl 1 rfl) ?_
  obtain ⟨a38, a41, a43, a45, a47, a49, a51, a53, a55, a57, a59, w61, w64, w65, w66, w67, hO, hq39, hq40, hq42, hq44, hq46, hq48, hq50, hq52, hq54, hq56, hq58, hq60, ⟨k62, k63⟩, k68⟩ := op_15 hI hG0 List.not_mem_nil
  have hI := th_I.weak (a := h0) hI
  have k69 : w61.toInt = ((Eu35 (1001 + 512 * h0) : Nat) : Int) := k68.2.1
  have k70 : w64.toInt = ((Eu35 (1002 + 512 * h0) : Nat) : Int) - 1 := k68.2.2.1
  obtain rfl := eaU_q k68.1 e1
  obtain rfl := eaU_q k68.2.2.2.2 e5
  obtain rfl := eaU_q k68.2.2.2.1 e3
  refine th_get hx hb hts inT11 hown hK hO rfl 0 (by decide) (hts _ (tb_c wd_345)) rfl rfl dX11_law_11 ?_
  have hI := th_I.close hI hG0 hO (ok_15 hq39 hq40 hq42 hq44 hq46 hq48 hq50 hq52 hq54 hq56 hq58 hq60 ⟨by omega, by omega⟩ k68)
  obtain ⟨a71, a73, a75, a77, a79, a81, a83, a85, a87, a89, w91, w94, w95, w96, hO, hq72, hq74, hq76, hq78, hq80, hq82, hq84, hq86, hq88, hq90, ⟨k92, k93⟩, k97⟩ := op_6 hI hq39 List.not_mem_nil
  have hI := th_I.weak (a := sa) hI
  refine th_getN hx hb hts inT6 hown hK hN hO rfl 10 (by decide) wn_83 rfl rfl dX11_law_14 ?_
  have k98 := eaW_out k97
  refine lv_bipush (v := 6) hx hb dX11_law_17 (by decide) ?_
  refine lv_icmp_lt (tgt := 29) hx hb dX11_law_19 (by decide) (fun c99 => ?_) (fun c99 => ?_)
  · skip
    have k100 := iv_lt (X := w91.toInt) (Y := (6)) rfl (by decide) c99
    refine lv_aload_n hx hb dX11_law_29 rfl (lv_at hl 1 rfl) ?_
    have hI := th_I.close hI hq39 hO (ok_6 hq72 hq74 hq76 hq78 hq80 hq82 hq84 hq86 hq88 hq90 ⟨by omega, by omega⟩ k97)
    obtain ⟨a101, a104, a106, a108, a110, a112, a114, a116, a118, a120, a122, w124, w127, w128, w129, w130, hO, hq102, hq103, hq105, hq107, hq109, hq111, hq113, hq115, hq117, hq119, hq121, hq123, ⟨k125, k126⟩, k131⟩ := op_15 hI hG0 List.not_mem_nil
    have hI := th_I.weak (a := h0) hI
    have k132 : w124.toInt = ((Eu35 (1001 + 512 * h0) : Nat) : Int) := k131.2.1
    have k133 : w127.toInt = ((Eu35 (1002 + 512 * h0) : Nat) : Int) - 1 := k131.2.2.1
    obtain rfl := eaU_q k131.1 e1
    obtain rfl := eaU_q k131.2.2.2.2 e5
    obtain rfl := eaU_q k131.2.2.2.1 e3
    refine th_get hx hb hts inT11 hown hK hO rfl 5 (by decide) (hts _ (tb_c wd_350)) rfl rfl dX11_law_30 ?_
    refine lv_aload_n hx hb dX11_law_33 rfl (lv_at hl 1 rfl) ?_
    refine th_get hx hb hts inT11 hown hK hO rfl 2 (by decide) (hts _ (tb_c wd_347)) rfl rfl dX11_law_34 ?_
    refine lv_iload_n hx hb dX11_law_37 rfl (lv_at hl 0 rfl) ?_
    have hI := th_I.close hI hG0 hO (ok_15 hq102 hq103 hq105 hq107 hq109 hq111 hq113 hq115 hq117 hq119 hq121 hq123 ⟨by omega, by omega⟩ k131)
    have hCL : th_CL Eu35 s := ⟨hCL.1, by rw [hEu35, eu_ne (by omega)]; exact hCL.2⟩
    refine th_cQx (As := [.ref ta, .int w24]) (rest := []) (n := 2) ⟨hx, hb, hml, hown, hts⟩ (c_X3_read l Eu35 D G H.size adK adV ra hq111 ta hq105 w24 (E (1001 + 512 * h0)) (by omega) (by omega)) wd_643 wd_644 wd_645 wd_5 wd_646 ⟨rfl, rfl⟩ (by decide +kernel) ⟨by rw [hR]; exact Nat.le_of_ble_eq_true rfl, by rw [hR]; exact Nat.le_of_ble_eq_true rfl⟩ hI hN hK hWS hCL hS hA hAG (rc_7 hI hq111 List.not_mem_nil) rfl rfl hl.1 rfl (Nat.le_of_ble_eq_true rfl) dX11_law_38 ⟨by rw [hR]; exact Nat.le_of_ble_eq_true rfl, by rw [hR]; exact Nat.le_of_ble_eq_true rfl⟩ (fun r134 G H locs hp hle hAG hI hY hS => ?_)
    have hG0 := hle _ _ hG0
    have hle0 := hle0.tr hle
    obtain _ | a135 := r134
    · skip
      obtain ⟨ft, fp, fn, TT, pq, nj, Lj, hRC, hO9⟩ := hY.1 rfl
      have hO9 := OUTR_cg (B' := tC E ta) (fun j hj => by show E (1100 + 512 * ta + j) = Eu35 (1100 + 512 * ta + j); rw [hEu35, eu_ne (by omega)]) hO9
      have hnn9 := OUTR_nn hO9
      refine lv_astore_nN (lv' := [(2, .null), (1, .int w24), (0, .ref h0)]) hx hb dX11_law_41 rfl hl (by decide) rfl (fun ls hl => ?_)
      refine lv_aload_n hx hb dX11_law_42 rfl (lv_at hl 2 rfl) ?_
      refine lv_aload_nN hx hb dX11_law_43 rfl (lv_at hl 0 rfl) ?_
      refine lv_ifnonnullN hx hb dX11_law_44 ?_
      refine lv_aload_n hx hb dX11_law_47 rfl (lv_at hl 2 rfl) ?_
      obtain ⟨a138, a141, a143, a145, a147, a149, a151, a153, a155, a157, a159, w161, w164, w165, w166, w167, hO, hq139, hq140, hq142, hq144, hq146, hq148, hq150, hq152, hq154, hq156, hq158, hq160, ⟨k162, k163⟩, k168⟩ := op_15 hI hG0 List.not_mem_nil
      have hI := th_I.weak (a := h0) hI
      have k169 : w161.toInt = ((Eu35 (1001 + 512 * h0) : Nat) : Int) := k168.2.1
      have k170 : w164.toInt = ((Eu35 (1002 + 512 * h0) : Nat) : Int) - 1 := k168.2.2.1
      obtain rfl := eaU_q k168.1 e1
      obtain rfl := eaU_q k168.2.2.2.2 e5
      obtain rfl := eaU_q k168.2.2.2.1 e3
      refine th_get hx hb hts inT11 hown hK hO rfl 5 (by decide) (hts _ (tb_c wd_350)) rfl rfl dX11_law_48 ?_
      have hI := th_I.close hI hG0 hO (ok_15 hq139 hq140 hq142 hq144 hq146 hq148 hq150 hq152 hq154 hq156 hq158 hq160 ⟨by omega, by omega⟩ k168)
      refine nr_i (As := []) (rest := [.ref h0]) (n := 0) (d := 0) ⟨hx, hb, hml, hown, hts⟩ (c_X3_stoppedAt l Eu35 D G H ra hq148 ft fp fn TT pq nj Lj hRC) wd_785 wd_786 wd_787 wd_5 wd_788 (by decide +kernel) ⟨by rw [hR]; exact Nat.le_of_ble_eq_true rfl, by rw [hR]; exact Nat.le_of_ble_eq_true rfl⟩ hI hN hK hS hq148 rfl hl.1 rfl (Nat.le_of_ble_eq_true rfl) dX11_law_51 ⟨by rw [hR]; exact Nat.le_of_ble_eq_true rfl, by rw [hR]; exact Nat.le_of_ble_eq_true rfl⟩ (fun r171 locs hst hS => ?_)
      refine lv_goto (tgt := 58) hx hb dX11_law_54 (by decide) ?_
      obtain ⟨a172, a175, a177, a179, a181, a183, a185, a187, a189, a191, a193, w195, w198, w199, w200, w201, hO, hq173, hq174, hq176, hq178, hq180, hq182, hq184, hq186, hq188, hq190, hq192, hq194, ⟨k196, k197⟩, k202⟩ := op_15 hI hG0 List.not_mem_nil
      have hI := th_I.weak (a := h0) hI
      have k203 : w195.toInt = ((Eu35 (1001 + 512 * h0) : Nat) : Int) := k202.2.1
      have k204 : w198.toInt = ((Eu35 (1002 + 512 * h0) : Nat) : Int) - 1 := k202.2.2.1
      obtain rfl := eaU_q k202.1 e1
      obtain rfl := eaU_q k202.2.2.2.2 e5
      obtain rfl := eaU_q k202.2.2.2.1 e3
      refine th_put (ty := .int) hx hb hts inT11 tyX11 tyX11_ok nmX11 hown hK hO hS (hAG _ _ hG0) rfl 13 (by decide) (hts _ (tb_c wd_358)) rfl rfl (by decide +kernel) rfl rfl (Nat.le_of_ble_eq_true rfl) dX11_law_58 (fun H locs hO oq hS => ?_)
      have hI := th_I.moved hI oq
      have hO : va_at D vwCl (h0, .inr (11, [.ref sa, .ref n, .ref ta, .ref a177, .ref a179, .ref ra, .ref a183, .ref a185, .ref a187, .ref a189, .ref a191, .ref a193, .int w195, .int r171, .int w199, .int w200, .int w201])) H := hO
      obtain ⟨Eu205, hEu205⟩ : ∃ x : Nat → Nat, x = eu Eu35 (1002 + 512 * h0) (((r171 : Int32).toInt + 1).toNat) := ⟨_, rfl⟩
      have hI : th_I (okC Eu205) D G [] H := by rw [hEu205]; exact ea_close hI hG0 hO ⟨by omega, by omega⟩ (ok_15 hq173 hq174 hq176 hq178 hq180 hq182 hq184 hq186 hq188 hq190 hq192 hq194 ⟨by omega, by omega⟩ ⟨by rw [eu_ne (by omega)]; exact k202.1, by show _ = ((eu Eu35 (1002 + 512 * h0) (((r171 : Int32).toInt + 1).toNat) (1001 + 512 * h0) : Nat) : Int); rw [eu_ne (by omega)]; exact k202.2.1, by show (r171 : Int32).toInt = ((eu Eu35 (1002 + 512 * h0) (((r171 : Int32).toInt + 1).toNat) (1002 + 512 * h0) : Nat) : Int) - 1; rw [eu_at]; omega, by rw [eu_ne (by omega)]; exact k202.2.2.2.1, by rw [eu_ne (by omega)]; exact k202.2.2.2.2⟩)
      have hK : va_K D vwCl (th_tys Eu205) s := by rw [hEu205, tys_eu (by omega)]; exact hK
      have zEu205 : Eu205 (1002 + 512 * h0) = (((r171 : Int32).toInt + 1).toNat) := by rw [hEu205]; exact eu_at
      have e1 : Eu205 (1000 + 512 * h0) = sa + 1 := by rw [hEu205, eu_ne (by omega)]; exact e1
      have e3 : Eu205 (1003 + 512 * h0) = ta + 1 := by rw [hEu205, eu_ne (by omega)]; exact e3
      have e5 : Eu205 (1004 + 512 * h0) = ra + 1 := by rw [hEu205, eu_ne (by omega)]; exact e5
      have k206 : Eu205 (1001 + 512 * h0) = Eu35 (1001 + 512 * h0) := by rw [hEu205, eu_ne (by omega)]
      have k207 : Eu205 (1000 + 512 * sa) = Eu35 (1000 + 512 * sa) := by rw [hEu205, eu_ne (by omega)]
      refine lv_aload_nN hx hb dX11_law_61 rfl (lv_at hl 0 rfl) ?_
      refine lv_ifnonnullN hx hb dX11_law_62 ?_
      refine lv_aload_n hx hb dX11_law_65 rfl (lv_at hl 2 rfl) ?_
      refine lv_bipush (v := (-6)) hx hb dX11_law_66 (by decide) ?_
      refine th_xVi (As := [.int (-6)]) (rest := []) (n := 1) (d := 0) ⟨hx, hb, hml, hown, hts⟩ (c_X11_refuse l Eu205 D G h0 (n) hG0 (-6)) wd_407 wd_409 wp_0 wd_1 wd_410 (by decide +kernel) ⟨by rw [hR]; exact Nat.le_of_ble_eq_true rfl, by rw [hR]; exact Nat.le_of_ble_eq_true rfl⟩ hI hN hK hS hAG (rc_15 hI hG0 List.not_mem_nil) rfl rfl hl.1 rfl (Nat.le_of_ble_eq_true rfl) dX11_law_68 ⟨by rw [hR]; exact Nat.le_of_ble_eq_true rfl, by rw [hR]; exact Nat.le_of_ble_eq_true rfl⟩ (fun r208 H locs hp hI hS => ?_)
      have hp := hp.symm
      subst hp
      have hEt : (mL E (1001 + 512 * h0) (1002 + 512 * h0) (1000 + 512 * sa) (tC E ta)) = Eu205 := (mL_no (by omega) hO9 (by omega) (by omega)).trans (by rw [hEu205, hEu35, show (0 : Int32).toInt.toNat = 0 from by decide, hst])
      rw [← hEt] at hI hK
      rw [hQ]
      have hpost : ((-6) : Int32).toInt = lwR (E (1000 + 512 * sa)) (lwo (tC E ta) (E (1001 + 512 * h0))) := by rw [lwR_no (by omega) hO9]; decide
      refine W.widen (k := 4) (n := 441) (Nat.le_of_ble_eq_true rfl) (Nat.le_of_ble_eq_true rfl) ?_
      rw [← hAe] at hS ⊢
      exact W.iret (v := (-6)) hx hb hr (fun t ht hW => ⟨⟨(-6), G, rfl, ⟨hpost, hle0, fun r k hr => nA_new (hAe ▸ hAG) hle0 hr⟩, by rw [ht]; exact hI, hN.warm hW, va_K.moved hW.alike hK⟩, hS.F ht⟩) hS.2.2 dX11_law_71
    · skip
      obtain ⟨m137, hq136⟩ := hp _ rfl
      obtain ⟨f9, hO9⟩ := hY.2 _ rfl
      have hO9 := OUTR_cg (B' := tC E ta) (fun j hj => by show E (1100 + 512 * ta + j) = Eu35 (1100 + 512 * ta + j); rw [hEu35, eu_ne (by omega)]) hO9
      refine lv_astore_n (lv' := [(2, .ref a135), (1, .int w24), (0, .ref h0)]) hx hb dX11_law_41 rfl hl (by decide) rfl (fun ls hl => ?_)
      refine lv_aload_n hx hb dX11_law_42 rfl (lv_at hl 2 rfl) ?_
      refine lv_aload_n hx hb dX11_law_43 rfl (lv_at hl 0 rfl) ?_
      refine lv_ifnonnull (tgt := 57) hx hb dX11_law_44 (by decide) ?_
      refine lv_iconst (v := (-1)) hx hb dX11_law_57 (by decide) ?_
      obtain ⟨a209, a212, a214, a216, a218, a220, a222, a224, a226, a228, a230, w232, w235, w236, w237, w238, hO, hq210, hq211, hq213, hq215, hq217, hq219, hq221, hq223, hq225, hq227, hq229, hq231, ⟨k233, k234⟩, k239⟩ := op_15 hI hG0 List.not_mem_nil
      have hI := th_I.weak (a := h0) hI
      have k240 : w232.toInt = ((Eu35 (1001 + 512 * h0) : Nat) : Int) := k239.2.1
      have k241 : w235.toInt = ((Eu35 (1002 + 512 * h0) : Nat) : Int) - 1 := k239.2.2.1
      obtain rfl := eaU_q k239.1 e1
      obtain rfl := eaU_q k239.2.2.2.2 e5
      obtain rfl := eaU_q k239.2.2.2.1 e3
      refine th_put (ty := .int) hx hb hts inT11 tyX11 tyX11_ok nmX11 hown hK hO hS (hAG _ _ hG0) rfl 13 (by decide) (hts _ (tb_c wd_358)) rfl rfl (by decide +kernel) rfl rfl (Nat.le_of_ble_eq_true rfl) dX11_law_58 (fun H locs hO oq hS => ?_)
      have hI := th_I.moved hI oq
      have k242 : ((-1) : Int32).toInt = -1 := by decide
      have hO : va_at D vwCl (h0, .inr (11, [.ref sa, .ref n, .ref ta, .ref a214, .ref a216, .ref ra, .ref a220, .ref a222, .ref a224, .ref a226, .ref a228, .ref a230, .int w232, .int (-1), .int w236, .int w237, .int w238])) H := hO
      obtain ⟨Eu243, hEu243⟩ : ∃ x : Nat → Nat, x = eu Eu35 (1002 + 512 * h0) ((((-1) : Int32).toInt + 1).toNat) := ⟨_, rfl⟩
      have hI : th_I (okC Eu243) D G [] H := by rw [hEu243]; exact ea_close hI hG0 hO ⟨by omega, by omega⟩ (ok_15 hq210 hq211 hq213 hq215 hq217 hq219 hq221 hq223 hq225 hq227 hq229 hq231 ⟨by omega, by omega⟩ ⟨by rw [eu_ne (by omega)]; exact k239.1, by show _ = ((eu Eu35 (1002 + 512 * h0) ((((-1) : Int32).toInt + 1).toNat) (1001 + 512 * h0) : Nat) : Int); rw [eu_ne (by omega)]; exact k239.2.1, by show ((-1) : Int32).toInt = ((eu Eu35 (1002 + 512 * h0) ((((-1) : Int32).toInt + 1).toNat) (1002 + 512 * h0) : Nat) : Int) - 1; rw [eu_at]; omega, by rw [eu_ne (by omega)]; exact k239.2.2.2.1, by rw [eu_ne (by omega)]; exact k239.2.2.2.2⟩)
      have hK : va_K D vwCl (th_tys Eu243) s := by rw [hEu243, tys_eu (by omega)]; exact hK
      have zEu243 : Eu243 (1002 + 512 * h0) = ((((-1) : Int32).toInt + 1).toNat) := by rw [hEu243]; exact eu_at
      have e1 : Eu243 (1000 + 512 * h0) = sa + 1 := by rw [hEu243, eu_ne (by omega)]; exact e1
      have e3 : Eu243 (1003 + 512 * h0) = ta + 1 := by rw [hEu243, eu_ne (by omega)]; exact e3
      have e5 : Eu243 (1004 + 512 * h0) = ra + 1 := by rw [hEu243, eu_ne (by omega)]; exact e5
      have k244 : Eu243 (1001 + 512 * h0) = Eu35 (1001 + 512 * h0) := by rw [hEu243, eu_ne (by omega)]
      have k245 : Eu243 (1000 + 512 * sa) = Eu35 (1000 + 512 * sa) := by rw [hEu243, eu_ne (by omega)]
      refine lv_aload_n hx hb dX11_law_61 rfl (lv_at hl 0 rfl) ?_
      refine lv_ifnonnull (tgt := 72) hx hb dX11_law_62 (by decide) ?_
      refine lv_aload_n hx hb dX11_law_72 rfl (lv_at hl 2 rfl) ?_
      refine lv_aload_n hx hb dX11_law_73 rfl (lv_at hl 2 rfl) ?_
      obtain ⟨a246, a249, a251, a253, a255, a257, a259, a261, a263, a265, a267, w269, w272, w273, w274, w275, hO, hq247, hq248, hq250, hq252, hq254, hq256, hq258, hq260, hq262, hq264, hq266, hq268, ⟨k270, k271⟩, k276⟩ := op_15 hI hG0 List.not_mem_nil
      have hI := th_I.weak (a := h0) hI
      have k277 : w269.toInt = ((Eu243 (1001 + 512 * h0) : Nat) : Int) := k276.2.1
      have k278 : w272.toInt = ((Eu243 (1002 + 512 * h0) : Nat) : Int) - 1 := k276.2.2.1
      obtain rfl := eaU_q k276.1 e1
      obtain rfl := eaU_q k276.2.2.2.2 e5
      obtain rfl := eaU_q k276.2.2.2.1 e3
      refine th_get hx hb hts inT11 hown hK hO rfl 0 (by decide) (hts _ (tb_c wd_345)) rfl rfl dX11_law_74 ?_
      refine lv_aload_n hx hb dX11_law_77 rfl (lv_at hl 0 rfl) ?_
      have hI := th_I.close hI hG0 hO (ok_15 hq247 hq248 hq250 hq252 hq254 hq256 hq258 hq260 hq262 hq264 hq266 hq268 ⟨by omega, by omega⟩ k276)
      refine th_xViE (As := [.ref a135]) (rest := [.ref h0]) (n := 1) (d := 0) ⟨hx, hb, hml, hown, hts⟩ (c_X6_keepLaw l Eu243 D G sa hq247 a135 (m137) hq136) wd_789 wd_790 wd_791 wd_2 wd_792 (by decide +kernel) ⟨by rw [hR]; exact Nat.le_of_ble_eq_true rfl, by rw [hR]; exact Nat.le_of_ble_eq_true rfl⟩ hI hN hK (by rw [tys_eu (by omega)]; exact hK) hS hAG (rc_6 hI hq247 List.not_mem_nil) rfl rfl hl.1 rfl (Nat.le_of_ble_eq_true rfl) dX11_law_78 ⟨by rw [hR]; exact Nat.le_of_ble_eq_true rfl, by rw [hR]; exact Nat.le_of_ble_eq_true rfl⟩ (fun r279 H locs Eu280 hEu280 hp hI hK hS => ?_)
      refine th_xVi (As := [.int r279]) (rest := []) (n := 1) (d := 0) ⟨hx, hb, hml, hown, hts⟩ (c_X11_accept l Eu280 D G h0 (n) hG0 r279) wd_447 wd_449 wp_3 wd_1 wd_450 (by decide +kernel) ⟨by rw [hR]; exact Nat.le_of_ble_eq_true rfl, by rw [hR]; exact Nat.le_of_ble_eq_true rfl⟩ hI hN hK hS hAG (rc_15 hI hG0 List.not_mem_nil) rfl rfl hl.1 rfl (Nat.le_of_ble_eq_true rfl) dX11_law_81 ⟨by rw [hR]; exact Nat.le_of_ble_eq_true rfl, by rw [hR]; exact Nat.le_of_ble_eq_true rfl⟩ (fun r281 H locs hp hI hS => ?_)
      have hp := hp.symm
      subst hp
      have hEt : (mL E (1001 + 512 * h0) (1002 + 512 * h0) (1000 + 512 * sa) (tC E ta)) = Eu280 := (mL_yes (by omega) hO9).trans (by rw [hEu280, gK_t (by omega), show Eu243 (1000 + 512 * sa) = E (1000 + 512 * sa) by omega, hEu243, hEu35, show (0 : Int32).toInt.toNat = 0 from by decide, show ((-1 : Int32).toInt + 1).toNat = 0 from by decide])
      rw [← hEt] at hI hK
      rw [hQ]
      have hpost : (r279 : Int32).toInt = lwR (E (1000 + 512 * sa)) (lwo (tC E ta) (E (1001 + 512 * h0))) := by rw [lwR_yes (by omega) hO9]; omega
      refine W.widen (k := 4) (n := 441) (Nat.le_of_ble_eq_true rfl) (Nat.le_of_ble_eq_true rfl) ?_
      rw [← hAe] at hS ⊢
      exact W.iret (v := r279) hx hb hr (fun t ht hW => ⟨⟨r279, G, rfl, ⟨hpost, hle0, fun r k hr => nA_new (hAe ▸ hAG) hle0 hr⟩, by rw [ht]; exact hI, hN.warm hW, va_K.moved hW.alike hK⟩, hS.F ht⟩) hS.2.2 dX11_law_84
  · skip
    have k282 := iv_nlt (X := w91.toInt) (Y := (6)) rfl (by decide) c99
    refine lv_aload_n hx hb dX11_law_22 rfl (lv_at hl 1 rfl) ?_
    refine lv_bipush (v := (-5)) hx hb dX11_law_23 (by decide) ?_
    have hI := th_I.close hI hq39 hO (ok_6 hq72 hq74 hq76 hq78 hq80 hq82 hq84 hq86 hq88 hq90 ⟨by omega, by omega⟩ k97)
    refine th_xVi (As := [.int (-5)]) (rest := []) (n := 1) (d := 0) ⟨hx, hb, hml, hown, hts⟩ (c_X11_refuse l Eu35 D G h0 (n) hG0 (-5)) wd_407 wd_409 wp_0 wd_1 wd_410 (by decide +kernel) ⟨by rw [hR]; exact Nat.le_of_ble_eq_true rfl, by rw [hR]; exact Nat.le_of_ble_eq_true rfl⟩ hI hN hK hS hAG (rc_15 hI hG0 List.not_mem_nil) rfl rfl hl.1 rfl (Nat.le_of_ble_eq_true rfl) dX11_law_25 ⟨by rw [hR]; exact Nat.le_of_ble_eq_true rfl, by rw [hR]; exact Nat.le_of_ble_eq_true rfl⟩ (fun r283 H locs hp hI hS => ?_)
    have hp := hp.symm
    subst hp
    have hEt : (mL E (1001 + 512 * h0) (1002 + 512 * h0) (1000 + 512 * sa) (tC E ta)) = Eu35 := (mL_full (by omega) (by omega) (by omega) (by omega)).trans (by rw [hEu35, show (0 : Int32).toInt.toNat = 0 from by decide])
    rw [← hEt] at hI hK
    rw [hQ]
    have hpost : ((-5) : Int32).toInt = lwR (E (1000 + 512 * sa)) (lwo (tC E ta) (E (1001 + 512 * h0))) := by rw [lwR_full (by omega)]; decide
    refine W.widen (k := 4) (n := 441) (Nat.le_of_ble_eq_true rfl) (Nat.le_of_ble_eq_true rfl) ?_
    rw [← hAe] at hS ⊢
    exact W.iret (v := (-5)) hx hb hr (fun t ht hW => ⟨⟨(-5), G, rfl, ⟨hpost, hle0, fun r k hr => nA_new (hAe ▸ hAG) hle0 hr⟩, by rw [ht]; exact hI, hN.warm hW, va_K.moved hW.alike hK⟩, hS.F ht⟩) hS.2.2 dX11_law_28
