theorem wd_752 : (Cond.methodLink RX2 (1 : Nat) objectInit) ∈ TB := tw 752 (by decide +kernel) (by decide +kernel)
theorem wd_753 : (Cond.methodLink RX2 (7 : Nat) Lib.Math.min.name) ∈ TB := tw 753 (by decide +kernel) (by decide +kernel)
theorem wd_754 : (Cond.methodLink RX2 (13 : Nat) Lib.Math.max.name) ∈ TB := tw 754 (by decide +kernel) (by decide +kernel)
theorem wd_755 : (Cond.methodLink RX2 (22 : Nat) yJ7_copyOf_59c91) ∈ TB := tw 755 (by decide +kernel) (by decide +kernel)
theorem wd_756 : (Jvm.Cond.static yJ7_copyOf_59c91) ∈ TB := tw 756 (by decide +kernel) (by decide +kernel)
theorem wd_757 : (Cond.code yJ7_copyOf_59c91 cJ7_copyOf_59c91 3 (Option.some (Jvm.ClassFile.FieldType.array Jvm.ClassFile.FieldType.int))) ∈ TB := tw 757 (by decide +kernel) (by decide +kernel)
theorem wd_758 : (Cond.methodLink RJ7 (316 : Nat) ({ cls := "[I", name := "clone", desc := "()Ljava/lang/Object;" } : Jvm.MethodName)) ∈ TB := tw 758 (by decide +kernel) (by decide +kernel)
theorem wd_759 : (Jvm.Cond.sameMethod "[I" "java/lang/Object" "clone" "()Ljava/lang/Object;") ∈ TB := tw 759 (by decide +kernel) (by decide +kernel)
theorem wd_760 : (Jvm.Cond.native ({ cls := "java/lang/Object", name := "clone", desc := "()Ljava/lang/Object;" } : Jvm.MethodName)) ∈ TB := tw 760 (by decide +kernel) (by decide +kernel)
theorem wd_761 : (Jvm.Cond.instanceMethod ({ cls := "java/lang/Object", name := "clone", desc := "()Ljava/lang/Object;" } : Jvm.MethodName)) ∈ TB := tw 761 (by decide +kernel) (by decide +kernel)
theorem wd_762 : (Jvm.Cond.selects "[I" ({ cls := "[I", name := "clone", desc := "()Ljava/lang/Object;" } : Jvm.MethodName) ({ cls := "java/lang/Object", name := "clone", desc := "()Ljava/lang/Object;" } : Jvm.MethodName)) ∈ TB := tw 762 (by decide +kernel) (by decide +kernel)
theorem wd_764 : (Cond.classLink RJ7 (317 : Nat) "[I") ∈ TB := tw 764 (by decide +kernel) (by decide +kernel)
theorem wd_765 : (Cond.methodLink RJ7 (304 : Nat) Lib.Math.min.name) ∈ TB := tw 765 (by decide +kernel) (by decide +kernel)
theorem wd_766 : (Cond.methodLink RJ7 (150 : Nat) arraycopyName) ∈ TB := tw 766 (by decide +kernel) (by decide +kernel)
theorem wd_767 : (Cond.fieldLink RX2 (16 : Nat) "NineRiver$Law" "size" "I") ∈ TB := tw 767 (by decide +kernel) (by decide +kernel)
theorem wd_769 : (Cond.fieldLink RX2 (28 : Nat) "NineRiver$Law" "kinds" "[I") ∈ TB := tw 769 (by decide +kernel) (by decide +kernel)
theorem wd_771 : (Cond.fieldLink RX2 (32 : Nat) "NineRiver$Law" "marks" "[I") ∈ TB := tw 771 (by decide +kernel) (by decide +kernel)
theorem wd_773 : (Cond.fieldLink RX2 (35 : Nat) "NineRiver$Law" "code" "[I") ∈ TB := tw 773 (by decide +kernel) (by decide +kernel)
/-! ===== arrays copied; a law made ===== -/
def th_CL (E : Nat → Nat) (U : State) : Prop := va_Nw (.castable "[I" "java/lang/Cloneable") U ∧ U.vm.findClass "[I" = some (E 0)
theorem th_CL.warm {E : Nat → Nat} {s U : State} (hW : s.WarmedH U.vm) (h : th_CL E s) : th_CL E U := ⟨va_Nw.warmC hW h.1, by rw [hW.alike.findClass]; exact h.2⟩
theorem th_CL.same {E : Nat → Nat} {u U : State} (hv : u.vm = U.vm) (h : th_CL E u) : th_CL E U := ⟨va_Nw.same rfl hv h.1, by rw [← hv]; exact h.2⟩
abbrev PCo (E : Nat → Nat) (D : va_G) (Gi : th_G) (sz : Nat) : State → Prop := fun U => U.heap.size = sz ∧ th_P E D Gi U ∧ th_CL E U
theorem co_blind {E : Nat → Nat} {D : va_G} {G : th_G} {av : List Value} {sz : Nat} : FrameBlind (va_Pc av (PCo E D G sz)) := fun a U g mk z => ⟨z.1, z.2.1, ⟨z.2.2.1.1, th_N.same (u := U) rfl z.2.2.1.2.1, va_K.moved (u := U) (U := U.calling g mk a) (Vm.Alike.refl U.vm) z.2.2.1.2.2⟩, th_CL.same (u := U) rfl z.2.2.2⟩
abbrev QCo (E : Nat → Nat) (D : va_G) (Gi : th_G) (sz N : Nat) : Array Value → State → Outcome → State → Prop := va_Qr (fun G' : th_G => gle Gi G' ∧ ∀ (r : Nat) (k' : th_K), G' r = some k' → Gi r = some k' ∨ sz ≤ r) (fun G' a t => th_P E D G' t ∧ G' a = some (0, N)) (nA Gi sz)
theorem th_cln {E : Nat → Nat} {D : va_G} {G : th_G} {H H1 : Heap} {p0 n0 q : Nat} {f0 : Nat → Int32} (hI : th_I (okC E) D G [] H) (hp0 : G p0 = some (0, n0)) (hP : va_at D vwCl (p0, .inl (E 0, n0, .inl f0)) H1) (hq : va_at D vwCl (q, .inl (E 0, n0, .inl f0)) H1) (hk : ∀ r : Nat, r < H.size → ¬ (r = p0 ∨ H.size ≤ r) → H1[r]? = H[r]?) (hqs : H.size ≤ q) : th_I (okC E) D (gx G q (0, n0)) [] H1 := fun b k' hb hx => by
  have hGq : G q = none := by
    cases h : G q with
    | none => rfl
    | some k => exact absurd (th_lt hI h) (by omega)
  by_cases e : b = q
  · subst e
    rw [gx_a] at hb
    cases hb
    exact ⟨_, hq, ok_0⟩
  · rw [gx_ne e] at hb
    by_cases e2 : b = p0
    · subst e2
      cases hp0.symm.trans hb
      exact ⟨_, hP, ok_0⟩
    · obtain ⟨e', h1, h2⟩ := hI b k' hb hx
      have hl := h1.lt
      exact ⟨e', h1.kept (hk b hl (by omega)), okC_mono (gx_le hGq) h2⟩
theorem th_oneD {A : Nat → Prop} {q : Nat × va_E} (h : A q.1) : va_D A [q] := ⟨fun i j p r hi hj _ => by
  cases i with
  | zero => cases j with
    | zero => rfl
    | succ j => simp at hj
  | succ i => simp at hi, fun k r hk => by
  cases k with
  | zero => cases hk; exact h
  | succ k => simp at hk⟩
theorem th_fitI {cA : ClassId} {n : Nat} {f : Nat → Int32} : ∀ (i : Nat) (v : Value), (vp_cell cA (n, .inl f)).slots[i]? = some v → fits .int v = true := fun i v h => by
  have h0 : (arrV cA n (fun j => Value.int (f j))).slots[i]? = some v := h
  by_cases hi : i < n
  · rw [arrV_read _ _ hi] at h0
    cases h0
    rfl
  · have : (arrV cA n (fun j => Value.int (f j))).slots.size ≤ i := by rw [arrV_size]; omega
    rw [Array.getElem?_eq_none this] at h0
    cases h0


theorem dJ7_copyOf_59c91_0g : (decode cJ7_copyOf_59c91 0 = .ok (.iload_n 1, 1)) ∧ (decode cJ7_copyOf_59c91 1 = .ok (.aload_n 0, 1)) ∧ (decode cJ7_copyOf_59c91 2 = .ok (.arraylength, 1)) ∧ (decode cJ7_copyOf_59c91 3 = .ok (.if_icmp .ne 11, 3)) ∧ (decode cJ7_copyOf_59c91 6 = .ok (.aload_n 0, 1)) ∧ (decode cJ7_copyOf_59c91 7 = .ok (.invokevirtual 316, 3)) ∧ (decode cJ7_copyOf_59c91 10 = .ok (.checkcast 317, 3)) ∧ (decode cJ7_copyOf_59c91 13 = .ok (.areturn, 1)) ∧ (decode cJ7_copyOf_59c91 14 = .ok (.iload_n 1, 1)) ∧ (decode cJ7_copyOf_59c91 15 = .ok (.newarray .int, 2)) := by decide +kernel
theorem dJ7_copyOf_59c91_0 : decode cJ7_copyOf_59c91 0 = .ok (.iload_n 1, 1) := dJ7_copyOf_59c91_0g.1
theorem dJ7_copyOf_59c91_1 : decode cJ7_copyOf_59c91 1 = .ok (.aload_n 0, 1) := dJ7_copyOf_59c91_0g.2.1
theorem dJ7_copyOf_59c91_2 : decode cJ7_copyOf_59c91 2 = .ok (.arraylength, 1) := dJ7_copyOf_59c91_0g.2.2.1
theorem dJ7_copyOf_59c91_3 : decode cJ7_copyOf_59c91 3 = .ok (.if_icmp .ne 11, 3) := dJ7_copyOf_59c91_0g.2.2.2.1
theorem dJ7_copyOf_59c91_6 : decode cJ7_copyOf_59c91 6 = .ok (.aload_n 0, 1) := dJ7_copyOf_59c91_0g.2.2.2.2.1
theorem dJ7_copyOf_59c91_7 : decode cJ7_copyOf_59c91 7 = .ok (.invokevirtual 316, 3) := dJ7_copyOf_59c91_0g.2.2.2.2.2.1
theorem dJ7_copyOf_59c91_10 : decode cJ7_copyOf_59c91 10 = .ok (.checkcast 317, 3) := dJ7_copyOf_59c91_0g.2.2.2.2.2.2.1
theorem dJ7_copyOf_59c91_13 : decode cJ7_copyOf_59c91 13 = .ok (.areturn, 1) := dJ7_copyOf_59c91_0g.2.2.2.2.2.2.2.1
theorem dJ7_copyOf_59c91_14 : decode cJ7_copyOf_59c91 14 = .ok (.iload_n 1, 1) := dJ7_copyOf_59c91_0g.2.2.2.2.2.2.2.2.1
theorem dJ7_copyOf_59c91_15 : decode cJ7_copyOf_59c91 15 = .ok (.newarray .int, 2) := dJ7_copyOf_59c91_0g.2.2.2.2.2.2.2.2.2
theorem dJ7_copyOf_59c91_17g : (decode cJ7_copyOf_59c91 17 = .ok (.astore_n 2, 1)) ∧ (decode cJ7_copyOf_59c91 18 = .ok (.aload_n 0, 1)) ∧ (decode cJ7_copyOf_59c91 19 = .ok (.iconst 0, 1)) ∧ (decode cJ7_copyOf_59c91 20 = .ok (.aload_n 2, 1)) ∧ (decode cJ7_copyOf_59c91 21 = .ok (.iconst 0, 1)) ∧ (decode cJ7_copyOf_59c91 22 = .ok (.aload_n 0, 1)) ∧ (decode cJ7_copyOf_59c91 23 = .ok (.arraylength, 1)) ∧ (decode cJ7_copyOf_59c91 24 = .ok (.iload_n 1, 1)) ∧ (decode cJ7_copyOf_59c91 25 = .ok (.invokestatic 304, 3)) ∧ (decode cJ7_copyOf_59c91 28 = .ok (.invokestatic 150, 3)) := by decide +kernel
theorem dJ7_copyOf_59c91_17 : decode cJ7_copyOf_59c91 17 = .ok (.astore_n 2, 1) := dJ7_copyOf_59c91_17g.1
theorem dJ7_copyOf_59c91_18 : decode cJ7_copyOf_59c91 18 = .ok (.aload_n 0, 1) := dJ7_copyOf_59c91_17g.2.1
theorem dJ7_copyOf_59c91_19 : decode cJ7_copyOf_59c91 19 = .ok (.iconst 0, 1) := dJ7_copyOf_59c91_17g.2.2.1
theorem dJ7_copyOf_59c91_20 : decode cJ7_copyOf_59c91 20 = .ok (.aload_n 2, 1) := dJ7_copyOf_59c91_17g.2.2.2.1
theorem dJ7_copyOf_59c91_21 : decode cJ7_copyOf_59c91 21 = .ok (.iconst 0, 1) := dJ7_copyOf_59c91_17g.2.2.2.2.1
theorem dJ7_copyOf_59c91_22 : decode cJ7_copyOf_59c91 22 = .ok (.aload_n 0, 1) := dJ7_copyOf_59c91_17g.2.2.2.2.2.1
theorem dJ7_copyOf_59c91_23 : decode cJ7_copyOf_59c91 23 = .ok (.arraylength, 1) := dJ7_copyOf_59c91_17g.2.2.2.2.2.2.1
theorem dJ7_copyOf_59c91_24 : decode cJ7_copyOf_59c91 24 = .ok (.iload_n 1, 1) := dJ7_copyOf_59c91_17g.2.2.2.2.2.2.2.1
theorem dJ7_copyOf_59c91_25 : decode cJ7_copyOf_59c91 25 = .ok (.invokestatic 304, 3) := dJ7_copyOf_59c91_17g.2.2.2.2.2.2.2.2.1
theorem dJ7_copyOf_59c91_28 : decode cJ7_copyOf_59c91 28 = .ok (.invokestatic 150, 3) := dJ7_copyOf_59c91_17g.2.2.2.2.2.2.2.2.2
theorem dJ7_copyOf_59c91_31g : (decode cJ7_copyOf_59c91 31 = .ok (.aload_n 2, 1)) ∧ (decode cJ7_copyOf_59c91 32 = .ok (.areturn, 1)) := by decide +kernel
theorem dJ7_copyOf_59c91_31 : decode cJ7_copyOf_59c91 31 = .ok (.aload_n 2, 1) := dJ7_copyOf_59c91_31g.1
theorem dJ7_copyOf_59c91_32 : decode cJ7_copyOf_59c91 32 = .ok (.areturn, 1) := dJ7_copyOf_59c91_31g.2
set_option maxHeartbeats 4000000 in
set_option maxRecDepth 100000 in
theorem c_copyOf (l : Launch) (E : Nat → Nat) (D : va_G) (Gi : th_G) (sz : Nat) (p0 n0 : Nat) (hp0 : Gi p0 = some (0, n0)) (hn0 : n0 ≤ 1000) (x1 : Int32) (N M : Nat) (hx1 : x1.toInt = (N : Int)) (hNM : N ≤ M) (hN1 : N ≤ 1000) : Met l yJ7_copyOf_59c91 (tb (.code yJ7_copyOf_59c91 cJ7_copyOf_59c91 3 (some (.array .int)))) ({ frames := 1, cells := 1, slots := M, locals := 40 } : Room) (va_Pc [.ref p0, .int x1] (PCo E D Gi sz)) (QCo E D Gi sz N) 1 M (nA Gi sz) := by
  refine Met.ofW (cc := cJ7_copyOf_59c91) (maxL := 3) (ret := (some (.array .int))) (by decide) rfl ?_
  intro p e s m args below meth c s₁ B hml hv
  obtain ⟨hav, rfl, ⟨hI, hN, hK⟩, hCL⟩ := hv
  have hx := B.exec
  have hb := B.bytes
  have hr := B.returns
  have hts := atoms_spec (ws := tb (.code yJ7_copyOf_59c91 cJ7_copyOf_59c91 3 (some (.array .int)))) B.pre
  have hown : s.vm.findClass RJ7 = some m.cls := findClass_of_methodNamed B.named
  have hlocks := B.notSynchronized
  have hl := lv_entry ([.ref p0, .int x1]) (n := 3) (Nat.le_of_ble_eq_true rfl)
  rw [show entryFrame m args 3 = entryFrame m ([.ref p0, .int x1] : List Value).toArray 3 from by rw [hav], lg_entry_eq]
  generalize (lg_sl ([.ref p0, .int x1]) ++ List.replicate (3 - (lg_sl ([.ref p0, .int x1])).length) Slot.unset).toArray = ls at hl ⊢
  have hl : lv_has ls 3 [(0, .ref p0), (1, .int x1)] := hl
  generalize hR : (headSpec (tb (.code yJ7_copyOf_59c91 cJ7_copyOf_59c91 3 (some (.array .int)))) ({ frames := 1, cells := 1, slots := M, locals := 40 } : Room)).room = R
  have hR := hR.symm
  generalize hAe : nA Gi s.heap.size = A
  have hA : ∀ q : Nat, s.heap.size ≤ q → A q := fun q h => by rw [← hAe]; exact Or.inr h
  have hAG : ∀ (r : Nat) (k : th_K), Gi r = some k → A r := fun r k h => by rw [← hAe]; exact Or.inl ⟨k, h⟩
  have hS : va_S A s.heap s.heap [] := va_S.rf
  refine lv_iload_n hx hb dJ7_copyOf_59c91_0 rfl (lv_at hl 1 rfl) ?_
  refine lv_aload_n hx hb dJ7_copyOf_59c91_1 rfl (lv_at hl 0 rfl) ?_
  obtain ⟨f0, hF0⟩ := op_0 hI hp0 List.not_mem_nil
  refine va_alen hx hb hK (th_one hF0) 0 0 rfl (v := nI n0) rfl rfl dJ7_copyOf_59c91_2 ?_
  have tz : (nI n0).toInt = (n0 : Int) := nI_toInt (by omega)
  refine lv_icmp_ne (tgt := 14) hx hb dJ7_copyOf_59c91_3 (by decide) (fun c1 => ?_) (fun c1 => ?_)
  · skip
    refine lv_iload_n hx hb dJ7_copyOf_59c91_14 rfl (lv_at hl 1 rfl) ?_
    refine th_newi hx hb (hts _ (tb_c wd_55)) hK hI hS hA hAG N (by show x1.toInt.toNat = N; omega) (fun z => by have := iv_lt (Y := 0) hx1 (by decide) z; omega) (by show N * 4 ≤ _; omega) (by rw [hR]; exact Nat.le_of_ble_eq_true rfl) (by rw [hR]; show 0 + N ≤ M; omega) dJ7_copyOf_59c91_15 (fun G q H hle hq hAG hqe hGne o1 hI hS => ?_)
    refine lv_astore_n (lv' := [(2, .ref q), (0, .ref p0), (1, .int x1)]) hx hb dJ7_copyOf_59c91_17 rfl hl (by decide) rfl (fun ls hl => ?_)
    refine lv_aload_n hx hb dJ7_copyOf_59c91_18 rfl (lv_at hl 1 rfl) ?_
    refine lv_iconst (v := 0) hx hb dJ7_copyOf_59c91_19 (by decide) ?_
    refine lv_aload_n hx hb dJ7_copyOf_59c91_20 rfl (lv_at hl 0 rfl) ?_
    refine lv_iconst (v := 0) hx hb dJ7_copyOf_59c91_21 (by decide) ?_
    refine lv_aload_n hx hb dJ7_copyOf_59c91_22 rfl (lv_at hl 1 rfl) ?_
    have hp0 := hle _ _ hp0
    obtain ⟨f1, hF1⟩ := op_0 hI hp0 List.not_mem_nil
    refine va_alen hx hb hK (th_one hF1) 0 0 rfl (v := nI n0) rfl rfl dJ7_copyOf_59c91_23 ?_
    refine lv_iload_n hx hb dJ7_copyOf_59c91_24 rfl (lv_at hl 2 rfl) ?_
    refine va_mmin hx hb (hml.trans hl.1.symm) hown (hts _ (tb_c wd_765)) (hts _ (tb_c wd_583)) (hts _ (tb_c wd_4)) (hts _ (tb_c wd_584)) (by rw [hR]; exact Nat.le_of_ble_eq_true rfl) (by rw [hR]; exact Nat.le_of_ble_eq_true rfl) (by rw [hR]; exact Nat.le_of_ble_eq_true rfl) (by rw [hR]; show 0 + N ≤ M; omega) dJ7_copyOf_59c91_25 ?_
    refine lv_topi (fun z ez => ?_)
    have tm := iv_min ez
    have k0 : (0 : Int32).toInt = 0 := by decide
    obtain ⟨f2, hF2⟩ := op_0 hI hq List.not_mem_nil
    refine th_copyi hx hb (hml.trans hl.1.symm) hown (hts _ (tb_c wd_766)) (hts _ (tb_c wd_505)) (hts _ (tb_c wd_504)) (hts _ (tb_c wd_14)) hK hF1 hF2 0 rfl hS (hAG _ _ hq) (fun z => by have := iv_lt (X := 0) (Y := 0) (by decide) (by decide) z; omega) (fun z => by have := iv_lt (X := 0) (Y := 0) (by decide) (by decide) z; omega) (fun w => by have := iv_lt (Y := 0) rfl (by decide) w; omega) (by omega) (by omega) (by rw [hR]; exact Nat.le_of_ble_eq_true rfl) (by rw [hR]; exact Nat.le_of_ble_eq_true rfl) dJ7_copyOf_59c91_28 (fun H locs f3 hF3 oq hS => ?_)
    have hI := th_I.put hI hq hF3 ok_0 oq
    refine lv_aload_n hx hb dJ7_copyOf_59c91_31 rfl (lv_at hl 0 rfl) ?_
    refine W.widen (k := 1) (n := M) (Nat.le_refl _) (by omega) ?_
    rw [← hAe] at hS ⊢
    exact W.aret hx hb hr (Or.inr ⟨_, rfl⟩) (Or.inr ⟨_, rfl⟩) (fun t ht hW => ⟨⟨G, q, rfl, ⟨hle, fun r k hr => nA_new (hAe ▸ hAG) hle hr⟩, ⟨by rw [ht]; exact hI, hN.warm hW, va_K.moved hW.alike hK⟩, hq⟩, hS.F ht⟩) hS.2.2 dJ7_copyOf_59c91_32 hlocks
  · skip
    have eN : n0 = N := by have := iv_eq hx1 tz c1; omega
    refine lv_aload_n hx hb dJ7_copyOf_59c91_6 rfl (lv_at hl 0 rfl) ?_
    refine va_clone (H0 := s.heap) (A := fun r => r = p0 ∨ s.heap.size ≤ r) hx hb (hml.trans hl.1.symm) hown (hts _ (tb_c wd_758)) (hts _ (tb_c wd_759)) (hts _ (tb_c wd_760)) (hts _ (tb_c wd_761)) (hts _ (tb_c wd_762)) hCL.1 hK (th_one hF0) (th_oneD (Or.inl rfl)) va_S.rf (fun q h => Or.inr h) 0 0 rfl rfl hCL.2 th_fitI (by rw [hR]; exact Nat.le_of_ble_eq_true rfl) (by rw [hR]; exact Nat.le_of_ble_eq_true rfl) (by rw [hR]; exact Nat.le_of_ble_eq_true rfl) (by rw [hR]; show 0 + n0 ≤ M; omega) dJ7_copyOf_59c91_7 (fun q H hK2 hP hD hS2 => ?_)
    have hq1 : va_at D vwCl (q, .inl (E 0, n0, .inl f0)) H := hP 1 _ rfl
    have hp1 : va_at D vwCl (p0, .inl (E 0, n0, .inl f0)) H := hP 0 _ rfl
    have hqne : q ≠ p0 := fun z => absurd (hD.1 1 0 _ _ rfl rfl z) (by decide)
    have hqs : s.heap.size ≤ q := (hD.2 1 _ rfl).resolve_left hqne
    have hI2 := th_cln hI hp0 hp1 hq1 hS2.2.1 hqs
    have hGq : Gi q = none := by
      cases h : Gi q with
      | none => rfl
      | some k => exact absurd (th_lt hI h) (by omega)
    refine va_castA hx hb hown (hts _ (tb_c wd_764)) (th_one hq1) 0 rfl hCL.2 dJ7_copyOf_59c91_10 ?_
    have hS : va_S A s.heap H [] := ⟨hS2.1, fun r h1 h2 => hS2.2.1 r h1 (fun z => h2 (z.elim (fun z => by rw [z]; exact hAG _ _ hp0) (fun z => hA _ z))), fun _ h => by cases h⟩
    refine W.widen (k := 1) (n := M) (Nat.le_refl _) (by show 0 + n0 ≤ M; omega) ?_
    rw [← hAe] at hS ⊢
    subst eN
    exact W.aret hx hb hr (Or.inr ⟨_, rfl⟩) (Or.inr ⟨_, rfl⟩) (fun t ht hW => ⟨⟨gx Gi q (0, n0), q, rfl, ⟨gx_le hGq, fun r k hr => by
      by_cases e : r = q
      · rw [e]; exact Or.inr hqs
      · rw [gx_ne e] at hr; exact Or.inl hr⟩, ⟨by rw [ht]; exact hI2, hN.warm hW, va_K.moved hW.alike hK⟩, gx_a⟩, hS.F ht⟩) hS.2.2 dJ7_copyOf_59c91_13 hlocks
section CR
variable {p : Program} {l : Launch} {e : Env} {R : Room} {s : State} {m : MethodId} {args : Array Value} {below : List Frame} {meth : Method} {c : Code} {H : Heap} {locs : List Loc} {cells slots : Nat} {Q : State → Prop}
variable {cc : ByteArray} {pc nL : Nat} {ls : Array Slot} {rest st0 As : List Value} {H0 : Heap} {D : va_G} {E : Nat → Nat} {G : th_G} {b : Nat} {A0 : Nat → Prop}
variable {own host : String} {index n maxL ci mc ms N : Nat} {y : MethodName} {bytes : ByteArray} {ret : Option FieldType} {cw : Cond} {rr : Room} {k : th_K} {fs : List Value}
/-- a static maker of an array -/
theorem th_cR (F : CallFix p m c cc nL s args (tb cw) own) (hM : Met l y (tb (.code y bytes maxL ret)) rr (va_Pc As (PCo E D G H.size)) (QCo E D G H.size N) mc ms (nA G H.size))
    (h1 : Cond.methodLink own index y ∈ TB) (h2 : Cond.static y ∈ TB) (h4 : Cond.initialized y.cls ∈ TB) (h5 : Cond.code y bytes maxL ret ∈ TB)
    (hrr : rr.cells = mc ∧ rr.slots = ms) (hd : y.cls ≠ "java/lang/invoke/MethodHandle" ∧ y.cls ≠ "java/lang/invoke/VarHandle" ∧ (parseMethodDescriptor y.desc).map (fun d => d.parameters.length) = some n) (hR : rr.frames + 1 ≤ R.frames ∧ 8 + (maxL + 11) + rr.locals ≤ R.locals)
    (hI : th_I (okC E) D G [] H) (hN : th_N s) (hCL : th_CL E s) (hK : va_K D vwCl (th_tys E) s) (hS : va_S A0 H0 H locs) (hA : ∀ q : Nat, H0.size ≤ q → A0 q) (hAG : ∀ (r : Nat) (k' : th_K), G r = some k' → A0 r)
    (hn : As.length = n) (hsize : ls.size = nL) (hst : st0 = As.reverse ++ rest) (hrm : (rest.map fun v => v.category).sum ≤ 8) (hdg : decode cc pc = .ok (.invokestatic index, 3)) (hcs : cells + mc ≤ R.cells ∧ slots + ms ≤ R.slots)
    (kk : ∀ (G' : th_G) (q : Nat) (H1 : Heap) (locs1 : List Loc), gle G G' → G' q = some (0, N) → (∀ (r : Nat) (k' : th_K), G' r = some k' → A0 r) → (∀ r : Nat, r < H.size → G r = none → G' r = none) → (∀ r : Nat, r < H.size → G r = none → H1[r]? = H[r]?) → th_I (okC E) D G' [] H1 → va_S A0 H0 H1 locs1 → W p l e R s m args below meth c H1 locs1 (cells + mc) (slots + ms) Q (F0 m (pc + 3) ls (.ref q :: rest))) : W p l e R s m args below meth c H locs cells slots Q (F0 m pc ls st0) :=
  have hF : ∀ q, nA G H.size q → A0 q := fun q h => by
    rcases h with ⟨k', h⟩ | h
    · exact hAG q k' h
    · exact hA q (Nat.le_trans hS.1 h)
  va_callr (va_runS (As := As) (rest := rest) F hM (va_cwS n F.2.2.2.2 (tb_S h1 h2 h4 h5) rfl hrr.1 hrr.2 hd hR) ⟨co_blind, fun U hU hW => ⟨rfl, by rw [hU], ⟨by rw [hU]; exact hI, hN.warm hW, va_K.moved hW.alike hK⟩, hCL.warm hW⟩⟩ rfl hn hsize hst (lv_room hrm) hdg hcs) hS (fun q _ h => hF q h) hF (fun G' q t H1 locs1 ht hvm hw hB hz hk hS1 => kk G' q H1 locs1 hw.1 hB.2 (fun r k' h => by
      rcases hw.2 r k' h with h | h
      · exact hAG r k' h
      · exact hA r (Nat.le_trans hS.1 h)) (fun r hr h0 => by
      cases h : G' r with
      | none => rfl
      | some k' =>
        rcases hw.2 r k' h with h | h
        · rw [h0] at h; cases h
        · omega) (fun r hr h0 => hk r hr (fun z => by
        rcases z with ⟨k', z⟩ | z
        · rw [h0] at z; cases z
        · omega)) (by rw [← ht]; exact hB.1.1) hS1)
end CR
abbrev QL (E : Nat → Nat) (D : va_G) (Gi : th_G) (h0 : Nat) (sz : Nat) : Array Value → State → Outcome → State → Prop := va_Qv (fun G' : th_G => gle Gi G' ∧ (∃ N, G' h0 = some (5, N)) ∧ ∀ (r : Nat) (k' : th_K), G' r = some k' → Gi r = some k' ∨ r = h0 ∨ sz ≤ r) (fun G' => th_P E D G') (mA Gi h0 sz)
theorem cl_blind {E : Nat → Nat} {D : va_G} {G : th_G} {av : List Value} {sz : Nat} {q : Nat × va_E} : FrameBlind (va_Pc av (fun U => U.heap.size = sz ∧ th_P E D G U ∧ va_at D vwCl q U.heap ∧ th_CL E U)) := fun a U g mk z => ⟨z.1, z.2.1, ⟨z.2.2.1.1, th_N.same (u := U) rfl z.2.2.1.2.1, va_K.moved (u := U) (U := U.calling g mk a) (Vm.Alike.refl U.vm) z.2.2.1.2.2⟩, z.2.2.2.1, th_CL.same (u := U) rfl z.2.2.2.2⟩
section CL2
variable {p : Program} {l : Launch} {e : Env} {R : Room} {s : State} {m : MethodId} {args : Array Value} {below : List Frame} {meth : Method} {c : Code} {H : Heap} {locs : List Loc} {cells slots : Nat} {Q : State → Prop}
variable {cc : ByteArray} {pc nL : Nat} {ls : Array Slot} {rest st0 As : List Value} {H0 : Heap} {D : va_G} {E : Nat → Nat} {G : th_G} {b : Nat} {A0 : Nat → Prop}
variable {own host : String} {index n maxL ci mc ms : Nat} {y : MethodName} {bytes : ByteArray} {cw : Cond} {rr : Room} {fs : List Value}
theorem th_cL (F : CallFix p m c cc nL s args (tb cw) own) (hM : Met l y (tb (.code y bytes maxL none)) rr (va_Pc (.ref b :: As) (fun U => U.heap.size = H.size ∧ th_P E D G U ∧ va_at D vwCl (b, .inr (ci, fs)) U.heap ∧ th_CL E U)) (QL E D G b H.size) mc ms (mA G b H.size))
    (h1 : Cond.methodLink own index y ∈ TB) (h2 : Cond.instanceMethod y ∈ TB) (h4 : Cond.initialized y.cls ∈ TB) (h5 : Cond.code y bytes maxL none ∈ TB)
    (hd : rr.cells = mc ∧ rr.slots = ms ∧ y.name = "<init>" ∧ y.cls ≠ "java/lang/invoke/MethodHandle" ∧ y.cls ≠ "java/lang/invoke/VarHandle" ∧ (parseMethodDescriptor y.desc).map (fun d => d.parameters.length) = some n) (hR : rr.frames + 1 ≤ R.frames ∧ 8 + (maxL + 11) + rr.locals ≤ R.locals)
    (hI : th_I (okC E) D G [] H) (hN : th_N s) (hCL : th_CL E s) (hK : va_K D vwCl (th_tys E) s) (hOb : va_at D vwCl (b, .inr (ci, fs)) H) (hnb : G b = none) (hbs : H0.size ≤ b) (hS : va_S A0 H0 H locs) (hA : ∀ q : Nat, H0.size ≤ q → A0 q) (hAG : ∀ (r : Nat) (k' : th_K), G r = some k' → A0 r)
    (hn : As.length = n) (hsize : ls.size = nL) (hst : st0 = As.reverse ++ .ref b :: rest) (hrm : (rest.map fun v => v.category).sum ≤ 8) (hdg : decode cc pc = .ok (.invokespecial index, 3)) (hcs : cells + mc ≤ R.cells ∧ slots + ms ≤ R.slots)
    (kk : ∀ (G' : th_G) (H1 : Heap) (locs1 : List Loc) (N : Nat), gle G G' → G' b = some (5, N) → (∀ (r : Nat) (k' : th_K), G' r = some k' → A0 r) → th_I (okC E) D G' [] H1 → va_S A0 H0 H1 locs1 → W p l e R s m args below meth c H1 locs1 (cells + mc) (slots + ms) Q (F0 m (pc + 3) ls rest)) : W p l e R s m args below meth c H locs cells slots Q (F0 m pc ls st0) := by
  obtain ⟨g1, g2, g3, g4⟩ := hd
  have hF := th_mkOf hnb hbs hA hAG hS
  exact va_callv (va_runI (As := As) (rest := rest) F hM (cwI n F.2.2.2.2 (tb_G h5) rfl g1 g2 (F.2.2.2.2 _ (tb_c h4)) (F.2.2.2.2 _ (tb_c h1)) (F.2.2.2.2 _ (tb_c h2)) g3 g4 hR) ⟨cl_blind, fun U hU hW => ⟨rfl, by rw [hU], ⟨by rw [hU]; exact hI, hN.warm hW, va_K.moved hW.alike hK⟩, by rw [hU]; exact hOb, hCL.warm hW⟩⟩ rfl hn hsize hst (lv_room hrm) hdg hcs) hS (fun q _ h => hF q h) hF (fun G' t H1 locs1 ht hvm hw hB hz hk hS1 => by
    obtain ⟨N, hNk⟩ := hw.2.1
    exact kk G' H1 locs1 N hw.1 hNk (fun r k' h => by
      rcases hw.2.2 r k' h with h | h | h
      · exact hAG r k' h
      · rw [h]; exact hA b hbs
      · exact hA r (Nat.le_trans hS.1 h)) (by rw [← ht]; exact hB.1) hS1)
end CL2
abbrev PLw (E : Nat → Nat) (D : va_G) (Gi : th_G) (sz : Nat) (adK adV : Nat → Nat) : State → Prop := fun U => U.heap.size = sz ∧ th_P E D Gi U ∧ WS adK adV (nA Gi sz) U U.heap ∧ th_CL E U
theorem lw_blind {E : Nat → Nat} {D : va_G} {G : th_G} {av : List Value} {sz : Nat} {adK adV : Nat → Nat} : FrameBlind (va_Pc av (PLw E D G sz adK adV)) := fun a U g mk z => ⟨z.1, z.2.1, ⟨z.2.2.1.1, th_N.same (u := U) rfl z.2.2.1.2.1, va_K.moved (u := U) (U := U.calling g mk a) (Vm.Alike.refl U.vm) z.2.2.1.2.2⟩, WS.same (u := U) rfl z.2.2.2.1, th_CL.same (u := U) rfl z.2.2.2.2⟩
abbrev QLq (E : Nat → Nat) (D : va_G) (Gi : th_G) (sz : Nat) : Array Value → State → Outcome → State → Prop := va_Qq (fun (r : Option Nat) (G' : th_G) => (∀ q, r = some q → ∃ n, G' q = some (5, n)) ∧ gle Gi G' ∧ ∀ (r : Nat) (k' : th_K), G' r = some k' → Gi r = some k' ∨ sz ≤ r) (fun G' => th_P E D G') (nA Gi sz)
section CQ
variable {p : Program} {l : Launch} {e : Env} {R : Room} {s : State} {m : MethodId} {args : Array Value} {below : List Frame} {meth : Method} {c : Code} {H : Heap} {locs : List Loc} {cells slots : Nat} {Q : State → Prop}
variable {cc : ByteArray} {pc nL : Nat} {ls : Array Slot} {rest st0 As : List Value} {D : va_G} {E : Nat → Nat} {G : th_G} {b : Nat} {A0 : Nat → Prop} {adK adV : Nat → Nat}
variable {own C : String} {index n maxL ci mc ms : Nat} {y : MethodName} {bytes : ByteArray} {ret : Option FieldType} {cw : Cond} {rr : Room} {T : u_T} {N : Nat}
theorem th_cQ (F : CallFix p m c cc nL s args (tb cw) own) (hM : Met l y (tb (.code y bytes maxL ret)) rr (va_Pc (.ref b :: As) (PLw E D G H.size adK adV)) (QLq E D G H.size) mc ms (nA G H.size))
    (h1 : Cond.methodLink own index y ∈ TB) (h2 : Cond.instanceMethod y ∈ TB) (h3 : Cond.selects C y y ∈ TB) (h4 : Cond.initialized C ∈ TB) (h5 : Cond.code y bytes maxL ret ∈ TB) (hrr : rr.cells = mc ∧ rr.slots = ms)
    (hd : y.cls = C ∧ y.cls ≠ "java/lang/invoke/MethodHandle" ∧ y.cls ≠ "java/lang/invoke/VarHandle" ∧ (parseMethodDescriptor y.desc).map (fun d => d.parameters.length) = some n) (hR : rr.frames + 1 ≤ R.frames ∧ 8 + (maxL + 11) + rr.locals ≤ R.locals)
    (hI : th_I (okC E) D G [] H) (hN : th_N s) (hK : va_K D vwCl (th_tys E) s) (hWS : WS adK adV A0 s s.heap) (hCL : th_CL E s) (hS : va_S A0 s.heap H locs) (hA : ∀ q : Nat, s.heap.size ≤ q → A0 q) (hAG : ∀ (r : Nat) (k' : th_K), G r = some k' → A0 r) (hO : ∃ fs, va_at D vwCl (b, .inr (ci, fs)) H) (hc : vwCl[ci]? = some (C, T, N))
    (hn : As.length = n) (hsize : ls.size = nL) (hst : st0 = As.reverse ++ .ref b :: rest) (hrm : (rest.map fun v => v.category).sum ≤ 8) (hdg : decode cc pc = .ok (.invokevirtual index, 3)) (hcs : cells + mc ≤ R.cells ∧ slots + ms ≤ R.slots)
    (kk : ∀ (r : Option Nat) (G' : th_G) (H1 : Heap) (locs1 : List Loc), (∀ q, r = some q → ∃ n, G' q = some (5, n)) → gle G G' → (∀ (r : Nat) (k' : th_K), G' r = some k' → A0 r) → th_I (okC E) D G' [] H1 → va_S A0 s.heap H1 locs1 → W p l e R s m args below meth c H1 locs1 (cells + mc) (slots + ms) Q (F0 m (pc + 3) ls (va_rf r :: rest))) : W p l e R s m args below meth c H locs cells slots Q (F0 m pc ls st0) := by
  obtain ⟨fs, hO⟩ := hO
  have hF : ∀ q, nA G H.size q → A0 q := fun q h => by
    rcases h with ⟨k', h⟩ | h
    · exact hAG q k' h
    · exact hA q (Nat.le_trans hS.1 h)
  exact va_callq (va_runV (As := As) (rest := rest) F hM (cwV n F.2.2.2.2 (tb_V h1 h2 h3 h4 h5) rfl hrr.1 hrr.2 hd hR) ⟨lw_blind, va_recv hK (th_one hO) hc (q0 := 0) rfl, fun U hU hW => ⟨rfl, by rw [hU], ⟨by rw [hU]; exact hI, hN.warm hW, va_K.moved hW.alike hK⟩, by rw [hU]; exact ((hWS.kept hS.2.1).narrow hF).warm hW, hCL.warm hW⟩⟩ rfl hn hsize hst (lv_room hrm) hdg hcs) hS (fun q _ h => hF q h) hF (fun r G' t H1 locs1 ht hvm hw hB hz hk hS1 => kk r G' H1 locs1 hw.1 hw.2.1 (fun r k' h => by
      rcases hw.2.2 r k' h with h | h
      · exact hAG r k' h
      · exact hA r (Nat.le_trans hS.1 h)) (by rw [← ht]; exact hB.1) hS1)
end CQ

theorem dX2_init_0g : (decode cX2_init 0 = .ok (.aload_n 0, 1)) ∧ (decode cX2_init 1 = .ok (.invokespecial 1, 3)) ∧ (decode cX2_init 4 = .ok (.aload_n 0, 1)) ∧ (decode cX2_init 5 = .ok (.iconst 0, 1)) ∧ (decode cX2_init 6 = .ok (.iload_n 1, 1)) ∧ (decode cX2_init 7 = .ok (.aload_n 2, 1)) ∧ (decode cX2_init 8 = .ok (.arraylength, 1)) ∧ (decode cX2_init 9 = .ok (.aload_n 3, 1)) ∧ (decode cX2_init 10 = .ok (.arraylength, 1)) ∧ (decode cX2_init 11 = .ok (.iconst 1, 1)) := by decide +kernel
theorem dX2_init_0 : decode cX2_init 0 = .ok (.aload_n 0, 1) := dX2_init_0g.1
theorem dX2_init_1 : decode cX2_init 1 = .ok (.invokespecial 1, 3) := dX2_init_0g.2.1
theorem dX2_init_4 : decode cX2_init 4 = .ok (.aload_n 0, 1) := dX2_init_0g.2.2.1
theorem dX2_init_5 : decode cX2_init 5 = .ok (.iconst 0, 1) := dX2_init_0g.2.2.2.1
theorem dX2_init_6 : decode cX2_init 6 = .ok (.iload_n 1, 1) := dX2_init_0g.2.2.2.2.1
theorem dX2_init_7 : decode cX2_init 7 = .ok (.aload_n 2, 1) := dX2_init_0g.2.2.2.2.2.1
theorem dX2_init_8 : decode cX2_init 8 = .ok (.arraylength, 1) := dX2_init_0g.2.2.2.2.2.2.1
theorem dX2_init_9 : decode cX2_init 9 = .ok (.aload_n 3, 1) := dX2_init_0g.2.2.2.2.2.2.2.1
theorem dX2_init_10 : decode cX2_init 10 = .ok (.arraylength, 1) := dX2_init_0g.2.2.2.2.2.2.2.2.1
theorem dX2_init_11 : decode cX2_init 11 = .ok (.iconst 1, 1) := dX2_init_0g.2.2.2.2.2.2.2.2.2
theorem dX2_init_12g : (decode cX2_init 12 = .ok (.isub, 1)) ∧ (decode cX2_init 13 = .ok (.iconst 2, 1)) ∧ (decode cX2_init 14 = .ok (.idiv, 1)) ∧ (decode cX2_init 15 = .ok (.invokestatic 7, 3)) ∧ (decode cX2_init 18 = .ok (.invokestatic 7, 3)) ∧ (decode cX2_init 21 = .ok (.invokestatic 13, 3)) ∧ (decode cX2_init 24 = .ok (.putfield 16, 3)) ∧ (decode cX2_init 27 = .ok (.aload_n 0, 1)) ∧ (decode cX2_init 28 = .ok (.aload_n 2, 1)) ∧ (decode cX2_init 29 = .ok (.aload_n 0, 1)) := by decide +kernel
theorem dX2_init_12 : decode cX2_init 12 = .ok (.isub, 1) := dX2_init_12g.1
theorem dX2_init_13 : decode cX2_init 13 = .ok (.iconst 2, 1) := dX2_init_12g.2.1
theorem dX2_init_14 : decode cX2_init 14 = .ok (.idiv, 1) := dX2_init_12g.2.2.1
theorem dX2_init_15 : decode cX2_init 15 = .ok (.invokestatic 7, 3) := dX2_init_12g.2.2.2.1
theorem dX2_init_18 : decode cX2_init 18 = .ok (.invokestatic 7, 3) := dX2_init_12g.2.2.2.2.1
theorem dX2_init_21 : decode cX2_init 21 = .ok (.invokestatic 13, 3) := dX2_init_12g.2.2.2.2.2.1
theorem dX2_init_24 : decode cX2_init 24 = .ok (.putfield 16, 3) := dX2_init_12g.2.2.2.2.2.2.1
theorem dX2_init_27 : decode cX2_init 27 = .ok (.aload_n 0, 1) := dX2_init_12g.2.2.2.2.2.2.2.1
theorem dX2_init_28 : decode cX2_init 28 = .ok (.aload_n 2, 1) := dX2_init_12g.2.2.2.2.2.2.2.2.1
theorem dX2_init_29 : decode cX2_init 29 = .ok (.aload_n 0, 1) := dX2_init_12g.2.2.2.2.2.2.2.2.2
theorem dX2_init_30g : (decode cX2_init 30 = .ok (.getfield 16, 3)) ∧ (decode cX2_init 33 = .ok (.invokestatic 22, 3)) ∧ (decode cX2_init 36 = .ok (.putfield 28, 3)) ∧ (decode cX2_init 39 = .ok (.aload_n 0, 1)) ∧ (decode cX2_init 40 = .ok (.aload_n 3, 1)) ∧ (decode cX2_init 41 = .ok (.iconst 2, 1)) ∧ (decode cX2_init 42 = .ok (.aload_n 0, 1)) ∧ (decode cX2_init 43 = .ok (.getfield 16, 3)) ∧ (decode cX2_init 46 = .ok (.imul, 1)) ∧ (decode cX2_init 47 = .ok (.iconst 1, 1)) := by decide +kernel
theorem dX2_init_30 : decode cX2_init 30 = .ok (.getfield 16, 3) := dX2_init_30g.1
theorem dX2_init_33 : decode cX2_init 33 = .ok (.invokestatic 22, 3) := dX2_init_30g.2.1
theorem dX2_init_36 : decode cX2_init 36 = .ok (.putfield 28, 3) := dX2_init_30g.2.2.1
theorem dX2_init_39 : decode cX2_init 39 = .ok (.aload_n 0, 1) := dX2_init_30g.2.2.2.1
theorem dX2_init_40 : decode cX2_init 40 = .ok (.aload_n 3, 1) := dX2_init_30g.2.2.2.2.1
theorem dX2_init_41 : decode cX2_init 41 = .ok (.iconst 2, 1) := dX2_init_30g.2.2.2.2.2.1
theorem dX2_init_42 : decode cX2_init 42 = .ok (.aload_n 0, 1) := dX2_init_30g.2.2.2.2.2.2.1
theorem dX2_init_43 : decode cX2_init 43 = .ok (.getfield 16, 3) := dX2_init_30g.2.2.2.2.2.2.2.1
theorem dX2_init_46 : decode cX2_init 46 = .ok (.imul, 1) := dX2_init_30g.2.2.2.2.2.2.2.2.1
theorem dX2_init_47 : decode cX2_init 47 = .ok (.iconst 1, 1) := dX2_init_30g.2.2.2.2.2.2.2.2.2
theorem dX2_init_48g : (decode cX2_init 48 = .ok (.iadd, 1)) ∧ (decode cX2_init 49 = .ok (.invokestatic 22, 3)) ∧ (decode cX2_init 52 = .ok (.putfield 32, 3)) ∧ (decode cX2_init 55 = .ok (.aload_n 0, 1)) ∧ (decode cX2_init 56 = .ok (.aload 4, 2)) ∧ (decode cX2_init 58 = .ok (.iconst 0, 1)) ∧ (decode cX2_init 59 = .ok (.iload 5, 2)) ∧ (decode cX2_init 61 = .ok (.aload 4, 2)) ∧ (decode cX2_init 63 = .ok (.arraylength, 1)) ∧ (decode cX2_init 64 = .ok (.invokestatic 7, 3)) := by decide +kernel
theorem dX2_init_48 : decode cX2_init 48 = .ok (.iadd, 1) := dX2_init_48g.1
theorem dX2_init_49 : decode cX2_init 49 = .ok (.invokestatic 22, 3) := dX2_init_48g.2.1
theorem dX2_init_52 : decode cX2_init 52 = .ok (.putfield 32, 3) := dX2_init_48g.2.2.1
theorem dX2_init_55 : decode cX2_init 55 = .ok (.aload_n 0, 1) := dX2_init_48g.2.2.2.1
theorem dX2_init_56 : decode cX2_init 56 = .ok (.aload 4, 2) := dX2_init_48g.2.2.2.2.1
theorem dX2_init_58 : decode cX2_init 58 = .ok (.iconst 0, 1) := dX2_init_48g.2.2.2.2.2.1
theorem dX2_init_59 : decode cX2_init 59 = .ok (.iload 5, 2) := dX2_init_48g.2.2.2.2.2.2.1
theorem dX2_init_61 : decode cX2_init 61 = .ok (.aload 4, 2) := dX2_init_48g.2.2.2.2.2.2.2.1
theorem dX2_init_63 : decode cX2_init 63 = .ok (.arraylength, 1) := dX2_init_48g.2.2.2.2.2.2.2.2.1
theorem dX2_init_64 : decode cX2_init 64 = .ok (.invokestatic 7, 3) := dX2_init_48g.2.2.2.2.2.2.2.2.2
theorem dX2_init_67g : (decode cX2_init 67 = .ok (.invokestatic 13, 3)) ∧ (decode cX2_init 70 = .ok (.invokestatic 22, 3)) ∧ (decode cX2_init 73 = .ok (.putfield 35, 3)) ∧ (decode cX2_init 76 = .ok (.return_, 1)) := by decide +kernel
theorem dX2_init_67 : decode cX2_init 67 = .ok (.invokestatic 13, 3) := dX2_init_67g.1
theorem dX2_init_70 : decode cX2_init 70 = .ok (.invokestatic 22, 3) := dX2_init_67g.2.1
theorem dX2_init_73 : decode cX2_init 73 = .ok (.putfield 35, 3) := dX2_init_67g.2.2.1
theorem dX2_init_76 : decode cX2_init 76 = .ok (.return_, 1) := dX2_init_67g.2.2.2
set_option maxHeartbeats 4000000 in
set_option maxRecDepth 100000 in
theorem c_X2_init (l : Launch) (E : Nat → Nat) (D : va_G) (Gi : th_G) (h0 sz : Nat) (hn0 : Gi h0 = none) (x1 : Int32) (p2 : Nat) (hp2 : Gi p2 = some (0, 12)) (p3 : Nat) (hp3 : Gi p3 = some (0, 25)) (p4 : Nat) (hp4 : Gi p4 = some (0, 400)) (x5 : Int32) : Met l yX2_init (tb (.code yX2_init cX2_init 6 none)) ({ frames := 2, cells := 3, slots := 437, locals := 80 } : Room) (va_Pc [.ref h0, .int x1, .ref p2, .ref p3, .ref p4, .int x5] (fun U => U.heap.size = sz ∧ th_P E D Gi U ∧ va_at D vwCl (h0, .inr (2, [.int 0, .null, .null, .null])) U.heap ∧ th_CL E U)) (QL E D Gi h0 sz) 3 437 (mA Gi h0 sz) := by
  refine Met.ofW (cc := cX2_init) (maxL := 6) (ret := none) (by decide) rfl ?_
  intro p e s m args below meth c s₁ B hml hv
  obtain ⟨hav, rfl, ⟨hI, hN, hK⟩, hO, hCL⟩ := hv
  have hx := B.exec
  have hb := B.bytes
  have hr := B.returns
  have hts := atoms_spec (ws := tb (.code yX2_init cX2_init 6 none)) B.pre
  have hown : s.vm.findClass RX2 = some m.cls := findClass_of_methodNamed B.named
  have hlocks := B.notSynchronized
  have hin : meth.name = "<init>" := (name_of_methodNamed B.named B.method).1
  have hl := lv_entry ([.ref h0, .int x1, .ref p2, .ref p3, .ref p4, .int x5]) (n := 6) (Nat.le_of_ble_eq_true rfl)
  rw [show entryFrame m args 6 = entryFrame m ([.ref h0, .int x1, .ref p2, .ref p3, .ref p4, .int x5] : List Value).toArray 6 from by rw [hav], lg_entry_eq]
  generalize (lg_sl ([.ref h0, .int x1, .ref p2, .ref p3, .ref p4, .int x5]) ++ List.replicate (6 - (lg_sl ([.ref h0, .int x1, .ref p2, .ref p3, .ref p4, .int x5])).length) Slot.unset).toArray = ls at hl ⊢
  have hl : lv_has ls 6 [(0, .ref h0), (1, .int x1), (2, .ref p2), (3, .ref p3), (4, .ref p4), (5, .int x5)] := hl
  generalize hR : (headSpec (tb (.code yX2_init cX2_init 6 none)) ({ frames := 2, cells := 3, slots := 437, locals := 80 } : Room)).room = R
  have hR := hR.symm
  generalize hAe : mA Gi h0 s.heap.size = A
  have hA : ∀ q : Nat, s.heap.size ≤ q → A q := fun q h => by rw [← hAe]; exact Or.inr (Or.inr h)
  have hA0 : A h0 := by rw [← hAe]; exact Or.inr (Or.inl rfl)
  have hS : va_S A s.heap s.heap [] := va_S.rf
  obtain ⟨G, hle0, hI, hn0, hAG⟩ : ∃ G, gle Gi G ∧ th_I (okC E) D G [] s.heap ∧ G h0 = none ∧ (∀ (r : Nat) (k : th_K), G r = some k → A r) := ⟨Gi, gle.rf, hI, hn0, fun r k h => by rw [← hAe]; exact Or.inl ⟨k, h⟩⟩
  have hp2 := hle0 _ _ hp2
  have hp3 := hle0 _ _ hp3
  have hp4 := hle0 _ _ hp4
  refine lv_aload_n hx hb dX2_init_0 rfl (lv_at hl 0 rfl) ?_
  refine W.objInit hx hb hown (hts _ (tb_c wd_752)) (hts _ (tb_c wd_28)) (hts _ (tb_c wd_oinit)) rfl (by rw [hml]; exact hl.1) rfl dX2_init_1 (by rw [hR]; exact Nat.le_of_ble_eq_true rfl) (by rw [hR]; exact Nat.le_of_ble_eq_true rfl) ?_
  refine W.eq (g2 := F0 m 4 ls []) rfl ?_
  refine lv_aload_n hx hb dX2_init_4 rfl (lv_at hl 0 rfl) ?_
  refine lv_iconst (v := 0) hx hb dX2_init_5 (by decide) ?_
  refine lv_iload_n hx hb dX2_init_6 rfl (lv_at hl 1 rfl) ?_
  refine lv_aload_n hx hb dX2_init_7 rfl (lv_at hl 2 rfl) ?_
  obtain ⟨_, hA1⟩ := op_0 hI hp2 List.not_mem_nil
  refine va_alen hx hb hK (th_one hA1) 0 0 rfl (v := 12) rfl (show Int32.ofNat 12 = (12 : Int32) from by decide) dX2_init_8 ?_
  refine lv_aload_n hx hb dX2_init_9 rfl (lv_at hl 3 rfl) ?_
  obtain ⟨_, hA2⟩ := op_0 hI hp3 List.not_mem_nil
  refine va_alen hx hb hK (th_one hA2) 0 0 rfl (v := 25) rfl (show Int32.ofNat 25 = (25 : Int32) from by decide) dX2_init_10 ?_
  refine lv_iconst (v := 1) hx hb dX2_init_11 (by decide) ?_
  refine lv_isub hx hb dX2_init_12 ?_
  rw [show (25 : Int32) - 1 = 24 from by decide]
  refine lv_iconst (v := 2) hx hb dX2_init_13 (by decide) ?_
  refine lv_idiv hx hb dX2_init_14 (by decide) ?_
  rw [show (24 : Int32) / 2 = 12 from by decide]
  refine va_mmin hx hb (hml.trans hl.1.symm) hown (hts _ (tb_c wd_753)) (hts _ (tb_c wd_583)) (hts _ (tb_c wd_4)) (hts _ (tb_c wd_584)) (by rw [hR]; exact Nat.le_of_ble_eq_true rfl) (by rw [hR]; exact Nat.le_of_ble_eq_true rfl) (by rw [hR]; exact Nat.le_of_ble_eq_true rfl) (by rw [hR]; exact Nat.le_of_ble_eq_true rfl) dX2_init_15 ?_
  refine lv_topi (fun v3 e4 => ?_)
  have tv3 := iv_min e4
  rw [show (12 : Int32).toInt = 12 from by decide] at tv3
  refine va_mmin hx hb (hml.trans hl.1.symm) hown (hts _ (tb_c wd_753)) (hts _ (tb_c wd_583)) (hts _ (tb_c wd_4)) (hts _ (tb_c wd_584)) (by rw [hR]; exact Nat.le_of_ble_eq_true rfl) (by rw [hR]; exact Nat.le_of_ble_eq_true rfl) (by rw [hR]; exact Nat.le_of_ble_eq_true rfl) (by rw [hR]; exact Nat.le_of_ble_eq_true rfl) dX2_init_18 ?_
  refine lv_topi (fun v5 e6 => ?_)
  have tv5 := iv_min e6
  refine va_mmax hx hb (hml.trans hl.1.symm) hown (hts _ (tb_c wd_754)) (hts _ (tb_c wd_43)) (hts _ (tb_c wd_4)) (hts _ (tb_c wd_44)) (by rw [hR]; exact Nat.le_of_ble_eq_true rfl) (by rw [hR]; exact Nat.le_of_ble_eq_true rfl) (by rw [hR]; exact Nat.le_of_ble_eq_true rfl) (by rw [hR]; exact Nat.le_of_ble_eq_true rfl) dX2_init_21 ?_
  refine lv_topi (fun v7 e8 => ?_)
  have tv7 := iv_max e8
  rw [show (0 : Int32).toInt = 0 from by decide] at tv7
  refine th_putF (ty := .int) hx hb hts inT2 tyX2 tyX2_ok nmX2 hown hK hO hS hA0 rfl 0 (by decide) (hts _ (tb_c wd_767)) rfl hin rfl (by decide +kernel) rfl rfl (Nat.le_of_ble_eq_true rfl) dX2_init_24 (fun H locs hO oq hS => ?_)
  have hI := th_raw hI hn0 oq
  have hO : va_at D vwCl (h0, .inr (2, [.int v7, .null, .null, .null])) H := hO
  refine lv_aload_n hx hb dX2_init_27 rfl (lv_at hl 0 rfl) ?_
  refine lv_aload_n hx hb dX2_init_28 rfl (lv_at hl 2 rfl) ?_
  refine lv_aload_n hx hb dX2_init_29 rfl (lv_at hl 0 rfl) ?_
  refine th_get hx hb hts inT2 hown hK hO rfl 0 (by decide) (hts _ (tb_c wd_767)) rfl rfl dX2_init_30 ?_
  obtain ⟨N11, hN11⟩ : ∃ N : Nat, v7.toInt = (N : Int) := ⟨v7.toInt.toNat, by omega⟩
  refine th_cR (N := N11) (As := [.ref p2, .int v7]) (rest := [.ref h0]) (n := 2) ⟨hx, hb, hml, hown, hts⟩ (c_copyOf l E D G H.size p2 12 hp2 (by omega) v7 N11 12 (by omega) (by omega) (by omega)) wd_755 wd_756 wd_15 wd_757 ⟨rfl, rfl⟩ (by decide +kernel) ⟨by rw [hR]; exact Nat.le_of_ble_eq_true rfl, by rw [hR]; exact Nat.le_of_ble_eq_true rfl⟩ hI hN hCL hK hS hA hAG rfl hl.1 rfl (Nat.le_of_ble_eq_true rfl) dX2_init_33 ⟨by rw [hR]; exact Nat.le_of_ble_eq_true rfl, by rw [hR]; exact Nat.le_of_ble_eq_true rfl⟩ (fun G a9 H locs hle hq10 hAG hGne hk hI hS => ?_)
  have hlt0 : h0 < _ := hO.lt
  have hO := hO.kept (hk _ hlt0 hn0)
  have hn0 : G h0 = none := hGne _ hlt0 hn0
  have hp2 := hle _ _ hp2
  have hp3 := hle _ _ hp3
  have hp4 := hle _ _ hp4
  have hle0 := hle0.tr hle
  refine th_putF (ty := (.array .int)) hx hb hts inT2 tyX2 tyX2_ok nmX2 hown hK hO hS hA0 rfl 1 (by decide) (hts _ (tb_c wd_769)) rfl hin rfl (by decide +kernel) rfl rfl (Nat.le_of_ble_eq_true rfl) dX2_init_36 (fun H locs hO oq hS => ?_)
  have hI := th_raw hI hn0 oq
  have hO : va_at D vwCl (h0, .inr (2, [.int v7, .ref a9, .null, .null])) H := hO
  refine lv_aload_n hx hb dX2_init_39 rfl (lv_at hl 0 rfl) ?_
  refine lv_aload_n hx hb dX2_init_40 rfl (lv_at hl 3 rfl) ?_
  refine lv_iconst (v := 2) hx hb dX2_init_41 (by decide) ?_
  refine lv_aload_n hx hb dX2_init_42 rfl (lv_at hl 0 rfl) ?_
  refine th_get hx hb hts inT2 hown hK hO rfl 0 (by decide) (hts _ (tb_c wd_767)) rfl rfl dX2_init_43 ?_
  refine lv_imul hx hb dX2_init_46 ?_
  refine lv_topi (fun v12 e13 => ?_)
  have tv12 : v12.toInt = (2) * v7.toInt := iv_mul (by decide) rfl e13 (by omega) (by omega)
  refine lv_iconst (v := 1) hx hb dX2_init_47 (by decide) ?_
  refine lv_iadd hx hb dX2_init_48 ?_
  refine lv_topi (fun v14 e15 => ?_)
  have tv14 : v14.toInt = v12.toInt + (1) := iv_add rfl (by decide) e15 (by omega) (by omega)
  obtain ⟨N18, hN18⟩ : ∃ N : Nat, v14.toInt = (N : Int) := ⟨v14.toInt.toNat, by omega⟩
  refine th_cR (N := N18) (As := [.ref p3, .int v14]) (rest := [.ref h0]) (n := 2) ⟨hx, hb, hml, hown, hts⟩ (c_copyOf l E D G H.size p3 25 hp3 (by omega) v14 N18 25 (by omega) (by omega) (by omega)) wd_755 wd_756 wd_15 wd_757 ⟨rfl, rfl⟩ (by decide +kernel) ⟨by rw [hR]; exact Nat.le_of_ble_eq_true rfl, by rw [hR]; exact Nat.le_of_ble_eq_true rfl⟩ hI hN hCL hK hS hA hAG rfl hl.1 rfl (Nat.le_of_ble_eq_true rfl) dX2_init_49 ⟨by rw [hR]; exact Nat.le_of_ble_eq_true rfl, by rw [hR]; exact Nat.le_of_ble_eq_true rfl⟩ (fun G a16 H locs hle hq17 hAG hGne hk hI hS => ?_)
  have hlt0 : h0 < _ := hO.lt
  have hO := hO.kept (hk _ hlt0 hn0)
  have hn0 : G h0 = none := hGne _ hlt0 hn0
  have hp2 := hle _ _ hp2
  have hp3 := hle _ _ hp3
  have hp4 := hle _ _ hp4
  have hq10 := hle _ _ hq10
  have hle0 := hle0.tr hle
  refine th_putF (ty := (.array .int)) hx hb hts inT2 tyX2 tyX2_ok nmX2 hown hK hO hS hA0 rfl 2 (by decide) (hts _ (tb_c wd_771)) rfl hin rfl (by decide +kernel) rfl rfl (Nat.le_of_ble_eq_true rfl) dX2_init_52 (fun H locs hO oq hS => ?_)
  have hI := th_raw hI hn0 oq
  have hO : va_at D vwCl (h0, .inr (2, [.int v7, .ref a9, .ref a16, .null])) H := hO
  refine lv_aload_n hx hb dX2_init_55 rfl (lv_at hl 0 rfl) ?_
  refine lv_aload hx hb dX2_init_56 (lv_at hl 4 rfl) ?_
  refine lv_iconst (v := 0) hx hb dX2_init_58 (by decide) ?_
  refine lv_iload hx hb dX2_init_59 (lv_at hl 5 rfl) ?_
  refine lv_aload hx hb dX2_init_61 (lv_at hl 4 rfl) ?_
  obtain ⟨_, hA19⟩ := op_0 hI hp4 List.not_mem_nil
  refine va_alen hx hb hK (th_one hA19) 0 0 rfl (v := 400) rfl (show Int32.ofNat 400 = (400 : Int32) from by decide) dX2_init_63 ?_
  refine va_mmin hx hb (hml.trans hl.1.symm) hown (hts _ (tb_c wd_753)) (hts _ (tb_c wd_583)) (hts _ (tb_c wd_4)) (hts _ (tb_c wd_584)) (by rw [hR]; exact Nat.le_of_ble_eq_true rfl) (by rw [hR]; exact Nat.le_of_ble_eq_true rfl) (by rw [hR]; exact Nat.le_of_ble_eq_true rfl) (by rw [hR]; exact Nat.le_of_ble_eq_true rfl) dX2_init_64 ?_
  refine lv_topi (fun v20 e21 => ?_)
  have tv20 := iv_min e21
  rw [show (400 : Int32).toInt = 400 from by decide] at tv20
  refine va_mmax hx hb (hml.trans hl.1.symm) hown (hts _ (tb_c wd_754)) (hts _ (tb_c wd_43)) (hts _ (tb_c wd_4)) (hts _ (tb_c wd_44)) (by rw [hR]; exact Nat.le_of_ble_eq_true rfl) (by rw [hR]; exact Nat.le_of_ble_eq_true rfl) (by rw [hR]; exact Nat.le_of_ble_eq_true rfl) (by rw [hR]; exact Nat.le_of_ble_eq_true rfl) dX2_init_67 ?_
  refine lv_topi (fun v22 e23 => ?_)
  have tv22 := iv_max e23
  rw [show (0 : Int32).toInt = 0 from by decide] at tv22
  obtain ⟨N26, hN26⟩ : ∃ N : Nat, v22.toInt = (N : Int) := ⟨v22.toInt.toNat, by omega⟩
  refine th_cR (N := N26) (As := [.ref p4, .int v22]) (rest := [.ref h0]) (n := 2) ⟨hx, hb, hml, hown, hts⟩ (c_copyOf l E D G H.size p4 400 hp4 (by omega) v22 N26 400 (by omega) (by omega) (by omega)) wd_755 wd_756 wd_15 wd_757 ⟨rfl, rfl⟩ (by decide +kernel) ⟨by rw [hR]; exact Nat.le_of_ble_eq_true rfl, by rw [hR]; exact Nat.le_of_ble_eq_true rfl⟩ hI hN hCL hK hS hA hAG rfl hl.1 rfl (Nat.le_of_ble_eq_true rfl) dX2_init_70 ⟨by rw [hR]; exact Nat.le_of_ble_eq_true rfl, by rw [hR]; exact Nat.le_of_ble_eq_true rfl⟩ (fun G a24 H locs hle hq25 hAG hGne hk hI hS => ?_)
  have hlt0 : h0 < _ := hO.lt
  have hO := hO.kept (hk _ hlt0 hn0)
  have hn0 : G h0 = none := hGne _ hlt0 hn0
  have hp2 := hle _ _ hp2
  have hp3 := hle _ _ hp3
  have hp4 := hle _ _ hp4
  have hq10 := hle _ _ hq10
  have hq17 := hle _ _ hq17
  have hle0 := hle0.tr hle
  refine th_putF (ty := (.array .int)) hx hb hts inT2 tyX2 tyX2_ok nmX2 hown hK hO hS hA0 rfl 3 (by decide) (hts _ (tb_c wd_773)) rfl hin rfl (by decide +kernel) rfl rfl (Nat.le_of_ble_eq_true rfl) dX2_init_73 (fun H locs hO oq hS => ?_)
  have hI := th_raw hI hn0 oq
  have hO : va_at D vwCl (h0, .inr (2, [.int v7, .ref a9, .ref a16, .ref a24])) H := hO
  have ez : v7 = nI N11 := Int32.toInt_inj.mp (by rw [nI_toInt (by omega)]; omega)
  have hq2 := hq17
  rw [show N18 = 2 * N11 + 1 by omega] at hq2
  rw [ez] at hO
  have hI := th_type (k := (5, N11)) hI hn0 hO (ok_5 (gx_le hn0 _ _ hq10) (gx_le hn0 _ _ hq2) ⟨gx_le hn0 _ _ hq25, by omega⟩ (by omega))
  rw [← hAe] at hS ⊢
  exact W.vret hx hb hr (fun t ht hW => ⟨⟨gx G h0 (5, N11), rfl, ⟨hle0.tr (gx_le hn0), ⟨_, gx_a⟩, fun r k hr => mA_new (hAe ▸ hAG) hle0 hr⟩, by rw [ht]; exact hI, hN.warm hW, va_K.moved hW.alike hK⟩, hS.F ht⟩) hS.2.2 dX2_init_76
