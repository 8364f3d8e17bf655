theorem wp_13 : Cond.selects RX3 yX3_moveTo yX3_moveTo ∈ TB := tv 13 (by decide +kernel) (by decide +kernel)
theorem wp_15 : Cond.selects RX3 yX3_sum yX3_sum ∈ TB := tv 15 (by decide +kernel) (by decide +kernel)
theorem wp_16 : Cond.selects RX3 yX3_part yX3_part ∈ TB := tv 16 (by decide +kernel) (by decide +kernel)
theorem wp_17 : Cond.selects RX3 yX3_emit yX3_emit ∈ TB := tv 17 (by decide +kernel) (by decide +kernel)
theorem wp_18 : Cond.selects RX3 yX3_arithmetic yX3_arithmetic ∈ TB := tv 18 (by decide +kernel) (by decide +kernel)
theorem wp_19 : Cond.selects RX3 yX3_test yX3_test ∈ TB := tv 19 (by decide +kernel) (by decide +kernel)
theorem wp_20 : Cond.selects RX3 yX3_plain yX3_plain ∈ TB := tv 20 (by decide +kernel) (by decide +kernel)
theorem wp_21 : Cond.selects RX3 yX3_enclosed yX3_enclosed ∈ TB := tv 21 (by decide +kernel) (by decide +kernel)
theorem wp_22 : Cond.selects RX3 yX3_aim yX3_aim ∈ TB := tv 22 (by decide +kernel) (by decide +kernel)
theorem wd_707 : (Cond.methodLink RX3 (66 : Nat) yX3_moveTo) ∈ TB := tw 707 (by decide +kernel) (by decide +kernel)
theorem wd_709 : (Jvm.Cond.instanceMethod yX3_moveTo) ∈ TB := tw 709 (by decide +kernel) (by decide +kernel)
theorem wd_710 : (Cond.code yX3_moveTo cX3_moveTo 2 (Option.none : Option Jvm.ClassFile.FieldType)) ∈ TB := tw 710 (by decide +kernel) (by decide +kernel)
theorem wd_715 : (Cond.methodLink RX3 (97 : Nat) yX3_sum) ∈ TB := tw 715 (by decide +kernel) (by decide +kernel)
theorem wd_717 : (Jvm.Cond.instanceMethod yX3_sum) ∈ TB := tw 717 (by decide +kernel) (by decide +kernel)
theorem wd_718 : (Cond.code yX3_sum cX3_sum 7 (Option.some Jvm.ClassFile.FieldType.boolean)) ∈ TB := tw 718 (by decide +kernel) (by decide +kernel)
theorem wd_719 : (Cond.methodLink RX3 (115 : Nat) yX3_part) ∈ TB := tw 719 (by decide +kernel) (by decide +kernel)
theorem wd_721 : (Jvm.Cond.instanceMethod yX3_part) ∈ TB := tw 721 (by decide +kernel) (by decide +kernel)
theorem wd_722 : (Cond.code yX3_part cX3_part 4 (Option.some Jvm.ClassFile.FieldType.boolean)) ∈ TB := tw 722 (by decide +kernel) (by decide +kernel)
theorem wd_723 : (Cond.methodLink RX3 (109 : Nat) yX3_emit) ∈ TB := tw 723 (by decide +kernel) (by decide +kernel)
theorem wd_725 : (Jvm.Cond.instanceMethod yX3_emit) ∈ TB := tw 725 (by decide +kernel) (by decide +kernel)
theorem wd_726 : (Cond.code yX3_emit cX3_emit 3 (Option.some Jvm.ClassFile.FieldType.int)) ∈ TB := tw 726 (by decide +kernel) (by decide +kernel)
theorem wd_727 : (Cond.methodLink RX3 (118 : Nat) yX3_arithmetic) ∈ TB := tw 727 (by decide +kernel) (by decide +kernel)
theorem wd_729 : (Jvm.Cond.instanceMethod yX3_arithmetic) ∈ TB := tw 729 (by decide +kernel) (by decide +kernel)
theorem wd_730 : (Cond.code yX3_arithmetic cX3_arithmetic 1 (Option.some Jvm.ClassFile.FieldType.int)) ∈ TB := tw 730 (by decide +kernel) (by decide +kernel)
theorem wd_731 : (Cond.methodLink RX3 (100 : Nat) yX3_test) ∈ TB := tw 731 (by decide +kernel) (by decide +kernel)
theorem wd_733 : (Jvm.Cond.instanceMethod yX3_test) ∈ TB := tw 733 (by decide +kernel) (by decide +kernel)
theorem wd_734 : (Cond.code yX3_test cX3_test 7 (Option.some Jvm.ClassFile.FieldType.boolean)) ∈ TB := tw 734 (by decide +kernel) (by decide +kernel)
theorem wd_735 : (Cond.methodLink RX3 (103 : Nat) yX3_plain) ∈ TB := tw 735 (by decide +kernel) (by decide +kernel)
theorem wd_737 : (Jvm.Cond.instanceMethod yX3_plain) ∈ TB := tw 737 (by decide +kernel) (by decide +kernel)
theorem wd_738 : (Cond.code yX3_plain cX3_plain 5 (Option.some Jvm.ClassFile.FieldType.boolean)) ∈ TB := tw 738 (by decide +kernel) (by decide +kernel)
theorem wd_739 : (Cond.methodLink RX3 (112 : Nat) yX3_enclosed) ∈ TB := tw 739 (by decide +kernel) (by decide +kernel)
theorem wd_741 : (Jvm.Cond.instanceMethod yX3_enclosed) ∈ TB := tw 741 (by decide +kernel) (by decide +kernel)
theorem wd_742 : (Cond.code yX3_enclosed cX3_enclosed 3 (Option.some Jvm.ClassFile.FieldType.boolean)) ∈ TB := tw 742 (by decide +kernel) (by decide +kernel)
theorem wd_743 : (Cond.methodLink RX3 (106 : Nat) yX3_aim) ∈ TB := tw 743 (by decide +kernel) (by decide +kernel)
theorem wd_745 : (Jvm.Cond.instanceMethod yX3_aim) ∈ TB := tw 745 (by decide +kernel) (by decide +kernel)
theorem wd_746 : (Cond.code yX3_aim cX3_aim 2 (Option.none : Option Jvm.ClassFile.FieldType)) ∈ TB := tw 746 (by decide +kernel) (by decide +kernel)
def mfC : List m_F := [.inl (0, 12), .inl (0, 25), .inl (0, 400), .inl (17, 401), .inl (18, 401), .inl (19, 401), .inr (0, 401), .inr (0, 12), .inr (-2147483648, 2147483647), .inr (0, 400), .inr (-2147483648, 2147483647), .inr (-2147483648, 2147483647)]
def mOkC (G : th_G) (fs : List Value) : Prop := fs.length = 12 ∧ ∀ k : Nat, k < 12 → ∃ v, fs[k]? = some v ∧ mV G (mfC[k]?) v
theorem omC {E : Nat → Nat} {D : va_G} {G : th_G} {X : List Nat} {H : Heap} {a : Nat} (hI : th_I (okC E) D G X H) (ha : G a = some (7, 12)) (hX : a ∉ X) : ∃ fs : List Value, va_at D vwCl (a, .inr (3, fs)) H ∧ mOkC G fs := by
  obtain ⟨q0, q1, q2, q3, q4, q5, z6, z7, z8, z9, z10, z11, hO, c0, c1, c2, c3, c4, c5, c6, c7, c8, -⟩ := op_7 hI ha hX
  refine ⟨_, hO, rfl, fun k hk => ?_⟩
  match k, hk with
  | 0, _ => exact ⟨_, rfl, _, rfl, c0⟩
  | 1, _ => exact ⟨_, rfl, _, rfl, c1⟩
  | 2, _ => exact ⟨_, rfl, _, rfl, c2⟩
  | 3, _ => exact ⟨_, rfl, _, rfl, c3⟩
  | 4, _ => exact ⟨_, rfl, _, rfl, c4⟩
  | 5, _ => exact ⟨_, rfl, _, rfl, c5⟩
  | 6, _ => exact ⟨_, rfl, _, rfl, by omega, by omega⟩
  | 7, _ => exact ⟨_, rfl, _, rfl, by omega, by omega⟩
  | 8, _ => exact ⟨_, rfl, _, rfl, iv_lo _, iv_hi _⟩
  | 9, _ => exact ⟨_, rfl, _, rfl, by omega, by omega⟩
  | 10, _ => exact ⟨_, rfl, _, rfl, iv_lo _, iv_hi _⟩
  | 11, _ => exact ⟨_, rfl, _, rfl, iv_lo _, iv_hi _⟩
  | j + 12, h => omega
theorem ok_mC {E : Nat → Nat} {G : th_G} {a : Nat} {fs : List Value} (h : mOkC G fs) : okC E G a (7, 12) (.inr (3, fs)) := by
  obtain ⟨hl, h⟩ := h
  rcases fs with _ | ⟨a0, fs⟩
  · exact absurd hl (by first | (simp; done) | (intro z; simp only [List.length_cons, List.length_nil] at z; omega))
  rcases fs with _ | ⟨a1, fs⟩
  · exact absurd hl (by first | (simp; done) | (intro z; simp only [List.length_cons, List.length_nil] at z; omega))
  rcases fs with _ | ⟨a2, fs⟩
  · exact absurd hl (by first | (simp; done) | (intro z; simp only [List.length_cons, List.length_nil] at z; omega))
  rcases fs with _ | ⟨a3, fs⟩
  · exact absurd hl (by first | (simp; done) | (intro z; simp only [List.length_cons, List.length_nil] at z; omega))
  rcases fs with _ | ⟨a4, fs⟩
  · exact absurd hl (by first | (simp; done) | (intro z; simp only [List.length_cons, List.length_nil] at z; omega))
  rcases fs with _ | ⟨a5, fs⟩
  · exact absurd hl (by first | (simp; done) | (intro z; simp only [List.length_cons, List.length_nil] at z; omega))
  rcases fs with _ | ⟨a6, fs⟩
  · exact absurd hl (by first | (simp; done) | (intro z; simp only [List.length_cons, List.length_nil] at z; omega))
  rcases fs with _ | ⟨a7, fs⟩
  · exact absurd hl (by first | (simp; done) | (intro z; simp only [List.length_cons, List.length_nil] at z; omega))
  rcases fs with _ | ⟨a8, fs⟩
  · exact absurd hl (by first | (simp; done) | (intro z; simp only [List.length_cons, List.length_nil] at z; omega))
  rcases fs with _ | ⟨a9, fs⟩
  · exact absurd hl (by first | (simp; done) | (intro z; simp only [List.length_cons, List.length_nil] at z; omega))
  rcases fs with _ | ⟨a10, fs⟩
  · exact absurd hl (by first | (simp; done) | (intro z; simp only [List.length_cons, List.length_nil] at z; omega))
  rcases fs with _ | ⟨a11, fs⟩
  · exact absurd hl (by first | (simp; done) | (intro z; simp only [List.length_cons, List.length_nil] at z; omega))
  rcases fs with _ | ⟨a12, fs⟩
  · skip
    obtain ⟨v0, e0, m0⟩ := h 0 (by decide)
    obtain ⟨q0, r0, c0⟩ := (show ∃ q : Nat, v0 = .ref q ∧ G q = some (0, 12) from m0)
    obtain rfl : a0 = .ref q0 := (Option.some.inj e0).trans r0
    obtain ⟨v1, e1, m1⟩ := h 1 (by decide)
    obtain ⟨q1, r1, c1⟩ := (show ∃ q : Nat, v1 = .ref q ∧ G q = some (0, 25) from m1)
    obtain rfl : a1 = .ref q1 := (Option.some.inj e1).trans r1
    obtain ⟨v2, e2, m2⟩ := h 2 (by decide)
    obtain ⟨q2, r2, c2⟩ := (show ∃ q : Nat, v2 = .ref q ∧ G q = some (0, 400) from m2)
    obtain rfl : a2 = .ref q2 := (Option.some.inj e2).trans r2
    obtain ⟨v3, e3, m3⟩ := h 3 (by decide)
    obtain ⟨q3, r3, c3⟩ := (show ∃ q : Nat, v3 = .ref q ∧ G q = some (17, 401) from m3)
    obtain rfl : a3 = .ref q3 := (Option.some.inj e3).trans r3
    obtain ⟨v4, e4, m4⟩ := h 4 (by decide)
    obtain ⟨q4, r4, c4⟩ := (show ∃ q : Nat, v4 = .ref q ∧ G q = some (18, 401) from m4)
    obtain rfl : a4 = .ref q4 := (Option.some.inj e4).trans r4
    obtain ⟨v5, e5, m5⟩ := h 5 (by decide)
    obtain ⟨q5, r5, c5⟩ := (show ∃ q : Nat, v5 = .ref q ∧ G q = some (19, 401) from m5)
    obtain rfl : a5 = .ref q5 := (Option.some.inj e5).trans r5
    obtain ⟨v6, e6, m6⟩ := h 6 (by decide)
    obtain ⟨q6, r6, l6, h6⟩ := (show ∃ q : Int32, v6 = .int q ∧ (0 : Int) ≤ q.toInt ∧ q.toInt ≤ 401 from m6)
    obtain rfl : a6 = .int q6 := (Option.some.inj e6).trans r6
    obtain ⟨v7, e7, m7⟩ := h 7 (by decide)
    obtain ⟨q7, r7, l7, h7⟩ := (show ∃ q : Int32, v7 = .int q ∧ (0 : Int) ≤ q.toInt ∧ q.toInt ≤ 12 from m7)
    obtain rfl : a7 = .int q7 := (Option.some.inj e7).trans r7
    obtain ⟨v8, e8, m8⟩ := h 8 (by decide)
    obtain ⟨q8, r8, l8, h8⟩ := (show ∃ q : Int32, v8 = .int q ∧ (-2147483648 : Int) ≤ q.toInt ∧ q.toInt ≤ 2147483647 from m8)
    obtain rfl : a8 = .int q8 := (Option.some.inj e8).trans r8
    obtain ⟨v9, e9, m9⟩ := h 9 (by decide)
    obtain ⟨q9, r9, l9, h9⟩ := (show ∃ q : Int32, v9 = .int q ∧ (0 : Int) ≤ q.toInt ∧ q.toInt ≤ 400 from m9)
    obtain rfl : a9 = .int q9 := (Option.some.inj e9).trans r9
    obtain ⟨v10, e10, m10⟩ := h 10 (by decide)
    obtain ⟨q10, r10, l10, h10⟩ := (show ∃ q : Int32, v10 = .int q ∧ (-2147483648 : Int) ≤ q.toInt ∧ q.toInt ≤ 2147483647 from m10)
    obtain rfl : a10 = .int q10 := (Option.some.inj e10).trans r10
    obtain ⟨v11, e11, m11⟩ := h 11 (by decide)
    obtain ⟨q11, r11, l11, h11⟩ := (show ∃ q : Int32, v11 = .int q ∧ (-2147483648 : Int) ≤ q.toInt ∧ q.toInt ≤ 2147483647 from m11)
    obtain rfl : a11 = .int q11 := (Option.some.inj e11).trans r11
    exact ok_7 c0 c1 c2 c3 c4 c5 ⟨by omega, by omega⟩ ⟨by omega, by omega⟩ ⟨by omega, by omega⟩ (by decide)
  · exact absurd hl (by first | (simp; done) | (intro z; simp only [List.length_cons, List.length_nil] at z; omega))
section MKC
variable {E : Nat → Nat} {D : va_G} {G : th_G} {X : List Nat} {H H1 : Heap} {a q n M k j : Nat} {z w : Int32} {f : Nat → Int32} {kd : th_K}
/-- what a field of the object is -/
def gfC (D : va_G) (M k : Nat) (z : Int32) (H : Heap) : Prop := ∃ fs : List Value, va_at D vwCl (M, .inr (3, fs)) H ∧ fs[k]? = some (.int z)
def frC (D : va_G) (M k q : Nat) (H : Heap) : Prop := ∃ fs : List Value, va_at D vwCl (M, .inr (3, fs)) H ∧ fs[k]? = some (.ref q)
/-- what stands in a row that is a field of the object -/
def gaC (E : Nat → Nat) (D : va_G) (G : th_G) (M k : Nat) (kd : th_K) (f : Nat → Int32) (H : Heap) : Prop := ∃ q, frC D M k q H ∧ G q = some kd ∧ va_at D vwCl (q, .inl (E 0, kd.2, .inl f)) H
theorem m_sameC {fs fs' : List Value} {v v' : Value} (h : va_at D vwCl (M, .inr (3, fs)) H) (h' : va_at D vwCl (M, .inr (3, fs')) H) (hk : k < 12) (hv : fs[k]? = some v) (hv' : fs'[k]? = some v') : v = v' := by
  obtain ⟨r, h1, cell, q1, q2, q3, q4⟩ := h
  obtain ⟨r', h1', cell', q1', q2', q3', q4'⟩ := h'
  have e : r = (RX3, TX3, 12) := Option.some.inj (h1.symm.trans rfl)
  have e' : r' = (RX3, TX3, 12) := Option.some.inj (h1'.symm.trans rfl)
  subst e; subst e'
  have ec : cell = cell' := Option.some.inj (q1.symm.trans q1')
  subst ec
  have := Option.some.inj ((q4 k hk).symm.trans (q4' k hk))
  have a1 : vp_V fs k = v := by unfold vp_V; rw [List.getD_eq_getElem?_getD, hv]; rfl
  have a2 : vp_V fs' k = v' := by unfold vp_V; rw [List.getD_eq_getElem?_getD, hv']; rfl
  rw [← a1, ← a2]
  exact this
theorem gfC.uniq (hk : k < 12) (h : gfC D M k z H) (h' : gfC D M k w H) : z = w := by
  obtain ⟨fs, h1, h2⟩ := h
  obtain ⟨fs', h1', h2'⟩ := h'
  exact Value.int.inj (m_sameC h1 h1' hk h2 h2')
theorem frC.uniq {q' : Nat} (hk : k < 12) (h : frC D M k q H) (h' : frC D M k q' H) : q = q' := by
  obtain ⟨fs, h1, h2⟩ := h
  obtain ⟨fs', h1', h2'⟩ := h'
  exact Value.ref.inj (m_sameC h1 h1' hk h2 h2')
theorem gfC.kept (h : gfC D M k z H) (e : H1[M]? = H[M]?) : gfC D M k z H1 := by
  obtain ⟨fs, h1, h2⟩ := h
  exact ⟨fs, h1.kept e, h2⟩
theorem frC.kept (h : frC D M k q H) (e : H1[M]? = H[M]?) : frC D M k q H1 := by
  obtain ⟨fs, h1, h2⟩ := h
  exact ⟨fs, h1.kept e, h2⟩
theorem gaC.at (hk : k < 12) (h : gaC E D G M k kd f H) (hf : frC D M k q H) : va_at D vwCl (q, .inl (E 0, kd.2, .inl f)) H := by
  obtain ⟨q', h1, h2, h3⟩ := h
  cases frC.uniq hk hf h1
  exact h3
theorem gfC.arr {k2 : th_K} (hM : G M = some (7, 12)) (hq : G q = some k2) (hn : k2.1 ≠ 7) (oq : ∀ r : Nat, r ≠ q → H1[r]? = H[r]?) (h : gfC D M k z H) : gfC D M k z H1 := h.kept (oq M (m_ne hM hq (Ne.symm hn)))
theorem frC.arr {k2 : th_K} {r : Nat} (hM : G M = some (7, 12)) (hq : G q = some k2) (hn : k2.1 ≠ 7) (oq : ∀ r : Nat, r ≠ q → H1[r]? = H[r]?) (h : frC D M k r H) : frC D M k r H1 := h.kept (oq M (m_ne hM hq (Ne.symm hn)))
theorem gaC.arr {k2 : th_K} (hM : G M = some (7, 12)) (hq : G q = some k2) (hn : k2.1 ≠ 7) (hd : kd.1 ≠ k2.1) (oq : ∀ r : Nat, r ≠ q → H1[r]? = H[r]?) (h : gaC E D G M k kd f H) : gaC E D G M k kd f H1 := by
  obtain ⟨q', h1, h2, h3⟩ := h
  exact ⟨q', h1.arr hM hq hn oq, h2, h3.kept (oq q' (m_ne h2 hq hd))⟩
def gPC (D : va_G) (M k : Nat) (z : Int32) (H H1 : Heap) : Prop := (∀ r : Nat, r ≠ M → H1[r]? = H[r]?) ∧ gfC D M k z H1 ∧ (∀ (j : Nat) (w : Int32), j < 12 → j ≠ k → gfC D M j w H → gfC D M j w H1) ∧ ∀ (j q : Nat), j < 12 → j ≠ k → frC D M j q H → frC D M j q H1
theorem gPC.arr (h : gPC D M k z H H1) (hM : G M = some (7, 12)) (hn : kd.1 ≠ 7) (hl : j < 12) (hj : j ≠ k) (g : gaC E D G M j kd f H) : gaC E D G M j kd f H1 := by
  obtain ⟨q', h1, h2, h3⟩ := g
  exact ⟨q', h.2.2.2 _ _ hl hj h1, h2, h3.kept (h.1 q' (m_ne h2 hM hn))⟩
theorem mOkC.set {fs : List Value} {lo hi : Int} (h : mOkC G fs) (hk : k < 12) (hm : mfC[k]? = some (.inr (lo, hi))) (h1 : lo ≤ z.toInt) (h2 : z.toInt ≤ hi) : mOkC G (fs.set k (.int z)) := by
  refine ⟨by rw [List.length_set]; exact h.1, fun j hj => ?_⟩
  by_cases e : j = k
  · subst e
    refine ⟨.int z, ?_, ?_⟩
    · rw [List.getElem?_set_self (by rw [h.1]; exact hk)]
    · rw [hm]; exact ⟨z, rfl, h1, h2⟩
  · obtain ⟨v, a1, a2⟩ := h.2 j hj
    exact ⟨v, by rw [List.getElem?_set_ne (Ne.symm e)]; exact a1, a2⟩
end MKC
section MWC
variable {p : Program} {l : Launch} {e : Env} {R : Room} {s : State} {m : MethodId} {args : Array Value} {below : List Frame} {meth : Method} {c : Code} {H : Heap} {locs : List Loc} {cells slots : Nat} {Q : State → Prop}
variable {cc : ByteArray} {pc nL : Nat} {ls : Array Slot} {rest st0 As : List Value} {A A0 : Nat → Prop} {H0 : Heap} {D : va_G} {E : Nat → Nat} {G : th_G} {M b n0 : Nat}
variable {own C host : String} {index n maxL ci d : Nat} {y : MethodName} {bytes : ByteArray} {ret : Option FieldType} {cw : Cond} {T : u_T} {N : Nat}
theorem gmAC (hexec : p.tables.exec = Jvm.exec) (hb : c.code = cc) {Ts : List Cond} (hts : ∀ w ∈ Ts, w.before args s = true) (hin : ∀ w ∈ u_ws RX3 TX3 12, w ∈ Ts) (hown : s.vm.findClass own = some m.cls) (hK : va_K D vwCl (th_tys E) s) {Xs : List Nat} (hI : th_I (okC E) D G Xs H) (hXs : M ∉ Xs) (hM : G M = some (7, 12)) (k : Nat) (hk : k < 12) (hlink : (Cond.fieldLink own index RX3 (TX3 k).2.1 (TX3 k).2.2.1).before args s = true) (hsame : (TX3 k).1 = RX3) {kd : th_K} (hm : mfC[k]? = some (.inl kd)) (hdg : decode cc pc = .ok (.getfield index, 3))
    (kk : ∀ q : Nat, G q = some kd → frC D M k q H → W p l e R s m args below meth c H locs cells slots Q (F0 m (pc + 3) ls (.ref q :: rest))) : W p l e R s m args below meth c H locs cells slots Q (F0 m pc ls (.ref M :: rest)) := by
  obtain ⟨fs, hO, hok⟩ := omC hI hM hXs
  obtain ⟨v, hv, hmv⟩ := hok.2 k hk
  rw [hm] at hmv
  obtain ⟨q, rfl, hq⟩ := hmv
  exact th_get (C := RX3) (T := TX3) (N := 12) hexec hb hts hin hown hK hO rfl k hk hlink hsame hv hdg (kk q hq ⟨fs, hO, hv⟩)
theorem gmIC (hexec : p.tables.exec = Jvm.exec) (hb : c.code = cc) {Ts : List Cond} (hts : ∀ w ∈ Ts, w.before args s = true) (hin : ∀ w ∈ u_ws RX3 TX3 12, w ∈ Ts) (hown : s.vm.findClass own = some m.cls) (hK : va_K D vwCl (th_tys E) s) {Xs : List Nat} (hI : th_I (okC E) D G Xs H) (hXs : M ∉ Xs) (hM : G M = some (7, 12)) (k : Nat) (hk : k < 12) (hlink : (Cond.fieldLink own index RX3 (TX3 k).2.1 (TX3 k).2.2.1).before args s = true) (hsame : (TX3 k).1 = RX3) {lo hi : Int} (hm : mfC[k]? = some (.inr (lo, hi))) (hdg : decode cc pc = .ok (.getfield index, 3))
    (kk : ∀ z : Int32, gfC D M k z H → lo ≤ z.toInt → z.toInt ≤ hi → W p l e R s m args below meth c H locs cells slots Q (F0 m (pc + 3) ls (.int z :: rest))) : W p l e R s m args below meth c H locs cells slots Q (F0 m pc ls (.ref M :: rest)) := by
  obtain ⟨fs, hO, hok⟩ := omC hI hM hXs
  obtain ⟨v, hv, hmv⟩ := hok.2 k hk
  rw [hm] at hmv
  obtain ⟨q, rfl, h1, h2⟩ := hmv
  exact th_get (C := RX3) (T := TX3) (N := 12) hexec hb hts hin hown hK hO rfl k hk hlink hsame hv hdg (kk q ⟨fs, hO, hv⟩ h1 h2)
theorem pmIC (hexec : p.tables.exec = Jvm.exec) (hb : c.code = cc) {Ts : List Cond} (hts : ∀ w ∈ Ts, w.before args s = true) (hin : ∀ w ∈ u_ws RX3 TX3 12, w ∈ Ts) (hown : s.vm.findClass own = some m.cls) (hK : va_K D vwCl (th_tys E) s) {Xs : List Nat} (hI : th_I (okC E) D G Xs H) (hXs : M ∉ Xs) (hM : G M = some (7, 12)) (hS0 : va_S A H0 H locs) (hA : A M) (k : Nat) (hk : k < 12) (hlink : (Cond.fieldLink own index RX3 (TX3 k).2.1 (TX3 k).2.2.1).before args s = true) (hsame : (TX3 k).1 = RX3) (hfin : (TX3 k).2.2.2 = false) {ty : FieldType} {z : Int32} (hd : parseFieldDescriptor (TX3 k).2.2.1 = some ty) (hn : narrow ty (.int z) = .int z) (hfit : fits ty (.int z) = true) {lo hi : Int} (hm : mfC[k]? = some (.inr (lo, hi))) (h1 : lo ≤ z.toInt) (h2 : z.toInt ≤ hi) (hdg : decode cc pc = .ok (.putfield index, 3))
    (kk : ∀ (H1 : Heap) (locs1 : List Loc), th_I (okC E) D G Xs H1 → gPC D M k z H H1 → va_S A H0 H1 locs1 → W p l e R s m args below meth c H1 locs1 cells slots Q (F0 m (pc + 3) ls rest)) : W p l e R s m args below meth c H locs cells slots Q (F0 m pc ls (.int z :: .ref M :: rest)) := by
  obtain ⟨fs, hO, hok⟩ := omC hI hM hXs
  refine th_put (C := RX3) (T := TX3) (N := 12) (ty := ty) hexec hb hts hin tyX3 tyX3_ok nmX3 hown hK hO hS0 hA rfl k hk hlink hsame hfin hd hn hfit (by rw [hok.1]; exact hk) hdg (fun H1 locs1 hO1 oq hS1 => ?_)
  refine kk H1 locs1 (th_I.put hI hM hO1 (ok_mC (hok.set hk hm h1 h2)) oq) ⟨oq, ⟨_, hO1, List.getElem?_set_self (by rw [hok.1]; exact hk)⟩, fun j w hj2 hj hg => ?_, fun j q hj2 hj hg => ?_⟩ hS1
  · obtain ⟨fs', h3, h4⟩ := hg
    obtain ⟨v, hv, -⟩ := hok.2 j hj2
    have := m_sameC hO h3 hj2 hv h4
    subst this
    exact ⟨_, hO1, by rw [List.getElem?_set_ne (Ne.symm hj)]; exact hv⟩
  · obtain ⟨fs', h3, h4⟩ := hg
    obtain ⟨v, hv, -⟩ := hok.2 j hj2
    have := m_sameC hO h3 hj2 hv h4
    subst this
    exact ⟨_, hO1, by rw [List.getElem?_set_ne (Ne.symm hj)]; exact hv⟩
end MWC
abbrev PCx (E : Nat → Nat) (D : va_G) (G : th_G) (X : Heap → Prop) : State → Prop := fun U => th_P E D G U ∧ X U.heap
abbrev PRC (E : Nat → Nat) (D : va_G) (G : th_G) (H : Heap) : State → Prop := fun U => U.heap = H ∧ th_P E D G U
theorem nx_blind {E : Nat → Nat} {D : va_G} {G : th_G} {av : List Value} {X : Heap → Prop} : FrameBlind (va_Pc av (PCx E D G X)) := fun a U g mk q => ⟨q.1, ⟨q.2.1.1, th_N.same (u := U) rfl q.2.1.2.1, va_K.moved (u := U) (U := U.calling g mk a) (Vm.Alike.refl U.vm) q.2.1.2.2⟩, q.2.2⟩
theorem nr_blind {E : Nat → Nat} {D : va_G} {G : th_G} {av : List Value} {H : Heap} : FrameBlind (va_Pc av (PRC E D G H)) := fun a U g mk q => ⟨q.1, q.2.1, ⟨q.2.2.1, th_N.same (u := U) rfl q.2.2.2.1, va_K.moved (u := U) (U := U.calling g mk a) (Vm.Alike.refl U.vm) q.2.2.2.2⟩⟩
abbrev QCi (E : Nat → Nat) (D : va_G) (G : th_G) (Y : Int32 → Heap → Prop) : Array Value → State → Outcome → State → Prop := va_Qi (fun r (u : Int32) => u = r) (fun u t => th_P E D G t ∧ Y u t.heap) (th_A G)
abbrev QCv (E : Nat → Nat) (D : va_G) (G : th_G) (Y : Heap → Prop) : Array Value → State → Outcome → State → Prop := va_Qv (fun (_ : Unit) => True) (fun _ t => th_P E D G t ∧ Y t.heap) (th_A G)
section MCC
variable {p : Program} {l : Launch} {e : Env} {R : Room} {s : State} {m : MethodId} {args : Array Value} {below : List Frame} {meth : Method} {c : Code} {H : Heap} {locs : List Loc} {cells slots : Nat} {Q : State → Prop}
variable {cc : ByteArray} {pc nL : Nat} {ls : Array Slot} {rest st0 As : List Value} {A0 : Nat → Prop} {H0 : Heap} {D : va_G} {E : Nat → Nat} {G : th_G} {b : Nat}
variable {own host : String} {index n maxL d : Nat} {y : MethodName} {bytes : ByteArray} {ret : Option FieldType} {cw : Cond} {X : Heap → Prop}
theorem nx_i {Y : Int32 → Heap → Prop} (F : CallFix p m c cc nL s args (tb cw) own) (hM : Met l y (tb (.code y bytes maxL ret)) (rm d) (va_Pc (.ref b :: As) (PCx E D G X)) (QCi E D G Y) 0 0 (th_A G))
    (h1 : Cond.methodLink own index y ∈ TB) (h2 : Cond.instanceMethod y ∈ TB) (h3 : Cond.selects RX3 y y ∈ TB) (h4 : Cond.initialized RX3 ∈ TB) (h5 : Cond.code y bytes maxL ret ∈ TB)
    (hd : y.cls = RX3 ∧ y.cls ≠ "java/lang/invoke/MethodHandle" ∧ y.cls ≠ "java/lang/invoke/VarHandle" ∧ (parseMethodDescriptor y.desc).map (fun d => d.parameters.length) = some n) (hR : d + 1 ≤ R.frames ∧ 8 + (maxL + 11) + 40 * d ≤ R.locals)
    (hI : th_I (okC E) D G [] H) (hN : th_N s) (hK : va_K D vwCl (th_tys E) s) (hS : va_S (th_A G) H0 H locs) (hO : G b = some (7, 12)) (hX : X H)
    (hn : As.length = n) (hsize : ls.size = nL) (hst : st0 = As.reverse ++ .ref b :: rest) (hrm : (rest.map fun v => v.category).sum ≤ 8) (hdg : decode cc pc = .ok (.invokevirtual index, 3)) (hcs : cells ≤ R.cells ∧ slots ≤ R.slots)
    (kk : ∀ (r : Int32) (H1 : Heap) (locs1 : List Loc), th_I (okC E) D G [] H1 → Y r H1 → va_S (th_A G) H0 H1 locs1 → W p l e R s m args below meth c H1 locs1 cells slots Q (F0 m (pc + 3) ls (.int r :: rest))) : W p l e R s m args below meth c H locs cells slots Q (F0 m pc ls st0) := by
  obtain ⟨fs, hO⟩ := rc_7 hI hO List.not_mem_nil
  exact va_calli (va_runV (As := As) (rest := rest) F hM (cwV n F.2.2.2.2 (tb_V h1 h2 h3 h4 h5) rfl rfl rfl hd hR) ⟨nx_blind, va_recv hK (th_one hO) (q := (RX3, TX3, 12)) rfl (q0 := 0) rfl, fun U hU hW => ⟨rfl, ⟨by rw [hU]; exact hI, hN.warm hW, va_K.moved hW.alike hK⟩, by rw [hU]; exact hX⟩⟩ rfl hn hsize hst (lv_room hrm) hdg hcs) hS (fun q _ h => h) (fun q h => h) (fun r u t H1 locs1 ht hvm hw hB hz hk hS => kk r H1 locs1 (by rw [← ht]; exact hB.1.1) (by rw [← ht, ← hw]; exact hB.2) hS)
theorem nx_v {Y : Heap → Prop} (F : CallFix p m c cc nL s args (tb cw) own) (hM : Met l y (tb (.code y bytes maxL ret)) (rm d) (va_Pc (.ref b :: As) (PCx E D G X)) (QCv E D G Y) 0 0 (th_A G))
    (h1 : Cond.methodLink own index y ∈ TB) (h2 : Cond.instanceMethod y ∈ TB) (h3 : Cond.selects RX3 y y ∈ TB) (h4 : Cond.initialized RX3 ∈ TB) (h5 : Cond.code y bytes maxL ret ∈ TB)
    (hd : y.cls = RX3 ∧ y.cls ≠ "java/lang/invoke/MethodHandle" ∧ y.cls ≠ "java/lang/invoke/VarHandle" ∧ (parseMethodDescriptor y.desc).map (fun d => d.parameters.length) = some n) (hR : d + 1 ≤ R.frames ∧ 8 + (maxL + 11) + 40 * d ≤ R.locals)
    (hI : th_I (okC E) D G [] H) (hN : th_N s) (hK : va_K D vwCl (th_tys E) s) (hS : va_S (th_A G) H0 H locs) (hO : G b = some (7, 12)) (hX : X H)
    (hn : As.length = n) (hsize : ls.size = nL) (hst : st0 = As.reverse ++ .ref b :: rest) (hrm : (rest.map fun v => v.category).sum ≤ 8) (hdg : decode cc pc = .ok (.invokevirtual index, 3)) (hcs : cells ≤ R.cells ∧ slots ≤ R.slots)
    (kk : ∀ (H1 : Heap) (locs1 : List Loc), th_I (okC E) D G [] H1 → Y H1 → va_S (th_A G) H0 H1 locs1 → W p l e R s m args below meth c H1 locs1 cells slots Q (F0 m (pc + 3) ls (rest))) : W p l e R s m args below meth c H locs cells slots Q (F0 m pc ls st0) := by
  obtain ⟨fs, hO⟩ := rc_7 hI hO List.not_mem_nil
  exact va_callv (va_runV (As := As) (rest := rest) F hM (cwV n F.2.2.2.2 (tb_V h1 h2 h3 h4 h5) rfl rfl rfl hd hR) ⟨nx_blind, va_recv hK (th_one hO) (q := (RX3, TX3, 12)) rfl (q0 := 0) rfl, fun U hU hW => ⟨rfl, ⟨by rw [hU]; exact hI, hN.warm hW, va_K.moved hW.alike hK⟩, by rw [hU]; exact hX⟩⟩ rfl hn hsize hst (lv_room hrm) hdg hcs) hS (fun q _ h => h) (fun q h => h) (fun u t H1 locs1 ht hvm hw hB hz hk hS => kk H1 locs1 (by rw [← ht]; exact hB.1.1) (by rw [← ht]; exact hB.2) hS)
theorem nr_i {post : Int32 → Prop} (F : CallFix p m c cc nL s args (tb cw) own) (hM : Met l y (tb (.code y bytes maxL ret)) (rm d) (va_Pc (.ref b :: As) (PRC E D G H)) (QS H post) 0 0 (fun _ => False))
    (h1 : Cond.methodLink own index y ∈ TB) (h2 : Cond.instanceMethod y ∈ TB) (h3 : Cond.selects RX3 y y ∈ TB) (h4 : Cond.initialized RX3 ∈ TB) (h5 : Cond.code y bytes maxL ret ∈ TB)
    (hd : y.cls = RX3 ∧ y.cls ≠ "java/lang/invoke/MethodHandle" ∧ y.cls ≠ "java/lang/invoke/VarHandle" ∧ (parseMethodDescriptor y.desc).map (fun d => d.parameters.length) = some n) (hR : d + 1 ≤ R.frames ∧ 8 + (maxL + 11) + 40 * d ≤ R.locals)
    (hI : th_I (okC E) D G [] H) (hN : th_N s) (hK : va_K D vwCl (th_tys E) s) (hS : va_S A0 H0 H locs) (hO : G b = some (7, 12)) 
    (hn : As.length = n) (hsize : ls.size = nL) (hst : st0 = As.reverse ++ .ref b :: rest) (hrm : (rest.map fun v => v.category).sum ≤ 8) (hdg : decode cc pc = .ok (.invokevirtual index, 3)) (hcs : cells ≤ R.cells ∧ slots ≤ R.slots)
    (kk : ∀ (r : Int32) (locs1 : List Loc), post r → va_S A0 H0 H locs1 → W p l e R s m args below meth c H locs1 cells slots Q (F0 m (pc + 3) ls (.int r :: rest))) : W p l e R s m args below meth c H locs cells slots Q (F0 m pc ls st0) := by
  obtain ⟨fs, hO⟩ := rc_7 hI hO List.not_mem_nil
  exact va_calli (va_runV (As := As) (rest := rest) F hM (cwV n F.2.2.2.2 (tb_V h1 h2 h3 h4 h5) rfl rfl rfl hd hR) ⟨nr_blind, va_recv hK (th_one hO) (q := (RX3, TX3, 12)) rfl (q0 := 0) rfl, fun U hU hW => ⟨rfl, hU, ⟨by rw [hU]; exact hI, hN.warm hW, va_K.moved hW.alike hK⟩⟩⟩ rfl hn hsize hst (lv_room hrm) hdg hcs) hS (fun q _ h => h.elim) (fun q h => h.elim) (fun r u t H1 locs1 ht hvm hw hB hz hk hS1 => by
    have e : H1 = H := ht.symm.trans hB
    rw [e] at hS1 ⊢
    exact kk r locs1 hw hS1)
end MCC
theorem gfC_of {E : Nat → Nat} {D : va_G} {G : th_G} {H : Heap} {M n : Nat} {lo hi : Int} (hI : th_I (okC E) D G [] H) (hM : G M = some (7, 12)) (k : Nat) (hk : k < 12) (hm : mfC[k]? = some (.inr (lo, hi))) : ∃ z : Int32, gfC D M k z H ∧ lo ≤ z.toInt ∧ z.toInt ≤ hi := by
  obtain ⟨fs, hO, hok⟩ := omC hI hM List.not_mem_nil
  obtain ⟨v, hv, hmv⟩ := hok.2 k hk
  rw [hm] at hmv
  obtain ⟨q, rfl, h1, h2⟩ := hmv
  exact ⟨q, ⟨fs, hO, hv⟩, h1, h2⟩
theorem frC_of {E : Nat → Nat} {D : va_G} {G : th_G} {H : Heap} {M n : Nat} {kd : th_K} (hI : th_I (okC E) D G [] H) (hM : G M = some (7, 12)) (k : Nat) (hk : k < 12) (hm : mfC[k]? = some (.inl kd)) : ∃ q : Nat, G q = some kd ∧ frC D M k q H := by
  obtain ⟨fs, hO, hok⟩ := omC hI hM List.not_mem_nil
  obtain ⟨v, hv, hmv⟩ := hok.2 k hk
  rw [hm] at hmv
  obtain ⟨q, rfl, h1⟩ := hmv
  exact ⟨q, h1, ⟨fs, hO, hv⟩⟩
/-! ===== the Reader's tokens, and where it stands ===== -/
def ck (c z : Int) : Prop := (256 ≤ c ∧ c ≤ 272 ∧ z = c - 255) ∨ (0 ≤ c ∧ c ≤ 255 ∧ z = 100 + c) ∨ (c = -2 ∧ z = 50) ∨ (c = -3 ∧ z = 0)
def TK (ft fn : Nat → Int32) (TT : Nat) (ZZ : Nat → Int) (YY : Nat → Bool) : Prop := (ft TT).toInt = -1 ∧ ∀ j : Nat, j < TT → ck (ft j).toInt (ZZ j) ∧ (YY j = true ↔ (fn j).toInt ≤ 1000)
theorem TK.at {ft fn : Nat → Int32} {TT j : Nat} {ZZ : Nat → Int} {YY : Nat → Bool} (h : TK ft fn TT ZZ YY) (hj : j ≤ TT) : ((ft j).toInt = -1 ∧ j = TT) ∨ (j < TT ∧ ((256 ≤ (ft j).toInt ∧ (ft j).toInt ≤ 272 ∧ ZZ j = (ft j).toInt - 255) ∨ (0 ≤ (ft j).toInt ∧ (ft j).toInt ≤ 255 ∧ ZZ j = 100 + (ft j).toInt) ∨ ((ft j).toInt = -2 ∧ ZZ j = 50) ∨ ((ft j).toInt = -3 ∧ ZZ j = 0))) := by
  by_cases e : j = TT
  · exact Or.inl ⟨by rw [e]; exact h.1, e⟩
  · exact Or.inr ⟨by omega, (h.2 j (by omega)).1⟩
theorem TK.y {ft fn : Nat → Int32} {TT j : Nat} {ZZ : Nat → Int} {YY : Nat → Bool} (h : TK ft fn TT ZZ YY) (hj : j < TT) : YY j = true ↔ (fn j).toInt ≤ 1000 := (h.2 j hj).2
def oc (c : Int) : Prop := c = 43 ∨ c = 45 ∨ c = 42 ∨ c = 47 ∨ c = 37
def SI (r op c : Int) (P Q : Prop) : Prop := (r = 1 ∧ P ∧ ((op = -1 ∧ ¬ oc c) ∨ (op ≠ -1 ∧ oc c))) ∨ (r = 0 ∧ Q)
theorem SI_op {x : Int32} {c : Int} (h : (x.toInt = -1 ∧ ¬ oc c) ∨ (2 ≤ x.toInt ∧ x.toInt ≤ 6 ∧ oc c)) : (x.toInt = -1 ∧ ¬ oc c) ∨ (x.toInt ≠ -1 ∧ oc c) := by
  rcases h with h | ⟨a, b, c⟩
  · exact Or.inl h
  · exact Or.inr ⟨by omega, c⟩
theorem SI_in {r op c : Int} {P Q : Prop} (h : SI r op c P Q) (hr : r ≠ 0) (ho : op ≠ -1) : P ∧ oc c := by
  rcases h with ⟨a, b, d⟩ | ⟨a, b⟩
  · rcases d with ⟨d, _⟩ | ⟨_, d⟩
    · exact absurd d ho
    · exact ⟨b, d⟩
  · exact absurd a hr
theorem SI_out {r op c : Int} {P Q : Prop} (h : SI r op c P Q) (ho : r = 0 ∨ op = -1 ∨ ¬ oc c) : (r = 1 ∧ P ∧ ¬ oc c) ∨ (r = 0 ∧ Q) := by
  rcases h with ⟨a, b, d⟩ | h
  · refine Or.inl ⟨a, b, ?_⟩
    rcases d with ⟨_, d⟩ | ⟨d, e⟩
    · exact d
    · rcases ho with ho | ho | ho
      · omega
      · exact absurd ho d
      · exact ho
  · exact Or.inr h
def SJ (r : Int) (P Q : Prop) : Prop := (r = 1 ∧ P) ∨ (r = 0 ∧ Q)
theorem SJ_in {r : Int} {P Q : Prop} (h : SJ r P Q) (hr : r ≠ 0) : P := by
  rcases h with ⟨_, b⟩ | ⟨a, _⟩
  · exact b
  · exact absurd a hr
theorem SJ_out {r : Int} {P Q C : Prop} (h : SJ r P Q) (ho : r = 0 ∨ C) : (r = 1 ∧ P ∧ C) ∨ (r = 0 ∧ Q) := by
  rcases h with ⟨a, b⟩ | h
  · rcases ho with ho | ho
    · omega
    · exact Or.inl ⟨a, b, ho⟩
  · exact Or.inr h
def RC0 (E : Nat → Nat) (D : va_G) (G : th_G) (h0 : Nat) (ft fp fn : Nat → Int32) (TT nc LL : Nat) (H : Heap) : Prop := TT ≤ 400 ∧ nc ≤ 12 ∧ gaC E D G h0 3 (17, 401) ft H ∧ gaC E D G h0 4 (18, 401) fp H ∧ gaC E D G h0 5 (19, 401) fn H ∧ (∃ z, gfC D h0 6 z H ∧ z.toInt = (TT : Int) + 1) ∧ (∃ z, gfC D h0 7 z H ∧ z.toInt = (nc : Int)) ∧ ∃ z, gfC D h0 8 z H ∧ z.toInt = (LL : Int)
def RC (E : Nat → Nat) (D : va_G) (G : th_G) (h0 : Nat) (ft fp fn : Nat → Int32) (TT pp nc LL : Nat) (H : Heap) : Prop := TT ≤ 400 ∧ nc ≤ 12 ∧ gaC E D G h0 3 (17, 401) ft H ∧ gaC E D G h0 4 (18, 401) fp H ∧ gaC E D G h0 5 (19, 401) fn H ∧ (∃ z, gfC D h0 6 z H ∧ z.toInt = (TT : Int) + 1) ∧ (∃ z, gfC D h0 7 z H ∧ z.toInt = (nc : Int)) ∧ (∃ z, gfC D h0 8 z H ∧ z.toInt = (LL : Int)) ∧ pp ≤ TT ∧ (∃ z, gfC D h0 10 z H ∧ z.toInt = (pp : Int)) ∧ ∃ z, gfC D h0 11 z H ∧ z.toInt = (ft pp).toInt
/-! ===== the class's splitting ===== -/
def zc (c : Int) : Int := if 256 ≤ c then c - 255 else if 0 ≤ c then 100 + c else if c = -2 then 50 else 0
def tC (E : Nat → Nat) (a j : Nat) : Nat := E (1100 + 512 * a + j)
abbrev TC_ (E : Nat → Nat) (a N : Nat) (fp ft fn : Nat → Int32) (k t : Nat) : Prop := tk_I (tC E a) N (fun j => (fp j).toInt) (fun j => zc (ft j).toInt) (YV fn) k t
def CKI (ft : Nat → Int32) (t : Nat) : Prop := ∀ j : Nat, j < t → ck (ft j).toInt (zc (ft j).toInt)
theorem zc_ck {c : Int} (h : (256 ≤ c ∧ c ≤ 272) ∨ (0 ≤ c ∧ c ≤ 255) ∨ c = -2 ∨ c = -3) : ck c (zc c) := by
  unfold zc ck
  rcases h with h | h | h | h
  · rw [if_pos h.1]; omega
  · rw [if_neg (by omega), if_pos h.1]; omega
  · rw [if_neg (by omega), if_neg (by omega), if_pos h]; omega
  · rw [if_neg (by omega), if_neg (by omega), if_neg (by omega)]; omega
def RT (E : Nat → Nat) (D : va_G) (G : th_G) (h0 : Nat) (ft fp fn : Nat → Int32) (tt : Nat) (H : Heap) : Prop := tt ≤ 401 ∧ gaC E D G h0 3 (17, 401) ft H ∧ gaC E D G h0 4 (18, 401) fp H ∧ gaC E D G h0 5 (19, 401) fn H ∧ ∃ z, gfC D h0 6 z H ∧ z.toInt = (tt : Int)
/-- one token more -/
def AT (ft fp fn ft' fp' fn' : Nat → Int32) (tt : Nat) (a b c : Int32) : Prop := (∀ j : Nat, j ≠ tt → ft' j = ft j ∧ fp' j = fp j ∧ fn' j = fn j) ∧ ft' tt = a ∧ fp' tt = b ∧ fn' tt = c
theorem AT.mk {ft fp fn : Nat → Int32} {tt : Nat} {a b c i j k : Int32} (hi : i.toInt = (tt : Int)) (hj : j.toInt = (tt : Int)) (hk : k.toInt = (tt : Int)) : AT ft fp fn (upd ft i.toNatClampNeg a) (upd fp j.toNatClampNeg b) (upd fn k.toNatClampNeg c) tt a b c := ⟨fun m hm => ⟨up_ne hi hm, up_ne hj hm, up_ne hk hm⟩, up_at hi, up_at hj, up_at hk⟩
theorem TC_tok {E : Nat → Nat} {ta N k t e : Nat} {ft fp fn ft' fp' fn' : Nat → Int32} {a b c : Int32} (h : TC_ E ta N fp ft fn k t) (hA : AT ft fp fn ft' fp' fn' t a b c) (hk : k < N) (hb : tC E ta k ≠ 32) (he : k < e) (heN : e ≤ N) (hc : (∀ j, k < j → j < e → tk_ct (tC E ta) j) ∧ (e = N ∨ ¬ tk_ct (tC E ta) e)) (h5 : b.toInt = (k : Int)) (h6 : tk_z (tC E ta) N k (zc a.toInt)) (h7 : tk_dg (tC E ta k) → tk_rd (tC E ta) N k e ∧ (c.toInt ≤ 1000 ↔ tk_v (tC E ta) k (e - k) ≤ 1000)) : TC_ E ta N fp' ft' fn' e (t + 1) :=
  tk_I.tok h hk hb he heN hc (fun j hj => by
    obtain ⟨q1, q2, q3⟩ := hA.1 j hj
    refine ⟨by show (fp' j).toInt = (fp j).toInt; rw [q2], by show zc (ft' j).toInt = zc (ft j).toInt; rw [q1], ?_⟩
    unfold YV
    rw [q3]) (by show (fp' t).toInt = _; rw [hA.2.2.1]; exact h5) (by show tk_z _ _ _ (zc (ft' t).toInt); rw [hA.2.1]; exact h6) (fun z => by
    obtain ⟨r1, r2⟩ := h7 z
    refine ⟨e, r1, ?_⟩
    rw [YV_t, hA.2.2.2]
    exact r2)
theorem CKI_tok {ft fp fn ft' fp' fn' : Nat → Int32} {t : Nat} {a b c : Int32} (h : CKI ft t) (hA : AT ft fp fn ft' fp' fn' t a b c) (ha : ck a.toInt (zc a.toInt)) : CKI ft' (t + 1) := fun j hj => by
  by_cases e : j = t
  · rw [e, hA.2.1]; exact ha
  · rw [(hA.1 j e).1]; exact h j (by omega)
theorem tc_at {E : Nat → Nat} {a p : Nat} {f : Nat → Int32} {i x : Int32} (h : ∀ j : Nat, j < 400 → (f j).toInt = ((E (1100 + 512 * a + j) : Nat) : Int) ∧ E (1100 + 512 * a + j) ≤ 255) (e : x = f i.toNatClampNeg) (hi : i.toInt = (p : Int)) (hp : p < 400) : x.toInt = (tC E a p : Int) ∧ tC E a p ≤ 255 := by
  rw [rd_at e hi]
  exact h p hp
/-- the value so far, as the class keeps it: never above 1001 -/
def VC (E : Nat → Nat) (ta N k i : Nat) (v : Int) : Prop := 0 ≤ v ∧ v ≤ 1001 ∧ ((v ≤ 1000 ∧ v = (tk_v (tC E ta) k (i - k) : Int)) ∨ (v = 1001 ∧ 1000 < tk_v (tC E ta) k (i - k)))
theorem VC.ini {E : Nat → Nat} {ta N k : Nat} {v : Int} (hg : tk_dg (tC E ta k)) (hv : v = (tC E ta k : Int) - 48) : VC E ta N k (k + 1) v := by
  unfold tk_dg at hg
  have e : tk_v (tC E ta) k (k + 1 - k) = tC E ta k - 48 := by
    rw [tk_v1 (Nat.le_refl k), Nat.sub_self]
    show 0 * 10 + _ = _
    omega
  refine ⟨by omega, by omega, Or.inl ⟨by omega, ?_⟩⟩
  rw [e]; omega
theorem VC.add {E : Nat → Nat} {ta N k i : Nat} {v w d : Int} (h : VC E ta N k i v) (hi : k ≤ i) (hg : tk_dg (tC E ta i)) (hd : d = (tC E ta i : Int)) (hw : (w ≤ 1001 ∧ w = v * 10 + d - 48) ∨ (w = 1001 ∧ 1001 ≤ v * 10 + d - 48)) : VC E ta N k (i + 1) w := by
  unfold tk_dg at hg
  obtain ⟨a, b, c⟩ := h
  have e := tk_v1 (B := tC E ta) hi
  refine ⟨by omega, by omega, ?_⟩
  rcases c with ⟨c1, c2⟩ | ⟨c1, c2⟩
  · rcases hw with ⟨w1, w2⟩ | ⟨w1, w2⟩
    · by_cases q : w ≤ 1000
      · exact Or.inl ⟨q, by omega⟩
      · exact Or.inr ⟨by omega, by omega⟩
    · exact Or.inr ⟨w1, by omega⟩
  · exact Or.inr ⟨by omega, by omega⟩
/-! ===== the class's words: eight places each ===== -/
def w_8 (j : Nat) : Int := (w_byt.getD j 0).toInt
theorem w8_T : ∀ k : Nat, k < 17 → ∀ x : Nat, x < 8 → w_8 (8 * k + x) = if x < tk_wl k then ((tk_wc k x : Nat) : Int) else 32 := by decide +kernel
theorem w_ch : ∀ j : Nat, j < 136 → ((w_byt.getD j 0 &&& 255).toUInt32 % 65536).toInt32 = w_byt.getD j 0 := by decide +kernel
def sgn (B : Nat → Nat) (i e x : Nat) : Int := if i + x < e then (B (i + x) : Int) else 32
def WC (B : Nat → Nat) (i e k n : Nat) (same : Int) : Prop := (same = 1 ∧ e < i + 8 ∧ ∀ x : Nat, x < n → sgn B i e x = w_8 (8 * k + x)) ∨ (same = 0 ∧ ¬ tk_m B i e k)
theorem w_fw {B : Nat → Nat} {i e k : Nat} (hk : k < 17) (h : tk_m B i e k) : e < i + 8 ∧ ∀ x : Nat, x < 8 → sgn B i e x = w_8 (8 * k + x) := by
  obtain ⟨h1, h2⟩ := h
  obtain ⟨_, _, _, h7, _, _⟩ := wd_T k hk
  refine ⟨by omega, fun x hx => ?_⟩
  rw [w8_T k hk x hx]
  unfold sgn
  by_cases q : x < tk_wl k
  · rw [if_pos (by omega), if_pos q, h2 x q]
  · rw [if_neg (by omega), if_neg q]
theorem w_bw {B : Nat → Nat} {i e k : Nat} (hk : k < 17) (hie : i ≤ e) (hl : ∀ j : Nat, i ≤ j → j < e → tk_lt (B j)) (h : e < i + 8 ∧ ∀ x : Nat, x < 8 → sgn B i e x = w_8 (8 * k + x)) : tk_m B i e k := by
  obtain ⟨h1, h2⟩ := h
  obtain ⟨_, _, _, h7, _, h6⟩ := wd_T k hk
  have hx : ∀ x : Nat, x < tk_wl k → i + x < e ∧ B (i + x) = tk_wc k x := fun x hx => by
    have a := h2 x (by omega)
    rw [w8_T k hk x (by omega), if_pos hx] at a
    have b := h6 x hx
    unfold sgn at a
    by_cases q : i + x < e
    · rw [if_pos q] at a; exact ⟨q, by omega⟩
    · rw [if_neg q] at a; omega
  have h9 := h2 (tk_wl k) (by omega)
  rw [w8_T k hk _ (by omega), if_neg (by omega)] at h9
  have hge : ¬ i + tk_wl k < e := fun q => by
    unfold sgn at h9
    rw [if_pos q] at h9
    have := hl (i + tk_wl k) (by omega) q
    unfold tk_lt at this
    omega
  obtain ⟨_, _, hw1, _, _, _⟩ := wd_T k hk
  have h8 := (hx (tk_wl k - 1) (by omega)).1
  exact ⟨by omega, fun x q => (hx x q).2⟩
theorem WC.ini {B : Nat → Nat} {i e k : Nat} (h : e < i + 8) : WC B i e k 0 1 := Or.inl ⟨rfl, h, fun _ z => absurd z (Nat.not_lt_zero _)⟩
theorem WC.no {B : Nat → Nat} {i e k n : Nat} (hk : k < 17) (h : ¬ e < i + 8) : WC B i e k n 0 := Or.inr ⟨rfl, fun z => h (w_fw hk z).1⟩
theorem WC.yes {B : Nat → Nat} {i e k n : Nat} {s v : Int} (h : WC B i e k n s) (hs : s ≠ 0) (hv : v = sgn B i e n) (hb : v = w_8 (8 * k + n)) : WC B i e k (n + 1) 1 := by
  rcases h with ⟨a, b, c⟩ | ⟨a, _⟩
  · refine Or.inl ⟨rfl, b, fun x hx => ?_⟩
    by_cases q : x = n
    · rw [q, ← hv, hb]
    · exact c x (by omega)
  · exact absurd a hs
theorem WC.dif {B : Nat → Nat} {i e k n : Nat} {v : Int} (hk : k < 17) (hn : n < 8) (hv : v = sgn B i e n) (hb : v ≠ w_8 (8 * k + n)) : WC B i e k (n + 1) 0 := Or.inr ⟨rfl, fun z => hb (hv.trans ((w_fw hk z).2 n hn))⟩
theorem WC.done {B : Nat → Nat} {i e k n : Nat} {s : Int} (h : WC B i e k n s) (hk : k < 17) (hs : s ≠ 0) (hn : 8 ≤ n) (hie : i ≤ e) (hl : ∀ j : Nat, i ≤ j → j < e → tk_lt (B j)) : tk_m B i e k := by
  rcases h with ⟨_, b, c⟩ | ⟨a, _⟩
  · exact w_bw hk hie hl ⟨b, fun x hx => c x (by omega)⟩
  · exact absurd a hs
theorem WC.not {B : Nat → Nat} {i e k n : Nat} {s : Int} (h : WC B i e k n s) (hs : s = 0) : ¬ tk_m B i e k := by
  rcases h with ⟨a, _⟩ | ⟨_, b⟩
  · omega
  · exact b
theorem sgn_in {B : Nat → Nat} {i e x : Nat} (h : i + x < e) : sgn B i e x = (B (i + x) : Int) := if_pos h
theorem sgn_out {B : Nat → Nat} {i e x : Nat} (h : ¬ i + x < e) : sgn B i e x = 32 := if_neg h
theorem zc_w {c : Int} {w : Nat} (h : (w = 0 ∧ c = -3) ∨ (1 ≤ w ∧ c = 255 + (w : Int))) : zc c = (w : Int) := by
  unfold zc
  rcases h with ⟨a, b⟩ | ⟨a, b⟩
  · rw [if_neg (by omega), if_neg (by omega), if_neg (by omega)]; omega
  · rw [if_pos (by omega)]; omega
theorem zc_b {c : Int} (h : 0 ≤ c ∧ c ≤ 255) : zc c = 100 + c := by
  unfold zc
  rw [if_neg (by omega), if_pos h.1]
theorem tk_w17 {B : Nat → Nat} {i e w : Nat} (h : tk_w B i e w) : w ≤ 17 := by
  rcases h with ⟨k, a, _, _, b⟩ | ⟨_, b⟩ <;> omega
theorem VC.y {E : Nat → Nat} {ta N k i : Nat} {v : Int} (h : VC E ta N k i v) : v ≤ 1000 ↔ tk_v (tC E ta) k (i - k) ≤ 1000 := by
  rcases h.2.2 with ⟨a, b⟩ | ⟨a, b⟩ <;> omega
abbrev PWx (E : Nat → Nat) (D : va_G) (G : th_G) (adK adV : Nat → Nat) (X : Heap → Prop) : State → Prop := fun U => th_PW E D G adK adV U ∧ X U.heap
theorem px_blind {E : Nat → Nat} {D : va_G} {G : th_G} {adK adV : Nat → Nat} {av : List Value} {X : Heap → Prop} : FrameBlind (va_Pc av (PWx E D G adK adV X)) := fun a U g mk q => ⟨q.1, ⟨⟨q.2.1.1.1, th_N.same (u := U) rfl q.2.1.1.2.1, va_K.moved (u := U) (U := U.calling g mk a) (Vm.Alike.refl U.vm) q.2.1.1.2.2⟩, WS.same (u := U) rfl q.2.1.2⟩, q.2.2⟩
theorem w8_at {r i : Int32} {p : Nat} (h : r = w_byt.getD i.toNatClampNeg 0) (hi : i.toInt = (p : Int)) : r.toInt = w_8 p := by
  have : i.toNatClampNeg = p := by show i.toInt.toNat = p; omega
  rw [h, this]; rfl

theorem dX3_stoppedAt_0 : decode cX3_stoppedAt 0 = .ok (.aload_n 0, 1) := by decide +kernel
theorem dX3_stoppedAt_1 : decode cX3_stoppedAt 1 = .ok (.getfield 43, 3) := by decide +kernel
theorem dX3_stoppedAt_4 : decode cX3_stoppedAt 4 = .ok (.ifCond .lt 27, 3) := by decide +kernel
theorem dX3_stoppedAt_7 : decode cX3_stoppedAt 7 = .ok (.aload_n 0, 1) := by decide +kernel
theorem dX3_stoppedAt_8 : decode cX3_stoppedAt 8 = .ok (.getfield 43, 3) := by decide +kernel
theorem dX3_stoppedAt_11 : decode cX3_stoppedAt 11 = .ok (.aload_n 0, 1) := by decide +kernel
theorem dX3_stoppedAt_12 : decode cX3_stoppedAt 12 = .ok (.getfield 24, 3) := by decide +kernel
theorem dX3_stoppedAt_15 : decode cX3_stoppedAt 15 = .ok (.arraylength, 1) := by decide +kernel
theorem dX3_stoppedAt_16 : decode cX3_stoppedAt 16 = .ok (.if_icmp .ge 15, 3) := by decide +kernel
theorem dX3_stoppedAt_19 : decode cX3_stoppedAt 19 = .ok (.aload_n 0, 1) := by decide +kernel
theorem dX3_stoppedAt_20 : decode cX3_stoppedAt 20 = .ok (.getfield 24, 3) := by decide +kernel
theorem dX3_stoppedAt_23 : decode cX3_stoppedAt 23 = .ok (.aload_n 0, 1) := by decide +kernel
theorem dX3_stoppedAt_24 : decode cX3_stoppedAt 24 = .ok (.getfield 43, 3) := by decide +kernel
theorem dX3_stoppedAt_27 : decode cX3_stoppedAt 27 = .ok (.iaload, 1) := by decide +kernel
theorem dX3_stoppedAt_28 : decode cX3_stoppedAt 28 = .ok (.goto 4, 3) := by decide +kernel
theorem dX3_stoppedAt_31 : decode cX3_stoppedAt 31 = .ok (.iconst 0, 1) := by decide +kernel
theorem dX3_stoppedAt_32 : decode cX3_stoppedAt 32 = .ok (.ireturn, 1) := by decide +kernel
set_option maxHeartbeats 4000000 in
set_option maxRecDepth 100000 in
theorem c_X3_stoppedAt (l : Launch) (E : Nat → Nat) (D : va_G) (G : th_G) (H0 : Heap) (h0 : Nat) (hG0 : G h0 = some (7, 12)) (ft fp fn : Nat → Int32) (TT pp nc LL : Nat) (hE : RC E D G h0 ft fp fn TT pp nc LL H0) : Met l yX3_stoppedAt (tb (.code yX3_stoppedAt cX3_stoppedAt 1 (some .int))) (rm 0) (va_Pc [.ref h0] (PRC E D G H0)) (QS H0 (fun r => (r : Int32).toInt = (fp pp).toInt)) 0 0 (fun _ => False) := by
  refine Met.ofW (cc := cX3_stoppedAt) (maxL := 1) (ret := (some .int)) (by decide) rfl ?_
  intro p e s m args below meth c s₁ B hml hv
  obtain ⟨hav, rfl, hI, hN, hK⟩ := hv
  have hx := B.exec
  have hb := B.bytes
  have hr := B.returns
  have hts := atoms_spec (ws := tb (.code yX3_stoppedAt cX3_stoppedAt 1 (some .int))) B.pre
  have hown : s.vm.findClass RX3 = some m.cls := findClass_of_methodNamed B.named
  have hlocks := B.notSynchronized
  have hS : va_S (fun _ => False) s.heap s.heap [] := va_S.rf
  have hl := lv_entry ([.ref h0]) (n := 1) (Nat.le_of_ble_eq_true rfl)
  rw [show entryFrame m args 1 = entryFrame m ([.ref h0] : List Value).toArray 1 from by rw [hav], lg_entry_eq]
  generalize (lg_sl ([.ref h0]) ++ List.replicate (1 - (lg_sl ([.ref h0])).length) Slot.unset).toArray = ls at hl ⊢
  have hl : lv_has ls 1 [(0, .ref h0)] := hl
  generalize hR : (headSpec (tb (.code yX3_stoppedAt cX3_stoppedAt 1 (some .int))) (rm 0)).room = R
  have hR := hR.symm
  generalize hQ : MQ below (QS s.heap (fun r => (r : Int32).toInt = (fp pp).toInt)) args s 0 0 (fun _ => False) = QF
  have hQ := hQ.symm
  obtain ⟨hT4, hn12, ⟨a1, hf2, hq3, hA4⟩, ⟨a5, hf6, hq7, hA8⟩, ⟨a9, hf10, hq11, hA12⟩, ⟨w13, hg14, k15⟩, ⟨w16, hg17, k18⟩, ⟨w19, hg20, k21⟩, hpT, ⟨w22, hg23, k24⟩, ⟨w25, hg26, k27⟩⟩ := hE
  have k28 := iv_lo w19
  have k29 := iv_hi w19
  refine lv_aload_n hx hb dX3_stoppedAt_0 rfl (lv_at hl 0 rfl) ?_
  refine gmIC hx hb hts inT3 hown hK hI List.not_mem_nil hG0 10 (by decide) (hts _ (tb_c wd_139)) rfl rfl dX3_stoppedAt_1 (fun w30 hg31 k32 k33 => ?_)
  obtain rfl := gfC.uniq (by decide) hg23 hg31
  refine lv_if_lt (tgt := 31) hx hb dX3_stoppedAt_4 (by decide) (fun c34 => ?_) (fun c34 => ?_)
  · skip
    have k35 := iv_lt (X := w22.toInt) (Y := (0)) rfl (by decide) c34
    exfalso; omega
  · skip
    have k36 := iv_nlt (X := w22.toInt) (Y := (0)) rfl (by decide) c34
    refine lv_aload_n hx hb dX3_stoppedAt_7 rfl (lv_at hl 0 rfl) ?_
    refine gmIC hx hb hts inT3 hown hK hI List.not_mem_nil hG0 10 (by decide) (hts _ (tb_c wd_139)) rfl rfl dX3_stoppedAt_8 (fun w37 hg38 k39 k40 => ?_)
    obtain rfl := gfC.uniq (by decide) hg23 hg38
    refine lv_aload_n hx hb dX3_stoppedAt_11 rfl (lv_at hl 0 rfl) ?_
    refine gmAC hx hb hts inT3 hown hK hI List.not_mem_nil hG0 4 (by decide) (hts _ (tb_c wd_133)) rfl rfl dX3_stoppedAt_12 (fun a41 hq42 hf43 => ?_)
    obtain rfl := frC.uniq (by decide) hf6 hf43
    refine va_alen hx hb hK (th_one hA8) 0 0 rfl (v := 401) rfl (show Int32.ofNat 401 = (401 : Int32) from by decide) dX3_stoppedAt_15 ?_
    refine lv_icmp_ge (tgt := 31) hx hb dX3_stoppedAt_16 (by decide) (fun c44 => ?_) (fun c44 => ?_)
    · skip
      have k45 := iv_le (X := (401)) (Y := w22.toInt) (by decide) rfl c44
      exfalso; omega
    · skip
      have k46 := iv_nle (X := (401)) (Y := w22.toInt) (by decide) rfl c44
      refine lv_aload_n hx hb dX3_stoppedAt_19 rfl (lv_at hl 0 rfl) ?_
      refine gmAC hx hb hts inT3 hown hK hI List.not_mem_nil hG0 4 (by decide) (hts _ (tb_c wd_133)) rfl rfl dX3_stoppedAt_20 (fun a47 hq48 hf49 => ?_)
      obtain rfl := frC.uniq (by decide) hf6 hf49
      refine lv_aload_n hx hb dX3_stoppedAt_23 rfl (lv_at hl 0 rfl) ?_
      refine gmIC hx hb hts inT3 hown hK hI List.not_mem_nil hG0 10 (by decide) (hts _ (tb_c wd_139)) rfl rfl dX3_stoppedAt_24 (fun w50 hg51 k52 k53 => ?_)
      obtain rfl := gfC.uniq (by decide) hg23 hg51
      refine th_iald hx hb hK hA8 0 rfl (iv_in (X := w22.toInt) rfl (by omega) (by omega)) dX3_stoppedAt_27 (fun v54 e55 => ?_)
      have k56 := rd_at (p := pp) e55 (by omega)
      refine lv_goto (tgt := 32) hx hb dX3_stoppedAt_28 (by decide) ?_
      have hpost : (v54 : Int32).toInt = (fp pp).toInt := by omega
      rw [hQ]
      exact W.iret (v := v54) hx hb hr (fun t ht hW => ⟨⟨v54, (), rfl, hpost, ht⟩, hS.F ht⟩) hS.2.2 dX3_stoppedAt_32
theorem dX3_moveTo_0 : decode cX3_moveTo 0 = .ok (.aload_n 0, 1) := by decide +kernel
theorem dX3_moveTo_1 : decode cX3_moveTo 1 = .ok (.iload_n 1, 1) := by decide +kernel
theorem dX3_moveTo_2 : decode cX3_moveTo 2 = .ok (.putfield 43, 3) := by decide +kernel
theorem dX3_moveTo_5 : decode cX3_moveTo 5 = .ok (.aload_n 0, 1) := by decide +kernel
theorem dX3_moveTo_6 : decode cX3_moveTo 6 = .ok (.aload_n 0, 1) := by decide +kernel
theorem dX3_moveTo_7 : decode cX3_moveTo 7 = .ok (.getfield 43, 3) := by decide +kernel
theorem dX3_moveTo_10 : decode cX3_moveTo 10 = .ok (.ifCond .lt 26, 3) := by decide +kernel
theorem dX3_moveTo_13 : decode cX3_moveTo 13 = .ok (.aload_n 0, 1) := by decide +kernel
theorem dX3_moveTo_14 : decode cX3_moveTo 14 = .ok (.getfield 43, 3) := by decide +kernel
theorem dX3_moveTo_17 : decode cX3_moveTo 17 = .ok (.aload_n 0, 1) := by decide +kernel
theorem dX3_moveTo_18 : decode cX3_moveTo 18 = .ok (.getfield 30, 3) := by decide +kernel
theorem dX3_moveTo_21 : decode cX3_moveTo 21 = .ok (.if_icmp .ge 15, 3) := by decide +kernel
theorem dX3_moveTo_24 : decode cX3_moveTo 24 = .ok (.aload_n 0, 1) := by decide +kernel
theorem dX3_moveTo_25 : decode cX3_moveTo 25 = .ok (.getfield 21, 3) := by decide +kernel
theorem dX3_moveTo_28 : decode cX3_moveTo 28 = .ok (.aload_n 0, 1) := by decide +kernel
theorem dX3_moveTo_29 : decode cX3_moveTo 29 = .ok (.getfield 43, 3) := by decide +kernel
theorem dX3_moveTo_32 : decode cX3_moveTo 32 = .ok (.iaload, 1) := by decide +kernel
theorem dX3_moveTo_33 : decode cX3_moveTo 33 = .ok (.goto 4, 3) := by decide +kernel
theorem dX3_moveTo_36 : decode cX3_moveTo 36 = .ok (.iconst (-1), 1) := by decide +kernel
theorem dX3_moveTo_37 : decode cX3_moveTo 37 = .ok (.putfield 46, 3) := by decide +kernel
theorem dX3_moveTo_40 : decode cX3_moveTo 40 = .ok (.return_, 1) := by decide +kernel
set_option maxHeartbeats 4000000 in
set_option maxRecDepth 100000 in
theorem c_X3_moveTo (l : Launch) (E : Nat → Nat) (D : va_G) (G : th_G) (h0 : Nat) (hG0 : G h0 = some (7, 12)) (x1 : Int32) (ft fp fn : Nat → Int32) (TT pp nc LL : Nat) (hx1 : x1.toInt = (pp : Int)) (hpT : pp ≤ TT) : Met l yX3_moveTo (tb (.code yX3_moveTo cX3_moveTo 2 none)) (rm 0) (va_Pc [.ref h0, .int x1] (PCx E D G (fun H => RC0 E D G h0 ft fp fn TT nc LL H))) (QCv E D G (fun H => RC E D G h0 ft fp fn TT pp nc LL H)) 0 0 (th_A G) := by
  refine Met.ofW (cc := cX3_moveTo) (maxL := 2) (ret := none) (by decide) rfl ?_
  intro p e s m args below meth c s₁ B hml hv
  obtain ⟨hav, ⟨hI, hN, hK⟩, hX⟩ := hv
  have hx := B.exec
  have hb := B.bytes
  have hr := B.returns
  have hts := atoms_spec (ws := tb (.code yX3_moveTo cX3_moveTo 2 none)) B.pre
  have hown : s.vm.findClass RX3 = some m.cls := findClass_of_methodNamed B.named
  have hlocks := B.notSynchronized
  have hS : va_S (th_A G) s.heap s.heap [] := va_S.rf
  have hl := lv_entry ([.ref h0, .int x1]) (n := 2) (Nat.le_of_ble_eq_true rfl)
  rw [show entryFrame m args 2 = entryFrame m ([.ref h0, .int x1] : List Value).toArray 2 from by rw [hav], lg_entry_eq]
  generalize (lg_sl ([.ref h0, .int x1]) ++ List.replicate (2 - (lg_sl ([.ref h0, .int x1])).length) Slot.unset).toArray = ls at hl ⊢
  have hl : lv_has ls 2 [(0, .ref h0), (1, .int x1)] := hl
  generalize hR : (headSpec (tb (.code yX3_moveTo cX3_moveTo 2 none)) (rm 0)).room = R
  have hR := hR.symm
  generalize hQ : MQ below (QCv E D G (fun H => RC E D G h0 ft fp fn TT pp nc LL H)) args s 0 0 (th_A G) = QF
  have hQ := hQ.symm
  obtain ⟨hT4, hn12, ⟨a1, hf2, hq3, hA4⟩, ⟨a5, hf6, hq7, hA8⟩, ⟨a9, hf10, hq11, hA12⟩, ⟨w13, hg14, k15⟩, ⟨w16, hg17, k18⟩, ⟨w19, hg20, k21⟩⟩ := hX
  have k22 := iv_lo w19
  have k23 := iv_hi w19
  refine lv_aload_n hx hb dX3_moveTo_0 rfl (lv_at hl 0 rfl) ?_
  refine lv_iload_n hx hb dX3_moveTo_1 rfl (lv_at hl 1 rfl) ?_
  refine pmIC (ty := .int) hx hb hts inT3 hown hK hI List.not_mem_nil hG0 hS ⟨_, hG0⟩ 10 (by decide) (hts _ (tb_c wd_139)) rfl rfl (by decide +kernel) rfl rfl rfl (by omega) (by omega) dX3_moveTo_2 (fun H locs hI hgP hS => ?_)
  have hg14 := hgP.2.2.1 6 _ (by decide) (by decide) hg14
  have hg17 := hgP.2.2.1 7 _ (by decide) (by decide) hg17
  have hg20 := hgP.2.2.1 8 _ (by decide) (by decide) hg20
  have hg24 := hgP.2.1
  have hf2 := hgP.2.2.2 3 _ (by decide) (by decide) hf2
  have hf6 := hgP.2.2.2 4 _ (by decide) (by decide) hf6
  have hf10 := hgP.2.2.2 5 _ (by decide) (by decide) hf10
  have hA4 := va_at.kept hA4 (hgP.1 _ (m_ne hq3 hG0 (by first | decide | (dsimp only; decide))))
  have hA8 := va_at.kept hA8 (hgP.1 _ (m_ne hq7 hG0 (by first | decide | (dsimp only; decide))))
  have hA12 := va_at.kept hA12 (hgP.1 _ (m_ne hq11 hG0 (by first | decide | (dsimp only; decide))))
  refine lv_aload_n hx hb dX3_moveTo_5 rfl (lv_at hl 0 rfl) ?_
  refine lv_aload_n hx hb dX3_moveTo_6 rfl (lv_at hl 0 rfl) ?_
  refine gmIC hx hb hts inT3 hown hK hI List.not_mem_nil hG0 10 (by decide) (hts _ (tb_c wd_139)) rfl rfl dX3_moveTo_7 (fun w25 hg26 k27 k28 => ?_)
  obtain rfl := gfC.uniq (by decide) hg24 hg26
  refine lv_if_lt (tgt := 36) hx hb dX3_moveTo_10 (by decide) (fun c29 => ?_) (fun c29 => ?_)
  · skip
    have k30 := iv_lt (X := x1.toInt) (Y := (0)) rfl (by decide) c29
    exfalso; omega
  · skip
    have k31 := iv_nlt (X := x1.toInt) (Y := (0)) rfl (by decide) c29
    refine lv_aload_n hx hb dX3_moveTo_13 rfl (lv_at hl 0 rfl) ?_
    refine gmIC hx hb hts inT3 hown hK hI List.not_mem_nil hG0 10 (by decide) (hts _ (tb_c wd_139)) rfl rfl dX3_moveTo_14 (fun w32 hg33 k34 k35 => ?_)
    obtain rfl := gfC.uniq (by decide) hg24 hg33
    refine lv_aload_n hx hb dX3_moveTo_17 rfl (lv_at hl 0 rfl) ?_
    refine gmIC hx hb hts inT3 hown hK hI List.not_mem_nil hG0 6 (by decide) (hts _ (tb_c wd_135)) rfl rfl dX3_moveTo_18 (fun w36 hg37 k38 k39 => ?_)
    obtain rfl := gfC.uniq (by decide) hg14 hg37
    refine lv_icmp_ge (tgt := 36) hx hb dX3_moveTo_21 (by decide) (fun c40 => ?_) (fun c40 => ?_)
    · skip
      have k41 := iv_le (X := w13.toInt) (Y := x1.toInt) rfl rfl c40
      refine lv_iconst (v := (-1)) hx hb dX3_moveTo_36 (by decide) ?_
      refine pmIC (ty := .int) hx hb hts inT3 hown hK hI List.not_mem_nil hG0 hS ⟨_, hG0⟩ 11 (by decide) (hts _ (tb_c wd_140)) rfl rfl (by decide +kernel) rfl rfl rfl (by decide) (by decide) dX3_moveTo_37 (fun H locs hI hgP hS => ?_)
      have hg14 := hgP.2.2.1 6 _ (by decide) (by decide) hg14
      have hg17 := hgP.2.2.1 7 _ (by decide) (by decide) hg17
      have hg20 := hgP.2.2.1 8 _ (by decide) (by decide) hg20
      have hg24 := hgP.2.2.1 10 _ (by decide) (by decide) hg24
      have hg42 := hgP.2.1
      have hf2 := hgP.2.2.2 3 _ (by decide) (by decide) hf2
      have hf6 := hgP.2.2.2 4 _ (by decide) (by decide) hf6
      have hf10 := hgP.2.2.2 5 _ (by decide) (by decide) hf10
      have hA4 := va_at.kept hA4 (hgP.1 _ (m_ne hq3 hG0 (by first | decide | (dsimp only; decide))))
      have hA8 := va_at.kept hA8 (hgP.1 _ (m_ne hq7 hG0 (by first | decide | (dsimp only; decide))))
      have hA12 := va_at.kept hA12 (hgP.1 _ (m_ne hq11 hG0 (by first | decide | (dsimp only; decide))))
      have hpost : RC E D G h0 ft fp fn TT pp nc LL H := by first | exact ⟨by omega, by omega, ⟨a1, hf2, hq3, hA4⟩, ⟨a5, hf6, hq7, hA8⟩, ⟨a9, hf10, hq11, hA12⟩, ⟨w13, hg14, by first | omega | decide⟩, ⟨w16, hg17, by first | omega | decide⟩, ⟨w19, hg20, by first | omega | decide⟩, by omega, ⟨x1, hg24, by first | omega | decide⟩, ⟨(-1), hg42, by first | omega | decide⟩⟩ | (exfalso; omega)
      rw [hQ]
      exact W.vret hx hb hr (fun t ht hW => ⟨⟨(), rfl, trivial, ⟨by rw [ht]; exact hI, hN.warm hW, va_K.moved hW.alike hK⟩, by first | (rw [ht]; exact hpost) | exact hpost⟩, hS.F ht⟩) hS.2.2 dX3_moveTo_40
    · skip
      have k43 := iv_nle (X := w13.toInt) (Y := x1.toInt) rfl rfl c40
      refine lv_aload_n hx hb dX3_moveTo_24 rfl (lv_at hl 0 rfl) ?_
      refine gmAC hx hb hts inT3 hown hK hI List.not_mem_nil hG0 3 (by decide) (hts _ (tb_c wd_132)) rfl rfl dX3_moveTo_25 (fun a44 hq45 hf46 => ?_)
      obtain rfl := frC.uniq (by decide) hf2 hf46
      refine lv_aload_n hx hb dX3_moveTo_28 rfl (lv_at hl 0 rfl) ?_
      refine gmIC hx hb hts inT3 hown hK hI List.not_mem_nil hG0 10 (by decide) (hts _ (tb_c wd_139)) rfl rfl dX3_moveTo_29 (fun w47 hg48 k49 k50 => ?_)
      obtain rfl := gfC.uniq (by decide) hg24 hg48
      refine th_iald hx hb hK hA4 0 rfl (iv_in (X := x1.toInt) rfl (by omega) (by omega)) dX3_moveTo_32 (fun v51 e52 => ?_)
      have k53 := rd_at (p := pp) e52 (by omega)
      refine lv_goto (tgt := 37) hx hb dX3_moveTo_33 (by decide) ?_
      have k54 := iv_lo v51
      have k55 := iv_hi v51
      refine pmIC (ty := .int) hx hb hts inT3 hown hK hI List.not_mem_nil hG0 hS ⟨_, hG0⟩ 11 (by decide) (hts _ (tb_c wd_140)) rfl rfl (by decide +kernel) rfl rfl rfl (by omega) (by omega) dX3_moveTo_37 (fun H locs hI hgP hS => ?_)
      have hg14 := hgP.2.2.1 6 _ (by decide) (by decide) hg14
      have hg17 := hgP.2.2.1 7 _ (by decide) (by decide) hg17
      have hg20 := hgP.2.2.1 8 _ (by decide) (by decide) hg20
      have hg24 := hgP.2.2.1 10 _ (by decide) (by decide) hg24
      have hg56 := hgP.2.1
      have hf2 := hgP.2.2.2 3 _ (by decide) (by decide) hf2
      have hf6 := hgP.2.2.2 4 _ (by decide) (by decide) hf6
      have hf10 := hgP.2.2.2 5 _ (by decide) (by decide) hf10
      have hA4 := va_at.kept hA4 (hgP.1 _ (m_ne hq3 hG0 (by first | decide | (dsimp only; decide))))
      have hA8 := va_at.kept hA8 (hgP.1 _ (m_ne hq7 hG0 (by first | decide | (dsimp only; decide))))
      have hA12 := va_at.kept hA12 (hgP.1 _ (m_ne hq11 hG0 (by first | decide | (dsimp only; decide))))
      have hpost : RC E D G h0 ft fp fn TT pp nc LL H := by first | exact ⟨by omega, by omega, ⟨a1, hf2, hq3, hA4⟩, ⟨a5, hf6, hq7, hA8⟩, ⟨a9, hf10, hq11, hA12⟩, ⟨w13, hg14, by first | omega | decide⟩, ⟨w16, hg17, by first | omega | decide⟩, ⟨w19, hg20, by first | omega | decide⟩, by omega, ⟨x1, hg24, by first | omega | decide⟩, ⟨v51, hg56, by first | omega | decide⟩⟩ | (exfalso; omega)
      rw [hQ]
      exact W.vret hx hb hr (fun t ht hW => ⟨⟨(), rfl, trivial, ⟨by rw [ht]; exact hI, hN.warm hW, va_K.moved hW.alike hK⟩, by first | (rw [ht]; exact hpost) | exact hpost⟩, hS.F ht⟩) hS.2.2 dX3_moveTo_40
theorem dX3_emit_0 : decode cX3_emit 0 = .ok (.aload_n 0, 1) := by decide +kernel
theorem dX3_emit_1 : decode cX3_emit 1 = .ok (.getfield 40, 3) := by decide +kernel
theorem dX3_emit_4 : decode cX3_emit 4 = .ok (.aload_n 0, 1) := by decide +kernel
theorem dX3_emit_5 : decode cX3_emit 5 = .ok (.getfield 18, 3) := by decide +kernel
theorem dX3_emit_8 : decode cX3_emit 8 = .ok (.arraylength, 1) := by decide +kernel
theorem dX3_emit_9 : decode cX3_emit 9 = .ok (.if_icmp .ge 27, 3) := by decide +kernel
theorem dX3_emit_12 : decode cX3_emit 12 = .ok (.aload_n 0, 1) := by decide +kernel
theorem dX3_emit_13 : decode cX3_emit 13 = .ok (.getfield 18, 3) := by decide +kernel
theorem dX3_emit_16 : decode cX3_emit 16 = .ok (.aload_n 0, 1) := by decide +kernel
theorem dX3_emit_17 : decode cX3_emit 17 = .ok (.getfield 40, 3) := by decide +kernel
theorem dX3_emit_20 : decode cX3_emit 20 = .ok (.iload_n 1, 1) := by decide +kernel
theorem dX3_emit_21 : decode cX3_emit 21 = .ok (.iload_n 2, 1) := by decide +kernel
theorem dX3_emit_22 : decode cX3_emit 22 = .ok (.iconst 4, 1) := by decide +kernel
theorem dX3_emit_23 : decode cX3_emit 23 = .ok (.ishl, 1) := by decide +kernel
theorem dX3_emit_24 : decode cX3_emit 24 = .ok (.ior, 1) := by decide +kernel
theorem dX3_emit_25 : decode cX3_emit 25 = .ok (.iastore, 1) := by decide +kernel
theorem dX3_emit_26 : decode cX3_emit 26 = .ok (.aload_n 0, 1) := by decide +kernel
theorem dX3_emit_27 : decode cX3_emit 27 = .ok (.dup, 1) := by decide +kernel
theorem dX3_emit_28 : decode cX3_emit 28 = .ok (.getfield 40, 3) := by decide +kernel
theorem dX3_emit_31 : decode cX3_emit 31 = .ok (.iconst 1, 1) := by decide +kernel
theorem dX3_emit_32 : decode cX3_emit 32 = .ok (.iadd, 1) := by decide +kernel
theorem dX3_emit_33 : decode cX3_emit 33 = .ok (.putfield 40, 3) := by decide +kernel
theorem dX3_emit_36 : decode cX3_emit 36 = .ok (.aload_n 0, 1) := by decide +kernel
theorem dX3_emit_37 : decode cX3_emit 37 = .ok (.getfield 40, 3) := by decide +kernel
theorem dX3_emit_40 : decode cX3_emit 40 = .ok (.iconst 1, 1) := by decide +kernel
theorem dX3_emit_41 : decode cX3_emit 41 = .ok (.isub, 1) := by decide +kernel
theorem dX3_emit_42 : decode cX3_emit 42 = .ok (.ireturn, 1) := by decide +kernel
set_option maxHeartbeats 4000000 in
set_option maxRecDepth 100000 in
theorem c_X3_emit (l : Launch) (E : Nat → Nat) (D : va_G) (G : th_G) (h0 : Nat) (hG0 : G h0 = some (7, 12)) (x1 : Int32) (x2 : Int32) (ft fp fn : Nat → Int32) (TT pp nc LL : Nat) : Met l yX3_emit (tb (.code yX3_emit cX3_emit 3 (some .int))) (rm 0) (va_Pc [.ref h0, .int x1, .int x2] (PCx E D G (fun H => RC E D G h0 ft fp fn TT pp nc LL H))) (QCi E D G (fun r H => RC E D G h0 ft fp fn TT pp nc LL H)) 0 0 (th_A G) := by
  refine Met.ofW (cc := cX3_emit) (maxL := 3) (ret := (some .int)) (by decide) rfl ?_
  intro p e s m args below meth c s₁ B hml hv
  obtain ⟨hav, ⟨hI, hN, hK⟩, hX⟩ := hv
  have hx := B.exec
  have hb := B.bytes
  have hr := B.returns
  have hts := atoms_spec (ws := tb (.code yX3_emit cX3_emit 3 (some .int))) B.pre
  have hown : s.vm.findClass RX3 = some m.cls := findClass_of_methodNamed B.named
  have hlocks := B.notSynchronized
  have hS : va_S (th_A G) s.heap s.heap [] := va_S.rf
  have hl := lv_entry ([.ref h0, .int x1, .int x2]) (n := 3) (Nat.le_of_ble_eq_true rfl)
  rw [show entryFrame m args 3 = entryFrame m ([.ref h0, .int x1, .int x2] : List Value).toArray 3 from by rw [hav], lg_entry_eq]
  generalize (lg_sl ([.ref h0, .int x1, .int x2]) ++ List.replicate (3 - (lg_sl ([.ref h0, .int x1, .int x2])).length) Slot.unset).toArray = ls at hl ⊢
  have hl : lv_has ls 3 [(0, .ref h0), (1, .int x1), (2, .int x2)] := hl
  generalize hR : (headSpec (tb (.code yX3_emit cX3_emit 3 (some .int))) (rm 0)).room = R
  have hR := hR.symm
  generalize hQ : MQ below (QCi E D G (fun r H => RC E D G h0 ft fp fn TT pp nc LL H)) args s 0 0 (th_A G) = QF
  have hQ := hQ.symm
  obtain ⟨hT4, hn12, ⟨a1, hf2, hq3, hA4⟩, ⟨a5, hf6, hq7, hA8⟩, ⟨a9, hf10, hq11, hA12⟩, ⟨w13, hg14, k15⟩, ⟨w16, hg17, k18⟩, ⟨w19, hg20, k21⟩, hpT, ⟨w22, hg23, k24⟩, ⟨w25, hg26, k27⟩⟩ := hX
  have k28 := iv_lo w19
  have k29 := iv_hi w19
  refine lv_aload_n hx hb dX3_emit_0 rfl (lv_at hl 0 rfl) ?_
  refine gmIC hx hb hts inT3 hown hK hI List.not_mem_nil hG0 9 (by decide) (hts _ (tb_c wd_138)) rfl rfl dX3_emit_1 (fun w30 hg31 k32 k33 => ?_)
  refine lv_aload_n hx hb dX3_emit_4 rfl (lv_at hl 0 rfl) ?_
  refine gmAC hx hb hts inT3 hown hK hI List.not_mem_nil hG0 2 (by decide) (hts _ (tb_c wd_131)) rfl rfl dX3_emit_5 (fun a34 hq35 hf36 => ?_)
  obtain ⟨F37, hA38⟩ := op_0 hI hq35 List.not_mem_nil
  refine va_alen hx hb hK (th_one hA38) 0 0 rfl (v := 400) rfl (show Int32.ofNat 400 = (400 : Int32) from by decide) dX3_emit_8 ?_
  refine lv_icmp_ge (tgt := 36) hx hb dX3_emit_9 (by decide) (fun c39 => ?_) (fun c39 => ?_)
  · skip
    have k40 := iv_le (X := (400)) (Y := w30.toInt) (by decide) rfl c39
    refine lv_aload_n hx hb dX3_emit_36 rfl (lv_at hl 0 rfl) ?_
    refine gmIC hx hb hts inT3 hown hK hI List.not_mem_nil hG0 9 (by decide) (hts _ (tb_c wd_138)) rfl rfl dX3_emit_37 (fun w41 hg42 k43 k44 => ?_)
    obtain rfl := gfC.uniq (by decide) hg31 hg42
    refine lv_iconst (v := 1) hx hb dX3_emit_40 (by decide) ?_
    refine lv_isub hx hb dX3_emit_41 ?_
    refine lv_topi (fun v45 e46 => ?_)
    have tv45 : v45.toInt = w30.toInt - (1) := iv_sub rfl (by decide) e46 (by omega) (by omega)
    have hpost : RC E D G h0 ft fp fn TT pp nc LL s.heap := ⟨by omega, by omega, ⟨a1, hf2, hq3, hA4⟩, ⟨a5, hf6, hq7, hA8⟩, ⟨a9, hf10, hq11, hA12⟩, ⟨w13, hg14, by first | omega | decide⟩, ⟨w16, hg17, by first | omega | decide⟩, ⟨w19, hg20, by first | omega | decide⟩, by omega, ⟨w22, hg23, by first | omega | decide⟩, ⟨w25, hg26, by first | omega | decide⟩⟩
    rw [hQ]
    exact W.iret (v := v45) hx hb hr (fun t ht hW => ⟨⟨v45, v45, rfl, rfl, ⟨by rw [ht]; exact hI, hN.warm hW, va_K.moved hW.alike hK⟩, by first | (rw [ht]; exact hpost) | exact hpost⟩, hS.F ht⟩) hS.2.2 dX3_emit_42
  · skip
    have k47 := iv_nle (X := (400)) (Y := w30.toInt) (by decide) rfl c39
    refine lv_aload_n hx hb dX3_emit_12 rfl (lv_at hl 0 rfl) ?_
    refine gmAC hx hb hts inT3 hown hK hI List.not_mem_nil hG0 2 (by decide) (hts _ (tb_c wd_131)) rfl rfl dX3_emit_13 (fun a48 hq49 hf50 => ?_)
    obtain rfl := frC.uniq (by decide) hf36 hf50
    refine lv_aload_n hx hb dX3_emit_16 rfl (lv_at hl 0 rfl) ?_
    refine gmIC hx hb hts inT3 hown hK hI List.not_mem_nil hG0 9 (by decide) (hts _ (tb_c wd_138)) rfl rfl dX3_emit_17 (fun w51 hg52 k53 k54 => ?_)
    obtain rfl := gfC.uniq (by decide) hg31 hg52
    refine lv_iload_n hx hb dX3_emit_20 rfl (lv_at hl 1 rfl) ?_
    refine lv_iload_n hx hb dX3_emit_21 rfl (lv_at hl 2 rfl) ?_
    refine lv_iconst (v := 4) hx hb dX3_emit_22 (by decide) ?_
    refine lv_ishl hx hb dX3_emit_23 ?_
    refine lv_topi (fun v55 e56 => ?_)
    refine lv_ior hx hb dX3_emit_24 ?_
    refine lv_topi (fun v57 e58 => ?_)
    refine th_iast hx hb hK hA38 0 rfl hS ⟨_, hq35⟩ (iv_in (X := w30.toInt) rfl (by omega) (by omega)) dX3_emit_25 (fun H locs hA59 oq hS => ?_)
    have hI := th_I.put hI hq35 hA59 ok_0 oq
    have hg14 := gfC.arr hG0 hq35 (by decide) oq hg14
    have hg17 := gfC.arr hG0 hq35 (by decide) oq hg17
    have hg20 := gfC.arr hG0 hq35 (by decide) oq hg20
    have hg23 := gfC.arr hG0 hq35 (by decide) oq hg23
    have hg26 := gfC.arr hG0 hq35 (by decide) oq hg26
    have hg31 := gfC.arr hG0 hq35 (by decide) oq hg31
    have hf2 := frC.arr hG0 hq35 (by decide) oq hf2
    have hf6 := frC.arr hG0 hq35 (by decide) oq hf6
    have hf10 := frC.arr hG0 hq35 (by decide) oq hf10
    have hf36 := frC.arr hG0 hq35 (by decide) oq hf36
    have hA4 := va_at.kept hA4 (oq _ (m_ne hq3 hq35 (by first | decide | (dsimp only; decide))))
    have hA8 := va_at.kept hA8 (oq _ (m_ne hq7 hq35 (by first | decide | (dsimp only; decide))))
    have hA12 := va_at.kept hA12 (oq _ (m_ne hq11 hq35 (by first | decide | (dsimp only; decide))))
    have e60 : v57 = (upd F37 (w30 : Int32).toNatClampNeg v57) (w30 : Int32).toNatClampNeg := rd_us
    refine lv_aload_n hx hb dX3_emit_26 rfl (lv_at hl 0 rfl) ?_
    refine lv_dup hx hb dX3_emit_27 rfl ?_
    refine gmIC hx hb hts inT3 hown hK hI List.not_mem_nil hG0 9 (by decide) (hts _ (tb_c wd_138)) rfl rfl dX3_emit_28 (fun w61 hg62 k63 k64 => ?_)
    obtain rfl := gfC.uniq (by decide) hg31 hg62
    refine lv_iconst (v := 1) hx hb dX3_emit_31 (by decide) ?_
    refine lv_iadd hx hb dX3_emit_32 ?_
    refine lv_topi (fun v65 e66 => ?_)
    have tv65 : v65.toInt = w30.toInt + (1) := iv_add rfl (by decide) e66 (by omega) (by omega)
    refine pmIC (ty := .int) hx hb hts inT3 hown hK hI List.not_mem_nil hG0 hS ⟨_, hG0⟩ 9 (by decide) (hts _ (tb_c wd_138)) rfl rfl (by decide +kernel) rfl rfl rfl (by omega) (by omega) dX3_emit_33 (fun H locs hI hgP hS => ?_)
    have hg14 := hgP.2.2.1 6 _ (by decide) (by decide) hg14
    have hg17 := hgP.2.2.1 7 _ (by decide) (by decide) hg17
    have hg20 := hgP.2.2.1 8 _ (by decide) (by decide) hg20
    have hg23 := hgP.2.2.1 10 _ (by decide) (by decide) hg23
    have hg26 := hgP.2.2.1 11 _ (by decide) (by decide) hg26
    have hg67 := hgP.2.1
    have hf2 := hgP.2.2.2 3 _ (by decide) (by decide) hf2
    have hf6 := hgP.2.2.2 4 _ (by decide) (by decide) hf6
    have hf10 := hgP.2.2.2 5 _ (by decide) (by decide) hf10
    have hf36 := hgP.2.2.2 2 _ (by decide) (by decide) hf36
    have hA4 := va_at.kept hA4 (hgP.1 _ (m_ne hq3 hG0 (by first | decide | (dsimp only; decide))))
    have hA8 := va_at.kept hA8 (hgP.1 _ (m_ne hq7 hG0 (by first | decide | (dsimp only; decide))))
    have hA12 := va_at.kept hA12 (hgP.1 _ (m_ne hq11 hG0 (by first | decide | (dsimp only; decide))))
    have hA59 := va_at.kept hA59 (hgP.1 _ (m_ne hq35 hG0 (by first | decide | (dsimp only; decide))))
    refine lv_aload_n hx hb dX3_emit_36 rfl (lv_at hl 0 rfl) ?_
    refine gmIC hx hb hts inT3 hown hK hI List.not_mem_nil hG0 9 (by decide) (hts _ (tb_c wd_138)) rfl rfl dX3_emit_37 (fun w68 hg69 k70 k71 => ?_)
    obtain rfl := gfC.uniq (by decide) hg67 hg69
    refine lv_iconst (v := 1) hx hb dX3_emit_40 (by decide) ?_
    refine lv_isub hx hb dX3_emit_41 ?_
    refine lv_topi (fun v72 e73 => ?_)
    have tv72 : v72.toInt = v65.toInt - (1) := iv_sub rfl (by decide) e73 (by omega) (by omega)
    have hpost : RC E D G h0 ft fp fn TT pp nc LL H := ⟨by omega, by omega, ⟨a1, hf2, hq3, hA4⟩, ⟨a5, hf6, hq7, hA8⟩, ⟨a9, hf10, hq11, hA12⟩, ⟨w13, hg14, by first | omega | decide⟩, ⟨w16, hg17, by first | omega | decide⟩, ⟨w19, hg20, by first | omega | decide⟩, by omega, ⟨w22, hg23, by first | omega | decide⟩, ⟨w25, hg26, by first | omega | decide⟩⟩
    rw [hQ]
    exact W.iret (v := v72) hx hb hr (fun t ht hW => ⟨⟨v72, v72, rfl, rfl, ⟨by rw [ht]; exact hI, hN.warm hW, va_K.moved hW.alike hK⟩, by first | (rw [ht]; exact hpost) | exact hpost⟩, hS.F ht⟩) hS.2.2 dX3_emit_42
theorem dX3_aim_0 : decode cX3_aim 0 = .ok (.iload_n 1, 1) := by decide +kernel
theorem dX3_aim_1 : decode cX3_aim 1 = .ok (.ifCond .lt 33, 3) := by decide +kernel
theorem dX3_aim_4 : decode cX3_aim 4 = .ok (.iload_n 1, 1) := by decide +kernel
theorem dX3_aim_5 : decode cX3_aim 5 = .ok (.aload_n 0, 1) := by decide +kernel
theorem dX3_aim_6 : decode cX3_aim 6 = .ok (.getfield 40, 3) := by decide +kernel
theorem dX3_aim_9 : decode cX3_aim 9 = .ok (.if_icmp .ge 25, 3) := by decide +kernel
theorem dX3_aim_12 : decode cX3_aim 12 = .ok (.aload_n 0, 1) := by decide +kernel
theorem dX3_aim_13 : decode cX3_aim 13 = .ok (.getfield 18, 3) := by decide +kernel
theorem dX3_aim_16 : decode cX3_aim 16 = .ok (.iload_n 1, 1) := by decide +kernel
theorem dX3_aim_17 : decode cX3_aim 17 = .ok (.aload_n 0, 1) := by decide +kernel
theorem dX3_aim_18 : decode cX3_aim 18 = .ok (.getfield 18, 3) := by decide +kernel
theorem dX3_aim_21 : decode cX3_aim 21 = .ok (.iload_n 1, 1) := by decide +kernel
theorem dX3_aim_22 : decode cX3_aim 22 = .ok (.iaload, 1) := by decide +kernel
theorem dX3_aim_23 : decode cX3_aim 23 = .ok (.bipush 15, 2) := by decide +kernel
theorem dX3_aim_25 : decode cX3_aim 25 = .ok (.iand, 1) := by decide +kernel
theorem dX3_aim_26 : decode cX3_aim 26 = .ok (.aload_n 0, 1) := by decide +kernel
theorem dX3_aim_27 : decode cX3_aim 27 = .ok (.getfield 40, 3) := by decide +kernel
theorem dX3_aim_30 : decode cX3_aim 30 = .ok (.iconst 4, 1) := by decide +kernel
theorem dX3_aim_31 : decode cX3_aim 31 = .ok (.ishl, 1) := by decide +kernel
theorem dX3_aim_32 : decode cX3_aim 32 = .ok (.ior, 1) := by decide +kernel
theorem dX3_aim_33 : decode cX3_aim 33 = .ok (.iastore, 1) := by decide +kernel
theorem dX3_aim_34 : decode cX3_aim 34 = .ok (.return_, 1) := by decide +kernel
set_option maxHeartbeats 4000000 in
set_option maxRecDepth 100000 in
theorem c_X3_aim (l : Launch) (E : Nat → Nat) (D : va_G) (G : th_G) (h0 : Nat) (hG0 : G h0 = some (7, 12)) (x1 : Int32) (ft fp fn : Nat → Int32) (TT pp nc LL : Nat) : Met l yX3_aim (tb (.code yX3_aim cX3_aim 2 none)) (rm 0) (va_Pc [.ref h0, .int x1] (PCx E D G (fun H => RC E D G h0 ft fp fn TT pp nc LL H))) (QCv E D G (fun H => RC E D G h0 ft fp fn TT pp nc LL H)) 0 0 (th_A G) := by
  refine Met.ofW (cc := cX3_aim) (maxL := 2) (ret := none) (by decide) rfl ?_
  intro p e s m args below meth c s₁ B hml hv
  obtain ⟨hav, ⟨hI, hN, hK⟩, hX⟩ := hv
  have hx := B.exec
  have hb := B.bytes
  have hr := B.returns
  have hts := atoms_spec (ws := tb (.code yX3_aim cX3_aim 2 none)) B.pre
  have hown : s.vm.findClass RX3 = some m.cls := findClass_of_methodNamed B.named
  have hlocks := B.notSynchronized
  have hS : va_S (th_A G) s.heap s.heap [] := va_S.rf
  have hl := lv_entry ([.ref h0, .int x1]) (n := 2) (Nat.le_of_ble_eq_true rfl)
  rw [show entryFrame m args 2 = entryFrame m ([.ref h0, .int x1] : List Value).toArray 2 from by rw [hav], lg_entry_eq]
  generalize (lg_sl ([.ref h0, .int x1]) ++ List.replicate (2 - (lg_sl ([.ref h0, .int x1])).length) Slot.unset).toArray = ls at hl ⊢
  have hl : lv_has ls 2 [(0, .ref h0), (1, .int x1)] := hl
  generalize hR : (headSpec (tb (.code yX3_aim cX3_aim 2 none)) (rm 0)).room = R
  have hR := hR.symm
  generalize hQ : MQ below (QCv E D G (fun H => RC E D G h0 ft fp fn TT pp nc LL H)) args s 0 0 (th_A G) = QF
  have hQ := hQ.symm
  obtain ⟨hT4, hn12, ⟨a1, hf2, hq3, hA4⟩, ⟨a5, hf6, hq7, hA8⟩, ⟨a9, hf10, hq11, hA12⟩, ⟨w13, hg14, k15⟩, ⟨w16, hg17, k18⟩, ⟨w19, hg20, k21⟩, hpT, ⟨w22, hg23, k24⟩, ⟨w25, hg26, k27⟩⟩ := hX
  have k28 := iv_lo w19
  have k29 := iv_hi w19
  refine lv_iload_n hx hb dX3_aim_0 rfl (lv_at hl 1 rfl) ?_
  have k30 := iv_lo x1
  have k31 := iv_hi x1
  refine lv_if_lt (tgt := 34) hx hb dX3_aim_1 (by decide) (fun c32 => ?_) (fun c32 => ?_)
  · skip
    have k33 := iv_lt (X := x1.toInt) (Y := (0)) rfl (by decide) c32
    have hpost : RC E D G h0 ft fp fn TT pp nc LL s.heap := ⟨by omega, by omega, ⟨a1, hf2, hq3, hA4⟩, ⟨a5, hf6, hq7, hA8⟩, ⟨a9, hf10, hq11, hA12⟩, ⟨w13, hg14, by first | omega | decide⟩, ⟨w16, hg17, by first | omega | decide⟩, ⟨w19, hg20, by first | omega | decide⟩, by omega, ⟨w22, hg23, by first | omega | decide⟩, ⟨w25, hg26, by first | omega | decide⟩⟩
    rw [hQ]
    exact W.vret hx hb hr (fun t ht hW => ⟨⟨(), rfl, trivial, ⟨by rw [ht]; exact hI, hN.warm hW, va_K.moved hW.alike hK⟩, by first | (rw [ht]; exact hpost) | exact hpost⟩, hS.F ht⟩) hS.2.2 dX3_aim_34
  · skip
    have k34 := iv_nlt (X := x1.toInt) (Y := (0)) rfl (by decide) c32
    refine lv_iload_n hx hb dX3_aim_4 rfl (lv_at hl 1 rfl) ?_
    refine lv_aload_n hx hb dX3_aim_5 rfl (lv_at hl 0 rfl) ?_
    refine gmIC hx hb hts inT3 hown hK hI List.not_mem_nil hG0 9 (by decide) (hts _ (tb_c wd_138)) rfl rfl dX3_aim_6 (fun w35 hg36 k37 k38 => ?_)
    refine lv_icmp_ge (tgt := 34) hx hb dX3_aim_9 (by decide) (fun c39 => ?_) (fun c39 => ?_)
    · skip
      have k40 := iv_le (X := w35.toInt) (Y := x1.toInt) rfl rfl c39
      have hpost : RC E D G h0 ft fp fn TT pp nc LL s.heap := ⟨by omega, by omega, ⟨a1, hf2, hq3, hA4⟩, ⟨a5, hf6, hq7, hA8⟩, ⟨a9, hf10, hq11, hA12⟩, ⟨w13, hg14, by first | omega | decide⟩, ⟨w16, hg17, by first | omega | decide⟩, ⟨w19, hg20, by first | omega | decide⟩, by omega, ⟨w22, hg23, by first | omega | decide⟩, ⟨w25, hg26, by first | omega | decide⟩⟩
      rw [hQ]
      exact W.vret hx hb hr (fun t ht hW => ⟨⟨(), rfl, trivial, ⟨by rw [ht]; exact hI, hN.warm hW, va_K.moved hW.alike hK⟩, by first | (rw [ht]; exact hpost) | exact hpost⟩, hS.F ht⟩) hS.2.2 dX3_aim_34
    · skip
      have k41 := iv_nle (X := w35.toInt) (Y := x1.toInt) rfl rfl c39
      refine lv_aload_n hx hb dX3_aim_12 rfl (lv_at hl 0 rfl) ?_
      refine gmAC hx hb hts inT3 hown hK hI List.not_mem_nil hG0 2 (by decide) (hts _ (tb_c wd_131)) rfl rfl dX3_aim_13 (fun a42 hq43 hf44 => ?_)
      refine lv_iload_n hx hb dX3_aim_16 rfl (lv_at hl 1 rfl) ?_
      refine lv_aload_n hx hb dX3_aim_17 rfl (lv_at hl 0 rfl) ?_
      refine gmAC hx hb hts inT3 hown hK hI List.not_mem_nil hG0 2 (by decide) (hts _ (tb_c wd_131)) rfl rfl dX3_aim_18 (fun a45 hq46 hf47 => ?_)
      obtain rfl := frC.uniq (by decide) hf44 hf47
      refine lv_iload_n hx hb dX3_aim_21 rfl (lv_at hl 1 rfl) ?_
      obtain ⟨F48, hA49⟩ := op_0 hI hq43 List.not_mem_nil
      refine th_iald hx hb hK hA49 0 rfl (iv_in (X := x1.toInt) rfl (by omega) (by omega)) dX3_aim_22 (fun v50 e51 => ?_)
      refine lv_bipush (v := 15) hx hb dX3_aim_23 (by decide) ?_
      refine lv_iand hx hb dX3_aim_25 ?_
      refine lv_topi (fun v52 e53 => ?_)
      have tv52 := iv_andr (m := 15) (M := 15) e53 (by decide) (by decide)
      refine lv_aload_n hx hb dX3_aim_26 rfl (lv_at hl 0 rfl) ?_
      refine gmIC hx hb hts inT3 hown hK hI List.not_mem_nil hG0 9 (by decide) (hts _ (tb_c wd_138)) rfl rfl dX3_aim_27 (fun w54 hg55 k56 k57 => ?_)
      obtain rfl := gfC.uniq (by decide) hg36 hg55
      refine lv_iconst (v := 4) hx hb dX3_aim_30 (by decide) ?_
      refine lv_ishl hx hb dX3_aim_31 ?_
      refine lv_topi (fun v58 e59 => ?_)
      refine lv_ior hx hb dX3_aim_32 ?_
      refine lv_topi (fun v60 e61 => ?_)
      refine th_iast hx hb hK hA49 0 rfl hS ⟨_, hq43⟩ (iv_in (X := x1.toInt) rfl (by omega) (by omega)) dX3_aim_33 (fun H locs hA62 oq hS => ?_)
      have hI := th_I.put hI hq43 hA62 ok_0 oq
      have hg14 := gfC.arr hG0 hq43 (by decide) oq hg14
      have hg17 := gfC.arr hG0 hq43 (by decide) oq hg17
      have hg20 := gfC.arr hG0 hq43 (by decide) oq hg20
      have hg23 := gfC.arr hG0 hq43 (by decide) oq hg23
      have hg26 := gfC.arr hG0 hq43 (by decide) oq hg26
      have hg36 := gfC.arr hG0 hq43 (by decide) oq hg36
      have hf2 := frC.arr hG0 hq43 (by decide) oq hf2
      have hf6 := frC.arr hG0 hq43 (by decide) oq hf6
      have hf10 := frC.arr hG0 hq43 (by decide) oq hf10
      have hf44 := frC.arr hG0 hq43 (by decide) oq hf44
      have hA4 := va_at.kept hA4 (oq _ (m_ne hq3 hq43 (by first | decide | (dsimp only; decide))))
      have hA8 := va_at.kept hA8 (oq _ (m_ne hq7 hq43 (by first | decide | (dsimp only; decide))))
      have hA12 := va_at.kept hA12 (oq _ (m_ne hq11 hq43 (by first | decide | (dsimp only; decide))))
      have e63 : v60 = (upd F48 (x1 : Int32).toNatClampNeg v60) (x1 : Int32).toNatClampNeg := rd_us
      have hpost : RC E D G h0 ft fp fn TT pp nc LL H := ⟨by omega, by omega, ⟨a1, hf2, hq3, hA4⟩, ⟨a5, hf6, hq7, hA8⟩, ⟨a9, hf10, hq11, hA12⟩, ⟨w13, hg14, by first | omega | decide⟩, ⟨w16, hg17, by first | omega | decide⟩, ⟨w19, hg20, by first | omega | decide⟩, by omega, ⟨w22, hg23, by first | omega | decide⟩, ⟨w25, hg26, by first | omega | decide⟩⟩
      rw [hQ]
      exact W.vret hx hb hr (fun t ht hW => ⟨⟨(), rfl, trivial, ⟨by rw [ht]; exact hI, hN.warm hW, va_K.moved hW.alike hK⟩, by first | (rw [ht]; exact hpost) | exact hpost⟩, hS.F ht⟩) hS.2.2 dX3_aim_34
theorem dX3_arithmetic_0 : decode cX3_arithmetic 0 = .ok (.aload_n 0, 1) := by decide +kernel
theorem dX3_arithmetic_1 : decode cX3_arithmetic 1 = .ok (.getfield 46, 3) := by decide +kernel
theorem dX3_arithmetic_4 : decode cX3_arithmetic 4 = .ok (.tableswitch 71 37 47 #[68, 71, 71, 71, 71, 64, 60, 71, 62, 71, 66], 60) := by decide +kernel
theorem dX3_arithmetic_64 : decode cX3_arithmetic 64 = .ok (.iconst 2, 1) := by decide +kernel
theorem dX3_arithmetic_65 : decode cX3_arithmetic 65 = .ok (.ireturn, 1) := by decide +kernel
theorem dX3_arithmetic_66 : decode cX3_arithmetic 66 = .ok (.iconst 3, 1) := by decide +kernel
theorem dX3_arithmetic_67 : decode cX3_arithmetic 67 = .ok (.ireturn, 1) := by decide +kernel
theorem dX3_arithmetic_68 : decode cX3_arithmetic 68 = .ok (.iconst 4, 1) := by decide +kernel
theorem dX3_arithmetic_69 : decode cX3_arithmetic 69 = .ok (.ireturn, 1) := by decide +kernel
theorem dX3_arithmetic_70 : decode cX3_arithmetic 70 = .ok (.iconst 5, 1) := by decide +kernel
theorem dX3_arithmetic_71 : decode cX3_arithmetic 71 = .ok (.ireturn, 1) := by decide +kernel
theorem dX3_arithmetic_72 : decode cX3_arithmetic 72 = .ok (.bipush 6, 2) := by decide +kernel
theorem dX3_arithmetic_74 : decode cX3_arithmetic 74 = .ok (.ireturn, 1) := by decide +kernel
theorem dX3_arithmetic_75 : decode cX3_arithmetic 75 = .ok (.iconst (-1), 1) := by decide +kernel
theorem dX3_arithmetic_76 : decode cX3_arithmetic 76 = .ok (.ireturn, 1) := by decide +kernel
set_option maxHeartbeats 4000000 in
set_option maxRecDepth 100000 in
theorem c_X3_arithmetic (l : Launch) (E : Nat → Nat) (D : va_G) (G : th_G) (H0 : Heap) (h0 : Nat) (hG0 : G h0 = some (7, 12)) (ft fp fn : Nat → Int32) (TT pp nc LL : Nat) (hE : RC E D G h0 ft fp fn TT pp nc LL H0) : Met l yX3_arithmetic (tb (.code yX3_arithmetic cX3_arithmetic 1 (some .int))) (rm 0) (va_Pc [.ref h0] (PRC E D G H0)) (QS H0 (fun r => ((r : Int32).toInt = -1 ∧ ¬ oc (ft pp).toInt) ∨ (2 ≤ (r : Int32).toInt ∧ (r : Int32).toInt ≤ 6 ∧ oc (ft pp).toInt))) 0 0 (fun _ => False) := by
  refine Met.ofW (cc := cX3_arithmetic) (maxL := 1) (ret := (some .int)) (by decide) rfl ?_
  intro p e s m args below meth c s₁ B hml hv
  obtain ⟨hav, rfl, hI, hN, hK⟩ := hv
  have hx := B.exec
  have hb := B.bytes
  have hr := B.returns
  have hts := atoms_spec (ws := tb (.code yX3_arithmetic cX3_arithmetic 1 (some .int))) B.pre
  have hown : s.vm.findClass RX3 = some m.cls := findClass_of_methodNamed B.named
  have hlocks := B.notSynchronized
  have hS : va_S (fun _ => False) s.heap s.heap [] := va_S.rf
  have hl := lv_entry ([.ref h0]) (n := 1) (Nat.le_of_ble_eq_true rfl)
  rw [show entryFrame m args 1 = entryFrame m ([.ref h0] : List Value).toArray 1 from by rw [hav], lg_entry_eq]
  generalize (lg_sl ([.ref h0]) ++ List.replicate (1 - (lg_sl ([.ref h0])).length) Slot.unset).toArray = ls at hl ⊢
  have hl : lv_has ls 1 [(0, .ref h0)] := hl
  generalize hR : (headSpec (tb (.code yX3_arithmetic cX3_arithmetic 1 (some .int))) (rm 0)).room = R
  have hR := hR.symm
  generalize hQ : MQ below (QS s.heap (fun r => ((r : Int32).toInt = -1 ∧ ¬ oc (ft pp).toInt) ∨ (2 ≤ (r : Int32).toInt ∧ (r : Int32).toInt ≤ 6 ∧ oc (ft pp).toInt))) args s 0 0 (fun _ => False) = QF
  have hQ := hQ.symm
  obtain ⟨hT4, hn12, ⟨a1, hf2, hq3, hA4⟩, ⟨a5, hf6, hq7, hA8⟩, ⟨a9, hf10, hq11, hA12⟩, ⟨w13, hg14, k15⟩, ⟨w16, hg17, k18⟩, ⟨w19, hg20, k21⟩, hpT, ⟨w22, hg23, k24⟩, ⟨w25, hg26, k27⟩⟩ := hE
  have k28 := iv_lo w19
  have k29 := iv_hi w19
  refine lv_aload_n hx hb dX3_arithmetic_0 rfl (lv_at hl 0 rfl) ?_
  refine gmIC hx hb hts inT3 hown hK hI List.not_mem_nil hG0 11 (by decide) (hts _ (tb_c wd_140)) rfl rfl dX3_arithmetic_1 (fun w30 hg31 k32 k33 => ?_)
  obtain rfl := gfC.uniq (by decide) hg26 hg31
  have k34 := iv_lo w25
  have k35 := iv_hi w25
  by_cases c36 : w25 = 37
  · skip
    have k37 := iv_eq (X := w25.toInt) (Y := 37) rfl (by decide) c36
    refine lv_tableIn (tgt := 72) (off := 68) hx hb dX3_arithmetic_4 (by omega) (by omega) (by rw [k37]; rfl) (by decide) ?_
    refine lv_bipush (v := 6) hx hb dX3_arithmetic_72 (by decide) ?_
    have hpost : ((6 : Int32).toInt = -1 ∧ ¬ oc (ft pp).toInt) ∨ (2 ≤ (6 : Int32).toInt ∧ (6 : Int32).toInt ≤ 6 ∧ oc (ft pp).toInt) := by first | exact Or.inl ⟨by decide, by unfold oc; omega⟩ | exact Or.inr ⟨by decide, by decide, by unfold oc; omega⟩
    rw [hQ]
    exact W.iret (v := 6) hx hb hr (fun t ht hW => ⟨⟨6, (), rfl, hpost, ht⟩, hS.F ht⟩) hS.2.2 dX3_arithmetic_74
  have k38 := iv_ne (X := w25.toInt) (Y := 37) rfl (by decide) c36
  by_cases c39 : w25 = 38
  · skip
    have k40 := iv_eq (X := w25.toInt) (Y := 38) rfl (by decide) c39
    refine lv_tableIn (tgt := 75) (off := 71) hx hb dX3_arithmetic_4 (by omega) (by omega) (by rw [k40]; rfl) (by decide) ?_
    refine lv_iconst (v := (-1)) hx hb dX3_arithmetic_75 (by decide) ?_
    have hpost : (((-1) : Int32).toInt = -1 ∧ ¬ oc (ft pp).toInt) ∨ (2 ≤ ((-1) : Int32).toInt ∧ ((-1) : Int32).toInt ≤ 6 ∧ oc (ft pp).toInt) := by first | exact Or.inl ⟨by decide, by unfold oc; omega⟩ | exact Or.inr ⟨by decide, by decide, by unfold oc; omega⟩
    rw [hQ]
    exact W.iret (v := (-1)) hx hb hr (fun t ht hW => ⟨⟨(-1), (), rfl, hpost, ht⟩, hS.F ht⟩) hS.2.2 dX3_arithmetic_76
  have k41 := iv_ne (X := w25.toInt) (Y := 38) rfl (by decide) c39
  by_cases c42 : w25 = 39
  · skip
    have k43 := iv_eq (X := w25.toInt) (Y := 39) rfl (by decide) c42
    refine lv_tableIn (tgt := 75) (off := 71) hx hb dX3_arithmetic_4 (by omega) (by omega) (by rw [k43]; rfl) (by decide) ?_
    refine lv_iconst (v := (-1)) hx hb dX3_arithmetic_75 (by decide) ?_
    have hpost : (((-1) : Int32).toInt = -1 ∧ ¬ oc (ft pp).toInt) ∨ (2 ≤ ((-1) : Int32).toInt ∧ ((-1) : Int32).toInt ≤ 6 ∧ oc (ft pp).toInt) := by first | exact Or.inl ⟨by decide, by unfold oc; omega⟩ | exact Or.inr ⟨by decide, by decide, by unfold oc; omega⟩
    rw [hQ]
    exact W.iret (v := (-1)) hx hb hr (fun t ht hW => ⟨⟨(-1), (), rfl, hpost, ht⟩, hS.F ht⟩) hS.2.2 dX3_arithmetic_76
  have k44 := iv_ne (X := w25.toInt) (Y := 39) rfl (by decide) c42
  by_cases c45 : w25 = 40
  · skip
    have k46 := iv_eq (X := w25.toInt) (Y := 40) rfl (by decide) c45
    refine lv_tableIn (tgt := 75) (off := 71) hx hb dX3_arithmetic_4 (by omega) (by omega) (by rw [k46]; rfl) (by decide) ?_
    refine lv_iconst (v := (-1)) hx hb dX3_arithmetic_75 (by decide) ?_
    have hpost : (((-1) : Int32).toInt = -1 ∧ ¬ oc (ft pp).toInt) ∨ (2 ≤ ((-1) : Int32).toInt ∧ ((-1) : Int32).toInt ≤ 6 ∧ oc (ft pp).toInt) := by first | exact Or.inl ⟨by decide, by unfold oc; omega⟩ | exact Or.inr ⟨by decide, by decide, by unfold oc; omega⟩
    rw [hQ]
    exact W.iret (v := (-1)) hx hb hr (fun t ht hW => ⟨⟨(-1), (), rfl, hpost, ht⟩, hS.F ht⟩) hS.2.2 dX3_arithmetic_76
  have k47 := iv_ne (X := w25.toInt) (Y := 40) rfl (by decide) c45
  by_cases c48 : w25 = 41
  · skip
    have k49 := iv_eq (X := w25.toInt) (Y := 41) rfl (by decide) c48
    refine lv_tableIn (tgt := 75) (off := 71) hx hb dX3_arithmetic_4 (by omega) (by omega) (by rw [k49]; rfl) (by decide) ?_
    refine lv_iconst (v := (-1)) hx hb dX3_arithmetic_75 (by decide) ?_
    have hpost : (((-1) : Int32).toInt = -1 ∧ ¬ oc (ft pp).toInt) ∨ (2 ≤ ((-1) : Int32).toInt ∧ ((-1) : Int32).toInt ≤ 6 ∧ oc (ft pp).toInt) := by first | exact Or.inl ⟨by decide, by unfold oc; omega⟩ | exact Or.inr ⟨by decide, by decide, by unfold oc; omega⟩
    rw [hQ]
    exact W.iret (v := (-1)) hx hb hr (fun t ht hW => ⟨⟨(-1), (), rfl, hpost, ht⟩, hS.F ht⟩) hS.2.2 dX3_arithmetic_76
  have k50 := iv_ne (X := w25.toInt) (Y := 41) rfl (by decide) c48
  by_cases c51 : w25 = 42
  · skip
    have k52 := iv_eq (X := w25.toInt) (Y := 42) rfl (by decide) c51
    refine lv_tableIn (tgt := 68) (off := 64) hx hb dX3_arithmetic_4 (by omega) (by omega) (by rw [k52]; rfl) (by decide) ?_
    refine lv_iconst (v := 4) hx hb dX3_arithmetic_68 (by decide) ?_
    have hpost : ((4 : Int32).toInt = -1 ∧ ¬ oc (ft pp).toInt) ∨ (2 ≤ (4 : Int32).toInt ∧ (4 : Int32).toInt ≤ 6 ∧ oc (ft pp).toInt) := by first | exact Or.inl ⟨by decide, by unfold oc; omega⟩ | exact Or.inr ⟨by decide, by decide, by unfold oc; omega⟩
    rw [hQ]
    exact W.iret (v := 4) hx hb hr (fun t ht hW => ⟨⟨4, (), rfl, hpost, ht⟩, hS.F ht⟩) hS.2.2 dX3_arithmetic_69
  have k53 := iv_ne (X := w25.toInt) (Y := 42) rfl (by decide) c51
  by_cases c54 : w25 = 43
  · skip
    have k55 := iv_eq (X := w25.toInt) (Y := 43) rfl (by decide) c54
    refine lv_tableIn (tgt := 64) (off := 60) hx hb dX3_arithmetic_4 (by omega) (by omega) (by rw [k55]; rfl) (by decide) ?_
    refine lv_iconst (v := 2) hx hb dX3_arithmetic_64 (by decide) ?_
    have hpost : ((2 : Int32).toInt = -1 ∧ ¬ oc (ft pp).toInt) ∨ (2 ≤ (2 : Int32).toInt ∧ (2 : Int32).toInt ≤ 6 ∧ oc (ft pp).toInt) := by first | exact Or.inl ⟨by decide, by unfold oc; omega⟩ | exact Or.inr ⟨by decide, by decide, by unfold oc; omega⟩
    rw [hQ]
    exact W.iret (v := 2) hx hb hr (fun t ht hW => ⟨⟨2, (), rfl, hpost, ht⟩, hS.F ht⟩) hS.2.2 dX3_arithmetic_65
  have k56 := iv_ne (X := w25.toInt) (Y := 43) rfl (by decide) c54
  by_cases c57 : w25 = 44
  · skip
    have k58 := iv_eq (X := w25.toInt) (Y := 44) rfl (by decide) c57
    refine lv_tableIn (tgt := 75) (off := 71) hx hb dX3_arithmetic_4 (by omega) (by omega) (by rw [k58]; rfl) (by decide) ?_
    refine lv_iconst (v := (-1)) hx hb dX3_arithmetic_75 (by decide) ?_
    have hpost : (((-1) : Int32).toInt = -1 ∧ ¬ oc (ft pp).toInt) ∨ (2 ≤ ((-1) : Int32).toInt ∧ ((-1) : Int32).toInt ≤ 6 ∧ oc (ft pp).toInt) := by first | exact Or.inl ⟨by decide, by unfold oc; omega⟩ | exact Or.inr ⟨by decide, by decide, by unfold oc; omega⟩
    rw [hQ]
    exact W.iret (v := (-1)) hx hb hr (fun t ht hW => ⟨⟨(-1), (), rfl, hpost, ht⟩, hS.F ht⟩) hS.2.2 dX3_arithmetic_76
  have k59 := iv_ne (X := w25.toInt) (Y := 44) rfl (by decide) c57
  by_cases c60 : w25 = 45
  · skip
    have k61 := iv_eq (X := w25.toInt) (Y := 45) rfl (by decide) c60
    refine lv_tableIn (tgt := 66) (off := 62) hx hb dX3_arithmetic_4 (by omega) (by omega) (by rw [k61]; rfl) (by decide) ?_
    refine lv_iconst (v := 3) hx hb dX3_arithmetic_66 (by decide) ?_
    have hpost : ((3 : Int32).toInt = -1 ∧ ¬ oc (ft pp).toInt) ∨ (2 ≤ (3 : Int32).toInt ∧ (3 : Int32).toInt ≤ 6 ∧ oc (ft pp).toInt) := by first | exact Or.inl ⟨by decide, by unfold oc; omega⟩ | exact Or.inr ⟨by decide, by decide, by unfold oc; omega⟩
    rw [hQ]
    exact W.iret (v := 3) hx hb hr (fun t ht hW => ⟨⟨3, (), rfl, hpost, ht⟩, hS.F ht⟩) hS.2.2 dX3_arithmetic_67
  have k62 := iv_ne (X := w25.toInt) (Y := 45) rfl (by decide) c60
  by_cases c63 : w25 = 46
  · skip
    have k64 := iv_eq (X := w25.toInt) (Y := 46) rfl (by decide) c63
    refine lv_tableIn (tgt := 75) (off := 71) hx hb dX3_arithmetic_4 (by omega) (by omega) (by rw [k64]; rfl) (by decide) ?_
    refine lv_iconst (v := (-1)) hx hb dX3_arithmetic_75 (by decide) ?_
    have hpost : (((-1) : Int32).toInt = -1 ∧ ¬ oc (ft pp).toInt) ∨ (2 ≤ ((-1) : Int32).toInt ∧ ((-1) : Int32).toInt ≤ 6 ∧ oc (ft pp).toInt) := by first | exact Or.inl ⟨by decide, by unfold oc; omega⟩ | exact Or.inr ⟨by decide, by decide, by unfold oc; omega⟩
    rw [hQ]
    exact W.iret (v := (-1)) hx hb hr (fun t ht hW => ⟨⟨(-1), (), rfl, hpost, ht⟩, hS.F ht⟩) hS.2.2 dX3_arithmetic_76
  have k65 := iv_ne (X := w25.toInt) (Y := 46) rfl (by decide) c63
  by_cases c66 : w25 = 47
  · skip
    have k67 := iv_eq (X := w25.toInt) (Y := 47) rfl (by decide) c66
    refine lv_tableIn (tgt := 70) (off := 66) hx hb dX3_arithmetic_4 (by omega) (by omega) (by rw [k67]; rfl) (by decide) ?_
    refine lv_iconst (v := 5) hx hb dX3_arithmetic_70 (by decide) ?_
    have hpost : ((5 : Int32).toInt = -1 ∧ ¬ oc (ft pp).toInt) ∨ (2 ≤ (5 : Int32).toInt ∧ (5 : Int32).toInt ≤ 6 ∧ oc (ft pp).toInt) := by first | exact Or.inl ⟨by decide, by unfold oc; omega⟩ | exact Or.inr ⟨by decide, by decide, by unfold oc; omega⟩
    rw [hQ]
    exact W.iret (v := 5) hx hb hr (fun t ht hW => ⟨⟨5, (), rfl, hpost, ht⟩, hS.F ht⟩) hS.2.2 dX3_arithmetic_71
  have k68 := iv_ne (X := w25.toInt) (Y := 47) rfl (by decide) c66
  refine lv_tableOut (tgt := 75) hx hb dX3_arithmetic_4 (by omega) (by decide) ?_
  refine lv_iconst (v := (-1)) hx hb dX3_arithmetic_75 (by decide) ?_
  have hpost : (((-1) : Int32).toInt = -1 ∧ ¬ oc (ft pp).toInt) ∨ (2 ≤ ((-1) : Int32).toInt ∧ ((-1) : Int32).toInt ≤ 6 ∧ oc (ft pp).toInt) := by first | exact Or.inl ⟨by decide, by unfold oc; omega⟩ | exact Or.inr ⟨by decide, by decide, by unfold oc; omega⟩
  rw [hQ]
  exact W.iret (v := (-1)) hx hb hr (fun t ht hW => ⟨⟨(-1), (), rfl, hpost, ht⟩, hS.F ht⟩) hS.2.2 dX3_arithmetic_76
theorem dX3_sum_0 : decode cX3_sum 0 = .ok (.iconst (-1), 1) := by decide +kernel
theorem dX3_sum_1 : decode cX3_sum 1 = .ok (.istore_n 2, 1) := by decide +kernel
theorem dX3_sum_2 : decode cX3_sum 2 = .ok (.aload_n 0, 1) := by decide +kernel
theorem dX3_sum_3 : decode cX3_sum 3 = .ok (.iload_n 1, 1) := by decide +kernel
theorem dX3_sum_4 : decode cX3_sum 4 = .ok (.invokevirtual 115, 3) := by decide +kernel
theorem dX3_sum_7 : decode cX3_sum 7 = .ok (.istore_n 3, 1) := by decide +kernel
theorem dX3_sum_8 : decode cX3_sum 8 = .ok (.aload_n 0, 1) := by decide +kernel
theorem dX3_sum_9 : decode cX3_sum 9 = .ok (.invokevirtual 118, 3) := by decide +kernel
theorem dX3_sum_12 : decode cX3_sum 12 = .ok (.istore 4, 2) := by decide +kernel
theorem dX3_sum_14 : decode cX3_sum 14 = .ok (.iconst 0, 1) := by decide +kernel
theorem dX3_sum_15 : decode cX3_sum 15 = .ok (.istore 5, 2) := by decide +kernel
theorem dX3_sum_17 : decode cX3_sum 17 = .ok (.iload 5, 2) := by decide +kernel
theorem dX3_sum_19 : decode cX3_sum 19 = .ok (.sipush 400, 3) := by decide +kernel
theorem dX3_sum_22 : decode cX3_sum 22 = .ok (.if_icmp .ge 96, 3) := by decide +kernel
theorem dX3_sum_25 : decode cX3_sum 25 = .ok (.iload_n 3, 1) := by decide +kernel
theorem dX3_sum_26 : decode cX3_sum 26 = .ok (.ifCond .eq 92, 3) := by decide +kernel
theorem dX3_sum_29 : decode cX3_sum 29 = .ok (.iload 4, 2) := by decide +kernel
theorem dX3_sum_31 : decode cX3_sum 31 = .ok (.iconst (-1), 1) := by decide +kernel
theorem dX3_sum_32 : decode cX3_sum 32 = .ok (.if_icmp .eq 86, 3) := by decide +kernel
theorem dX3_sum_35 : decode cX3_sum 35 = .ok (.iload 4, 2) := by decide +kernel
theorem dX3_sum_37 : decode cX3_sum 37 = .ok (.iconst 2, 1) := by decide +kernel
theorem dX3_sum_38 : decode cX3_sum 38 = .ok (.if_icmp .eq 9, 3) := by decide +kernel
theorem dX3_sum_41 : decode cX3_sum 41 = .ok (.iload 4, 2) := by decide +kernel
theorem dX3_sum_43 : decode cX3_sum 43 = .ok (.iconst 3, 1) := by decide +kernel
theorem dX3_sum_44 : decode cX3_sum 44 = .ok (.if_icmp .ne 7, 3) := by decide +kernel
theorem dX3_sum_47 : decode cX3_sum 47 = .ok (.iconst 1, 1) := by decide +kernel
theorem dX3_sum_48 : decode cX3_sum 48 = .ok (.goto 4, 3) := by decide +kernel
theorem dX3_sum_51 : decode cX3_sum 51 = .ok (.iconst 0, 1) := by decide +kernel
theorem dX3_sum_52 : decode cX3_sum 52 = .ok (.istore 6, 2) := by decide +kernel
theorem dX3_sum_54 : decode cX3_sum 54 = .ok (.iload 6, 2) := by decide +kernel
theorem dX3_sum_56 : decode cX3_sum 56 = .ok (.ifCond .eq 15, 3) := by decide +kernel
theorem dX3_sum_59 : decode cX3_sum 59 = .ok (.iload_n 2, 1) := by decide +kernel
theorem dX3_sum_60 : decode cX3_sum 60 = .ok (.iconst (-1), 1) := by decide +kernel
theorem dX3_sum_61 : decode cX3_sum 61 = .ok (.if_icmp .eq 10, 3) := by decide +kernel
theorem dX3_sum_64 : decode cX3_sum 64 = .ok (.aload_n 0, 1) := by decide +kernel
theorem dX3_sum_65 : decode cX3_sum 65 = .ok (.iload_n 2, 1) := by decide +kernel
theorem dX3_sum_66 : decode cX3_sum 66 = .ok (.iconst 0, 1) := by decide +kernel
theorem dX3_sum_67 : decode cX3_sum 67 = .ok (.invokevirtual 109, 3) := by decide +kernel
theorem dX3_sum_70 : decode cX3_sum 70 = .ok (.pop, 1) := by decide +kernel
theorem dX3_sum_71 : decode cX3_sum 71 = .ok (.aload_n 0, 1) := by decide +kernel
theorem dX3_sum_72 : decode cX3_sum 72 = .ok (.aload_n 0, 1) := by decide +kernel
theorem dX3_sum_73 : decode cX3_sum 73 = .ok (.getfield 43, 3) := by decide +kernel
theorem dX3_sum_76 : decode cX3_sum 76 = .ok (.iconst 1, 1) := by decide +kernel
theorem dX3_sum_77 : decode cX3_sum 77 = .ok (.iadd, 1) := by decide +kernel
theorem dX3_sum_78 : decode cX3_sum 78 = .ok (.invokevirtual 66, 3) := by decide +kernel
theorem dX3_sum_81 : decode cX3_sum 81 = .ok (.aload_n 0, 1) := by decide +kernel
theorem dX3_sum_82 : decode cX3_sum 82 = .ok (.iload_n 1, 1) := by decide +kernel
theorem dX3_sum_83 : decode cX3_sum 83 = .ok (.invokevirtual 115, 3) := by decide +kernel
theorem dX3_sum_86 : decode cX3_sum 86 = .ok (.istore_n 3, 1) := by decide +kernel
theorem dX3_sum_87 : decode cX3_sum 87 = .ok (.iload 6, 2) := by decide +kernel
theorem dX3_sum_89 : decode cX3_sum 89 = .ok (.ifCond .eq 9, 3) := by decide +kernel
theorem dX3_sum_92 : decode cX3_sum 92 = .ok (.iload 4, 2) := by decide +kernel
theorem dX3_sum_94 : decode cX3_sum 94 = .ok (.istore_n 2, 1) := by decide +kernel
theorem dX3_sum_95 : decode cX3_sum 95 = .ok (.goto 11, 3) := by decide +kernel
theorem dX3_sum_98 : decode cX3_sum 98 = .ok (.aload_n 0, 1) := by decide +kernel
theorem dX3_sum_99 : decode cX3_sum 99 = .ok (.iload 4, 2) := by decide +kernel
theorem dX3_sum_101 : decode cX3_sum 101 = .ok (.iconst 0, 1) := by decide +kernel
theorem dX3_sum_102 : decode cX3_sum 102 = .ok (.invokevirtual 109, 3) := by decide +kernel
theorem dX3_sum_105 : decode cX3_sum 105 = .ok (.pop, 1) := by decide +kernel
theorem dX3_sum_106 : decode cX3_sum 106 = .ok (.aload_n 0, 1) := by decide +kernel
theorem dX3_sum_107 : decode cX3_sum 107 = .ok (.invokevirtual 118, 3) := by decide +kernel
theorem dX3_sum_110 : decode cX3_sum 110 = .ok (.istore 4, 2) := by decide +kernel
theorem dX3_sum_112 : decode cX3_sum 112 = .ok (.iinc 5 1, 3) := by decide +kernel
theorem dX3_sum_115 : decode cX3_sum 115 = .ok (.goto (-98), 3) := by decide +kernel
theorem dX3_sum_118 : decode cX3_sum 118 = .ok (.iload_n 2, 1) := by decide +kernel
theorem dX3_sum_119 : decode cX3_sum 119 = .ok (.iconst (-1), 1) := by decide +kernel
theorem dX3_sum_120 : decode cX3_sum 120 = .ok (.if_icmp .eq 10, 3) := by decide +kernel
theorem dX3_sum_123 : decode cX3_sum 123 = .ok (.aload_n 0, 1) := by decide +kernel
theorem dX3_sum_124 : decode cX3_sum 124 = .ok (.iload_n 2, 1) := by decide +kernel
theorem dX3_sum_125 : decode cX3_sum 125 = .ok (.iconst 0, 1) := by decide +kernel
theorem dX3_sum_126 : decode cX3_sum 126 = .ok (.invokevirtual 109, 3) := by decide +kernel
theorem dX3_sum_129 : decode cX3_sum 129 = .ok (.pop, 1) := by decide +kernel
theorem dX3_sum_130 : decode cX3_sum 130 = .ok (.iload_n 3, 1) := by decide +kernel
theorem dX3_sum_131 : decode cX3_sum 131 = .ok (.ireturn, 1) := by decide +kernel
set_option maxHeartbeats 4000000 in
set_option maxRecDepth 100000 in
theorem c_X3_sum (l : Launch) (E : Nat → Nat) (D : va_G) (G : th_G) (k : Nat) (h0 : Nat) (hG0 : G h0 = some (7, 12)) (x1 : Int32) (ft fp fn : Nat → Int32) (TT pp nc LL : Nat) (ZZ : Nat → Int) (YY : Nat → Bool) (nk : Nat) (XX : Nat × Bool) (hTK : TK ft fn TT ZZ YY) (dd : Nat) (hdd : x1.toInt = (dd : Int)) (hd8 : dd ≤ 8) (hk : 8 ≤ dd + k) (fl : List Nat) (hdp : pd_dp (fl) = dd) (hpd : pd_R ZZ YY TT (1, fl, nk, LL) pp = XX) (hpart : ∀ (h0 : Nat) (hG0 : G h0 = some (7, 12)) (x1 : Int32) (ft fp fn : Nat → Int32) (TT pp nc LL : Nat) (ZZ : Nat → Int) (YY : Nat → Bool) (nk : Nat) (XX : Nat × Bool) (hTK : TK ft fn TT ZZ YY) (dd : Nat) (hdd : x1.toInt = (dd : Int)) (hd8 : dd ≤ 8) (hk : 8 ≤ dd + k) (fl : List Nat) (hdp : pd_dp (fl) = dd) (hpd : pd_R ZZ YY TT (1, fl, nk, LL) pp = XX), Met l yX3_part (tb (.code yX3_part cX3_part 4 (some .boolean))) (rm (2 + 2 * k)) (va_Pc [.ref h0, .int x1] (PCx E D G (fun H => RC E D G h0 ft fp fn TT pp nc LL H))) (QCi E D G (fun r H => ((r : Int32) = 1 ∧ ∃ p2 L2 : Nat, RC E D G h0 ft fp fn TT p2 nc L2 H ∧ pp + 1 ≤ p2 ∧ pd_R ZZ YY TT (2, fl, nk, L2) p2 = XX) ∨ ((r : Int32) = 0 ∧ ∃ p2 L2 : Nat, RC E D G h0 ft fp fn TT p2 nc L2 H ∧ pp ≤ p2 ∧ XX = (p2, false)))) 0 0 (th_A G)) : Met l yX3_sum (tb (.code yX3_sum cX3_sum 7 (some .boolean))) (rm (3 + 2 * k)) (va_Pc [.ref h0, .int x1] (PCx E D G (fun H => RC E D G h0 ft fp fn TT pp nc LL H))) (QCi E D G (fun r H => ((r : Int32) = 1 ∧ ∃ p2 L2 : Nat, RC E D G h0 ft fp fn TT p2 nc L2 H ∧ pp + 1 ≤ p2 ∧ pd_R ZZ YY TT (2, fl, nk, L2) p2 = XX ∧ ¬ oc (ft p2).toInt) ∨ ((r : Int32) = 0 ∧ ∃ p2 L2 : Nat, RC E D G h0 ft fp fn TT p2 nc L2 H ∧ pp ≤ p2 ∧ XX = (p2, false)))) 0 0 (th_A G) := by
  refine Met.ofW (cc := cX3_sum) (maxL := 7) (ret := (some .boolean)) (by decide) rfl ?_
  intro p e s m args below meth c s₁ B hml hv
  obtain ⟨hav, ⟨hI, hN, hK⟩, hX⟩ := hv
  have hx := B.exec
  have hb := B.bytes
  have hr := B.returns
  have hts := atoms_spec (ws := tb (.code yX3_sum cX3_sum 7 (some .boolean))) B.pre
  have hown : s.vm.findClass RX3 = some m.cls := findClass_of_methodNamed B.named
  have hlocks := B.notSynchronized
  have hS : va_S (th_A G) s.heap s.heap [] := va_S.rf
  have hl := lv_entry ([.ref h0, .int x1]) (n := 7) (Nat.le_of_ble_eq_true rfl)
  rw [show entryFrame m args 7 = entryFrame m ([.ref h0, .int x1] : List Value).toArray 7 from by rw [hav], lg_entry_eq]
  generalize (lg_sl ([.ref h0, .int x1]) ++ List.replicate (7 - (lg_sl ([.ref h0, .int x1])).length) Slot.unset).toArray = ls at hl ⊢
  have hl : lv_has ls 7 [(0, .ref h0), (1, .int x1)] := hl
  generalize hR : (headSpec (tb (.code yX3_sum cX3_sum 7 (some .boolean))) (rm (3 + 2 * k))).room = R
  have hR := hR.symm
  generalize hQ : MQ below (QCi E D G (fun r H => ((r : Int32) = 1 ∧ ∃ p2 L2 : Nat, RC E D G h0 ft fp fn TT p2 nc L2 H ∧ pp + 1 ≤ p2 ∧ pd_R ZZ YY TT (2, fl, nk, L2) p2 = XX ∧ ¬ oc (ft p2).toInt) ∨ ((r : Int32) = 0 ∧ ∃ p2 L2 : Nat, RC E D G h0 ft fp fn TT p2 nc L2 H ∧ pp ≤ p2 ∧ XX = (p2, false)))) args s 0 0 (th_A G) = QF
  have hQ := hQ.symm
  obtain ⟨hT4, hn12, ⟨a1, hf2, hq3, hA4⟩, ⟨a5, hf6, hq7, hA8⟩, ⟨a9, hf10, hq11, hA12⟩, ⟨w13, hg14, k15⟩, ⟨w16, hg17, k18⟩, ⟨w19, hg20, k21⟩, hpT, ⟨w22, hg23, k24⟩, ⟨w25, hg26, k27⟩⟩ := hX
  have k28 := iv_lo w19
  have k29 := iv_hi w19
  have k30 := TK.at hTK hpT
  have J_17 : ∀ (nn : Nat) (H : Heap) (locs : List Loc) (ls : Array Slot) (v7338 : Int32) (v7339 : Int32) (v7340 : Int32) (v7341 : Int32) (p1 : Nat) (L1 : Nat), (Int.toNat (400 - v7338.toInt) = nn) → lv_has ls 7 [(5, .int v7338), (4, .int v7339), (3, .int v7340), (2, .int v7341), (0, .ref h0), (1, .int x1)] → ((0 : Int) ≤ v7338.toInt ∧ v7338.toInt ≤ 400) → ((-1 : Int) ≤ v7339.toInt ∧ v7339.toInt ≤ 6) → ((0 : Int) ≤ v7340.toInt ∧ v7340.toInt ≤ 1) → ((-1 : Int) ≤ v7341.toInt ∧ v7341.toInt ≤ 3) → ((0 : Int) ≤ x1.toInt ∧ x1.toInt ≤ 8) → (pp ≤ p1) → (v7338.toInt ≤ (p1 : Int)) → (SI (v7340.toInt) (v7339.toInt) (ft p1).toInt (pd_R ZZ YY TT (2, fl, nk, L1) p1 = XX ∧ pp + 1 ≤ p1) (XX = (p1, false))) → (RC E D G h0 ft fp fn TT p1 nc L1 H) → th_I (okC E) D G [] H → va_S (th_A G) s.heap H locs → W p l e R s m args below meth c H locs 0 0 QF (F0 m 17 ls []) := by
    intro nn
    induction nn using Nat.strongRecOn with
    | ind nn ih_17 =>
      intro H locs ls v7338 v7339 v7340 v7341 p1 L1 hm hl k7342 k7343 k7344 k7345 k7346 hle1 hi1 hSI hE hI hS
      obtain ⟨hT4, hn12, ⟨a7347, hf7348, hq7349, hA7350⟩, ⟨a7351, hf7352, hq7353, hA7354⟩, ⟨a7355, hf7356, hq7357, hA7358⟩, ⟨w7359, hg7360, k7361⟩, ⟨w7362, hg7363, k7364⟩, ⟨w7365, hg7366, k7367⟩, hpT, ⟨w7368, hg7369, k7370⟩, ⟨w7371, hg7372, k7373⟩⟩ := hE
      have k7374 := iv_lo w7365
      have k7375 := iv_hi w7365
      have k7376 := TK.at hTK hpT
      refine lv_iload hx hb dX3_sum_17 (lv_at hl 0 rfl) ?_
      refine lv_sipush (v := 400) hx hb dX3_sum_19 (by decide) ?_
      refine lv_icmp_ge (tgt := 118) hx hb dX3_sum_22 (by decide) (fun c7377 => ?_) (fun c7377 => ?_)
      · skip
        have k7378 := iv_le (X := (400)) (Y := v7338.toInt) (by decide) rfl c7377
        refine lv_iload_n hx hb dX3_sum_118 rfl (lv_at hl 3 rfl) ?_
        refine lv_iconst (v := (-1)) hx hb dX3_sum_119 (by decide) ?_
        refine lv_icmp_eq (tgt := 130) hx hb dX3_sum_120 (by decide) (fun c7379 => ?_) (fun c7379 => ?_)
        · skip
          have k7380 := iv_eq (X := v7341.toInt) (Y := (-1)) rfl (by decide) c7379
          refine lv_iload_n hx hb dX3_sum_130 rfl (lv_at hl 2 rfl) ?_
          have hpost : ((v7340 : Int32) = 1 ∧ ∃ p2 L2 : Nat, RC E D G h0 ft fp fn TT p2 nc L2 H ∧ pp + 1 ≤ p2 ∧ pd_R ZZ YY TT (2, fl, nk, L2) p2 = XX ∧ ¬ oc (ft p2).toInt) ∨ ((v7340 : Int32) = 0 ∧ ∃ p2 L2 : Nat, RC E D G h0 ft fp fn TT p2 nc L2 H ∧ pp ≤ p2 ∧ XX = (p2, false)) := (SI_out hSI (by first | exact Or.inl (by omega) | exact Or.inr (Or.inl (by omega)) | exact Or.inr (Or.inr (by unfold oc; omega)))).elim (fun h => Or.inl ⟨i32_1 h.1, p1, L1, ⟨by omega, by omega, ⟨a7347, hf7348, hq7349, hA7350⟩, ⟨a7351, hf7352, hq7353, hA7354⟩, ⟨a7355, hf7356, hq7357, hA7358⟩, ⟨w7359, hg7360, by first | omega | decide⟩, ⟨w7362, hg7363, by first | omega | decide⟩, ⟨w7365, hg7366, by first | omega | decide⟩, by omega, ⟨w7368, hg7369, by first | omega | decide⟩, ⟨w7371, hg7372, by first | omega | decide⟩⟩, h.2.1.2, h.2.1.1, h.2.2⟩) (fun h => Or.inr ⟨i32_0 h.1, p1, L1, ⟨by omega, by omega, ⟨a7347, hf7348, hq7349, hA7350⟩, ⟨a7351, hf7352, hq7353, hA7354⟩, ⟨a7355, hf7356, hq7357, hA7358⟩, ⟨w7359, hg7360, by first | omega | decide⟩, ⟨w7362, hg7363, by first | omega | decide⟩, ⟨w7365, hg7366, by first | omega | decide⟩, by omega, ⟨w7368, hg7369, by first | omega | decide⟩, ⟨w7371, hg7372, by first | omega | decide⟩⟩, by omega, h.2⟩)
          rw [hQ]
          exact W.zret (v := v7340) hx hb hr (th_zn (by omega)) (fun t ht hW => ⟨⟨v7340, v7340, rfl, rfl, ⟨by rw [ht]; exact hI, hN.warm hW, va_K.moved hW.alike hK⟩, by first | (rw [ht]; exact hpost) | exact hpost⟩, hS.F ht⟩) hS.2.2 dX3_sum_131
        · skip
          have k7381 := iv_ne (X := v7341.toInt) (Y := (-1)) rfl (by decide) c7379
          refine lv_aload_n hx hb dX3_sum_123 rfl (lv_at hl 4 rfl) ?_
          refine lv_iload_n hx hb dX3_sum_124 rfl (lv_at hl 3 rfl) ?_
          refine lv_iconst (v := 0) hx hb dX3_sum_125 (by decide) ?_
          refine nx_i (As := [.int v7341, .int 0]) (rest := []) (n := 2) (d := 0) ⟨hx, hb, hml, hown, hts⟩ (c_X3_emit l E D G h0 hG0 v7341 0 ft fp fn TT p1 nc L1) wd_723 wd_725 wp_17 wd_5 wd_726 (by decide +kernel) ⟨by rw [hR]; show 0 + 1 ≤ 3 + 2 * k; omega, by rw [hR]; show 8 + (3 + 11) + 40 * (0) ≤ 40 * (3 + 2 * k); omega⟩ hI hN hK hS hG0 (⟨by omega, by omega, ⟨a7347, hf7348, hq7349, hA7350⟩, ⟨a7351, hf7352, hq7353, hA7354⟩, ⟨a7355, hf7356, hq7357, hA7358⟩, ⟨w7359, hg7360, by first | omega | decide⟩, ⟨w7362, hg7363, by first | omega | decide⟩, ⟨w7365, hg7366, by first | omega | decide⟩, by omega, ⟨w7368, hg7369, by first | omega | decide⟩, ⟨w7371, hg7372, by first | omega | decide⟩⟩) rfl hl.1 rfl (Nat.le_of_ble_eq_true rfl) dX3_sum_126 ⟨Nat.zero_le _, Nat.zero_le _⟩ (fun r7382 H locs hI hp hS => ?_)
          obtain ⟨hT4, hn12, ⟨a7383, hf7384, hq7385, hA7386⟩, ⟨a7387, hf7388, hq7389, hA7390⟩, ⟨a7391, hf7392, hq7393, hA7394⟩, ⟨w7395, hg7396, k7397⟩, ⟨w7398, hg7399, k7400⟩, ⟨w7401, hg7402, k7403⟩, hpT, ⟨w7404, hg7405, k7406⟩, ⟨w7407, hg7408, k7409⟩⟩ := hp
          have k7410 := iv_lo w7401
          have k7411 := iv_hi w7401
          have k7412 := TK.at hTK hpT
          refine lv_pop hx hb dX3_sum_129 rfl ?_
          refine lv_iload_n hx hb dX3_sum_130 rfl (lv_at hl 2 rfl) ?_
          have hpost : ((v7340 : Int32) = 1 ∧ ∃ p2 L2 : Nat, RC E D G h0 ft fp fn TT p2 nc L2 H ∧ pp + 1 ≤ p2 ∧ pd_R ZZ YY TT (2, fl, nk, L2) p2 = XX ∧ ¬ oc (ft p2).toInt) ∨ ((v7340 : Int32) = 0 ∧ ∃ p2 L2 : Nat, RC E D G h0 ft fp fn TT p2 nc L2 H ∧ pp ≤ p2 ∧ XX = (p2, false)) := (SI_out hSI (by first | exact Or.inl (by omega) | exact Or.inr (Or.inl (by omega)) | exact Or.inr (Or.inr (by unfold oc; omega)))).elim (fun h => Or.inl ⟨i32_1 h.1, p1, L1, ⟨by omega, by omega, ⟨a7383, hf7384, hq7385, hA7386⟩, ⟨a7387, hf7388, hq7389, hA7390⟩, ⟨a7391, hf7392, hq7393, hA7394⟩, ⟨w7395, hg7396, by first | omega | decide⟩, ⟨w7398, hg7399, by first | omega | decide⟩, ⟨w7401, hg7402, by first | omega | decide⟩, by omega, ⟨w7404, hg7405, by first | omega | decide⟩, ⟨w7407, hg7408, by first | omega | decide⟩⟩, h.2.1.2, h.2.1.1, h.2.2⟩) (fun h => Or.inr ⟨i32_0 h.1, p1, L1, ⟨by omega, by omega, ⟨a7383, hf7384, hq7385, hA7386⟩, ⟨a7387, hf7388, hq7389, hA7390⟩, ⟨a7391, hf7392, hq7393, hA7394⟩, ⟨w7395, hg7396, by first | omega | decide⟩, ⟨w7398, hg7399, by first | omega | decide⟩, ⟨w7401, hg7402, by first | omega | decide⟩, by omega, ⟨w7404, hg7405, by first | omega | decide⟩, ⟨w7407, hg7408, by first | omega | decide⟩⟩, by omega, h.2⟩)
          rw [hQ]
          exact W.zret (v := v7340) hx hb hr (th_zn (by omega)) (fun t ht hW => ⟨⟨v7340, v7340, rfl, rfl, ⟨by rw [ht]; exact hI, hN.warm hW, va_K.moved hW.alike hK⟩, by first | (rw [ht]; exact hpost) | exact hpost⟩, hS.F ht⟩) hS.2.2 dX3_sum_131
      · skip
        have k7413 := iv_nle (X := (400)) (Y := v7338.toInt) (by decide) rfl c7377
        refine lv_iload_n hx hb dX3_sum_25 rfl (lv_at hl 2 rfl) ?_
        refine lv_if_eq (tgt := 118) hx hb dX3_sum_26 (by decide) (fun c7414 => ?_) (fun c7414 => ?_)
        · skip
          have k7415 := iv_eq (X := v7340.toInt) (Y := (0)) rfl (by decide) c7414
          refine lv_iload_n hx hb dX3_sum_118 rfl (lv_at hl 3 rfl) ?_
          refine lv_iconst (v := (-1)) hx hb dX3_sum_119 (by decide) ?_
          refine lv_icmp_eq (tgt := 130) hx hb dX3_sum_120 (by decide) (fun c7416 => ?_) (fun c7416 => ?_)
          · skip
            have k7417 := iv_eq (X := v7341.toInt) (Y := (-1)) rfl (by decide) c7416
            refine lv_iload_n hx hb dX3_sum_130 rfl (lv_at hl 2 rfl) ?_
            have hpost : ((v7340 : Int32) = 1 ∧ ∃ p2 L2 : Nat, RC E D G h0 ft fp fn TT p2 nc L2 H ∧ pp + 1 ≤ p2 ∧ pd_R ZZ YY TT (2, fl, nk, L2) p2 = XX ∧ ¬ oc (ft p2).toInt) ∨ ((v7340 : Int32) = 0 ∧ ∃ p2 L2 : Nat, RC E D G h0 ft fp fn TT p2 nc L2 H ∧ pp ≤ p2 ∧ XX = (p2, false)) := (SI_out hSI (by first | exact Or.inl (by omega) | exact Or.inr (Or.inl (by omega)) | exact Or.inr (Or.inr (by unfold oc; omega)))).elim (fun h => Or.inl ⟨i32_1 h.1, p1, L1, ⟨by omega, by omega, ⟨a7347, hf7348, hq7349, hA7350⟩, ⟨a7351, hf7352, hq7353, hA7354⟩, ⟨a7355, hf7356, hq7357, hA7358⟩, ⟨w7359, hg7360, by first | omega | decide⟩, ⟨w7362, hg7363, by first | omega | decide⟩, ⟨w7365, hg7366, by first | omega | decide⟩, by omega, ⟨w7368, hg7369, by first | omega | decide⟩, ⟨w7371, hg7372, by first | omega | decide⟩⟩, h.2.1.2, h.2.1.1, h.2.2⟩) (fun h => Or.inr ⟨i32_0 h.1, p1, L1, ⟨by omega, by omega, ⟨a7347, hf7348, hq7349, hA7350⟩, ⟨a7351, hf7352, hq7353, hA7354⟩, ⟨a7355, hf7356, hq7357, hA7358⟩, ⟨w7359, hg7360, by first | omega | decide⟩, ⟨w7362, hg7363, by first | omega | decide⟩, ⟨w7365, hg7366, by first | omega | decide⟩, by omega, ⟨w7368, hg7369, by first | omega | decide⟩, ⟨w7371, hg7372, by first | omega | decide⟩⟩, by omega, h.2⟩)
            rw [hQ]
            exact W.zret (v := v7340) hx hb hr (th_zn (by omega)) (fun t ht hW => ⟨⟨v7340, v7340, rfl, rfl, ⟨by rw [ht]; exact hI, hN.warm hW, va_K.moved hW.alike hK⟩, by first | (rw [ht]; exact hpost) | exact hpost⟩, hS.F ht⟩) hS.2.2 dX3_sum_131
          · skip
            have k7418 := iv_ne (X := v7341.toInt) (Y := (-1)) rfl (by decide) c7416
            refine lv_aload_n hx hb dX3_sum_123 rfl (lv_at hl 4 rfl) ?_
            refine lv_iload_n hx hb dX3_sum_124 rfl (lv_at hl 3 rfl) ?_
            refine lv_iconst (v := 0) hx hb dX3_sum_125 (by decide) ?_
            refine nx_i (As := [.int v7341, .int 0]) (rest := []) (n := 2) (d := 0) ⟨hx, hb, hml, hown, hts⟩ (c_X3_emit l E D G h0 hG0 v7341 0 ft fp fn TT p1 nc L1) wd_723 wd_725 wp_17 wd_5 wd_726 (by decide +kernel) ⟨by rw [hR]; show 0 + 1 ≤ 3 + 2 * k; omega, by rw [hR]; show 8 + (3 + 11) + 40 * (0) ≤ 40 * (3 + 2 * k); omega⟩ hI hN hK hS hG0 (⟨by omega, by omega, ⟨a7347, hf7348, hq7349, hA7350⟩, ⟨a7351, hf7352, hq7353, hA7354⟩, ⟨a7355, hf7356, hq7357, hA7358⟩, ⟨w7359, hg7360, by first | omega | decide⟩, ⟨w7362, hg7363, by first | omega | decide⟩, ⟨w7365, hg7366, by first | omega | decide⟩, by omega, ⟨w7368, hg7369, by first | omega | decide⟩, ⟨w7371, hg7372, by first | omega | decide⟩⟩) rfl hl.1 rfl (Nat.le_of_ble_eq_true rfl) dX3_sum_126 ⟨Nat.zero_le _, Nat.zero_le _⟩ (fun r7419 H locs hI hp hS => ?_)
            obtain ⟨hT4, hn12, ⟨a7420, hf7421, hq7422, hA7423⟩, ⟨a7424, hf7425, hq7426, hA7427⟩, ⟨a7428, hf7429, hq7430, hA7431⟩, ⟨w7432, hg7433, k7434⟩, ⟨w7435, hg7436, k7437⟩, ⟨w7438, hg7439, k7440⟩, hpT, ⟨w7441, hg7442, k7443⟩, ⟨w7444, hg7445, k7446⟩⟩ := hp
            have k7447 := iv_lo w7438
            have k7448 := iv_hi w7438
            have k7449 := TK.at hTK hpT
            refine lv_pop hx hb dX3_sum_129 rfl ?_
            refine lv_iload_n hx hb dX3_sum_130 rfl (lv_at hl 2 rfl) ?_
            have hpost : ((v7340 : Int32) = 1 ∧ ∃ p2 L2 : Nat, RC E D G h0 ft fp fn TT p2 nc L2 H ∧ pp + 1 ≤ p2 ∧ pd_R ZZ YY TT (2, fl, nk, L2) p2 = XX ∧ ¬ oc (ft p2).toInt) ∨ ((v7340 : Int32) = 0 ∧ ∃ p2 L2 : Nat, RC E D G h0 ft fp fn TT p2 nc L2 H ∧ pp ≤ p2 ∧ XX = (p2, false)) := (SI_out hSI (by first | exact Or.inl (by omega) | exact Or.inr (Or.inl (by omega)) | exact Or.inr (Or.inr (by unfold oc; omega)))).elim (fun h => Or.inl ⟨i32_1 h.1, p1, L1, ⟨by omega, by omega, ⟨a7420, hf7421, hq7422, hA7423⟩, ⟨a7424, hf7425, hq7426, hA7427⟩, ⟨a7428, hf7429, hq7430, hA7431⟩, ⟨w7432, hg7433, by first | omega | decide⟩, ⟨w7435, hg7436, by first | omega | decide⟩, ⟨w7438, hg7439, by first | omega | decide⟩, by omega, ⟨w7441, hg7442, by first | omega | decide⟩, ⟨w7444, hg7445, by first | omega | decide⟩⟩, h.2.1.2, h.2.1.1, h.2.2⟩) (fun h => Or.inr ⟨i32_0 h.1, p1, L1, ⟨by omega, by omega, ⟨a7420, hf7421, hq7422, hA7423⟩, ⟨a7424, hf7425, hq7426, hA7427⟩, ⟨a7428, hf7429, hq7430, hA7431⟩, ⟨w7432, hg7433, by first | omega | decide⟩, ⟨w7435, hg7436, by first | omega | decide⟩, ⟨w7438, hg7439, by first | omega | decide⟩, by omega, ⟨w7441, hg7442, by first | omega | decide⟩, ⟨w7444, hg7445, by first | omega | decide⟩⟩, by omega, h.2⟩)
            rw [hQ]
            exact W.zret (v := v7340) hx hb hr (th_zn (by omega)) (fun t ht hW => ⟨⟨v7340, v7340, rfl, rfl, ⟨by rw [ht]; exact hI, hN.warm hW, va_K.moved hW.alike hK⟩, by first | (rw [ht]; exact hpost) | exact hpost⟩, hS.F ht⟩) hS.2.2 dX3_sum_131
        · skip
          have k7450 := iv_ne (X := v7340.toInt) (Y := (0)) rfl (by decide) c7414
          refine lv_iload hx hb dX3_sum_29 (lv_at hl 1 rfl) ?_
          refine lv_iconst (v := (-1)) hx hb dX3_sum_31 (by decide) ?_
          refine lv_icmp_eq (tgt := 118) hx hb dX3_sum_32 (by decide) (fun c7451 => ?_) (fun c7451 => ?_)
          · skip
            have k7452 := iv_eq (X := v7339.toInt) (Y := (-1)) rfl (by decide) c7451
            refine lv_iload_n hx hb dX3_sum_118 rfl (lv_at hl 3 rfl) ?_
            refine lv_iconst (v := (-1)) hx hb dX3_sum_119 (by decide) ?_
            refine lv_icmp_eq (tgt := 130) hx hb dX3_sum_120 (by decide) (fun c7453 => ?_) (fun c7453 => ?_)
            · skip
              have k7454 := iv_eq (X := v7341.toInt) (Y := (-1)) rfl (by decide) c7453
              refine lv_iload_n hx hb dX3_sum_130 rfl (lv_at hl 2 rfl) ?_
              have hpost : ((v7340 : Int32) = 1 ∧ ∃ p2 L2 : Nat, RC E D G h0 ft fp fn TT p2 nc L2 H ∧ pp + 1 ≤ p2 ∧ pd_R ZZ YY TT (2, fl, nk, L2) p2 = XX ∧ ¬ oc (ft p2).toInt) ∨ ((v7340 : Int32) = 0 ∧ ∃ p2 L2 : Nat, RC E D G h0 ft fp fn TT p2 nc L2 H ∧ pp ≤ p2 ∧ XX = (p2, false)) := (SI_out hSI (by first | exact Or.inl (by omega) | exact Or.inr (Or.inl (by omega)) | exact Or.inr (Or.inr (by unfold oc; omega)))).elim (fun h => Or.inl ⟨i32_1 h.1, p1, L1, ⟨by omega, by omega, ⟨a7347, hf7348, hq7349, hA7350⟩, ⟨a7351, hf7352, hq7353, hA7354⟩, ⟨a7355, hf7356, hq7357, hA7358⟩, ⟨w7359, hg7360, by first | omega | decide⟩, ⟨w7362, hg7363, by first | omega | decide⟩, ⟨w7365, hg7366, by first | omega | decide⟩, by omega, ⟨w7368, hg7369, by first | omega | decide⟩, ⟨w7371, hg7372, by first | omega | decide⟩⟩, h.2.1.2, h.2.1.1, h.2.2⟩) (fun h => Or.inr ⟨i32_0 h.1, p1, L1, ⟨by omega, by omega, ⟨a7347, hf7348, hq7349, hA7350⟩, ⟨a7351, hf7352, hq7353, hA7354⟩, ⟨a7355, hf7356, hq7357, hA7358⟩, ⟨w7359, hg7360, by first | omega | decide⟩, ⟨w7362, hg7363, by first | omega | decide⟩, ⟨w7365, hg7366, by first | omega | decide⟩, by omega, ⟨w7368, hg7369, by first | omega | decide⟩, ⟨w7371, hg7372, by first | omega | decide⟩⟩, by omega, h.2⟩)
              rw [hQ]
              exact W.zret (v := v7340) hx hb hr (th_zn (by omega)) (fun t ht hW => ⟨⟨v7340, v7340, rfl, rfl, ⟨by rw [ht]; exact hI, hN.warm hW, va_K.moved hW.alike hK⟩, by first | (rw [ht]; exact hpost) | exact hpost⟩, hS.F ht⟩) hS.2.2 dX3_sum_131
            · skip
              have k7455 := iv_ne (X := v7341.toInt) (Y := (-1)) rfl (by decide) c7453
              refine lv_aload_n hx hb dX3_sum_123 rfl (lv_at hl 4 rfl) ?_
              refine lv_iload_n hx hb dX3_sum_124 rfl (lv_at hl 3 rfl) ?_
              refine lv_iconst (v := 0) hx hb dX3_sum_125 (by decide) ?_
              refine nx_i (As := [.int v7341, .int 0]) (rest := []) (n := 2) (d := 0) ⟨hx, hb, hml, hown, hts⟩ (c_X3_emit l E D G h0 hG0 v7341 0 ft fp fn TT p1 nc L1) wd_723 wd_725 wp_17 wd_5 wd_726 (by decide +kernel) ⟨by rw [hR]; show 0 + 1 ≤ 3 + 2 * k; omega, by rw [hR]; show 8 + (3 + 11) + 40 * (0) ≤ 40 * (3 + 2 * k); omega⟩ hI hN hK hS hG0 (⟨by omega, by omega, ⟨a7347, hf7348, hq7349, hA7350⟩, ⟨a7351, hf7352, hq7353, hA7354⟩, ⟨a7355, hf7356, hq7357, hA7358⟩, ⟨w7359, hg7360, by first | omega | decide⟩, ⟨w7362, hg7363, by first | omega | decide⟩, ⟨w7365, hg7366, by first | omega | decide⟩, by omega, ⟨w7368, hg7369, by first | omega | decide⟩, ⟨w7371, hg7372, by first | omega | decide⟩⟩) rfl hl.1 rfl (Nat.le_of_ble_eq_true rfl) dX3_sum_126 ⟨Nat.zero_le _, Nat.zero_le _⟩ (fun r7456 H locs hI hp hS => ?_)
              obtain ⟨hT4, hn12, ⟨a7457, hf7458, hq7459, hA7460⟩, ⟨a7461, hf7462, hq7463, hA7464⟩, ⟨a7465, hf7466, hq7467, hA7468⟩, ⟨w7469, hg7470, k7471⟩, ⟨w7472, hg7473, k7474⟩, ⟨w7475, hg7476, k7477⟩, hpT, ⟨w7478, hg7479, k7480⟩, ⟨w7481, hg7482, k7483⟩⟩ := hp
              have k7484 := iv_lo w7475
              have k7485 := iv_hi w7475
              have k7486 := TK.at hTK hpT
              refine lv_pop hx hb dX3_sum_129 rfl ?_
              refine lv_iload_n hx hb dX3_sum_130 rfl (lv_at hl 2 rfl) ?_
              have hpost : ((v7340 : Int32) = 1 ∧ ∃ p2 L2 : Nat, RC E D G h0 ft fp fn TT p2 nc L2 H ∧ pp + 1 ≤ p2 ∧ pd_R ZZ YY TT (2, fl, nk, L2) p2 = XX ∧ ¬ oc (ft p2).toInt) ∨ ((v7340 : Int32) = 0 ∧ ∃ p2 L2 : Nat, RC E D G h0 ft fp fn TT p2 nc L2 H ∧ pp ≤ p2 ∧ XX = (p2, false)) := (SI_out hSI (by first | exact Or.inl (by omega) | exact Or.inr (Or.inl (by omega)) | exact Or.inr (Or.inr (by unfold oc; omega)))).elim (fun h => Or.inl ⟨i32_1 h.1, p1, L1, ⟨by omega, by omega, ⟨a7457, hf7458, hq7459, hA7460⟩, ⟨a7461, hf7462, hq7463, hA7464⟩, ⟨a7465, hf7466, hq7467, hA7468⟩, ⟨w7469, hg7470, by first | omega | decide⟩, ⟨w7472, hg7473, by first | omega | decide⟩, ⟨w7475, hg7476, by first | omega | decide⟩, by omega, ⟨w7478, hg7479, by first | omega | decide⟩, ⟨w7481, hg7482, by first | omega | decide⟩⟩, h.2.1.2, h.2.1.1, h.2.2⟩) (fun h => Or.inr ⟨i32_0 h.1, p1, L1, ⟨by omega, by omega, ⟨a7457, hf7458, hq7459, hA7460⟩, ⟨a7461, hf7462, hq7463, hA7464⟩, ⟨a7465, hf7466, hq7467, hA7468⟩, ⟨w7469, hg7470, by first | omega | decide⟩, ⟨w7472, hg7473, by first | omega | decide⟩, ⟨w7475, hg7476, by first | omega | decide⟩, by omega, ⟨w7478, hg7479, by first | omega | decide⟩, ⟨w7481, hg7482, by first | omega | decide⟩⟩, by omega, h.2⟩)
              rw [hQ]
              exact W.zret (v := v7340) hx hb hr (th_zn (by omega)) (fun t ht hW => ⟨⟨v7340, v7340, rfl, rfl, ⟨by rw [ht]; exact hI, hN.warm hW, va_K.moved hW.alike hK⟩, by first | (rw [ht]; exact hpost) | exact hpost⟩, hS.F ht⟩) hS.2.2 dX3_sum_131
          · skip
            have k7487 := iv_ne (X := v7339.toInt) (Y := (-1)) rfl (by decide) c7451
            refine lv_iload hx hb dX3_sum_35 (lv_at hl 1 rfl) ?_
            refine lv_iconst (v := 2) hx hb dX3_sum_37 (by decide) ?_
            refine lv_icmp_eq (tgt := 47) hx hb dX3_sum_38 (by decide) (fun c7488 => ?_) (fun c7488 => ?_)
            · skip
              have k7489 := iv_eq (X := v7339.toInt) (Y := (2)) rfl (by decide) c7488
              refine lv_iconst (v := 1) hx hb dX3_sum_47 (by decide) ?_
              refine lv_goto (tgt := 52) hx hb dX3_sum_48 (by decide) ?_
              refine lv_istore (lv' := [(6, .int 1), (5, .int v7338), (4, .int v7339), (3, .int v7340), (2, .int v7341), (0, .ref h0), (1, .int x1)]) hx hb dX3_sum_52 hl (by decide) rfl (fun ls hl => ?_)
              refine lv_iload hx hb dX3_sum_54 (lv_at hl 0 rfl) ?_
              refine lv_if_eq (tgt := 71) hx hb dX3_sum_56 (by decide) (fun c => absurd c (by decide)) (fun _ => ?_)
              refine lv_iload_n hx hb dX3_sum_59 rfl (lv_at hl 4 rfl) ?_
              refine lv_iconst (v := (-1)) hx hb dX3_sum_60 (by decide) ?_
              refine lv_icmp_eq (tgt := 71) hx hb dX3_sum_61 (by decide) (fun c7490 => ?_) (fun c7490 => ?_)
              · skip
                have k7491 := iv_eq (X := v7341.toInt) (Y := (-1)) rfl (by decide) c7490
                refine lv_aload_n hx hb dX3_sum_71 rfl (lv_at hl 5 rfl) ?_
                refine lv_aload_n hx hb dX3_sum_72 rfl (lv_at hl 5 rfl) ?_
                refine gmIC hx hb hts inT3 hown hK hI List.not_mem_nil hG0 10 (by decide) (hts _ (tb_c wd_139)) rfl rfl dX3_sum_73 (fun w7492 hg7493 k7494 k7495 => ?_)
                obtain rfl := gfC.uniq (by decide) hg7369 hg7493
                refine lv_iconst (v := 1) hx hb dX3_sum_76 (by decide) ?_
                refine lv_iadd hx hb dX3_sum_77 ?_
                refine lv_topi (fun v7496 e7497 => ?_)
                have tv7496 : v7496.toInt = w7368.toInt + (1) := iv_add rfl (by decide) e7497 (by omega) (by omega)
                obtain ⟨⟨hpi, hlp⟩, hoc⟩ := SI_in hSI (by omega) (by omega)
                have hlt9 : p1 < TT := by unfold oc at hoc; omega
                have hpd7498 : pd_R ZZ YY TT (1, fl, nk, L1) (p1 + 1) = XX := (pd_A_op hlt9 (by unfold oc at hoc; unfold pd_op; omega)).symm.trans hpi
                refine nx_v (As := [.int v7496]) (rest := []) (n := 1) (d := 0) ⟨hx, hb, hml, hown, hts⟩ (c_X3_moveTo l E D G h0 hG0 v7496 ft fp fn TT (p1 + 1) nc L1 (by first | omega | decide) (by omega)) wd_707 wd_709 wp_13 wd_5 wd_710 (by decide +kernel) ⟨by rw [hR]; show 0 + 1 ≤ 3 + 2 * k; omega, by rw [hR]; show 8 + (2 + 11) + 40 * (0) ≤ 40 * (3 + 2 * k); omega⟩ hI hN hK hS hG0 (⟨by omega, by omega, ⟨a7347, hf7348, hq7349, hA7350⟩, ⟨a7351, hf7352, hq7353, hA7354⟩, ⟨a7355, hf7356, hq7357, hA7358⟩, ⟨w7359, hg7360, by first | omega | decide⟩, ⟨w7362, hg7363, by first | omega | decide⟩, ⟨w7365, hg7366, by first | omega | decide⟩⟩) rfl hl.1 rfl (Nat.le_of_ble_eq_true rfl) dX3_sum_78 ⟨Nat.zero_le _, Nat.zero_le _⟩ (fun H locs hI hp hS => ?_)
                obtain ⟨hT4, hn12, ⟨a7500, hf7501, hq7502, hA7503⟩, ⟨a7504, hf7505, hq7506, hA7507⟩, ⟨a7508, hf7509, hq7510, hA7511⟩, ⟨w7512, hg7513, k7514⟩, ⟨w7515, hg7516, k7517⟩, ⟨w7518, hg7519, k7520⟩, hpT, ⟨w7521, hg7522, k7523⟩, ⟨w7524, hg7525, k7526⟩⟩ := hp
                have k7527 := iv_lo w7518
                have k7528 := iv_hi w7518
                have k7529 := TK.at hTK hpT
                refine lv_aload_n hx hb dX3_sum_81 rfl (lv_at hl 5 rfl) ?_
                refine lv_iload_n hx hb dX3_sum_82 rfl (lv_at hl 6 rfl) ?_
                refine nx_i (As := [.int x1]) (rest := []) (n := 1) (d := (2 + 2 * k)) ⟨hx, hb, hml, hown, hts⟩ (hpart h0 hG0 x1 ft fp fn TT (p1 + 1) nc L1 ZZ YY nk XX hTK dd (by first | decide | omega) (by omega) (by omega) fl hdp hpd7498) wd_719 wd_721 wp_16 wd_5 wd_722 (by decide +kernel) ⟨by rw [hR]; show (2 + 2 * k) + 1 ≤ 3 + 2 * k; omega, by rw [hR]; show 8 + (4 + 11) + 40 * ((2 + 2 * k)) ≤ 40 * (3 + 2 * k); omega⟩ hI hN hK hS hG0 (⟨by omega, by omega, ⟨a7500, hf7501, hq7502, hA7503⟩, ⟨a7504, hf7505, hq7506, hA7507⟩, ⟨a7508, hf7509, hq7510, hA7511⟩, ⟨w7512, hg7513, by first | omega | decide⟩, ⟨w7515, hg7516, by first | omega | decide⟩, ⟨w7518, hg7519, by first | omega | decide⟩, by omega, ⟨w7521, hg7522, by first | omega | decide⟩, ⟨w7524, hg7525, by first | omega | decide⟩⟩) rfl hl.1 rfl (Nat.le_of_ble_eq_true rfl) dX3_sum_83 ⟨Nat.zero_le _, Nat.zero_le _⟩ (fun r7530 H locs hI hp hS => ?_)
                rcases hp with ⟨rfl, hp⟩ | ⟨rfl, hp⟩
                · skip
                  try simp only [rg, not_and, Int.not_le] at hp
                  have hp7531 := hp
                  obtain ⟨pn7532, Ln7533, hE, k7534, hpd7535⟩ := hp7531
                  have hp7531 : True := trivial
                  obtain ⟨hT4, hn12, ⟨a7536, hf7537, hq7538, hA7539⟩, ⟨a7540, hf7541, hq7542, hA7543⟩, ⟨a7544, hf7545, hq7546, hA7547⟩, ⟨w7548, hg7549, k7550⟩, ⟨w7551, hg7552, k7553⟩, ⟨w7554, hg7555, k7556⟩, hpT, ⟨w7557, hg7558, k7559⟩, ⟨w7560, hg7561, k7562⟩⟩ := hE
                  have k7563 := iv_lo w7554
                  have k7564 := iv_hi w7554
                  have k7565 := TK.at hTK hpT
                  refine lv_istore_n (lv' := [(3, .int 1), (6, .int 1), (5, .int v7338), (4, .int v7339), (2, .int v7341), (0, .ref h0), (1, .int x1)]) hx hb dX3_sum_86 rfl hl (by decide) rfl (fun ls hl => ?_)
                  refine lv_iload hx hb dX3_sum_87 (lv_at hl 1 rfl) ?_
                  refine lv_if_eq (tgt := 98) hx hb dX3_sum_89 (by decide) (fun c => absurd c (by decide)) (fun _ => ?_)
                  refine lv_iload hx hb dX3_sum_92 (lv_at hl 3 rfl) ?_
                  refine lv_istore_n (lv' := [(2, .int v7339), (3, .int 1), (6, .int 1), (5, .int v7338), (4, .int v7339), (0, .ref h0), (1, .int x1)]) hx hb dX3_sum_94 rfl hl (by decide) rfl (fun ls hl => ?_)
                  refine lv_goto (tgt := 106) hx hb dX3_sum_95 (by decide) ?_
                  refine lv_aload_n hx hb dX3_sum_106 rfl (lv_at hl 5 rfl) ?_
                  refine nr_i (As := []) (rest := []) (n := 0) (d := 0) ⟨hx, hb, hml, hown, hts⟩ (c_X3_arithmetic l E D G H h0 hG0  ft fp fn TT pn7532 nc Ln7533 ⟨by omega, by omega, ⟨a7536, hf7537, hq7538, hA7539⟩, ⟨a7540, hf7541, hq7542, hA7543⟩, ⟨a7544, hf7545, hq7546, hA7547⟩, ⟨w7548, hg7549, by first | omega | decide⟩, ⟨w7551, hg7552, by first | omega | decide⟩, ⟨w7554, hg7555, by first | omega | decide⟩, by omega, ⟨w7557, hg7558, by first | omega | decide⟩, ⟨w7560, hg7561, by first | omega | decide⟩⟩) wd_727 wd_729 wp_18 wd_5 wd_730 (by decide +kernel) ⟨by rw [hR]; show 0 + 1 ≤ 3 + 2 * k; omega, by rw [hR]; show 8 + (1 + 11) + 40 * (0) ≤ 40 * (3 + 2 * k); omega⟩ hI hN hK hS hG0 rfl hl.1 rfl (Nat.le_of_ble_eq_true rfl) dX3_sum_107 ⟨Nat.zero_le _, Nat.zero_le _⟩ (fun r7566 locs hp hS => ?_)
                  have hp7567 := hp
                  have hop7568 := hp
                  refine lv_istore (lv' := [(4, .int r7566), (2, .int v7339), (3, .int 1), (6, .int 1), (5, .int v7338), (0, .ref h0), (1, .int x1)]) hx hb dX3_sum_110 hl (by decide) rfl (fun ls hl => ?_)
                  obtain ⟨v7569, e7570⟩ : ∃ y : Int32, y = v7338 + (1) := ⟨_, rfl⟩
                  have tv7569 : v7569.toInt = v7338.toInt + (1) := iv_add rfl (by decide) e7570 (by omega) (by omega)
                  refine lv_iinc (v := v7569) (lv' := [(5, .int v7569), (4, .int r7566), (2, .int v7339), (3, .int 1), (6, .int 1), (0, .ref h0), (1, .int x1)]) hx hb dX3_sum_112 hl (k := 4) rfl (by rw [e7570]; rfl) (by decide) rfl (fun ls hl => ?_)
                  refine lv_goto (tgt := 17) hx hb dX3_sum_115 (by decide) ?_
                  exact ih_17 _ (by omega) H locs ls v7569 r7566 1 v7339 pn7532 Ln7533 rfl (lv_sub hl [0, 1, 3, 2, 5, 6] rfl) ⟨by omega, by omega⟩ ⟨by omega, by omega⟩ ⟨by decide, by decide⟩ ⟨by omega, by omega⟩ ⟨by omega, by omega⟩ (by omega) (by first | omega | (show (0 : Int32).toInt ≤ _; rw [show (0 : Int32).toInt = 0 from by decide]; omega)) (Or.inl ⟨by first | decide | omega, ⟨hpd7535, by omega⟩, SI_op hop7568⟩) (⟨by omega, by omega, ⟨a7536, hf7537, hq7538, hA7539⟩, ⟨a7540, hf7541, hq7542, hA7543⟩, ⟨a7544, hf7545, hq7546, hA7547⟩, ⟨w7548, hg7549, by first | omega | decide⟩, ⟨w7551, hg7552, by first | omega | decide⟩, ⟨w7554, hg7555, by first | omega | decide⟩, by omega, ⟨w7557, hg7558, by first | omega | decide⟩, ⟨w7560, hg7561, by first | omega | decide⟩⟩) hI hS
                · skip
                  try simp only [rg, not_and, Int.not_le] at hp
                  have hp7571 := hp
                  obtain ⟨pn7572, Ln7573, hE, k7574, hfl7575⟩ := hp7571
                  have hp7571 : True := trivial
                  obtain ⟨hT4, hn12, ⟨a7576, hf7577, hq7578, hA7579⟩, ⟨a7580, hf7581, hq7582, hA7583⟩, ⟨a7584, hf7585, hq7586, hA7587⟩, ⟨w7588, hg7589, k7590⟩, ⟨w7591, hg7592, k7593⟩, ⟨w7594, hg7595, k7596⟩, hpT, ⟨w7597, hg7598, k7599⟩, ⟨w7600, hg7601, k7602⟩⟩ := hE
                  have k7603 := iv_lo w7594
                  have k7604 := iv_hi w7594
                  have k7605 := TK.at hTK hpT
                  refine lv_istore_n (lv' := [(3, .int 0), (6, .int 1), (5, .int v7338), (4, .int v7339), (2, .int v7341), (0, .ref h0), (1, .int x1)]) hx hb dX3_sum_86 rfl hl (by decide) rfl (fun ls hl => ?_)
                  refine lv_iload hx hb dX3_sum_87 (lv_at hl 1 rfl) ?_
                  refine lv_if_eq (tgt := 98) hx hb dX3_sum_89 (by decide) (fun c => absurd c (by decide)) (fun _ => ?_)
                  refine lv_iload hx hb dX3_sum_92 (lv_at hl 3 rfl) ?_
                  refine lv_istore_n (lv' := [(2, .int v7339), (3, .int 0), (6, .int 1), (5, .int v7338), (4, .int v7339), (0, .ref h0), (1, .int x1)]) hx hb dX3_sum_94 rfl hl (by decide) rfl (fun ls hl => ?_)
                  refine lv_goto (tgt := 106) hx hb dX3_sum_95 (by decide) ?_
                  refine lv_aload_n hx hb dX3_sum_106 rfl (lv_at hl 5 rfl) ?_
                  refine nr_i (As := []) (rest := []) (n := 0) (d := 0) ⟨hx, hb, hml, hown, hts⟩ (c_X3_arithmetic l E D G H h0 hG0  ft fp fn TT pn7572 nc Ln7573 ⟨by omega, by omega, ⟨a7576, hf7577, hq7578, hA7579⟩, ⟨a7580, hf7581, hq7582, hA7583⟩, ⟨a7584, hf7585, hq7586, hA7587⟩, ⟨w7588, hg7589, by first | omega | decide⟩, ⟨w7591, hg7592, by first | omega | decide⟩, ⟨w7594, hg7595, by first | omega | decide⟩, by omega, ⟨w7597, hg7598, by first | omega | decide⟩, ⟨w7600, hg7601, by first | omega | decide⟩⟩) wd_727 wd_729 wp_18 wd_5 wd_730 (by decide +kernel) ⟨by rw [hR]; show 0 + 1 ≤ 3 + 2 * k; omega, by rw [hR]; show 8 + (1 + 11) + 40 * (0) ≤ 40 * (3 + 2 * k); omega⟩ hI hN hK hS hG0 rfl hl.1 rfl (Nat.le_of_ble_eq_true rfl) dX3_sum_107 ⟨Nat.zero_le _, Nat.zero_le _⟩ (fun r7606 locs hp hS => ?_)
                  have hp7607 := hp
                  have hop7608 := hp
                  refine lv_istore (lv' := [(4, .int r7606), (2, .int v7339), (3, .int 0), (6, .int 1), (5, .int v7338), (0, .ref h0), (1, .int x1)]) hx hb dX3_sum_110 hl (by decide) rfl (fun ls hl => ?_)
                  obtain ⟨v7609, e7610⟩ : ∃ y : Int32, y = v7338 + (1) := ⟨_, rfl⟩
                  have tv7609 : v7609.toInt = v7338.toInt + (1) := iv_add rfl (by decide) e7610 (by omega) (by omega)
                  refine lv_iinc (v := v7609) (lv' := [(5, .int v7609), (4, .int r7606), (2, .int v7339), (3, .int 0), (6, .int 1), (0, .ref h0), (1, .int x1)]) hx hb dX3_sum_112 hl (k := 4) rfl (by rw [e7610]; rfl) (by decide) rfl (fun ls hl => ?_)
                  refine lv_goto (tgt := 17) hx hb dX3_sum_115 (by decide) ?_
                  exact ih_17 _ (by omega) H locs ls v7609 r7606 0 v7339 pn7572 Ln7573 rfl (lv_sub hl [0, 1, 3, 2, 5, 6] rfl) ⟨by omega, by omega⟩ ⟨by omega, by omega⟩ ⟨by decide, by decide⟩ ⟨by omega, by omega⟩ ⟨by omega, by omega⟩ (by omega) (by first | omega | (show (0 : Int32).toInt ≤ _; rw [show (0 : Int32).toInt = 0 from by decide]; omega)) (Or.inr ⟨by first | decide | omega, hfl7575⟩) (⟨by omega, by omega, ⟨a7576, hf7577, hq7578, hA7579⟩, ⟨a7580, hf7581, hq7582, hA7583⟩, ⟨a7584, hf7585, hq7586, hA7587⟩, ⟨w7588, hg7589, by first | omega | decide⟩, ⟨w7591, hg7592, by first | omega | decide⟩, ⟨w7594, hg7595, by first | omega | decide⟩, by omega, ⟨w7597, hg7598, by first | omega | decide⟩, ⟨w7600, hg7601, by first | omega | decide⟩⟩) hI hS
              · skip
                have k7611 := iv_ne (X := v7341.toInt) (Y := (-1)) rfl (by decide) c7490
                refine lv_aload_n hx hb dX3_sum_64 rfl (lv_at hl 5 rfl) ?_
                refine lv_iload_n hx hb dX3_sum_65 rfl (lv_at hl 4 rfl) ?_
                refine lv_iconst (v := 0) hx hb dX3_sum_66 (by decide) ?_
                refine nx_i (As := [.int v7341, .int 0]) (rest := []) (n := 2) (d := 0) ⟨hx, hb, hml, hown, hts⟩ (c_X3_emit l E D G h0 hG0 v7341 0 ft fp fn TT p1 nc L1) wd_723 wd_725 wp_17 wd_5 wd_726 (by decide +kernel) ⟨by rw [hR]; show 0 + 1 ≤ 3 + 2 * k; omega, by rw [hR]; show 8 + (3 + 11) + 40 * (0) ≤ 40 * (3 + 2 * k); omega⟩ hI hN hK hS hG0 (⟨by omega, by omega, ⟨a7347, hf7348, hq7349, hA7350⟩, ⟨a7351, hf7352, hq7353, hA7354⟩, ⟨a7355, hf7356, hq7357, hA7358⟩, ⟨w7359, hg7360, by first | omega | decide⟩, ⟨w7362, hg7363, by first | omega | decide⟩, ⟨w7365, hg7366, by first | omega | decide⟩, by omega, ⟨w7368, hg7369, by first | omega | decide⟩, ⟨w7371, hg7372, by first | omega | decide⟩⟩) rfl hl.1 rfl (Nat.le_of_ble_eq_true rfl) dX3_sum_67 ⟨Nat.zero_le _, Nat.zero_le _⟩ (fun r7612 H locs hI hp hS => ?_)
                obtain ⟨hT4, hn12, ⟨a7613, hf7614, hq7615, hA7616⟩, ⟨a7617, hf7618, hq7619, hA7620⟩, ⟨a7621, hf7622, hq7623, hA7624⟩, ⟨w7625, hg7626, k7627⟩, ⟨w7628, hg7629, k7630⟩, ⟨w7631, hg7632, k7633⟩, hpT, ⟨w7634, hg7635, k7636⟩, ⟨w7637, hg7638, k7639⟩⟩ := hp
                have k7640 := iv_lo w7631
                have k7641 := iv_hi w7631
                have k7642 := TK.at hTK hpT
                refine lv_pop hx hb dX3_sum_70 rfl ?_
                refine lv_aload_n hx hb dX3_sum_71 rfl (lv_at hl 5 rfl) ?_
                refine lv_aload_n hx hb dX3_sum_72 rfl (lv_at hl 5 rfl) ?_
                refine gmIC hx hb hts inT3 hown hK hI List.not_mem_nil hG0 10 (by decide) (hts _ (tb_c wd_139)) rfl rfl dX3_sum_73 (fun w7643 hg7644 k7645 k7646 => ?_)
                obtain rfl := gfC.uniq (by decide) hg7635 hg7644
                refine lv_iconst (v := 1) hx hb dX3_sum_76 (by decide) ?_
                refine lv_iadd hx hb dX3_sum_77 ?_
                refine lv_topi (fun v7647 e7648 => ?_)
                have tv7647 : v7647.toInt = w7634.toInt + (1) := iv_add rfl (by decide) e7648 (by omega) (by omega)
                obtain ⟨⟨hpi, hlp⟩, hoc⟩ := SI_in hSI (by omega) (by omega)
                have hlt9 : p1 < TT := by unfold oc at hoc; omega
                have hpd7649 : pd_R ZZ YY TT (1, fl, nk, L1) (p1 + 1) = XX := (pd_A_op hlt9 (by unfold oc at hoc; unfold pd_op; omega)).symm.trans hpi
                refine nx_v (As := [.int v7647]) (rest := []) (n := 1) (d := 0) ⟨hx, hb, hml, hown, hts⟩ (c_X3_moveTo l E D G h0 hG0 v7647 ft fp fn TT (p1 + 1) nc L1 (by first | omega | decide) (by omega)) wd_707 wd_709 wp_13 wd_5 wd_710 (by decide +kernel) ⟨by rw [hR]; show 0 + 1 ≤ 3 + 2 * k; omega, by rw [hR]; show 8 + (2 + 11) + 40 * (0) ≤ 40 * (3 + 2 * k); omega⟩ hI hN hK hS hG0 (⟨by omega, by omega, ⟨a7613, hf7614, hq7615, hA7616⟩, ⟨a7617, hf7618, hq7619, hA7620⟩, ⟨a7621, hf7622, hq7623, hA7624⟩, ⟨w7625, hg7626, by first | omega | decide⟩, ⟨w7628, hg7629, by first | omega | decide⟩, ⟨w7631, hg7632, by first | omega | decide⟩⟩) rfl hl.1 rfl (Nat.le_of_ble_eq_true rfl) dX3_sum_78 ⟨Nat.zero_le _, Nat.zero_le _⟩ (fun H locs hI hp hS => ?_)
                obtain ⟨hT4, hn12, ⟨a7651, hf7652, hq7653, hA7654⟩, ⟨a7655, hf7656, hq7657, hA7658⟩, ⟨a7659, hf7660, hq7661, hA7662⟩, ⟨w7663, hg7664, k7665⟩, ⟨w7666, hg7667, k7668⟩, ⟨w7669, hg7670, k7671⟩, hpT, ⟨w7672, hg7673, k7674⟩, ⟨w7675, hg7676, k7677⟩⟩ := hp
                have k7678 := iv_lo w7669
                have k7679 := iv_hi w7669
                have k7680 := TK.at hTK hpT
                refine lv_aload_n hx hb dX3_sum_81 rfl (lv_at hl 5 rfl) ?_
                refine lv_iload_n hx hb dX3_sum_82 rfl (lv_at hl 6 rfl) ?_
                refine nx_i (As := [.int x1]) (rest := []) (n := 1) (d := (2 + 2 * k)) ⟨hx, hb, hml, hown, hts⟩ (hpart h0 hG0 x1 ft fp fn TT (p1 + 1) nc L1 ZZ YY nk XX hTK dd (by first | decide | omega) (by omega) (by omega) fl hdp hpd7649) wd_719 wd_721 wp_16 wd_5 wd_722 (by decide +kernel) ⟨by rw [hR]; show (2 + 2 * k) + 1 ≤ 3 + 2 * k; omega, by rw [hR]; show 8 + (4 + 11) + 40 * ((2 + 2 * k)) ≤ 40 * (3 + 2 * k); omega⟩ hI hN hK hS hG0 (⟨by omega, by omega, ⟨a7651, hf7652, hq7653, hA7654⟩, ⟨a7655, hf7656, hq7657, hA7658⟩, ⟨a7659, hf7660, hq7661, hA7662⟩, ⟨w7663, hg7664, by first | omega | decide⟩, ⟨w7666, hg7667, by first | omega | decide⟩, ⟨w7669, hg7670, by first | omega | decide⟩, by omega, ⟨w7672, hg7673, by first | omega | decide⟩, ⟨w7675, hg7676, by first | omega | decide⟩⟩) rfl hl.1 rfl (Nat.le_of_ble_eq_true rfl) dX3_sum_83 ⟨Nat.zero_le _, Nat.zero_le _⟩ (fun r7681 H locs hI hp hS => ?_)
                rcases hp with ⟨rfl, hp⟩ | ⟨rfl, hp⟩
                · skip
                  try simp only [rg, not_and, Int.not_le] at hp
                  have hp7682 := hp
                  obtain ⟨pn7683, Ln7684, hE, k7685, hpd7686⟩ := hp7682
                  have hp7682 : True := trivial
                  obtain ⟨hT4, hn12, ⟨a7687, hf7688, hq7689, hA7690⟩, ⟨a7691, hf7692, hq7693, hA7694⟩, ⟨a7695, hf7696, hq7697, hA7698⟩, ⟨w7699, hg7700, k7701⟩, ⟨w7702, hg7703, k7704⟩, ⟨w7705, hg7706, k7707⟩, hpT, ⟨w7708, hg7709, k7710⟩, ⟨w7711, hg7712, k7713⟩⟩ := hE
                  have k7714 := iv_lo w7705
                  have k7715 := iv_hi w7705
                  have k7716 := TK.at hTK hpT
                  refine lv_istore_n (lv' := [(3, .int 1), (6, .int 1), (5, .int v7338), (4, .int v7339), (2, .int v7341), (0, .ref h0), (1, .int x1)]) hx hb dX3_sum_86 rfl hl (by decide) rfl (fun ls hl => ?_)
                  refine lv_iload hx hb dX3_sum_87 (lv_at hl 1 rfl) ?_
                  refine lv_if_eq (tgt := 98) hx hb dX3_sum_89 (by decide) (fun c => absurd c (by decide)) (fun _ => ?_)
                  refine lv_iload hx hb dX3_sum_92 (lv_at hl 3 rfl) ?_
                  refine lv_istore_n (lv' := [(2, .int v7339), (3, .int 1), (6, .int 1), (5, .int v7338), (4, .int v7339), (0, .ref h0), (1, .int x1)]) hx hb dX3_sum_94 rfl hl (by decide) rfl (fun ls hl => ?_)
                  refine lv_goto (tgt := 106) hx hb dX3_sum_95 (by decide) ?_
                  refine lv_aload_n hx hb dX3_sum_106 rfl (lv_at hl 5 rfl) ?_
                  refine nr_i (As := []) (rest := []) (n := 0) (d := 0) ⟨hx, hb, hml, hown, hts⟩ (c_X3_arithmetic l E D G H h0 hG0  ft fp fn TT pn7683 nc Ln7684 ⟨by omega, by omega, ⟨a7687, hf7688, hq7689, hA7690⟩, ⟨a7691, hf7692, hq7693, hA7694⟩, ⟨a7695, hf7696, hq7697, hA7698⟩, ⟨w7699, hg7700, by first | omega | decide⟩, ⟨w7702, hg7703, by first | omega | decide⟩, ⟨w7705, hg7706, by first | omega | decide⟩, by omega, ⟨w7708, hg7709, by first | omega | decide⟩, ⟨w7711, hg7712, by first | omega | decide⟩⟩) wd_727 wd_729 wp_18 wd_5 wd_730 (by decide +kernel) ⟨by rw [hR]; show 0 + 1 ≤ 3 + 2 * k; omega, by rw [hR]; show 8 + (1 + 11) + 40 * (0) ≤ 40 * (3 + 2 * k); omega⟩ hI hN hK hS hG0 rfl hl.1 rfl (Nat.le_of_ble_eq_true rfl) dX3_sum_107 ⟨Nat.zero_le _, Nat.zero_le _⟩ (fun r7717 locs hp hS => ?_)
                  have hp7718 := hp
                  have hop7719 := hp
                  refine lv_istore (lv' := [(4, .int r7717), (2, .int v7339), (3, .int 1), (6, .int 1), (5, .int v7338), (0, .ref h0), (1, .int x1)]) hx hb dX3_sum_110 hl (by decide) rfl (fun ls hl => ?_)
                  obtain ⟨v7720, e7721⟩ : ∃ y : Int32, y = v7338 + (1) := ⟨_, rfl⟩
                  have tv7720 : v7720.toInt = v7338.toInt + (1) := iv_add rfl (by decide) e7721 (by omega) (by omega)
                  refine lv_iinc (v := v7720) (lv' := [(5, .int v7720), (4, .int r7717), (2, .int v7339), (3, .int 1), (6, .int 1), (0, .ref h0), (1, .int x1)]) hx hb dX3_sum_112 hl (k := 4) rfl (by rw [e7721]; rfl) (by decide) rfl (fun ls hl => ?_)
                  refine lv_goto (tgt := 17) hx hb dX3_sum_115 (by decide) ?_
                  exact ih_17 _ (by omega) H locs ls v7720 r7717 1 v7339 pn7683 Ln7684 rfl (lv_sub hl [0, 1, 3, 2, 5, 6] rfl) ⟨by omega, by omega⟩ ⟨by omega, by omega⟩ ⟨by decide, by decide⟩ ⟨by omega, by omega⟩ ⟨by omega, by omega⟩ (by omega) (by first | omega | (show (0 : Int32).toInt ≤ _; rw [show (0 : Int32).toInt = 0 from by decide]; omega)) (Or.inl ⟨by first | decide | omega, ⟨hpd7686, by omega⟩, SI_op hop7719⟩) (⟨by omega, by omega, ⟨a7687, hf7688, hq7689, hA7690⟩, ⟨a7691, hf7692, hq7693, hA7694⟩, ⟨a7695, hf7696, hq7697, hA7698⟩, ⟨w7699, hg7700, by first | omega | decide⟩, ⟨w7702, hg7703, by first | omega | decide⟩, ⟨w7705, hg7706, by first | omega | decide⟩, by omega, ⟨w7708, hg7709, by first | omega | decide⟩, ⟨w7711, hg7712, by first | omega | decide⟩⟩) hI hS
                · skip
                  try simp only [rg, not_and, Int.not_le] at hp
                  have hp7722 := hp
                  obtain ⟨pn7723, Ln7724, hE, k7725, hfl7726⟩ := hp7722
                  have hp7722 : True := trivial
                  obtain ⟨hT4, hn12, ⟨a7727, hf7728, hq7729, hA7730⟩, ⟨a7731, hf7732, hq7733, hA7734⟩, ⟨a7735, hf7736, hq7737, hA7738⟩, ⟨w7739, hg7740, k7741⟩, ⟨w7742, hg7743, k7744⟩, ⟨w7745, hg7746, k7747⟩, hpT, ⟨w7748, hg7749, k7750⟩, ⟨w7751, hg7752, k7753⟩⟩ := hE
                  have k7754 := iv_lo w7745
                  have k7755 := iv_hi w7745
                  have k7756 := TK.at hTK hpT
                  refine lv_istore_n (lv' := [(3, .int 0), (6, .int 1), (5, .int v7338), (4, .int v7339), (2, .int v7341), (0, .ref h0), (1, .int x1)]) hx hb dX3_sum_86 rfl hl (by decide) rfl (fun ls hl => ?_)
                  refine lv_iload hx hb dX3_sum_87 (lv_at hl 1 rfl) ?_
                  refine lv_if_eq (tgt := 98) hx hb dX3_sum_89 (by decide) (fun c => absurd c (by decide)) (fun _ => ?_)
                  refine lv_iload hx hb dX3_sum_92 (lv_at hl 3 rfl) ?_
                  refine lv_istore_n (lv' := [(2, .int v7339), (3, .int 0), (6, .int 1), (5, .int v7338), (4, .int v7339), (0, .ref h0), (1, .int x1)]) hx hb dX3_sum_94 rfl hl (by decide) rfl (fun ls hl => ?_)
                  refine lv_goto (tgt := 106) hx hb dX3_sum_95 (by decide) ?_
                  refine lv_aload_n hx hb dX3_sum_106 rfl (lv_at hl 5 rfl) ?_
                  refine nr_i (As := []) (rest := []) (n := 0) (d := 0) ⟨hx, hb, hml, hown, hts⟩ (c_X3_arithmetic l E D G H h0 hG0  ft fp fn TT pn7723 nc Ln7724 ⟨by omega, by omega, ⟨a7727, hf7728, hq7729, hA7730⟩, ⟨a7731, hf7732, hq7733, hA7734⟩, ⟨a7735, hf7736, hq7737, hA7738⟩, ⟨w7739, hg7740, by first | omega | decide⟩, ⟨w7742, hg7743, by first | omega | decide⟩, ⟨w7745, hg7746, by first | omega | decide⟩, by omega, ⟨w7748, hg7749, by first | omega | decide⟩, ⟨w7751, hg7752, by first | omega | decide⟩⟩) wd_727 wd_729 wp_18 wd_5 wd_730 (by decide +kernel) ⟨by rw [hR]; show 0 + 1 ≤ 3 + 2 * k; omega, by rw [hR]; show 8 + (1 + 11) + 40 * (0) ≤ 40 * (3 + 2 * k); omega⟩ hI hN hK hS hG0 rfl hl.1 rfl (Nat.le_of_ble_eq_true rfl) dX3_sum_107 ⟨Nat.zero_le _, Nat.zero_le _⟩ (fun r7757 locs hp hS => ?_)
                  have hp7758 := hp
                  have hop7759 := hp
                  refine lv_istore (lv' := [(4, .int r7757), (2, .int v7339), (3, .int 0), (6, .int 1), (5, .int v7338), (0, .ref h0), (1, .int x1)]) hx hb dX3_sum_110 hl (by decide) rfl (fun ls hl => ?_)
                  obtain ⟨v7760, e7761⟩ : ∃ y : Int32, y = v7338 + (1) := ⟨_, rfl⟩
                  have tv7760 : v7760.toInt = v7338.toInt + (1) := iv_add rfl (by decide) e7761 (by omega) (by omega)
                  refine lv_iinc (v := v7760) (lv' := [(5, .int v7760), (4, .int r7757), (2, .int v7339), (3, .int 0), (6, .int 1), (0, .ref h0), (1, .int x1)]) hx hb dX3_sum_112 hl (k := 4) rfl (by rw [e7761]; rfl) (by decide) rfl (fun ls hl => ?_)
                  refine lv_goto (tgt := 17) hx hb dX3_sum_115 (by decide) ?_
                  exact ih_17 _ (by omega) H locs ls v7760 r7757 0 v7339 pn7723 Ln7724 rfl (lv_sub hl [0, 1, 3, 2, 5, 6] rfl) ⟨by omega, by omega⟩ ⟨by omega, by omega⟩ ⟨by decide, by decide⟩ ⟨by omega, by omega⟩ ⟨by omega, by omega⟩ (by omega) (by first | omega | (show (0 : Int32).toInt ≤ _; rw [show (0 : Int32).toInt = 0 from by decide]; omega)) (Or.inr ⟨by first | decide | omega, hfl7726⟩) (⟨by omega, by omega, ⟨a7727, hf7728, hq7729, hA7730⟩, ⟨a7731, hf7732, hq7733, hA7734⟩, ⟨a7735, hf7736, hq7737, hA7738⟩, ⟨w7739, hg7740, by first | omega | decide⟩, ⟨w7742, hg7743, by first | omega | decide⟩, ⟨w7745, hg7746, by first | omega | decide⟩, by omega, ⟨w7748, hg7749, by first | omega | decide⟩, ⟨w7751, hg7752, by first | omega | decide⟩⟩) hI hS
            · skip
              have k7762 := iv_ne (X := v7339.toInt) (Y := (2)) rfl (by decide) c7488
              refine lv_iload hx hb dX3_sum_41 (lv_at hl 1 rfl) ?_
              refine lv_iconst (v := 3) hx hb dX3_sum_43 (by decide) ?_
              refine lv_icmp_ne (tgt := 51) hx hb dX3_sum_44 (by decide) (fun c7763 => ?_) (fun c7763 => ?_)
              · skip
                have k7764 := iv_ne (X := v7339.toInt) (Y := (3)) rfl (by decide) c7763
                refine lv_iconst (v := 0) hx hb dX3_sum_51 (by decide) ?_
                refine lv_istore (lv' := [(6, .int 0), (5, .int v7338), (4, .int v7339), (3, .int v7340), (2, .int v7341), (0, .ref h0), (1, .int x1)]) hx hb dX3_sum_52 hl (by decide) rfl (fun ls hl => ?_)
                refine lv_iload hx hb dX3_sum_54 (lv_at hl 0 rfl) ?_
                refine lv_if_eq (tgt := 71) hx hb dX3_sum_56 (by decide) (fun _ => ?_) (fun c => absurd c (by decide))
                refine lv_aload_n hx hb dX3_sum_71 rfl (lv_at hl 5 rfl) ?_
                refine lv_aload_n hx hb dX3_sum_72 rfl (lv_at hl 5 rfl) ?_
                refine gmIC hx hb hts inT3 hown hK hI List.not_mem_nil hG0 10 (by decide) (hts _ (tb_c wd_139)) rfl rfl dX3_sum_73 (fun w7765 hg7766 k7767 k7768 => ?_)
                obtain rfl := gfC.uniq (by decide) hg7369 hg7766
                refine lv_iconst (v := 1) hx hb dX3_sum_76 (by decide) ?_
                refine lv_iadd hx hb dX3_sum_77 ?_
                refine lv_topi (fun v7769 e7770 => ?_)
                have tv7769 : v7769.toInt = w7368.toInt + (1) := iv_add rfl (by decide) e7770 (by omega) (by omega)
                obtain ⟨⟨hpi, hlp⟩, hoc⟩ := SI_in hSI (by omega) (by omega)
                have hlt9 : p1 < TT := by unfold oc at hoc; omega
                have hpd7771 : pd_R ZZ YY TT (1, fl, nk, L1) (p1 + 1) = XX := (pd_A_op hlt9 (by unfold oc at hoc; unfold pd_op; omega)).symm.trans hpi
                refine nx_v (As := [.int v7769]) (rest := []) (n := 1) (d := 0) ⟨hx, hb, hml, hown, hts⟩ (c_X3_moveTo l E D G h0 hG0 v7769 ft fp fn TT (p1 + 1) nc L1 (by first | omega | decide) (by omega)) wd_707 wd_709 wp_13 wd_5 wd_710 (by decide +kernel) ⟨by rw [hR]; show 0 + 1 ≤ 3 + 2 * k; omega, by rw [hR]; show 8 + (2 + 11) + 40 * (0) ≤ 40 * (3 + 2 * k); omega⟩ hI hN hK hS hG0 (⟨by omega, by omega, ⟨a7347, hf7348, hq7349, hA7350⟩, ⟨a7351, hf7352, hq7353, hA7354⟩, ⟨a7355, hf7356, hq7357, hA7358⟩, ⟨w7359, hg7360, by first | omega | decide⟩, ⟨w7362, hg7363, by first | omega | decide⟩, ⟨w7365, hg7366, by first | omega | decide⟩⟩) rfl hl.1 rfl (Nat.le_of_ble_eq_true rfl) dX3_sum_78 ⟨Nat.zero_le _, Nat.zero_le _⟩ (fun H locs hI hp hS => ?_)
                obtain ⟨hT4, hn12, ⟨a7773, hf7774, hq7775, hA7776⟩, ⟨a7777, hf7778, hq7779, hA7780⟩, ⟨a7781, hf7782, hq7783, hA7784⟩, ⟨w7785, hg7786, k7787⟩, ⟨w7788, hg7789, k7790⟩, ⟨w7791, hg7792, k7793⟩, hpT, ⟨w7794, hg7795, k7796⟩, ⟨w7797, hg7798, k7799⟩⟩ := hp
                have k7800 := iv_lo w7791
                have k7801 := iv_hi w7791
                have k7802 := TK.at hTK hpT
                refine lv_aload_n hx hb dX3_sum_81 rfl (lv_at hl 5 rfl) ?_
                refine lv_iload_n hx hb dX3_sum_82 rfl (lv_at hl 6 rfl) ?_
                refine nx_i (As := [.int x1]) (rest := []) (n := 1) (d := (2 + 2 * k)) ⟨hx, hb, hml, hown, hts⟩ (hpart h0 hG0 x1 ft fp fn TT (p1 + 1) nc L1 ZZ YY nk XX hTK dd (by first | decide | omega) (by omega) (by omega) fl hdp hpd7771) wd_719 wd_721 wp_16 wd_5 wd_722 (by decide +kernel) ⟨by rw [hR]; show (2 + 2 * k) + 1 ≤ 3 + 2 * k; omega, by rw [hR]; show 8 + (4 + 11) + 40 * ((2 + 2 * k)) ≤ 40 * (3 + 2 * k); omega⟩ hI hN hK hS hG0 (⟨by omega, by omega, ⟨a7773, hf7774, hq7775, hA7776⟩, ⟨a7777, hf7778, hq7779, hA7780⟩, ⟨a7781, hf7782, hq7783, hA7784⟩, ⟨w7785, hg7786, by first | omega | decide⟩, ⟨w7788, hg7789, by first | omega | decide⟩, ⟨w7791, hg7792, by first | omega | decide⟩, by omega, ⟨w7794, hg7795, by first | omega | decide⟩, ⟨w7797, hg7798, by first | omega | decide⟩⟩) rfl hl.1 rfl (Nat.le_of_ble_eq_true rfl) dX3_sum_83 ⟨Nat.zero_le _, Nat.zero_le _⟩ (fun r7803 H locs hI hp hS => ?_)
                rcases hp with ⟨rfl, hp⟩ | ⟨rfl, hp⟩
                · skip
                  try simp only [rg, not_and, Int.not_le] at hp
                  have hp7804 := hp
                  obtain ⟨pn7805, Ln7806, hE, k7807, hpd7808⟩ := hp7804
                  have hp7804 : True := trivial
                  obtain ⟨hT4, hn12, ⟨a7809, hf7810, hq7811, hA7812⟩, ⟨a7813, hf7814, hq7815, hA7816⟩, ⟨a7817, hf7818, hq7819, hA7820⟩, ⟨w7821, hg7822, k7823⟩, ⟨w7824, hg7825, k7826⟩, ⟨w7827, hg7828, k7829⟩, hpT, ⟨w7830, hg7831, k7832⟩, ⟨w7833, hg7834, k7835⟩⟩ := hE
                  have k7836 := iv_lo w7827
                  have k7837 := iv_hi w7827
                  have k7838 := TK.at hTK hpT
                  refine lv_istore_n (lv' := [(3, .int 1), (6, .int 0), (5, .int v7338), (4, .int v7339), (2, .int v7341), (0, .ref h0), (1, .int x1)]) hx hb dX3_sum_86 rfl hl (by decide) rfl (fun ls hl => ?_)
                  refine lv_iload hx hb dX3_sum_87 (lv_at hl 1 rfl) ?_
                  refine lv_if_eq (tgt := 98) hx hb dX3_sum_89 (by decide) (fun _ => ?_) (fun c => absurd c (by decide))
                  refine lv_aload_n hx hb dX3_sum_98 rfl (lv_at hl 5 rfl) ?_
                  refine lv_iload hx hb dX3_sum_99 (lv_at hl 3 rfl) ?_
                  refine lv_iconst (v := 0) hx hb dX3_sum_101 (by decide) ?_
                  refine nx_i (As := [.int v7339, .int 0]) (rest := []) (n := 2) (d := 0) ⟨hx, hb, hml, hown, hts⟩ (c_X3_emit l E D G h0 hG0 v7339 0 ft fp fn TT pn7805 nc Ln7806) wd_723 wd_725 wp_17 wd_5 wd_726 (by decide +kernel) ⟨by rw [hR]; show 0 + 1 ≤ 3 + 2 * k; omega, by rw [hR]; show 8 + (3 + 11) + 40 * (0) ≤ 40 * (3 + 2 * k); omega⟩ hI hN hK hS hG0 (⟨by omega, by omega, ⟨a7809, hf7810, hq7811, hA7812⟩, ⟨a7813, hf7814, hq7815, hA7816⟩, ⟨a7817, hf7818, hq7819, hA7820⟩, ⟨w7821, hg7822, by first | omega | decide⟩, ⟨w7824, hg7825, by first | omega | decide⟩, ⟨w7827, hg7828, by first | omega | decide⟩, by omega, ⟨w7830, hg7831, by first | omega | decide⟩, ⟨w7833, hg7834, by first | omega | decide⟩⟩) rfl hl.1 rfl (Nat.le_of_ble_eq_true rfl) dX3_sum_102 ⟨Nat.zero_le _, Nat.zero_le _⟩ (fun r7839 H locs hI hp hS => ?_)
                  obtain ⟨hT4, hn12, ⟨a7840, hf7841, hq7842, hA7843⟩, ⟨a7844, hf7845, hq7846, hA7847⟩, ⟨a7848, hf7849, hq7850, hA7851⟩, ⟨w7852, hg7853, k7854⟩, ⟨w7855, hg7856, k7857⟩, ⟨w7858, hg7859, k7860⟩, hpT, ⟨w7861, hg7862, k7863⟩, ⟨w7864, hg7865, k7866⟩⟩ := hp
                  have k7867 := iv_lo w7858
                  have k7868 := iv_hi w7858
                  have k7869 := TK.at hTK hpT
                  refine lv_pop hx hb dX3_sum_105 rfl ?_
                  refine lv_aload_n hx hb dX3_sum_106 rfl (lv_at hl 5 rfl) ?_
                  refine nr_i (As := []) (rest := []) (n := 0) (d := 0) ⟨hx, hb, hml, hown, hts⟩ (c_X3_arithmetic l E D G H h0 hG0  ft fp fn TT pn7805 nc Ln7806 ⟨by omega, by omega, ⟨a7840, hf7841, hq7842, hA7843⟩, ⟨a7844, hf7845, hq7846, hA7847⟩, ⟨a7848, hf7849, hq7850, hA7851⟩, ⟨w7852, hg7853, by first | omega | decide⟩, ⟨w7855, hg7856, by first | omega | decide⟩, ⟨w7858, hg7859, by first | omega | decide⟩, by omega, ⟨w7861, hg7862, by first | omega | decide⟩, ⟨w7864, hg7865, by first | omega | decide⟩⟩) wd_727 wd_729 wp_18 wd_5 wd_730 (by decide +kernel) ⟨by rw [hR]; show 0 + 1 ≤ 3 + 2 * k; omega, by rw [hR]; show 8 + (1 + 11) + 40 * (0) ≤ 40 * (3 + 2 * k); omega⟩ hI hN hK hS hG0 rfl hl.1 rfl (Nat.le_of_ble_eq_true rfl) dX3_sum_107 ⟨Nat.zero_le _, Nat.zero_le _⟩ (fun r7870 locs hp hS => ?_)
                  have hp7871 := hp
                  have hop7872 := hp
                  refine lv_istore (lv' := [(4, .int r7870), (3, .int 1), (6, .int 0), (5, .int v7338), (2, .int v7341), (0, .ref h0), (1, .int x1)]) hx hb dX3_sum_110 hl (by decide) rfl (fun ls hl => ?_)
                  obtain ⟨v7873, e7874⟩ : ∃ y : Int32, y = v7338 + (1) := ⟨_, rfl⟩
                  have tv7873 : v7873.toInt = v7338.toInt + (1) := iv_add rfl (by decide) e7874 (by omega) (by omega)
                  refine lv_iinc (v := v7873) (lv' := [(5, .int v7873), (4, .int r7870), (3, .int 1), (6, .int 0), (2, .int v7341), (0, .ref h0), (1, .int x1)]) hx hb dX3_sum_112 hl (k := 3) rfl (by rw [e7874]; rfl) (by decide) rfl (fun ls hl => ?_)
                  refine lv_goto (tgt := 17) hx hb dX3_sum_115 (by decide) ?_
                  exact ih_17 _ (by omega) H locs ls v7873 r7870 1 v7341 pn7805 Ln7806 rfl (lv_sub hl [0, 1, 2, 4, 5, 6] rfl) ⟨by omega, by omega⟩ ⟨by omega, by omega⟩ ⟨by decide, by decide⟩ ⟨by omega, by omega⟩ ⟨by omega, by omega⟩ (by omega) (by first | omega | (show (0 : Int32).toInt ≤ _; rw [show (0 : Int32).toInt = 0 from by decide]; omega)) (Or.inl ⟨by first | decide | omega, ⟨hpd7808, by omega⟩, SI_op hop7872⟩) (⟨by omega, by omega, ⟨a7840, hf7841, hq7842, hA7843⟩, ⟨a7844, hf7845, hq7846, hA7847⟩, ⟨a7848, hf7849, hq7850, hA7851⟩, ⟨w7852, hg7853, by first | omega | decide⟩, ⟨w7855, hg7856, by first | omega | decide⟩, ⟨w7858, hg7859, by first | omega | decide⟩, by omega, ⟨w7861, hg7862, by first | omega | decide⟩, ⟨w7864, hg7865, by first | omega | decide⟩⟩) hI hS
                · skip
                  try simp only [rg, not_and, Int.not_le] at hp
                  have hp7875 := hp
                  obtain ⟨pn7876, Ln7877, hE, k7878, hfl7879⟩ := hp7875
                  have hp7875 : True := trivial
                  obtain ⟨hT4, hn12, ⟨a7880, hf7881, hq7882, hA7883⟩, ⟨a7884, hf7885, hq7886, hA7887⟩, ⟨a7888, hf7889, hq7890, hA7891⟩, ⟨w7892, hg7893, k7894⟩, ⟨w7895, hg7896, k7897⟩, ⟨w7898, hg7899, k7900⟩, hpT, ⟨w7901, hg7902, k7903⟩, ⟨w7904, hg7905, k7906⟩⟩ := hE
                  have k7907 := iv_lo w7898
                  have k7908 := iv_hi w7898
                  have k7909 := TK.at hTK hpT
                  refine lv_istore_n (lv' := [(3, .int 0), (6, .int 0), (5, .int v7338), (4, .int v7339), (2, .int v7341), (0, .ref h0), (1, .int x1)]) hx hb dX3_sum_86 rfl hl (by decide) rfl (fun ls hl => ?_)
                  refine lv_iload hx hb dX3_sum_87 (lv_at hl 1 rfl) ?_
                  refine lv_if_eq (tgt := 98) hx hb dX3_sum_89 (by decide) (fun _ => ?_) (fun c => absurd c (by decide))
                  refine lv_aload_n hx hb dX3_sum_98 rfl (lv_at hl 5 rfl) ?_
                  refine lv_iload hx hb dX3_sum_99 (lv_at hl 3 rfl) ?_
                  refine lv_iconst (v := 0) hx hb dX3_sum_101 (by decide) ?_
                  refine nx_i (As := [.int v7339, .int 0]) (rest := []) (n := 2) (d := 0) ⟨hx, hb, hml, hown, hts⟩ (c_X3_emit l E D G h0 hG0 v7339 0 ft fp fn TT pn7876 nc Ln7877) wd_723 wd_725 wp_17 wd_5 wd_726 (by decide +kernel) ⟨by rw [hR]; show 0 + 1 ≤ 3 + 2 * k; omega, by rw [hR]; show 8 + (3 + 11) + 40 * (0) ≤ 40 * (3 + 2 * k); omega⟩ hI hN hK hS hG0 (⟨by omega, by omega, ⟨a7880, hf7881, hq7882, hA7883⟩, ⟨a7884, hf7885, hq7886, hA7887⟩, ⟨a7888, hf7889, hq7890, hA7891⟩, ⟨w7892, hg7893, by first | omega | decide⟩, ⟨w7895, hg7896, by first | omega | decide⟩, ⟨w7898, hg7899, by first | omega | decide⟩, by omega, ⟨w7901, hg7902, by first | omega | decide⟩, ⟨w7904, hg7905, by first | omega | decide⟩⟩) rfl hl.1 rfl (Nat.le_of_ble_eq_true rfl) dX3_sum_102 ⟨Nat.zero_le _, Nat.zero_le _⟩ (fun r7910 H locs hI hp hS => ?_)
                  obtain ⟨hT4, hn12, ⟨a7911, hf7912, hq7913, hA7914⟩, ⟨a7915, hf7916, hq7917, hA7918⟩, ⟨a7919, hf7920, hq7921, hA7922⟩, ⟨w7923, hg7924, k7925⟩, ⟨w7926, hg7927, k7928⟩, ⟨w7929, hg7930, k7931⟩, hpT, ⟨w7932, hg7933, k7934⟩, ⟨w7935, hg7936, k7937⟩⟩ := hp
                  have k7938 := iv_lo w7929
                  have k7939 := iv_hi w7929
                  have k7940 := TK.at hTK hpT
                  refine lv_pop hx hb dX3_sum_105 rfl ?_
                  refine lv_aload_n hx hb dX3_sum_106 rfl (lv_at hl 5 rfl) ?_
                  refine nr_i (As := []) (rest := []) (n := 0) (d := 0) ⟨hx, hb, hml, hown, hts⟩ (c_X3_arithmetic l E D G H h0 hG0  ft fp fn TT pn7876 nc Ln7877 ⟨by omega, by omega, ⟨a7911, hf7912, hq7913, hA7914⟩, ⟨a7915, hf7916, hq7917, hA7918⟩, ⟨a7919, hf7920, hq7921, hA7922⟩, ⟨w7923, hg7924, by first | omega | decide⟩, ⟨w7926, hg7927, by first | omega | decide⟩, ⟨w7929, hg7930, by first | omega | decide⟩, by omega, ⟨w7932, hg7933, by first | omega | decide⟩, ⟨w7935, hg7936, by first | omega | decide⟩⟩) wd_727 wd_729 wp_18 wd_5 wd_730 (by decide +kernel) ⟨by rw [hR]; show 0 + 1 ≤ 3 + 2 * k; omega, by rw [hR]; show 8 + (1 + 11) + 40 * (0) ≤ 40 * (3 + 2 * k); omega⟩ hI hN hK hS hG0 rfl hl.1 rfl (Nat.le_of_ble_eq_true rfl) dX3_sum_107 ⟨Nat.zero_le _, Nat.zero_le _⟩ (fun r7941 locs hp hS => ?_)
                  have hp7942 := hp
                  have hop7943 := hp
                  refine lv_istore (lv' := [(4, .int r7941), (3, .int 0), (6, .int 0), (5, .int v7338), (2, .int v7341), (0, .ref h0), (1, .int x1)]) hx hb dX3_sum_110 hl (by decide) rfl (fun ls hl => ?_)
                  obtain ⟨v7944, e7945⟩ : ∃ y : Int32, y = v7338 + (1) := ⟨_, rfl⟩
                  have tv7944 : v7944.toInt = v7338.toInt + (1) := iv_add rfl (by decide) e7945 (by omega) (by omega)
                  refine lv_iinc (v := v7944) (lv' := [(5, .int v7944), (4, .int r7941), (3, .int 0), (6, .int 0), (2, .int v7341), (0, .ref h0), (1, .int x1)]) hx hb dX3_sum_112 hl (k := 3) rfl (by rw [e7945]; rfl) (by decide) rfl (fun ls hl => ?_)
                  refine lv_goto (tgt := 17) hx hb dX3_sum_115 (by decide) ?_
                  exact ih_17 _ (by omega) H locs ls v7944 r7941 0 v7341 pn7876 Ln7877 rfl (lv_sub hl [0, 1, 2, 4, 5, 6] rfl) ⟨by omega, by omega⟩ ⟨by omega, by omega⟩ ⟨by decide, by decide⟩ ⟨by omega, by omega⟩ ⟨by omega, by omega⟩ (by omega) (by first | omega | (show (0 : Int32).toInt ≤ _; rw [show (0 : Int32).toInt = 0 from by decide]; omega)) (Or.inr ⟨by first | decide | omega, hfl7879⟩) (⟨by omega, by omega, ⟨a7911, hf7912, hq7913, hA7914⟩, ⟨a7915, hf7916, hq7917, hA7918⟩, ⟨a7919, hf7920, hq7921, hA7922⟩, ⟨w7923, hg7924, by first | omega | decide⟩, ⟨w7926, hg7927, by first | omega | decide⟩, ⟨w7929, hg7930, by first | omega | decide⟩, by omega, ⟨w7932, hg7933, by first | omega | decide⟩, ⟨w7935, hg7936, by first | omega | decide⟩⟩) hI hS
              · skip
                have k7946 := iv_eq (X := v7339.toInt) (Y := (3)) rfl (by decide) c7763
                refine lv_iconst (v := 1) hx hb dX3_sum_47 (by decide) ?_
                refine lv_goto (tgt := 52) hx hb dX3_sum_48 (by decide) ?_
                refine lv_istore (lv' := [(6, .int 1), (5, .int v7338), (4, .int v7339), (3, .int v7340), (2, .int v7341), (0, .ref h0), (1, .int x1)]) hx hb dX3_sum_52 hl (by decide) rfl (fun ls hl => ?_)
                refine lv_iload hx hb dX3_sum_54 (lv_at hl 0 rfl) ?_
                refine lv_if_eq (tgt := 71) hx hb dX3_sum_56 (by decide) (fun c => absurd c (by decide)) (fun _ => ?_)
                refine lv_iload_n hx hb dX3_sum_59 rfl (lv_at hl 4 rfl) ?_
                refine lv_iconst (v := (-1)) hx hb dX3_sum_60 (by decide) ?_
                refine lv_icmp_eq (tgt := 71) hx hb dX3_sum_61 (by decide) (fun c7947 => ?_) (fun c7947 => ?_)
                · skip
                  have k7948 := iv_eq (X := v7341.toInt) (Y := (-1)) rfl (by decide) c7947
                  refine lv_aload_n hx hb dX3_sum_71 rfl (lv_at hl 5 rfl) ?_
                  refine lv_aload_n hx hb dX3_sum_72 rfl (lv_at hl 5 rfl) ?_
                  refine gmIC hx hb hts inT3 hown hK hI List.not_mem_nil hG0 10 (by decide) (hts _ (tb_c wd_139)) rfl rfl dX3_sum_73 (fun w7949 hg7950 k7951 k7952 => ?_)
                  obtain rfl := gfC.uniq (by decide) hg7369 hg7950
                  refine lv_iconst (v := 1) hx hb dX3_sum_76 (by decide) ?_
                  refine lv_iadd hx hb dX3_sum_77 ?_
                  refine lv_topi (fun v7953 e7954 => ?_)
                  have tv7953 : v7953.toInt = w7368.toInt + (1) := iv_add rfl (by decide) e7954 (by omega) (by omega)
                  obtain ⟨⟨hpi, hlp⟩, hoc⟩ := SI_in hSI (by omega) (by omega)
                  have hlt9 : p1 < TT := by unfold oc at hoc; omega
                  have hpd7955 : pd_R ZZ YY TT (1, fl, nk, L1) (p1 + 1) = XX := (pd_A_op hlt9 (by unfold oc at hoc; unfold pd_op; omega)).symm.trans hpi
                  refine nx_v (As := [.int v7953]) (rest := []) (n := 1) (d := 0) ⟨hx, hb, hml, hown, hts⟩ (c_X3_moveTo l E D G h0 hG0 v7953 ft fp fn TT (p1 + 1) nc L1 (by first | omega | decide) (by omega)) wd_707 wd_709 wp_13 wd_5 wd_710 (by decide +kernel) ⟨by rw [hR]; show 0 + 1 ≤ 3 + 2 * k; omega, by rw [hR]; show 8 + (2 + 11) + 40 * (0) ≤ 40 * (3 + 2 * k); omega⟩ hI hN hK hS hG0 (⟨by omega, by omega, ⟨a7347, hf7348, hq7349, hA7350⟩, ⟨a7351, hf7352, hq7353, hA7354⟩, ⟨a7355, hf7356, hq7357, hA7358⟩, ⟨w7359, hg7360, by first | omega | decide⟩, ⟨w7362, hg7363, by first | omega | decide⟩, ⟨w7365, hg7366, by first | omega | decide⟩⟩) rfl hl.1 rfl (Nat.le_of_ble_eq_true rfl) dX3_sum_78 ⟨Nat.zero_le _, Nat.zero_le _⟩ (fun H locs hI hp hS => ?_)
                  obtain ⟨hT4, hn12, ⟨a7957, hf7958, hq7959, hA7960⟩, ⟨a7961, hf7962, hq7963, hA7964⟩, ⟨a7965, hf7966, hq7967, hA7968⟩, ⟨w7969, hg7970, k7971⟩, ⟨w7972, hg7973, k7974⟩, ⟨w7975, hg7976, k7977⟩, hpT, ⟨w7978, hg7979, k7980⟩, ⟨w7981, hg7982, k7983⟩⟩ := hp
                  have k7984 := iv_lo w7975
                  have k7985 := iv_hi w7975
                  have k7986 := TK.at hTK hpT
                  refine lv_aload_n hx hb dX3_sum_81 rfl (lv_at hl 5 rfl) ?_
                  refine lv_iload_n hx hb dX3_sum_82 rfl (lv_at hl 6 rfl) ?_
                  refine nx_i (As := [.int x1]) (rest := []) (n := 1) (d := (2 + 2 * k)) ⟨hx, hb, hml, hown, hts⟩ (hpart h0 hG0 x1 ft fp fn TT (p1 + 1) nc L1 ZZ YY nk XX hTK dd (by first | decide | omega) (by omega) (by omega) fl hdp hpd7955) wd_719 wd_721 wp_16 wd_5 wd_722 (by decide +kernel) ⟨by rw [hR]; show (2 + 2 * k) + 1 ≤ 3 + 2 * k; omega, by rw [hR]; show 8 + (4 + 11) + 40 * ((2 + 2 * k)) ≤ 40 * (3 + 2 * k); omega⟩ hI hN hK hS hG0 (⟨by omega, by omega, ⟨a7957, hf7958, hq7959, hA7960⟩, ⟨a7961, hf7962, hq7963, hA7964⟩, ⟨a7965, hf7966, hq7967, hA7968⟩, ⟨w7969, hg7970, by first | omega | decide⟩, ⟨w7972, hg7973, by first | omega | decide⟩, ⟨w7975, hg7976, by first | omega | decide⟩, by omega, ⟨w7978, hg7979, by first | omega | decide⟩, ⟨w7981, hg7982, by first | omega | decide⟩⟩) rfl hl.1 rfl (Nat.le_of_ble_eq_true rfl) dX3_sum_83 ⟨Nat.zero_le _, Nat.zero_le _⟩ (fun r7987 H locs hI hp hS => ?_)
                  rcases hp with ⟨rfl, hp⟩ | ⟨rfl, hp⟩
                  · skip
                    try simp only [rg, not_and, Int.not_le] at hp
                    have hp7988 := hp
                    obtain ⟨pn7989, Ln7990, hE, k7991, hpd7992⟩ := hp7988
                    have hp7988 : True := trivial
                    obtain ⟨hT4, hn12, ⟨a7993, hf7994, hq7995, hA7996⟩, ⟨a7997, hf7998, hq7999, hA8000⟩, ⟨a8001, hf8002, hq8003, hA8004⟩, ⟨w8005, hg8006, k8007⟩, ⟨w8008, hg8009, k8010⟩, ⟨w8011, hg8012, k8013⟩, hpT, ⟨w8014, hg8015, k8016⟩, ⟨w8017, hg8018, k8019⟩⟩ := hE
                    have k8020 := iv_lo w8011
                    have k8021 := iv_hi w8011
                    have k8022 := TK.at hTK hpT
                    refine lv_istore_n (lv' := [(3, .int 1), (6, .int 1), (5, .int v7338), (4, .int v7339), (2, .int v7341), (0, .ref h0), (1, .int x1)]) hx hb dX3_sum_86 rfl hl (by decide) rfl (fun ls hl => ?_)
                    refine lv_iload hx hb dX3_sum_87 (lv_at hl 1 rfl) ?_
                    refine lv_if_eq (tgt := 98) hx hb dX3_sum_89 (by decide) (fun c => absurd c (by decide)) (fun _ => ?_)
                    refine lv_iload hx hb dX3_sum_92 (lv_at hl 3 rfl) ?_
                    refine lv_istore_n (lv' := [(2, .int v7339), (3, .int 1), (6, .int 1), (5, .int v7338), (4, .int v7339), (0, .ref h0), (1, .int x1)]) hx hb dX3_sum_94 rfl hl (by decide) rfl (fun ls hl => ?_)
                    refine lv_goto (tgt := 106) hx hb dX3_sum_95 (by decide) ?_
                    refine lv_aload_n hx hb dX3_sum_106 rfl (lv_at hl 5 rfl) ?_
                    refine nr_i (As := []) (rest := []) (n := 0) (d := 0) ⟨hx, hb, hml, hown, hts⟩ (c_X3_arithmetic l E D G H h0 hG0  ft fp fn TT pn7989 nc Ln7990 ⟨by omega, by omega, ⟨a7993, hf7994, hq7995, hA7996⟩, ⟨a7997, hf7998, hq7999, hA8000⟩, ⟨a8001, hf8002, hq8003, hA8004⟩, ⟨w8005, hg8006, by first | omega | decide⟩, ⟨w8008, hg8009, by first | omega | decide⟩, ⟨w8011, hg8012, by first | omega | decide⟩, by omega, ⟨w8014, hg8015, by first | omega | decide⟩, ⟨w8017, hg8018, by first | omega | decide⟩⟩) wd_727 wd_729 wp_18 wd_5 wd_730 (by decide +kernel) ⟨by rw [hR]; show 0 + 1 ≤ 3 + 2 * k; omega, by rw [hR]; show 8 + (1 + 11) + 40 * (0) ≤ 40 * (3 + 2 * k); omega⟩ hI hN hK hS hG0 rfl hl.1 rfl (Nat.le_of_ble_eq_true rfl) dX3_sum_107 ⟨Nat.zero_le _, Nat.zero_le _⟩ (fun r8023 locs hp hS => ?_)
                    have hp8024 := hp
                    have hop8025 := hp
                    refine lv_istore (lv' := [(4, .int r8023), (2, .int v7339), (3, .int 1), (6, .int 1), (5, .int v7338), (0, .ref h0), (1, .int x1)]) hx hb dX3_sum_110 hl (by decide) rfl (fun ls hl => ?_)
                    obtain ⟨v8026, e8027⟩ : ∃ y : Int32, y = v7338 + (1) := ⟨_, rfl⟩
                    have tv8026 : v8026.toInt = v7338.toInt + (1) := iv_add rfl (by decide) e8027 (by omega) (by omega)
                    refine lv_iinc (v := v8026) (lv' := [(5, .int v8026), (4, .int r8023), (2, .int v7339), (3, .int 1), (6, .int 1), (0, .ref h0), (1, .int x1)]) hx hb dX3_sum_112 hl (k := 4) rfl (by rw [e8027]; rfl) (by decide) rfl (fun ls hl => ?_)
                    refine lv_goto (tgt := 17) hx hb dX3_sum_115 (by decide) ?_
                    exact ih_17 _ (by omega) H locs ls v8026 r8023 1 v7339 pn7989 Ln7990 rfl (lv_sub hl [0, 1, 3, 2, 5, 6] rfl) ⟨by omega, by omega⟩ ⟨by omega, by omega⟩ ⟨by decide, by decide⟩ ⟨by omega, by omega⟩ ⟨by omega, by omega⟩ (by omega) (by first | omega | (show (0 : Int32).toInt ≤ _; rw [show (0 : Int32).toInt = 0 from by decide]; omega)) (Or.inl ⟨by first | decide | omega, ⟨hpd7992, by omega⟩, SI_op hop8025⟩) (⟨by omega, by omega, ⟨a7993, hf7994, hq7995, hA7996⟩, ⟨a7997, hf7998, hq7999, hA8000⟩, ⟨a8001, hf8002, hq8003, hA8004⟩, ⟨w8005, hg8006, by first | omega | decide⟩, ⟨w8008, hg8009, by first | omega | decide⟩, ⟨w8011, hg8012, by first | omega | decide⟩, by omega, ⟨w8014, hg8015, by first | omega | decide⟩, ⟨w8017, hg8018, by first | omega | decide⟩⟩) hI hS
                  · skip
                    try simp only [rg, not_and, Int.not_le] at hp
                    have hp8028 := hp
                    obtain ⟨pn8029, Ln8030, hE, k8031, hfl8032⟩ := hp8028
                    have hp8028 : True := trivial
                    obtain ⟨hT4, hn12, ⟨a8033, hf8034, hq8035, hA8036⟩, ⟨a8037, hf8038, hq8039, hA8040⟩, ⟨a8041, hf8042, hq8043, hA8044⟩, ⟨w8045, hg8046, k8047⟩, ⟨w8048, hg8049, k8050⟩, ⟨w8051, hg8052, k8053⟩, hpT, ⟨w8054, hg8055, k8056⟩, ⟨w8057, hg8058, k8059⟩⟩ := hE
                    have k8060 := iv_lo w8051
                    have k8061 := iv_hi w8051
                    have k8062 := TK.at hTK hpT
                    refine lv_istore_n (lv' := [(3, .int 0), (6, .int 1), (5, .int v7338), (4, .int v7339), (2, .int v7341), (0, .ref h0), (1, .int x1)]) hx hb dX3_sum_86 rfl hl (by decide) rfl (fun ls hl => ?_)
                    refine lv_iload hx hb dX3_sum_87 (lv_at hl 1 rfl) ?_
                    refine lv_if_eq (tgt := 98) hx hb dX3_sum_89 (by decide) (fun c => absurd c (by decide)) (fun _ => ?_)
                    refine lv_iload hx hb dX3_sum_92 (lv_at hl 3 rfl) ?_
                    refine lv_istore_n (lv' := [(2, .int v7339), (3, .int 0), (6, .int 1), (5, .int v7338), (4, .int v7339), (0, .ref h0), (1, .int x1)]) hx hb dX3_sum_94 rfl hl (by decide) rfl (fun ls hl => ?_)
                    refine lv_goto (tgt := 106) hx hb dX3_sum_95 (by decide) ?_
                    refine lv_aload_n hx hb dX3_sum_106 rfl (lv_at hl 5 rfl) ?_
                    refine nr_i (As := []) (rest := []) (n := 0) (d := 0) ⟨hx, hb, hml, hown, hts⟩ (c_X3_arithmetic l E D G H h0 hG0  ft fp fn TT pn8029 nc Ln8030 ⟨by omega, by omega, ⟨a8033, hf8034, hq8035, hA8036⟩, ⟨a8037, hf8038, hq8039, hA8040⟩, ⟨a8041, hf8042, hq8043, hA8044⟩, ⟨w8045, hg8046, by first | omega | decide⟩, ⟨w8048, hg8049, by first | omega | decide⟩, ⟨w8051, hg8052, by first | omega | decide⟩, by omega, ⟨w8054, hg8055, by first | omega | decide⟩, ⟨w8057, hg8058, by first | omega | decide⟩⟩) wd_727 wd_729 wp_18 wd_5 wd_730 (by decide +kernel) ⟨by rw [hR]; show 0 + 1 ≤ 3 + 2 * k; omega, by rw [hR]; show 8 + (1 + 11) + 40 * (0) ≤ 40 * (3 + 2 * k); omega⟩ hI hN hK hS hG0 rfl hl.1 rfl (Nat.le_of_ble_eq_true rfl) dX3_sum_107 ⟨Nat.zero_le _, Nat.zero_le _⟩ (fun r8063 locs hp hS => ?_)
                    have hp8064 := hp
                    have hop8065 := hp
                    refine lv_istore (lv' := [(4, .int r8063), (2, .int v7339), (3, .int 0), (6, .int 1), (5, .int v7338), (0, .ref h0), (1, .int x1)]) hx hb dX3_sum_110 hl (by decide) rfl (fun ls hl => ?_)
                    obtain ⟨v8066, e8067⟩ : ∃ y : Int32, y = v7338 + (1) := ⟨_, rfl⟩
                    have tv8066 : v8066.toInt = v7338.toInt + (1) := iv_add rfl (by decide) e8067 (by omega) (by omega)
                    refine lv_iinc (v := v8066) (lv' := [(5, .int v8066), (4, .int r8063), (2, .int v7339), (3, .int 0), (6, .int 1), (0, .ref h0), (1, .int x1)]) hx hb dX3_sum_112 hl (k := 4) rfl (by rw [e8067]; rfl) (by decide) rfl (fun ls hl => ?_)
                    refine lv_goto (tgt := 17) hx hb dX3_sum_115 (by decide) ?_
                    exact ih_17 _ (by omega) H locs ls v8066 r8063 0 v7339 pn8029 Ln8030 rfl (lv_sub hl [0, 1, 3, 2, 5, 6] rfl) ⟨by omega, by omega⟩ ⟨by omega, by omega⟩ ⟨by decide, by decide⟩ ⟨by omega, by omega⟩ ⟨by omega, by omega⟩ (by omega) (by first | omega | (show (0 : Int32).toInt ≤ _; rw [show (0 : Int32).toInt = 0 from by decide]; omega)) (Or.inr ⟨by first | decide | omega, hfl8032⟩) (⟨by omega, by omega, ⟨a8033, hf8034, hq8035, hA8036⟩, ⟨a8037, hf8038, hq8039, hA8040⟩, ⟨a8041, hf8042, hq8043, hA8044⟩, ⟨w8045, hg8046, by first | omega | decide⟩, ⟨w8048, hg8049, by first | omega | decide⟩, ⟨w8051, hg8052, by first | omega | decide⟩, by omega, ⟨w8054, hg8055, by first | omega | decide⟩, ⟨w8057, hg8058, by first | omega | decide⟩⟩) hI hS
                · skip
                  have k8068 := iv_ne (X := v7341.toInt) (Y := (-1)) rfl (by decide) c7947
                  refine lv_aload_n hx hb dX3_sum_64 rfl (lv_at hl 5 rfl) ?_
                  refine lv_iload_n hx hb dX3_sum_65 rfl (lv_at hl 4 rfl) ?_
                  refine lv_iconst (v := 0) hx hb dX3_sum_66 (by decide) ?_
                  refine nx_i (As := [.int v7341, .int 0]) (rest := []) (n := 2) (d := 0) ⟨hx, hb, hml, hown, hts⟩ (c_X3_emit l E D G h0 hG0 v7341 0 ft fp fn TT p1 nc L1) wd_723 wd_725 wp_17 wd_5 wd_726 (by decide +kernel) ⟨by rw [hR]; show 0 + 1 ≤ 3 + 2 * k; omega, by rw [hR]; show 8 + (3 + 11) + 40 * (0) ≤ 40 * (3 + 2 * k); omega⟩ hI hN hK hS hG0 (⟨by omega, by omega, ⟨a7347, hf7348, hq7349, hA7350⟩, ⟨a7351, hf7352, hq7353, hA7354⟩, ⟨a7355, hf7356, hq7357, hA7358⟩, ⟨w7359, hg7360, by first | omega | decide⟩, ⟨w7362, hg7363, by first | omega | decide⟩, ⟨w7365, hg7366, by first | omega | decide⟩, by omega, ⟨w7368, hg7369, by first | omega | decide⟩, ⟨w7371, hg7372, by first | omega | decide⟩⟩) rfl hl.1 rfl (Nat.le_of_ble_eq_true rfl) dX3_sum_67 ⟨Nat.zero_le _, Nat.zero_le _⟩ (fun r8069 H locs hI hp hS => ?_)
                  obtain ⟨hT4, hn12, ⟨a8070, hf8071, hq8072, hA8073⟩, ⟨a8074, hf8075, hq8076, hA8077⟩, ⟨a8078, hf8079, hq8080, hA8081⟩, ⟨w8082, hg8083, k8084⟩, ⟨w8085, hg8086, k8087⟩, ⟨w8088, hg8089, k8090⟩, hpT, ⟨w8091, hg8092, k8093⟩, ⟨w8094, hg8095, k8096⟩⟩ := hp
                  have k8097 := iv_lo w8088
                  have k8098 := iv_hi w8088
                  have k8099 := TK.at hTK hpT
                  refine lv_pop hx hb dX3_sum_70 rfl ?_
                  refine lv_aload_n hx hb dX3_sum_71 rfl (lv_at hl 5 rfl) ?_
                  refine lv_aload_n hx hb dX3_sum_72 rfl (lv_at hl 5 rfl) ?_
                  refine gmIC hx hb hts inT3 hown hK hI List.not_mem_nil hG0 10 (by decide) (hts _ (tb_c wd_139)) rfl rfl dX3_sum_73 (fun w8100 hg8101 k8102 k8103 => ?_)
                  obtain rfl := gfC.uniq (by decide) hg8092 hg8101
                  refine lv_iconst (v := 1) hx hb dX3_sum_76 (by decide) ?_
                  refine lv_iadd hx hb dX3_sum_77 ?_
                  refine lv_topi (fun v8104 e8105 => ?_)
                  have tv8104 : v8104.toInt = w8091.toInt + (1) := iv_add rfl (by decide) e8105 (by omega) (by omega)
                  obtain ⟨⟨hpi, hlp⟩, hoc⟩ := SI_in hSI (by omega) (by omega)
                  have hlt9 : p1 < TT := by unfold oc at hoc; omega
                  have hpd8106 : pd_R ZZ YY TT (1, fl, nk, L1) (p1 + 1) = XX := (pd_A_op hlt9 (by unfold oc at hoc; unfold pd_op; omega)).symm.trans hpi
                  refine nx_v (As := [.int v8104]) (rest := []) (n := 1) (d := 0) ⟨hx, hb, hml, hown, hts⟩ (c_X3_moveTo l E D G h0 hG0 v8104 ft fp fn TT (p1 + 1) nc L1 (by first | omega | decide) (by omega)) wd_707 wd_709 wp_13 wd_5 wd_710 (by decide +kernel) ⟨by rw [hR]; show 0 + 1 ≤ 3 + 2 * k; omega, by rw [hR]; show 8 + (2 + 11) + 40 * (0) ≤ 40 * (3 + 2 * k); omega⟩ hI hN hK hS hG0 (⟨by omega, by omega, ⟨a8070, hf8071, hq8072, hA8073⟩, ⟨a8074, hf8075, hq8076, hA8077⟩, ⟨a8078, hf8079, hq8080, hA8081⟩, ⟨w8082, hg8083, by first | omega | decide⟩, ⟨w8085, hg8086, by first | omega | decide⟩, ⟨w8088, hg8089, by first | omega | decide⟩⟩) rfl hl.1 rfl (Nat.le_of_ble_eq_true rfl) dX3_sum_78 ⟨Nat.zero_le _, Nat.zero_le _⟩ (fun H locs hI hp hS => ?_)
                  obtain ⟨hT4, hn12, ⟨a8108, hf8109, hq8110, hA8111⟩, ⟨a8112, hf8113, hq8114, hA8115⟩, ⟨a8116, hf8117, hq8118, hA8119⟩, ⟨w8120, hg8121, k8122⟩, ⟨w8123, hg8124, k8125⟩, ⟨w8126, hg8127, k8128⟩, hpT, ⟨w8129, hg8130, k8131⟩, ⟨w8132, hg8133, k8134⟩⟩ := hp
                  have k8135 := iv_lo w8126
                  have k8136 := iv_hi w8126
                  have k8137 := TK.at hTK hpT
                  refine lv_aload_n hx hb dX3_sum_81 rfl (lv_at hl 5 rfl) ?_
                  refine lv_iload_n hx hb dX3_sum_82 rfl (lv_at hl 6 rfl) ?_
                  refine nx_i (As := [.int x1]) (rest := []) (n := 1) (d := (2 + 2 * k)) ⟨hx, hb, hml, hown, hts⟩ (hpart h0 hG0 x1 ft fp fn TT (p1 + 1) nc L1 ZZ YY nk XX hTK dd (by first | decide | omega) (by omega) (by omega) fl hdp hpd8106) wd_719 wd_721 wp_16 wd_5 wd_722 (by decide +kernel) ⟨by rw [hR]; show (2 + 2 * k) + 1 ≤ 3 + 2 * k; omega, by rw [hR]; show 8 + (4 + 11) + 40 * ((2 + 2 * k)) ≤ 40 * (3 + 2 * k); omega⟩ hI hN hK hS hG0 (⟨by omega, by omega, ⟨a8108, hf8109, hq8110, hA8111⟩, ⟨a8112, hf8113, hq8114, hA8115⟩, ⟨a8116, hf8117, hq8118, hA8119⟩, ⟨w8120, hg8121, by first | omega | decide⟩, ⟨w8123, hg8124, by first | omega | decide⟩, ⟨w8126, hg8127, by first | omega | decide⟩, by omega, ⟨w8129, hg8130, by first | omega | decide⟩, ⟨w8132, hg8133, by first | omega | decide⟩⟩) rfl hl.1 rfl (Nat.le_of_ble_eq_true rfl) dX3_sum_83 ⟨Nat.zero_le _, Nat.zero_le _⟩ (fun r8138 H locs hI hp hS => ?_)
                  rcases hp with ⟨rfl, hp⟩ | ⟨rfl, hp⟩
                  · skip
                    try simp only [rg, not_and, Int.not_le] at hp
                    have hp8139 := hp
                    obtain ⟨pn8140, Ln8141, hE, k8142, hpd8143⟩ := hp8139
                    have hp8139 : True := trivial
                    obtain ⟨hT4, hn12, ⟨a8144, hf8145, hq8146, hA8147⟩, ⟨a8148, hf8149, hq8150, hA8151⟩, ⟨a8152, hf8153, hq8154, hA8155⟩, ⟨w8156, hg8157, k8158⟩, ⟨w8159, hg8160, k8161⟩, ⟨w8162, hg8163, k8164⟩, hpT, ⟨w8165, hg8166, k8167⟩, ⟨w8168, hg8169, k8170⟩⟩ := hE
                    have k8171 := iv_lo w8162
                    have k8172 := iv_hi w8162
                    have k8173 := TK.at hTK hpT
                    refine lv_istore_n (lv' := [(3, .int 1), (6, .int 1), (5, .int v7338), (4, .int v7339), (2, .int v7341), (0, .ref h0), (1, .int x1)]) hx hb dX3_sum_86 rfl hl (by decide) rfl (fun ls hl => ?_)
                    refine lv_iload hx hb dX3_sum_87 (lv_at hl 1 rfl) ?_
                    refine lv_if_eq (tgt := 98) hx hb dX3_sum_89 (by decide) (fun c => absurd c (by decide)) (fun _ => ?_)
                    refine lv_iload hx hb dX3_sum_92 (lv_at hl 3 rfl) ?_
                    refine lv_istore_n (lv' := [(2, .int v7339), (3, .int 1), (6, .int 1), (5, .int v7338), (4, .int v7339), (0, .ref h0), (1, .int x1)]) hx hb dX3_sum_94 rfl hl (by decide) rfl (fun ls hl => ?_)
                    refine lv_goto (tgt := 106) hx hb dX3_sum_95 (by decide) ?_
                    refine lv_aload_n hx hb dX3_sum_106 rfl (lv_at hl 5 rfl) ?_
                    refine nr_i (As := []) (rest := []) (n := 0) (d := 0) ⟨hx, hb, hml, hown, hts⟩ (c_X3_arithmetic l E D G H h0 hG0  ft fp fn TT pn8140 nc Ln8141 ⟨by omega, by omega, ⟨a8144, hf8145, hq8146, hA8147⟩, ⟨a8148, hf8149, hq8150, hA8151⟩, ⟨a8152, hf8153, hq8154, hA8155⟩, ⟨w8156, hg8157, by first | omega | decide⟩, ⟨w8159, hg8160, by first | omega | decide⟩, ⟨w8162, hg8163, by first | omega | decide⟩, by omega, ⟨w8165, hg8166, by first | omega | decide⟩, ⟨w8168, hg8169, by first | omega | decide⟩⟩) wd_727 wd_729 wp_18 wd_5 wd_730 (by decide +kernel) ⟨by rw [hR]; show 0 + 1 ≤ 3 + 2 * k; omega, by rw [hR]; show 8 + (1 + 11) + 40 * (0) ≤ 40 * (3 + 2 * k); omega⟩ hI hN hK hS hG0 rfl hl.1 rfl (Nat.le_of_ble_eq_true rfl) dX3_sum_107 ⟨Nat.zero_le _, Nat.zero_le _⟩ (fun r8174 locs hp hS => ?_)
                    have hp8175 := hp
                    have hop8176 := hp
                    refine lv_istore (lv' := [(4, .int r8174), (2, .int v7339), (3, .int 1), (6, .int 1), (5, .int v7338), (0, .ref h0), (1, .int x1)]) hx hb dX3_sum_110 hl (by decide) rfl (fun ls hl => ?_)
                    obtain ⟨v8177, e8178⟩ : ∃ y : Int32, y = v7338 + (1) := ⟨_, rfl⟩
                    have tv8177 : v8177.toInt = v7338.toInt + (1) := iv_add rfl (by decide) e8178 (by omega) (by omega)
                    refine lv_iinc (v := v8177) (lv' := [(5, .int v8177), (4, .int r8174), (2, .int v7339), (3, .int 1), (6, .int 1), (0, .ref h0), (1, .int x1)]) hx hb dX3_sum_112 hl (k := 4) rfl (by rw [e8178]; rfl) (by decide) rfl (fun ls hl => ?_)
                    refine lv_goto (tgt := 17) hx hb dX3_sum_115 (by decide) ?_
                    exact ih_17 _ (by omega) H locs ls v8177 r8174 1 v7339 pn8140 Ln8141 rfl (lv_sub hl [0, 1, 3, 2, 5, 6] rfl) ⟨by omega, by omega⟩ ⟨by omega, by omega⟩ ⟨by decide, by decide⟩ ⟨by omega, by omega⟩ ⟨by omega, by omega⟩ (by omega) (by first | omega | (show (0 : Int32).toInt ≤ _; rw [show (0 : Int32).toInt = 0 from by decide]; omega)) (Or.inl ⟨by first | decide | omega, ⟨hpd8143, by omega⟩, SI_op hop8176⟩) (⟨by omega, by omega, ⟨a8144, hf8145, hq8146, hA8147⟩, ⟨a8148, hf8149, hq8150, hA8151⟩, ⟨a8152, hf8153, hq8154, hA8155⟩, ⟨w8156, hg8157, by first | omega | decide⟩, ⟨w8159, hg8160, by first | omega | decide⟩, ⟨w8162, hg8163, by first | omega | decide⟩, by omega, ⟨w8165, hg8166, by first | omega | decide⟩, ⟨w8168, hg8169, by first | omega | decide⟩⟩) hI hS
                  · skip
                    try simp only [rg, not_and, Int.not_le] at hp
                    have hp8179 := hp
                    obtain ⟨pn8180, Ln8181, hE, k8182, hfl8183⟩ := hp8179
                    have hp8179 : True := trivial
                    obtain ⟨hT4, hn12, ⟨a8184, hf8185, hq8186, hA8187⟩, ⟨a8188, hf8189, hq8190, hA8191⟩, ⟨a8192, hf8193, hq8194, hA8195⟩, ⟨w8196, hg8197, k8198⟩, ⟨w8199, hg8200, k8201⟩, ⟨w8202, hg8203, k8204⟩, hpT, ⟨w8205, hg8206, k8207⟩, ⟨w8208, hg8209, k8210⟩⟩ := hE
                    have k8211 := iv_lo w8202
                    have k8212 := iv_hi w8202
                    have k8213 := TK.at hTK hpT
                    refine lv_istore_n (lv' := [(3, .int 0), (6, .int 1), (5, .int v7338), (4, .int v7339), (2, .int v7341), (0, .ref h0), (1, .int x1)]) hx hb dX3_sum_86 rfl hl (by decide) rfl (fun ls hl => ?_)
                    refine lv_iload hx hb dX3_sum_87 (lv_at hl 1 rfl) ?_
                    refine lv_if_eq (tgt := 98) hx hb dX3_sum_89 (by decide) (fun c => absurd c (by decide)) (fun _ => ?_)
                    refine lv_iload hx hb dX3_sum_92 (lv_at hl 3 rfl) ?_
                    refine lv_istore_n (lv' := [(2, .int v7339), (3, .int 0), (6, .int 1), (5, .int v7338), (4, .int v7339), (0, .ref h0), (1, .int x1)]) hx hb dX3_sum_94 rfl hl (by decide) rfl (fun ls hl => ?_)
                    refine lv_goto (tgt := 106) hx hb dX3_sum_95 (by decide) ?_
                    refine lv_aload_n hx hb dX3_sum_106 rfl (lv_at hl 5 rfl) ?_
                    refine nr_i (As := []) (rest := []) (n := 0) (d := 0) ⟨hx, hb, hml, hown, hts⟩ (c_X3_arithmetic l E D G H h0 hG0  ft fp fn TT pn8180 nc Ln8181 ⟨by omega, by omega, ⟨a8184, hf8185, hq8186, hA8187⟩, ⟨a8188, hf8189, hq8190, hA8191⟩, ⟨a8192, hf8193, hq8194, hA8195⟩, ⟨w8196, hg8197, by first | omega | decide⟩, ⟨w8199, hg8200, by first | omega | decide⟩, ⟨w8202, hg8203, by first | omega | decide⟩, by omega, ⟨w8205, hg8206, by first | omega | decide⟩, ⟨w8208, hg8209, by first | omega | decide⟩⟩) wd_727 wd_729 wp_18 wd_5 wd_730 (by decide +kernel) ⟨by rw [hR]; show 0 + 1 ≤ 3 + 2 * k; omega, by rw [hR]; show 8 + (1 + 11) + 40 * (0) ≤ 40 * (3 + 2 * k); omega⟩ hI hN hK hS hG0 rfl hl.1 rfl (Nat.le_of_ble_eq_true rfl) dX3_sum_107 ⟨Nat.zero_le _, Nat.zero_le _⟩ (fun r8214 locs hp hS => ?_)
                    have hp8215 := hp
                    have hop8216 := hp
                    refine lv_istore (lv' := [(4, .int r8214), (2, .int v7339), (3, .int 0), (6, .int 1), (5, .int v7338), (0, .ref h0), (1, .int x1)]) hx hb dX3_sum_110 hl (by decide) rfl (fun ls hl => ?_)
                    obtain ⟨v8217, e8218⟩ : ∃ y : Int32, y = v7338 + (1) := ⟨_, rfl⟩
                    have tv8217 : v8217.toInt = v7338.toInt + (1) := iv_add rfl (by decide) e8218 (by omega) (by omega)
                    refine lv_iinc (v := v8217) (lv' := [(5, .int v8217), (4, .int r8214), (2, .int v7339), (3, .int 0), (6, .int 1), (0, .ref h0), (1, .int x1)]) hx hb dX3_sum_112 hl (k := 4) rfl (by rw [e8218]; rfl) (by decide) rfl (fun ls hl => ?_)
                    refine lv_goto (tgt := 17) hx hb dX3_sum_115 (by decide) ?_
                    exact ih_17 _ (by omega) H locs ls v8217 r8214 0 v7339 pn8180 Ln8181 rfl (lv_sub hl [0, 1, 3, 2, 5, 6] rfl) ⟨by omega, by omega⟩ ⟨by omega, by omega⟩ ⟨by decide, by decide⟩ ⟨by omega, by omega⟩ ⟨by omega, by omega⟩ (by omega) (by first | omega | (show (0 : Int32).toInt ≤ _; rw [show (0 : Int32).toInt = 0 from by decide]; omega)) (Or.inr ⟨by first | decide | omega, hfl8183⟩) (⟨by omega, by omega, ⟨a8184, hf8185, hq8186, hA8187⟩, ⟨a8188, hf8189, hq8190, hA8191⟩, ⟨a8192, hf8193, hq8194, hA8195⟩, ⟨w8196, hg8197, by first | omega | decide⟩, ⟨w8199, hg8200, by first | omega | decide⟩, ⟨w8202, hg8203, by first | omega | decide⟩, by omega, ⟨w8205, hg8206, by first | omega | decide⟩, ⟨w8208, hg8209, by first | omega | decide⟩⟩) hI hS
  refine lv_iconst (v := (-1)) hx hb dX3_sum_0 (by decide) ?_
  refine lv_istore_n (lv' := [(2, .int (-1)), (0, .ref h0), (1, .int x1)]) hx hb dX3_sum_1 rfl hl (by decide) rfl (fun ls hl => ?_)
  refine lv_aload_n hx hb dX3_sum_2 rfl (lv_at hl 1 rfl) ?_
  refine lv_iload_n hx hb dX3_sum_3 rfl (lv_at hl 2 rfl) ?_
  refine nx_i (As := [.int x1]) (rest := []) (n := 1) (d := (2 + 2 * k)) ⟨hx, hb, hml, hown, hts⟩ (hpart h0 hG0 x1 ft fp fn TT pp nc LL ZZ YY nk XX hTK dd (by first | decide | omega) (by omega) (by omega) fl hdp hpd) wd_719 wd_721 wp_16 wd_5 wd_722 (by decide +kernel) ⟨by rw [hR]; show (2 + 2 * k) + 1 ≤ 3 + 2 * k; omega, by rw [hR]; show 8 + (4 + 11) + 40 * ((2 + 2 * k)) ≤ 40 * (3 + 2 * k); omega⟩ hI hN hK hS hG0 (⟨by omega, by omega, ⟨a1, hf2, hq3, hA4⟩, ⟨a5, hf6, hq7, hA8⟩, ⟨a9, hf10, hq11, hA12⟩, ⟨w13, hg14, by first | omega | decide⟩, ⟨w16, hg17, by first | omega | decide⟩, ⟨w19, hg20, by first | omega | decide⟩, by omega, ⟨w22, hg23, by first | omega | decide⟩, ⟨w25, hg26, by first | omega | decide⟩⟩) rfl hl.1 rfl (Nat.le_of_ble_eq_true rfl) dX3_sum_4 ⟨Nat.zero_le _, Nat.zero_le _⟩ (fun r8219 H locs hI hp hS => ?_)
  rcases hp with ⟨rfl, hp⟩ | ⟨rfl, hp⟩
  · skip
    try simp only [rg, not_and, Int.not_le] at hp
    have hp8220 := hp
    obtain ⟨pn8221, Ln8222, hE, k8223, hpd8224⟩ := hp8220
    have hp8220 : True := trivial
    obtain ⟨hT4, hn12, ⟨a8225, hf8226, hq8227, hA8228⟩, ⟨a8229, hf8230, hq8231, hA8232⟩, ⟨a8233, hf8234, hq8235, hA8236⟩, ⟨w8237, hg8238, k8239⟩, ⟨w8240, hg8241, k8242⟩, ⟨w8243, hg8244, k8245⟩, hpT, ⟨w8246, hg8247, k8248⟩, ⟨w8249, hg8250, k8251⟩⟩ := hE
    have k8252 := iv_lo w8243
    have k8253 := iv_hi w8243
    have k8254 := TK.at hTK hpT
    refine lv_istore_n (lv' := [(3, .int 1), (2, .int (-1)), (0, .ref h0), (1, .int x1)]) hx hb dX3_sum_7 rfl hl (by decide) rfl (fun ls hl => ?_)
    refine lv_aload_n hx hb dX3_sum_8 rfl (lv_at hl 2 rfl) ?_
    refine nr_i (As := []) (rest := []) (n := 0) (d := 0) ⟨hx, hb, hml, hown, hts⟩ (c_X3_arithmetic l E D G H h0 hG0  ft fp fn TT pn8221 nc Ln8222 ⟨by omega, by omega, ⟨a8225, hf8226, hq8227, hA8228⟩, ⟨a8229, hf8230, hq8231, hA8232⟩, ⟨a8233, hf8234, hq8235, hA8236⟩, ⟨w8237, hg8238, by first | omega | decide⟩, ⟨w8240, hg8241, by first | omega | decide⟩, ⟨w8243, hg8244, by first | omega | decide⟩, by omega, ⟨w8246, hg8247, by first | omega | decide⟩, ⟨w8249, hg8250, by first | omega | decide⟩⟩) wd_727 wd_729 wp_18 wd_5 wd_730 (by decide +kernel) ⟨by rw [hR]; show 0 + 1 ≤ 3 + 2 * k; omega, by rw [hR]; show 8 + (1 + 11) + 40 * (0) ≤ 40 * (3 + 2 * k); omega⟩ hI hN hK hS hG0 rfl hl.1 rfl (Nat.le_of_ble_eq_true rfl) dX3_sum_9 ⟨Nat.zero_le _, Nat.zero_le _⟩ (fun r8255 locs hp hS => ?_)
    have hp8256 := hp
    have hop8257 := hp
    refine lv_istore (lv' := [(4, .int r8255), (3, .int 1), (2, .int (-1)), (0, .ref h0), (1, .int x1)]) hx hb dX3_sum_12 hl (by decide) rfl (fun ls hl => ?_)
    refine lv_iconst (v := 0) hx hb dX3_sum_14 (by decide) ?_
    refine lv_istore (lv' := [(5, .int 0), (4, .int r8255), (3, .int 1), (2, .int (-1)), (0, .ref h0), (1, .int x1)]) hx hb dX3_sum_15 hl (by decide) rfl (fun ls hl => ?_)
    have zl : (0 : Int32).toInt = 0 := by decide
    exact J_17 _ H locs ls 0 r8255 1 (-1) pn8221 Ln8222 rfl (lv_sub hl [0, 1, 2, 3, 4, 5] rfl) ⟨by decide, by decide⟩ ⟨by omega, by omega⟩ ⟨by decide, by decide⟩ ⟨by decide, by decide⟩ ⟨by omega, by omega⟩ (by omega) (by first | omega | (show (0 : Int32).toInt ≤ _; rw [show (0 : Int32).toInt = 0 from by decide]; omega)) (Or.inl ⟨by first | decide | omega, ⟨hpd8224, by omega⟩, SI_op hop8257⟩) (⟨by omega, by omega, ⟨a8225, hf8226, hq8227, hA8228⟩, ⟨a8229, hf8230, hq8231, hA8232⟩, ⟨a8233, hf8234, hq8235, hA8236⟩, ⟨w8237, hg8238, by first | omega | decide⟩, ⟨w8240, hg8241, by first | omega | decide⟩, ⟨w8243, hg8244, by first | omega | decide⟩, by omega, ⟨w8246, hg8247, by first | omega | decide⟩, ⟨w8249, hg8250, by first | omega | decide⟩⟩) hI hS
  · skip
    try simp only [rg, not_and, Int.not_le] at hp
    have hp8258 := hp
    obtain ⟨pn8259, Ln8260, hE, k8261, hfl8262⟩ := hp8258
    have hp8258 : True := trivial
    obtain ⟨hT4, hn12, ⟨a8263, hf8264, hq8265, hA8266⟩, ⟨a8267, hf8268, hq8269, hA8270⟩, ⟨a8271, hf8272, hq8273, hA8274⟩, ⟨w8275, hg8276, k8277⟩, ⟨w8278, hg8279, k8280⟩, ⟨w8281, hg8282, k8283⟩, hpT, ⟨w8284, hg8285, k8286⟩, ⟨w8287, hg8288, k8289⟩⟩ := hE
    have k8290 := iv_lo w8281
    have k8291 := iv_hi w8281
    have k8292 := TK.at hTK hpT
    refine lv_istore_n (lv' := [(3, .int 0), (2, .int (-1)), (0, .ref h0), (1, .int x1)]) hx hb dX3_sum_7 rfl hl (by decide) rfl (fun ls hl => ?_)
    refine lv_aload_n hx hb dX3_sum_8 rfl (lv_at hl 2 rfl) ?_
    refine nr_i (As := []) (rest := []) (n := 0) (d := 0) ⟨hx, hb, hml, hown, hts⟩ (c_X3_arithmetic l E D G H h0 hG0  ft fp fn TT pn8259 nc Ln8260 ⟨by omega, by omega, ⟨a8263, hf8264, hq8265, hA8266⟩, ⟨a8267, hf8268, hq8269, hA8270⟩, ⟨a8271, hf8272, hq8273, hA8274⟩, ⟨w8275, hg8276, by first | omega | decide⟩, ⟨w8278, hg8279, by first | omega | decide⟩, ⟨w8281, hg8282, by first | omega | decide⟩, by omega, ⟨w8284, hg8285, by first | omega | decide⟩, ⟨w8287, hg8288, by first | omega | decide⟩⟩) wd_727 wd_729 wp_18 wd_5 wd_730 (by decide +kernel) ⟨by rw [hR]; show 0 + 1 ≤ 3 + 2 * k; omega, by rw [hR]; show 8 + (1 + 11) + 40 * (0) ≤ 40 * (3 + 2 * k); omega⟩ hI hN hK hS hG0 rfl hl.1 rfl (Nat.le_of_ble_eq_true rfl) dX3_sum_9 ⟨Nat.zero_le _, Nat.zero_le _⟩ (fun r8293 locs hp hS => ?_)
    have hp8294 := hp
    have hop8295 := hp
    refine lv_istore (lv' := [(4, .int r8293), (3, .int 0), (2, .int (-1)), (0, .ref h0), (1, .int x1)]) hx hb dX3_sum_12 hl (by decide) rfl (fun ls hl => ?_)
    refine lv_iconst (v := 0) hx hb dX3_sum_14 (by decide) ?_
    refine lv_istore (lv' := [(5, .int 0), (4, .int r8293), (3, .int 0), (2, .int (-1)), (0, .ref h0), (1, .int x1)]) hx hb dX3_sum_15 hl (by decide) rfl (fun ls hl => ?_)
    have zl : (0 : Int32).toInt = 0 := by decide
    exact J_17 _ H locs ls 0 r8293 0 (-1) pn8259 Ln8260 rfl (lv_sub hl [0, 1, 2, 3, 4, 5] rfl) ⟨by decide, by decide⟩ ⟨by omega, by omega⟩ ⟨by decide, by decide⟩ ⟨by decide, by decide⟩ ⟨by omega, by omega⟩ (by omega) (by first | omega | (show (0 : Int32).toInt ≤ _; rw [show (0 : Int32).toInt = 0 from by decide]; omega)) (Or.inr ⟨by first | decide | omega, hfl8262⟩) (⟨by omega, by omega, ⟨a8263, hf8264, hq8265, hA8266⟩, ⟨a8267, hf8268, hq8269, hA8270⟩, ⟨a8271, hf8272, hq8273, hA8274⟩, ⟨w8275, hg8276, by first | omega | decide⟩, ⟨w8278, hg8279, by first | omega | decide⟩, ⟨w8281, hg8282, by first | omega | decide⟩, by omega, ⟨w8284, hg8285, by first | omega | decide⟩, ⟨w8287, hg8288, by first | omega | decide⟩⟩) hI hS
theorem dX3_part_0 : decode cX3_part 0 = .ok (.aload_n 0, 1) := by decide +kernel
theorem dX3_part_1 : decode cX3_part 1 = .ok (.getfield 46, 3) := by decide +kernel
theorem dX3_part_4 : decode cX3_part 4 = .ok (.bipush 91, 2) := by decide +kernel
theorem dX3_part_6 : decode cX3_part 6 = .ok (.if_icmp .ne 69, 3) := by decide +kernel
theorem dX3_part_9 : decode cX3_part 9 = .ok (.iload_n 1, 1) := by decide +kernel
theorem dX3_part_10 : decode cX3_part 10 = .ok (.bipush 8, 2) := by decide +kernel
theorem dX3_part_12 : decode cX3_part 12 = .ok (.if_icmp .lt 5, 3) := by decide +kernel
theorem dX3_part_15 : decode cX3_part 15 = .ok (.iconst 0, 1) := by decide +kernel
theorem dX3_part_16 : decode cX3_part 16 = .ok (.ireturn, 1) := by decide +kernel
theorem dX3_part_17 : decode cX3_part 17 = .ok (.aload_n 0, 1) := by decide +kernel
theorem dX3_part_18 : decode cX3_part 18 = .ok (.aload_n 0, 1) := by decide +kernel
theorem dX3_part_19 : decode cX3_part 19 = .ok (.getfield 43, 3) := by decide +kernel
theorem dX3_part_22 : decode cX3_part 22 = .ok (.iconst 1, 1) := by decide +kernel
theorem dX3_part_23 : decode cX3_part 23 = .ok (.iadd, 1) := by decide +kernel
theorem dX3_part_24 : decode cX3_part 24 = .ok (.invokevirtual 66, 3) := by decide +kernel
theorem dX3_part_27 : decode cX3_part 27 = .ok (.aload_n 0, 1) := by decide +kernel
theorem dX3_part_28 : decode cX3_part 28 = .ok (.iload_n 1, 1) := by decide +kernel
theorem dX3_part_29 : decode cX3_part 29 = .ok (.iconst 1, 1) := by decide +kernel
theorem dX3_part_30 : decode cX3_part 30 = .ok (.iadd, 1) := by decide +kernel
theorem dX3_part_31 : decode cX3_part 31 = .ok (.invokevirtual 97, 3) := by decide +kernel
theorem dX3_part_34 : decode cX3_part 34 = .ok (.ifCond .eq 16, 3) := by decide +kernel
theorem dX3_part_37 : decode cX3_part 37 = .ok (.aload_n 0, 1) := by decide +kernel
theorem dX3_part_38 : decode cX3_part 38 = .ok (.getfield 46, 3) := by decide +kernel
theorem dX3_part_41 : decode cX3_part 41 = .ok (.bipush 93, 2) := by decide +kernel
theorem dX3_part_43 : decode cX3_part 43 = .ok (.if_icmp .ne 7, 3) := by decide +kernel
theorem dX3_part_46 : decode cX3_part 46 = .ok (.iconst 1, 1) := by decide +kernel
theorem dX3_part_47 : decode cX3_part 47 = .ok (.goto 4, 3) := by decide +kernel
theorem dX3_part_50 : decode cX3_part 50 = .ok (.iconst 0, 1) := by decide +kernel
theorem dX3_part_51 : decode cX3_part 51 = .ok (.istore_n 2, 1) := by decide +kernel
theorem dX3_part_52 : decode cX3_part 52 = .ok (.aload_n 0, 1) := by decide +kernel
theorem dX3_part_53 : decode cX3_part 53 = .ok (.iload_n 2, 1) := by decide +kernel
theorem dX3_part_54 : decode cX3_part 54 = .ok (.ifCond .eq 12, 3) := by decide +kernel
theorem dX3_part_57 : decode cX3_part 57 = .ok (.aload_n 0, 1) := by decide +kernel
theorem dX3_part_58 : decode cX3_part 58 = .ok (.getfield 43, 3) := by decide +kernel
theorem dX3_part_61 : decode cX3_part 61 = .ok (.iconst 1, 1) := by decide +kernel
theorem dX3_part_62 : decode cX3_part 62 = .ok (.iadd, 1) := by decide +kernel
theorem dX3_part_63 : decode cX3_part 63 = .ok (.goto 7, 3) := by decide +kernel
theorem dX3_part_66 : decode cX3_part 66 = .ok (.aload_n 0, 1) := by decide +kernel
theorem dX3_part_67 : decode cX3_part 67 = .ok (.getfield 43, 3) := by decide +kernel
theorem dX3_part_70 : decode cX3_part 70 = .ok (.invokevirtual 66, 3) := by decide +kernel
theorem dX3_part_73 : decode cX3_part 73 = .ok (.iload_n 2, 1) := by decide +kernel
theorem dX3_part_74 : decode cX3_part 74 = .ok (.ireturn, 1) := by decide +kernel
theorem dX3_part_75 : decode cX3_part 75 = .ok (.aload_n 0, 1) := by decide +kernel
theorem dX3_part_76 : decode cX3_part 76 = .ok (.getfield 43, 3) := by decide +kernel
theorem dX3_part_79 : decode cX3_part 79 = .ok (.ifCond .lt 27, 3) := by decide +kernel
theorem dX3_part_82 : decode cX3_part 82 = .ok (.aload_n 0, 1) := by decide +kernel
theorem dX3_part_83 : decode cX3_part 83 = .ok (.getfield 43, 3) := by decide +kernel
theorem dX3_part_86 : decode cX3_part 86 = .ok (.aload_n 0, 1) := by decide +kernel
theorem dX3_part_87 : decode cX3_part 87 = .ok (.getfield 27, 3) := by decide +kernel
theorem dX3_part_90 : decode cX3_part 90 = .ok (.arraylength, 1) := by decide +kernel
theorem dX3_part_91 : decode cX3_part 91 = .ok (.if_icmp .ge 15, 3) := by decide +kernel
theorem dX3_part_94 : decode cX3_part 94 = .ok (.aload_n 0, 1) := by decide +kernel
theorem dX3_part_95 : decode cX3_part 95 = .ok (.getfield 27, 3) := by decide +kernel
theorem dX3_part_98 : decode cX3_part 98 = .ok (.aload_n 0, 1) := by decide +kernel
theorem dX3_part_99 : decode cX3_part 99 = .ok (.getfield 43, 3) := by decide +kernel
theorem dX3_part_102 : decode cX3_part 102 = .ok (.iaload, 1) := by decide +kernel
theorem dX3_part_103 : decode cX3_part 103 = .ok (.goto 4, 3) := by decide +kernel
theorem dX3_part_106 : decode cX3_part 106 = .ok (.iconst 0, 1) := by decide +kernel
theorem dX3_part_107 : decode cX3_part 107 = .ok (.istore_n 2, 1) := by decide +kernel
theorem dX3_part_108 : decode cX3_part 108 = .ok (.aload_n 0, 1) := by decide +kernel
theorem dX3_part_109 : decode cX3_part 109 = .ok (.getfield 46, 3) := by decide +kernel
theorem dX3_part_112 : decode cX3_part 112 = .ok (.bipush (-2), 2) := by decide +kernel
theorem dX3_part_114 : decode cX3_part 114 = .ok (.if_icmp .ne 14, 3) := by decide +kernel
theorem dX3_part_117 : decode cX3_part 117 = .ok (.iload_n 2, 1) := by decide +kernel
theorem dX3_part_118 : decode cX3_part 118 = .ok (.sipush 1000, 3) := by decide +kernel
theorem dX3_part_121 : decode cX3_part 121 = .ok (.if_icmp .gt 7, 3) := by decide +kernel
theorem dX3_part_124 : decode cX3_part 124 = .ok (.iconst 1, 1) := by decide +kernel
theorem dX3_part_125 : decode cX3_part 125 = .ok (.goto 4, 3) := by decide +kernel
theorem dX3_part_128 : decode cX3_part 128 = .ok (.iconst 0, 1) := by decide +kernel
theorem dX3_part_129 : decode cX3_part 129 = .ok (.istore_n 3, 1) := by decide +kernel
theorem dX3_part_130 : decode cX3_part 130 = .ok (.aload_n 0, 1) := by decide +kernel
theorem dX3_part_131 : decode cX3_part 131 = .ok (.getfield 37, 3) := by decide +kernel
theorem dX3_part_134 : decode cX3_part 134 = .ok (.bipush 50, 2) := by decide +kernel
theorem dX3_part_136 : decode cX3_part 136 = .ok (.if_icmp .ge 17, 3) := by decide +kernel
theorem dX3_part_139 : decode cX3_part 139 = .ok (.iload_n 3, 1) := by decide +kernel
theorem dX3_part_140 : decode cX3_part 140 = .ok (.ifCond .ne 15, 3) := by decide +kernel
theorem dX3_part_143 : decode cX3_part 143 = .ok (.aload_n 0, 1) := by decide +kernel
theorem dX3_part_144 : decode cX3_part 144 = .ok (.getfield 46, 3) := by decide +kernel
theorem dX3_part_147 : decode cX3_part 147 = .ok (.sipush 264, 3) := by decide +kernel
theorem dX3_part_150 : decode cX3_part 150 = .ok (.if_icmp .ge 5, 3) := by decide +kernel
theorem dX3_part_153 : decode cX3_part 153 = .ok (.iconst 0, 1) := by decide +kernel
theorem dX3_part_154 : decode cX3_part 154 = .ok (.ireturn, 1) := by decide +kernel
theorem dX3_part_155 : decode cX3_part 155 = .ok (.aload_n 0, 1) := by decide +kernel
theorem dX3_part_156 : decode cX3_part 156 = .ok (.iload_n 3, 1) := by decide +kernel
theorem dX3_part_157 : decode cX3_part 157 = .ok (.ifCond .eq 7, 3) := by decide +kernel
theorem dX3_part_160 : decode cX3_part 160 = .ok (.iconst 0, 1) := by decide +kernel
theorem dX3_part_161 : decode cX3_part 161 = .ok (.goto 4, 3) := by decide +kernel
theorem dX3_part_164 : decode cX3_part 164 = .ok (.iconst 1, 1) := by decide +kernel
theorem dX3_part_165 : decode cX3_part 165 = .ok (.iload_n 3, 1) := by decide +kernel
theorem dX3_part_166 : decode cX3_part 166 = .ok (.ifCond .eq 7, 3) := by decide +kernel
theorem dX3_part_169 : decode cX3_part 169 = .ok (.iload_n 2, 1) := by decide +kernel
theorem dX3_part_170 : decode cX3_part 170 = .ok (.goto 11, 3) := by decide +kernel
theorem dX3_part_173 : decode cX3_part 173 = .ok (.aload_n 0, 1) := by decide +kernel
theorem dX3_part_174 : decode cX3_part 174 = .ok (.getfield 46, 3) := by decide +kernel
theorem dX3_part_177 : decode cX3_part 177 = .ok (.sipush 264, 3) := by decide +kernel
theorem dX3_part_180 : decode cX3_part 180 = .ok (.isub, 1) := by decide +kernel
theorem dX3_part_181 : decode cX3_part 181 = .ok (.invokevirtual 109, 3) := by decide +kernel
theorem dX3_part_184 : decode cX3_part 184 = .ok (.pop, 1) := by decide +kernel
theorem dX3_part_185 : decode cX3_part 185 = .ok (.aload_n 0, 1) := by decide +kernel
theorem dX3_part_186 : decode cX3_part 186 = .ok (.dup, 1) := by decide +kernel
theorem dX3_part_187 : decode cX3_part 187 = .ok (.getfield 37, 3) := by decide +kernel
theorem dX3_part_190 : decode cX3_part 190 = .ok (.iconst 1, 1) := by decide +kernel
theorem dX3_part_191 : decode cX3_part 191 = .ok (.iadd, 1) := by decide +kernel
theorem dX3_part_192 : decode cX3_part 192 = .ok (.putfield 37, 3) := by decide +kernel
theorem dX3_part_195 : decode cX3_part 195 = .ok (.aload_n 0, 1) := by decide +kernel
theorem dX3_part_196 : decode cX3_part 196 = .ok (.aload_n 0, 1) := by decide +kernel
theorem dX3_part_197 : decode cX3_part 197 = .ok (.getfield 43, 3) := by decide +kernel
theorem dX3_part_200 : decode cX3_part 200 = .ok (.iconst 1, 1) := by decide +kernel
theorem dX3_part_201 : decode cX3_part 201 = .ok (.iadd, 1) := by decide +kernel
theorem dX3_part_202 : decode cX3_part 202 = .ok (.invokevirtual 66, 3) := by decide +kernel
theorem dX3_part_205 : decode cX3_part 205 = .ok (.iconst 1, 1) := by decide +kernel
theorem dX3_part_206 : decode cX3_part 206 = .ok (.ireturn, 1) := by decide +kernel
set_option maxHeartbeats 4000000 in
set_option maxRecDepth 100000 in
theorem c_X3_part (l : Launch) (E : Nat → Nat) (D : va_G) (G : th_G) (k : Nat) : ∀ (h0 : Nat) (hG0 : G h0 = some (7, 12)) (x1 : Int32) (ft fp fn : Nat → Int32) (TT pp nc LL : Nat) (ZZ : Nat → Int) (YY : Nat → Bool) (nk : Nat) (XX : Nat × Bool) (hTK : TK ft fn TT ZZ YY) (dd : Nat) (hdd : x1.toInt = (dd : Int)) (hd8 : dd ≤ 8) (hk : 8 ≤ dd + k) (fl : List Nat) (hdp : pd_dp (fl) = dd) (hpd : pd_R ZZ YY TT (1, fl, nk, LL) pp = XX), Met l yX3_part (tb (.code yX3_part cX3_part 4 (some .boolean))) (rm (2 + 2 * k)) (va_Pc [.ref h0, .int x1] (PCx E D G (fun H => RC E D G h0 ft fp fn TT pp nc LL H))) (QCi E D G (fun r H => ((r : Int32) = 1 ∧ ∃ p2 L2 : Nat, RC E D G h0 ft fp fn TT p2 nc L2 H ∧ pp + 1 ≤ p2 ∧ pd_R ZZ YY TT (2, fl, nk, L2) p2 = XX) ∨ ((r : Int32) = 0 ∧ ∃ p2 L2 : Nat, RC E D G h0 ft fp fn TT p2 nc L2 H ∧ pp ≤ p2 ∧ XX = (p2, false)))) 0 0 (th_A G) := by
  induction k using Nat.strongRecOn with
  | ind k ih =>
  intro h0 hG0 x1 ft fp fn TT pp nc LL ZZ YY nk XX hTK dd hdd hd8 hk fl hdp hpd
  refine Met.ofW (cc := cX3_part) (maxL := 4) (ret := (some .boolean)) (by decide) rfl ?_
  intro p e s m args below meth c s₁ B hml hv
  obtain ⟨hav, ⟨hI, hN, hK⟩, hX⟩ := hv
  have hx := B.exec
  have hb := B.bytes
  have hr := B.returns
  have hts := atoms_spec (ws := tb (.code yX3_part cX3_part 4 (some .boolean))) B.pre
  have hown : s.vm.findClass RX3 = some m.cls := findClass_of_methodNamed B.named
  have hlocks := B.notSynchronized
  have hS : va_S (th_A G) s.heap s.heap [] := va_S.rf
  have hl := lv_entry ([.ref h0, .int x1]) (n := 4) (Nat.le_of_ble_eq_true rfl)
  rw [show entryFrame m args 4 = entryFrame m ([.ref h0, .int x1] : List Value).toArray 4 from by rw [hav], lg_entry_eq]
  generalize (lg_sl ([.ref h0, .int x1]) ++ List.replicate (4 - (lg_sl ([.ref h0, .int x1])).length) Slot.unset).toArray = ls at hl ⊢
  have hl : lv_has ls 4 [(0, .ref h0), (1, .int x1)] := hl
  generalize hR : (headSpec (tb (.code yX3_part cX3_part 4 (some .boolean))) (rm (2 + 2 * k))).room = R
  have hR := hR.symm
  generalize hQ : MQ below (QCi E D G (fun r H => ((r : Int32) = 1 ∧ ∃ p2 L2 : Nat, RC E D G h0 ft fp fn TT p2 nc L2 H ∧ pp + 1 ≤ p2 ∧ pd_R ZZ YY TT (2, fl, nk, L2) p2 = XX) ∨ ((r : Int32) = 0 ∧ ∃ p2 L2 : Nat, RC E D G h0 ft fp fn TT p2 nc L2 H ∧ pp ≤ p2 ∧ XX = (p2, false)))) args s 0 0 (th_A G) = QF
  have hQ := hQ.symm
  obtain ⟨hT4, hn12, ⟨a1, hf2, hq3, hA4⟩, ⟨a5, hf6, hq7, hA8⟩, ⟨a9, hf10, hq11, hA12⟩, ⟨w13, hg14, k15⟩, ⟨w16, hg17, k18⟩, ⟨w19, hg20, k21⟩, hpT, ⟨w22, hg23, k24⟩, ⟨w25, hg26, k27⟩⟩ := hX
  have k28 := iv_lo w19
  have k29 := iv_hi w19
  have k30 := TK.at hTK hpT
  refine lv_aload_n hx hb dX3_part_0 rfl (lv_at hl 0 rfl) ?_
  refine gmIC hx hb hts inT3 hown hK hI List.not_mem_nil hG0 11 (by decide) (hts _ (tb_c wd_140)) rfl rfl dX3_part_1 (fun w31 hg32 k33 k34 => ?_)
  obtain rfl := gfC.uniq (by decide) hg26 hg32
  refine lv_bipush (v := 91) hx hb dX3_part_4 (by decide) ?_
  have k35 := iv_lo w25
  have k36 := iv_hi w25
  refine lv_icmp_ne (tgt := 75) hx hb dX3_part_6 (by decide) (fun c37 => ?_) (fun c37 => ?_)
  · skip
    have k38 := iv_ne (X := w25.toInt) (Y := (91)) rfl (by decide) c37
    refine lv_aload_n hx hb dX3_part_75 rfl (lv_at hl 0 rfl) ?_
    refine gmIC hx hb hts inT3 hown hK hI List.not_mem_nil hG0 10 (by decide) (hts _ (tb_c wd_139)) rfl rfl dX3_part_76 (fun w39 hg40 k41 k42 => ?_)
    obtain rfl := gfC.uniq (by decide) hg23 hg40
    refine lv_if_lt (tgt := 106) hx hb dX3_part_79 (by decide) (fun c43 => ?_) (fun c43 => ?_)
    · skip
      have k44 := iv_lt (X := w22.toInt) (Y := (0)) rfl (by decide) c43
      exfalso; omega
    · skip
      have k45 := iv_nlt (X := w22.toInt) (Y := (0)) rfl (by decide) c43
      refine lv_aload_n hx hb dX3_part_82 rfl (lv_at hl 0 rfl) ?_
      refine gmIC hx hb hts inT3 hown hK hI List.not_mem_nil hG0 10 (by decide) (hts _ (tb_c wd_139)) rfl rfl dX3_part_83 (fun w46 hg47 k48 k49 => ?_)
      obtain rfl := gfC.uniq (by decide) hg23 hg47
      refine lv_aload_n hx hb dX3_part_86 rfl (lv_at hl 0 rfl) ?_
      refine gmAC hx hb hts inT3 hown hK hI List.not_mem_nil hG0 5 (by decide) (hts _ (tb_c wd_134)) rfl rfl dX3_part_87 (fun a50 hq51 hf52 => ?_)
      obtain rfl := frC.uniq (by decide) hf10 hf52
      refine va_alen hx hb hK (th_one hA12) 0 0 rfl (v := 401) rfl (show Int32.ofNat 401 = (401 : Int32) from by decide) dX3_part_90 ?_
      refine lv_icmp_ge (tgt := 106) hx hb dX3_part_91 (by decide) (fun c53 => ?_) (fun c53 => ?_)
      · skip
        have k54 := iv_le (X := (401)) (Y := w22.toInt) (by decide) rfl c53
        exfalso; omega
      · skip
        have k55 := iv_nle (X := (401)) (Y := w22.toInt) (by decide) rfl c53
        refine lv_aload_n hx hb dX3_part_94 rfl (lv_at hl 0 rfl) ?_
        refine gmAC hx hb hts inT3 hown hK hI List.not_mem_nil hG0 5 (by decide) (hts _ (tb_c wd_134)) rfl rfl dX3_part_95 (fun a56 hq57 hf58 => ?_)
        obtain rfl := frC.uniq (by decide) hf10 hf58
        refine lv_aload_n hx hb dX3_part_98 rfl (lv_at hl 0 rfl) ?_
        refine gmIC hx hb hts inT3 hown hK hI List.not_mem_nil hG0 10 (by decide) (hts _ (tb_c wd_139)) rfl rfl dX3_part_99 (fun w59 hg60 k61 k62 => ?_)
        obtain rfl := gfC.uniq (by decide) hg23 hg60
        refine th_iald hx hb hK hA12 0 rfl (iv_in (X := w22.toInt) rfl (by omega) (by omega)) dX3_part_102 (fun v63 e64 => ?_)
        have k65 := rd_at (p := pp) e64 (by omega)
        refine lv_goto (tgt := 107) hx hb dX3_part_103 (by decide) ?_
        refine lv_istore_n (lv' := [(2, .int v63), (0, .ref h0), (1, .int x1)]) hx hb dX3_part_107 rfl hl (by decide) rfl (fun ls hl => ?_)
        refine lv_aload_n hx hb dX3_part_108 rfl (lv_at hl 1 rfl) ?_
        refine gmIC hx hb hts inT3 hown hK hI List.not_mem_nil hG0 11 (by decide) (hts _ (tb_c wd_140)) rfl rfl dX3_part_109 (fun w66 hg67 k68 k69 => ?_)
        obtain rfl := gfC.uniq (by decide) hg26 hg67
        refine lv_bipush (v := (-2)) hx hb dX3_part_112 (by decide) ?_
        refine lv_icmp_ne (tgt := 128) hx hb dX3_part_114 (by decide) (fun c70 => ?_) (fun c70 => ?_)
        · skip
          have k71 := iv_ne (X := w25.toInt) (Y := (-2)) rfl (by decide) c70
          refine lv_iconst (v := 0) hx hb dX3_part_128 (by decide) ?_
          refine lv_istore_n (lv' := [(3, .int 0), (2, .int v63), (0, .ref h0), (1, .int x1)]) hx hb dX3_part_129 rfl hl (by decide) rfl (fun ls hl => ?_)
          refine lv_aload_n hx hb dX3_part_130 rfl (lv_at hl 2 rfl) ?_
          refine gmIC hx hb hts inT3 hown hK hI List.not_mem_nil hG0 8 (by decide) (hts _ (tb_c wd_137)) rfl rfl dX3_part_131 (fun w72 hg73 k74 k75 => ?_)
          obtain rfl := gfC.uniq (by decide) hg20 hg73
          refine lv_bipush (v := 50) hx hb dX3_part_134 (by decide) ?_
          refine lv_icmp_ge (tgt := 153) hx hb dX3_part_136 (by decide) (fun c76 => ?_) (fun c76 => ?_)
          · skip
            have k77 := iv_le (X := (50)) (Y := w19.toInt) (by decide) rfl c76
            refine lv_iconst (v := 0) hx hb dX3_part_153 (by decide) ?_
            have hpost : ((0 : Int32) = 1 ∧ ∃ p2 L2 : Nat, RC E D G h0 ft fp fn TT p2 nc L2 s.heap ∧ pp + 1 ≤ p2 ∧ pd_R ZZ YY TT (2, fl, nk, L2) p2 = XX) ∨ ((0 : Int32) = 0 ∧ ∃ p2 L2 : Nat, RC E D G h0 ft fp fn TT p2 nc L2 s.heap ∧ pp ≤ p2 ∧ XX = (p2, false)) := Or.inr ⟨rfl, pp, LL, ⟨by omega, by omega, ⟨a1, hf2, hq3, hA4⟩, ⟨a5, hf6, hq7, hA8⟩, ⟨a9, hf10, hq11, hA12⟩, ⟨w13, hg14, by first | omega | decide⟩, ⟨w16, hg17, by first | omega | decide⟩, ⟨w19, hg20, by first | omega | decide⟩, by omega, ⟨w22, hg23, by first | omega | decide⟩, ⟨w25, hg26, by first | omega | decide⟩⟩, by omega, (hpd.symm.trans (pd_E_no (fun _ h => by omega) (fun h9 h => by rcases h with ⟨h, hy⟩ | h <;> first | omega | (have := (TK.y hTK h9).mp hy; omega))))⟩
            rw [hQ]
            exact W.zret (v := 0) hx hb hr (by decide) (fun t ht hW => ⟨⟨0, 0, rfl, rfl, ⟨by rw [ht]; exact hI, hN.warm hW, va_K.moved hW.alike hK⟩, by first | (rw [ht]; exact hpost) | exact hpost⟩, hS.F ht⟩) hS.2.2 dX3_part_154
          · skip
            have k78 := iv_nle (X := (50)) (Y := w19.toInt) (by decide) rfl c76
            refine lv_iload_n hx hb dX3_part_139 rfl (lv_at hl 0 rfl) ?_
            refine lv_if_ne (tgt := 155) hx hb dX3_part_140 (by decide) (fun c => absurd c (by decide)) (fun _ => ?_)
            refine lv_aload_n hx hb dX3_part_143 rfl (lv_at hl 2 rfl) ?_
            refine gmIC hx hb hts inT3 hown hK hI List.not_mem_nil hG0 11 (by decide) (hts _ (tb_c wd_140)) rfl rfl dX3_part_144 (fun w79 hg80 k81 k82 => ?_)
            obtain rfl := gfC.uniq (by decide) hg26 hg80
            refine lv_sipush (v := 264) hx hb dX3_part_147 (by decide) ?_
            refine lv_icmp_ge (tgt := 155) hx hb dX3_part_150 (by decide) (fun c83 => ?_) (fun c83 => ?_)
            · skip
              have k84 := iv_le (X := (264)) (Y := w25.toInt) (by decide) rfl c83
              refine lv_aload_n hx hb dX3_part_155 rfl (lv_at hl 2 rfl) ?_
              refine lv_iload_n hx hb dX3_part_156 rfl (lv_at hl 0 rfl) ?_
              refine lv_if_eq (tgt := 164) hx hb dX3_part_157 (by decide) (fun _ => ?_) (fun c => absurd c (by decide))
              refine lv_iconst (v := 1) hx hb dX3_part_164 (by decide) ?_
              refine lv_iload_n hx hb dX3_part_165 rfl (lv_at hl 0 rfl) ?_
              refine lv_if_eq (tgt := 173) hx hb dX3_part_166 (by decide) (fun _ => ?_) (fun c => absurd c (by decide))
              refine lv_aload_n hx hb dX3_part_173 rfl (lv_at hl 2 rfl) ?_
              refine gmIC hx hb hts inT3 hown hK hI List.not_mem_nil hG0 11 (by decide) (hts _ (tb_c wd_140)) rfl rfl dX3_part_174 (fun w85 hg86 k87 k88 => ?_)
              obtain rfl := gfC.uniq (by decide) hg26 hg86
              refine lv_sipush (v := 264) hx hb dX3_part_177 (by decide) ?_
              refine lv_isub hx hb dX3_part_180 ?_
              refine lv_topi (fun v89 e90 => ?_)
              have tv89 : v89.toInt = w25.toInt - (264) := iv_sub rfl (by decide) e90 (by omega) (by omega)
              refine nx_i (As := [.int 1, .int v89]) (rest := []) (n := 2) (d := 0) ⟨hx, hb, hml, hown, hts⟩ (c_X3_emit l E D G h0 hG0 1 v89 ft fp fn TT pp nc LL) wd_723 wd_725 wp_17 wd_5 wd_726 (by decide +kernel) ⟨by rw [hR]; show 0 + 1 ≤ 2 + 2 * k; omega, by rw [hR]; show 8 + (3 + 11) + 40 * (0) ≤ 40 * (2 + 2 * k); omega⟩ hI hN hK hS hG0 (⟨by omega, by omega, ⟨a1, hf2, hq3, hA4⟩, ⟨a5, hf6, hq7, hA8⟩, ⟨a9, hf10, hq11, hA12⟩, ⟨w13, hg14, by first | omega | decide⟩, ⟨w16, hg17, by first | omega | decide⟩, ⟨w19, hg20, by first | omega | decide⟩, by omega, ⟨w22, hg23, by first | omega | decide⟩, ⟨w25, hg26, by first | omega | decide⟩⟩) rfl hl.1 rfl (Nat.le_of_ble_eq_true rfl) dX3_part_181 ⟨Nat.zero_le _, Nat.zero_le _⟩ (fun r91 H locs hI hp hS => ?_)
              obtain ⟨hT4, hn12, ⟨a92, hf93, hq94, hA95⟩, ⟨a96, hf97, hq98, hA99⟩, ⟨a100, hf101, hq102, hA103⟩, ⟨w104, hg105, k106⟩, ⟨w107, hg108, k109⟩, ⟨w110, hg111, k112⟩, hpT, ⟨w113, hg114, k115⟩, ⟨w116, hg117, k118⟩⟩ := hp
              have k119 := iv_lo w110
              have k120 := iv_hi w110
              have k121 := TK.at hTK hpT
              refine lv_pop hx hb dX3_part_184 rfl ?_
              refine lv_aload_n hx hb dX3_part_185 rfl (lv_at hl 2 rfl) ?_
              refine lv_dup hx hb dX3_part_186 rfl ?_
              refine gmIC hx hb hts inT3 hown hK hI List.not_mem_nil hG0 8 (by decide) (hts _ (tb_c wd_137)) rfl rfl dX3_part_187 (fun w122 hg123 k124 k125 => ?_)
              obtain rfl := gfC.uniq (by decide) hg111 hg123
              refine lv_iconst (v := 1) hx hb dX3_part_190 (by decide) ?_
              refine lv_iadd hx hb dX3_part_191 ?_
              refine lv_topi (fun v126 e127 => ?_)
              try have tv126 : v126.toInt = w110.toInt + (1) := iv_add rfl (by decide) e127 (by omega) (by omega)
              have k128 := iv_lo v126
              have k129 := iv_hi v126
              refine pmIC (ty := .int) hx hb hts inT3 hown hK hI List.not_mem_nil hG0 hS ⟨_, hG0⟩ 8 (by decide) (hts _ (tb_c wd_137)) rfl rfl (by decide +kernel) rfl rfl rfl (by omega) (by omega) dX3_part_192 (fun H locs hI hgP hS => ?_)
              have hg105 := hgP.2.2.1 6 _ (by decide) (by decide) hg105
              have hg108 := hgP.2.2.1 7 _ (by decide) (by decide) hg108
              have hg114 := hgP.2.2.1 10 _ (by decide) (by decide) hg114
              have hg117 := hgP.2.2.1 11 _ (by decide) (by decide) hg117
              have hg130 := hgP.2.1
              have hf93 := hgP.2.2.2 3 _ (by decide) (by decide) hf93
              have hf97 := hgP.2.2.2 4 _ (by decide) (by decide) hf97
              have hf101 := hgP.2.2.2 5 _ (by decide) (by decide) hf101
              have hA95 := va_at.kept hA95 (hgP.1 _ (m_ne hq94 hG0 (by first | decide | (dsimp only; decide))))
              have hA99 := va_at.kept hA99 (hgP.1 _ (m_ne hq98 hG0 (by first | decide | (dsimp only; decide))))
              have hA103 := va_at.kept hA103 (hgP.1 _ (m_ne hq102 hG0 (by first | decide | (dsimp only; decide))))
              refine lv_aload_n hx hb dX3_part_195 rfl (lv_at hl 2 rfl) ?_
              refine lv_aload_n hx hb dX3_part_196 rfl (lv_at hl 2 rfl) ?_
              refine gmIC hx hb hts inT3 hown hK hI List.not_mem_nil hG0 10 (by decide) (hts _ (tb_c wd_139)) rfl rfl dX3_part_197 (fun w131 hg132 k133 k134 => ?_)
              obtain rfl := gfC.uniq (by decide) hg114 hg132
              refine lv_iconst (v := 1) hx hb dX3_part_200 (by decide) ?_
              refine lv_iadd hx hb dX3_part_201 ?_
              refine lv_topi (fun v135 e136 => ?_)
              have tv135 : v135.toInt = w113.toInt + (1) := iv_add rfl (by decide) e136 (by omega) (by omega)
              have hpd137 : pd_R ZZ YY TT (2, fl, nk, LL + 1) (pp + 1) = XX := (pd_E_lf (by omega) (by first | exact Or.inr ⟨by omega, by omega⟩ | exact Or.inl ⟨by omega, (TK.y hTK (by omega)).mpr (by omega)⟩) (by omega)).symm.trans hpd
              refine nx_v (As := [.int v135]) (rest := []) (n := 1) (d := 0) ⟨hx, hb, hml, hown, hts⟩ (c_X3_moveTo l E D G h0 hG0 v135 ft fp fn TT (pp + 1) nc (LL + 1) (by first | omega | decide) (by omega)) wd_707 wd_709 wp_13 wd_5 wd_710 (by decide +kernel) ⟨by rw [hR]; show 0 + 1 ≤ 2 + 2 * k; omega, by rw [hR]; show 8 + (2 + 11) + 40 * (0) ≤ 40 * (2 + 2 * k); omega⟩ hI hN hK hS hG0 (⟨by omega, by omega, ⟨a92, hf93, hq94, hA95⟩, ⟨a96, hf97, hq98, hA99⟩, ⟨a100, hf101, hq102, hA103⟩, ⟨w104, hg105, by first | omega | decide⟩, ⟨w107, hg108, by first | omega | decide⟩, ⟨v126, hg130, by first | omega | decide⟩⟩) rfl hl.1 rfl (Nat.le_of_ble_eq_true rfl) dX3_part_202 ⟨Nat.zero_le _, Nat.zero_le _⟩ (fun H locs hI hp hS => ?_)
              obtain ⟨hT4, hn12, ⟨a139, hf140, hq141, hA142⟩, ⟨a143, hf144, hq145, hA146⟩, ⟨a147, hf148, hq149, hA150⟩, ⟨w151, hg152, k153⟩, ⟨w154, hg155, k156⟩, ⟨w157, hg158, k159⟩, hpT, ⟨w160, hg161, k162⟩, ⟨w163, hg164, k165⟩⟩ := hp
              have k166 := iv_lo w157
              have k167 := iv_hi w157
              have k168 := TK.at hTK hpT
              refine lv_iconst (v := 1) hx hb dX3_part_205 (by decide) ?_
              have hpost : ((1 : Int32) = 1 ∧ ∃ p2 L2 : Nat, RC E D G h0 ft fp fn TT p2 nc L2 H ∧ pp + 1 ≤ p2 ∧ pd_R ZZ YY TT (2, fl, nk, L2) p2 = XX) ∨ ((1 : Int32) = 0 ∧ ∃ p2 L2 : Nat, RC E D G h0 ft fp fn TT p2 nc L2 H ∧ pp ≤ p2 ∧ XX = (p2, false)) := Or.inl ⟨rfl, (pp + 1), (LL + 1), ⟨by omega, by omega, ⟨a139, hf140, hq141, hA142⟩, ⟨a143, hf144, hq145, hA146⟩, ⟨a147, hf148, hq149, hA150⟩, ⟨w151, hg152, by first | omega | decide⟩, ⟨w154, hg155, by first | omega | decide⟩, ⟨w157, hg158, by first | omega | decide⟩, by omega, ⟨w160, hg161, by first | omega | decide⟩, ⟨w163, hg164, by first | omega | decide⟩⟩, by omega, hpd137⟩
              rw [hQ]
              exact W.zret (v := 1) hx hb hr (by decide) (fun t ht hW => ⟨⟨1, 1, rfl, rfl, ⟨by rw [ht]; exact hI, hN.warm hW, va_K.moved hW.alike hK⟩, by first | (rw [ht]; exact hpost) | exact hpost⟩, hS.F ht⟩) hS.2.2 dX3_part_206
            · skip
              have k169 := iv_nle (X := (264)) (Y := w25.toInt) (by decide) rfl c83
              refine lv_iconst (v := 0) hx hb dX3_part_153 (by decide) ?_
              have hpost : ((0 : Int32) = 1 ∧ ∃ p2 L2 : Nat, RC E D G h0 ft fp fn TT p2 nc L2 s.heap ∧ pp + 1 ≤ p2 ∧ pd_R ZZ YY TT (2, fl, nk, L2) p2 = XX) ∨ ((0 : Int32) = 0 ∧ ∃ p2 L2 : Nat, RC E D G h0 ft fp fn TT p2 nc L2 s.heap ∧ pp ≤ p2 ∧ XX = (p2, false)) := Or.inr ⟨rfl, pp, LL, ⟨by omega, by omega, ⟨a1, hf2, hq3, hA4⟩, ⟨a5, hf6, hq7, hA8⟩, ⟨a9, hf10, hq11, hA12⟩, ⟨w13, hg14, by first | omega | decide⟩, ⟨w16, hg17, by first | omega | decide⟩, ⟨w19, hg20, by first | omega | decide⟩, by omega, ⟨w22, hg23, by first | omega | decide⟩, ⟨w25, hg26, by first | omega | decide⟩⟩, by omega, (hpd.symm.trans (pd_E_no (fun _ h => by omega) (fun h9 h => by rcases h with ⟨h, hy⟩ | h <;> first | omega | (have := (TK.y hTK h9).mp hy; omega))))⟩
              rw [hQ]
              exact W.zret (v := 0) hx hb hr (by decide) (fun t ht hW => ⟨⟨0, 0, rfl, rfl, ⟨by rw [ht]; exact hI, hN.warm hW, va_K.moved hW.alike hK⟩, by first | (rw [ht]; exact hpost) | exact hpost⟩, hS.F ht⟩) hS.2.2 dX3_part_154
        · skip
          have k170 := iv_eq (X := w25.toInt) (Y := (-2)) rfl (by decide) c70
          refine lv_iload_n hx hb dX3_part_117 rfl (lv_at hl 0 rfl) ?_
          refine lv_sipush (v := 1000) hx hb dX3_part_118 (by decide) ?_
          have k171 := iv_lo v63
          have k172 := iv_hi v63
          refine lv_icmp_gt (tgt := 128) hx hb dX3_part_121 (by decide) (fun c173 => ?_) (fun c173 => ?_)
          · skip
            have k174 := iv_lt (X := (1000)) (Y := v63.toInt) (by decide) rfl c173
            refine lv_iconst (v := 0) hx hb dX3_part_128 (by decide) ?_
            refine lv_istore_n (lv' := [(3, .int 0), (2, .int v63), (0, .ref h0), (1, .int x1)]) hx hb dX3_part_129 rfl hl (by decide) rfl (fun ls hl => ?_)
            refine lv_aload_n hx hb dX3_part_130 rfl (lv_at hl 2 rfl) ?_
            refine gmIC hx hb hts inT3 hown hK hI List.not_mem_nil hG0 8 (by decide) (hts _ (tb_c wd_137)) rfl rfl dX3_part_131 (fun w175 hg176 k177 k178 => ?_)
            obtain rfl := gfC.uniq (by decide) hg20 hg176
            refine lv_bipush (v := 50) hx hb dX3_part_134 (by decide) ?_
            refine lv_icmp_ge (tgt := 153) hx hb dX3_part_136 (by decide) (fun c179 => ?_) (fun c179 => ?_)
            · skip
              have k180 := iv_le (X := (50)) (Y := w19.toInt) (by decide) rfl c179
              refine lv_iconst (v := 0) hx hb dX3_part_153 (by decide) ?_
              have hpost : ((0 : Int32) = 1 ∧ ∃ p2 L2 : Nat, RC E D G h0 ft fp fn TT p2 nc L2 s.heap ∧ pp + 1 ≤ p2 ∧ pd_R ZZ YY TT (2, fl, nk, L2) p2 = XX) ∨ ((0 : Int32) = 0 ∧ ∃ p2 L2 : Nat, RC E D G h0 ft fp fn TT p2 nc L2 s.heap ∧ pp ≤ p2 ∧ XX = (p2, false)) := Or.inr ⟨rfl, pp, LL, ⟨by omega, by omega, ⟨a1, hf2, hq3, hA4⟩, ⟨a5, hf6, hq7, hA8⟩, ⟨a9, hf10, hq11, hA12⟩, ⟨w13, hg14, by first | omega | decide⟩, ⟨w16, hg17, by first | omega | decide⟩, ⟨w19, hg20, by first | omega | decide⟩, by omega, ⟨w22, hg23, by first | omega | decide⟩, ⟨w25, hg26, by first | omega | decide⟩⟩, by omega, (hpd.symm.trans (pd_E_no (fun _ h => by omega) (fun h9 h => by rcases h with ⟨h, hy⟩ | h <;> first | omega | (have := (TK.y hTK h9).mp hy; omega))))⟩
              rw [hQ]
              exact W.zret (v := 0) hx hb hr (by decide) (fun t ht hW => ⟨⟨0, 0, rfl, rfl, ⟨by rw [ht]; exact hI, hN.warm hW, va_K.moved hW.alike hK⟩, by first | (rw [ht]; exact hpost) | exact hpost⟩, hS.F ht⟩) hS.2.2 dX3_part_154
            · skip
              have k181 := iv_nle (X := (50)) (Y := w19.toInt) (by decide) rfl c179
              refine lv_iload_n hx hb dX3_part_139 rfl (lv_at hl 0 rfl) ?_
              refine lv_if_ne (tgt := 155) hx hb dX3_part_140 (by decide) (fun c => absurd c (by decide)) (fun _ => ?_)
              refine lv_aload_n hx hb dX3_part_143 rfl (lv_at hl 2 rfl) ?_
              refine gmIC hx hb hts inT3 hown hK hI List.not_mem_nil hG0 11 (by decide) (hts _ (tb_c wd_140)) rfl rfl dX3_part_144 (fun w182 hg183 k184 k185 => ?_)
              obtain rfl := gfC.uniq (by decide) hg26 hg183
              refine lv_sipush (v := 264) hx hb dX3_part_147 (by decide) ?_
              refine lv_icmp_ge (tgt := 155) hx hb dX3_part_150 (by decide) (fun c186 => ?_) (fun c186 => ?_)
              · skip
                have k187 := iv_le (X := (264)) (Y := w25.toInt) (by decide) rfl c186
                exfalso; omega
              · skip
                have k188 := iv_nle (X := (264)) (Y := w25.toInt) (by decide) rfl c186
                refine lv_iconst (v := 0) hx hb dX3_part_153 (by decide) ?_
                have hpost : ((0 : Int32) = 1 ∧ ∃ p2 L2 : Nat, RC E D G h0 ft fp fn TT p2 nc L2 s.heap ∧ pp + 1 ≤ p2 ∧ pd_R ZZ YY TT (2, fl, nk, L2) p2 = XX) ∨ ((0 : Int32) = 0 ∧ ∃ p2 L2 : Nat, RC E D G h0 ft fp fn TT p2 nc L2 s.heap ∧ pp ≤ p2 ∧ XX = (p2, false)) := Or.inr ⟨rfl, pp, LL, ⟨by omega, by omega, ⟨a1, hf2, hq3, hA4⟩, ⟨a5, hf6, hq7, hA8⟩, ⟨a9, hf10, hq11, hA12⟩, ⟨w13, hg14, by first | omega | decide⟩, ⟨w16, hg17, by first | omega | decide⟩, ⟨w19, hg20, by first | omega | decide⟩, by omega, ⟨w22, hg23, by first | omega | decide⟩, ⟨w25, hg26, by first | omega | decide⟩⟩, by omega, (hpd.symm.trans (pd_E_no (fun _ h => by omega) (fun h9 h => by rcases h with ⟨h, hy⟩ | h <;> first | omega | (have := (TK.y hTK h9).mp hy; omega))))⟩
                rw [hQ]
                exact W.zret (v := 0) hx hb hr (by decide) (fun t ht hW => ⟨⟨0, 0, rfl, rfl, ⟨by rw [ht]; exact hI, hN.warm hW, va_K.moved hW.alike hK⟩, by first | (rw [ht]; exact hpost) | exact hpost⟩, hS.F ht⟩) hS.2.2 dX3_part_154
          · skip
            have k189 := iv_nlt (X := (1000)) (Y := v63.toInt) (by decide) rfl c173
            refine lv_iconst (v := 1) hx hb dX3_part_124 (by decide) ?_
            refine lv_goto (tgt := 129) hx hb dX3_part_125 (by decide) ?_
            refine lv_istore_n (lv' := [(3, .int 1), (2, .int v63), (0, .ref h0), (1, .int x1)]) hx hb dX3_part_129 rfl hl (by decide) rfl (fun ls hl => ?_)
            refine lv_aload_n hx hb dX3_part_130 rfl (lv_at hl 2 rfl) ?_
            refine gmIC hx hb hts inT3 hown hK hI List.not_mem_nil hG0 8 (by decide) (hts _ (tb_c wd_137)) rfl rfl dX3_part_131 (fun w190 hg191 k192 k193 => ?_)
            obtain rfl := gfC.uniq (by decide) hg20 hg191
            refine lv_bipush (v := 50) hx hb dX3_part_134 (by decide) ?_
            refine lv_icmp_ge (tgt := 153) hx hb dX3_part_136 (by decide) (fun c194 => ?_) (fun c194 => ?_)
            · skip
              have k195 := iv_le (X := (50)) (Y := w19.toInt) (by decide) rfl c194
              refine lv_iconst (v := 0) hx hb dX3_part_153 (by decide) ?_
              have hpost : ((0 : Int32) = 1 ∧ ∃ p2 L2 : Nat, RC E D G h0 ft fp fn TT p2 nc L2 s.heap ∧ pp + 1 ≤ p2 ∧ pd_R ZZ YY TT (2, fl, nk, L2) p2 = XX) ∨ ((0 : Int32) = 0 ∧ ∃ p2 L2 : Nat, RC E D G h0 ft fp fn TT p2 nc L2 s.heap ∧ pp ≤ p2 ∧ XX = (p2, false)) := Or.inr ⟨rfl, pp, LL, ⟨by omega, by omega, ⟨a1, hf2, hq3, hA4⟩, ⟨a5, hf6, hq7, hA8⟩, ⟨a9, hf10, hq11, hA12⟩, ⟨w13, hg14, by first | omega | decide⟩, ⟨w16, hg17, by first | omega | decide⟩, ⟨w19, hg20, by first | omega | decide⟩, by omega, ⟨w22, hg23, by first | omega | decide⟩, ⟨w25, hg26, by first | omega | decide⟩⟩, by omega, (hpd.symm.trans (pd_E_no (fun _ h => by omega) (fun h9 h => by rcases h with ⟨h, hy⟩ | h <;> first | omega | (have := (TK.y hTK h9).mp hy; omega))))⟩
              rw [hQ]
              exact W.zret (v := 0) hx hb hr (by decide) (fun t ht hW => ⟨⟨0, 0, rfl, rfl, ⟨by rw [ht]; exact hI, hN.warm hW, va_K.moved hW.alike hK⟩, by first | (rw [ht]; exact hpost) | exact hpost⟩, hS.F ht⟩) hS.2.2 dX3_part_154
            · skip
              have k196 := iv_nle (X := (50)) (Y := w19.toInt) (by decide) rfl c194
              refine lv_iload_n hx hb dX3_part_139 rfl (lv_at hl 0 rfl) ?_
              refine lv_if_ne (tgt := 155) hx hb dX3_part_140 (by decide) (fun _ => ?_) (fun c => absurd c (by decide))
              refine lv_aload_n hx hb dX3_part_155 rfl (lv_at hl 2 rfl) ?_
              refine lv_iload_n hx hb dX3_part_156 rfl (lv_at hl 0 rfl) ?_
              refine lv_if_eq (tgt := 164) hx hb dX3_part_157 (by decide) (fun c => absurd c (by decide)) (fun _ => ?_)
              refine lv_iconst (v := 0) hx hb dX3_part_160 (by decide) ?_
              refine lv_goto (tgt := 165) hx hb dX3_part_161 (by decide) ?_
              refine lv_iload_n hx hb dX3_part_165 rfl (lv_at hl 0 rfl) ?_
              refine lv_if_eq (tgt := 173) hx hb dX3_part_166 (by decide) (fun c => absurd c (by decide)) (fun _ => ?_)
              refine lv_iload_n hx hb dX3_part_169 rfl (lv_at hl 1 rfl) ?_
              refine lv_goto (tgt := 181) hx hb dX3_part_170 (by decide) ?_
              refine nx_i (As := [.int 0, .int v63]) (rest := []) (n := 2) (d := 0) ⟨hx, hb, hml, hown, hts⟩ (c_X3_emit l E D G h0 hG0 0 v63 ft fp fn TT pp nc LL) wd_723 wd_725 wp_17 wd_5 wd_726 (by decide +kernel) ⟨by rw [hR]; show 0 + 1 ≤ 2 + 2 * k; omega, by rw [hR]; show 8 + (3 + 11) + 40 * (0) ≤ 40 * (2 + 2 * k); omega⟩ hI hN hK hS hG0 (⟨by omega, by omega, ⟨a1, hf2, hq3, hA4⟩, ⟨a5, hf6, hq7, hA8⟩, ⟨a9, hf10, hq11, hA12⟩, ⟨w13, hg14, by first | omega | decide⟩, ⟨w16, hg17, by first | omega | decide⟩, ⟨w19, hg20, by first | omega | decide⟩, by omega, ⟨w22, hg23, by first | omega | decide⟩, ⟨w25, hg26, by first | omega | decide⟩⟩) rfl hl.1 rfl (Nat.le_of_ble_eq_true rfl) dX3_part_181 ⟨Nat.zero_le _, Nat.zero_le _⟩ (fun r197 H locs hI hp hS => ?_)
              obtain ⟨hT4, hn12, ⟨a198, hf199, hq200, hA201⟩, ⟨a202, hf203, hq204, hA205⟩, ⟨a206, hf207, hq208, hA209⟩, ⟨w210, hg211, k212⟩, ⟨w213, hg214, k215⟩, ⟨w216, hg217, k218⟩, hpT, ⟨w219, hg220, k221⟩, ⟨w222, hg223, k224⟩⟩ := hp
              have k225 := iv_lo w216
              have k226 := iv_hi w216
              have k227 := TK.at hTK hpT
              refine lv_pop hx hb dX3_part_184 rfl ?_
              refine lv_aload_n hx hb dX3_part_185 rfl (lv_at hl 2 rfl) ?_
              refine lv_dup hx hb dX3_part_186 rfl ?_
              refine gmIC hx hb hts inT3 hown hK hI List.not_mem_nil hG0 8 (by decide) (hts _ (tb_c wd_137)) rfl rfl dX3_part_187 (fun w228 hg229 k230 k231 => ?_)
              obtain rfl := gfC.uniq (by decide) hg217 hg229
              refine lv_iconst (v := 1) hx hb dX3_part_190 (by decide) ?_
              refine lv_iadd hx hb dX3_part_191 ?_
              refine lv_topi (fun v232 e233 => ?_)
              try have tv232 : v232.toInt = w216.toInt + (1) := iv_add rfl (by decide) e233 (by omega) (by omega)
              have k234 := iv_lo v232
              have k235 := iv_hi v232
              refine pmIC (ty := .int) hx hb hts inT3 hown hK hI List.not_mem_nil hG0 hS ⟨_, hG0⟩ 8 (by decide) (hts _ (tb_c wd_137)) rfl rfl (by decide +kernel) rfl rfl rfl (by omega) (by omega) dX3_part_192 (fun H locs hI hgP hS => ?_)
              have hg211 := hgP.2.2.1 6 _ (by decide) (by decide) hg211
              have hg214 := hgP.2.2.1 7 _ (by decide) (by decide) hg214
              have hg220 := hgP.2.2.1 10 _ (by decide) (by decide) hg220
              have hg223 := hgP.2.2.1 11 _ (by decide) (by decide) hg223
              have hg236 := hgP.2.1
              have hf199 := hgP.2.2.2 3 _ (by decide) (by decide) hf199
              have hf203 := hgP.2.2.2 4 _ (by decide) (by decide) hf203
              have hf207 := hgP.2.2.2 5 _ (by decide) (by decide) hf207
              have hA201 := va_at.kept hA201 (hgP.1 _ (m_ne hq200 hG0 (by first | decide | (dsimp only; decide))))
              have hA205 := va_at.kept hA205 (hgP.1 _ (m_ne hq204 hG0 (by first | decide | (dsimp only; decide))))
              have hA209 := va_at.kept hA209 (hgP.1 _ (m_ne hq208 hG0 (by first | decide | (dsimp only; decide))))
              refine lv_aload_n hx hb dX3_part_195 rfl (lv_at hl 2 rfl) ?_
              refine lv_aload_n hx hb dX3_part_196 rfl (lv_at hl 2 rfl) ?_
              refine gmIC hx hb hts inT3 hown hK hI List.not_mem_nil hG0 10 (by decide) (hts _ (tb_c wd_139)) rfl rfl dX3_part_197 (fun w237 hg238 k239 k240 => ?_)
              obtain rfl := gfC.uniq (by decide) hg220 hg238
              refine lv_iconst (v := 1) hx hb dX3_part_200 (by decide) ?_
              refine lv_iadd hx hb dX3_part_201 ?_
              refine lv_topi (fun v241 e242 => ?_)
              have tv241 : v241.toInt = w219.toInt + (1) := iv_add rfl (by decide) e242 (by omega) (by omega)
              have hpd243 : pd_R ZZ YY TT (2, fl, nk, LL + 1) (pp + 1) = XX := (pd_E_lf (by omega) (by first | exact Or.inr ⟨by omega, by omega⟩ | exact Or.inl ⟨by omega, (TK.y hTK (by omega)).mpr (by omega)⟩) (by omega)).symm.trans hpd
              refine nx_v (As := [.int v241]) (rest := []) (n := 1) (d := 0) ⟨hx, hb, hml, hown, hts⟩ (c_X3_moveTo l E D G h0 hG0 v241 ft fp fn TT (pp + 1) nc (LL + 1) (by first | omega | decide) (by omega)) wd_707 wd_709 wp_13 wd_5 wd_710 (by decide +kernel) ⟨by rw [hR]; show 0 + 1 ≤ 2 + 2 * k; omega, by rw [hR]; show 8 + (2 + 11) + 40 * (0) ≤ 40 * (2 + 2 * k); omega⟩ hI hN hK hS hG0 (⟨by omega, by omega, ⟨a198, hf199, hq200, hA201⟩, ⟨a202, hf203, hq204, hA205⟩, ⟨a206, hf207, hq208, hA209⟩, ⟨w210, hg211, by first | omega | decide⟩, ⟨w213, hg214, by first | omega | decide⟩, ⟨v232, hg236, by first | omega | decide⟩⟩) rfl hl.1 rfl (Nat.le_of_ble_eq_true rfl) dX3_part_202 ⟨Nat.zero_le _, Nat.zero_le _⟩ (fun H locs hI hp hS => ?_)
              obtain ⟨hT4, hn12, ⟨a245, hf246, hq247, hA248⟩, ⟨a249, hf250, hq251, hA252⟩, ⟨a253, hf254, hq255, hA256⟩, ⟨w257, hg258, k259⟩, ⟨w260, hg261, k262⟩, ⟨w263, hg264, k265⟩, hpT, ⟨w266, hg267, k268⟩, ⟨w269, hg270, k271⟩⟩ := hp
              have k272 := iv_lo w263
              have k273 := iv_hi w263
              have k274 := TK.at hTK hpT
              refine lv_iconst (v := 1) hx hb dX3_part_205 (by decide) ?_
              have hpost : ((1 : Int32) = 1 ∧ ∃ p2 L2 : Nat, RC E D G h0 ft fp fn TT p2 nc L2 H ∧ pp + 1 ≤ p2 ∧ pd_R ZZ YY TT (2, fl, nk, L2) p2 = XX) ∨ ((1 : Int32) = 0 ∧ ∃ p2 L2 : Nat, RC E D G h0 ft fp fn TT p2 nc L2 H ∧ pp ≤ p2 ∧ XX = (p2, false)) := Or.inl ⟨rfl, (pp + 1), (LL + 1), ⟨by omega, by omega, ⟨a245, hf246, hq247, hA248⟩, ⟨a249, hf250, hq251, hA252⟩, ⟨a253, hf254, hq255, hA256⟩, ⟨w257, hg258, by first | omega | decide⟩, ⟨w260, hg261, by first | omega | decide⟩, ⟨w263, hg264, by first | omega | decide⟩, by omega, ⟨w266, hg267, by first | omega | decide⟩, ⟨w269, hg270, by first | omega | decide⟩⟩, by omega, hpd243⟩
              rw [hQ]
              exact W.zret (v := 1) hx hb hr (by decide) (fun t ht hW => ⟨⟨1, 1, rfl, rfl, ⟨by rw [ht]; exact hI, hN.warm hW, va_K.moved hW.alike hK⟩, by first | (rw [ht]; exact hpost) | exact hpost⟩, hS.F ht⟩) hS.2.2 dX3_part_206
  · skip
    have k275 := iv_eq (X := w25.toInt) (Y := (91)) rfl (by decide) c37
    refine lv_iload_n hx hb dX3_part_9 rfl (lv_at hl 1 rfl) ?_
    refine lv_bipush (v := 8) hx hb dX3_part_10 (by decide) ?_
    refine lv_icmp_lt (tgt := 17) hx hb dX3_part_12 (by decide) (fun c276 => ?_) (fun c276 => ?_)
    · skip
      have k277 := iv_lt (X := x1.toInt) (Y := (8)) rfl (by decide) c276
      refine lv_aload_n hx hb dX3_part_17 rfl (lv_at hl 0 rfl) ?_
      refine lv_aload_n hx hb dX3_part_18 rfl (lv_at hl 0 rfl) ?_
      refine gmIC hx hb hts inT3 hown hK hI List.not_mem_nil hG0 10 (by decide) (hts _ (tb_c wd_139)) rfl rfl dX3_part_19 (fun w278 hg279 k280 k281 => ?_)
      obtain rfl := gfC.uniq (by decide) hg23 hg279
      refine lv_iconst (v := 1) hx hb dX3_part_22 (by decide) ?_
      refine lv_iadd hx hb dX3_part_23 ?_
      refine lv_topi (fun v282 e283 => ?_)
      have tv282 : v282.toInt = w22.toInt + (1) := iv_add rfl (by decide) e283 (by omega) (by omega)
      have hpd284 : pd_R ZZ YY TT (1, 3 :: fl, nk, LL) (pp + 1) = XX := (pd_E_br (by omega) (by omega) (by omega)).symm.trans hpd
      refine nx_v (As := [.int v282]) (rest := []) (n := 1) (d := 0) ⟨hx, hb, hml, hown, hts⟩ (c_X3_moveTo l E D G h0 hG0 v282 ft fp fn TT (pp + 1) nc LL (by first | omega | decide) (by omega)) wd_707 wd_709 wp_13 wd_5 wd_710 (by decide +kernel) ⟨by rw [hR]; show 0 + 1 ≤ 2 + 2 * k; omega, by rw [hR]; show 8 + (2 + 11) + 40 * (0) ≤ 40 * (2 + 2 * k); omega⟩ hI hN hK hS hG0 (⟨by omega, by omega, ⟨a1, hf2, hq3, hA4⟩, ⟨a5, hf6, hq7, hA8⟩, ⟨a9, hf10, hq11, hA12⟩, ⟨w13, hg14, by first | omega | decide⟩, ⟨w16, hg17, by first | omega | decide⟩, ⟨w19, hg20, by first | omega | decide⟩⟩) rfl hl.1 rfl (Nat.le_of_ble_eq_true rfl) dX3_part_24 ⟨Nat.zero_le _, Nat.zero_le _⟩ (fun H locs hI hp hS => ?_)
      obtain ⟨hT4, hn12, ⟨a286, hf287, hq288, hA289⟩, ⟨a290, hf291, hq292, hA293⟩, ⟨a294, hf295, hq296, hA297⟩, ⟨w298, hg299, k300⟩, ⟨w301, hg302, k303⟩, ⟨w304, hg305, k306⟩, hpT, ⟨w307, hg308, k309⟩, ⟨w310, hg311, k312⟩⟩ := hp
      have k313 := iv_lo w304
      have k314 := iv_hi w304
      have k315 := TK.at hTK hpT
      refine lv_aload_n hx hb dX3_part_27 rfl (lv_at hl 0 rfl) ?_
      refine lv_iload_n hx hb dX3_part_28 rfl (lv_at hl 1 rfl) ?_
      refine lv_iconst (v := 1) hx hb dX3_part_29 (by decide) ?_
      refine lv_iadd hx hb dX3_part_30 ?_
      refine lv_topi (fun v316 e317 => ?_)
      have tv316 : v316.toInt = x1.toInt + (1) := iv_add rfl (by decide) e317 (by omega) (by omega)
      refine nx_i (As := [.int v316]) (rest := []) (n := 1) (d := (3 + 2 * (k - 1))) ⟨hx, hb, hml, hown, hts⟩ (c_X3_sum l E D G (k - 1) h0 hG0 v316 ft fp fn TT (pp + 1) nc LL ZZ YY nk XX hTK (dd + 1) (by first | decide | omega) (by omega) (by omega) (3 :: fl) (by rw [pd_dp3, hdp]) hpd284 (ih (k - 1) (by omega))) wd_715 wd_717 wp_15 wd_5 wd_718 (by decide +kernel) ⟨by rw [hR]; show (3 + 2 * (k - 1)) + 1 ≤ 2 + 2 * k; omega, by rw [hR]; show 8 + (7 + 11) + 40 * ((3 + 2 * (k - 1))) ≤ 40 * (2 + 2 * k); omega⟩ hI hN hK hS hG0 (⟨by omega, by omega, ⟨a286, hf287, hq288, hA289⟩, ⟨a290, hf291, hq292, hA293⟩, ⟨a294, hf295, hq296, hA297⟩, ⟨w298, hg299, by first | omega | decide⟩, ⟨w301, hg302, by first | omega | decide⟩, ⟨w304, hg305, by first | omega | decide⟩, by omega, ⟨w307, hg308, by first | omega | decide⟩, ⟨w310, hg311, by first | omega | decide⟩⟩) rfl hl.1 rfl (Nat.le_of_ble_eq_true rfl) dX3_part_31 ⟨Nat.zero_le _, Nat.zero_le _⟩ (fun r318 H locs hI hp hS => ?_)
      rcases hp with ⟨rfl, hp⟩ | ⟨rfl, hp⟩
      · skip
        try simp only [rg, not_and, Int.not_le] at hp
        have hp319 := hp
        obtain ⟨pn320, Ln321, hE, k322, hpd323, hno324⟩ := hp319
        have hp319 : True := trivial
        obtain ⟨hT4, hn12, ⟨a325, hf326, hq327, hA328⟩, ⟨a329, hf330, hq331, hA332⟩, ⟨a333, hf334, hq335, hA336⟩, ⟨w337, hg338, k339⟩, ⟨w340, hg341, k342⟩, ⟨w343, hg344, k345⟩, hpT, ⟨w346, hg347, k348⟩, ⟨w349, hg350, k351⟩⟩ := hE
        have k352 := iv_lo w343
        have k353 := iv_hi w343
        have k354 := TK.at hTK hpT
        refine lv_if_eq (tgt := 50) hx hb dX3_part_34 (by decide) (fun c => absurd c (by decide)) (fun _ => ?_)
        refine lv_aload_n hx hb dX3_part_37 rfl (lv_at hl 0 rfl) ?_
        refine gmIC hx hb hts inT3 hown hK hI List.not_mem_nil hG0 11 (by decide) (hts _ (tb_c wd_140)) rfl rfl dX3_part_38 (fun w355 hg356 k357 k358 => ?_)
        obtain rfl := gfC.uniq (by decide) hg350 hg356
        refine lv_bipush (v := 93) hx hb dX3_part_41 (by decide) ?_
        have k359 := iv_lo w349
        have k360 := iv_hi w349
        refine lv_icmp_ne (tgt := 50) hx hb dX3_part_43 (by decide) (fun c361 => ?_) (fun c361 => ?_)
        · skip
          have k362 := iv_ne (X := w349.toInt) (Y := (93)) rfl (by decide) c361
          refine lv_iconst (v := 0) hx hb dX3_part_50 (by decide) ?_
          refine lv_istore_n (lv' := [(2, .int 0), (0, .ref h0), (1, .int x1)]) hx hb dX3_part_51 rfl hl (by decide) rfl (fun ls hl => ?_)
          refine lv_aload_n hx hb dX3_part_52 rfl (lv_at hl 1 rfl) ?_
          refine lv_iload_n hx hb dX3_part_53 rfl (lv_at hl 0 rfl) ?_
          refine lv_if_eq (tgt := 66) hx hb dX3_part_54 (by decide) (fun _ => ?_) (fun c => absurd c (by decide))
          refine lv_aload_n hx hb dX3_part_66 rfl (lv_at hl 1 rfl) ?_
          refine gmIC hx hb hts inT3 hown hK hI List.not_mem_nil hG0 10 (by decide) (hts _ (tb_c wd_139)) rfl rfl dX3_part_67 (fun w363 hg364 k365 k366 => ?_)
          obtain rfl := gfC.uniq (by decide) hg347 hg364
          refine nx_v (As := [.int w346]) (rest := []) (n := 1) (d := 0) ⟨hx, hb, hml, hown, hts⟩ (c_X3_moveTo l E D G h0 hG0 w346 ft fp fn TT pn320 nc Ln321 (by first | omega | decide) (by omega)) wd_707 wd_709 wp_13 wd_5 wd_710 (by decide +kernel) ⟨by rw [hR]; show 0 + 1 ≤ 2 + 2 * k; omega, by rw [hR]; show 8 + (2 + 11) + 40 * (0) ≤ 40 * (2 + 2 * k); omega⟩ hI hN hK hS hG0 (⟨by omega, by omega, ⟨a325, hf326, hq327, hA328⟩, ⟨a329, hf330, hq331, hA332⟩, ⟨a333, hf334, hq335, hA336⟩, ⟨w337, hg338, by first | omega | decide⟩, ⟨w340, hg341, by first | omega | decide⟩, ⟨w343, hg344, by first | omega | decide⟩⟩) rfl hl.1 rfl (Nat.le_of_ble_eq_true rfl) dX3_part_70 ⟨Nat.zero_le _, Nat.zero_le _⟩ (fun H locs hI hp hS => ?_)
          obtain ⟨hT4, hn12, ⟨a368, hf369, hq370, hA371⟩, ⟨a372, hf373, hq374, hA375⟩, ⟨a376, hf377, hq378, hA379⟩, ⟨w380, hg381, k382⟩, ⟨w383, hg384, k385⟩, ⟨w386, hg387, k388⟩, hpT, ⟨w389, hg390, k391⟩, ⟨w392, hg393, k394⟩⟩ := hp
          have k395 := iv_lo w386
          have k396 := iv_hi w386
          have k397 := TK.at hTK hpT
          refine lv_iload_n hx hb dX3_part_73 rfl (lv_at hl 0 rfl) ?_
          have hpost : ((0 : Int32) = 1 ∧ ∃ p2 L2 : Nat, RC E D G h0 ft fp fn TT p2 nc L2 H ∧ pp + 1 ≤ p2 ∧ pd_R ZZ YY TT (2, fl, nk, L2) p2 = XX) ∨ ((0 : Int32) = 0 ∧ ∃ p2 L2 : Nat, RC E D G h0 ft fp fn TT p2 nc L2 H ∧ pp ≤ p2 ∧ XX = (p2, false)) := Or.inr ⟨rfl, pn320, Ln321, ⟨by omega, by omega, ⟨a368, hf369, hq370, hA371⟩, ⟨a372, hf373, hq374, hA375⟩, ⟨a376, hf377, hq378, hA379⟩, ⟨w380, hg381, by first | omega | decide⟩, ⟨w383, hg384, by first | omega | decide⟩, ⟨w386, hg387, by first | omega | decide⟩, by omega, ⟨w389, hg390, by first | omega | decide⟩, ⟨w392, hg393, by first | omega | decide⟩⟩, by omega, (hpd323.symm.trans (pd_A_brno (fun _ => ⟨by unfold pd_op; unfold oc at hno324; omega, by omega⟩)))⟩
          rw [hQ]
          exact W.zret (v := 0) hx hb hr (by decide) (fun t ht hW => ⟨⟨0, 0, rfl, rfl, ⟨by rw [ht]; exact hI, hN.warm hW, va_K.moved hW.alike hK⟩, by first | (rw [ht]; exact hpost) | exact hpost⟩, hS.F ht⟩) hS.2.2 dX3_part_74
        · skip
          have k398 := iv_eq (X := w349.toInt) (Y := (93)) rfl (by decide) c361
          refine lv_iconst (v := 1) hx hb dX3_part_46 (by decide) ?_
          refine lv_goto (tgt := 51) hx hb dX3_part_47 (by decide) ?_
          refine lv_istore_n (lv' := [(2, .int 1), (0, .ref h0), (1, .int x1)]) hx hb dX3_part_51 rfl hl (by decide) rfl (fun ls hl => ?_)
          refine lv_aload_n hx hb dX3_part_52 rfl (lv_at hl 1 rfl) ?_
          refine lv_iload_n hx hb dX3_part_53 rfl (lv_at hl 0 rfl) ?_
          refine lv_if_eq (tgt := 66) hx hb dX3_part_54 (by decide) (fun c => absurd c (by decide)) (fun _ => ?_)
          refine lv_aload_n hx hb dX3_part_57 rfl (lv_at hl 1 rfl) ?_
          refine gmIC hx hb hts inT3 hown hK hI List.not_mem_nil hG0 10 (by decide) (hts _ (tb_c wd_139)) rfl rfl dX3_part_58 (fun w399 hg400 k401 k402 => ?_)
          obtain rfl := gfC.uniq (by decide) hg347 hg400
          refine lv_iconst (v := 1) hx hb dX3_part_61 (by decide) ?_
          refine lv_iadd hx hb dX3_part_62 ?_
          refine lv_topi (fun v403 e404 => ?_)
          have tv403 : v403.toInt = w346.toInt + (1) := iv_add rfl (by decide) e404 (by omega) (by omega)
          refine lv_goto (tgt := 70) hx hb dX3_part_63 (by decide) ?_
          have hpd405 : pd_R ZZ YY TT (2, fl, nk, Ln321) (pn320 + 1) = XX := (pd_A_br (by omega) (by omega)).symm.trans hpd323
          refine nx_v (As := [.int v403]) (rest := []) (n := 1) (d := 0) ⟨hx, hb, hml, hown, hts⟩ (c_X3_moveTo l E D G h0 hG0 v403 ft fp fn TT (pn320 + 1) nc Ln321 (by first | omega | decide) (by omega)) wd_707 wd_709 wp_13 wd_5 wd_710 (by decide +kernel) ⟨by rw [hR]; show 0 + 1 ≤ 2 + 2 * k; omega, by rw [hR]; show 8 + (2 + 11) + 40 * (0) ≤ 40 * (2 + 2 * k); omega⟩ hI hN hK hS hG0 (⟨by omega, by omega, ⟨a325, hf326, hq327, hA328⟩, ⟨a329, hf330, hq331, hA332⟩, ⟨a333, hf334, hq335, hA336⟩, ⟨w337, hg338, by first | omega | decide⟩, ⟨w340, hg341, by first | omega | decide⟩, ⟨w343, hg344, by first | omega | decide⟩⟩) rfl hl.1 rfl (Nat.le_of_ble_eq_true rfl) dX3_part_70 ⟨Nat.zero_le _, Nat.zero_le _⟩ (fun H locs hI hp hS => ?_)
          obtain ⟨hT4, hn12, ⟨a407, hf408, hq409, hA410⟩, ⟨a411, hf412, hq413, hA414⟩, ⟨a415, hf416, hq417, hA418⟩, ⟨w419, hg420, k421⟩, ⟨w422, hg423, k424⟩, ⟨w425, hg426, k427⟩, hpT, ⟨w428, hg429, k430⟩, ⟨w431, hg432, k433⟩⟩ := hp
          have k434 := iv_lo w425
          have k435 := iv_hi w425
          have k436 := TK.at hTK hpT
          refine lv_iload_n hx hb dX3_part_73 rfl (lv_at hl 0 rfl) ?_
          have hpost : ((1 : Int32) = 1 ∧ ∃ p2 L2 : Nat, RC E D G h0 ft fp fn TT p2 nc L2 H ∧ pp + 1 ≤ p2 ∧ pd_R ZZ YY TT (2, fl, nk, L2) p2 = XX) ∨ ((1 : Int32) = 0 ∧ ∃ p2 L2 : Nat, RC E D G h0 ft fp fn TT p2 nc L2 H ∧ pp ≤ p2 ∧ XX = (p2, false)) := Or.inl ⟨rfl, (pn320 + 1), Ln321, ⟨by omega, by omega, ⟨a407, hf408, hq409, hA410⟩, ⟨a411, hf412, hq413, hA414⟩, ⟨a415, hf416, hq417, hA418⟩, ⟨w419, hg420, by first | omega | decide⟩, ⟨w422, hg423, by first | omega | decide⟩, ⟨w425, hg426, by first | omega | decide⟩, by omega, ⟨w428, hg429, by first | omega | decide⟩, ⟨w431, hg432, by first | omega | decide⟩⟩, by omega, hpd405⟩
          rw [hQ]
          exact W.zret (v := 1) hx hb hr (by decide) (fun t ht hW => ⟨⟨1, 1, rfl, rfl, ⟨by rw [ht]; exact hI, hN.warm hW, va_K.moved hW.alike hK⟩, by first | (rw [ht]; exact hpost) | exact hpost⟩, hS.F ht⟩) hS.2.2 dX3_part_74
      · skip
        try simp only [rg, not_and, Int.not_le] at hp
        have hp437 := hp
        obtain ⟨pn438, Ln439, hE, k440, hfl441⟩ := hp437
        have hp437 : True := trivial
        obtain ⟨hT4, hn12, ⟨a442, hf443, hq444, hA445⟩, ⟨a446, hf447, hq448, hA449⟩, ⟨a450, hf451, hq452, hA453⟩, ⟨w454, hg455, k456⟩, ⟨w457, hg458, k459⟩, ⟨w460, hg461, k462⟩, hpT, ⟨w463, hg464, k465⟩, ⟨w466, hg467, k468⟩⟩ := hE
        have k469 := iv_lo w460
        have k470 := iv_hi w460
        have k471 := TK.at hTK hpT
        refine lv_if_eq (tgt := 50) hx hb dX3_part_34 (by decide) (fun _ => ?_) (fun c => absurd c (by decide))
        refine lv_iconst (v := 0) hx hb dX3_part_50 (by decide) ?_
        refine lv_istore_n (lv' := [(2, .int 0), (0, .ref h0), (1, .int x1)]) hx hb dX3_part_51 rfl hl (by decide) rfl (fun ls hl => ?_)
        refine lv_aload_n hx hb dX3_part_52 rfl (lv_at hl 1 rfl) ?_
        refine lv_iload_n hx hb dX3_part_53 rfl (lv_at hl 0 rfl) ?_
        refine lv_if_eq (tgt := 66) hx hb dX3_part_54 (by decide) (fun _ => ?_) (fun c => absurd c (by decide))
        refine lv_aload_n hx hb dX3_part_66 rfl (lv_at hl 1 rfl) ?_
        refine gmIC hx hb hts inT3 hown hK hI List.not_mem_nil hG0 10 (by decide) (hts _ (tb_c wd_139)) rfl rfl dX3_part_67 (fun w472 hg473 k474 k475 => ?_)
        obtain rfl := gfC.uniq (by decide) hg464 hg473
        refine nx_v (As := [.int w463]) (rest := []) (n := 1) (d := 0) ⟨hx, hb, hml, hown, hts⟩ (c_X3_moveTo l E D G h0 hG0 w463 ft fp fn TT pn438 nc Ln439 (by first | omega | decide) (by omega)) wd_707 wd_709 wp_13 wd_5 wd_710 (by decide +kernel) ⟨by rw [hR]; show 0 + 1 ≤ 2 + 2 * k; omega, by rw [hR]; show 8 + (2 + 11) + 40 * (0) ≤ 40 * (2 + 2 * k); omega⟩ hI hN hK hS hG0 (⟨by omega, by omega, ⟨a442, hf443, hq444, hA445⟩, ⟨a446, hf447, hq448, hA449⟩, ⟨a450, hf451, hq452, hA453⟩, ⟨w454, hg455, by first | omega | decide⟩, ⟨w457, hg458, by first | omega | decide⟩, ⟨w460, hg461, by first | omega | decide⟩⟩) rfl hl.1 rfl (Nat.le_of_ble_eq_true rfl) dX3_part_70 ⟨Nat.zero_le _, Nat.zero_le _⟩ (fun H locs hI hp hS => ?_)
        obtain ⟨hT4, hn12, ⟨a477, hf478, hq479, hA480⟩, ⟨a481, hf482, hq483, hA484⟩, ⟨a485, hf486, hq487, hA488⟩, ⟨w489, hg490, k491⟩, ⟨w492, hg493, k494⟩, ⟨w495, hg496, k497⟩, hpT, ⟨w498, hg499, k500⟩, ⟨w501, hg502, k503⟩⟩ := hp
        have k504 := iv_lo w495
        have k505 := iv_hi w495
        have k506 := TK.at hTK hpT
        refine lv_iload_n hx hb dX3_part_73 rfl (lv_at hl 0 rfl) ?_
        have hpost : ((0 : Int32) = 1 ∧ ∃ p2 L2 : Nat, RC E D G h0 ft fp fn TT p2 nc L2 H ∧ pp + 1 ≤ p2 ∧ pd_R ZZ YY TT (2, fl, nk, L2) p2 = XX) ∨ ((0 : Int32) = 0 ∧ ∃ p2 L2 : Nat, RC E D G h0 ft fp fn TT p2 nc L2 H ∧ pp ≤ p2 ∧ XX = (p2, false)) := Or.inr ⟨rfl, pn438, Ln439, ⟨by omega, by omega, ⟨a477, hf478, hq479, hA480⟩, ⟨a481, hf482, hq483, hA484⟩, ⟨a485, hf486, hq487, hA488⟩, ⟨w489, hg490, by first | omega | decide⟩, ⟨w492, hg493, by first | omega | decide⟩, ⟨w495, hg496, by first | omega | decide⟩, by omega, ⟨w498, hg499, by first | omega | decide⟩, ⟨w501, hg502, by first | omega | decide⟩⟩, by omega, hfl441⟩
        rw [hQ]
        exact W.zret (v := 0) hx hb hr (by decide) (fun t ht hW => ⟨⟨0, 0, rfl, rfl, ⟨by rw [ht]; exact hI, hN.warm hW, va_K.moved hW.alike hK⟩, by first | (rw [ht]; exact hpost) | exact hpost⟩, hS.F ht⟩) hS.2.2 dX3_part_74
    · skip
      have k507 := iv_nlt (X := x1.toInt) (Y := (8)) rfl (by decide) c276
      refine lv_iconst (v := 0) hx hb dX3_part_15 (by decide) ?_
      have hpost : ((0 : Int32) = 1 ∧ ∃ p2 L2 : Nat, RC E D G h0 ft fp fn TT p2 nc L2 s.heap ∧ pp + 1 ≤ p2 ∧ pd_R ZZ YY TT (2, fl, nk, L2) p2 = XX) ∨ ((0 : Int32) = 0 ∧ ∃ p2 L2 : Nat, RC E D G h0 ft fp fn TT p2 nc L2 s.heap ∧ pp ≤ p2 ∧ XX = (p2, false)) := Or.inr ⟨rfl, pp, LL, ⟨by omega, by omega, ⟨a1, hf2, hq3, hA4⟩, ⟨a5, hf6, hq7, hA8⟩, ⟨a9, hf10, hq11, hA12⟩, ⟨w13, hg14, by first | omega | decide⟩, ⟨w16, hg17, by first | omega | decide⟩, ⟨w19, hg20, by first | omega | decide⟩, by omega, ⟨w22, hg23, by first | omega | decide⟩, ⟨w25, hg26, by first | omega | decide⟩⟩, by omega, (hpd.symm.trans (pd_E_no (fun _ h => by omega) (fun h9 h => by rcases h with ⟨h, hy⟩ | h <;> first | omega | (have := (TK.y hTK h9).mp hy; omega))))⟩
      rw [hQ]
      exact W.zret (v := 0) hx hb hr (by decide) (fun t ht hW => ⟨⟨0, 0, rfl, rfl, ⟨by rw [ht]; exact hI, hN.warm hW, va_K.moved hW.alike hK⟩, by first | (rw [ht]; exact hpost) | exact hpost⟩, hS.F ht⟩) hS.2.2 dX3_part_16
theorem dX3_plain_0 : decode cX3_plain 0 = .ok (.iconst 0, 1) := by decide +kernel
theorem dX3_plain_1 : decode cX3_plain 1 = .ok (.istore_n 2, 1) := by decide +kernel
theorem dX3_plain_2 : decode cX3_plain 2 = .ok (.iconst 0, 1) := by decide +kernel
theorem dX3_plain_3 : decode cX3_plain 3 = .ok (.istore_n 3, 1) := by decide +kernel
theorem dX3_plain_4 : decode cX3_plain 4 = .ok (.iload_n 3, 1) := by decide +kernel
theorem dX3_plain_5 : decode cX3_plain 5 = .ok (.sipush 400, 3) := by decide +kernel
theorem dX3_plain_8 : decode cX3_plain 8 = .ok (.if_icmp .ge 39, 3) := by decide +kernel
theorem dX3_plain_11 : decode cX3_plain 11 = .ok (.aload_n 0, 1) := by decide +kernel
theorem dX3_plain_12 : decode cX3_plain 12 = .ok (.getfield 46, 3) := by decide +kernel
theorem dX3_plain_15 : decode cX3_plain 15 = .ok (.sipush 263, 3) := by decide +kernel
theorem dX3_plain_18 : decode cX3_plain 18 = .ok (.if_icmp .ne 29, 3) := by decide +kernel
theorem dX3_plain_21 : decode cX3_plain 21 = .ok (.iload_n 2, 1) := by decide +kernel
theorem dX3_plain_22 : decode cX3_plain 22 = .ok (.ifCond .ne 7, 3) := by decide +kernel
theorem dX3_plain_25 : decode cX3_plain 25 = .ok (.iconst 1, 1) := by decide +kernel
theorem dX3_plain_26 : decode cX3_plain 26 = .ok (.goto 4, 3) := by decide +kernel
theorem dX3_plain_29 : decode cX3_plain 29 = .ok (.iconst 0, 1) := by decide +kernel
theorem dX3_plain_30 : decode cX3_plain 30 = .ok (.istore_n 2, 1) := by decide +kernel
theorem dX3_plain_31 : decode cX3_plain 31 = .ok (.aload_n 0, 1) := by decide +kernel
theorem dX3_plain_32 : decode cX3_plain 32 = .ok (.aload_n 0, 1) := by decide +kernel
theorem dX3_plain_33 : decode cX3_plain 33 = .ok (.getfield 43, 3) := by decide +kernel
theorem dX3_plain_36 : decode cX3_plain 36 = .ok (.iconst 1, 1) := by decide +kernel
theorem dX3_plain_37 : decode cX3_plain 37 = .ok (.iadd, 1) := by decide +kernel
theorem dX3_plain_38 : decode cX3_plain 38 = .ok (.invokevirtual 66, 3) := by decide +kernel
theorem dX3_plain_41 : decode cX3_plain 41 = .ok (.iinc 3 1, 3) := by decide +kernel
theorem dX3_plain_44 : decode cX3_plain 44 = .ok (.goto (-40), 3) := by decide +kernel
theorem dX3_plain_47 : decode cX3_plain 47 = .ok (.aload_n 0, 1) := by decide +kernel
theorem dX3_plain_48 : decode cX3_plain 48 = .ok (.getfield 46, 3) := by decide +kernel
theorem dX3_plain_51 : decode cX3_plain 51 = .ok (.bipush 40, 2) := by decide +kernel
theorem dX3_plain_53 : decode cX3_plain 53 = .ok (.if_icmp .ne 12, 3) := by decide +kernel
theorem dX3_plain_56 : decode cX3_plain 56 = .ok (.aload_n 0, 1) := by decide +kernel
theorem dX3_plain_57 : decode cX3_plain 57 = .ok (.iload_n 1, 1) := by decide +kernel
theorem dX3_plain_58 : decode cX3_plain 58 = .ok (.invokevirtual 112, 3) := by decide +kernel
theorem dX3_plain_61 : decode cX3_plain 61 = .ok (.istore_n 3, 1) := by decide +kernel
theorem dX3_plain_62 : decode cX3_plain 62 = .ok (.goto 87, 3) := by decide +kernel
theorem dX3_plain_65 : decode cX3_plain 65 = .ok (.aload_n 0, 1) := by decide +kernel
theorem dX3_plain_66 : decode cX3_plain 66 = .ok (.iload_n 1, 1) := by decide +kernel
theorem dX3_plain_67 : decode cX3_plain 67 = .ok (.invokevirtual 97, 3) := by decide +kernel
theorem dX3_plain_70 : decode cX3_plain 70 = .ok (.istore_n 3, 1) := by decide +kernel
theorem dX3_plain_71 : decode cX3_plain 71 = .ok (.aload_n 0, 1) := by decide +kernel
theorem dX3_plain_72 : decode cX3_plain 72 = .ok (.getfield 46, 3) := by decide +kernel
theorem dX3_plain_75 : decode cX3_plain 75 = .ok (.bipush 60, 2) := by decide +kernel
theorem dX3_plain_77 : decode cX3_plain 77 = .ok (.if_icmp .ne 8, 3) := by decide +kernel
theorem dX3_plain_80 : decode cX3_plain 80 = .ok (.bipush 7, 2) := by decide +kernel
theorem dX3_plain_82 : decode cX3_plain 82 = .ok (.goto 19, 3) := by decide +kernel
theorem dX3_plain_85 : decode cX3_plain 85 = .ok (.aload_n 0, 1) := by decide +kernel
theorem dX3_plain_86 : decode cX3_plain 86 = .ok (.getfield 46, 3) := by decide +kernel
theorem dX3_plain_89 : decode cX3_plain 89 = .ok (.bipush 62, 2) := by decide +kernel
theorem dX3_plain_91 : decode cX3_plain 91 = .ok (.if_icmp .ne 8, 3) := by decide +kernel
theorem dX3_plain_94 : decode cX3_plain 94 = .ok (.bipush 8, 2) := by decide +kernel
theorem dX3_plain_96 : decode cX3_plain 96 = .ok (.goto 5, 3) := by decide +kernel
theorem dX3_plain_99 : decode cX3_plain 99 = .ok (.bipush 9, 2) := by decide +kernel
theorem dX3_plain_101 : decode cX3_plain 101 = .ok (.istore 4, 2) := by decide +kernel
theorem dX3_plain_103 : decode cX3_plain 103 = .ok (.iload_n 3, 1) := by decide +kernel
theorem dX3_plain_104 : decode cX3_plain 104 = .ok (.ifCond .eq 19, 3) := by decide +kernel
theorem dX3_plain_107 : decode cX3_plain 107 = .ok (.iload 4, 2) := by decide +kernel
theorem dX3_plain_109 : decode cX3_plain 109 = .ok (.bipush 9, 2) := by decide +kernel
theorem dX3_plain_111 : decode cX3_plain 111 = .ok (.if_icmp .ne 14, 3) := by decide +kernel
theorem dX3_plain_114 : decode cX3_plain 114 = .ok (.aload_n 0, 1) := by decide +kernel
theorem dX3_plain_115 : decode cX3_plain 115 = .ok (.getfield 46, 3) := by decide +kernel
theorem dX3_plain_118 : decode cX3_plain 118 = .ok (.bipush 61, 2) := by decide +kernel
theorem dX3_plain_120 : decode cX3_plain 120 = .ok (.if_icmp .eq 5, 3) := by decide +kernel
theorem dX3_plain_123 : decode cX3_plain 123 = .ok (.iconst 0, 1) := by decide +kernel
theorem dX3_plain_124 : decode cX3_plain 124 = .ok (.ireturn, 1) := by decide +kernel
theorem dX3_plain_125 : decode cX3_plain 125 = .ok (.aload_n 0, 1) := by decide +kernel
theorem dX3_plain_126 : decode cX3_plain 126 = .ok (.aload_n 0, 1) := by decide +kernel
theorem dX3_plain_127 : decode cX3_plain 127 = .ok (.getfield 43, 3) := by decide +kernel
theorem dX3_plain_130 : decode cX3_plain 130 = .ok (.iconst 1, 1) := by decide +kernel
theorem dX3_plain_131 : decode cX3_plain 131 = .ok (.iadd, 1) := by decide +kernel
theorem dX3_plain_132 : decode cX3_plain 132 = .ok (.invokevirtual 66, 3) := by decide +kernel
theorem dX3_plain_135 : decode cX3_plain 135 = .ok (.aload_n 0, 1) := by decide +kernel
theorem dX3_plain_136 : decode cX3_plain 136 = .ok (.iload_n 1, 1) := by decide +kernel
theorem dX3_plain_137 : decode cX3_plain 137 = .ok (.invokevirtual 97, 3) := by decide +kernel
theorem dX3_plain_140 : decode cX3_plain 140 = .ok (.istore_n 3, 1) := by decide +kernel
theorem dX3_plain_141 : decode cX3_plain 141 = .ok (.aload_n 0, 1) := by decide +kernel
theorem dX3_plain_142 : decode cX3_plain 142 = .ok (.iload 4, 2) := by decide +kernel
theorem dX3_plain_144 : decode cX3_plain 144 = .ok (.iconst 0, 1) := by decide +kernel
theorem dX3_plain_145 : decode cX3_plain 145 = .ok (.invokevirtual 109, 3) := by decide +kernel
theorem dX3_plain_148 : decode cX3_plain 148 = .ok (.pop, 1) := by decide +kernel
theorem dX3_plain_149 : decode cX3_plain 149 = .ok (.iload_n 2, 1) := by decide +kernel
theorem dX3_plain_150 : decode cX3_plain 150 = .ok (.ifCond .eq 11, 3) := by decide +kernel
theorem dX3_plain_153 : decode cX3_plain 153 = .ok (.aload_n 0, 1) := by decide +kernel
theorem dX3_plain_154 : decode cX3_plain 154 = .ok (.bipush 10, 2) := by decide +kernel
theorem dX3_plain_156 : decode cX3_plain 156 = .ok (.iconst 0, 1) := by decide +kernel
theorem dX3_plain_157 : decode cX3_plain 157 = .ok (.invokevirtual 109, 3) := by decide +kernel
theorem dX3_plain_160 : decode cX3_plain 160 = .ok (.pop, 1) := by decide +kernel
theorem dX3_plain_161 : decode cX3_plain 161 = .ok (.iload_n 3, 1) := by decide +kernel
theorem dX3_plain_162 : decode cX3_plain 162 = .ok (.ireturn, 1) := by decide +kernel
set_option maxHeartbeats 4000000 in
set_option maxRecDepth 100000 in
theorem c_X3_plain (l : Launch) (E : Nat → Nat) (D : va_G) (G : th_G) (k : Nat) (h0 : Nat) (hG0 : G h0 = some (7, 12)) (x1 : Int32) (ft fp fn : Nat → Int32) (TT pp nc LL : Nat) (ZZ : Nat → Int) (YY : Nat → Bool) (nk : Nat) (XX : Nat × Bool) (hTK : TK ft fn TT ZZ YY) (dd : Nat) (hdd : x1.toInt = (dd : Int)) (hd8 : dd ≤ 8) (hk : 8 ≤ dd + k) (fl : List Nat) (hdp : pd_dp (fl) = dd) (hpd : pd_R ZZ YY TT (3, fl, nk, LL) pp = XX) (henc : ∀ (h0 : Nat) (hG0 : G h0 = some (7, 12)) (x1 : Int32) (ft fp fn : Nat → Int32) (TT pp nc LL : Nat) (ZZ : Nat → Int) (YY : Nat → Bool) (nk : Nat) (XX : Nat × Bool) (hTK : TK ft fn TT ZZ YY) (dd : Nat) (hdd : x1.toInt = (dd : Int)) (hd8 : dd ≤ 8) (hk : 8 ≤ dd + k) (fl : List Nat) (hdp : pd_dp (fl) = dd) (hpd : pd_R ZZ YY TT (3, fl, nk, LL) pp = XX) (hc40 : (ft pp).toInt = 40), Met l yX3_enclosed (tb (.code yX3_enclosed cX3_enclosed 3 (some .boolean))) (rm (20 + 3 * k)) (va_Pc [.ref h0, .int x1] (PCx E D G (fun H => RC E D G h0 ft fp fn TT pp nc LL H))) (QCi E D G (fun r H => ((r : Int32) = 1 ∧ ∃ p2 L2 : Nat, RC E D G h0 ft fp fn TT p2 nc L2 H ∧ pp + 1 ≤ p2 ∧ pd_R ZZ YY TT (4, fl, nk, L2) p2 = XX) ∨ ((r : Int32) = 0 ∧ ∃ p2 L2 : Nat, RC E D G h0 ft fp fn TT p2 nc L2 H ∧ pp ≤ p2 ∧ XX = (p2, false)))) 0 0 (th_A G)) : Met l yX3_plain (tb (.code yX3_plain cX3_plain 5 (some .boolean))) (rm (21 + 3 * k)) (va_Pc [.ref h0, .int x1] (PCx E D G (fun H => RC E D G h0 ft fp fn TT pp nc LL H))) (QCi E D G (fun r H => ((r : Int32) = 1 ∧ ∃ p2 L2 : Nat, RC E D G h0 ft fp fn TT p2 nc L2 H ∧ pp + 1 ≤ p2 ∧ pd_R ZZ YY TT (4, fl, nk, L2) p2 = XX) ∨ ((r : Int32) = 0 ∧ ∃ p2 L2 : Nat, RC E D G h0 ft fp fn TT p2 nc L2 H ∧ pp ≤ p2 ∧ XX = (p2, false)))) 0 0 (th_A G) := by
  refine Met.ofW (cc := cX3_plain) (maxL := 5) (ret := (some .boolean)) (by decide) rfl ?_
  intro p e s m args below meth c s₁ B hml hv
  obtain ⟨hav, ⟨hI, hN, hK⟩, hX⟩ := hv
  have hx := B.exec
  have hb := B.bytes
  have hr := B.returns
  have hts := atoms_spec (ws := tb (.code yX3_plain cX3_plain 5 (some .boolean))) B.pre
  have hown : s.vm.findClass RX3 = some m.cls := findClass_of_methodNamed B.named
  have hlocks := B.notSynchronized
  have hS : va_S (th_A G) s.heap s.heap [] := va_S.rf
  have hl := lv_entry ([.ref h0, .int x1]) (n := 5) (Nat.le_of_ble_eq_true rfl)
  rw [show entryFrame m args 5 = entryFrame m ([.ref h0, .int x1] : List Value).toArray 5 from by rw [hav], lg_entry_eq]
  generalize (lg_sl ([.ref h0, .int x1]) ++ List.replicate (5 - (lg_sl ([.ref h0, .int x1])).length) Slot.unset).toArray = ls at hl ⊢
  have hl : lv_has ls 5 [(0, .ref h0), (1, .int x1)] := hl
  generalize hR : (headSpec (tb (.code yX3_plain cX3_plain 5 (some .boolean))) (rm (21 + 3 * k))).room = R
  have hR := hR.symm
  generalize hQ : MQ below (QCi E D G (fun r H => ((r : Int32) = 1 ∧ ∃ p2 L2 : Nat, RC E D G h0 ft fp fn TT p2 nc L2 H ∧ pp + 1 ≤ p2 ∧ pd_R ZZ YY TT (4, fl, nk, L2) p2 = XX) ∨ ((r : Int32) = 0 ∧ ∃ p2 L2 : Nat, RC E D G h0 ft fp fn TT p2 nc L2 H ∧ pp ≤ p2 ∧ XX = (p2, false)))) args s 0 0 (th_A G) = QF
  have hQ := hQ.symm
  obtain ⟨hT4, hn12, ⟨a1, hf2, hq3, hA4⟩, ⟨a5, hf6, hq7, hA8⟩, ⟨a9, hf10, hq11, hA12⟩, ⟨w13, hg14, k15⟩, ⟨w16, hg17, k18⟩, ⟨w19, hg20, k21⟩, hpT, ⟨w22, hg23, k24⟩, ⟨w25, hg26, k27⟩⟩ := hX
  have k28 := iv_lo w19
  have k29 := iv_hi w19
  have k30 := TK.at hTK hpT
  have J_4 : ∀ (nn : Nat) (H : Heap) (locs : List Loc) (ls : Array Slot) (v14794 : Int32) (v14795 : Int32) (p1 : Nat), (Int.toNat (400 - v14794.toInt) = nn) → lv_has ls 5 [(3, .int v14794), (2, .int v14795), (0, .ref h0), (1, .int x1)] → ((0 : Int) ≤ v14794.toInt ∧ v14794.toInt ≤ 400) → ((0 : Int) ≤ v14795.toInt ∧ v14795.toInt ≤ 1) → ((0 : Int) ≤ x1.toInt ∧ x1.toInt ≤ 8) → (pp ≤ p1) → (v14794.toInt ≤ (p1 : Int)) → (pd_R ZZ YY TT (3, fl, nk, LL) p1 = XX) → (RC E D G h0 ft fp fn TT p1 nc LL H) → th_I (okC E) D G [] H → va_S (th_A G) s.heap H locs → W p l e R s m args below meth c H locs 0 0 QF (F0 m 4 ls []) := by
    intro nn
    induction nn using Nat.strongRecOn with
    | ind nn ih_4 =>
      intro H locs ls v14794 v14795 p1 hm hl k14796 k14797 k14798 hle1 hi1 hpi hE hI hS
      obtain ⟨hT4, hn12, ⟨a14799, hf14800, hq14801, hA14802⟩, ⟨a14803, hf14804, hq14805, hA14806⟩, ⟨a14807, hf14808, hq14809, hA14810⟩, ⟨w14811, hg14812, k14813⟩, ⟨w14814, hg14815, k14816⟩, ⟨w14817, hg14818, k14819⟩, hpT, ⟨w14820, hg14821, k14822⟩, ⟨w14823, hg14824, k14825⟩⟩ := hE
      have k14826 := iv_lo w14817
      have k14827 := iv_hi w14817
      have k14828 := TK.at hTK hpT
      refine lv_iload_n hx hb dX3_plain_4 rfl (lv_at hl 0 rfl) ?_
      refine lv_sipush (v := 400) hx hb dX3_plain_5 (by decide) ?_
      refine lv_icmp_ge (tgt := 47) hx hb dX3_plain_8 (by decide) (fun c14829 => ?_) (fun c14829 => ?_)
      · skip
        have k14830 := iv_le (X := (400)) (Y := v14794.toInt) (by decide) rfl c14829
        refine lv_aload_n hx hb dX3_plain_47 rfl (lv_at hl 2 rfl) ?_
        refine gmIC hx hb hts inT3 hown hK hI List.not_mem_nil hG0 11 (by decide) (hts _ (tb_c wd_140)) rfl rfl dX3_plain_48 (fun w14831 hg14832 k14833 k14834 => ?_)
        obtain rfl := gfC.uniq (by decide) hg14824 hg14832
        refine lv_bipush (v := 40) hx hb dX3_plain_51 (by decide) ?_
        have k14835 := iv_lo w14823
        have k14836 := iv_hi w14823
        refine lv_icmp_ne (tgt := 65) hx hb dX3_plain_53 (by decide) (fun c14837 => ?_) (fun c14837 => ?_)
        · skip
          have k14838 := iv_ne (X := w14823.toInt) (Y := (40)) rfl (by decide) c14837
          refine lv_aload_n hx hb dX3_plain_65 rfl (lv_at hl 2 rfl) ?_
          refine lv_iload_n hx hb dX3_plain_66 rfl (lv_at hl 3 rfl) ?_
          have hpd14839 : pd_R ZZ YY TT (1, 1 :: fl, nk, LL) p1 = XX := (pd_Q_E (fun h9 => ⟨by omega, by omega⟩)).symm.trans hpi
          refine nx_i (As := [.int x1]) (rest := []) (n := 1) (d := 19) ⟨hx, hb, hml, hown, hts⟩ (c_X3_sum l E D G 8 h0 hG0 x1 ft fp fn TT p1 nc LL ZZ YY nk XX hTK dd (by first | decide | omega) (by omega) (by omega) (1 :: fl) (by rw [pd_dp1, hdp]) hpd14839 (c_X3_part l E D G 8)) wd_715 wd_717 wp_15 wd_5 wd_718 (by decide +kernel) ⟨by rw [hR]; show 19 + 1 ≤ 21 + 3 * k; omega, by rw [hR]; show 8 + (7 + 11) + 40 * (19) ≤ 40 * (21 + 3 * k); omega⟩ hI hN hK hS hG0 (⟨by omega, by omega, ⟨a14799, hf14800, hq14801, hA14802⟩, ⟨a14803, hf14804, hq14805, hA14806⟩, ⟨a14807, hf14808, hq14809, hA14810⟩, ⟨w14811, hg14812, by first | omega | decide⟩, ⟨w14814, hg14815, by first | omega | decide⟩, ⟨w14817, hg14818, by first | omega | decide⟩, by omega, ⟨w14820, hg14821, by first | omega | decide⟩, ⟨w14823, hg14824, by first | omega | decide⟩⟩) rfl hl.1 rfl (Nat.le_of_ble_eq_true rfl) dX3_plain_67 ⟨Nat.zero_le _, Nat.zero_le _⟩ (fun r14840 H locs hI hp hS => ?_)
          rcases hp with ⟨rfl, hp⟩ | ⟨rfl, hp⟩
          · skip
            try simp only [rg, not_and, Int.not_le] at hp
            have hp14841 := hp
            obtain ⟨pn14842, Ln14843, hE, k14844, hpd14845, hno14846⟩ := hp14841
            have hp14841 : True := trivial
            obtain ⟨hT4, hn12, ⟨a14847, hf14848, hq14849, hA14850⟩, ⟨a14851, hf14852, hq14853, hA14854⟩, ⟨a14855, hf14856, hq14857, hA14858⟩, ⟨w14859, hg14860, k14861⟩, ⟨w14862, hg14863, k14864⟩, ⟨w14865, hg14866, k14867⟩, hpT, ⟨w14868, hg14869, k14870⟩, ⟨w14871, hg14872, k14873⟩⟩ := hE
            have k14874 := iv_lo w14865
            have k14875 := iv_hi w14865
            have k14876 := TK.at hTK hpT
            refine lv_istore_n (lv' := [(3, .int 1), (2, .int v14795), (0, .ref h0), (1, .int x1)]) hx hb dX3_plain_70 rfl hl (by decide) rfl (fun ls hl => ?_)
            refine lv_aload_n hx hb dX3_plain_71 rfl (lv_at hl 2 rfl) ?_
            refine gmIC hx hb hts inT3 hown hK hI List.not_mem_nil hG0 11 (by decide) (hts _ (tb_c wd_140)) rfl rfl dX3_plain_72 (fun w14877 hg14878 k14879 k14880 => ?_)
            obtain rfl := gfC.uniq (by decide) hg14872 hg14878
            refine lv_bipush (v := 60) hx hb dX3_plain_75 (by decide) ?_
            have k14881 := iv_lo w14871
            have k14882 := iv_hi w14871
            refine lv_icmp_ne (tgt := 85) hx hb dX3_plain_77 (by decide) (fun c14883 => ?_) (fun c14883 => ?_)
            · skip
              have k14884 := iv_ne (X := w14871.toInt) (Y := (60)) rfl (by decide) c14883
              refine lv_aload_n hx hb dX3_plain_85 rfl (lv_at hl 2 rfl) ?_
              refine gmIC hx hb hts inT3 hown hK hI List.not_mem_nil hG0 11 (by decide) (hts _ (tb_c wd_140)) rfl rfl dX3_plain_86 (fun w14885 hg14886 k14887 k14888 => ?_)
              obtain rfl := gfC.uniq (by decide) hg14872 hg14886
              refine lv_bipush (v := 62) hx hb dX3_plain_89 (by decide) ?_
              refine lv_icmp_ne (tgt := 99) hx hb dX3_plain_91 (by decide) (fun c14889 => ?_) (fun c14889 => ?_)
              · skip
                have k14890 := iv_ne (X := w14871.toInt) (Y := (62)) rfl (by decide) c14889
                refine lv_bipush (v := 9) hx hb dX3_plain_99 (by decide) ?_
                refine lv_istore (lv' := [(4, .int 9), (3, .int 1), (2, .int v14795), (0, .ref h0), (1, .int x1)]) hx hb dX3_plain_101 hl (by decide) rfl (fun ls hl => ?_)
                refine lv_iload_n hx hb dX3_plain_103 rfl (lv_at hl 1 rfl) ?_
                refine lv_if_eq (tgt := 123) hx hb dX3_plain_104 (by decide) (fun c => absurd c (by decide)) (fun _ => ?_)
                refine lv_iload hx hb dX3_plain_107 (lv_at hl 0 rfl) ?_
                refine lv_bipush (v := 9) hx hb dX3_plain_109 (by decide) ?_
                refine lv_icmp_ne (tgt := 125) hx hb dX3_plain_111 (by decide) (fun c14891 => ?_) (fun c14891 => ?_)
                · skip
                  have k14892 := iv_ne (X := (9)) (Y := (9)) (by decide) (by decide) c14891
                  exfalso; omega
                · skip
                  have k14893 := iv_eq (X := (9)) (Y := (9)) (by decide) (by decide) c14891
                  refine lv_aload_n hx hb dX3_plain_114 rfl (lv_at hl 3 rfl) ?_
                  refine gmIC hx hb hts inT3 hown hK hI List.not_mem_nil hG0 11 (by decide) (hts _ (tb_c wd_140)) rfl rfl dX3_plain_115 (fun w14894 hg14895 k14896 k14897 => ?_)
                  obtain rfl := gfC.uniq (by decide) hg14872 hg14895
                  refine lv_bipush (v := 61) hx hb dX3_plain_118 (by decide) ?_
                  refine lv_icmp_eq (tgt := 125) hx hb dX3_plain_120 (by decide) (fun c14898 => ?_) (fun c14898 => ?_)
                  · skip
                    have k14899 := iv_eq (X := w14871.toInt) (Y := (61)) rfl (by decide) c14898
                    refine lv_aload_n hx hb dX3_plain_125 rfl (lv_at hl 3 rfl) ?_
                    refine lv_aload_n hx hb dX3_plain_126 rfl (lv_at hl 3 rfl) ?_
                    refine gmIC hx hb hts inT3 hown hK hI List.not_mem_nil hG0 10 (by decide) (hts _ (tb_c wd_139)) rfl rfl dX3_plain_127 (fun w14900 hg14901 k14902 k14903 => ?_)
                    obtain rfl := gfC.uniq (by decide) hg14869 hg14901
                    refine lv_iconst (v := 1) hx hb dX3_plain_130 (by decide) ?_
                    refine lv_iadd hx hb dX3_plain_131 ?_
                    refine lv_topi (fun v14904 e14905 => ?_)
                    have tv14904 : v14904.toInt = w14868.toInt + (1) := iv_add rfl (by decide) e14905 (by omega) (by omega)
                    have hpd14906 : pd_R ZZ YY TT (1, 2 :: fl, nk, Ln14843) (pn14842 + 1) = XX := (pd_A_cm (by omega) (by omega)).symm.trans hpd14845
                    refine nx_v (As := [.int v14904]) (rest := []) (n := 1) (d := 0) ⟨hx, hb, hml, hown, hts⟩ (c_X3_moveTo l E D G h0 hG0 v14904 ft fp fn TT (pn14842 + 1) nc Ln14843 (by first | omega | decide) (by omega)) wd_707 wd_709 wp_13 wd_5 wd_710 (by decide +kernel) ⟨by rw [hR]; show 0 + 1 ≤ 21 + 3 * k; omega, by rw [hR]; show 8 + (2 + 11) + 40 * (0) ≤ 40 * (21 + 3 * k); omega⟩ hI hN hK hS hG0 (⟨by omega, by omega, ⟨a14847, hf14848, hq14849, hA14850⟩, ⟨a14851, hf14852, hq14853, hA14854⟩, ⟨a14855, hf14856, hq14857, hA14858⟩, ⟨w14859, hg14860, by first | omega | decide⟩, ⟨w14862, hg14863, by first | omega | decide⟩, ⟨w14865, hg14866, by first | omega | decide⟩⟩) rfl hl.1 rfl (Nat.le_of_ble_eq_true rfl) dX3_plain_132 ⟨Nat.zero_le _, Nat.zero_le _⟩ (fun H locs hI hp hS => ?_)
                    obtain ⟨hT4, hn12, ⟨a14908, hf14909, hq14910, hA14911⟩, ⟨a14912, hf14913, hq14914, hA14915⟩, ⟨a14916, hf14917, hq14918, hA14919⟩, ⟨w14920, hg14921, k14922⟩, ⟨w14923, hg14924, k14925⟩, ⟨w14926, hg14927, k14928⟩, hpT, ⟨w14929, hg14930, k14931⟩, ⟨w14932, hg14933, k14934⟩⟩ := hp
                    have k14935 := iv_lo w14926
                    have k14936 := iv_hi w14926
                    have k14937 := TK.at hTK hpT
                    refine lv_aload_n hx hb dX3_plain_135 rfl (lv_at hl 3 rfl) ?_
                    refine lv_iload_n hx hb dX3_plain_136 rfl (lv_at hl 4 rfl) ?_
                    refine nx_i (As := [.int x1]) (rest := []) (n := 1) (d := 19) ⟨hx, hb, hml, hown, hts⟩ (c_X3_sum l E D G 8 h0 hG0 x1 ft fp fn TT (pn14842 + 1) nc Ln14843 ZZ YY nk XX hTK dd (by first | decide | omega) (by omega) (by omega) (2 :: fl) (by rw [pd_dp2, hdp]) hpd14906 (c_X3_part l E D G 8)) wd_715 wd_717 wp_15 wd_5 wd_718 (by decide +kernel) ⟨by rw [hR]; show 19 + 1 ≤ 21 + 3 * k; omega, by rw [hR]; show 8 + (7 + 11) + 40 * (19) ≤ 40 * (21 + 3 * k); omega⟩ hI hN hK hS hG0 (⟨by omega, by omega, ⟨a14908, hf14909, hq14910, hA14911⟩, ⟨a14912, hf14913, hq14914, hA14915⟩, ⟨a14916, hf14917, hq14918, hA14919⟩, ⟨w14920, hg14921, by first | omega | decide⟩, ⟨w14923, hg14924, by first | omega | decide⟩, ⟨w14926, hg14927, by first | omega | decide⟩, by omega, ⟨w14929, hg14930, by first | omega | decide⟩, ⟨w14932, hg14933, by first | omega | decide⟩⟩) rfl hl.1 rfl (Nat.le_of_ble_eq_true rfl) dX3_plain_137 ⟨Nat.zero_le _, Nat.zero_le _⟩ (fun r14938 H locs hI hp hS => ?_)
                    rcases hp with ⟨rfl, hp⟩ | ⟨rfl, hp⟩
                    · skip
                      try simp only [rg, not_and, Int.not_le] at hp
                      have hp14939 := hp
                      obtain ⟨pn14940, Ln14941, hE, k14942, hpd14943, hno14944⟩ := hp14939
                      have hp14939 : True := trivial
                      obtain ⟨hT4, hn12, ⟨a14945, hf14946, hq14947, hA14948⟩, ⟨a14949, hf14950, hq14951, hA14952⟩, ⟨a14953, hf14954, hq14955, hA14956⟩, ⟨w14957, hg14958, k14959⟩, ⟨w14960, hg14961, k14962⟩, ⟨w14963, hg14964, k14965⟩, hpT, ⟨w14966, hg14967, k14968⟩, ⟨w14969, hg14970, k14971⟩⟩ := hE
                      have k14972 := iv_lo w14963
                      have k14973 := iv_hi w14963
                      have k14974 := TK.at hTK hpT
                      have hpd14975 : pd_R ZZ YY TT (4, fl, nk, Ln14941) pn14940 = XX := (pd_A_rt (fun h9 => by unfold pd_op; unfold oc at hno14944; omega)).symm.trans hpd14943
                      refine lv_istore_n (lv' := [(3, .int 1), (4, .int 9), (2, .int v14795), (0, .ref h0), (1, .int x1)]) hx hb dX3_plain_140 rfl hl (by decide) rfl (fun ls hl => ?_)
                      refine lv_aload_n hx hb dX3_plain_141 rfl (lv_at hl 3 rfl) ?_
                      refine lv_iload hx hb dX3_plain_142 (lv_at hl 1 rfl) ?_
                      refine lv_iconst (v := 0) hx hb dX3_plain_144 (by decide) ?_
                      refine nx_i (As := [.int 9, .int 0]) (rest := []) (n := 2) (d := 0) ⟨hx, hb, hml, hown, hts⟩ (c_X3_emit l E D G h0 hG0 9 0 ft fp fn TT pn14940 nc Ln14941) wd_723 wd_725 wp_17 wd_5 wd_726 (by decide +kernel) ⟨by rw [hR]; show 0 + 1 ≤ 21 + 3 * k; omega, by rw [hR]; show 8 + (3 + 11) + 40 * (0) ≤ 40 * (21 + 3 * k); omega⟩ hI hN hK hS hG0 (⟨by omega, by omega, ⟨a14945, hf14946, hq14947, hA14948⟩, ⟨a14949, hf14950, hq14951, hA14952⟩, ⟨a14953, hf14954, hq14955, hA14956⟩, ⟨w14957, hg14958, by first | omega | decide⟩, ⟨w14960, hg14961, by first | omega | decide⟩, ⟨w14963, hg14964, by first | omega | decide⟩, by omega, ⟨w14966, hg14967, by first | omega | decide⟩, ⟨w14969, hg14970, by first | omega | decide⟩⟩) rfl hl.1 rfl (Nat.le_of_ble_eq_true rfl) dX3_plain_145 ⟨Nat.zero_le _, Nat.zero_le _⟩ (fun r14976 H locs hI hp hS => ?_)
                      obtain ⟨hT4, hn12, ⟨a14977, hf14978, hq14979, hA14980⟩, ⟨a14981, hf14982, hq14983, hA14984⟩, ⟨a14985, hf14986, hq14987, hA14988⟩, ⟨w14989, hg14990, k14991⟩, ⟨w14992, hg14993, k14994⟩, ⟨w14995, hg14996, k14997⟩, hpT, ⟨w14998, hg14999, k15000⟩, ⟨w15001, hg15002, k15003⟩⟩ := hp
                      have k15004 := iv_lo w14995
                      have k15005 := iv_hi w14995
                      have k15006 := TK.at hTK hpT
                      refine lv_pop hx hb dX3_plain_148 rfl ?_
                      refine lv_iload_n hx hb dX3_plain_149 rfl (lv_at hl 2 rfl) ?_
                      refine lv_if_eq (tgt := 161) hx hb dX3_plain_150 (by decide) (fun c15007 => ?_) (fun c15007 => ?_)
                      · skip
                        have k15008 := iv_eq (X := v14795.toInt) (Y := (0)) rfl (by decide) c15007
                        refine lv_iload_n hx hb dX3_plain_161 rfl (lv_at hl 0 rfl) ?_
                        have hpost : ((1 : Int32) = 1 ∧ ∃ p2 L2 : Nat, RC E D G h0 ft fp fn TT p2 nc L2 H ∧ pp + 1 ≤ p2 ∧ pd_R ZZ YY TT (4, fl, nk, L2) p2 = XX) ∨ ((1 : Int32) = 0 ∧ ∃ p2 L2 : Nat, RC E D G h0 ft fp fn TT p2 nc L2 H ∧ pp ≤ p2 ∧ XX = (p2, false)) := Or.inl ⟨rfl, pn14940, Ln14941, ⟨by omega, by omega, ⟨a14977, hf14978, hq14979, hA14980⟩, ⟨a14981, hf14982, hq14983, hA14984⟩, ⟨a14985, hf14986, hq14987, hA14988⟩, ⟨w14989, hg14990, by first | omega | decide⟩, ⟨w14992, hg14993, by first | omega | decide⟩, ⟨w14995, hg14996, by first | omega | decide⟩, by omega, ⟨w14998, hg14999, by first | omega | decide⟩, ⟨w15001, hg15002, by first | omega | decide⟩⟩, by omega, hpd14975⟩
                        rw [hQ]
                        exact W.zret (v := 1) hx hb hr (by decide) (fun t ht hW => ⟨⟨1, 1, rfl, rfl, ⟨by rw [ht]; exact hI, hN.warm hW, va_K.moved hW.alike hK⟩, by first | (rw [ht]; exact hpost) | exact hpost⟩, hS.F ht⟩) hS.2.2 dX3_plain_162
                      · skip
                        have k15009 := iv_ne (X := v14795.toInt) (Y := (0)) rfl (by decide) c15007
                        refine lv_aload_n hx hb dX3_plain_153 rfl (lv_at hl 3 rfl) ?_
                        refine lv_bipush (v := 10) hx hb dX3_plain_154 (by decide) ?_
                        refine lv_iconst (v := 0) hx hb dX3_plain_156 (by decide) ?_
                        refine nx_i (As := [.int 10, .int 0]) (rest := []) (n := 2) (d := 0) ⟨hx, hb, hml, hown, hts⟩ (c_X3_emit l E D G h0 hG0 10 0 ft fp fn TT pn14940 nc Ln14941) wd_723 wd_725 wp_17 wd_5 wd_726 (by decide +kernel) ⟨by rw [hR]; show 0 + 1 ≤ 21 + 3 * k; omega, by rw [hR]; show 8 + (3 + 11) + 40 * (0) ≤ 40 * (21 + 3 * k); omega⟩ hI hN hK hS hG0 (⟨by omega, by omega, ⟨a14977, hf14978, hq14979, hA14980⟩, ⟨a14981, hf14982, hq14983, hA14984⟩, ⟨a14985, hf14986, hq14987, hA14988⟩, ⟨w14989, hg14990, by first | omega | decide⟩, ⟨w14992, hg14993, by first | omega | decide⟩, ⟨w14995, hg14996, by first | omega | decide⟩, by omega, ⟨w14998, hg14999, by first | omega | decide⟩, ⟨w15001, hg15002, by first | omega | decide⟩⟩) rfl hl.1 rfl (Nat.le_of_ble_eq_true rfl) dX3_plain_157 ⟨Nat.zero_le _, Nat.zero_le _⟩ (fun r15010 H locs hI hp hS => ?_)
                        obtain ⟨hT4, hn12, ⟨a15011, hf15012, hq15013, hA15014⟩, ⟨a15015, hf15016, hq15017, hA15018⟩, ⟨a15019, hf15020, hq15021, hA15022⟩, ⟨w15023, hg15024, k15025⟩, ⟨w15026, hg15027, k15028⟩, ⟨w15029, hg15030, k15031⟩, hpT, ⟨w15032, hg15033, k15034⟩, ⟨w15035, hg15036, k15037⟩⟩ := hp
                        have k15038 := iv_lo w15029
                        have k15039 := iv_hi w15029
                        have k15040 := TK.at hTK hpT
                        refine lv_pop hx hb dX3_plain_160 rfl ?_
                        refine lv_iload_n hx hb dX3_plain_161 rfl (lv_at hl 0 rfl) ?_
                        have hpost : ((1 : Int32) = 1 ∧ ∃ p2 L2 : Nat, RC E D G h0 ft fp fn TT p2 nc L2 H ∧ pp + 1 ≤ p2 ∧ pd_R ZZ YY TT (4, fl, nk, L2) p2 = XX) ∨ ((1 : Int32) = 0 ∧ ∃ p2 L2 : Nat, RC E D G h0 ft fp fn TT p2 nc L2 H ∧ pp ≤ p2 ∧ XX = (p2, false)) := Or.inl ⟨rfl, pn14940, Ln14941, ⟨by omega, by omega, ⟨a15011, hf15012, hq15013, hA15014⟩, ⟨a15015, hf15016, hq15017, hA15018⟩, ⟨a15019, hf15020, hq15021, hA15022⟩, ⟨w15023, hg15024, by first | omega | decide⟩, ⟨w15026, hg15027, by first | omega | decide⟩, ⟨w15029, hg15030, by first | omega | decide⟩, by omega, ⟨w15032, hg15033, by first | omega | decide⟩, ⟨w15035, hg15036, by first | omega | decide⟩⟩, by omega, hpd14975⟩
                        rw [hQ]
                        exact W.zret (v := 1) hx hb hr (by decide) (fun t ht hW => ⟨⟨1, 1, rfl, rfl, ⟨by rw [ht]; exact hI, hN.warm hW, va_K.moved hW.alike hK⟩, by first | (rw [ht]; exact hpost) | exact hpost⟩, hS.F ht⟩) hS.2.2 dX3_plain_162
                    · skip
                      try simp only [rg, not_and, Int.not_le] at hp
                      have hp15041 := hp
                      obtain ⟨pn15042, Ln15043, hE, k15044, hfl15045⟩ := hp15041
                      have hp15041 : True := trivial
                      obtain ⟨hT4, hn12, ⟨a15046, hf15047, hq15048, hA15049⟩, ⟨a15050, hf15051, hq15052, hA15053⟩, ⟨a15054, hf15055, hq15056, hA15057⟩, ⟨w15058, hg15059, k15060⟩, ⟨w15061, hg15062, k15063⟩, ⟨w15064, hg15065, k15066⟩, hpT, ⟨w15067, hg15068, k15069⟩, ⟨w15070, hg15071, k15072⟩⟩ := hE
                      have k15073 := iv_lo w15064
                      have k15074 := iv_hi w15064
                      have k15075 := TK.at hTK hpT
                      refine lv_istore_n (lv' := [(3, .int 0), (4, .int 9), (2, .int v14795), (0, .ref h0), (1, .int x1)]) hx hb dX3_plain_140 rfl hl (by decide) rfl (fun ls hl => ?_)
                      refine lv_aload_n hx hb dX3_plain_141 rfl (lv_at hl 3 rfl) ?_
                      refine lv_iload hx hb dX3_plain_142 (lv_at hl 1 rfl) ?_
                      refine lv_iconst (v := 0) hx hb dX3_plain_144 (by decide) ?_
                      refine nx_i (As := [.int 9, .int 0]) (rest := []) (n := 2) (d := 0) ⟨hx, hb, hml, hown, hts⟩ (c_X3_emit l E D G h0 hG0 9 0 ft fp fn TT pn15042 nc Ln15043) wd_723 wd_725 wp_17 wd_5 wd_726 (by decide +kernel) ⟨by rw [hR]; show 0 + 1 ≤ 21 + 3 * k; omega, by rw [hR]; show 8 + (3 + 11) + 40 * (0) ≤ 40 * (21 + 3 * k); omega⟩ hI hN hK hS hG0 (⟨by omega, by omega, ⟨a15046, hf15047, hq15048, hA15049⟩, ⟨a15050, hf15051, hq15052, hA15053⟩, ⟨a15054, hf15055, hq15056, hA15057⟩, ⟨w15058, hg15059, by first | omega | decide⟩, ⟨w15061, hg15062, by first | omega | decide⟩, ⟨w15064, hg15065, by first | omega | decide⟩, by omega, ⟨w15067, hg15068, by first | omega | decide⟩, ⟨w15070, hg15071, by first | omega | decide⟩⟩) rfl hl.1 rfl (Nat.le_of_ble_eq_true rfl) dX3_plain_145 ⟨Nat.zero_le _, Nat.zero_le _⟩ (fun r15076 H locs hI hp hS => ?_)
                      obtain ⟨hT4, hn12, ⟨a15077, hf15078, hq15079, hA15080⟩, ⟨a15081, hf15082, hq15083, hA15084⟩, ⟨a15085, hf15086, hq15087, hA15088⟩, ⟨w15089, hg15090, k15091⟩, ⟨w15092, hg15093, k15094⟩, ⟨w15095, hg15096, k15097⟩, hpT, ⟨w15098, hg15099, k15100⟩, ⟨w15101, hg15102, k15103⟩⟩ := hp
                      have k15104 := iv_lo w15095
                      have k15105 := iv_hi w15095
                      have k15106 := TK.at hTK hpT
                      refine lv_pop hx hb dX3_plain_148 rfl ?_
                      refine lv_iload_n hx hb dX3_plain_149 rfl (lv_at hl 2 rfl) ?_
                      refine lv_if_eq (tgt := 161) hx hb dX3_plain_150 (by decide) (fun c15107 => ?_) (fun c15107 => ?_)
                      · skip
                        have k15108 := iv_eq (X := v14795.toInt) (Y := (0)) rfl (by decide) c15107
                        refine lv_iload_n hx hb dX3_plain_161 rfl (lv_at hl 0 rfl) ?_
                        have hpost : ((0 : Int32) = 1 ∧ ∃ p2 L2 : Nat, RC E D G h0 ft fp fn TT p2 nc L2 H ∧ pp + 1 ≤ p2 ∧ pd_R ZZ YY TT (4, fl, nk, L2) p2 = XX) ∨ ((0 : Int32) = 0 ∧ ∃ p2 L2 : Nat, RC E D G h0 ft fp fn TT p2 nc L2 H ∧ pp ≤ p2 ∧ XX = (p2, false)) := Or.inr ⟨rfl, pn15042, Ln15043, ⟨by omega, by omega, ⟨a15077, hf15078, hq15079, hA15080⟩, ⟨a15081, hf15082, hq15083, hA15084⟩, ⟨a15085, hf15086, hq15087, hA15088⟩, ⟨w15089, hg15090, by first | omega | decide⟩, ⟨w15092, hg15093, by first | omega | decide⟩, ⟨w15095, hg15096, by first | omega | decide⟩, by omega, ⟨w15098, hg15099, by first | omega | decide⟩, ⟨w15101, hg15102, by first | omega | decide⟩⟩, by omega, hfl15045⟩
                        rw [hQ]
                        exact W.zret (v := 0) hx hb hr (by decide) (fun t ht hW => ⟨⟨0, 0, rfl, rfl, ⟨by rw [ht]; exact hI, hN.warm hW, va_K.moved hW.alike hK⟩, by first | (rw [ht]; exact hpost) | exact hpost⟩, hS.F ht⟩) hS.2.2 dX3_plain_162
                      · skip
                        have k15109 := iv_ne (X := v14795.toInt) (Y := (0)) rfl (by decide) c15107
                        refine lv_aload_n hx hb dX3_plain_153 rfl (lv_at hl 3 rfl) ?_
                        refine lv_bipush (v := 10) hx hb dX3_plain_154 (by decide) ?_
                        refine lv_iconst (v := 0) hx hb dX3_plain_156 (by decide) ?_
                        refine nx_i (As := [.int 10, .int 0]) (rest := []) (n := 2) (d := 0) ⟨hx, hb, hml, hown, hts⟩ (c_X3_emit l E D G h0 hG0 10 0 ft fp fn TT pn15042 nc Ln15043) wd_723 wd_725 wp_17 wd_5 wd_726 (by decide +kernel) ⟨by rw [hR]; show 0 + 1 ≤ 21 + 3 * k; omega, by rw [hR]; show 8 + (3 + 11) + 40 * (0) ≤ 40 * (21 + 3 * k); omega⟩ hI hN hK hS hG0 (⟨by omega, by omega, ⟨a15077, hf15078, hq15079, hA15080⟩, ⟨a15081, hf15082, hq15083, hA15084⟩, ⟨a15085, hf15086, hq15087, hA15088⟩, ⟨w15089, hg15090, by first | omega | decide⟩, ⟨w15092, hg15093, by first | omega | decide⟩, ⟨w15095, hg15096, by first | omega | decide⟩, by omega, ⟨w15098, hg15099, by first | omega | decide⟩, ⟨w15101, hg15102, by first | omega | decide⟩⟩) rfl hl.1 rfl (Nat.le_of_ble_eq_true rfl) dX3_plain_157 ⟨Nat.zero_le _, Nat.zero_le _⟩ (fun r15110 H locs hI hp hS => ?_)
                        obtain ⟨hT4, hn12, ⟨a15111, hf15112, hq15113, hA15114⟩, ⟨a15115, hf15116, hq15117, hA15118⟩, ⟨a15119, hf15120, hq15121, hA15122⟩, ⟨w15123, hg15124, k15125⟩, ⟨w15126, hg15127, k15128⟩, ⟨w15129, hg15130, k15131⟩, hpT, ⟨w15132, hg15133, k15134⟩, ⟨w15135, hg15136, k15137⟩⟩ := hp
                        have k15138 := iv_lo w15129
                        have k15139 := iv_hi w15129
                        have k15140 := TK.at hTK hpT
                        refine lv_pop hx hb dX3_plain_160 rfl ?_
                        refine lv_iload_n hx hb dX3_plain_161 rfl (lv_at hl 0 rfl) ?_
                        have hpost : ((0 : Int32) = 1 ∧ ∃ p2 L2 : Nat, RC E D G h0 ft fp fn TT p2 nc L2 H ∧ pp + 1 ≤ p2 ∧ pd_R ZZ YY TT (4, fl, nk, L2) p2 = XX) ∨ ((0 : Int32) = 0 ∧ ∃ p2 L2 : Nat, RC E D G h0 ft fp fn TT p2 nc L2 H ∧ pp ≤ p2 ∧ XX = (p2, false)) := Or.inr ⟨rfl, pn15042, Ln15043, ⟨by omega, by omega, ⟨a15111, hf15112, hq15113, hA15114⟩, ⟨a15115, hf15116, hq15117, hA15118⟩, ⟨a15119, hf15120, hq15121, hA15122⟩, ⟨w15123, hg15124, by first | omega | decide⟩, ⟨w15126, hg15127, by first | omega | decide⟩, ⟨w15129, hg15130, by first | omega | decide⟩, by omega, ⟨w15132, hg15133, by first | omega | decide⟩, ⟨w15135, hg15136, by first | omega | decide⟩⟩, by omega, hfl15045⟩
                        rw [hQ]
                        exact W.zret (v := 0) hx hb hr (by decide) (fun t ht hW => ⟨⟨0, 0, rfl, rfl, ⟨by rw [ht]; exact hI, hN.warm hW, va_K.moved hW.alike hK⟩, by first | (rw [ht]; exact hpost) | exact hpost⟩, hS.F ht⟩) hS.2.2 dX3_plain_162
                  · skip
                    have k15141 := iv_ne (X := w14871.toInt) (Y := (61)) rfl (by decide) c14898
                    refine lv_iconst (v := 0) hx hb dX3_plain_123 (by decide) ?_
                    have hpost : ((0 : Int32) = 1 ∧ ∃ p2 L2 : Nat, RC E D G h0 ft fp fn TT p2 nc L2 H ∧ pp + 1 ≤ p2 ∧ pd_R ZZ YY TT (4, fl, nk, L2) p2 = XX) ∨ ((0 : Int32) = 0 ∧ ∃ p2 L2 : Nat, RC E D G h0 ft fp fn TT p2 nc L2 H ∧ pp ≤ p2 ∧ XX = (p2, false)) := Or.inr ⟨rfl, pn14842, Ln14843, ⟨by omega, by omega, ⟨a14847, hf14848, hq14849, hA14850⟩, ⟨a14851, hf14852, hq14853, hA14854⟩, ⟨a14855, hf14856, hq14857, hA14858⟩, ⟨w14859, hg14860, by first | omega | decide⟩, ⟨w14862, hg14863, by first | omega | decide⟩, ⟨w14865, hg14866, by first | omega | decide⟩, by omega, ⟨w14868, hg14869, by first | omega | decide⟩, ⟨w14871, hg14872, by first | omega | decide⟩⟩, by omega, (hpd14845.symm.trans (pd_A_cmno (fun h9 => ⟨by unfold pd_op; unfold oc at hno14846; omega, by omega⟩)))⟩
                    rw [hQ]
                    exact W.zret (v := 0) hx hb hr (by decide) (fun t ht hW => ⟨⟨0, 0, rfl, rfl, ⟨by rw [ht]; exact hI, hN.warm hW, va_K.moved hW.alike hK⟩, by first | (rw [ht]; exact hpost) | exact hpost⟩, hS.F ht⟩) hS.2.2 dX3_plain_124
              · skip
                have k15142 := iv_eq (X := w14871.toInt) (Y := (62)) rfl (by decide) c14889
                refine lv_bipush (v := 8) hx hb dX3_plain_94 (by decide) ?_
                refine lv_goto (tgt := 101) hx hb dX3_plain_96 (by decide) ?_
                refine lv_istore (lv' := [(4, .int 8), (3, .int 1), (2, .int v14795), (0, .ref h0), (1, .int x1)]) hx hb dX3_plain_101 hl (by decide) rfl (fun ls hl => ?_)
                refine lv_iload_n hx hb dX3_plain_103 rfl (lv_at hl 1 rfl) ?_
                refine lv_if_eq (tgt := 123) hx hb dX3_plain_104 (by decide) (fun c => absurd c (by decide)) (fun _ => ?_)
                refine lv_iload hx hb dX3_plain_107 (lv_at hl 0 rfl) ?_
                refine lv_bipush (v := 9) hx hb dX3_plain_109 (by decide) ?_
                refine lv_icmp_ne (tgt := 125) hx hb dX3_plain_111 (by decide) (fun c15143 => ?_) (fun c15143 => ?_)
                · skip
                  have k15144 := iv_ne (X := (8)) (Y := (9)) (by decide) (by decide) c15143
                  refine lv_aload_n hx hb dX3_plain_125 rfl (lv_at hl 3 rfl) ?_
                  refine lv_aload_n hx hb dX3_plain_126 rfl (lv_at hl 3 rfl) ?_
                  refine gmIC hx hb hts inT3 hown hK hI List.not_mem_nil hG0 10 (by decide) (hts _ (tb_c wd_139)) rfl rfl dX3_plain_127 (fun w15145 hg15146 k15147 k15148 => ?_)
                  obtain rfl := gfC.uniq (by decide) hg14869 hg15146
                  refine lv_iconst (v := 1) hx hb dX3_plain_130 (by decide) ?_
                  refine lv_iadd hx hb dX3_plain_131 ?_
                  refine lv_topi (fun v15149 e15150 => ?_)
                  have tv15149 : v15149.toInt = w14868.toInt + (1) := iv_add rfl (by decide) e15150 (by omega) (by omega)
                  have hpd15151 : pd_R ZZ YY TT (1, 2 :: fl, nk, Ln14843) (pn14842 + 1) = XX := (pd_A_cm (by omega) (by omega)).symm.trans hpd14845
                  refine nx_v (As := [.int v15149]) (rest := []) (n := 1) (d := 0) ⟨hx, hb, hml, hown, hts⟩ (c_X3_moveTo l E D G h0 hG0 v15149 ft fp fn TT (pn14842 + 1) nc Ln14843 (by first | omega | decide) (by omega)) wd_707 wd_709 wp_13 wd_5 wd_710 (by decide +kernel) ⟨by rw [hR]; show 0 + 1 ≤ 21 + 3 * k; omega, by rw [hR]; show 8 + (2 + 11) + 40 * (0) ≤ 40 * (21 + 3 * k); omega⟩ hI hN hK hS hG0 (⟨by omega, by omega, ⟨a14847, hf14848, hq14849, hA14850⟩, ⟨a14851, hf14852, hq14853, hA14854⟩, ⟨a14855, hf14856, hq14857, hA14858⟩, ⟨w14859, hg14860, by first | omega | decide⟩, ⟨w14862, hg14863, by first | omega | decide⟩, ⟨w14865, hg14866, by first | omega | decide⟩⟩) rfl hl.1 rfl (Nat.le_of_ble_eq_true rfl) dX3_plain_132 ⟨Nat.zero_le _, Nat.zero_le _⟩ (fun H locs hI hp hS => ?_)
                  obtain ⟨hT4, hn12, ⟨a15153, hf15154, hq15155, hA15156⟩, ⟨a15157, hf15158, hq15159, hA15160⟩, ⟨a15161, hf15162, hq15163, hA15164⟩, ⟨w15165, hg15166, k15167⟩, ⟨w15168, hg15169, k15170⟩, ⟨w15171, hg15172, k15173⟩, hpT, ⟨w15174, hg15175, k15176⟩, ⟨w15177, hg15178, k15179⟩⟩ := hp
                  have k15180 := iv_lo w15171
                  have k15181 := iv_hi w15171
                  have k15182 := TK.at hTK hpT
                  refine lv_aload_n hx hb dX3_plain_135 rfl (lv_at hl 3 rfl) ?_
                  refine lv_iload_n hx hb dX3_plain_136 rfl (lv_at hl 4 rfl) ?_
                  refine nx_i (As := [.int x1]) (rest := []) (n := 1) (d := 19) ⟨hx, hb, hml, hown, hts⟩ (c_X3_sum l E D G 8 h0 hG0 x1 ft fp fn TT (pn14842 + 1) nc Ln14843 ZZ YY nk XX hTK dd (by first | decide | omega) (by omega) (by omega) (2 :: fl) (by rw [pd_dp2, hdp]) hpd15151 (c_X3_part l E D G 8)) wd_715 wd_717 wp_15 wd_5 wd_718 (by decide +kernel) ⟨by rw [hR]; show 19 + 1 ≤ 21 + 3 * k; omega, by rw [hR]; show 8 + (7 + 11) + 40 * (19) ≤ 40 * (21 + 3 * k); omega⟩ hI hN hK hS hG0 (⟨by omega, by omega, ⟨a15153, hf15154, hq15155, hA15156⟩, ⟨a15157, hf15158, hq15159, hA15160⟩, ⟨a15161, hf15162, hq15163, hA15164⟩, ⟨w15165, hg15166, by first | omega | decide⟩, ⟨w15168, hg15169, by first | omega | decide⟩, ⟨w15171, hg15172, by first | omega | decide⟩, by omega, ⟨w15174, hg15175, by first | omega | decide⟩, ⟨w15177, hg15178, by first | omega | decide⟩⟩) rfl hl.1 rfl (Nat.le_of_ble_eq_true rfl) dX3_plain_137 ⟨Nat.zero_le _, Nat.zero_le _⟩ (fun r15183 H locs hI hp hS => ?_)
                  rcases hp with ⟨rfl, hp⟩ | ⟨rfl, hp⟩
                  · skip
                    try simp only [rg, not_and, Int.not_le] at hp
                    have hp15184 := hp
                    obtain ⟨pn15185, Ln15186, hE, k15187, hpd15188, hno15189⟩ := hp15184
                    have hp15184 : True := trivial
                    obtain ⟨hT4, hn12, ⟨a15190, hf15191, hq15192, hA15193⟩, ⟨a15194, hf15195, hq15196, hA15197⟩, ⟨a15198, hf15199, hq15200, hA15201⟩, ⟨w15202, hg15203, k15204⟩, ⟨w15205, hg15206, k15207⟩, ⟨w15208, hg15209, k15210⟩, hpT, ⟨w15211, hg15212, k15213⟩, ⟨w15214, hg15215, k15216⟩⟩ := hE
                    have k15217 := iv_lo w15208
                    have k15218 := iv_hi w15208
                    have k15219 := TK.at hTK hpT
                    have hpd15220 : pd_R ZZ YY TT (4, fl, nk, Ln15186) pn15185 = XX := (pd_A_rt (fun h9 => by unfold pd_op; unfold oc at hno15189; omega)).symm.trans hpd15188
                    refine lv_istore_n (lv' := [(3, .int 1), (4, .int 8), (2, .int v14795), (0, .ref h0), (1, .int x1)]) hx hb dX3_plain_140 rfl hl (by decide) rfl (fun ls hl => ?_)
                    refine lv_aload_n hx hb dX3_plain_141 rfl (lv_at hl 3 rfl) ?_
                    refine lv_iload hx hb dX3_plain_142 (lv_at hl 1 rfl) ?_
                    refine lv_iconst (v := 0) hx hb dX3_plain_144 (by decide) ?_
                    refine nx_i (As := [.int 8, .int 0]) (rest := []) (n := 2) (d := 0) ⟨hx, hb, hml, hown, hts⟩ (c_X3_emit l E D G h0 hG0 8 0 ft fp fn TT pn15185 nc Ln15186) wd_723 wd_725 wp_17 wd_5 wd_726 (by decide +kernel) ⟨by rw [hR]; show 0 + 1 ≤ 21 + 3 * k; omega, by rw [hR]; show 8 + (3 + 11) + 40 * (0) ≤ 40 * (21 + 3 * k); omega⟩ hI hN hK hS hG0 (⟨by omega, by omega, ⟨a15190, hf15191, hq15192, hA15193⟩, ⟨a15194, hf15195, hq15196, hA15197⟩, ⟨a15198, hf15199, hq15200, hA15201⟩, ⟨w15202, hg15203, by first | omega | decide⟩, ⟨w15205, hg15206, by first | omega | decide⟩, ⟨w15208, hg15209, by first | omega | decide⟩, by omega, ⟨w15211, hg15212, by first | omega | decide⟩, ⟨w15214, hg15215, by first | omega | decide⟩⟩) rfl hl.1 rfl (Nat.le_of_ble_eq_true rfl) dX3_plain_145 ⟨Nat.zero_le _, Nat.zero_le _⟩ (fun r15221 H locs hI hp hS => ?_)
                    obtain ⟨hT4, hn12, ⟨a15222, hf15223, hq15224, hA15225⟩, ⟨a15226, hf15227, hq15228, hA15229⟩, ⟨a15230, hf15231, hq15232, hA15233⟩, ⟨w15234, hg15235, k15236⟩, ⟨w15237, hg15238, k15239⟩, ⟨w15240, hg15241, k15242⟩, hpT, ⟨w15243, hg15244, k15245⟩, ⟨w15246, hg15247, k15248⟩⟩ := hp
                    have k15249 := iv_lo w15240
                    have k15250 := iv_hi w15240
                    have k15251 := TK.at hTK hpT
                    refine lv_pop hx hb dX3_plain_148 rfl ?_
                    refine lv_iload_n hx hb dX3_plain_149 rfl (lv_at hl 2 rfl) ?_
                    refine lv_if_eq (tgt := 161) hx hb dX3_plain_150 (by decide) (fun c15252 => ?_) (fun c15252 => ?_)
                    · skip
                      have k15253 := iv_eq (X := v14795.toInt) (Y := (0)) rfl (by decide) c15252
                      refine lv_iload_n hx hb dX3_plain_161 rfl (lv_at hl 0 rfl) ?_
                      have hpost : ((1 : Int32) = 1 ∧ ∃ p2 L2 : Nat, RC E D G h0 ft fp fn TT p2 nc L2 H ∧ pp + 1 ≤ p2 ∧ pd_R ZZ YY TT (4, fl, nk, L2) p2 = XX) ∨ ((1 : Int32) = 0 ∧ ∃ p2 L2 : Nat, RC E D G h0 ft fp fn TT p2 nc L2 H ∧ pp ≤ p2 ∧ XX = (p2, false)) := Or.inl ⟨rfl, pn15185, Ln15186, ⟨by omega, by omega, ⟨a15222, hf15223, hq15224, hA15225⟩, ⟨a15226, hf15227, hq15228, hA15229⟩, ⟨a15230, hf15231, hq15232, hA15233⟩, ⟨w15234, hg15235, by first | omega | decide⟩, ⟨w15237, hg15238, by first | omega | decide⟩, ⟨w15240, hg15241, by first | omega | decide⟩, by omega, ⟨w15243, hg15244, by first | omega | decide⟩, ⟨w15246, hg15247, by first | omega | decide⟩⟩, by omega, hpd15220⟩
                      rw [hQ]
                      exact W.zret (v := 1) hx hb hr (by decide) (fun t ht hW => ⟨⟨1, 1, rfl, rfl, ⟨by rw [ht]; exact hI, hN.warm hW, va_K.moved hW.alike hK⟩, by first | (rw [ht]; exact hpost) | exact hpost⟩, hS.F ht⟩) hS.2.2 dX3_plain_162
                    · skip
                      have k15254 := iv_ne (X := v14795.toInt) (Y := (0)) rfl (by decide) c15252
                      refine lv_aload_n hx hb dX3_plain_153 rfl (lv_at hl 3 rfl) ?_
                      refine lv_bipush (v := 10) hx hb dX3_plain_154 (by decide) ?_
                      refine lv_iconst (v := 0) hx hb dX3_plain_156 (by decide) ?_
                      refine nx_i (As := [.int 10, .int 0]) (rest := []) (n := 2) (d := 0) ⟨hx, hb, hml, hown, hts⟩ (c_X3_emit l E D G h0 hG0 10 0 ft fp fn TT pn15185 nc Ln15186) wd_723 wd_725 wp_17 wd_5 wd_726 (by decide +kernel) ⟨by rw [hR]; show 0 + 1 ≤ 21 + 3 * k; omega, by rw [hR]; show 8 + (3 + 11) + 40 * (0) ≤ 40 * (21 + 3 * k); omega⟩ hI hN hK hS hG0 (⟨by omega, by omega, ⟨a15222, hf15223, hq15224, hA15225⟩, ⟨a15226, hf15227, hq15228, hA15229⟩, ⟨a15230, hf15231, hq15232, hA15233⟩, ⟨w15234, hg15235, by first | omega | decide⟩, ⟨w15237, hg15238, by first | omega | decide⟩, ⟨w15240, hg15241, by first | omega | decide⟩, by omega, ⟨w15243, hg15244, by first | omega | decide⟩, ⟨w15246, hg15247, by first | omega | decide⟩⟩) rfl hl.1 rfl (Nat.le_of_ble_eq_true rfl) dX3_plain_157 ⟨Nat.zero_le _, Nat.zero_le _⟩ (fun r15255 H locs hI hp hS => ?_)
                      obtain ⟨hT4, hn12, ⟨a15256, hf15257, hq15258, hA15259⟩, ⟨a15260, hf15261, hq15262, hA15263⟩, ⟨a15264, hf15265, hq15266, hA15267⟩, ⟨w15268, hg15269, k15270⟩, ⟨w15271, hg15272, k15273⟩, ⟨w15274, hg15275, k15276⟩, hpT, ⟨w15277, hg15278, k15279⟩, ⟨w15280, hg15281, k15282⟩⟩ := hp
                      have k15283 := iv_lo w15274
                      have k15284 := iv_hi w15274
                      have k15285 := TK.at hTK hpT
                      refine lv_pop hx hb dX3_plain_160 rfl ?_
                      refine lv_iload_n hx hb dX3_plain_161 rfl (lv_at hl 0 rfl) ?_
                      have hpost : ((1 : Int32) = 1 ∧ ∃ p2 L2 : Nat, RC E D G h0 ft fp fn TT p2 nc L2 H ∧ pp + 1 ≤ p2 ∧ pd_R ZZ YY TT (4, fl, nk, L2) p2 = XX) ∨ ((1 : Int32) = 0 ∧ ∃ p2 L2 : Nat, RC E D G h0 ft fp fn TT p2 nc L2 H ∧ pp ≤ p2 ∧ XX = (p2, false)) := Or.inl ⟨rfl, pn15185, Ln15186, ⟨by omega, by omega, ⟨a15256, hf15257, hq15258, hA15259⟩, ⟨a15260, hf15261, hq15262, hA15263⟩, ⟨a15264, hf15265, hq15266, hA15267⟩, ⟨w15268, hg15269, by first | omega | decide⟩, ⟨w15271, hg15272, by first | omega | decide⟩, ⟨w15274, hg15275, by first | omega | decide⟩, by omega, ⟨w15277, hg15278, by first | omega | decide⟩, ⟨w15280, hg15281, by first | omega | decide⟩⟩, by omega, hpd15220⟩
                      rw [hQ]
                      exact W.zret (v := 1) hx hb hr (by decide) (fun t ht hW => ⟨⟨1, 1, rfl, rfl, ⟨by rw [ht]; exact hI, hN.warm hW, va_K.moved hW.alike hK⟩, by first | (rw [ht]; exact hpost) | exact hpost⟩, hS.F ht⟩) hS.2.2 dX3_plain_162
                  · skip
                    try simp only [rg, not_and, Int.not_le] at hp
                    have hp15286 := hp
                    obtain ⟨pn15287, Ln15288, hE, k15289, hfl15290⟩ := hp15286
                    have hp15286 : True := trivial
                    obtain ⟨hT4, hn12, ⟨a15291, hf15292, hq15293, hA15294⟩, ⟨a15295, hf15296, hq15297, hA15298⟩, ⟨a15299, hf15300, hq15301, hA15302⟩, ⟨w15303, hg15304, k15305⟩, ⟨w15306, hg15307, k15308⟩, ⟨w15309, hg15310, k15311⟩, hpT, ⟨w15312, hg15313, k15314⟩, ⟨w15315, hg15316, k15317⟩⟩ := hE
                    have k15318 := iv_lo w15309
                    have k15319 := iv_hi w15309
                    have k15320 := TK.at hTK hpT
                    refine lv_istore_n (lv' := [(3, .int 0), (4, .int 8), (2, .int v14795), (0, .ref h0), (1, .int x1)]) hx hb dX3_plain_140 rfl hl (by decide) rfl (fun ls hl => ?_)
                    refine lv_aload_n hx hb dX3_plain_141 rfl (lv_at hl 3 rfl) ?_
                    refine lv_iload hx hb dX3_plain_142 (lv_at hl 1 rfl) ?_
                    refine lv_iconst (v := 0) hx hb dX3_plain_144 (by decide) ?_
                    refine nx_i (As := [.int 8, .int 0]) (rest := []) (n := 2) (d := 0) ⟨hx, hb, hml, hown, hts⟩ (c_X3_emit l E D G h0 hG0 8 0 ft fp fn TT pn15287 nc Ln15288) wd_723 wd_725 wp_17 wd_5 wd_726 (by decide +kernel) ⟨by rw [hR]; show 0 + 1 ≤ 21 + 3 * k; omega, by rw [hR]; show 8 + (3 + 11) + 40 * (0) ≤ 40 * (21 + 3 * k); omega⟩ hI hN hK hS hG0 (⟨by omega, by omega, ⟨a15291, hf15292, hq15293, hA15294⟩, ⟨a15295, hf15296, hq15297, hA15298⟩, ⟨a15299, hf15300, hq15301, hA15302⟩, ⟨w15303, hg15304, by first | omega | decide⟩, ⟨w15306, hg15307, by first | omega | decide⟩, ⟨w15309, hg15310, by first | omega | decide⟩, by omega, ⟨w15312, hg15313, by first | omega | decide⟩, ⟨w15315, hg15316, by first | omega | decide⟩⟩) rfl hl.1 rfl (Nat.le_of_ble_eq_true rfl) dX3_plain_145 ⟨Nat.zero_le _, Nat.zero_le _⟩ (fun r15321 H locs hI hp hS => ?_)
                    obtain ⟨hT4, hn12, ⟨a15322, hf15323, hq15324, hA15325⟩, ⟨a15326, hf15327, hq15328, hA15329⟩, ⟨a15330, hf15331, hq15332, hA15333⟩, ⟨w15334, hg15335, k15336⟩, ⟨w15337, hg15338, k15339⟩, ⟨w15340, hg15341, k15342⟩, hpT, ⟨w15343, hg15344, k15345⟩, ⟨w15346, hg15347, k15348⟩⟩ := hp
                    have k15349 := iv_lo w15340
                    have k15350 := iv_hi w15340
                    have k15351 := TK.at hTK hpT
                    refine lv_pop hx hb dX3_plain_148 rfl ?_
                    refine lv_iload_n hx hb dX3_plain_149 rfl (lv_at hl 2 rfl) ?_
                    refine lv_if_eq (tgt := 161) hx hb dX3_plain_150 (by decide) (fun c15352 => ?_) (fun c15352 => ?_)
                    · skip
                      have k15353 := iv_eq (X := v14795.toInt) (Y := (0)) rfl (by decide) c15352
                      refine lv_iload_n hx hb dX3_plain_161 rfl (lv_at hl 0 rfl) ?_
                      have hpost : ((0 : Int32) = 1 ∧ ∃ p2 L2 : Nat, RC E D G h0 ft fp fn TT p2 nc L2 H ∧ pp + 1 ≤ p2 ∧ pd_R ZZ YY TT (4, fl, nk, L2) p2 = XX) ∨ ((0 : Int32) = 0 ∧ ∃ p2 L2 : Nat, RC E D G h0 ft fp fn TT p2 nc L2 H ∧ pp ≤ p2 ∧ XX = (p2, false)) := Or.inr ⟨rfl, pn15287, Ln15288, ⟨by omega, by omega, ⟨a15322, hf15323, hq15324, hA15325⟩, ⟨a15326, hf15327, hq15328, hA15329⟩, ⟨a15330, hf15331, hq15332, hA15333⟩, ⟨w15334, hg15335, by first | omega | decide⟩, ⟨w15337, hg15338, by first | omega | decide⟩, ⟨w15340, hg15341, by first | omega | decide⟩, by omega, ⟨w15343, hg15344, by first | omega | decide⟩, ⟨w15346, hg15347, by first | omega | decide⟩⟩, by omega, hfl15290⟩
                      rw [hQ]
                      exact W.zret (v := 0) hx hb hr (by decide) (fun t ht hW => ⟨⟨0, 0, rfl, rfl, ⟨by rw [ht]; exact hI, hN.warm hW, va_K.moved hW.alike hK⟩, by first | (rw [ht]; exact hpost) | exact hpost⟩, hS.F ht⟩) hS.2.2 dX3_plain_162
                    · skip
                      have k15354 := iv_ne (X := v14795.toInt) (Y := (0)) rfl (by decide) c15352
                      refine lv_aload_n hx hb dX3_plain_153 rfl (lv_at hl 3 rfl) ?_
                      refine lv_bipush (v := 10) hx hb dX3_plain_154 (by decide) ?_
                      refine lv_iconst (v := 0) hx hb dX3_plain_156 (by decide) ?_
                      refine nx_i (As := [.int 10, .int 0]) (rest := []) (n := 2) (d := 0) ⟨hx, hb, hml, hown, hts⟩ (c_X3_emit l E D G h0 hG0 10 0 ft fp fn TT pn15287 nc Ln15288) wd_723 wd_725 wp_17 wd_5 wd_726 (by decide +kernel) ⟨by rw [hR]; show 0 + 1 ≤ 21 + 3 * k; omega, by rw [hR]; show 8 + (3 + 11) + 40 * (0) ≤ 40 * (21 + 3 * k); omega⟩ hI hN hK hS hG0 (⟨by omega, by omega, ⟨a15322, hf15323, hq15324, hA15325⟩, ⟨a15326, hf15327, hq15328, hA15329⟩, ⟨a15330, hf15331, hq15332, hA15333⟩, ⟨w15334, hg15335, by first | omega | decide⟩, ⟨w15337, hg15338, by first | omega | decide⟩, ⟨w15340, hg15341, by first | omega | decide⟩, by omega, ⟨w15343, hg15344, by first | omega | decide⟩, ⟨w15346, hg15347, by first | omega | decide⟩⟩) rfl hl.1 rfl (Nat.le_of_ble_eq_true rfl) dX3_plain_157 ⟨Nat.zero_le _, Nat.zero_le _⟩ (fun r15355 H locs hI hp hS => ?_)
                      obtain ⟨hT4, hn12, ⟨a15356, hf15357, hq15358, hA15359⟩, ⟨a15360, hf15361, hq15362, hA15363⟩, ⟨a15364, hf15365, hq15366, hA15367⟩, ⟨w15368, hg15369, k15370⟩, ⟨w15371, hg15372, k15373⟩, ⟨w15374, hg15375, k15376⟩, hpT, ⟨w15377, hg15378, k15379⟩, ⟨w15380, hg15381, k15382⟩⟩ := hp
                      have k15383 := iv_lo w15374
                      have k15384 := iv_hi w15374
                      have k15385 := TK.at hTK hpT
                      refine lv_pop hx hb dX3_plain_160 rfl ?_
                      refine lv_iload_n hx hb dX3_plain_161 rfl (lv_at hl 0 rfl) ?_
                      have hpost : ((0 : Int32) = 1 ∧ ∃ p2 L2 : Nat, RC E D G h0 ft fp fn TT p2 nc L2 H ∧ pp + 1 ≤ p2 ∧ pd_R ZZ YY TT (4, fl, nk, L2) p2 = XX) ∨ ((0 : Int32) = 0 ∧ ∃ p2 L2 : Nat, RC E D G h0 ft fp fn TT p2 nc L2 H ∧ pp ≤ p2 ∧ XX = (p2, false)) := Or.inr ⟨rfl, pn15287, Ln15288, ⟨by omega, by omega, ⟨a15356, hf15357, hq15358, hA15359⟩, ⟨a15360, hf15361, hq15362, hA15363⟩, ⟨a15364, hf15365, hq15366, hA15367⟩, ⟨w15368, hg15369, by first | omega | decide⟩, ⟨w15371, hg15372, by first | omega | decide⟩, ⟨w15374, hg15375, by first | omega | decide⟩, by omega, ⟨w15377, hg15378, by first | omega | decide⟩, ⟨w15380, hg15381, by first | omega | decide⟩⟩, by omega, hfl15290⟩
                      rw [hQ]
                      exact W.zret (v := 0) hx hb hr (by decide) (fun t ht hW => ⟨⟨0, 0, rfl, rfl, ⟨by rw [ht]; exact hI, hN.warm hW, va_K.moved hW.alike hK⟩, by first | (rw [ht]; exact hpost) | exact hpost⟩, hS.F ht⟩) hS.2.2 dX3_plain_162
                · skip
                  have k15386 := iv_eq (X := (8)) (Y := (9)) (by decide) (by decide) c15143
                  exfalso; omega
            · skip
              have k15387 := iv_eq (X := w14871.toInt) (Y := (60)) rfl (by decide) c14883
              refine lv_bipush (v := 7) hx hb dX3_plain_80 (by decide) ?_
              refine lv_goto (tgt := 101) hx hb dX3_plain_82 (by decide) ?_
              refine lv_istore (lv' := [(4, .int 7), (3, .int 1), (2, .int v14795), (0, .ref h0), (1, .int x1)]) hx hb dX3_plain_101 hl (by decide) rfl (fun ls hl => ?_)
              refine lv_iload_n hx hb dX3_plain_103 rfl (lv_at hl 1 rfl) ?_
              refine lv_if_eq (tgt := 123) hx hb dX3_plain_104 (by decide) (fun c => absurd c (by decide)) (fun _ => ?_)
              refine lv_iload hx hb dX3_plain_107 (lv_at hl 0 rfl) ?_
              refine lv_bipush (v := 9) hx hb dX3_plain_109 (by decide) ?_
              refine lv_icmp_ne (tgt := 125) hx hb dX3_plain_111 (by decide) (fun c15388 => ?_) (fun c15388 => ?_)
              · skip
                have k15389 := iv_ne (X := (7)) (Y := (9)) (by decide) (by decide) c15388
                refine lv_aload_n hx hb dX3_plain_125 rfl (lv_at hl 3 rfl) ?_
                refine lv_aload_n hx hb dX3_plain_126 rfl (lv_at hl 3 rfl) ?_
                refine gmIC hx hb hts inT3 hown hK hI List.not_mem_nil hG0 10 (by decide) (hts _ (tb_c wd_139)) rfl rfl dX3_plain_127 (fun w15390 hg15391 k15392 k15393 => ?_)
                obtain rfl := gfC.uniq (by decide) hg14869 hg15391
                refine lv_iconst (v := 1) hx hb dX3_plain_130 (by decide) ?_
                refine lv_iadd hx hb dX3_plain_131 ?_
                refine lv_topi (fun v15394 e15395 => ?_)
                have tv15394 : v15394.toInt = w14868.toInt + (1) := iv_add rfl (by decide) e15395 (by omega) (by omega)
                have hpd15396 : pd_R ZZ YY TT (1, 2 :: fl, nk, Ln14843) (pn14842 + 1) = XX := (pd_A_cm (by omega) (by omega)).symm.trans hpd14845
                refine nx_v (As := [.int v15394]) (rest := []) (n := 1) (d := 0) ⟨hx, hb, hml, hown, hts⟩ (c_X3_moveTo l E D G h0 hG0 v15394 ft fp fn TT (pn14842 + 1) nc Ln14843 (by first | omega | decide) (by omega)) wd_707 wd_709 wp_13 wd_5 wd_710 (by decide +kernel) ⟨by rw [hR]; show 0 + 1 ≤ 21 + 3 * k; omega, by rw [hR]; show 8 + (2 + 11) + 40 * (0) ≤ 40 * (21 + 3 * k); omega⟩ hI hN hK hS hG0 (⟨by omega, by omega, ⟨a14847, hf14848, hq14849, hA14850⟩, ⟨a14851, hf14852, hq14853, hA14854⟩, ⟨a14855, hf14856, hq14857, hA14858⟩, ⟨w14859, hg14860, by first | omega | decide⟩, ⟨w14862, hg14863, by first | omega | decide⟩, ⟨w14865, hg14866, by first | omega | decide⟩⟩) rfl hl.1 rfl (Nat.le_of_ble_eq_true rfl) dX3_plain_132 ⟨Nat.zero_le _, Nat.zero_le _⟩ (fun H locs hI hp hS => ?_)
                obtain ⟨hT4, hn12, ⟨a15398, hf15399, hq15400, hA15401⟩, ⟨a15402, hf15403, hq15404, hA15405⟩, ⟨a15406, hf15407, hq15408, hA15409⟩, ⟨w15410, hg15411, k15412⟩, ⟨w15413, hg15414, k15415⟩, ⟨w15416, hg15417, k15418⟩, hpT, ⟨w15419, hg15420, k15421⟩, ⟨w15422, hg15423, k15424⟩⟩ := hp
                have k15425 := iv_lo w15416
                have k15426 := iv_hi w15416
                have k15427 := TK.at hTK hpT
                refine lv_aload_n hx hb dX3_plain_135 rfl (lv_at hl 3 rfl) ?_
                refine lv_iload_n hx hb dX3_plain_136 rfl (lv_at hl 4 rfl) ?_
                refine nx_i (As := [.int x1]) (rest := []) (n := 1) (d := 19) ⟨hx, hb, hml, hown, hts⟩ (c_X3_sum l E D G 8 h0 hG0 x1 ft fp fn TT (pn14842 + 1) nc Ln14843 ZZ YY nk XX hTK dd (by first | decide | omega) (by omega) (by omega) (2 :: fl) (by rw [pd_dp2, hdp]) hpd15396 (c_X3_part l E D G 8)) wd_715 wd_717 wp_15 wd_5 wd_718 (by decide +kernel) ⟨by rw [hR]; show 19 + 1 ≤ 21 + 3 * k; omega, by rw [hR]; show 8 + (7 + 11) + 40 * (19) ≤ 40 * (21 + 3 * k); omega⟩ hI hN hK hS hG0 (⟨by omega, by omega, ⟨a15398, hf15399, hq15400, hA15401⟩, ⟨a15402, hf15403, hq15404, hA15405⟩, ⟨a15406, hf15407, hq15408, hA15409⟩, ⟨w15410, hg15411, by first | omega | decide⟩, ⟨w15413, hg15414, by first | omega | decide⟩, ⟨w15416, hg15417, by first | omega | decide⟩, by omega, ⟨w15419, hg15420, by first | omega | decide⟩, ⟨w15422, hg15423, by first | omega | decide⟩⟩) rfl hl.1 rfl (Nat.le_of_ble_eq_true rfl) dX3_plain_137 ⟨Nat.zero_le _, Nat.zero_le _⟩ (fun r15428 H locs hI hp hS => ?_)
                rcases hp with ⟨rfl, hp⟩ | ⟨rfl, hp⟩
                · skip
                  try simp only [rg, not_and, Int.not_le] at hp
                  have hp15429 := hp
                  obtain ⟨pn15430, Ln15431, hE, k15432, hpd15433, hno15434⟩ := hp15429
                  have hp15429 : True := trivial
                  obtain ⟨hT4, hn12, ⟨a15435, hf15436, hq15437, hA15438⟩, ⟨a15439, hf15440, hq15441, hA15442⟩, ⟨a15443, hf15444, hq15445, hA15446⟩, ⟨w15447, hg15448, k15449⟩, ⟨w15450, hg15451, k15452⟩, ⟨w15453, hg15454, k15455⟩, hpT, ⟨w15456, hg15457, k15458⟩, ⟨w15459, hg15460, k15461⟩⟩ := hE
                  have k15462 := iv_lo w15453
                  have k15463 := iv_hi w15453
                  have k15464 := TK.at hTK hpT
                  have hpd15465 : pd_R ZZ YY TT (4, fl, nk, Ln15431) pn15430 = XX := (pd_A_rt (fun h9 => by unfold pd_op; unfold oc at hno15434; omega)).symm.trans hpd15433
                  refine lv_istore_n (lv' := [(3, .int 1), (4, .int 7), (2, .int v14795), (0, .ref h0), (1, .int x1)]) hx hb dX3_plain_140 rfl hl (by decide) rfl (fun ls hl => ?_)
                  refine lv_aload_n hx hb dX3_plain_141 rfl (lv_at hl 3 rfl) ?_
                  refine lv_iload hx hb dX3_plain_142 (lv_at hl 1 rfl) ?_
                  refine lv_iconst (v := 0) hx hb dX3_plain_144 (by decide) ?_
                  refine nx_i (As := [.int 7, .int 0]) (rest := []) (n := 2) (d := 0) ⟨hx, hb, hml, hown, hts⟩ (c_X3_emit l E D G h0 hG0 7 0 ft fp fn TT pn15430 nc Ln15431) wd_723 wd_725 wp_17 wd_5 wd_726 (by decide +kernel) ⟨by rw [hR]; show 0 + 1 ≤ 21 + 3 * k; omega, by rw [hR]; show 8 + (3 + 11) + 40 * (0) ≤ 40 * (21 + 3 * k); omega⟩ hI hN hK hS hG0 (⟨by omega, by omega, ⟨a15435, hf15436, hq15437, hA15438⟩, ⟨a15439, hf15440, hq15441, hA15442⟩, ⟨a15443, hf15444, hq15445, hA15446⟩, ⟨w15447, hg15448, by first | omega | decide⟩, ⟨w15450, hg15451, by first | omega | decide⟩, ⟨w15453, hg15454, by first | omega | decide⟩, by omega, ⟨w15456, hg15457, by first | omega | decide⟩, ⟨w15459, hg15460, by first | omega | decide⟩⟩) rfl hl.1 rfl (Nat.le_of_ble_eq_true rfl) dX3_plain_145 ⟨Nat.zero_le _, Nat.zero_le _⟩ (fun r15466 H locs hI hp hS => ?_)
                  obtain ⟨hT4, hn12, ⟨a15467, hf15468, hq15469, hA15470⟩, ⟨a15471, hf15472, hq15473, hA15474⟩, ⟨a15475, hf15476, hq15477, hA15478⟩, ⟨w15479, hg15480, k15481⟩, ⟨w15482, hg15483, k15484⟩, ⟨w15485, hg15486, k15487⟩, hpT, ⟨w15488, hg15489, k15490⟩, ⟨w15491, hg15492, k15493⟩⟩ := hp
                  have k15494 := iv_lo w15485
                  have k15495 := iv_hi w15485
                  have k15496 := TK.at hTK hpT
                  refine lv_pop hx hb dX3_plain_148 rfl ?_
                  refine lv_iload_n hx hb dX3_plain_149 rfl (lv_at hl 2 rfl) ?_
                  refine lv_if_eq (tgt := 161) hx hb dX3_plain_150 (by decide) (fun c15497 => ?_) (fun c15497 => ?_)
                  · skip
                    have k15498 := iv_eq (X := v14795.toInt) (Y := (0)) rfl (by decide) c15497
                    refine lv_iload_n hx hb dX3_plain_161 rfl (lv_at hl 0 rfl) ?_
                    have hpost : ((1 : Int32) = 1 ∧ ∃ p2 L2 : Nat, RC E D G h0 ft fp fn TT p2 nc L2 H ∧ pp + 1 ≤ p2 ∧ pd_R ZZ YY TT (4, fl, nk, L2) p2 = XX) ∨ ((1 : Int32) = 0 ∧ ∃ p2 L2 : Nat, RC E D G h0 ft fp fn TT p2 nc L2 H ∧ pp ≤ p2 ∧ XX = (p2, false)) := Or.inl ⟨rfl, pn15430, Ln15431, ⟨by omega, by omega, ⟨a15467, hf15468, hq15469, hA15470⟩, ⟨a15471, hf15472, hq15473, hA15474⟩, ⟨a15475, hf15476, hq15477, hA15478⟩, ⟨w15479, hg15480, by first | omega | decide⟩, ⟨w15482, hg15483, by first | omega | decide⟩, ⟨w15485, hg15486, by first | omega | decide⟩, by omega, ⟨w15488, hg15489, by first | omega | decide⟩, ⟨w15491, hg15492, by first | omega | decide⟩⟩, by omega, hpd15465⟩
                    rw [hQ]
                    exact W.zret (v := 1) hx hb hr (by decide) (fun t ht hW => ⟨⟨1, 1, rfl, rfl, ⟨by rw [ht]; exact hI, hN.warm hW, va_K.moved hW.alike hK⟩, by first | (rw [ht]; exact hpost) | exact hpost⟩, hS.F ht⟩) hS.2.2 dX3_plain_162
                  · skip
                    have k15499 := iv_ne (X := v14795.toInt) (Y := (0)) rfl (by decide) c15497
                    refine lv_aload_n hx hb dX3_plain_153 rfl (lv_at hl 3 rfl) ?_
                    refine lv_bipush (v := 10) hx hb dX3_plain_154 (by decide) ?_
                    refine lv_iconst (v := 0) hx hb dX3_plain_156 (by decide) ?_
                    refine nx_i (As := [.int 10, .int 0]) (rest := []) (n := 2) (d := 0) ⟨hx, hb, hml, hown, hts⟩ (c_X3_emit l E D G h0 hG0 10 0 ft fp fn TT pn15430 nc Ln15431) wd_723 wd_725 wp_17 wd_5 wd_726 (by decide +kernel) ⟨by rw [hR]; show 0 + 1 ≤ 21 + 3 * k; omega, by rw [hR]; show 8 + (3 + 11) + 40 * (0) ≤ 40 * (21 + 3 * k); omega⟩ hI hN hK hS hG0 (⟨by omega, by omega, ⟨a15467, hf15468, hq15469, hA15470⟩, ⟨a15471, hf15472, hq15473, hA15474⟩, ⟨a15475, hf15476, hq15477, hA15478⟩, ⟨w15479, hg15480, by first | omega | decide⟩, ⟨w15482, hg15483, by first | omega | decide⟩, ⟨w15485, hg15486, by first | omega | decide⟩, by omega, ⟨w15488, hg15489, by first | omega | decide⟩, ⟨w15491, hg15492, by first | omega | decide⟩⟩) rfl hl.1 rfl (Nat.le_of_ble_eq_true rfl) dX3_plain_157 ⟨Nat.zero_le _, Nat.zero_le _⟩ (fun r15500 H locs hI hp hS => ?_)
                    obtain ⟨hT4, hn12, ⟨a15501, hf15502, hq15503, hA15504⟩, ⟨a15505, hf15506, hq15507, hA15508⟩, ⟨a15509, hf15510, hq15511, hA15512⟩, ⟨w15513, hg15514, k15515⟩, ⟨w15516, hg15517, k15518⟩, ⟨w15519, hg15520, k15521⟩, hpT, ⟨w15522, hg15523, k15524⟩, ⟨w15525, hg15526, k15527⟩⟩ := hp
                    have k15528 := iv_lo w15519
                    have k15529 := iv_hi w15519
                    have k15530 := TK.at hTK hpT
                    refine lv_pop hx hb dX3_plain_160 rfl ?_
                    refine lv_iload_n hx hb dX3_plain_161 rfl (lv_at hl 0 rfl) ?_
                    have hpost : ((1 : Int32) = 1 ∧ ∃ p2 L2 : Nat, RC E D G h0 ft fp fn TT p2 nc L2 H ∧ pp + 1 ≤ p2 ∧ pd_R ZZ YY TT (4, fl, nk, L2) p2 = XX) ∨ ((1 : Int32) = 0 ∧ ∃ p2 L2 : Nat, RC E D G h0 ft fp fn TT p2 nc L2 H ∧ pp ≤ p2 ∧ XX = (p2, false)) := Or.inl ⟨rfl, pn15430, Ln15431, ⟨by omega, by omega, ⟨a15501, hf15502, hq15503, hA15504⟩, ⟨a15505, hf15506, hq15507, hA15508⟩, ⟨a15509, hf15510, hq15511, hA15512⟩, ⟨w15513, hg15514, by first | omega | decide⟩, ⟨w15516, hg15517, by first | omega | decide⟩, ⟨w15519, hg15520, by first | omega | decide⟩, by omega, ⟨w15522, hg15523, by first | omega | decide⟩, ⟨w15525, hg15526, by first | omega | decide⟩⟩, by omega, hpd15465⟩
                    rw [hQ]
                    exact W.zret (v := 1) hx hb hr (by decide) (fun t ht hW => ⟨⟨1, 1, rfl, rfl, ⟨by rw [ht]; exact hI, hN.warm hW, va_K.moved hW.alike hK⟩, by first | (rw [ht]; exact hpost) | exact hpost⟩, hS.F ht⟩) hS.2.2 dX3_plain_162
                · skip
                  try simp only [rg, not_and, Int.not_le] at hp
                  have hp15531 := hp
                  obtain ⟨pn15532, Ln15533, hE, k15534, hfl15535⟩ := hp15531
                  have hp15531 : True := trivial
                  obtain ⟨hT4, hn12, ⟨a15536, hf15537, hq15538, hA15539⟩, ⟨a15540, hf15541, hq15542, hA15543⟩, ⟨a15544, hf15545, hq15546, hA15547⟩, ⟨w15548, hg15549, k15550⟩, ⟨w15551, hg15552, k15553⟩, ⟨w15554, hg15555, k15556⟩, hpT, ⟨w15557, hg15558, k15559⟩, ⟨w15560, hg15561, k15562⟩⟩ := hE
                  have k15563 := iv_lo w15554
                  have k15564 := iv_hi w15554
                  have k15565 := TK.at hTK hpT
                  refine lv_istore_n (lv' := [(3, .int 0), (4, .int 7), (2, .int v14795), (0, .ref h0), (1, .int x1)]) hx hb dX3_plain_140 rfl hl (by decide) rfl (fun ls hl => ?_)
                  refine lv_aload_n hx hb dX3_plain_141 rfl (lv_at hl 3 rfl) ?_
                  refine lv_iload hx hb dX3_plain_142 (lv_at hl 1 rfl) ?_
                  refine lv_iconst (v := 0) hx hb dX3_plain_144 (by decide) ?_
                  refine nx_i (As := [.int 7, .int 0]) (rest := []) (n := 2) (d := 0) ⟨hx, hb, hml, hown, hts⟩ (c_X3_emit l E D G h0 hG0 7 0 ft fp fn TT pn15532 nc Ln15533) wd_723 wd_725 wp_17 wd_5 wd_726 (by decide +kernel) ⟨by rw [hR]; show 0 + 1 ≤ 21 + 3 * k; omega, by rw [hR]; show 8 + (3 + 11) + 40 * (0) ≤ 40 * (21 + 3 * k); omega⟩ hI hN hK hS hG0 (⟨by omega, by omega, ⟨a15536, hf15537, hq15538, hA15539⟩, ⟨a15540, hf15541, hq15542, hA15543⟩, ⟨a15544, hf15545, hq15546, hA15547⟩, ⟨w15548, hg15549, by first | omega | decide⟩, ⟨w15551, hg15552, by first | omega | decide⟩, ⟨w15554, hg15555, by first | omega | decide⟩, by omega, ⟨w15557, hg15558, by first | omega | decide⟩, ⟨w15560, hg15561, by first | omega | decide⟩⟩) rfl hl.1 rfl (Nat.le_of_ble_eq_true rfl) dX3_plain_145 ⟨Nat.zero_le _, Nat.zero_le _⟩ (fun r15566 H locs hI hp hS => ?_)
                  obtain ⟨hT4, hn12, ⟨a15567, hf15568, hq15569, hA15570⟩, ⟨a15571, hf15572, hq15573, hA15574⟩, ⟨a15575, hf15576, hq15577, hA15578⟩, ⟨w15579, hg15580, k15581⟩, ⟨w15582, hg15583, k15584⟩, ⟨w15585, hg15586, k15587⟩, hpT, ⟨w15588, hg15589, k15590⟩, ⟨w15591, hg15592, k15593⟩⟩ := hp
                  have k15594 := iv_lo w15585
                  have k15595 := iv_hi w15585
                  have k15596 := TK.at hTK hpT
                  refine lv_pop hx hb dX3_plain_148 rfl ?_
                  refine lv_iload_n hx hb dX3_plain_149 rfl (lv_at hl 2 rfl) ?_
                  refine lv_if_eq (tgt := 161) hx hb dX3_plain_150 (by decide) (fun c15597 => ?_) (fun c15597 => ?_)
                  · skip
                    have k15598 := iv_eq (X := v14795.toInt) (Y := (0)) rfl (by decide) c15597
                    refine lv_iload_n hx hb dX3_plain_161 rfl (lv_at hl 0 rfl) ?_
                    have hpost : ((0 : Int32) = 1 ∧ ∃ p2 L2 : Nat, RC E D G h0 ft fp fn TT p2 nc L2 H ∧ pp + 1 ≤ p2 ∧ pd_R ZZ YY TT (4, fl, nk, L2) p2 = XX) ∨ ((0 : Int32) = 0 ∧ ∃ p2 L2 : Nat, RC E D G h0 ft fp fn TT p2 nc L2 H ∧ pp ≤ p2 ∧ XX = (p2, false)) := Or.inr ⟨rfl, pn15532, Ln15533, ⟨by omega, by omega, ⟨a15567, hf15568, hq15569, hA15570⟩, ⟨a15571, hf15572, hq15573, hA15574⟩, ⟨a15575, hf15576, hq15577, hA15578⟩, ⟨w15579, hg15580, by first | omega | decide⟩, ⟨w15582, hg15583, by first | omega | decide⟩, ⟨w15585, hg15586, by first | omega | decide⟩, by omega, ⟨w15588, hg15589, by first | omega | decide⟩, ⟨w15591, hg15592, by first | omega | decide⟩⟩, by omega, hfl15535⟩
                    rw [hQ]
                    exact W.zret (v := 0) hx hb hr (by decide) (fun t ht hW => ⟨⟨0, 0, rfl, rfl, ⟨by rw [ht]; exact hI, hN.warm hW, va_K.moved hW.alike hK⟩, by first | (rw [ht]; exact hpost) | exact hpost⟩, hS.F ht⟩) hS.2.2 dX3_plain_162
                  · skip
                    have k15599 := iv_ne (X := v14795.toInt) (Y := (0)) rfl (by decide) c15597
                    refine lv_aload_n hx hb dX3_plain_153 rfl (lv_at hl 3 rfl) ?_
                    refine lv_bipush (v := 10) hx hb dX3_plain_154 (by decide) ?_
                    refine lv_iconst (v := 0) hx hb dX3_plain_156 (by decide) ?_
                    refine nx_i (As := [.int 10, .int 0]) (rest := []) (n := 2) (d := 0) ⟨hx, hb, hml, hown, hts⟩ (c_X3_emit l E D G h0 hG0 10 0 ft fp fn TT pn15532 nc Ln15533) wd_723 wd_725 wp_17 wd_5 wd_726 (by decide +kernel) ⟨by rw [hR]; show 0 + 1 ≤ 21 + 3 * k; omega, by rw [hR]; show 8 + (3 + 11) + 40 * (0) ≤ 40 * (21 + 3 * k); omega⟩ hI hN hK hS hG0 (⟨by omega, by omega, ⟨a15567, hf15568, hq15569, hA15570⟩, ⟨a15571, hf15572, hq15573, hA15574⟩, ⟨a15575, hf15576, hq15577, hA15578⟩, ⟨w15579, hg15580, by first | omega | decide⟩, ⟨w15582, hg15583, by first | omega | decide⟩, ⟨w15585, hg15586, by first | omega | decide⟩, by omega, ⟨w15588, hg15589, by first | omega | decide⟩, ⟨w15591, hg15592, by first | omega | decide⟩⟩) rfl hl.1 rfl (Nat.le_of_ble_eq_true rfl) dX3_plain_157 ⟨Nat.zero_le _, Nat.zero_le _⟩ (fun r15600 H locs hI hp hS => ?_)
                    obtain ⟨hT4, hn12, ⟨a15601, hf15602, hq15603, hA15604⟩, ⟨a15605, hf15606, hq15607, hA15608⟩, ⟨a15609, hf15610, hq15611, hA15612⟩, ⟨w15613, hg15614, k15615⟩, ⟨w15616, hg15617, k15618⟩, ⟨w15619, hg15620, k15621⟩, hpT, ⟨w15622, hg15623, k15624⟩, ⟨w15625, hg15626, k15627⟩⟩ := hp
                    have k15628 := iv_lo w15619
                    have k15629 := iv_hi w15619
                    have k15630 := TK.at hTK hpT
                    refine lv_pop hx hb dX3_plain_160 rfl ?_
                    refine lv_iload_n hx hb dX3_plain_161 rfl (lv_at hl 0 rfl) ?_
                    have hpost : ((0 : Int32) = 1 ∧ ∃ p2 L2 : Nat, RC E D G h0 ft fp fn TT p2 nc L2 H ∧ pp + 1 ≤ p2 ∧ pd_R ZZ YY TT (4, fl, nk, L2) p2 = XX) ∨ ((0 : Int32) = 0 ∧ ∃ p2 L2 : Nat, RC E D G h0 ft fp fn TT p2 nc L2 H ∧ pp ≤ p2 ∧ XX = (p2, false)) := Or.inr ⟨rfl, pn15532, Ln15533, ⟨by omega, by omega, ⟨a15601, hf15602, hq15603, hA15604⟩, ⟨a15605, hf15606, hq15607, hA15608⟩, ⟨a15609, hf15610, hq15611, hA15612⟩, ⟨w15613, hg15614, by first | omega | decide⟩, ⟨w15616, hg15617, by first | omega | decide⟩, ⟨w15619, hg15620, by first | omega | decide⟩, by omega, ⟨w15622, hg15623, by first | omega | decide⟩, ⟨w15625, hg15626, by first | omega | decide⟩⟩, by omega, hfl15535⟩
                    rw [hQ]
                    exact W.zret (v := 0) hx hb hr (by decide) (fun t ht hW => ⟨⟨0, 0, rfl, rfl, ⟨by rw [ht]; exact hI, hN.warm hW, va_K.moved hW.alike hK⟩, by first | (rw [ht]; exact hpost) | exact hpost⟩, hS.F ht⟩) hS.2.2 dX3_plain_162
              · skip
                have k15631 := iv_eq (X := (7)) (Y := (9)) (by decide) (by decide) c15388
                exfalso; omega
          · skip
            try simp only [rg, not_and, Int.not_le] at hp
            have hp15632 := hp
            obtain ⟨pn15633, Ln15634, hE, k15635, hfl15636⟩ := hp15632
            have hp15632 : True := trivial
            obtain ⟨hT4, hn12, ⟨a15637, hf15638, hq15639, hA15640⟩, ⟨a15641, hf15642, hq15643, hA15644⟩, ⟨a15645, hf15646, hq15647, hA15648⟩, ⟨w15649, hg15650, k15651⟩, ⟨w15652, hg15653, k15654⟩, ⟨w15655, hg15656, k15657⟩, hpT, ⟨w15658, hg15659, k15660⟩, ⟨w15661, hg15662, k15663⟩⟩ := hE
            have k15664 := iv_lo w15655
            have k15665 := iv_hi w15655
            have k15666 := TK.at hTK hpT
            refine lv_istore_n (lv' := [(3, .int 0), (2, .int v14795), (0, .ref h0), (1, .int x1)]) hx hb dX3_plain_70 rfl hl (by decide) rfl (fun ls hl => ?_)
            refine lv_aload_n hx hb dX3_plain_71 rfl (lv_at hl 2 rfl) ?_
            refine gmIC hx hb hts inT3 hown hK hI List.not_mem_nil hG0 11 (by decide) (hts _ (tb_c wd_140)) rfl rfl dX3_plain_72 (fun w15667 hg15668 k15669 k15670 => ?_)
            obtain rfl := gfC.uniq (by decide) hg15662 hg15668
            refine lv_bipush (v := 60) hx hb dX3_plain_75 (by decide) ?_
            have k15671 := iv_lo w15661
            have k15672 := iv_hi w15661
            refine lv_icmp_ne (tgt := 85) hx hb dX3_plain_77 (by decide) (fun c15673 => ?_) (fun c15673 => ?_)
            · skip
              have k15674 := iv_ne (X := w15661.toInt) (Y := (60)) rfl (by decide) c15673
              refine lv_aload_n hx hb dX3_plain_85 rfl (lv_at hl 2 rfl) ?_
              refine gmIC hx hb hts inT3 hown hK hI List.not_mem_nil hG0 11 (by decide) (hts _ (tb_c wd_140)) rfl rfl dX3_plain_86 (fun w15675 hg15676 k15677 k15678 => ?_)
              obtain rfl := gfC.uniq (by decide) hg15662 hg15676
              refine lv_bipush (v := 62) hx hb dX3_plain_89 (by decide) ?_
              refine lv_icmp_ne (tgt := 99) hx hb dX3_plain_91 (by decide) (fun c15679 => ?_) (fun c15679 => ?_)
              · skip
                have k15680 := iv_ne (X := w15661.toInt) (Y := (62)) rfl (by decide) c15679
                refine lv_bipush (v := 9) hx hb dX3_plain_99 (by decide) ?_
                refine lv_istore (lv' := [(4, .int 9), (3, .int 0), (2, .int v14795), (0, .ref h0), (1, .int x1)]) hx hb dX3_plain_101 hl (by decide) rfl (fun ls hl => ?_)
                refine lv_iload_n hx hb dX3_plain_103 rfl (lv_at hl 1 rfl) ?_
                refine lv_if_eq (tgt := 123) hx hb dX3_plain_104 (by decide) (fun _ => ?_) (fun c => absurd c (by decide))
                refine lv_iconst (v := 0) hx hb dX3_plain_123 (by decide) ?_
                have hpost : ((0 : Int32) = 1 ∧ ∃ p2 L2 : Nat, RC E D G h0 ft fp fn TT p2 nc L2 H ∧ pp + 1 ≤ p2 ∧ pd_R ZZ YY TT (4, fl, nk, L2) p2 = XX) ∨ ((0 : Int32) = 0 ∧ ∃ p2 L2 : Nat, RC E D G h0 ft fp fn TT p2 nc L2 H ∧ pp ≤ p2 ∧ XX = (p2, false)) := Or.inr ⟨rfl, pn15633, Ln15634, ⟨by omega, by omega, ⟨a15637, hf15638, hq15639, hA15640⟩, ⟨a15641, hf15642, hq15643, hA15644⟩, ⟨a15645, hf15646, hq15647, hA15648⟩, ⟨w15649, hg15650, by first | omega | decide⟩, ⟨w15652, hg15653, by first | omega | decide⟩, ⟨w15655, hg15656, by first | omega | decide⟩, by omega, ⟨w15658, hg15659, by first | omega | decide⟩, ⟨w15661, hg15662, by first | omega | decide⟩⟩, by omega, hfl15636⟩
                rw [hQ]
                exact W.zret (v := 0) hx hb hr (by decide) (fun t ht hW => ⟨⟨0, 0, rfl, rfl, ⟨by rw [ht]; exact hI, hN.warm hW, va_K.moved hW.alike hK⟩, by first | (rw [ht]; exact hpost) | exact hpost⟩, hS.F ht⟩) hS.2.2 dX3_plain_124
              · skip
                have k15681 := iv_eq (X := w15661.toInt) (Y := (62)) rfl (by decide) c15679
                refine lv_bipush (v := 8) hx hb dX3_plain_94 (by decide) ?_
                refine lv_goto (tgt := 101) hx hb dX3_plain_96 (by decide) ?_
                refine lv_istore (lv' := [(4, .int 8), (3, .int 0), (2, .int v14795), (0, .ref h0), (1, .int x1)]) hx hb dX3_plain_101 hl (by decide) rfl (fun ls hl => ?_)
                refine lv_iload_n hx hb dX3_plain_103 rfl (lv_at hl 1 rfl) ?_
                refine lv_if_eq (tgt := 123) hx hb dX3_plain_104 (by decide) (fun _ => ?_) (fun c => absurd c (by decide))
                refine lv_iconst (v := 0) hx hb dX3_plain_123 (by decide) ?_
                have hpost : ((0 : Int32) = 1 ∧ ∃ p2 L2 : Nat, RC E D G h0 ft fp fn TT p2 nc L2 H ∧ pp + 1 ≤ p2 ∧ pd_R ZZ YY TT (4, fl, nk, L2) p2 = XX) ∨ ((0 : Int32) = 0 ∧ ∃ p2 L2 : Nat, RC E D G h0 ft fp fn TT p2 nc L2 H ∧ pp ≤ p2 ∧ XX = (p2, false)) := Or.inr ⟨rfl, pn15633, Ln15634, ⟨by omega, by omega, ⟨a15637, hf15638, hq15639, hA15640⟩, ⟨a15641, hf15642, hq15643, hA15644⟩, ⟨a15645, hf15646, hq15647, hA15648⟩, ⟨w15649, hg15650, by first | omega | decide⟩, ⟨w15652, hg15653, by first | omega | decide⟩, ⟨w15655, hg15656, by first | omega | decide⟩, by omega, ⟨w15658, hg15659, by first | omega | decide⟩, ⟨w15661, hg15662, by first | omega | decide⟩⟩, by omega, hfl15636⟩
                rw [hQ]
                exact W.zret (v := 0) hx hb hr (by decide) (fun t ht hW => ⟨⟨0, 0, rfl, rfl, ⟨by rw [ht]; exact hI, hN.warm hW, va_K.moved hW.alike hK⟩, by first | (rw [ht]; exact hpost) | exact hpost⟩, hS.F ht⟩) hS.2.2 dX3_plain_124
            · skip
              have k15682 := iv_eq (X := w15661.toInt) (Y := (60)) rfl (by decide) c15673
              refine lv_bipush (v := 7) hx hb dX3_plain_80 (by decide) ?_
              refine lv_goto (tgt := 101) hx hb dX3_plain_82 (by decide) ?_
              refine lv_istore (lv' := [(4, .int 7), (3, .int 0), (2, .int v14795), (0, .ref h0), (1, .int x1)]) hx hb dX3_plain_101 hl (by decide) rfl (fun ls hl => ?_)
              refine lv_iload_n hx hb dX3_plain_103 rfl (lv_at hl 1 rfl) ?_
              refine lv_if_eq (tgt := 123) hx hb dX3_plain_104 (by decide) (fun _ => ?_) (fun c => absurd c (by decide))
              refine lv_iconst (v := 0) hx hb dX3_plain_123 (by decide) ?_
              have hpost : ((0 : Int32) = 1 ∧ ∃ p2 L2 : Nat, RC E D G h0 ft fp fn TT p2 nc L2 H ∧ pp + 1 ≤ p2 ∧ pd_R ZZ YY TT (4, fl, nk, L2) p2 = XX) ∨ ((0 : Int32) = 0 ∧ ∃ p2 L2 : Nat, RC E D G h0 ft fp fn TT p2 nc L2 H ∧ pp ≤ p2 ∧ XX = (p2, false)) := Or.inr ⟨rfl, pn15633, Ln15634, ⟨by omega, by omega, ⟨a15637, hf15638, hq15639, hA15640⟩, ⟨a15641, hf15642, hq15643, hA15644⟩, ⟨a15645, hf15646, hq15647, hA15648⟩, ⟨w15649, hg15650, by first | omega | decide⟩, ⟨w15652, hg15653, by first | omega | decide⟩, ⟨w15655, hg15656, by first | omega | decide⟩, by omega, ⟨w15658, hg15659, by first | omega | decide⟩, ⟨w15661, hg15662, by first | omega | decide⟩⟩, by omega, hfl15636⟩
              rw [hQ]
              exact W.zret (v := 0) hx hb hr (by decide) (fun t ht hW => ⟨⟨0, 0, rfl, rfl, ⟨by rw [ht]; exact hI, hN.warm hW, va_K.moved hW.alike hK⟩, by first | (rw [ht]; exact hpost) | exact hpost⟩, hS.F ht⟩) hS.2.2 dX3_plain_124
        · skip
          have k15683 := iv_eq (X := w14823.toInt) (Y := (40)) rfl (by decide) c14837
          refine lv_aload_n hx hb dX3_plain_56 rfl (lv_at hl 2 rfl) ?_
          refine lv_iload_n hx hb dX3_plain_57 rfl (lv_at hl 3 rfl) ?_
          refine nx_i (As := [.int x1]) (rest := []) (n := 1) (d := (20 + 3 * k)) ⟨hx, hb, hml, hown, hts⟩ (henc h0 hG0 x1 ft fp fn TT p1 nc LL ZZ YY nk XX hTK dd (by first | decide | omega) (by omega) (by omega) fl hdp hpi (by omega)) wd_739 wd_741 wp_21 wd_5 wd_742 (by decide +kernel) ⟨by rw [hR]; show (20 + 3 * k) + 1 ≤ 21 + 3 * k; omega, by rw [hR]; show 8 + (3 + 11) + 40 * ((20 + 3 * k)) ≤ 40 * (21 + 3 * k); omega⟩ hI hN hK hS hG0 (⟨by omega, by omega, ⟨a14799, hf14800, hq14801, hA14802⟩, ⟨a14803, hf14804, hq14805, hA14806⟩, ⟨a14807, hf14808, hq14809, hA14810⟩, ⟨w14811, hg14812, by first | omega | decide⟩, ⟨w14814, hg14815, by first | omega | decide⟩, ⟨w14817, hg14818, by first | omega | decide⟩, by omega, ⟨w14820, hg14821, by first | omega | decide⟩, ⟨w14823, hg14824, by first | omega | decide⟩⟩) rfl hl.1 rfl (Nat.le_of_ble_eq_true rfl) dX3_plain_58 ⟨Nat.zero_le _, Nat.zero_le _⟩ (fun r15684 H locs hI hp hS => ?_)
          rcases hp with ⟨rfl, hp⟩ | ⟨rfl, hp⟩
          · skip
            try simp only [rg, not_and, Int.not_le] at hp
            have hp15685 := hp
            obtain ⟨pn15686, Ln15687, hE, k15688, hpd15689⟩ := hp15685
            have hp15685 : True := trivial
            obtain ⟨hT4, hn12, ⟨a15690, hf15691, hq15692, hA15693⟩, ⟨a15694, hf15695, hq15696, hA15697⟩, ⟨a15698, hf15699, hq15700, hA15701⟩, ⟨w15702, hg15703, k15704⟩, ⟨w15705, hg15706, k15707⟩, ⟨w15708, hg15709, k15710⟩, hpT, ⟨w15711, hg15712, k15713⟩, ⟨w15714, hg15715, k15716⟩⟩ := hE
            have k15717 := iv_lo w15708
            have k15718 := iv_hi w15708
            have k15719 := TK.at hTK hpT
            refine lv_istore_n (lv' := [(3, .int 1), (2, .int v14795), (0, .ref h0), (1, .int x1)]) hx hb dX3_plain_61 rfl hl (by decide) rfl (fun ls hl => ?_)
            refine lv_goto (tgt := 149) hx hb dX3_plain_62 (by decide) ?_
            refine lv_iload_n hx hb dX3_plain_149 rfl (lv_at hl 1 rfl) ?_
            refine lv_if_eq (tgt := 161) hx hb dX3_plain_150 (by decide) (fun c15720 => ?_) (fun c15720 => ?_)
            · skip
              have k15721 := iv_eq (X := v14795.toInt) (Y := (0)) rfl (by decide) c15720
              refine lv_iload_n hx hb dX3_plain_161 rfl (lv_at hl 0 rfl) ?_
              have hpost : ((1 : Int32) = 1 ∧ ∃ p2 L2 : Nat, RC E D G h0 ft fp fn TT p2 nc L2 H ∧ pp + 1 ≤ p2 ∧ pd_R ZZ YY TT (4, fl, nk, L2) p2 = XX) ∨ ((1 : Int32) = 0 ∧ ∃ p2 L2 : Nat, RC E D G h0 ft fp fn TT p2 nc L2 H ∧ pp ≤ p2 ∧ XX = (p2, false)) := Or.inl ⟨rfl, pn15686, Ln15687, ⟨by omega, by omega, ⟨a15690, hf15691, hq15692, hA15693⟩, ⟨a15694, hf15695, hq15696, hA15697⟩, ⟨a15698, hf15699, hq15700, hA15701⟩, ⟨w15702, hg15703, by first | omega | decide⟩, ⟨w15705, hg15706, by first | omega | decide⟩, ⟨w15708, hg15709, by first | omega | decide⟩, by omega, ⟨w15711, hg15712, by first | omega | decide⟩, ⟨w15714, hg15715, by first | omega | decide⟩⟩, by omega, hpd15689⟩
              rw [hQ]
              exact W.zret (v := 1) hx hb hr (by decide) (fun t ht hW => ⟨⟨1, 1, rfl, rfl, ⟨by rw [ht]; exact hI, hN.warm hW, va_K.moved hW.alike hK⟩, by first | (rw [ht]; exact hpost) | exact hpost⟩, hS.F ht⟩) hS.2.2 dX3_plain_162
            · skip
              have k15722 := iv_ne (X := v14795.toInt) (Y := (0)) rfl (by decide) c15720
              refine lv_aload_n hx hb dX3_plain_153 rfl (lv_at hl 2 rfl) ?_
              refine lv_bipush (v := 10) hx hb dX3_plain_154 (by decide) ?_
              refine lv_iconst (v := 0) hx hb dX3_plain_156 (by decide) ?_
              refine nx_i (As := [.int 10, .int 0]) (rest := []) (n := 2) (d := 0) ⟨hx, hb, hml, hown, hts⟩ (c_X3_emit l E D G h0 hG0 10 0 ft fp fn TT pn15686 nc Ln15687) wd_723 wd_725 wp_17 wd_5 wd_726 (by decide +kernel) ⟨by rw [hR]; show 0 + 1 ≤ 21 + 3 * k; omega, by rw [hR]; show 8 + (3 + 11) + 40 * (0) ≤ 40 * (21 + 3 * k); omega⟩ hI hN hK hS hG0 (⟨by omega, by omega, ⟨a15690, hf15691, hq15692, hA15693⟩, ⟨a15694, hf15695, hq15696, hA15697⟩, ⟨a15698, hf15699, hq15700, hA15701⟩, ⟨w15702, hg15703, by first | omega | decide⟩, ⟨w15705, hg15706, by first | omega | decide⟩, ⟨w15708, hg15709, by first | omega | decide⟩, by omega, ⟨w15711, hg15712, by first | omega | decide⟩, ⟨w15714, hg15715, by first | omega | decide⟩⟩) rfl hl.1 rfl (Nat.le_of_ble_eq_true rfl) dX3_plain_157 ⟨Nat.zero_le _, Nat.zero_le _⟩ (fun r15723 H locs hI hp hS => ?_)
              obtain ⟨hT4, hn12, ⟨a15724, hf15725, hq15726, hA15727⟩, ⟨a15728, hf15729, hq15730, hA15731⟩, ⟨a15732, hf15733, hq15734, hA15735⟩, ⟨w15736, hg15737, k15738⟩, ⟨w15739, hg15740, k15741⟩, ⟨w15742, hg15743, k15744⟩, hpT, ⟨w15745, hg15746, k15747⟩, ⟨w15748, hg15749, k15750⟩⟩ := hp
              have k15751 := iv_lo w15742
              have k15752 := iv_hi w15742
              have k15753 := TK.at hTK hpT
              refine lv_pop hx hb dX3_plain_160 rfl ?_
              refine lv_iload_n hx hb dX3_plain_161 rfl (lv_at hl 0 rfl) ?_
              have hpost : ((1 : Int32) = 1 ∧ ∃ p2 L2 : Nat, RC E D G h0 ft fp fn TT p2 nc L2 H ∧ pp + 1 ≤ p2 ∧ pd_R ZZ YY TT (4, fl, nk, L2) p2 = XX) ∨ ((1 : Int32) = 0 ∧ ∃ p2 L2 : Nat, RC E D G h0 ft fp fn TT p2 nc L2 H ∧ pp ≤ p2 ∧ XX = (p2, false)) := Or.inl ⟨rfl, pn15686, Ln15687, ⟨by omega, by omega, ⟨a15724, hf15725, hq15726, hA15727⟩, ⟨a15728, hf15729, hq15730, hA15731⟩, ⟨a15732, hf15733, hq15734, hA15735⟩, ⟨w15736, hg15737, by first | omega | decide⟩, ⟨w15739, hg15740, by first | omega | decide⟩, ⟨w15742, hg15743, by first | omega | decide⟩, by omega, ⟨w15745, hg15746, by first | omega | decide⟩, ⟨w15748, hg15749, by first | omega | decide⟩⟩, by omega, hpd15689⟩
              rw [hQ]
              exact W.zret (v := 1) hx hb hr (by decide) (fun t ht hW => ⟨⟨1, 1, rfl, rfl, ⟨by rw [ht]; exact hI, hN.warm hW, va_K.moved hW.alike hK⟩, by first | (rw [ht]; exact hpost) | exact hpost⟩, hS.F ht⟩) hS.2.2 dX3_plain_162
          · skip
            try simp only [rg, not_and, Int.not_le] at hp
            have hp15754 := hp
            obtain ⟨pn15755, Ln15756, hE, k15757, hfl15758⟩ := hp15754
            have hp15754 : True := trivial
            obtain ⟨hT4, hn12, ⟨a15759, hf15760, hq15761, hA15762⟩, ⟨a15763, hf15764, hq15765, hA15766⟩, ⟨a15767, hf15768, hq15769, hA15770⟩, ⟨w15771, hg15772, k15773⟩, ⟨w15774, hg15775, k15776⟩, ⟨w15777, hg15778, k15779⟩, hpT, ⟨w15780, hg15781, k15782⟩, ⟨w15783, hg15784, k15785⟩⟩ := hE
            have k15786 := iv_lo w15777
            have k15787 := iv_hi w15777
            have k15788 := TK.at hTK hpT
            refine lv_istore_n (lv' := [(3, .int 0), (2, .int v14795), (0, .ref h0), (1, .int x1)]) hx hb dX3_plain_61 rfl hl (by decide) rfl (fun ls hl => ?_)
            refine lv_goto (tgt := 149) hx hb dX3_plain_62 (by decide) ?_
            refine lv_iload_n hx hb dX3_plain_149 rfl (lv_at hl 1 rfl) ?_
            refine lv_if_eq (tgt := 161) hx hb dX3_plain_150 (by decide) (fun c15789 => ?_) (fun c15789 => ?_)
            · skip
              have k15790 := iv_eq (X := v14795.toInt) (Y := (0)) rfl (by decide) c15789
              refine lv_iload_n hx hb dX3_plain_161 rfl (lv_at hl 0 rfl) ?_
              have hpost : ((0 : Int32) = 1 ∧ ∃ p2 L2 : Nat, RC E D G h0 ft fp fn TT p2 nc L2 H ∧ pp + 1 ≤ p2 ∧ pd_R ZZ YY TT (4, fl, nk, L2) p2 = XX) ∨ ((0 : Int32) = 0 ∧ ∃ p2 L2 : Nat, RC E D G h0 ft fp fn TT p2 nc L2 H ∧ pp ≤ p2 ∧ XX = (p2, false)) := Or.inr ⟨rfl, pn15755, Ln15756, ⟨by omega, by omega, ⟨a15759, hf15760, hq15761, hA15762⟩, ⟨a15763, hf15764, hq15765, hA15766⟩, ⟨a15767, hf15768, hq15769, hA15770⟩, ⟨w15771, hg15772, by first | omega | decide⟩, ⟨w15774, hg15775, by first | omega | decide⟩, ⟨w15777, hg15778, by first | omega | decide⟩, by omega, ⟨w15780, hg15781, by first | omega | decide⟩, ⟨w15783, hg15784, by first | omega | decide⟩⟩, by omega, hfl15758⟩
              rw [hQ]
              exact W.zret (v := 0) hx hb hr (by decide) (fun t ht hW => ⟨⟨0, 0, rfl, rfl, ⟨by rw [ht]; exact hI, hN.warm hW, va_K.moved hW.alike hK⟩, by first | (rw [ht]; exact hpost) | exact hpost⟩, hS.F ht⟩) hS.2.2 dX3_plain_162
            · skip
              have k15791 := iv_ne (X := v14795.toInt) (Y := (0)) rfl (by decide) c15789
              refine lv_aload_n hx hb dX3_plain_153 rfl (lv_at hl 2 rfl) ?_
              refine lv_bipush (v := 10) hx hb dX3_plain_154 (by decide) ?_
              refine lv_iconst (v := 0) hx hb dX3_plain_156 (by decide) ?_
              refine nx_i (As := [.int 10, .int 0]) (rest := []) (n := 2) (d := 0) ⟨hx, hb, hml, hown, hts⟩ (c_X3_emit l E D G h0 hG0 10 0 ft fp fn TT pn15755 nc Ln15756) wd_723 wd_725 wp_17 wd_5 wd_726 (by decide +kernel) ⟨by rw [hR]; show 0 + 1 ≤ 21 + 3 * k; omega, by rw [hR]; show 8 + (3 + 11) + 40 * (0) ≤ 40 * (21 + 3 * k); omega⟩ hI hN hK hS hG0 (⟨by omega, by omega, ⟨a15759, hf15760, hq15761, hA15762⟩, ⟨a15763, hf15764, hq15765, hA15766⟩, ⟨a15767, hf15768, hq15769, hA15770⟩, ⟨w15771, hg15772, by first | omega | decide⟩, ⟨w15774, hg15775, by first | omega | decide⟩, ⟨w15777, hg15778, by first | omega | decide⟩, by omega, ⟨w15780, hg15781, by first | omega | decide⟩, ⟨w15783, hg15784, by first | omega | decide⟩⟩) rfl hl.1 rfl (Nat.le_of_ble_eq_true rfl) dX3_plain_157 ⟨Nat.zero_le _, Nat.zero_le _⟩ (fun r15792 H locs hI hp hS => ?_)
              obtain ⟨hT4, hn12, ⟨a15793, hf15794, hq15795, hA15796⟩, ⟨a15797, hf15798, hq15799, hA15800⟩, ⟨a15801, hf15802, hq15803, hA15804⟩, ⟨w15805, hg15806, k15807⟩, ⟨w15808, hg15809, k15810⟩, ⟨w15811, hg15812, k15813⟩, hpT, ⟨w15814, hg15815, k15816⟩, ⟨w15817, hg15818, k15819⟩⟩ := hp
              have k15820 := iv_lo w15811
              have k15821 := iv_hi w15811
              have k15822 := TK.at hTK hpT
              refine lv_pop hx hb dX3_plain_160 rfl ?_
              refine lv_iload_n hx hb dX3_plain_161 rfl (lv_at hl 0 rfl) ?_
              have hpost : ((0 : Int32) = 1 ∧ ∃ p2 L2 : Nat, RC E D G h0 ft fp fn TT p2 nc L2 H ∧ pp + 1 ≤ p2 ∧ pd_R ZZ YY TT (4, fl, nk, L2) p2 = XX) ∨ ((0 : Int32) = 0 ∧ ∃ p2 L2 : Nat, RC E D G h0 ft fp fn TT p2 nc L2 H ∧ pp ≤ p2 ∧ XX = (p2, false)) := Or.inr ⟨rfl, pn15755, Ln15756, ⟨by omega, by omega, ⟨a15793, hf15794, hq15795, hA15796⟩, ⟨a15797, hf15798, hq15799, hA15800⟩, ⟨a15801, hf15802, hq15803, hA15804⟩, ⟨w15805, hg15806, by first | omega | decide⟩, ⟨w15808, hg15809, by first | omega | decide⟩, ⟨w15811, hg15812, by first | omega | decide⟩, by omega, ⟨w15814, hg15815, by first | omega | decide⟩, ⟨w15817, hg15818, by first | omega | decide⟩⟩, by omega, hfl15758⟩
              rw [hQ]
              exact W.zret (v := 0) hx hb hr (by decide) (fun t ht hW => ⟨⟨0, 0, rfl, rfl, ⟨by rw [ht]; exact hI, hN.warm hW, va_K.moved hW.alike hK⟩, by first | (rw [ht]; exact hpost) | exact hpost⟩, hS.F ht⟩) hS.2.2 dX3_plain_162
      · skip
        have k15823 := iv_nle (X := (400)) (Y := v14794.toInt) (by decide) rfl c14829
        refine lv_aload_n hx hb dX3_plain_11 rfl (lv_at hl 2 rfl) ?_
        refine gmIC hx hb hts inT3 hown hK hI List.not_mem_nil hG0 11 (by decide) (hts _ (tb_c wd_140)) rfl rfl dX3_plain_12 (fun w15824 hg15825 k15826 k15827 => ?_)
        obtain rfl := gfC.uniq (by decide) hg14824 hg15825
        refine lv_sipush (v := 263) hx hb dX3_plain_15 (by decide) ?_
        have k15828 := iv_lo w14823
        have k15829 := iv_hi w14823
        refine lv_icmp_ne (tgt := 47) hx hb dX3_plain_18 (by decide) (fun c15830 => ?_) (fun c15830 => ?_)
        · skip
          have k15831 := iv_ne (X := w14823.toInt) (Y := (263)) rfl (by decide) c15830
          refine lv_aload_n hx hb dX3_plain_47 rfl (lv_at hl 2 rfl) ?_
          refine gmIC hx hb hts inT3 hown hK hI List.not_mem_nil hG0 11 (by decide) (hts _ (tb_c wd_140)) rfl rfl dX3_plain_48 (fun w15832 hg15833 k15834 k15835 => ?_)
          obtain rfl := gfC.uniq (by decide) hg14824 hg15833
          refine lv_bipush (v := 40) hx hb dX3_plain_51 (by decide) ?_
          refine lv_icmp_ne (tgt := 65) hx hb dX3_plain_53 (by decide) (fun c15836 => ?_) (fun c15836 => ?_)
          · skip
            have k15837 := iv_ne (X := w14823.toInt) (Y := (40)) rfl (by decide) c15836
            refine lv_aload_n hx hb dX3_plain_65 rfl (lv_at hl 2 rfl) ?_
            refine lv_iload_n hx hb dX3_plain_66 rfl (lv_at hl 3 rfl) ?_
            have hpd15838 : pd_R ZZ YY TT (1, 1 :: fl, nk, LL) p1 = XX := (pd_Q_E (fun h9 => ⟨by omega, by omega⟩)).symm.trans hpi
            refine nx_i (As := [.int x1]) (rest := []) (n := 1) (d := 19) ⟨hx, hb, hml, hown, hts⟩ (c_X3_sum l E D G 8 h0 hG0 x1 ft fp fn TT p1 nc LL ZZ YY nk XX hTK dd (by first | decide | omega) (by omega) (by omega) (1 :: fl) (by rw [pd_dp1, hdp]) hpd15838 (c_X3_part l E D G 8)) wd_715 wd_717 wp_15 wd_5 wd_718 (by decide +kernel) ⟨by rw [hR]; show 19 + 1 ≤ 21 + 3 * k; omega, by rw [hR]; show 8 + (7 + 11) + 40 * (19) ≤ 40 * (21 + 3 * k); omega⟩ hI hN hK hS hG0 (⟨by omega, by omega, ⟨a14799, hf14800, hq14801, hA14802⟩, ⟨a14803, hf14804, hq14805, hA14806⟩, ⟨a14807, hf14808, hq14809, hA14810⟩, ⟨w14811, hg14812, by first | omega | decide⟩, ⟨w14814, hg14815, by first | omega | decide⟩, ⟨w14817, hg14818, by first | omega | decide⟩, by omega, ⟨w14820, hg14821, by first | omega | decide⟩, ⟨w14823, hg14824, by first | omega | decide⟩⟩) rfl hl.1 rfl (Nat.le_of_ble_eq_true rfl) dX3_plain_67 ⟨Nat.zero_le _, Nat.zero_le _⟩ (fun r15839 H locs hI hp hS => ?_)
            rcases hp with ⟨rfl, hp⟩ | ⟨rfl, hp⟩
            · skip
              try simp only [rg, not_and, Int.not_le] at hp
              have hp15840 := hp
              obtain ⟨pn15841, Ln15842, hE, k15843, hpd15844, hno15845⟩ := hp15840
              have hp15840 : True := trivial
              obtain ⟨hT4, hn12, ⟨a15846, hf15847, hq15848, hA15849⟩, ⟨a15850, hf15851, hq15852, hA15853⟩, ⟨a15854, hf15855, hq15856, hA15857⟩, ⟨w15858, hg15859, k15860⟩, ⟨w15861, hg15862, k15863⟩, ⟨w15864, hg15865, k15866⟩, hpT, ⟨w15867, hg15868, k15869⟩, ⟨w15870, hg15871, k15872⟩⟩ := hE
              have k15873 := iv_lo w15864
              have k15874 := iv_hi w15864
              have k15875 := TK.at hTK hpT
              refine lv_istore_n (lv' := [(3, .int 1), (2, .int v14795), (0, .ref h0), (1, .int x1)]) hx hb dX3_plain_70 rfl hl (by decide) rfl (fun ls hl => ?_)
              refine lv_aload_n hx hb dX3_plain_71 rfl (lv_at hl 2 rfl) ?_
              refine gmIC hx hb hts inT3 hown hK hI List.not_mem_nil hG0 11 (by decide) (hts _ (tb_c wd_140)) rfl rfl dX3_plain_72 (fun w15876 hg15877 k15878 k15879 => ?_)
              obtain rfl := gfC.uniq (by decide) hg15871 hg15877
              refine lv_bipush (v := 60) hx hb dX3_plain_75 (by decide) ?_
              have k15880 := iv_lo w15870
              have k15881 := iv_hi w15870
              refine lv_icmp_ne (tgt := 85) hx hb dX3_plain_77 (by decide) (fun c15882 => ?_) (fun c15882 => ?_)
              · skip
                have k15883 := iv_ne (X := w15870.toInt) (Y := (60)) rfl (by decide) c15882
                refine lv_aload_n hx hb dX3_plain_85 rfl (lv_at hl 2 rfl) ?_
                refine gmIC hx hb hts inT3 hown hK hI List.not_mem_nil hG0 11 (by decide) (hts _ (tb_c wd_140)) rfl rfl dX3_plain_86 (fun w15884 hg15885 k15886 k15887 => ?_)
                obtain rfl := gfC.uniq (by decide) hg15871 hg15885
                refine lv_bipush (v := 62) hx hb dX3_plain_89 (by decide) ?_
                refine lv_icmp_ne (tgt := 99) hx hb dX3_plain_91 (by decide) (fun c15888 => ?_) (fun c15888 => ?_)
                · skip
                  have k15889 := iv_ne (X := w15870.toInt) (Y := (62)) rfl (by decide) c15888
                  refine lv_bipush (v := 9) hx hb dX3_plain_99 (by decide) ?_
                  refine lv_istore (lv' := [(4, .int 9), (3, .int 1), (2, .int v14795), (0, .ref h0), (1, .int x1)]) hx hb dX3_plain_101 hl (by decide) rfl (fun ls hl => ?_)
                  refine lv_iload_n hx hb dX3_plain_103 rfl (lv_at hl 1 rfl) ?_
                  refine lv_if_eq (tgt := 123) hx hb dX3_plain_104 (by decide) (fun c => absurd c (by decide)) (fun _ => ?_)
                  refine lv_iload hx hb dX3_plain_107 (lv_at hl 0 rfl) ?_
                  refine lv_bipush (v := 9) hx hb dX3_plain_109 (by decide) ?_
                  refine lv_icmp_ne (tgt := 125) hx hb dX3_plain_111 (by decide) (fun c15890 => ?_) (fun c15890 => ?_)
                  · skip
                    have k15891 := iv_ne (X := (9)) (Y := (9)) (by decide) (by decide) c15890
                    exfalso; omega
                  · skip
                    have k15892 := iv_eq (X := (9)) (Y := (9)) (by decide) (by decide) c15890
                    refine lv_aload_n hx hb dX3_plain_114 rfl (lv_at hl 3 rfl) ?_
                    refine gmIC hx hb hts inT3 hown hK hI List.not_mem_nil hG0 11 (by decide) (hts _ (tb_c wd_140)) rfl rfl dX3_plain_115 (fun w15893 hg15894 k15895 k15896 => ?_)
                    obtain rfl := gfC.uniq (by decide) hg15871 hg15894
                    refine lv_bipush (v := 61) hx hb dX3_plain_118 (by decide) ?_
                    refine lv_icmp_eq (tgt := 125) hx hb dX3_plain_120 (by decide) (fun c15897 => ?_) (fun c15897 => ?_)
                    · skip
                      have k15898 := iv_eq (X := w15870.toInt) (Y := (61)) rfl (by decide) c15897
                      refine lv_aload_n hx hb dX3_plain_125 rfl (lv_at hl 3 rfl) ?_
                      refine lv_aload_n hx hb dX3_plain_126 rfl (lv_at hl 3 rfl) ?_
                      refine gmIC hx hb hts inT3 hown hK hI List.not_mem_nil hG0 10 (by decide) (hts _ (tb_c wd_139)) rfl rfl dX3_plain_127 (fun w15899 hg15900 k15901 k15902 => ?_)
                      obtain rfl := gfC.uniq (by decide) hg15868 hg15900
                      refine lv_iconst (v := 1) hx hb dX3_plain_130 (by decide) ?_
                      refine lv_iadd hx hb dX3_plain_131 ?_
                      refine lv_topi (fun v15903 e15904 => ?_)
                      have tv15903 : v15903.toInt = w15867.toInt + (1) := iv_add rfl (by decide) e15904 (by omega) (by omega)
                      have hpd15905 : pd_R ZZ YY TT (1, 2 :: fl, nk, Ln15842) (pn15841 + 1) = XX := (pd_A_cm (by omega) (by omega)).symm.trans hpd15844
                      refine nx_v (As := [.int v15903]) (rest := []) (n := 1) (d := 0) ⟨hx, hb, hml, hown, hts⟩ (c_X3_moveTo l E D G h0 hG0 v15903 ft fp fn TT (pn15841 + 1) nc Ln15842 (by first | omega | decide) (by omega)) wd_707 wd_709 wp_13 wd_5 wd_710 (by decide +kernel) ⟨by rw [hR]; show 0 + 1 ≤ 21 + 3 * k; omega, by rw [hR]; show 8 + (2 + 11) + 40 * (0) ≤ 40 * (21 + 3 * k); omega⟩ hI hN hK hS hG0 (⟨by omega, by omega, ⟨a15846, hf15847, hq15848, hA15849⟩, ⟨a15850, hf15851, hq15852, hA15853⟩, ⟨a15854, hf15855, hq15856, hA15857⟩, ⟨w15858, hg15859, by first | omega | decide⟩, ⟨w15861, hg15862, by first | omega | decide⟩, ⟨w15864, hg15865, by first | omega | decide⟩⟩) rfl hl.1 rfl (Nat.le_of_ble_eq_true rfl) dX3_plain_132 ⟨Nat.zero_le _, Nat.zero_le _⟩ (fun H locs hI hp hS => ?_)
                      obtain ⟨hT4, hn12, ⟨a15907, hf15908, hq15909, hA15910⟩, ⟨a15911, hf15912, hq15913, hA15914⟩, ⟨a15915, hf15916, hq15917, hA15918⟩, ⟨w15919, hg15920, k15921⟩, ⟨w15922, hg15923, k15924⟩, ⟨w15925, hg15926, k15927⟩, hpT, ⟨w15928, hg15929, k15930⟩, ⟨w15931, hg15932, k15933⟩⟩ := hp
                      have k15934 := iv_lo w15925
                      have k15935 := iv_hi w15925
                      have k15936 := TK.at hTK hpT
                      refine lv_aload_n hx hb dX3_plain_135 rfl (lv_at hl 3 rfl) ?_
                      refine lv_iload_n hx hb dX3_plain_136 rfl (lv_at hl 4 rfl) ?_
                      refine nx_i (As := [.int x1]) (rest := []) (n := 1) (d := 19) ⟨hx, hb, hml, hown, hts⟩ (c_X3_sum l E D G 8 h0 hG0 x1 ft fp fn TT (pn15841 + 1) nc Ln15842 ZZ YY nk XX hTK dd (by first | decide | omega) (by omega) (by omega) (2 :: fl) (by rw [pd_dp2, hdp]) hpd15905 (c_X3_part l E D G 8)) wd_715 wd_717 wp_15 wd_5 wd_718 (by decide +kernel) ⟨by rw [hR]; show 19 + 1 ≤ 21 + 3 * k; omega, by rw [hR]; show 8 + (7 + 11) + 40 * (19) ≤ 40 * (21 + 3 * k); omega⟩ hI hN hK hS hG0 (⟨by omega, by omega, ⟨a15907, hf15908, hq15909, hA15910⟩, ⟨a15911, hf15912, hq15913, hA15914⟩, ⟨a15915, hf15916, hq15917, hA15918⟩, ⟨w15919, hg15920, by first | omega | decide⟩, ⟨w15922, hg15923, by first | omega | decide⟩, ⟨w15925, hg15926, by first | omega | decide⟩, by omega, ⟨w15928, hg15929, by first | omega | decide⟩, ⟨w15931, hg15932, by first | omega | decide⟩⟩) rfl hl.1 rfl (Nat.le_of_ble_eq_true rfl) dX3_plain_137 ⟨Nat.zero_le _, Nat.zero_le _⟩ (fun r15937 H locs hI hp hS => ?_)
                      rcases hp with ⟨rfl, hp⟩ | ⟨rfl, hp⟩
                      · skip
                        try simp only [rg, not_and, Int.not_le] at hp
                        have hp15938 := hp
                        obtain ⟨pn15939, Ln15940, hE, k15941, hpd15942, hno15943⟩ := hp15938
                        have hp15938 : True := trivial
                        obtain ⟨hT4, hn12, ⟨a15944, hf15945, hq15946, hA15947⟩, ⟨a15948, hf15949, hq15950, hA15951⟩, ⟨a15952, hf15953, hq15954, hA15955⟩, ⟨w15956, hg15957, k15958⟩, ⟨w15959, hg15960, k15961⟩, ⟨w15962, hg15963, k15964⟩, hpT, ⟨w15965, hg15966, k15967⟩, ⟨w15968, hg15969, k15970⟩⟩ := hE
                        have k15971 := iv_lo w15962
                        have k15972 := iv_hi w15962
                        have k15973 := TK.at hTK hpT
                        have hpd15974 : pd_R ZZ YY TT (4, fl, nk, Ln15940) pn15939 = XX := (pd_A_rt (fun h9 => by unfold pd_op; unfold oc at hno15943; omega)).symm.trans hpd15942
                        refine lv_istore_n (lv' := [(3, .int 1), (4, .int 9), (2, .int v14795), (0, .ref h0), (1, .int x1)]) hx hb dX3_plain_140 rfl hl (by decide) rfl (fun ls hl => ?_)
                        refine lv_aload_n hx hb dX3_plain_141 rfl (lv_at hl 3 rfl) ?_
                        refine lv_iload hx hb dX3_plain_142 (lv_at hl 1 rfl) ?_
                        refine lv_iconst (v := 0) hx hb dX3_plain_144 (by decide) ?_
                        refine nx_i (As := [.int 9, .int 0]) (rest := []) (n := 2) (d := 0) ⟨hx, hb, hml, hown, hts⟩ (c_X3_emit l E D G h0 hG0 9 0 ft fp fn TT pn15939 nc Ln15940) wd_723 wd_725 wp_17 wd_5 wd_726 (by decide +kernel) ⟨by rw [hR]; show 0 + 1 ≤ 21 + 3 * k; omega, by rw [hR]; show 8 + (3 + 11) + 40 * (0) ≤ 40 * (21 + 3 * k); omega⟩ hI hN hK hS hG0 (⟨by omega, by omega, ⟨a15944, hf15945, hq15946, hA15947⟩, ⟨a15948, hf15949, hq15950, hA15951⟩, ⟨a15952, hf15953, hq15954, hA15955⟩, ⟨w15956, hg15957, by first | omega | decide⟩, ⟨w15959, hg15960, by first | omega | decide⟩, ⟨w15962, hg15963, by first | omega | decide⟩, by omega, ⟨w15965, hg15966, by first | omega | decide⟩, ⟨w15968, hg15969, by first | omega | decide⟩⟩) rfl hl.1 rfl (Nat.le_of_ble_eq_true rfl) dX3_plain_145 ⟨Nat.zero_le _, Nat.zero_le _⟩ (fun r15975 H locs hI hp hS => ?_)
                        obtain ⟨hT4, hn12, ⟨a15976, hf15977, hq15978, hA15979⟩, ⟨a15980, hf15981, hq15982, hA15983⟩, ⟨a15984, hf15985, hq15986, hA15987⟩, ⟨w15988, hg15989, k15990⟩, ⟨w15991, hg15992, k15993⟩, ⟨w15994, hg15995, k15996⟩, hpT, ⟨w15997, hg15998, k15999⟩, ⟨w16000, hg16001, k16002⟩⟩ := hp
                        have k16003 := iv_lo w15994
                        have k16004 := iv_hi w15994
                        have k16005 := TK.at hTK hpT
                        refine lv_pop hx hb dX3_plain_148 rfl ?_
                        refine lv_iload_n hx hb dX3_plain_149 rfl (lv_at hl 2 rfl) ?_
                        refine lv_if_eq (tgt := 161) hx hb dX3_plain_150 (by decide) (fun c16006 => ?_) (fun c16006 => ?_)
                        · skip
                          have k16007 := iv_eq (X := v14795.toInt) (Y := (0)) rfl (by decide) c16006
                          refine lv_iload_n hx hb dX3_plain_161 rfl (lv_at hl 0 rfl) ?_
                          have hpost : ((1 : Int32) = 1 ∧ ∃ p2 L2 : Nat, RC E D G h0 ft fp fn TT p2 nc L2 H ∧ pp + 1 ≤ p2 ∧ pd_R ZZ YY TT (4, fl, nk, L2) p2 = XX) ∨ ((1 : Int32) = 0 ∧ ∃ p2 L2 : Nat, RC E D G h0 ft fp fn TT p2 nc L2 H ∧ pp ≤ p2 ∧ XX = (p2, false)) := Or.inl ⟨rfl, pn15939, Ln15940, ⟨by omega, by omega, ⟨a15976, hf15977, hq15978, hA15979⟩, ⟨a15980, hf15981, hq15982, hA15983⟩, ⟨a15984, hf15985, hq15986, hA15987⟩, ⟨w15988, hg15989, by first | omega | decide⟩, ⟨w15991, hg15992, by first | omega | decide⟩, ⟨w15994, hg15995, by first | omega | decide⟩, by omega, ⟨w15997, hg15998, by first | omega | decide⟩, ⟨w16000, hg16001, by first | omega | decide⟩⟩, by omega, hpd15974⟩
                          rw [hQ]
                          exact W.zret (v := 1) hx hb hr (by decide) (fun t ht hW => ⟨⟨1, 1, rfl, rfl, ⟨by rw [ht]; exact hI, hN.warm hW, va_K.moved hW.alike hK⟩, by first | (rw [ht]; exact hpost) | exact hpost⟩, hS.F ht⟩) hS.2.2 dX3_plain_162
                        · skip
                          have k16008 := iv_ne (X := v14795.toInt) (Y := (0)) rfl (by decide) c16006
                          refine lv_aload_n hx hb dX3_plain_153 rfl (lv_at hl 3 rfl) ?_
                          refine lv_bipush (v := 10) hx hb dX3_plain_154 (by decide) ?_
                          refine lv_iconst (v := 0) hx hb dX3_plain_156 (by decide) ?_
                          refine nx_i (As := [.int 10, .int 0]) (rest := []) (n := 2) (d := 0) ⟨hx, hb, hml, hown, hts⟩ (c_X3_emit l E D G h0 hG0 10 0 ft fp fn TT pn15939 nc Ln15940) wd_723 wd_725 wp_17 wd_5 wd_726 (by decide +kernel) ⟨by rw [hR]; show 0 + 1 ≤ 21 + 3 * k; omega, by rw [hR]; show 8 + (3 + 11) + 40 * (0) ≤ 40 * (21 + 3 * k); omega⟩ hI hN hK hS hG0 (⟨by omega, by omega, ⟨a15976, hf15977, hq15978, hA15979⟩, ⟨a15980, hf15981, hq15982, hA15983⟩, ⟨a15984, hf15985, hq15986, hA15987⟩, ⟨w15988, hg15989, by first | omega | decide⟩, ⟨w15991, hg15992, by first | omega | decide⟩, ⟨w15994, hg15995, by first | omega | decide⟩, by omega, ⟨w15997, hg15998, by first | omega | decide⟩, ⟨w16000, hg16001, by first | omega | decide⟩⟩) rfl hl.1 rfl (Nat.le_of_ble_eq_true rfl) dX3_plain_157 ⟨Nat.zero_le _, Nat.zero_le _⟩ (fun r16009 H locs hI hp hS => ?_)
                          obtain ⟨hT4, hn12, ⟨a16010, hf16011, hq16012, hA16013⟩, ⟨a16014, hf16015, hq16016, hA16017⟩, ⟨a16018, hf16019, hq16020, hA16021⟩, ⟨w16022, hg16023, k16024⟩, ⟨w16025, hg16026, k16027⟩, ⟨w16028, hg16029, k16030⟩, hpT, ⟨w16031, hg16032, k16033⟩, ⟨w16034, hg16035, k16036⟩⟩ := hp
                          have k16037 := iv_lo w16028
                          have k16038 := iv_hi w16028
                          have k16039 := TK.at hTK hpT
                          refine lv_pop hx hb dX3_plain_160 rfl ?_
                          refine lv_iload_n hx hb dX3_plain_161 rfl (lv_at hl 0 rfl) ?_
                          have hpost : ((1 : Int32) = 1 ∧ ∃ p2 L2 : Nat, RC E D G h0 ft fp fn TT p2 nc L2 H ∧ pp + 1 ≤ p2 ∧ pd_R ZZ YY TT (4, fl, nk, L2) p2 = XX) ∨ ((1 : Int32) = 0 ∧ ∃ p2 L2 : Nat, RC E D G h0 ft fp fn TT p2 nc L2 H ∧ pp ≤ p2 ∧ XX = (p2, false)) := Or.inl ⟨rfl, pn15939, Ln15940, ⟨by omega, by omega, ⟨a16010, hf16011, hq16012, hA16013⟩, ⟨a16014, hf16015, hq16016, hA16017⟩, ⟨a16018, hf16019, hq16020, hA16021⟩, ⟨w16022, hg16023, by first | omega | decide⟩, ⟨w16025, hg16026, by first | omega | decide⟩, ⟨w16028, hg16029, by first | omega | decide⟩, by omega, ⟨w16031, hg16032, by first | omega | decide⟩, ⟨w16034, hg16035, by first | omega | decide⟩⟩, by omega, hpd15974⟩
                          rw [hQ]
                          exact W.zret (v := 1) hx hb hr (by decide) (fun t ht hW => ⟨⟨1, 1, rfl, rfl, ⟨by rw [ht]; exact hI, hN.warm hW, va_K.moved hW.alike hK⟩, by first | (rw [ht]; exact hpost) | exact hpost⟩, hS.F ht⟩) hS.2.2 dX3_plain_162
                      · skip
                        try simp only [rg, not_and, Int.not_le] at hp
                        have hp16040 := hp
                        obtain ⟨pn16041, Ln16042, hE, k16043, hfl16044⟩ := hp16040
                        have hp16040 : True := trivial
                        obtain ⟨hT4, hn12, ⟨a16045, hf16046, hq16047, hA16048⟩, ⟨a16049, hf16050, hq16051, hA16052⟩, ⟨a16053, hf16054, hq16055, hA16056⟩, ⟨w16057, hg16058, k16059⟩, ⟨w16060, hg16061, k16062⟩, ⟨w16063, hg16064, k16065⟩, hpT, ⟨w16066, hg16067, k16068⟩, ⟨w16069, hg16070, k16071⟩⟩ := hE
                        have k16072 := iv_lo w16063
                        have k16073 := iv_hi w16063
                        have k16074 := TK.at hTK hpT
                        refine lv_istore_n (lv' := [(3, .int 0), (4, .int 9), (2, .int v14795), (0, .ref h0), (1, .int x1)]) hx hb dX3_plain_140 rfl hl (by decide) rfl (fun ls hl => ?_)
                        refine lv_aload_n hx hb dX3_plain_141 rfl (lv_at hl 3 rfl) ?_
                        refine lv_iload hx hb dX3_plain_142 (lv_at hl 1 rfl) ?_
                        refine lv_iconst (v := 0) hx hb dX3_plain_144 (by decide) ?_
                        refine nx_i (As := [.int 9, .int 0]) (rest := []) (n := 2) (d := 0) ⟨hx, hb, hml, hown, hts⟩ (c_X3_emit l E D G h0 hG0 9 0 ft fp fn TT pn16041 nc Ln16042) wd_723 wd_725 wp_17 wd_5 wd_726 (by decide +kernel) ⟨by rw [hR]; show 0 + 1 ≤ 21 + 3 * k; omega, by rw [hR]; show 8 + (3 + 11) + 40 * (0) ≤ 40 * (21 + 3 * k); omega⟩ hI hN hK hS hG0 (⟨by omega, by omega, ⟨a16045, hf16046, hq16047, hA16048⟩, ⟨a16049, hf16050, hq16051, hA16052⟩, ⟨a16053, hf16054, hq16055, hA16056⟩, ⟨w16057, hg16058, by first | omega | decide⟩, ⟨w16060, hg16061, by first | omega | decide⟩, ⟨w16063, hg16064, by first | omega | decide⟩, by omega, ⟨w16066, hg16067, by first | omega | decide⟩, ⟨w16069, hg16070, by first | omega | decide⟩⟩) rfl hl.1 rfl (Nat.le_of_ble_eq_true rfl) dX3_plain_145 ⟨Nat.zero_le _, Nat.zero_le _⟩ (fun r16075 H locs hI hp hS => ?_)
                        obtain ⟨hT4, hn12, ⟨a16076, hf16077, hq16078, hA16079⟩, ⟨a16080, hf16081, hq16082, hA16083⟩, ⟨a16084, hf16085, hq16086, hA16087⟩, ⟨w16088, hg16089, k16090⟩, ⟨w16091, hg16092, k16093⟩, ⟨w16094, hg16095, k16096⟩, hpT, ⟨w16097, hg16098, k16099⟩, ⟨w16100, hg16101, k16102⟩⟩ := hp
                        have k16103 := iv_lo w16094
                        have k16104 := iv_hi w16094
                        have k16105 := TK.at hTK hpT
                        refine lv_pop hx hb dX3_plain_148 rfl ?_
                        refine lv_iload_n hx hb dX3_plain_149 rfl (lv_at hl 2 rfl) ?_
                        refine lv_if_eq (tgt := 161) hx hb dX3_plain_150 (by decide) (fun c16106 => ?_) (fun c16106 => ?_)
                        · skip
                          have k16107 := iv_eq (X := v14795.toInt) (Y := (0)) rfl (by decide) c16106
                          refine lv_iload_n hx hb dX3_plain_161 rfl (lv_at hl 0 rfl) ?_
                          have hpost : ((0 : Int32) = 1 ∧ ∃ p2 L2 : Nat, RC E D G h0 ft fp fn TT p2 nc L2 H ∧ pp + 1 ≤ p2 ∧ pd_R ZZ YY TT (4, fl, nk, L2) p2 = XX) ∨ ((0 : Int32) = 0 ∧ ∃ p2 L2 : Nat, RC E D G h0 ft fp fn TT p2 nc L2 H ∧ pp ≤ p2 ∧ XX = (p2, false)) := Or.inr ⟨rfl, pn16041, Ln16042, ⟨by omega, by omega, ⟨a16076, hf16077, hq16078, hA16079⟩, ⟨a16080, hf16081, hq16082, hA16083⟩, ⟨a16084, hf16085, hq16086, hA16087⟩, ⟨w16088, hg16089, by first | omega | decide⟩, ⟨w16091, hg16092, by first | omega | decide⟩, ⟨w16094, hg16095, by first | omega | decide⟩, by omega, ⟨w16097, hg16098, by first | omega | decide⟩, ⟨w16100, hg16101, by first | omega | decide⟩⟩, by omega, hfl16044⟩
                          rw [hQ]
                          exact W.zret (v := 0) hx hb hr (by decide) (fun t ht hW => ⟨⟨0, 0, rfl, rfl, ⟨by rw [ht]; exact hI, hN.warm hW, va_K.moved hW.alike hK⟩, by first | (rw [ht]; exact hpost) | exact hpost⟩, hS.F ht⟩) hS.2.2 dX3_plain_162
                        · skip
                          have k16108 := iv_ne (X := v14795.toInt) (Y := (0)) rfl (by decide) c16106
                          refine lv_aload_n hx hb dX3_plain_153 rfl (lv_at hl 3 rfl) ?_
                          refine lv_bipush (v := 10) hx hb dX3_plain_154 (by decide) ?_
                          refine lv_iconst (v := 0) hx hb dX3_plain_156 (by decide) ?_
                          refine nx_i (As := [.int 10, .int 0]) (rest := []) (n := 2) (d := 0) ⟨hx, hb, hml, hown, hts⟩ (c_X3_emit l E D G h0 hG0 10 0 ft fp fn TT pn16041 nc Ln16042) wd_723 wd_725 wp_17 wd_5 wd_726 (by decide +kernel) ⟨by rw [hR]; show 0 + 1 ≤ 21 + 3 * k; omega, by rw [hR]; show 8 + (3 + 11) + 40 * (0) ≤ 40 * (21 + 3 * k); omega⟩ hI hN hK hS hG0 (⟨by omega, by omega, ⟨a16076, hf16077, hq16078, hA16079⟩, ⟨a16080, hf16081, hq16082, hA16083⟩, ⟨a16084, hf16085, hq16086, hA16087⟩, ⟨w16088, hg16089, by first | omega | decide⟩, ⟨w16091, hg16092, by first | omega | decide⟩, ⟨w16094, hg16095, by first | omega | decide⟩, by omega, ⟨w16097, hg16098, by first | omega | decide⟩, ⟨w16100, hg16101, by first | omega | decide⟩⟩) rfl hl.1 rfl (Nat.le_of_ble_eq_true rfl) dX3_plain_157 ⟨Nat.zero_le _, Nat.zero_le _⟩ (fun r16109 H locs hI hp hS => ?_)
                          obtain ⟨hT4, hn12, ⟨a16110, hf16111, hq16112, hA16113⟩, ⟨a16114, hf16115, hq16116, hA16117⟩, ⟨a16118, hf16119, hq16120, hA16121⟩, ⟨w16122, hg16123, k16124⟩, ⟨w16125, hg16126, k16127⟩, ⟨w16128, hg16129, k16130⟩, hpT, ⟨w16131, hg16132, k16133⟩, ⟨w16134, hg16135, k16136⟩⟩ := hp
                          have k16137 := iv_lo w16128
                          have k16138 := iv_hi w16128
                          have k16139 := TK.at hTK hpT
                          refine lv_pop hx hb dX3_plain_160 rfl ?_
                          refine lv_iload_n hx hb dX3_plain_161 rfl (lv_at hl 0 rfl) ?_
                          have hpost : ((0 : Int32) = 1 ∧ ∃ p2 L2 : Nat, RC E D G h0 ft fp fn TT p2 nc L2 H ∧ pp + 1 ≤ p2 ∧ pd_R ZZ YY TT (4, fl, nk, L2) p2 = XX) ∨ ((0 : Int32) = 0 ∧ ∃ p2 L2 : Nat, RC E D G h0 ft fp fn TT p2 nc L2 H ∧ pp ≤ p2 ∧ XX = (p2, false)) := Or.inr ⟨rfl, pn16041, Ln16042, ⟨by omega, by omega, ⟨a16110, hf16111, hq16112, hA16113⟩, ⟨a16114, hf16115, hq16116, hA16117⟩, ⟨a16118, hf16119, hq16120, hA16121⟩, ⟨w16122, hg16123, by first | omega | decide⟩, ⟨w16125, hg16126, by first | omega | decide⟩, ⟨w16128, hg16129, by first | omega | decide⟩, by omega, ⟨w16131, hg16132, by first | omega | decide⟩, ⟨w16134, hg16135, by first | omega | decide⟩⟩, by omega, hfl16044⟩
                          rw [hQ]
                          exact W.zret (v := 0) hx hb hr (by decide) (fun t ht hW => ⟨⟨0, 0, rfl, rfl, ⟨by rw [ht]; exact hI, hN.warm hW, va_K.moved hW.alike hK⟩, by first | (rw [ht]; exact hpost) | exact hpost⟩, hS.F ht⟩) hS.2.2 dX3_plain_162
                    · skip
                      have k16140 := iv_ne (X := w15870.toInt) (Y := (61)) rfl (by decide) c15897
                      refine lv_iconst (v := 0) hx hb dX3_plain_123 (by decide) ?_
                      have hpost : ((0 : Int32) = 1 ∧ ∃ p2 L2 : Nat, RC E D G h0 ft fp fn TT p2 nc L2 H ∧ pp + 1 ≤ p2 ∧ pd_R ZZ YY TT (4, fl, nk, L2) p2 = XX) ∨ ((0 : Int32) = 0 ∧ ∃ p2 L2 : Nat, RC E D G h0 ft fp fn TT p2 nc L2 H ∧ pp ≤ p2 ∧ XX = (p2, false)) := Or.inr ⟨rfl, pn15841, Ln15842, ⟨by omega, by omega, ⟨a15846, hf15847, hq15848, hA15849⟩, ⟨a15850, hf15851, hq15852, hA15853⟩, ⟨a15854, hf15855, hq15856, hA15857⟩, ⟨w15858, hg15859, by first | omega | decide⟩, ⟨w15861, hg15862, by first | omega | decide⟩, ⟨w15864, hg15865, by first | omega | decide⟩, by omega, ⟨w15867, hg15868, by first | omega | decide⟩, ⟨w15870, hg15871, by first | omega | decide⟩⟩, by omega, (hpd15844.symm.trans (pd_A_cmno (fun h9 => ⟨by unfold pd_op; unfold oc at hno15845; omega, by omega⟩)))⟩
                      rw [hQ]
                      exact W.zret (v := 0) hx hb hr (by decide) (fun t ht hW => ⟨⟨0, 0, rfl, rfl, ⟨by rw [ht]; exact hI, hN.warm hW, va_K.moved hW.alike hK⟩, by first | (rw [ht]; exact hpost) | exact hpost⟩, hS.F ht⟩) hS.2.2 dX3_plain_124
                · skip
                  have k16141 := iv_eq (X := w15870.toInt) (Y := (62)) rfl (by decide) c15888
                  refine lv_bipush (v := 8) hx hb dX3_plain_94 (by decide) ?_
                  refine lv_goto (tgt := 101) hx hb dX3_plain_96 (by decide) ?_
                  refine lv_istore (lv' := [(4, .int 8), (3, .int 1), (2, .int v14795), (0, .ref h0), (1, .int x1)]) hx hb dX3_plain_101 hl (by decide) rfl (fun ls hl => ?_)
                  refine lv_iload_n hx hb dX3_plain_103 rfl (lv_at hl 1 rfl) ?_
                  refine lv_if_eq (tgt := 123) hx hb dX3_plain_104 (by decide) (fun c => absurd c (by decide)) (fun _ => ?_)
                  refine lv_iload hx hb dX3_plain_107 (lv_at hl 0 rfl) ?_
                  refine lv_bipush (v := 9) hx hb dX3_plain_109 (by decide) ?_
                  refine lv_icmp_ne (tgt := 125) hx hb dX3_plain_111 (by decide) (fun c16142 => ?_) (fun c16142 => ?_)
                  · skip
                    have k16143 := iv_ne (X := (8)) (Y := (9)) (by decide) (by decide) c16142
                    refine lv_aload_n hx hb dX3_plain_125 rfl (lv_at hl 3 rfl) ?_
                    refine lv_aload_n hx hb dX3_plain_126 rfl (lv_at hl 3 rfl) ?_
                    refine gmIC hx hb hts inT3 hown hK hI List.not_mem_nil hG0 10 (by decide) (hts _ (tb_c wd_139)) rfl rfl dX3_plain_127 (fun w16144 hg16145 k16146 k16147 => ?_)
                    obtain rfl := gfC.uniq (by decide) hg15868 hg16145
                    refine lv_iconst (v := 1) hx hb dX3_plain_130 (by decide) ?_
                    refine lv_iadd hx hb dX3_plain_131 ?_
                    refine lv_topi (fun v16148 e16149 => ?_)
                    have tv16148 : v16148.toInt = w15867.toInt + (1) := iv_add rfl (by decide) e16149 (by omega) (by omega)
                    have hpd16150 : pd_R ZZ YY TT (1, 2 :: fl, nk, Ln15842) (pn15841 + 1) = XX := (pd_A_cm (by omega) (by omega)).symm.trans hpd15844
                    refine nx_v (As := [.int v16148]) (rest := []) (n := 1) (d := 0) ⟨hx, hb, hml, hown, hts⟩ (c_X3_moveTo l E D G h0 hG0 v16148 ft fp fn TT (pn15841 + 1) nc Ln15842 (by first | omega | decide) (by omega)) wd_707 wd_709 wp_13 wd_5 wd_710 (by decide +kernel) ⟨by rw [hR]; show 0 + 1 ≤ 21 + 3 * k; omega, by rw [hR]; show 8 + (2 + 11) + 40 * (0) ≤ 40 * (21 + 3 * k); omega⟩ hI hN hK hS hG0 (⟨by omega, by omega, ⟨a15846, hf15847, hq15848, hA15849⟩, ⟨a15850, hf15851, hq15852, hA15853⟩, ⟨a15854, hf15855, hq15856, hA15857⟩, ⟨w15858, hg15859, by first | omega | decide⟩, ⟨w15861, hg15862, by first | omega | decide⟩, ⟨w15864, hg15865, by first | omega | decide⟩⟩) rfl hl.1 rfl (Nat.le_of_ble_eq_true rfl) dX3_plain_132 ⟨Nat.zero_le _, Nat.zero_le _⟩ (fun H locs hI hp hS => ?_)
                    obtain ⟨hT4, hn12, ⟨a16152, hf16153, hq16154, hA16155⟩, ⟨a16156, hf16157, hq16158, hA16159⟩, ⟨a16160, hf16161, hq16162, hA16163⟩, ⟨w16164, hg16165, k16166⟩, ⟨w16167, hg16168, k16169⟩, ⟨w16170, hg16171, k16172⟩, hpT, ⟨w16173, hg16174, k16175⟩, ⟨w16176, hg16177, k16178⟩⟩ := hp
                    have k16179 := iv_lo w16170
                    have k16180 := iv_hi w16170
                    have k16181 := TK.at hTK hpT
                    refine lv_aload_n hx hb dX3_plain_135 rfl (lv_at hl 3 rfl) ?_
                    refine lv_iload_n hx hb dX3_plain_136 rfl (lv_at hl 4 rfl) ?_
                    refine nx_i (As := [.int x1]) (rest := []) (n := 1) (d := 19) ⟨hx, hb, hml, hown, hts⟩ (c_X3_sum l E D G 8 h0 hG0 x1 ft fp fn TT (pn15841 + 1) nc Ln15842 ZZ YY nk XX hTK dd (by first | decide | omega) (by omega) (by omega) (2 :: fl) (by rw [pd_dp2, hdp]) hpd16150 (c_X3_part l E D G 8)) wd_715 wd_717 wp_15 wd_5 wd_718 (by decide +kernel) ⟨by rw [hR]; show 19 + 1 ≤ 21 + 3 * k; omega, by rw [hR]; show 8 + (7 + 11) + 40 * (19) ≤ 40 * (21 + 3 * k); omega⟩ hI hN hK hS hG0 (⟨by omega, by omega, ⟨a16152, hf16153, hq16154, hA16155⟩, ⟨a16156, hf16157, hq16158, hA16159⟩, ⟨a16160, hf16161, hq16162, hA16163⟩, ⟨w16164, hg16165, by first | omega | decide⟩, ⟨w16167, hg16168, by first | omega | decide⟩, ⟨w16170, hg16171, by first | omega | decide⟩, by omega, ⟨w16173, hg16174, by first | omega | decide⟩, ⟨w16176, hg16177, by first | omega | decide⟩⟩) rfl hl.1 rfl (Nat.le_of_ble_eq_true rfl) dX3_plain_137 ⟨Nat.zero_le _, Nat.zero_le _⟩ (fun r16182 H locs hI hp hS => ?_)
                    rcases hp with ⟨rfl, hp⟩ | ⟨rfl, hp⟩
                    · skip
                      try simp only [rg, not_and, Int.not_le] at hp
                      have hp16183 := hp
                      obtain ⟨pn16184, Ln16185, hE, k16186, hpd16187, hno16188⟩ := hp16183
                      have hp16183 : True := trivial
                      obtain ⟨hT4, hn12, ⟨a16189, hf16190, hq16191, hA16192⟩, ⟨a16193, hf16194, hq16195, hA16196⟩, ⟨a16197, hf16198, hq16199, hA16200⟩, ⟨w16201, hg16202, k16203⟩, ⟨w16204, hg16205, k16206⟩, ⟨w16207, hg16208, k16209⟩, hpT, ⟨w16210, hg16211, k16212⟩, ⟨w16213, hg16214, k16215⟩⟩ := hE
                      have k16216 := iv_lo w16207
                      have k16217 := iv_hi w16207
                      have k16218 := TK.at hTK hpT
                      have hpd16219 : pd_R ZZ YY TT (4, fl, nk, Ln16185) pn16184 = XX := (pd_A_rt (fun h9 => by unfold pd_op; unfold oc at hno16188; omega)).symm.trans hpd16187
                      refine lv_istore_n (lv' := [(3, .int 1), (4, .int 8), (2, .int v14795), (0, .ref h0), (1, .int x1)]) hx hb dX3_plain_140 rfl hl (by decide) rfl (fun ls hl => ?_)
                      refine lv_aload_n hx hb dX3_plain_141 rfl (lv_at hl 3 rfl) ?_
                      refine lv_iload hx hb dX3_plain_142 (lv_at hl 1 rfl) ?_
                      refine lv_iconst (v := 0) hx hb dX3_plain_144 (by decide) ?_
                      refine nx_i (As := [.int 8, .int 0]) (rest := []) (n := 2) (d := 0) ⟨hx, hb, hml, hown, hts⟩ (c_X3_emit l E D G h0 hG0 8 0 ft fp fn TT pn16184 nc Ln16185) wd_723 wd_725 wp_17 wd_5 wd_726 (by decide +kernel) ⟨by rw [hR]; show 0 + 1 ≤ 21 + 3 * k; omega, by rw [hR]; show 8 + (3 + 11) + 40 * (0) ≤ 40 * (21 + 3 * k); omega⟩ hI hN hK hS hG0 (⟨by omega, by omega, ⟨a16189, hf16190, hq16191, hA16192⟩, ⟨a16193, hf16194, hq16195, hA16196⟩, ⟨a16197, hf16198, hq16199, hA16200⟩, ⟨w16201, hg16202, by first | omega | decide⟩, ⟨w16204, hg16205, by first | omega | decide⟩, ⟨w16207, hg16208, by first | omega | decide⟩, by omega, ⟨w16210, hg16211, by first | omega | decide⟩, ⟨w16213, hg16214, by first | omega | decide⟩⟩) rfl hl.1 rfl (Nat.le_of_ble_eq_true rfl) dX3_plain_145 ⟨Nat.zero_le _, Nat.zero_le _⟩ (fun r16220 H locs hI hp hS => ?_)
                      obtain ⟨hT4, hn12, ⟨a16221, hf16222, hq16223, hA16224⟩, ⟨a16225, hf16226, hq16227, hA16228⟩, ⟨a16229, hf16230, hq16231, hA16232⟩, ⟨w16233, hg16234, k16235⟩, ⟨w16236, hg16237, k16238⟩, ⟨w16239, hg16240, k16241⟩, hpT, ⟨w16242, hg16243, k16244⟩, ⟨w16245, hg16246, k16247⟩⟩ := hp
                      have k16248 := iv_lo w16239
                      have k16249 := iv_hi w16239
                      have k16250 := TK.at hTK hpT
                      refine lv_pop hx hb dX3_plain_148 rfl ?_
                      refine lv_iload_n hx hb dX3_plain_149 rfl (lv_at hl 2 rfl) ?_
                      refine lv_if_eq (tgt := 161) hx hb dX3_plain_150 (by decide) (fun c16251 => ?_) (fun c16251 => ?_)
                      · skip
                        have k16252 := iv_eq (X := v14795.toInt) (Y := (0)) rfl (by decide) c16251
                        refine lv_iload_n hx hb dX3_plain_161 rfl (lv_at hl 0 rfl) ?_
                        have hpost : ((1 : Int32) = 1 ∧ ∃ p2 L2 : Nat, RC E D G h0 ft fp fn TT p2 nc L2 H ∧ pp + 1 ≤ p2 ∧ pd_R ZZ YY TT (4, fl, nk, L2) p2 = XX) ∨ ((1 : Int32) = 0 ∧ ∃ p2 L2 : Nat, RC E D G h0 ft fp fn TT p2 nc L2 H ∧ pp ≤ p2 ∧ XX = (p2, false)) := Or.inl ⟨rfl, pn16184, Ln16185, ⟨by omega, by omega, ⟨a16221, hf16222, hq16223, hA16224⟩, ⟨a16225, hf16226, hq16227, hA16228⟩, ⟨a16229, hf16230, hq16231, hA16232⟩, ⟨w16233, hg16234, by first | omega | decide⟩, ⟨w16236, hg16237, by first | omega | decide⟩, ⟨w16239, hg16240, by first | omega | decide⟩, by omega, ⟨w16242, hg16243, by first | omega | decide⟩, ⟨w16245, hg16246, by first | omega | decide⟩⟩, by omega, hpd16219⟩
                        rw [hQ]
                        exact W.zret (v := 1) hx hb hr (by decide) (fun t ht hW => ⟨⟨1, 1, rfl, rfl, ⟨by rw [ht]; exact hI, hN.warm hW, va_K.moved hW.alike hK⟩, by first | (rw [ht]; exact hpost) | exact hpost⟩, hS.F ht⟩) hS.2.2 dX3_plain_162
                      · skip
                        have k16253 := iv_ne (X := v14795.toInt) (Y := (0)) rfl (by decide) c16251
                        refine lv_aload_n hx hb dX3_plain_153 rfl (lv_at hl 3 rfl) ?_
                        refine lv_bipush (v := 10) hx hb dX3_plain_154 (by decide) ?_
                        refine lv_iconst (v := 0) hx hb dX3_plain_156 (by decide) ?_
                        refine nx_i (As := [.int 10, .int 0]) (rest := []) (n := 2) (d := 0) ⟨hx, hb, hml, hown, hts⟩ (c_X3_emit l E D G h0 hG0 10 0 ft fp fn TT pn16184 nc Ln16185) wd_723 wd_725 wp_17 wd_5 wd_726 (by decide +kernel) ⟨by rw [hR]; show 0 + 1 ≤ 21 + 3 * k; omega, by rw [hR]; show 8 + (3 + 11) + 40 * (0) ≤ 40 * (21 + 3 * k); omega⟩ hI hN hK hS hG0 (⟨by omega, by omega, ⟨a16221, hf16222, hq16223, hA16224⟩, ⟨a16225, hf16226, hq16227, hA16228⟩, ⟨a16229, hf16230, hq16231, hA16232⟩, ⟨w16233, hg16234, by first | omega | decide⟩, ⟨w16236, hg16237, by first | omega | decide⟩, ⟨w16239, hg16240, by first | omega | decide⟩, by omega, ⟨w16242, hg16243, by first | omega | decide⟩, ⟨w16245, hg16246, by first | omega | decide⟩⟩) rfl hl.1 rfl (Nat.le_of_ble_eq_true rfl) dX3_plain_157 ⟨Nat.zero_le _, Nat.zero_le _⟩ (fun r16254 H locs hI hp hS => ?_)
                        obtain ⟨hT4, hn12, ⟨a16255, hf16256, hq16257, hA16258⟩, ⟨a16259, hf16260, hq16261, hA16262⟩, ⟨a16263, hf16264, hq16265, hA16266⟩, ⟨w16267, hg16268, k16269⟩, ⟨w16270, hg16271, k16272⟩, ⟨w16273, hg16274, k16275⟩, hpT, ⟨w16276, hg16277, k16278⟩, ⟨w16279, hg16280, k16281⟩⟩ := hp
                        have k16282 := iv_lo w16273
                        have k16283 := iv_hi w16273
                        have k16284 := TK.at hTK hpT
                        refine lv_pop hx hb dX3_plain_160 rfl ?_
                        refine lv_iload_n hx hb dX3_plain_161 rfl (lv_at hl 0 rfl) ?_
                        have hpost : ((1 : Int32) = 1 ∧ ∃ p2 L2 : Nat, RC E D G h0 ft fp fn TT p2 nc L2 H ∧ pp + 1 ≤ p2 ∧ pd_R ZZ YY TT (4, fl, nk, L2) p2 = XX) ∨ ((1 : Int32) = 0 ∧ ∃ p2 L2 : Nat, RC E D G h0 ft fp fn TT p2 nc L2 H ∧ pp ≤ p2 ∧ XX = (p2, false)) := Or.inl ⟨rfl, pn16184, Ln16185, ⟨by omega, by omega, ⟨a16255, hf16256, hq16257, hA16258⟩, ⟨a16259, hf16260, hq16261, hA16262⟩, ⟨a16263, hf16264, hq16265, hA16266⟩, ⟨w16267, hg16268, by first | omega | decide⟩, ⟨w16270, hg16271, by first | omega | decide⟩, ⟨w16273, hg16274, by first | omega | decide⟩, by omega, ⟨w16276, hg16277, by first | omega | decide⟩, ⟨w16279, hg16280, by first | omega | decide⟩⟩, by omega, hpd16219⟩
                        rw [hQ]
                        exact W.zret (v := 1) hx hb hr (by decide) (fun t ht hW => ⟨⟨1, 1, rfl, rfl, ⟨by rw [ht]; exact hI, hN.warm hW, va_K.moved hW.alike hK⟩, by first | (rw [ht]; exact hpost) | exact hpost⟩, hS.F ht⟩) hS.2.2 dX3_plain_162
                    · skip
                      try simp only [rg, not_and, Int.not_le] at hp
                      have hp16285 := hp
                      obtain ⟨pn16286, Ln16287, hE, k16288, hfl16289⟩ := hp16285
                      have hp16285 : True := trivial
                      obtain ⟨hT4, hn12, ⟨a16290, hf16291, hq16292, hA16293⟩, ⟨a16294, hf16295, hq16296, hA16297⟩, ⟨a16298, hf16299, hq16300, hA16301⟩, ⟨w16302, hg16303, k16304⟩, ⟨w16305, hg16306, k16307⟩, ⟨w16308, hg16309, k16310⟩, hpT, ⟨w16311, hg16312, k16313⟩, ⟨w16314, hg16315, k16316⟩⟩ := hE
                      have k16317 := iv_lo w16308
                      have k16318 := iv_hi w16308
                      have k16319 := TK.at hTK hpT
                      refine lv_istore_n (lv' := [(3, .int 0), (4, .int 8), (2, .int v14795), (0, .ref h0), (1, .int x1)]) hx hb dX3_plain_140 rfl hl (by decide) rfl (fun ls hl => ?_)
                      refine lv_aload_n hx hb dX3_plain_141 rfl (lv_at hl 3 rfl) ?_
                      refine lv_iload hx hb dX3_plain_142 (lv_at hl 1 rfl) ?_
                      refine lv_iconst (v := 0) hx hb dX3_plain_144 (by decide) ?_
                      refine nx_i (As := [.int 8, .int 0]) (rest := []) (n := 2) (d := 0) ⟨hx, hb, hml, hown, hts⟩ (c_X3_emit l E D G h0 hG0 8 0 ft fp fn TT pn16286 nc Ln16287) wd_723 wd_725 wp_17 wd_5 wd_726 (by decide +kernel) ⟨by rw [hR]; show 0 + 1 ≤ 21 + 3 * k; omega, by rw [hR]; show 8 + (3 + 11) + 40 * (0) ≤ 40 * (21 + 3 * k); omega⟩ hI hN hK hS hG0 (⟨by omega, by omega, ⟨a16290, hf16291, hq16292, hA16293⟩, ⟨a16294, hf16295, hq16296, hA16297⟩, ⟨a16298, hf16299, hq16300, hA16301⟩, ⟨w16302, hg16303, by first | omega | decide⟩, ⟨w16305, hg16306, by first | omega | decide⟩, ⟨w16308, hg16309, by first | omega | decide⟩, by omega, ⟨w16311, hg16312, by first | omega | decide⟩, ⟨w16314, hg16315, by first | omega | decide⟩⟩) rfl hl.1 rfl (Nat.le_of_ble_eq_true rfl) dX3_plain_145 ⟨Nat.zero_le _, Nat.zero_le _⟩ (fun r16320 H locs hI hp hS => ?_)
                      obtain ⟨hT4, hn12, ⟨a16321, hf16322, hq16323, hA16324⟩, ⟨a16325, hf16326, hq16327, hA16328⟩, ⟨a16329, hf16330, hq16331, hA16332⟩, ⟨w16333, hg16334, k16335⟩, ⟨w16336, hg16337, k16338⟩, ⟨w16339, hg16340, k16341⟩, hpT, ⟨w16342, hg16343, k16344⟩, ⟨w16345, hg16346, k16347⟩⟩ := hp
                      have k16348 := iv_lo w16339
                      have k16349 := iv_hi w16339
                      have k16350 := TK.at hTK hpT
                      refine lv_pop hx hb dX3_plain_148 rfl ?_
                      refine lv_iload_n hx hb dX3_plain_149 rfl (lv_at hl 2 rfl) ?_
                      refine lv_if_eq (tgt := 161) hx hb dX3_plain_150 (by decide) (fun c16351 => ?_) (fun c16351 => ?_)
                      · skip
                        have k16352 := iv_eq (X := v14795.toInt) (Y := (0)) rfl (by decide) c16351
                        refine lv_iload_n hx hb dX3_plain_161 rfl (lv_at hl 0 rfl) ?_
                        have hpost : ((0 : Int32) = 1 ∧ ∃ p2 L2 : Nat, RC E D G h0 ft fp fn TT p2 nc L2 H ∧ pp + 1 ≤ p2 ∧ pd_R ZZ YY TT (4, fl, nk, L2) p2 = XX) ∨ ((0 : Int32) = 0 ∧ ∃ p2 L2 : Nat, RC E D G h0 ft fp fn TT p2 nc L2 H ∧ pp ≤ p2 ∧ XX = (p2, false)) := Or.inr ⟨rfl, pn16286, Ln16287, ⟨by omega, by omega, ⟨a16321, hf16322, hq16323, hA16324⟩, ⟨a16325, hf16326, hq16327, hA16328⟩, ⟨a16329, hf16330, hq16331, hA16332⟩, ⟨w16333, hg16334, by first | omega | decide⟩, ⟨w16336, hg16337, by first | omega | decide⟩, ⟨w16339, hg16340, by first | omega | decide⟩, by omega, ⟨w16342, hg16343, by first | omega | decide⟩, ⟨w16345, hg16346, by first | omega | decide⟩⟩, by omega, hfl16289⟩
                        rw [hQ]
                        exact W.zret (v := 0) hx hb hr (by decide) (fun t ht hW => ⟨⟨0, 0, rfl, rfl, ⟨by rw [ht]; exact hI, hN.warm hW, va_K.moved hW.alike hK⟩, by first | (rw [ht]; exact hpost) | exact hpost⟩, hS.F ht⟩) hS.2.2 dX3_plain_162
                      · skip
                        have k16353 := iv_ne (X := v14795.toInt) (Y := (0)) rfl (by decide) c16351
                        refine lv_aload_n hx hb dX3_plain_153 rfl (lv_at hl 3 rfl) ?_
                        refine lv_bipush (v := 10) hx hb dX3_plain_154 (by decide) ?_
                        refine lv_iconst (v := 0) hx hb dX3_plain_156 (by decide) ?_
                        refine nx_i (As := [.int 10, .int 0]) (rest := []) (n := 2) (d := 0) ⟨hx, hb, hml, hown, hts⟩ (c_X3_emit l E D G h0 hG0 10 0 ft fp fn TT pn16286 nc Ln16287) wd_723 wd_725 wp_17 wd_5 wd_726 (by decide +kernel) ⟨by rw [hR]; show 0 + 1 ≤ 21 + 3 * k; omega, by rw [hR]; show 8 + (3 + 11) + 40 * (0) ≤ 40 * (21 + 3 * k); omega⟩ hI hN hK hS hG0 (⟨by omega, by omega, ⟨a16321, hf16322, hq16323, hA16324⟩, ⟨a16325, hf16326, hq16327, hA16328⟩, ⟨a16329, hf16330, hq16331, hA16332⟩, ⟨w16333, hg16334, by first | omega | decide⟩, ⟨w16336, hg16337, by first | omega | decide⟩, ⟨w16339, hg16340, by first | omega | decide⟩, by omega, ⟨w16342, hg16343, by first | omega | decide⟩, ⟨w16345, hg16346, by first | omega | decide⟩⟩) rfl hl.1 rfl (Nat.le_of_ble_eq_true rfl) dX3_plain_157 ⟨Nat.zero_le _, Nat.zero_le _⟩ (fun r16354 H locs hI hp hS => ?_)
                        obtain ⟨hT4, hn12, ⟨a16355, hf16356, hq16357, hA16358⟩, ⟨a16359, hf16360, hq16361, hA16362⟩, ⟨a16363, hf16364, hq16365, hA16366⟩, ⟨w16367, hg16368, k16369⟩, ⟨w16370, hg16371, k16372⟩, ⟨w16373, hg16374, k16375⟩, hpT, ⟨w16376, hg16377, k16378⟩, ⟨w16379, hg16380, k16381⟩⟩ := hp
                        have k16382 := iv_lo w16373
                        have k16383 := iv_hi w16373
                        have k16384 := TK.at hTK hpT
                        refine lv_pop hx hb dX3_plain_160 rfl ?_
                        refine lv_iload_n hx hb dX3_plain_161 rfl (lv_at hl 0 rfl) ?_
                        have hpost : ((0 : Int32) = 1 ∧ ∃ p2 L2 : Nat, RC E D G h0 ft fp fn TT p2 nc L2 H ∧ pp + 1 ≤ p2 ∧ pd_R ZZ YY TT (4, fl, nk, L2) p2 = XX) ∨ ((0 : Int32) = 0 ∧ ∃ p2 L2 : Nat, RC E D G h0 ft fp fn TT p2 nc L2 H ∧ pp ≤ p2 ∧ XX = (p2, false)) := Or.inr ⟨rfl, pn16286, Ln16287, ⟨by omega, by omega, ⟨a16355, hf16356, hq16357, hA16358⟩, ⟨a16359, hf16360, hq16361, hA16362⟩, ⟨a16363, hf16364, hq16365, hA16366⟩, ⟨w16367, hg16368, by first | omega | decide⟩, ⟨w16370, hg16371, by first | omega | decide⟩, ⟨w16373, hg16374, by first | omega | decide⟩, by omega, ⟨w16376, hg16377, by first | omega | decide⟩, ⟨w16379, hg16380, by first | omega | decide⟩⟩, by omega, hfl16289⟩
                        rw [hQ]
                        exact W.zret (v := 0) hx hb hr (by decide) (fun t ht hW => ⟨⟨0, 0, rfl, rfl, ⟨by rw [ht]; exact hI, hN.warm hW, va_K.moved hW.alike hK⟩, by first | (rw [ht]; exact hpost) | exact hpost⟩, hS.F ht⟩) hS.2.2 dX3_plain_162
                  · skip
                    have k16385 := iv_eq (X := (8)) (Y := (9)) (by decide) (by decide) c16142
                    exfalso; omega
              · skip
                have k16386 := iv_eq (X := w15870.toInt) (Y := (60)) rfl (by decide) c15882
                refine lv_bipush (v := 7) hx hb dX3_plain_80 (by decide) ?_
                refine lv_goto (tgt := 101) hx hb dX3_plain_82 (by decide) ?_
                refine lv_istore (lv' := [(4, .int 7), (3, .int 1), (2, .int v14795), (0, .ref h0), (1, .int x1)]) hx hb dX3_plain_101 hl (by decide) rfl (fun ls hl => ?_)
                refine lv_iload_n hx hb dX3_plain_103 rfl (lv_at hl 1 rfl) ?_
                refine lv_if_eq (tgt := 123) hx hb dX3_plain_104 (by decide) (fun c => absurd c (by decide)) (fun _ => ?_)
                refine lv_iload hx hb dX3_plain_107 (lv_at hl 0 rfl) ?_
                refine lv_bipush (v := 9) hx hb dX3_plain_109 (by decide) ?_
                refine lv_icmp_ne (tgt := 125) hx hb dX3_plain_111 (by decide) (fun c16387 => ?_) (fun c16387 => ?_)
                · skip
                  have k16388 := iv_ne (X := (7)) (Y := (9)) (by decide) (by decide) c16387
                  refine lv_aload_n hx hb dX3_plain_125 rfl (lv_at hl 3 rfl) ?_
                  refine lv_aload_n hx hb dX3_plain_126 rfl (lv_at hl 3 rfl) ?_
                  refine gmIC hx hb hts inT3 hown hK hI List.not_mem_nil hG0 10 (by decide) (hts _ (tb_c wd_139)) rfl rfl dX3_plain_127 (fun w16389 hg16390 k16391 k16392 => ?_)
                  obtain rfl := gfC.uniq (by decide) hg15868 hg16390
                  refine lv_iconst (v := 1) hx hb dX3_plain_130 (by decide) ?_
                  refine lv_iadd hx hb dX3_plain_131 ?_
                  refine lv_topi (fun v16393 e16394 => ?_)
                  have tv16393 : v16393.toInt = w15867.toInt + (1) := iv_add rfl (by decide) e16394 (by omega) (by omega)
                  have hpd16395 : pd_R ZZ YY TT (1, 2 :: fl, nk, Ln15842) (pn15841 + 1) = XX := (pd_A_cm (by omega) (by omega)).symm.trans hpd15844
                  refine nx_v (As := [.int v16393]) (rest := []) (n := 1) (d := 0) ⟨hx, hb, hml, hown, hts⟩ (c_X3_moveTo l E D G h0 hG0 v16393 ft fp fn TT (pn15841 + 1) nc Ln15842 (by first | omega | decide) (by omega)) wd_707 wd_709 wp_13 wd_5 wd_710 (by decide +kernel) ⟨by rw [hR]; show 0 + 1 ≤ 21 + 3 * k; omega, by rw [hR]; show 8 + (2 + 11) + 40 * (0) ≤ 40 * (21 + 3 * k); omega⟩ hI hN hK hS hG0 (⟨by omega, by omega, ⟨a15846, hf15847, hq15848, hA15849⟩, ⟨a15850, hf15851, hq15852, hA15853⟩, ⟨a15854, hf15855, hq15856, hA15857⟩, ⟨w15858, hg15859, by first | omega | decide⟩, ⟨w15861, hg15862, by first | omega | decide⟩, ⟨w15864, hg15865, by first | omega | decide⟩⟩) rfl hl.1 rfl (Nat.le_of_ble_eq_true rfl) dX3_plain_132 ⟨Nat.zero_le _, Nat.zero_le _⟩ (fun H locs hI hp hS => ?_)
                  obtain ⟨hT4, hn12, ⟨a16397, hf16398, hq16399, hA16400⟩, ⟨a16401, hf16402, hq16403, hA16404⟩, ⟨a16405, hf16406, hq16407, hA16408⟩, ⟨w16409, hg16410, k16411⟩, ⟨w16412, hg16413, k16414⟩, ⟨w16415, hg16416, k16417⟩, hpT, ⟨w16418, hg16419, k16420⟩, ⟨w16421, hg16422, k16423⟩⟩ := hp
                  have k16424 := iv_lo w16415
                  have k16425 := iv_hi w16415
                  have k16426 := TK.at hTK hpT
                  refine lv_aload_n hx hb dX3_plain_135 rfl (lv_at hl 3 rfl) ?_
                  refine lv_iload_n hx hb dX3_plain_136 rfl (lv_at hl 4 rfl) ?_
                  refine nx_i (As := [.int x1]) (rest := []) (n := 1) (d := 19) ⟨hx, hb, hml, hown, hts⟩ (c_X3_sum l E D G 8 h0 hG0 x1 ft fp fn TT (pn15841 + 1) nc Ln15842 ZZ YY nk XX hTK dd (by first | decide | omega) (by omega) (by omega) (2 :: fl) (by rw [pd_dp2, hdp]) hpd16395 (c_X3_part l E D G 8)) wd_715 wd_717 wp_15 wd_5 wd_718 (by decide +kernel) ⟨by rw [hR]; show 19 + 1 ≤ 21 + 3 * k; omega, by rw [hR]; show 8 + (7 + 11) + 40 * (19) ≤ 40 * (21 + 3 * k); omega⟩ hI hN hK hS hG0 (⟨by omega, by omega, ⟨a16397, hf16398, hq16399, hA16400⟩, ⟨a16401, hf16402, hq16403, hA16404⟩, ⟨a16405, hf16406, hq16407, hA16408⟩, ⟨w16409, hg16410, by first | omega | decide⟩, ⟨w16412, hg16413, by first | omega | decide⟩, ⟨w16415, hg16416, by first | omega | decide⟩, by omega, ⟨w16418, hg16419, by first | omega | decide⟩, ⟨w16421, hg16422, by first | omega | decide⟩⟩) rfl hl.1 rfl (Nat.le_of_ble_eq_true rfl) dX3_plain_137 ⟨Nat.zero_le _, Nat.zero_le _⟩ (fun r16427 H locs hI hp hS => ?_)
                  rcases hp with ⟨rfl, hp⟩ | ⟨rfl, hp⟩
                  · skip
                    try simp only [rg, not_and, Int.not_le] at hp
                    have hp16428 := hp
                    obtain ⟨pn16429, Ln16430, hE, k16431, hpd16432, hno16433⟩ := hp16428
                    have hp16428 : True := trivial
                    obtain ⟨hT4, hn12, ⟨a16434, hf16435, hq16436, hA16437⟩, ⟨a16438, hf16439, hq16440, hA16441⟩, ⟨a16442, hf16443, hq16444, hA16445⟩, ⟨w16446, hg16447, k16448⟩, ⟨w16449, hg16450, k16451⟩, ⟨w16452, hg16453, k16454⟩, hpT, ⟨w16455, hg16456, k16457⟩, ⟨w16458, hg16459, k16460⟩⟩ := hE
                    have k16461 := iv_lo w16452
                    have k16462 := iv_hi w16452
                    have k16463 := TK.at hTK hpT
                    have hpd16464 : pd_R ZZ YY TT (4, fl, nk, Ln16430) pn16429 = XX := (pd_A_rt (fun h9 => by unfold pd_op; unfold oc at hno16433; omega)).symm.trans hpd16432
                    refine lv_istore_n (lv' := [(3, .int 1), (4, .int 7), (2, .int v14795), (0, .ref h0), (1, .int x1)]) hx hb dX3_plain_140 rfl hl (by decide) rfl (fun ls hl => ?_)
                    refine lv_aload_n hx hb dX3_plain_141 rfl (lv_at hl 3 rfl) ?_
                    refine lv_iload hx hb dX3_plain_142 (lv_at hl 1 rfl) ?_
                    refine lv_iconst (v := 0) hx hb dX3_plain_144 (by decide) ?_
                    refine nx_i (As := [.int 7, .int 0]) (rest := []) (n := 2) (d := 0) ⟨hx, hb, hml, hown, hts⟩ (c_X3_emit l E D G h0 hG0 7 0 ft fp fn TT pn16429 nc Ln16430) wd_723 wd_725 wp_17 wd_5 wd_726 (by decide +kernel) ⟨by rw [hR]; show 0 + 1 ≤ 21 + 3 * k; omega, by rw [hR]; show 8 + (3 + 11) + 40 * (0) ≤ 40 * (21 + 3 * k); omega⟩ hI hN hK hS hG0 (⟨by omega, by omega, ⟨a16434, hf16435, hq16436, hA16437⟩, ⟨a16438, hf16439, hq16440, hA16441⟩, ⟨a16442, hf16443, hq16444, hA16445⟩, ⟨w16446, hg16447, by first | omega | decide⟩, ⟨w16449, hg16450, by first | omega | decide⟩, ⟨w16452, hg16453, by first | omega | decide⟩, by omega, ⟨w16455, hg16456, by first | omega | decide⟩, ⟨w16458, hg16459, by first | omega | decide⟩⟩) rfl hl.1 rfl (Nat.le_of_ble_eq_true rfl) dX3_plain_145 ⟨Nat.zero_le _, Nat.zero_le _⟩ (fun r16465 H locs hI hp hS => ?_)
                    obtain ⟨hT4, hn12, ⟨a16466, hf16467, hq16468, hA16469⟩, ⟨a16470, hf16471, hq16472, hA16473⟩, ⟨a16474, hf16475, hq16476, hA16477⟩, ⟨w16478, hg16479, k16480⟩, ⟨w16481, hg16482, k16483⟩, ⟨w16484, hg16485, k16486⟩, hpT, ⟨w16487, hg16488, k16489⟩, ⟨w16490, hg16491, k16492⟩⟩ := hp
                    have k16493 := iv_lo w16484
                    have k16494 := iv_hi w16484
                    have k16495 := TK.at hTK hpT
                    refine lv_pop hx hb dX3_plain_148 rfl ?_
                    refine lv_iload_n hx hb dX3_plain_149 rfl (lv_at hl 2 rfl) ?_
                    refine lv_if_eq (tgt := 161) hx hb dX3_plain_150 (by decide) (fun c16496 => ?_) (fun c16496 => ?_)
                    · skip
                      have k16497 := iv_eq (X := v14795.toInt) (Y := (0)) rfl (by decide) c16496
                      refine lv_iload_n hx hb dX3_plain_161 rfl (lv_at hl 0 rfl) ?_
                      have hpost : ((1 : Int32) = 1 ∧ ∃ p2 L2 : Nat, RC E D G h0 ft fp fn TT p2 nc L2 H ∧ pp + 1 ≤ p2 ∧ pd_R ZZ YY TT (4, fl, nk, L2) p2 = XX) ∨ ((1 : Int32) = 0 ∧ ∃ p2 L2 : Nat, RC E D G h0 ft fp fn TT p2 nc L2 H ∧ pp ≤ p2 ∧ XX = (p2, false)) := Or.inl ⟨rfl, pn16429, Ln16430, ⟨by omega, by omega, ⟨a16466, hf16467, hq16468, hA16469⟩, ⟨a16470, hf16471, hq16472, hA16473⟩, ⟨a16474, hf16475, hq16476, hA16477⟩, ⟨w16478, hg16479, by first | omega | decide⟩, ⟨w16481, hg16482, by first | omega | decide⟩, ⟨w16484, hg16485, by first | omega | decide⟩, by omega, ⟨w16487, hg16488, by first | omega | decide⟩, ⟨w16490, hg16491, by first | omega | decide⟩⟩, by omega, hpd16464⟩
                      rw [hQ]
                      exact W.zret (v := 1) hx hb hr (by decide) (fun t ht hW => ⟨⟨1, 1, rfl, rfl, ⟨by rw [ht]; exact hI, hN.warm hW, va_K.moved hW.alike hK⟩, by first | (rw [ht]; exact hpost) | exact hpost⟩, hS.F ht⟩) hS.2.2 dX3_plain_162
                    · skip
                      have k16498 := iv_ne (X := v14795.toInt) (Y := (0)) rfl (by decide) c16496
                      refine lv_aload_n hx hb dX3_plain_153 rfl (lv_at hl 3 rfl) ?_
                      refine lv_bipush (v := 10) hx hb dX3_plain_154 (by decide) ?_
                      refine lv_iconst (v := 0) hx hb dX3_plain_156 (by decide) ?_
                      refine nx_i (As := [.int 10, .int 0]) (rest := []) (n := 2) (d := 0) ⟨hx, hb, hml, hown, hts⟩ (c_X3_emit l E D G h0 hG0 10 0 ft fp fn TT pn16429 nc Ln16430) wd_723 wd_725 wp_17 wd_5 wd_726 (by decide +kernel) ⟨by rw [hR]; show 0 + 1 ≤ 21 + 3 * k; omega, by rw [hR]; show 8 + (3 + 11) + 40 * (0) ≤ 40 * (21 + 3 * k); omega⟩ hI hN hK hS hG0 (⟨by omega, by omega, ⟨a16466, hf16467, hq16468, hA16469⟩, ⟨a16470, hf16471, hq16472, hA16473⟩, ⟨a16474, hf16475, hq16476, hA16477⟩, ⟨w16478, hg16479, by first | omega | decide⟩, ⟨w16481, hg16482, by first | omega | decide⟩, ⟨w16484, hg16485, by first | omega | decide⟩, by omega, ⟨w16487, hg16488, by first | omega | decide⟩, ⟨w16490, hg16491, by first | omega | decide⟩⟩) rfl hl.1 rfl (Nat.le_of_ble_eq_true rfl) dX3_plain_157 ⟨Nat.zero_le _, Nat.zero_le _⟩ (fun r16499 H locs hI hp hS => ?_)
                      obtain ⟨hT4, hn12, ⟨a16500, hf16501, hq16502, hA16503⟩, ⟨a16504, hf16505, hq16506, hA16507⟩, ⟨a16508, hf16509, hq16510, hA16511⟩, ⟨w16512, hg16513, k16514⟩, ⟨w16515, hg16516, k16517⟩, ⟨w16518, hg16519, k16520⟩, hpT, ⟨w16521, hg16522, k16523⟩, ⟨w16524, hg16525, k16526⟩⟩ := hp
                      have k16527 := iv_lo w16518
                      have k16528 := iv_hi w16518
                      have k16529 := TK.at hTK hpT
                      refine lv_pop hx hb dX3_plain_160 rfl ?_
                      refine lv_iload_n hx hb dX3_plain_161 rfl (lv_at hl 0 rfl) ?_
                      have hpost : ((1 : Int32) = 1 ∧ ∃ p2 L2 : Nat, RC E D G h0 ft fp fn TT p2 nc L2 H ∧ pp + 1 ≤ p2 ∧ pd_R ZZ YY TT (4, fl, nk, L2) p2 = XX) ∨ ((1 : Int32) = 0 ∧ ∃ p2 L2 : Nat, RC E D G h0 ft fp fn TT p2 nc L2 H ∧ pp ≤ p2 ∧ XX = (p2, false)) := Or.inl ⟨rfl, pn16429, Ln16430, ⟨by omega, by omega, ⟨a16500, hf16501, hq16502, hA16503⟩, ⟨a16504, hf16505, hq16506, hA16507⟩, ⟨a16508, hf16509, hq16510, hA16511⟩, ⟨w16512, hg16513, by first | omega | decide⟩, ⟨w16515, hg16516, by first | omega | decide⟩, ⟨w16518, hg16519, by first | omega | decide⟩, by omega, ⟨w16521, hg16522, by first | omega | decide⟩, ⟨w16524, hg16525, by first | omega | decide⟩⟩, by omega, hpd16464⟩
                      rw [hQ]
                      exact W.zret (v := 1) hx hb hr (by decide) (fun t ht hW => ⟨⟨1, 1, rfl, rfl, ⟨by rw [ht]; exact hI, hN.warm hW, va_K.moved hW.alike hK⟩, by first | (rw [ht]; exact hpost) | exact hpost⟩, hS.F ht⟩) hS.2.2 dX3_plain_162
                  · skip
                    try simp only [rg, not_and, Int.not_le] at hp
                    have hp16530 := hp
                    obtain ⟨pn16531, Ln16532, hE, k16533, hfl16534⟩ := hp16530
                    have hp16530 : True := trivial
                    obtain ⟨hT4, hn12, ⟨a16535, hf16536, hq16537, hA16538⟩, ⟨a16539, hf16540, hq16541, hA16542⟩, ⟨a16543, hf16544, hq16545, hA16546⟩, ⟨w16547, hg16548, k16549⟩, ⟨w16550, hg16551, k16552⟩, ⟨w16553, hg16554, k16555⟩, hpT, ⟨w16556, hg16557, k16558⟩, ⟨w16559, hg16560, k16561⟩⟩ := hE
                    have k16562 := iv_lo w16553
                    have k16563 := iv_hi w16553
                    have k16564 := TK.at hTK hpT
                    refine lv_istore_n (lv' := [(3, .int 0), (4, .int 7), (2, .int v14795), (0, .ref h0), (1, .int x1)]) hx hb dX3_plain_140 rfl hl (by decide) rfl (fun ls hl => ?_)
                    refine lv_aload_n hx hb dX3_plain_141 rfl (lv_at hl 3 rfl) ?_
                    refine lv_iload hx hb dX3_plain_142 (lv_at hl 1 rfl) ?_
                    refine lv_iconst (v := 0) hx hb dX3_plain_144 (by decide) ?_
                    refine nx_i (As := [.int 7, .int 0]) (rest := []) (n := 2) (d := 0) ⟨hx, hb, hml, hown, hts⟩ (c_X3_emit l E D G h0 hG0 7 0 ft fp fn TT pn16531 nc Ln16532) wd_723 wd_725 wp_17 wd_5 wd_726 (by decide +kernel) ⟨by rw [hR]; show 0 + 1 ≤ 21 + 3 * k; omega, by rw [hR]; show 8 + (3 + 11) + 40 * (0) ≤ 40 * (21 + 3 * k); omega⟩ hI hN hK hS hG0 (⟨by omega, by omega, ⟨a16535, hf16536, hq16537, hA16538⟩, ⟨a16539, hf16540, hq16541, hA16542⟩, ⟨a16543, hf16544, hq16545, hA16546⟩, ⟨w16547, hg16548, by first | omega | decide⟩, ⟨w16550, hg16551, by first | omega | decide⟩, ⟨w16553, hg16554, by first | omega | decide⟩, by omega, ⟨w16556, hg16557, by first | omega | decide⟩, ⟨w16559, hg16560, by first | omega | decide⟩⟩) rfl hl.1 rfl (Nat.le_of_ble_eq_true rfl) dX3_plain_145 ⟨Nat.zero_le _, Nat.zero_le _⟩ (fun r16565 H locs hI hp hS => ?_)
                    obtain ⟨hT4, hn12, ⟨a16566, hf16567, hq16568, hA16569⟩, ⟨a16570, hf16571, hq16572, hA16573⟩, ⟨a16574, hf16575, hq16576, hA16577⟩, ⟨w16578, hg16579, k16580⟩, ⟨w16581, hg16582, k16583⟩, ⟨w16584, hg16585, k16586⟩, hpT, ⟨w16587, hg16588, k16589⟩, ⟨w16590, hg16591, k16592⟩⟩ := hp
                    have k16593 := iv_lo w16584
                    have k16594 := iv_hi w16584
                    have k16595 := TK.at hTK hpT
                    refine lv_pop hx hb dX3_plain_148 rfl ?_
                    refine lv_iload_n hx hb dX3_plain_149 rfl (lv_at hl 2 rfl) ?_
                    refine lv_if_eq (tgt := 161) hx hb dX3_plain_150 (by decide) (fun c16596 => ?_) (fun c16596 => ?_)
                    · skip
                      have k16597 := iv_eq (X := v14795.toInt) (Y := (0)) rfl (by decide) c16596
                      refine lv_iload_n hx hb dX3_plain_161 rfl (lv_at hl 0 rfl) ?_
                      have hpost : ((0 : Int32) = 1 ∧ ∃ p2 L2 : Nat, RC E D G h0 ft fp fn TT p2 nc L2 H ∧ pp + 1 ≤ p2 ∧ pd_R ZZ YY TT (4, fl, nk, L2) p2 = XX) ∨ ((0 : Int32) = 0 ∧ ∃ p2 L2 : Nat, RC E D G h0 ft fp fn TT p2 nc L2 H ∧ pp ≤ p2 ∧ XX = (p2, false)) := Or.inr ⟨rfl, pn16531, Ln16532, ⟨by omega, by omega, ⟨a16566, hf16567, hq16568, hA16569⟩, ⟨a16570, hf16571, hq16572, hA16573⟩, ⟨a16574, hf16575, hq16576, hA16577⟩, ⟨w16578, hg16579, by first | omega | decide⟩, ⟨w16581, hg16582, by first | omega | decide⟩, ⟨w16584, hg16585, by first | omega | decide⟩, by omega, ⟨w16587, hg16588, by first | omega | decide⟩, ⟨w16590, hg16591, by first | omega | decide⟩⟩, by omega, hfl16534⟩
                      rw [hQ]
                      exact W.zret (v := 0) hx hb hr (by decide) (fun t ht hW => ⟨⟨0, 0, rfl, rfl, ⟨by rw [ht]; exact hI, hN.warm hW, va_K.moved hW.alike hK⟩, by first | (rw [ht]; exact hpost) | exact hpost⟩, hS.F ht⟩) hS.2.2 dX3_plain_162
                    · skip
                      have k16598 := iv_ne (X := v14795.toInt) (Y := (0)) rfl (by decide) c16596
                      refine lv_aload_n hx hb dX3_plain_153 rfl (lv_at hl 3 rfl) ?_
                      refine lv_bipush (v := 10) hx hb dX3_plain_154 (by decide) ?_
                      refine lv_iconst (v := 0) hx hb dX3_plain_156 (by decide) ?_
                      refine nx_i (As := [.int 10, .int 0]) (rest := []) (n := 2) (d := 0) ⟨hx, hb, hml, hown, hts⟩ (c_X3_emit l E D G h0 hG0 10 0 ft fp fn TT pn16531 nc Ln16532) wd_723 wd_725 wp_17 wd_5 wd_726 (by decide +kernel) ⟨by rw [hR]; show 0 + 1 ≤ 21 + 3 * k; omega, by rw [hR]; show 8 + (3 + 11) + 40 * (0) ≤ 40 * (21 + 3 * k); omega⟩ hI hN hK hS hG0 (⟨by omega, by omega, ⟨a16566, hf16567, hq16568, hA16569⟩, ⟨a16570, hf16571, hq16572, hA16573⟩, ⟨a16574, hf16575, hq16576, hA16577⟩, ⟨w16578, hg16579, by first | omega | decide⟩, ⟨w16581, hg16582, by first | omega | decide⟩, ⟨w16584, hg16585, by first | omega | decide⟩, by omega, ⟨w16587, hg16588, by first | omega | decide⟩, ⟨w16590, hg16591, by first | omega | decide⟩⟩) rfl hl.1 rfl (Nat.le_of_ble_eq_true rfl) dX3_plain_157 ⟨Nat.zero_le _, Nat.zero_le _⟩ (fun r16599 H locs hI hp hS => ?_)
                      obtain ⟨hT4, hn12, ⟨a16600, hf16601, hq16602, hA16603⟩, ⟨a16604, hf16605, hq16606, hA16607⟩, ⟨a16608, hf16609, hq16610, hA16611⟩, ⟨w16612, hg16613, k16614⟩, ⟨w16615, hg16616, k16617⟩, ⟨w16618, hg16619, k16620⟩, hpT, ⟨w16621, hg16622, k16623⟩, ⟨w16624, hg16625, k16626⟩⟩ := hp
                      have k16627 := iv_lo w16618
                      have k16628 := iv_hi w16618
                      have k16629 := TK.at hTK hpT
                      refine lv_pop hx hb dX3_plain_160 rfl ?_
                      refine lv_iload_n hx hb dX3_plain_161 rfl (lv_at hl 0 rfl) ?_
                      have hpost : ((0 : Int32) = 1 ∧ ∃ p2 L2 : Nat, RC E D G h0 ft fp fn TT p2 nc L2 H ∧ pp + 1 ≤ p2 ∧ pd_R ZZ YY TT (4, fl, nk, L2) p2 = XX) ∨ ((0 : Int32) = 0 ∧ ∃ p2 L2 : Nat, RC E D G h0 ft fp fn TT p2 nc L2 H ∧ pp ≤ p2 ∧ XX = (p2, false)) := Or.inr ⟨rfl, pn16531, Ln16532, ⟨by omega, by omega, ⟨a16600, hf16601, hq16602, hA16603⟩, ⟨a16604, hf16605, hq16606, hA16607⟩, ⟨a16608, hf16609, hq16610, hA16611⟩, ⟨w16612, hg16613, by first | omega | decide⟩, ⟨w16615, hg16616, by first | omega | decide⟩, ⟨w16618, hg16619, by first | omega | decide⟩, by omega, ⟨w16621, hg16622, by first | omega | decide⟩, ⟨w16624, hg16625, by first | omega | decide⟩⟩, by omega, hfl16534⟩
                      rw [hQ]
                      exact W.zret (v := 0) hx hb hr (by decide) (fun t ht hW => ⟨⟨0, 0, rfl, rfl, ⟨by rw [ht]; exact hI, hN.warm hW, va_K.moved hW.alike hK⟩, by first | (rw [ht]; exact hpost) | exact hpost⟩, hS.F ht⟩) hS.2.2 dX3_plain_162
                · skip
                  have k16630 := iv_eq (X := (7)) (Y := (9)) (by decide) (by decide) c16387
                  exfalso; omega
            · skip
              try simp only [rg, not_and, Int.not_le] at hp
              have hp16631 := hp
              obtain ⟨pn16632, Ln16633, hE, k16634, hfl16635⟩ := hp16631
              have hp16631 : True := trivial
              obtain ⟨hT4, hn12, ⟨a16636, hf16637, hq16638, hA16639⟩, ⟨a16640, hf16641, hq16642, hA16643⟩, ⟨a16644, hf16645, hq16646, hA16647⟩, ⟨w16648, hg16649, k16650⟩, ⟨w16651, hg16652, k16653⟩, ⟨w16654, hg16655, k16656⟩, hpT, ⟨w16657, hg16658, k16659⟩, ⟨w16660, hg16661, k16662⟩⟩ := hE
              have k16663 := iv_lo w16654
              have k16664 := iv_hi w16654
              have k16665 := TK.at hTK hpT
              refine lv_istore_n (lv' := [(3, .int 0), (2, .int v14795), (0, .ref h0), (1, .int x1)]) hx hb dX3_plain_70 rfl hl (by decide) rfl (fun ls hl => ?_)
              refine lv_aload_n hx hb dX3_plain_71 rfl (lv_at hl 2 rfl) ?_
              refine gmIC hx hb hts inT3 hown hK hI List.not_mem_nil hG0 11 (by decide) (hts _ (tb_c wd_140)) rfl rfl dX3_plain_72 (fun w16666 hg16667 k16668 k16669 => ?_)
              obtain rfl := gfC.uniq (by decide) hg16661 hg16667
              refine lv_bipush (v := 60) hx hb dX3_plain_75 (by decide) ?_
              have k16670 := iv_lo w16660
              have k16671 := iv_hi w16660
              refine lv_icmp_ne (tgt := 85) hx hb dX3_plain_77 (by decide) (fun c16672 => ?_) (fun c16672 => ?_)
              · skip
                have k16673 := iv_ne (X := w16660.toInt) (Y := (60)) rfl (by decide) c16672
                refine lv_aload_n hx hb dX3_plain_85 rfl (lv_at hl 2 rfl) ?_
                refine gmIC hx hb hts inT3 hown hK hI List.not_mem_nil hG0 11 (by decide) (hts _ (tb_c wd_140)) rfl rfl dX3_plain_86 (fun w16674 hg16675 k16676 k16677 => ?_)
                obtain rfl := gfC.uniq (by decide) hg16661 hg16675
                refine lv_bipush (v := 62) hx hb dX3_plain_89 (by decide) ?_
                refine lv_icmp_ne (tgt := 99) hx hb dX3_plain_91 (by decide) (fun c16678 => ?_) (fun c16678 => ?_)
                · skip
                  have k16679 := iv_ne (X := w16660.toInt) (Y := (62)) rfl (by decide) c16678
                  refine lv_bipush (v := 9) hx hb dX3_plain_99 (by decide) ?_
                  refine lv_istore (lv' := [(4, .int 9), (3, .int 0), (2, .int v14795), (0, .ref h0), (1, .int x1)]) hx hb dX3_plain_101 hl (by decide) rfl (fun ls hl => ?_)
                  refine lv_iload_n hx hb dX3_plain_103 rfl (lv_at hl 1 rfl) ?_
                  refine lv_if_eq (tgt := 123) hx hb dX3_plain_104 (by decide) (fun _ => ?_) (fun c => absurd c (by decide))
                  refine lv_iconst (v := 0) hx hb dX3_plain_123 (by decide) ?_
                  have hpost : ((0 : Int32) = 1 ∧ ∃ p2 L2 : Nat, RC E D G h0 ft fp fn TT p2 nc L2 H ∧ pp + 1 ≤ p2 ∧ pd_R ZZ YY TT (4, fl, nk, L2) p2 = XX) ∨ ((0 : Int32) = 0 ∧ ∃ p2 L2 : Nat, RC E D G h0 ft fp fn TT p2 nc L2 H ∧ pp ≤ p2 ∧ XX = (p2, false)) := Or.inr ⟨rfl, pn16632, Ln16633, ⟨by omega, by omega, ⟨a16636, hf16637, hq16638, hA16639⟩, ⟨a16640, hf16641, hq16642, hA16643⟩, ⟨a16644, hf16645, hq16646, hA16647⟩, ⟨w16648, hg16649, by first | omega | decide⟩, ⟨w16651, hg16652, by first | omega | decide⟩, ⟨w16654, hg16655, by first | omega | decide⟩, by omega, ⟨w16657, hg16658, by first | omega | decide⟩, ⟨w16660, hg16661, by first | omega | decide⟩⟩, by omega, hfl16635⟩
                  rw [hQ]
                  exact W.zret (v := 0) hx hb hr (by decide) (fun t ht hW => ⟨⟨0, 0, rfl, rfl, ⟨by rw [ht]; exact hI, hN.warm hW, va_K.moved hW.alike hK⟩, by first | (rw [ht]; exact hpost) | exact hpost⟩, hS.F ht⟩) hS.2.2 dX3_plain_124
                · skip
                  have k16680 := iv_eq (X := w16660.toInt) (Y := (62)) rfl (by decide) c16678
                  refine lv_bipush (v := 8) hx hb dX3_plain_94 (by decide) ?_
                  refine lv_goto (tgt := 101) hx hb dX3_plain_96 (by decide) ?_
                  refine lv_istore (lv' := [(4, .int 8), (3, .int 0), (2, .int v14795), (0, .ref h0), (1, .int x1)]) hx hb dX3_plain_101 hl (by decide) rfl (fun ls hl => ?_)
                  refine lv_iload_n hx hb dX3_plain_103 rfl (lv_at hl 1 rfl) ?_
                  refine lv_if_eq (tgt := 123) hx hb dX3_plain_104 (by decide) (fun _ => ?_) (fun c => absurd c (by decide))
                  refine lv_iconst (v := 0) hx hb dX3_plain_123 (by decide) ?_
                  have hpost : ((0 : Int32) = 1 ∧ ∃ p2 L2 : Nat, RC E D G h0 ft fp fn TT p2 nc L2 H ∧ pp + 1 ≤ p2 ∧ pd_R ZZ YY TT (4, fl, nk, L2) p2 = XX) ∨ ((0 : Int32) = 0 ∧ ∃ p2 L2 : Nat, RC E D G h0 ft fp fn TT p2 nc L2 H ∧ pp ≤ p2 ∧ XX = (p2, false)) := Or.inr ⟨rfl, pn16632, Ln16633, ⟨by omega, by omega, ⟨a16636, hf16637, hq16638, hA16639⟩, ⟨a16640, hf16641, hq16642, hA16643⟩, ⟨a16644, hf16645, hq16646, hA16647⟩, ⟨w16648, hg16649, by first | omega | decide⟩, ⟨w16651, hg16652, by first | omega | decide⟩, ⟨w16654, hg16655, by first | omega | decide⟩, by omega, ⟨w16657, hg16658, by first | omega | decide⟩, ⟨w16660, hg16661, by first | omega | decide⟩⟩, by omega, hfl16635⟩
                  rw [hQ]
                  exact W.zret (v := 0) hx hb hr (by decide) (fun t ht hW => ⟨⟨0, 0, rfl, rfl, ⟨by rw [ht]; exact hI, hN.warm hW, va_K.moved hW.alike hK⟩, by first | (rw [ht]; exact hpost) | exact hpost⟩, hS.F ht⟩) hS.2.2 dX3_plain_124
              · skip
                have k16681 := iv_eq (X := w16660.toInt) (Y := (60)) rfl (by decide) c16672
                refine lv_bipush (v := 7) hx hb dX3_plain_80 (by decide) ?_
                refine lv_goto (tgt := 101) hx hb dX3_plain_82 (by decide) ?_
                refine lv_istore (lv' := [(4, .int 7), (3, .int 0), (2, .int v14795), (0, .ref h0), (1, .int x1)]) hx hb dX3_plain_101 hl (by decide) rfl (fun ls hl => ?_)
                refine lv_iload_n hx hb dX3_plain_103 rfl (lv_at hl 1 rfl) ?_
                refine lv_if_eq (tgt := 123) hx hb dX3_plain_104 (by decide) (fun _ => ?_) (fun c => absurd c (by decide))
                refine lv_iconst (v := 0) hx hb dX3_plain_123 (by decide) ?_
                have hpost : ((0 : Int32) = 1 ∧ ∃ p2 L2 : Nat, RC E D G h0 ft fp fn TT p2 nc L2 H ∧ pp + 1 ≤ p2 ∧ pd_R ZZ YY TT (4, fl, nk, L2) p2 = XX) ∨ ((0 : Int32) = 0 ∧ ∃ p2 L2 : Nat, RC E D G h0 ft fp fn TT p2 nc L2 H ∧ pp ≤ p2 ∧ XX = (p2, false)) := Or.inr ⟨rfl, pn16632, Ln16633, ⟨by omega, by omega, ⟨a16636, hf16637, hq16638, hA16639⟩, ⟨a16640, hf16641, hq16642, hA16643⟩, ⟨a16644, hf16645, hq16646, hA16647⟩, ⟨w16648, hg16649, by first | omega | decide⟩, ⟨w16651, hg16652, by first | omega | decide⟩, ⟨w16654, hg16655, by first | omega | decide⟩, by omega, ⟨w16657, hg16658, by first | omega | decide⟩, ⟨w16660, hg16661, by first | omega | decide⟩⟩, by omega, hfl16635⟩
                rw [hQ]
                exact W.zret (v := 0) hx hb hr (by decide) (fun t ht hW => ⟨⟨0, 0, rfl, rfl, ⟨by rw [ht]; exact hI, hN.warm hW, va_K.moved hW.alike hK⟩, by first | (rw [ht]; exact hpost) | exact hpost⟩, hS.F ht⟩) hS.2.2 dX3_plain_124
          · skip
            have k16682 := iv_eq (X := w14823.toInt) (Y := (40)) rfl (by decide) c15836
            refine lv_aload_n hx hb dX3_plain_56 rfl (lv_at hl 2 rfl) ?_
            refine lv_iload_n hx hb dX3_plain_57 rfl (lv_at hl 3 rfl) ?_
            refine nx_i (As := [.int x1]) (rest := []) (n := 1) (d := (20 + 3 * k)) ⟨hx, hb, hml, hown, hts⟩ (henc h0 hG0 x1 ft fp fn TT p1 nc LL ZZ YY nk XX hTK dd (by first | decide | omega) (by omega) (by omega) fl hdp hpi (by omega)) wd_739 wd_741 wp_21 wd_5 wd_742 (by decide +kernel) ⟨by rw [hR]; show (20 + 3 * k) + 1 ≤ 21 + 3 * k; omega, by rw [hR]; show 8 + (3 + 11) + 40 * ((20 + 3 * k)) ≤ 40 * (21 + 3 * k); omega⟩ hI hN hK hS hG0 (⟨by omega, by omega, ⟨a14799, hf14800, hq14801, hA14802⟩, ⟨a14803, hf14804, hq14805, hA14806⟩, ⟨a14807, hf14808, hq14809, hA14810⟩, ⟨w14811, hg14812, by first | omega | decide⟩, ⟨w14814, hg14815, by first | omega | decide⟩, ⟨w14817, hg14818, by first | omega | decide⟩, by omega, ⟨w14820, hg14821, by first | omega | decide⟩, ⟨w14823, hg14824, by first | omega | decide⟩⟩) rfl hl.1 rfl (Nat.le_of_ble_eq_true rfl) dX3_plain_58 ⟨Nat.zero_le _, Nat.zero_le _⟩ (fun r16683 H locs hI hp hS => ?_)
            rcases hp with ⟨rfl, hp⟩ | ⟨rfl, hp⟩
            · skip
              try simp only [rg, not_and, Int.not_le] at hp
              have hp16684 := hp
              obtain ⟨pn16685, Ln16686, hE, k16687, hpd16688⟩ := hp16684
              have hp16684 : True := trivial
              obtain ⟨hT4, hn12, ⟨a16689, hf16690, hq16691, hA16692⟩, ⟨a16693, hf16694, hq16695, hA16696⟩, ⟨a16697, hf16698, hq16699, hA16700⟩, ⟨w16701, hg16702, k16703⟩, ⟨w16704, hg16705, k16706⟩, ⟨w16707, hg16708, k16709⟩, hpT, ⟨w16710, hg16711, k16712⟩, ⟨w16713, hg16714, k16715⟩⟩ := hE
              have k16716 := iv_lo w16707
              have k16717 := iv_hi w16707
              have k16718 := TK.at hTK hpT
              refine lv_istore_n (lv' := [(3, .int 1), (2, .int v14795), (0, .ref h0), (1, .int x1)]) hx hb dX3_plain_61 rfl hl (by decide) rfl (fun ls hl => ?_)
              refine lv_goto (tgt := 149) hx hb dX3_plain_62 (by decide) ?_
              refine lv_iload_n hx hb dX3_plain_149 rfl (lv_at hl 1 rfl) ?_
              refine lv_if_eq (tgt := 161) hx hb dX3_plain_150 (by decide) (fun c16719 => ?_) (fun c16719 => ?_)
              · skip
                have k16720 := iv_eq (X := v14795.toInt) (Y := (0)) rfl (by decide) c16719
                refine lv_iload_n hx hb dX3_plain_161 rfl (lv_at hl 0 rfl) ?_
                have hpost : ((1 : Int32) = 1 ∧ ∃ p2 L2 : Nat, RC E D G h0 ft fp fn TT p2 nc L2 H ∧ pp + 1 ≤ p2 ∧ pd_R ZZ YY TT (4, fl, nk, L2) p2 = XX) ∨ ((1 : Int32) = 0 ∧ ∃ p2 L2 : Nat, RC E D G h0 ft fp fn TT p2 nc L2 H ∧ pp ≤ p2 ∧ XX = (p2, false)) := Or.inl ⟨rfl, pn16685, Ln16686, ⟨by omega, by omega, ⟨a16689, hf16690, hq16691, hA16692⟩, ⟨a16693, hf16694, hq16695, hA16696⟩, ⟨a16697, hf16698, hq16699, hA16700⟩, ⟨w16701, hg16702, by first | omega | decide⟩, ⟨w16704, hg16705, by first | omega | decide⟩, ⟨w16707, hg16708, by first | omega | decide⟩, by omega, ⟨w16710, hg16711, by first | omega | decide⟩, ⟨w16713, hg16714, by first | omega | decide⟩⟩, by omega, hpd16688⟩
                rw [hQ]
                exact W.zret (v := 1) hx hb hr (by decide) (fun t ht hW => ⟨⟨1, 1, rfl, rfl, ⟨by rw [ht]; exact hI, hN.warm hW, va_K.moved hW.alike hK⟩, by first | (rw [ht]; exact hpost) | exact hpost⟩, hS.F ht⟩) hS.2.2 dX3_plain_162
              · skip
                have k16721 := iv_ne (X := v14795.toInt) (Y := (0)) rfl (by decide) c16719
                refine lv_aload_n hx hb dX3_plain_153 rfl (lv_at hl 2 rfl) ?_
                refine lv_bipush (v := 10) hx hb dX3_plain_154 (by decide) ?_
                refine lv_iconst (v := 0) hx hb dX3_plain_156 (by decide) ?_
                refine nx_i (As := [.int 10, .int 0]) (rest := []) (n := 2) (d := 0) ⟨hx, hb, hml, hown, hts⟩ (c_X3_emit l E D G h0 hG0 10 0 ft fp fn TT pn16685 nc Ln16686) wd_723 wd_725 wp_17 wd_5 wd_726 (by decide +kernel) ⟨by rw [hR]; show 0 + 1 ≤ 21 + 3 * k; omega, by rw [hR]; show 8 + (3 + 11) + 40 * (0) ≤ 40 * (21 + 3 * k); omega⟩ hI hN hK hS hG0 (⟨by omega, by omega, ⟨a16689, hf16690, hq16691, hA16692⟩, ⟨a16693, hf16694, hq16695, hA16696⟩, ⟨a16697, hf16698, hq16699, hA16700⟩, ⟨w16701, hg16702, by first | omega | decide⟩, ⟨w16704, hg16705, by first | omega | decide⟩, ⟨w16707, hg16708, by first | omega | decide⟩, by omega, ⟨w16710, hg16711, by first | omega | decide⟩, ⟨w16713, hg16714, by first | omega | decide⟩⟩) rfl hl.1 rfl (Nat.le_of_ble_eq_true rfl) dX3_plain_157 ⟨Nat.zero_le _, Nat.zero_le _⟩ (fun r16722 H locs hI hp hS => ?_)
                obtain ⟨hT4, hn12, ⟨a16723, hf16724, hq16725, hA16726⟩, ⟨a16727, hf16728, hq16729, hA16730⟩, ⟨a16731, hf16732, hq16733, hA16734⟩, ⟨w16735, hg16736, k16737⟩, ⟨w16738, hg16739, k16740⟩, ⟨w16741, hg16742, k16743⟩, hpT, ⟨w16744, hg16745, k16746⟩, ⟨w16747, hg16748, k16749⟩⟩ := hp
                have k16750 := iv_lo w16741
                have k16751 := iv_hi w16741
                have k16752 := TK.at hTK hpT
                refine lv_pop hx hb dX3_plain_160 rfl ?_
                refine lv_iload_n hx hb dX3_plain_161 rfl (lv_at hl 0 rfl) ?_
                have hpost : ((1 : Int32) = 1 ∧ ∃ p2 L2 : Nat, RC E D G h0 ft fp fn TT p2 nc L2 H ∧ pp + 1 ≤ p2 ∧ pd_R ZZ YY TT (4, fl, nk, L2) p2 = XX) ∨ ((1 : Int32) = 0 ∧ ∃ p2 L2 : Nat, RC E D G h0 ft fp fn TT p2 nc L2 H ∧ pp ≤ p2 ∧ XX = (p2, false)) := Or.inl ⟨rfl, pn16685, Ln16686, ⟨by omega, by omega, ⟨a16723, hf16724, hq16725, hA16726⟩, ⟨a16727, hf16728, hq16729, hA16730⟩, ⟨a16731, hf16732, hq16733, hA16734⟩, ⟨w16735, hg16736, by first | omega | decide⟩, ⟨w16738, hg16739, by first | omega | decide⟩, ⟨w16741, hg16742, by first | omega | decide⟩, by omega, ⟨w16744, hg16745, by first | omega | decide⟩, ⟨w16747, hg16748, by first | omega | decide⟩⟩, by omega, hpd16688⟩
                rw [hQ]
                exact W.zret (v := 1) hx hb hr (by decide) (fun t ht hW => ⟨⟨1, 1, rfl, rfl, ⟨by rw [ht]; exact hI, hN.warm hW, va_K.moved hW.alike hK⟩, by first | (rw [ht]; exact hpost) | exact hpost⟩, hS.F ht⟩) hS.2.2 dX3_plain_162
            · skip
              try simp only [rg, not_and, Int.not_le] at hp
              have hp16753 := hp
              obtain ⟨pn16754, Ln16755, hE, k16756, hfl16757⟩ := hp16753
              have hp16753 : True := trivial
              obtain ⟨hT4, hn12, ⟨a16758, hf16759, hq16760, hA16761⟩, ⟨a16762, hf16763, hq16764, hA16765⟩, ⟨a16766, hf16767, hq16768, hA16769⟩, ⟨w16770, hg16771, k16772⟩, ⟨w16773, hg16774, k16775⟩, ⟨w16776, hg16777, k16778⟩, hpT, ⟨w16779, hg16780, k16781⟩, ⟨w16782, hg16783, k16784⟩⟩ := hE
              have k16785 := iv_lo w16776
              have k16786 := iv_hi w16776
              have k16787 := TK.at hTK hpT
              refine lv_istore_n (lv' := [(3, .int 0), (2, .int v14795), (0, .ref h0), (1, .int x1)]) hx hb dX3_plain_61 rfl hl (by decide) rfl (fun ls hl => ?_)
              refine lv_goto (tgt := 149) hx hb dX3_plain_62 (by decide) ?_
              refine lv_iload_n hx hb dX3_plain_149 rfl (lv_at hl 1 rfl) ?_
              refine lv_if_eq (tgt := 161) hx hb dX3_plain_150 (by decide) (fun c16788 => ?_) (fun c16788 => ?_)
              · skip
                have k16789 := iv_eq (X := v14795.toInt) (Y := (0)) rfl (by decide) c16788
                refine lv_iload_n hx hb dX3_plain_161 rfl (lv_at hl 0 rfl) ?_
                have hpost : ((0 : Int32) = 1 ∧ ∃ p2 L2 : Nat, RC E D G h0 ft fp fn TT p2 nc L2 H ∧ pp + 1 ≤ p2 ∧ pd_R ZZ YY TT (4, fl, nk, L2) p2 = XX) ∨ ((0 : Int32) = 0 ∧ ∃ p2 L2 : Nat, RC E D G h0 ft fp fn TT p2 nc L2 H ∧ pp ≤ p2 ∧ XX = (p2, false)) := Or.inr ⟨rfl, pn16754, Ln16755, ⟨by omega, by omega, ⟨a16758, hf16759, hq16760, hA16761⟩, ⟨a16762, hf16763, hq16764, hA16765⟩, ⟨a16766, hf16767, hq16768, hA16769⟩, ⟨w16770, hg16771, by first | omega | decide⟩, ⟨w16773, hg16774, by first | omega | decide⟩, ⟨w16776, hg16777, by first | omega | decide⟩, by omega, ⟨w16779, hg16780, by first | omega | decide⟩, ⟨w16782, hg16783, by first | omega | decide⟩⟩, by omega, hfl16757⟩
                rw [hQ]
                exact W.zret (v := 0) hx hb hr (by decide) (fun t ht hW => ⟨⟨0, 0, rfl, rfl, ⟨by rw [ht]; exact hI, hN.warm hW, va_K.moved hW.alike hK⟩, by first | (rw [ht]; exact hpost) | exact hpost⟩, hS.F ht⟩) hS.2.2 dX3_plain_162
              · skip
                have k16790 := iv_ne (X := v14795.toInt) (Y := (0)) rfl (by decide) c16788
                refine lv_aload_n hx hb dX3_plain_153 rfl (lv_at hl 2 rfl) ?_
                refine lv_bipush (v := 10) hx hb dX3_plain_154 (by decide) ?_
                refine lv_iconst (v := 0) hx hb dX3_plain_156 (by decide) ?_
                refine nx_i (As := [.int 10, .int 0]) (rest := []) (n := 2) (d := 0) ⟨hx, hb, hml, hown, hts⟩ (c_X3_emit l E D G h0 hG0 10 0 ft fp fn TT pn16754 nc Ln16755) wd_723 wd_725 wp_17 wd_5 wd_726 (by decide +kernel) ⟨by rw [hR]; show 0 + 1 ≤ 21 + 3 * k; omega, by rw [hR]; show 8 + (3 + 11) + 40 * (0) ≤ 40 * (21 + 3 * k); omega⟩ hI hN hK hS hG0 (⟨by omega, by omega, ⟨a16758, hf16759, hq16760, hA16761⟩, ⟨a16762, hf16763, hq16764, hA16765⟩, ⟨a16766, hf16767, hq16768, hA16769⟩, ⟨w16770, hg16771, by first | omega | decide⟩, ⟨w16773, hg16774, by first | omega | decide⟩, ⟨w16776, hg16777, by first | omega | decide⟩, by omega, ⟨w16779, hg16780, by first | omega | decide⟩, ⟨w16782, hg16783, by first | omega | decide⟩⟩) rfl hl.1 rfl (Nat.le_of_ble_eq_true rfl) dX3_plain_157 ⟨Nat.zero_le _, Nat.zero_le _⟩ (fun r16791 H locs hI hp hS => ?_)
                obtain ⟨hT4, hn12, ⟨a16792, hf16793, hq16794, hA16795⟩, ⟨a16796, hf16797, hq16798, hA16799⟩, ⟨a16800, hf16801, hq16802, hA16803⟩, ⟨w16804, hg16805, k16806⟩, ⟨w16807, hg16808, k16809⟩, ⟨w16810, hg16811, k16812⟩, hpT, ⟨w16813, hg16814, k16815⟩, ⟨w16816, hg16817, k16818⟩⟩ := hp
                have k16819 := iv_lo w16810
                have k16820 := iv_hi w16810
                have k16821 := TK.at hTK hpT
                refine lv_pop hx hb dX3_plain_160 rfl ?_
                refine lv_iload_n hx hb dX3_plain_161 rfl (lv_at hl 0 rfl) ?_
                have hpost : ((0 : Int32) = 1 ∧ ∃ p2 L2 : Nat, RC E D G h0 ft fp fn TT p2 nc L2 H ∧ pp + 1 ≤ p2 ∧ pd_R ZZ YY TT (4, fl, nk, L2) p2 = XX) ∨ ((0 : Int32) = 0 ∧ ∃ p2 L2 : Nat, RC E D G h0 ft fp fn TT p2 nc L2 H ∧ pp ≤ p2 ∧ XX = (p2, false)) := Or.inr ⟨rfl, pn16754, Ln16755, ⟨by omega, by omega, ⟨a16792, hf16793, hq16794, hA16795⟩, ⟨a16796, hf16797, hq16798, hA16799⟩, ⟨a16800, hf16801, hq16802, hA16803⟩, ⟨w16804, hg16805, by first | omega | decide⟩, ⟨w16807, hg16808, by first | omega | decide⟩, ⟨w16810, hg16811, by first | omega | decide⟩, by omega, ⟨w16813, hg16814, by first | omega | decide⟩, ⟨w16816, hg16817, by first | omega | decide⟩⟩, by omega, hfl16757⟩
                rw [hQ]
                exact W.zret (v := 0) hx hb hr (by decide) (fun t ht hW => ⟨⟨0, 0, rfl, rfl, ⟨by rw [ht]; exact hI, hN.warm hW, va_K.moved hW.alike hK⟩, by first | (rw [ht]; exact hpost) | exact hpost⟩, hS.F ht⟩) hS.2.2 dX3_plain_162
        · skip
          have k16822 := iv_eq (X := w14823.toInt) (Y := (263)) rfl (by decide) c15830
          refine lv_iload_n hx hb dX3_plain_21 rfl (lv_at hl 1 rfl) ?_
          refine lv_if_ne (tgt := 29) hx hb dX3_plain_22 (by decide) (fun c16823 => ?_) (fun c16823 => ?_)
          · skip
            have k16824 := iv_ne (X := v14795.toInt) (Y := (0)) rfl (by decide) c16823
            refine lv_iconst (v := 0) hx hb dX3_plain_29 (by decide) ?_
            refine lv_istore_n (lv' := [(2, .int 0), (3, .int v14794), (0, .ref h0), (1, .int x1)]) hx hb dX3_plain_30 rfl hl (by decide) rfl (fun ls hl => ?_)
            refine lv_aload_n hx hb dX3_plain_31 rfl (lv_at hl 2 rfl) ?_
            refine lv_aload_n hx hb dX3_plain_32 rfl (lv_at hl 2 rfl) ?_
            refine gmIC hx hb hts inT3 hown hK hI List.not_mem_nil hG0 10 (by decide) (hts _ (tb_c wd_139)) rfl rfl dX3_plain_33 (fun w16825 hg16826 k16827 k16828 => ?_)
            obtain rfl := gfC.uniq (by decide) hg14821 hg16826
            refine lv_iconst (v := 1) hx hb dX3_plain_36 (by decide) ?_
            refine lv_iadd hx hb dX3_plain_37 ?_
            refine lv_topi (fun v16829 e16830 => ?_)
            have tv16829 : v16829.toInt = w14820.toInt + (1) := iv_add rfl (by decide) e16830 (by omega) (by omega)
            have hpd16831 : pd_R ZZ YY TT (3, fl, nk, LL) (p1 + 1) = XX := (pd_Q_nt (by omega) (by omega)).symm.trans hpi
            refine nx_v (As := [.int v16829]) (rest := []) (n := 1) (d := 0) ⟨hx, hb, hml, hown, hts⟩ (c_X3_moveTo l E D G h0 hG0 v16829 ft fp fn TT (p1 + 1) nc LL (by first | omega | decide) (by omega)) wd_707 wd_709 wp_13 wd_5 wd_710 (by decide +kernel) ⟨by rw [hR]; show 0 + 1 ≤ 21 + 3 * k; omega, by rw [hR]; show 8 + (2 + 11) + 40 * (0) ≤ 40 * (21 + 3 * k); omega⟩ hI hN hK hS hG0 (⟨by omega, by omega, ⟨a14799, hf14800, hq14801, hA14802⟩, ⟨a14803, hf14804, hq14805, hA14806⟩, ⟨a14807, hf14808, hq14809, hA14810⟩, ⟨w14811, hg14812, by first | omega | decide⟩, ⟨w14814, hg14815, by first | omega | decide⟩, ⟨w14817, hg14818, by first | omega | decide⟩⟩) rfl hl.1 rfl (Nat.le_of_ble_eq_true rfl) dX3_plain_38 ⟨Nat.zero_le _, Nat.zero_le _⟩ (fun H locs hI hp hS => ?_)
            obtain ⟨hT4, hn12, ⟨a16833, hf16834, hq16835, hA16836⟩, ⟨a16837, hf16838, hq16839, hA16840⟩, ⟨a16841, hf16842, hq16843, hA16844⟩, ⟨w16845, hg16846, k16847⟩, ⟨w16848, hg16849, k16850⟩, ⟨w16851, hg16852, k16853⟩, hpT, ⟨w16854, hg16855, k16856⟩, ⟨w16857, hg16858, k16859⟩⟩ := hp
            have k16860 := iv_lo w16851
            have k16861 := iv_hi w16851
            have k16862 := TK.at hTK hpT
            obtain ⟨v16863, e16864⟩ : ∃ y : Int32, y = v14794 + (1) := ⟨_, rfl⟩
            have tv16863 : v16863.toInt = v14794.toInt + (1) := iv_add rfl (by decide) e16864 (by omega) (by omega)
            refine lv_iinc (v := v16863) (lv' := [(3, .int v16863), (2, .int 0), (0, .ref h0), (1, .int x1)]) hx hb dX3_plain_41 hl (k := 1) rfl (by rw [e16864]; rfl) (by decide) rfl (fun ls hl => ?_)
            refine lv_goto (tgt := 4) hx hb dX3_plain_44 (by decide) ?_
            exact ih_4 _ (by omega) H locs ls v16863 0 (p1 + 1) rfl (lv_sub hl [0, 1, 2, 3] rfl) ⟨by omega, by omega⟩ ⟨by decide, by decide⟩ ⟨by omega, by omega⟩ (by omega) (by first | omega | (rw [show (0 : Int32).toInt = 0 from by decide]; omega)) (hpd16831) (⟨by omega, by omega, ⟨a16833, hf16834, hq16835, hA16836⟩, ⟨a16837, hf16838, hq16839, hA16840⟩, ⟨a16841, hf16842, hq16843, hA16844⟩, ⟨w16845, hg16846, by first | omega | decide⟩, ⟨w16848, hg16849, by first | omega | decide⟩, ⟨w16851, hg16852, by first | omega | decide⟩, by omega, ⟨w16854, hg16855, by first | omega | decide⟩, ⟨w16857, hg16858, by first | omega | decide⟩⟩) hI hS
          · skip
            have k16865 := iv_eq (X := v14795.toInt) (Y := (0)) rfl (by decide) c16823
            refine lv_iconst (v := 1) hx hb dX3_plain_25 (by decide) ?_
            refine lv_goto (tgt := 30) hx hb dX3_plain_26 (by decide) ?_
            refine lv_istore_n (lv' := [(2, .int 1), (3, .int v14794), (0, .ref h0), (1, .int x1)]) hx hb dX3_plain_30 rfl hl (by decide) rfl (fun ls hl => ?_)
            refine lv_aload_n hx hb dX3_plain_31 rfl (lv_at hl 2 rfl) ?_
            refine lv_aload_n hx hb dX3_plain_32 rfl (lv_at hl 2 rfl) ?_
            refine gmIC hx hb hts inT3 hown hK hI List.not_mem_nil hG0 10 (by decide) (hts _ (tb_c wd_139)) rfl rfl dX3_plain_33 (fun w16866 hg16867 k16868 k16869 => ?_)
            obtain rfl := gfC.uniq (by decide) hg14821 hg16867
            refine lv_iconst (v := 1) hx hb dX3_plain_36 (by decide) ?_
            refine lv_iadd hx hb dX3_plain_37 ?_
            refine lv_topi (fun v16870 e16871 => ?_)
            have tv16870 : v16870.toInt = w14820.toInt + (1) := iv_add rfl (by decide) e16871 (by omega) (by omega)
            have hpd16872 : pd_R ZZ YY TT (3, fl, nk, LL) (p1 + 1) = XX := (pd_Q_nt (by omega) (by omega)).symm.trans hpi
            refine nx_v (As := [.int v16870]) (rest := []) (n := 1) (d := 0) ⟨hx, hb, hml, hown, hts⟩ (c_X3_moveTo l E D G h0 hG0 v16870 ft fp fn TT (p1 + 1) nc LL (by first | omega | decide) (by omega)) wd_707 wd_709 wp_13 wd_5 wd_710 (by decide +kernel) ⟨by rw [hR]; show 0 + 1 ≤ 21 + 3 * k; omega, by rw [hR]; show 8 + (2 + 11) + 40 * (0) ≤ 40 * (21 + 3 * k); omega⟩ hI hN hK hS hG0 (⟨by omega, by omega, ⟨a14799, hf14800, hq14801, hA14802⟩, ⟨a14803, hf14804, hq14805, hA14806⟩, ⟨a14807, hf14808, hq14809, hA14810⟩, ⟨w14811, hg14812, by first | omega | decide⟩, ⟨w14814, hg14815, by first | omega | decide⟩, ⟨w14817, hg14818, by first | omega | decide⟩⟩) rfl hl.1 rfl (Nat.le_of_ble_eq_true rfl) dX3_plain_38 ⟨Nat.zero_le _, Nat.zero_le _⟩ (fun H locs hI hp hS => ?_)
            obtain ⟨hT4, hn12, ⟨a16874, hf16875, hq16876, hA16877⟩, ⟨a16878, hf16879, hq16880, hA16881⟩, ⟨a16882, hf16883, hq16884, hA16885⟩, ⟨w16886, hg16887, k16888⟩, ⟨w16889, hg16890, k16891⟩, ⟨w16892, hg16893, k16894⟩, hpT, ⟨w16895, hg16896, k16897⟩, ⟨w16898, hg16899, k16900⟩⟩ := hp
            have k16901 := iv_lo w16892
            have k16902 := iv_hi w16892
            have k16903 := TK.at hTK hpT
            obtain ⟨v16904, e16905⟩ : ∃ y : Int32, y = v14794 + (1) := ⟨_, rfl⟩
            have tv16904 : v16904.toInt = v14794.toInt + (1) := iv_add rfl (by decide) e16905 (by omega) (by omega)
            refine lv_iinc (v := v16904) (lv' := [(3, .int v16904), (2, .int 1), (0, .ref h0), (1, .int x1)]) hx hb dX3_plain_41 hl (k := 1) rfl (by rw [e16905]; rfl) (by decide) rfl (fun ls hl => ?_)
            refine lv_goto (tgt := 4) hx hb dX3_plain_44 (by decide) ?_
            exact ih_4 _ (by omega) H locs ls v16904 1 (p1 + 1) rfl (lv_sub hl [0, 1, 2, 3] rfl) ⟨by omega, by omega⟩ ⟨by decide, by decide⟩ ⟨by omega, by omega⟩ (by omega) (by first | omega | (rw [show (0 : Int32).toInt = 0 from by decide]; omega)) (hpd16872) (⟨by omega, by omega, ⟨a16874, hf16875, hq16876, hA16877⟩, ⟨a16878, hf16879, hq16880, hA16881⟩, ⟨a16882, hf16883, hq16884, hA16885⟩, ⟨w16886, hg16887, by first | omega | decide⟩, ⟨w16889, hg16890, by first | omega | decide⟩, ⟨w16892, hg16893, by first | omega | decide⟩, by omega, ⟨w16895, hg16896, by first | omega | decide⟩, ⟨w16898, hg16899, by first | omega | decide⟩⟩) hI hS
  refine lv_iconst (v := 0) hx hb dX3_plain_0 (by decide) ?_
  refine lv_istore_n (lv' := [(2, .int 0), (0, .ref h0), (1, .int x1)]) hx hb dX3_plain_1 rfl hl (by decide) rfl (fun ls hl => ?_)
  refine lv_iconst (v := 0) hx hb dX3_plain_2 (by decide) ?_
  refine lv_istore_n (lv' := [(3, .int 0), (2, .int 0), (0, .ref h0), (1, .int x1)]) hx hb dX3_plain_3 rfl hl (by decide) rfl (fun ls hl => ?_)
  have zl : (0 : Int32).toInt = 0 := by decide
  exact J_4 _ s.heap [] ls 0 0 pp rfl (lv_sub hl [0, 1, 2, 3] rfl) ⟨by decide, by decide⟩ ⟨by decide, by decide⟩ ⟨by omega, by omega⟩ (by omega) (by first | omega | (rw [show (0 : Int32).toInt = 0 from by decide]; omega)) (hpd) (⟨by omega, by omega, ⟨a1, hf2, hq3, hA4⟩, ⟨a5, hf6, hq7, hA8⟩, ⟨a9, hf10, hq11, hA12⟩, ⟨w13, hg14, by first | omega | decide⟩, ⟨w16, hg17, by first | omega | decide⟩, ⟨w19, hg20, by first | omega | decide⟩, by omega, ⟨w22, hg23, by first | omega | decide⟩, ⟨w25, hg26, by first | omega | decide⟩⟩) hI hS
theorem dX3_test_0 : decode cX3_test 0 = .ok (.iconst (-1), 1) := by decide +kernel
theorem dX3_test_1 : decode cX3_test 1 = .ok (.istore_n 2, 1) := by decide +kernel
theorem dX3_test_2 : decode cX3_test 2 = .ok (.aload_n 0, 1) := by decide +kernel
theorem dX3_test_3 : decode cX3_test 3 = .ok (.iload_n 1, 1) := by decide +kernel
theorem dX3_test_4 : decode cX3_test 4 = .ok (.invokevirtual 103, 3) := by decide +kernel
theorem dX3_test_7 : decode cX3_test 7 = .ok (.istore_n 3, 1) := by decide +kernel
theorem dX3_test_8 : decode cX3_test 8 = .ok (.iconst 0, 1) := by decide +kernel
theorem dX3_test_9 : decode cX3_test 9 = .ok (.istore 4, 2) := by decide +kernel
theorem dX3_test_11 : decode cX3_test 11 = .ok (.iload 4, 2) := by decide +kernel
theorem dX3_test_13 : decode cX3_test 13 = .ok (.sipush 400, 3) := by decide +kernel
theorem dX3_test_16 : decode cX3_test 16 = .ok (.if_icmp .ge 112, 3) := by decide +kernel
theorem dX3_test_19 : decode cX3_test 19 = .ok (.iload_n 3, 1) := by decide +kernel
theorem dX3_test_20 : decode cX3_test 20 = .ok (.ifCond .eq 108, 3) := by decide +kernel
theorem dX3_test_23 : decode cX3_test 23 = .ok (.aload_n 0, 1) := by decide +kernel
theorem dX3_test_24 : decode cX3_test 24 = .ok (.getfield 46, 3) := by decide +kernel
theorem dX3_test_27 : decode cX3_test 27 = .ok (.sipush 261, 3) := by decide +kernel
theorem dX3_test_30 : decode cX3_test 30 = .ok (.if_icmp .eq 13, 3) := by decide +kernel
theorem dX3_test_33 : decode cX3_test 33 = .ok (.aload_n 0, 1) := by decide +kernel
theorem dX3_test_34 : decode cX3_test 34 = .ok (.getfield 46, 3) := by decide +kernel
theorem dX3_test_37 : decode cX3_test 37 = .ok (.sipush 262, 3) := by decide +kernel
theorem dX3_test_40 : decode cX3_test 40 = .ok (.if_icmp .ne 88, 3) := by decide +kernel
theorem dX3_test_43 : decode cX3_test 43 = .ok (.aload_n 0, 1) := by decide +kernel
theorem dX3_test_44 : decode cX3_test 44 = .ok (.getfield 46, 3) := by decide +kernel
theorem dX3_test_47 : decode cX3_test 47 = .ok (.sipush 261, 3) := by decide +kernel
theorem dX3_test_50 : decode cX3_test 50 = .ok (.if_icmp .ne 7, 3) := by decide +kernel
theorem dX3_test_53 : decode cX3_test 53 = .ok (.iconst 1, 1) := by decide +kernel
theorem dX3_test_54 : decode cX3_test 54 = .ok (.goto 4, 3) := by decide +kernel
theorem dX3_test_57 : decode cX3_test 57 = .ok (.iconst 0, 1) := by decide +kernel
theorem dX3_test_58 : decode cX3_test 58 = .ok (.istore 5, 2) := by decide +kernel
theorem dX3_test_60 : decode cX3_test 60 = .ok (.iload 5, 2) := by decide +kernel
theorem dX3_test_62 : decode cX3_test 62 = .ok (.ifCond .eq 8, 3) := by decide +kernel
theorem dX3_test_65 : decode cX3_test 65 = .ok (.aload_n 0, 1) := by decide +kernel
theorem dX3_test_66 : decode cX3_test 66 = .ok (.iload_n 2, 1) := by decide +kernel
theorem dX3_test_67 : decode cX3_test 67 = .ok (.invokevirtual 106, 3) := by decide +kernel
theorem dX3_test_70 : decode cX3_test 70 = .ok (.aload_n 0, 1) := by decide +kernel
theorem dX3_test_71 : decode cX3_test 71 = .ok (.iload 5, 2) := by decide +kernel
theorem dX3_test_73 : decode cX3_test 73 = .ok (.ifCond .eq 8, 3) := by decide +kernel
theorem dX3_test_76 : decode cX3_test 76 = .ok (.bipush 11, 2) := by decide +kernel
theorem dX3_test_78 : decode cX3_test 78 = .ok (.goto 5, 3) := by decide +kernel
theorem dX3_test_81 : decode cX3_test 81 = .ok (.bipush 12, 2) := by decide +kernel
theorem dX3_test_83 : decode cX3_test 83 = .ok (.iconst 0, 1) := by decide +kernel
theorem dX3_test_84 : decode cX3_test 84 = .ok (.invokevirtual 109, 3) := by decide +kernel
theorem dX3_test_87 : decode cX3_test 87 = .ok (.istore 6, 2) := by decide +kernel
theorem dX3_test_89 : decode cX3_test 89 = .ok (.aload_n 0, 1) := by decide +kernel
theorem dX3_test_90 : decode cX3_test 90 = .ok (.aload_n 0, 1) := by decide +kernel
theorem dX3_test_91 : decode cX3_test 91 = .ok (.getfield 43, 3) := by decide +kernel
theorem dX3_test_94 : decode cX3_test 94 = .ok (.iconst 1, 1) := by decide +kernel
theorem dX3_test_95 : decode cX3_test 95 = .ok (.iadd, 1) := by decide +kernel
theorem dX3_test_96 : decode cX3_test 96 = .ok (.invokevirtual 66, 3) := by decide +kernel
theorem dX3_test_99 : decode cX3_test 99 = .ok (.aload_n 0, 1) := by decide +kernel
theorem dX3_test_100 : decode cX3_test 100 = .ok (.iload_n 1, 1) := by decide +kernel
theorem dX3_test_101 : decode cX3_test 101 = .ok (.invokevirtual 103, 3) := by decide +kernel
theorem dX3_test_104 : decode cX3_test 104 = .ok (.istore_n 3, 1) := by decide +kernel
theorem dX3_test_105 : decode cX3_test 105 = .ok (.iload 5, 2) := by decide +kernel
theorem dX3_test_107 : decode cX3_test 107 = .ok (.ifCond .eq 9, 3) := by decide +kernel
theorem dX3_test_110 : decode cX3_test 110 = .ok (.iload 6, 2) := by decide +kernel
theorem dX3_test_112 : decode cX3_test 112 = .ok (.istore_n 2, 1) := by decide +kernel
theorem dX3_test_113 : decode cX3_test 113 = .ok (.goto 9, 3) := by decide +kernel
theorem dX3_test_116 : decode cX3_test 116 = .ok (.aload_n 0, 1) := by decide +kernel
theorem dX3_test_117 : decode cX3_test 117 = .ok (.iload 6, 2) := by decide +kernel
theorem dX3_test_119 : decode cX3_test 119 = .ok (.invokevirtual 106, 3) := by decide +kernel
theorem dX3_test_122 : decode cX3_test 122 = .ok (.iinc 4 1, 3) := by decide +kernel
theorem dX3_test_125 : decode cX3_test 125 = .ok (.goto (-114), 3) := by decide +kernel
theorem dX3_test_128 : decode cX3_test 128 = .ok (.aload_n 0, 1) := by decide +kernel
theorem dX3_test_129 : decode cX3_test 129 = .ok (.iload_n 2, 1) := by decide +kernel
theorem dX3_test_130 : decode cX3_test 130 = .ok (.invokevirtual 106, 3) := by decide +kernel
theorem dX3_test_133 : decode cX3_test 133 = .ok (.iload_n 3, 1) := by decide +kernel
theorem dX3_test_134 : decode cX3_test 134 = .ok (.ireturn, 1) := by decide +kernel
set_option maxHeartbeats 4000000 in
set_option maxRecDepth 100000 in
theorem c_X3_test (l : Launch) (E : Nat → Nat) (D : va_G) (G : th_G) (k : Nat) (h0 : Nat) (hG0 : G h0 = some (7, 12)) (x1 : Int32) (ft fp fn : Nat → Int32) (TT pp nc LL : Nat) (ZZ : Nat → Int) (YY : Nat → Bool) (nk : Nat) (XX : Nat × Bool) (hTK : TK ft fn TT ZZ YY) (dd : Nat) (hdd : x1.toInt = (dd : Int)) (hd8 : dd ≤ 8) (hk : 8 ≤ dd + k) (tl : Nat) (fl : List Nat) (ht45 : tl = 4 ∨ tl = 5) (hdp : pd_dp (tl :: fl) = dd) (hpd : pd_R ZZ YY TT (3, tl :: fl, nk, LL) pp = XX) (hplain : ∀ (h0 : Nat) (hG0 : G h0 = some (7, 12)) (x1 : Int32) (ft fp fn : Nat → Int32) (TT pp nc LL : Nat) (ZZ : Nat → Int) (YY : Nat → Bool) (nk : Nat) (XX : Nat × Bool) (hTK : TK ft fn TT ZZ YY) (dd : Nat) (hdd : x1.toInt = (dd : Int)) (hd8 : dd ≤ 8) (hk : 8 ≤ dd + k) (fl : List Nat) (hdp : pd_dp (fl) = dd) (hpd : pd_R ZZ YY TT (3, fl, nk, LL) pp = XX), Met l yX3_plain (tb (.code yX3_plain cX3_plain 5 (some .boolean))) (rm (21 + 3 * k)) (va_Pc [.ref h0, .int x1] (PCx E D G (fun H => RC E D G h0 ft fp fn TT pp nc LL H))) (QCi E D G (fun r H => ((r : Int32) = 1 ∧ ∃ p2 L2 : Nat, RC E D G h0 ft fp fn TT p2 nc L2 H ∧ pp + 1 ≤ p2 ∧ pd_R ZZ YY TT (4, fl, nk, L2) p2 = XX) ∨ ((r : Int32) = 0 ∧ ∃ p2 L2 : Nat, RC E D G h0 ft fp fn TT p2 nc L2 H ∧ pp ≤ p2 ∧ XX = (p2, false)))) 0 0 (th_A G)) : Met l yX3_test (tb (.code yX3_test cX3_test 7 (some .boolean))) (rm (22 + 3 * k)) (va_Pc [.ref h0, .int x1] (PCx E D G (fun H => RC E D G h0 ft fp fn TT pp nc LL H))) (QCi E D G (fun r H => ((r : Int32) = 1 ∧ ∃ p2 L2 : Nat, RC E D G h0 ft fp fn TT p2 nc L2 H ∧ pp + 1 ≤ p2 ∧ pd_R ZZ YY TT (4, tl :: fl, nk, L2) p2 = XX ∧ ((ft p2).toInt ≠ 261 ∧ (ft p2).toInt ≠ 262)) ∨ ((r : Int32) = 0 ∧ ∃ p2 L2 : Nat, RC E D G h0 ft fp fn TT p2 nc L2 H ∧ pp ≤ p2 ∧ XX = (p2, false)))) 0 0 (th_A G) := by
  refine Met.ofW (cc := cX3_test) (maxL := 7) (ret := (some .boolean)) (by decide) rfl ?_
  intro p e s m args below meth c s₁ B hml hv
  obtain ⟨hav, ⟨hI, hN, hK⟩, hX⟩ := hv
  have hx := B.exec
  have hb := B.bytes
  have hr := B.returns
  have hts := atoms_spec (ws := tb (.code yX3_test cX3_test 7 (some .boolean))) B.pre
  have hown : s.vm.findClass RX3 = some m.cls := findClass_of_methodNamed B.named
  have hlocks := B.notSynchronized
  have hS : va_S (th_A G) s.heap s.heap [] := va_S.rf
  have hl := lv_entry ([.ref h0, .int x1]) (n := 7) (Nat.le_of_ble_eq_true rfl)
  rw [show entryFrame m args 7 = entryFrame m ([.ref h0, .int x1] : List Value).toArray 7 from by rw [hav], lg_entry_eq]
  generalize (lg_sl ([.ref h0, .int x1]) ++ List.replicate (7 - (lg_sl ([.ref h0, .int x1])).length) Slot.unset).toArray = ls at hl ⊢
  have hl : lv_has ls 7 [(0, .ref h0), (1, .int x1)] := hl
  generalize hR : (headSpec (tb (.code yX3_test cX3_test 7 (some .boolean))) (rm (22 + 3 * k))).room = R
  have hR := hR.symm
  generalize hQ : MQ below (QCi E D G (fun r H => ((r : Int32) = 1 ∧ ∃ p2 L2 : Nat, RC E D G h0 ft fp fn TT p2 nc L2 H ∧ pp + 1 ≤ p2 ∧ pd_R ZZ YY TT (4, tl :: fl, nk, L2) p2 = XX ∧ ((ft p2).toInt ≠ 261 ∧ (ft p2).toInt ≠ 262)) ∨ ((r : Int32) = 0 ∧ ∃ p2 L2 : Nat, RC E D G h0 ft fp fn TT p2 nc L2 H ∧ pp ≤ p2 ∧ XX = (p2, false)))) args s 0 0 (th_A G) = QF
  have hQ := hQ.symm
  obtain ⟨hT4, hn12, ⟨a1, hf2, hq3, hA4⟩, ⟨a5, hf6, hq7, hA8⟩, ⟨a9, hf10, hq11, hA12⟩, ⟨w13, hg14, k15⟩, ⟨w16, hg17, k18⟩, ⟨w19, hg20, k21⟩, hpT, ⟨w22, hg23, k24⟩, ⟨w25, hg26, k27⟩⟩ := hX
  have k28 := iv_lo w19
  have k29 := iv_hi w19
  have k30 := TK.at hTK hpT
  have J_11 : ∀ (nn : Nat) (H : Heap) (locs : List Loc) (ls : Array Slot) (v5013 : Int32) (v5014 : Int32) (v5015 : Int32) (p1 : Nat) (L1 : Nat), (Int.toNat (400 - v5013.toInt) = nn) → lv_has ls 7 [(4, .int v5013), (3, .int v5014), (2, .int v5015), (0, .ref h0), (1, .int x1)] → ((0 : Int) ≤ v5013.toInt ∧ v5013.toInt ≤ 400) → ((0 : Int) ≤ v5014.toInt ∧ v5014.toInt ≤ 1) → ((0 : Int) ≤ x1.toInt ∧ x1.toInt ≤ 8) → (pp ≤ p1) → (v5013.toInt ≤ (p1 : Int)) → (SJ (v5014.toInt) (pd_R ZZ YY TT (4, tl :: fl, nk, L1) p1 = XX ∧ pp + 1 ≤ p1) (XX = (p1, false))) → (RC E D G h0 ft fp fn TT p1 nc L1 H) → th_I (okC E) D G [] H → va_S (th_A G) s.heap H locs → W p l e R s m args below meth c H locs 0 0 QF (F0 m 11 ls []) := by
    intro nn
    induction nn using Nat.strongRecOn with
    | ind nn ih_11 =>
      intro H locs ls v5013 v5014 v5015 p1 L1 hm hl k5016 k5017 k5018 hle1 hi1 hSJ hE hI hS
      obtain ⟨hT4, hn12, ⟨a5019, hf5020, hq5021, hA5022⟩, ⟨a5023, hf5024, hq5025, hA5026⟩, ⟨a5027, hf5028, hq5029, hA5030⟩, ⟨w5031, hg5032, k5033⟩, ⟨w5034, hg5035, k5036⟩, ⟨w5037, hg5038, k5039⟩, hpT, ⟨w5040, hg5041, k5042⟩, ⟨w5043, hg5044, k5045⟩⟩ := hE
      have k5046 := iv_lo w5037
      have k5047 := iv_hi w5037
      have k5048 := TK.at hTK hpT
      refine lv_iload hx hb dX3_test_11 (lv_at hl 0 rfl) ?_
      refine lv_sipush (v := 400) hx hb dX3_test_13 (by decide) ?_
      refine lv_icmp_ge (tgt := 128) hx hb dX3_test_16 (by decide) (fun c5049 => ?_) (fun c5049 => ?_)
      · skip
        have k5050 := iv_le (X := (400)) (Y := v5013.toInt) (by decide) rfl c5049
        refine lv_aload_n hx hb dX3_test_128 rfl (lv_at hl 3 rfl) ?_
        refine lv_iload_n hx hb dX3_test_129 rfl (lv_at hl 2 rfl) ?_
        refine nx_v (As := [.int v5015]) (rest := []) (n := 1) (d := 0) ⟨hx, hb, hml, hown, hts⟩ (c_X3_aim l E D G h0 hG0 v5015 ft fp fn TT p1 nc L1) wd_743 wd_745 wp_22 wd_5 wd_746 (by decide +kernel) ⟨by rw [hR]; show 0 + 1 ≤ 22 + 3 * k; omega, by rw [hR]; show 8 + (2 + 11) + 40 * (0) ≤ 40 * (22 + 3 * k); omega⟩ hI hN hK hS hG0 (⟨by omega, by omega, ⟨a5019, hf5020, hq5021, hA5022⟩, ⟨a5023, hf5024, hq5025, hA5026⟩, ⟨a5027, hf5028, hq5029, hA5030⟩, ⟨w5031, hg5032, by first | omega | decide⟩, ⟨w5034, hg5035, by first | omega | decide⟩, ⟨w5037, hg5038, by first | omega | decide⟩, by omega, ⟨w5040, hg5041, by first | omega | decide⟩, ⟨w5043, hg5044, by first | omega | decide⟩⟩) rfl hl.1 rfl (Nat.le_of_ble_eq_true rfl) dX3_test_130 ⟨Nat.zero_le _, Nat.zero_le _⟩ (fun H locs hI hp hS => ?_)
        obtain ⟨hT4, hn12, ⟨a5052, hf5053, hq5054, hA5055⟩, ⟨a5056, hf5057, hq5058, hA5059⟩, ⟨a5060, hf5061, hq5062, hA5063⟩, ⟨w5064, hg5065, k5066⟩, ⟨w5067, hg5068, k5069⟩, ⟨w5070, hg5071, k5072⟩, hpT, ⟨w5073, hg5074, k5075⟩, ⟨w5076, hg5077, k5078⟩⟩ := hp
        have k5079 := iv_lo w5070
        have k5080 := iv_hi w5070
        have k5081 := TK.at hTK hpT
        refine lv_iload_n hx hb dX3_test_133 rfl (lv_at hl 1 rfl) ?_
        have hpost : ((v5014 : Int32) = 1 ∧ ∃ p2 L2 : Nat, RC E D G h0 ft fp fn TT p2 nc L2 H ∧ pp + 1 ≤ p2 ∧ pd_R ZZ YY TT (4, tl :: fl, nk, L2) p2 = XX ∧ ((ft p2).toInt ≠ 261 ∧ (ft p2).toInt ≠ 262)) ∨ ((v5014 : Int32) = 0 ∧ ∃ p2 L2 : Nat, RC E D G h0 ft fp fn TT p2 nc L2 H ∧ pp ≤ p2 ∧ XX = (p2, false)) := (SJ_out (C := (ft p1).toInt ≠ 261 ∧ (ft p1).toInt ≠ 262) hSJ (by first | exact Or.inl (by omega) | exact Or.inr ⟨by omega, by omega⟩)).elim (fun h => Or.inl ⟨i32_1 h.1, p1, L1, ⟨by omega, by omega, ⟨a5052, hf5053, hq5054, hA5055⟩, ⟨a5056, hf5057, hq5058, hA5059⟩, ⟨a5060, hf5061, hq5062, hA5063⟩, ⟨w5064, hg5065, by first | omega | decide⟩, ⟨w5067, hg5068, by first | omega | decide⟩, ⟨w5070, hg5071, by first | omega | decide⟩, by omega, ⟨w5073, hg5074, by first | omega | decide⟩, ⟨w5076, hg5077, by first | omega | decide⟩⟩, h.2.1.2, h.2.1.1, h.2.2⟩) (fun h => Or.inr ⟨i32_0 h.1, p1, L1, ⟨by omega, by omega, ⟨a5052, hf5053, hq5054, hA5055⟩, ⟨a5056, hf5057, hq5058, hA5059⟩, ⟨a5060, hf5061, hq5062, hA5063⟩, ⟨w5064, hg5065, by first | omega | decide⟩, ⟨w5067, hg5068, by first | omega | decide⟩, ⟨w5070, hg5071, by first | omega | decide⟩, by omega, ⟨w5073, hg5074, by first | omega | decide⟩, ⟨w5076, hg5077, by first | omega | decide⟩⟩, by omega, h.2⟩)
        rw [hQ]
        exact W.zret (v := v5014) hx hb hr (th_zn (by omega)) (fun t ht hW => ⟨⟨v5014, v5014, rfl, rfl, ⟨by rw [ht]; exact hI, hN.warm hW, va_K.moved hW.alike hK⟩, by first | (rw [ht]; exact hpost) | exact hpost⟩, hS.F ht⟩) hS.2.2 dX3_test_134
      · skip
        have k5082 := iv_nle (X := (400)) (Y := v5013.toInt) (by decide) rfl c5049
        refine lv_iload_n hx hb dX3_test_19 rfl (lv_at hl 1 rfl) ?_
        refine lv_if_eq (tgt := 128) hx hb dX3_test_20 (by decide) (fun c5083 => ?_) (fun c5083 => ?_)
        · skip
          have k5084 := iv_eq (X := v5014.toInt) (Y := (0)) rfl (by decide) c5083
          refine lv_aload_n hx hb dX3_test_128 rfl (lv_at hl 3 rfl) ?_
          refine lv_iload_n hx hb dX3_test_129 rfl (lv_at hl 2 rfl) ?_
          refine nx_v (As := [.int v5015]) (rest := []) (n := 1) (d := 0) ⟨hx, hb, hml, hown, hts⟩ (c_X3_aim l E D G h0 hG0 v5015 ft fp fn TT p1 nc L1) wd_743 wd_745 wp_22 wd_5 wd_746 (by decide +kernel) ⟨by rw [hR]; show 0 + 1 ≤ 22 + 3 * k; omega, by rw [hR]; show 8 + (2 + 11) + 40 * (0) ≤ 40 * (22 + 3 * k); omega⟩ hI hN hK hS hG0 (⟨by omega, by omega, ⟨a5019, hf5020, hq5021, hA5022⟩, ⟨a5023, hf5024, hq5025, hA5026⟩, ⟨a5027, hf5028, hq5029, hA5030⟩, ⟨w5031, hg5032, by first | omega | decide⟩, ⟨w5034, hg5035, by first | omega | decide⟩, ⟨w5037, hg5038, by first | omega | decide⟩, by omega, ⟨w5040, hg5041, by first | omega | decide⟩, ⟨w5043, hg5044, by first | omega | decide⟩⟩) rfl hl.1 rfl (Nat.le_of_ble_eq_true rfl) dX3_test_130 ⟨Nat.zero_le _, Nat.zero_le _⟩ (fun H locs hI hp hS => ?_)
          obtain ⟨hT4, hn12, ⟨a5086, hf5087, hq5088, hA5089⟩, ⟨a5090, hf5091, hq5092, hA5093⟩, ⟨a5094, hf5095, hq5096, hA5097⟩, ⟨w5098, hg5099, k5100⟩, ⟨w5101, hg5102, k5103⟩, ⟨w5104, hg5105, k5106⟩, hpT, ⟨w5107, hg5108, k5109⟩, ⟨w5110, hg5111, k5112⟩⟩ := hp
          have k5113 := iv_lo w5104
          have k5114 := iv_hi w5104
          have k5115 := TK.at hTK hpT
          refine lv_iload_n hx hb dX3_test_133 rfl (lv_at hl 1 rfl) ?_
          have hpost : ((v5014 : Int32) = 1 ∧ ∃ p2 L2 : Nat, RC E D G h0 ft fp fn TT p2 nc L2 H ∧ pp + 1 ≤ p2 ∧ pd_R ZZ YY TT (4, tl :: fl, nk, L2) p2 = XX ∧ ((ft p2).toInt ≠ 261 ∧ (ft p2).toInt ≠ 262)) ∨ ((v5014 : Int32) = 0 ∧ ∃ p2 L2 : Nat, RC E D G h0 ft fp fn TT p2 nc L2 H ∧ pp ≤ p2 ∧ XX = (p2, false)) := (SJ_out (C := (ft p1).toInt ≠ 261 ∧ (ft p1).toInt ≠ 262) hSJ (by first | exact Or.inl (by omega) | exact Or.inr ⟨by omega, by omega⟩)).elim (fun h => Or.inl ⟨i32_1 h.1, p1, L1, ⟨by omega, by omega, ⟨a5086, hf5087, hq5088, hA5089⟩, ⟨a5090, hf5091, hq5092, hA5093⟩, ⟨a5094, hf5095, hq5096, hA5097⟩, ⟨w5098, hg5099, by first | omega | decide⟩, ⟨w5101, hg5102, by first | omega | decide⟩, ⟨w5104, hg5105, by first | omega | decide⟩, by omega, ⟨w5107, hg5108, by first | omega | decide⟩, ⟨w5110, hg5111, by first | omega | decide⟩⟩, h.2.1.2, h.2.1.1, h.2.2⟩) (fun h => Or.inr ⟨i32_0 h.1, p1, L1, ⟨by omega, by omega, ⟨a5086, hf5087, hq5088, hA5089⟩, ⟨a5090, hf5091, hq5092, hA5093⟩, ⟨a5094, hf5095, hq5096, hA5097⟩, ⟨w5098, hg5099, by first | omega | decide⟩, ⟨w5101, hg5102, by first | omega | decide⟩, ⟨w5104, hg5105, by first | omega | decide⟩, by omega, ⟨w5107, hg5108, by first | omega | decide⟩, ⟨w5110, hg5111, by first | omega | decide⟩⟩, by omega, h.2⟩)
          rw [hQ]
          exact W.zret (v := v5014) hx hb hr (th_zn (by omega)) (fun t ht hW => ⟨⟨v5014, v5014, rfl, rfl, ⟨by rw [ht]; exact hI, hN.warm hW, va_K.moved hW.alike hK⟩, by first | (rw [ht]; exact hpost) | exact hpost⟩, hS.F ht⟩) hS.2.2 dX3_test_134
        · skip
          have k5116 := iv_ne (X := v5014.toInt) (Y := (0)) rfl (by decide) c5083
          refine lv_aload_n hx hb dX3_test_23 rfl (lv_at hl 3 rfl) ?_
          refine gmIC hx hb hts inT3 hown hK hI List.not_mem_nil hG0 11 (by decide) (hts _ (tb_c wd_140)) rfl rfl dX3_test_24 (fun w5117 hg5118 k5119 k5120 => ?_)
          obtain rfl := gfC.uniq (by decide) hg5044 hg5118
          refine lv_sipush (v := 261) hx hb dX3_test_27 (by decide) ?_
          have k5121 := iv_lo w5043
          have k5122 := iv_hi w5043
          refine lv_icmp_eq (tgt := 43) hx hb dX3_test_30 (by decide) (fun c5123 => ?_) (fun c5123 => ?_)
          · skip
            have k5124 := iv_eq (X := w5043.toInt) (Y := (261)) rfl (by decide) c5123
            refine lv_aload_n hx hb dX3_test_43 rfl (lv_at hl 3 rfl) ?_
            refine gmIC hx hb hts inT3 hown hK hI List.not_mem_nil hG0 11 (by decide) (hts _ (tb_c wd_140)) rfl rfl dX3_test_44 (fun w5125 hg5126 k5127 k5128 => ?_)
            obtain rfl := gfC.uniq (by decide) hg5044 hg5126
            refine lv_sipush (v := 261) hx hb dX3_test_47 (by decide) ?_
            refine lv_icmp_ne (tgt := 57) hx hb dX3_test_50 (by decide) (fun c5129 => ?_) (fun c5129 => ?_)
            · skip
              have k5130 := iv_ne (X := w5043.toInt) (Y := (261)) rfl (by decide) c5129
              exfalso; omega
            · skip
              have k5131 := iv_eq (X := w5043.toInt) (Y := (261)) rfl (by decide) c5129
              refine lv_iconst (v := 1) hx hb dX3_test_53 (by decide) ?_
              refine lv_goto (tgt := 58) hx hb dX3_test_54 (by decide) ?_
              refine lv_istore (lv' := [(5, .int 1), (4, .int v5013), (3, .int v5014), (2, .int v5015), (0, .ref h0), (1, .int x1)]) hx hb dX3_test_58 hl (by decide) rfl (fun ls hl => ?_)
              refine lv_iload hx hb dX3_test_60 (lv_at hl 0 rfl) ?_
              refine lv_if_eq (tgt := 70) hx hb dX3_test_62 (by decide) (fun c => absurd c (by decide)) (fun _ => ?_)
              refine lv_aload_n hx hb dX3_test_65 rfl (lv_at hl 4 rfl) ?_
              refine lv_iload_n hx hb dX3_test_66 rfl (lv_at hl 3 rfl) ?_
              refine nx_v (As := [.int v5015]) (rest := []) (n := 1) (d := 0) ⟨hx, hb, hml, hown, hts⟩ (c_X3_aim l E D G h0 hG0 v5015 ft fp fn TT p1 nc L1) wd_743 wd_745 wp_22 wd_5 wd_746 (by decide +kernel) ⟨by rw [hR]; show 0 + 1 ≤ 22 + 3 * k; omega, by rw [hR]; show 8 + (2 + 11) + 40 * (0) ≤ 40 * (22 + 3 * k); omega⟩ hI hN hK hS hG0 (⟨by omega, by omega, ⟨a5019, hf5020, hq5021, hA5022⟩, ⟨a5023, hf5024, hq5025, hA5026⟩, ⟨a5027, hf5028, hq5029, hA5030⟩, ⟨w5031, hg5032, by first | omega | decide⟩, ⟨w5034, hg5035, by first | omega | decide⟩, ⟨w5037, hg5038, by first | omega | decide⟩, by omega, ⟨w5040, hg5041, by first | omega | decide⟩, ⟨w5043, hg5044, by first | omega | decide⟩⟩) rfl hl.1 rfl (Nat.le_of_ble_eq_true rfl) dX3_test_67 ⟨Nat.zero_le _, Nat.zero_le _⟩ (fun H locs hI hp hS => ?_)
              obtain ⟨hT4, hn12, ⟨a5133, hf5134, hq5135, hA5136⟩, ⟨a5137, hf5138, hq5139, hA5140⟩, ⟨a5141, hf5142, hq5143, hA5144⟩, ⟨w5145, hg5146, k5147⟩, ⟨w5148, hg5149, k5150⟩, ⟨w5151, hg5152, k5153⟩, hpT, ⟨w5154, hg5155, k5156⟩, ⟨w5157, hg5158, k5159⟩⟩ := hp
              have k5160 := iv_lo w5151
              have k5161 := iv_hi w5151
              have k5162 := TK.at hTK hpT
              refine lv_aload_n hx hb dX3_test_70 rfl (lv_at hl 4 rfl) ?_
              refine lv_iload hx hb dX3_test_71 (lv_at hl 0 rfl) ?_
              refine lv_if_eq (tgt := 81) hx hb dX3_test_73 (by decide) (fun c => absurd c (by decide)) (fun _ => ?_)
              refine lv_bipush (v := 11) hx hb dX3_test_76 (by decide) ?_
              refine lv_goto (tgt := 83) hx hb dX3_test_78 (by decide) ?_
              refine lv_iconst (v := 0) hx hb dX3_test_83 (by decide) ?_
              refine nx_i (As := [.int 11, .int 0]) (rest := []) (n := 2) (d := 0) ⟨hx, hb, hml, hown, hts⟩ (c_X3_emit l E D G h0 hG0 11 0 ft fp fn TT p1 nc L1) wd_723 wd_725 wp_17 wd_5 wd_726 (by decide +kernel) ⟨by rw [hR]; show 0 + 1 ≤ 22 + 3 * k; omega, by rw [hR]; show 8 + (3 + 11) + 40 * (0) ≤ 40 * (22 + 3 * k); omega⟩ hI hN hK hS hG0 (⟨by omega, by omega, ⟨a5133, hf5134, hq5135, hA5136⟩, ⟨a5137, hf5138, hq5139, hA5140⟩, ⟨a5141, hf5142, hq5143, hA5144⟩, ⟨w5145, hg5146, by first | omega | decide⟩, ⟨w5148, hg5149, by first | omega | decide⟩, ⟨w5151, hg5152, by first | omega | decide⟩, by omega, ⟨w5154, hg5155, by first | omega | decide⟩, ⟨w5157, hg5158, by first | omega | decide⟩⟩) rfl hl.1 rfl (Nat.le_of_ble_eq_true rfl) dX3_test_84 ⟨Nat.zero_le _, Nat.zero_le _⟩ (fun r5163 H locs hI hp hS => ?_)
              obtain ⟨hT4, hn12, ⟨a5164, hf5165, hq5166, hA5167⟩, ⟨a5168, hf5169, hq5170, hA5171⟩, ⟨a5172, hf5173, hq5174, hA5175⟩, ⟨w5176, hg5177, k5178⟩, ⟨w5179, hg5180, k5181⟩, ⟨w5182, hg5183, k5184⟩, hpT, ⟨w5185, hg5186, k5187⟩, ⟨w5188, hg5189, k5190⟩⟩ := hp
              have k5191 := iv_lo w5182
              have k5192 := iv_hi w5182
              have k5193 := TK.at hTK hpT
              refine lv_istore (lv' := [(6, .int r5163), (5, .int 1), (4, .int v5013), (3, .int v5014), (2, .int v5015), (0, .ref h0), (1, .int x1)]) hx hb dX3_test_87 hl (by decide) rfl (fun ls hl => ?_)
              refine lv_aload_n hx hb dX3_test_89 rfl (lv_at hl 5 rfl) ?_
              refine lv_aload_n hx hb dX3_test_90 rfl (lv_at hl 5 rfl) ?_
              refine gmIC hx hb hts inT3 hown hK hI List.not_mem_nil hG0 10 (by decide) (hts _ (tb_c wd_139)) rfl rfl dX3_test_91 (fun w5194 hg5195 k5196 k5197 => ?_)
              obtain rfl := gfC.uniq (by decide) hg5186 hg5195
              refine lv_iconst (v := 1) hx hb dX3_test_94 (by decide) ?_
              refine lv_iadd hx hb dX3_test_95 ?_
              refine lv_topi (fun v5198 e5199 => ?_)
              have tv5198 : v5198.toInt = w5185.toInt + (1) := iv_add rfl (by decide) e5199 (by omega) (by omega)
              obtain ⟨hpi, hlp⟩ := SJ_in hSJ (by omega)
              have hpd5200 : pd_R ZZ YY TT (3, tl :: fl, nk, L1) (p1 + 1) = XX := (pd_D_an (by omega) ht45 (by omega)).symm.trans hpi
              refine nx_v (As := [.int v5198]) (rest := []) (n := 1) (d := 0) ⟨hx, hb, hml, hown, hts⟩ (c_X3_moveTo l E D G h0 hG0 v5198 ft fp fn TT (p1 + 1) nc L1 (by first | omega | decide) (by omega)) wd_707 wd_709 wp_13 wd_5 wd_710 (by decide +kernel) ⟨by rw [hR]; show 0 + 1 ≤ 22 + 3 * k; omega, by rw [hR]; show 8 + (2 + 11) + 40 * (0) ≤ 40 * (22 + 3 * k); omega⟩ hI hN hK hS hG0 (⟨by omega, by omega, ⟨a5164, hf5165, hq5166, hA5167⟩, ⟨a5168, hf5169, hq5170, hA5171⟩, ⟨a5172, hf5173, hq5174, hA5175⟩, ⟨w5176, hg5177, by first | omega | decide⟩, ⟨w5179, hg5180, by first | omega | decide⟩, ⟨w5182, hg5183, by first | omega | decide⟩⟩) rfl hl.1 rfl (Nat.le_of_ble_eq_true rfl) dX3_test_96 ⟨Nat.zero_le _, Nat.zero_le _⟩ (fun H locs hI hp hS => ?_)
              obtain ⟨hT4, hn12, ⟨a5202, hf5203, hq5204, hA5205⟩, ⟨a5206, hf5207, hq5208, hA5209⟩, ⟨a5210, hf5211, hq5212, hA5213⟩, ⟨w5214, hg5215, k5216⟩, ⟨w5217, hg5218, k5219⟩, ⟨w5220, hg5221, k5222⟩, hpT, ⟨w5223, hg5224, k5225⟩, ⟨w5226, hg5227, k5228⟩⟩ := hp
              have k5229 := iv_lo w5220
              have k5230 := iv_hi w5220
              have k5231 := TK.at hTK hpT
              refine lv_aload_n hx hb dX3_test_99 rfl (lv_at hl 5 rfl) ?_
              refine lv_iload_n hx hb dX3_test_100 rfl (lv_at hl 6 rfl) ?_
              refine nx_i (As := [.int x1]) (rest := []) (n := 1) (d := (21 + 3 * k)) ⟨hx, hb, hml, hown, hts⟩ (hplain h0 hG0 x1 ft fp fn TT (p1 + 1) nc L1 ZZ YY nk XX hTK dd (by first | decide | omega) (by omega) (by omega) (tl :: fl) hdp hpd5200) wd_735 wd_737 wp_20 wd_5 wd_738 (by decide +kernel) ⟨by rw [hR]; show (21 + 3 * k) + 1 ≤ 22 + 3 * k; omega, by rw [hR]; show 8 + (5 + 11) + 40 * ((21 + 3 * k)) ≤ 40 * (22 + 3 * k); omega⟩ hI hN hK hS hG0 (⟨by omega, by omega, ⟨a5202, hf5203, hq5204, hA5205⟩, ⟨a5206, hf5207, hq5208, hA5209⟩, ⟨a5210, hf5211, hq5212, hA5213⟩, ⟨w5214, hg5215, by first | omega | decide⟩, ⟨w5217, hg5218, by first | omega | decide⟩, ⟨w5220, hg5221, by first | omega | decide⟩, by omega, ⟨w5223, hg5224, by first | omega | decide⟩, ⟨w5226, hg5227, by first | omega | decide⟩⟩) rfl hl.1 rfl (Nat.le_of_ble_eq_true rfl) dX3_test_101 ⟨Nat.zero_le _, Nat.zero_le _⟩ (fun r5232 H locs hI hp hS => ?_)
              rcases hp with ⟨rfl, hp⟩ | ⟨rfl, hp⟩
              · skip
                try simp only [rg, not_and, Int.not_le] at hp
                have hp5233 := hp
                obtain ⟨pn5234, Ln5235, hE, k5236, hpd5237⟩ := hp5233
                have hp5233 : True := trivial
                obtain ⟨hT4, hn12, ⟨a5238, hf5239, hq5240, hA5241⟩, ⟨a5242, hf5243, hq5244, hA5245⟩, ⟨a5246, hf5247, hq5248, hA5249⟩, ⟨w5250, hg5251, k5252⟩, ⟨w5253, hg5254, k5255⟩, ⟨w5256, hg5257, k5258⟩, hpT, ⟨w5259, hg5260, k5261⟩, ⟨w5262, hg5263, k5264⟩⟩ := hE
                have k5265 := iv_lo w5256
                have k5266 := iv_hi w5256
                have k5267 := TK.at hTK hpT
                refine lv_istore_n (lv' := [(3, .int 1), (6, .int r5163), (5, .int 1), (4, .int v5013), (2, .int v5015), (0, .ref h0), (1, .int x1)]) hx hb dX3_test_104 rfl hl (by decide) rfl (fun ls hl => ?_)
                refine lv_iload hx hb dX3_test_105 (lv_at hl 2 rfl) ?_
                refine lv_if_eq (tgt := 116) hx hb dX3_test_107 (by decide) (fun c => absurd c (by decide)) (fun _ => ?_)
                refine lv_iload hx hb dX3_test_110 (lv_at hl 1 rfl) ?_
                refine lv_istore_n (lv' := [(2, .int r5163), (3, .int 1), (6, .int r5163), (5, .int 1), (4, .int v5013), (0, .ref h0), (1, .int x1)]) hx hb dX3_test_112 rfl hl (by decide) rfl (fun ls hl => ?_)
                refine lv_goto (tgt := 122) hx hb dX3_test_113 (by decide) ?_
                obtain ⟨v5268, e5269⟩ : ∃ y : Int32, y = v5013 + (1) := ⟨_, rfl⟩
                have tv5268 : v5268.toInt = v5013.toInt + (1) := iv_add rfl (by decide) e5269 (by omega) (by omega)
                refine lv_iinc (v := v5268) (lv' := [(4, .int v5268), (2, .int r5163), (3, .int 1), (6, .int r5163), (5, .int 1), (0, .ref h0), (1, .int x1)]) hx hb dX3_test_122 hl (k := 4) rfl (by rw [e5269]; rfl) (by decide) rfl (fun ls hl => ?_)
                refine lv_goto (tgt := 11) hx hb dX3_test_125 (by decide) ?_
                exact ih_11 _ (by omega) H locs ls v5268 1 r5163 pn5234 Ln5235 rfl (lv_sub hl [0, 2, 1, 5, 6] rfl) ⟨by omega, by omega⟩ ⟨by decide, by decide⟩ ⟨by omega, by omega⟩ (by omega) (by first | omega | (rw [show (0 : Int32).toInt = 0 from by decide]; omega)) (Or.inl ⟨by first | decide | omega, hpd5237, by omega⟩) (⟨by omega, by omega, ⟨a5238, hf5239, hq5240, hA5241⟩, ⟨a5242, hf5243, hq5244, hA5245⟩, ⟨a5246, hf5247, hq5248, hA5249⟩, ⟨w5250, hg5251, by first | omega | decide⟩, ⟨w5253, hg5254, by first | omega | decide⟩, ⟨w5256, hg5257, by first | omega | decide⟩, by omega, ⟨w5259, hg5260, by first | omega | decide⟩, ⟨w5262, hg5263, by first | omega | decide⟩⟩) hI hS
              · skip
                try simp only [rg, not_and, Int.not_le] at hp
                have hp5270 := hp
                obtain ⟨pn5271, Ln5272, hE, k5273, hfl5274⟩ := hp5270
                have hp5270 : True := trivial
                obtain ⟨hT4, hn12, ⟨a5275, hf5276, hq5277, hA5278⟩, ⟨a5279, hf5280, hq5281, hA5282⟩, ⟨a5283, hf5284, hq5285, hA5286⟩, ⟨w5287, hg5288, k5289⟩, ⟨w5290, hg5291, k5292⟩, ⟨w5293, hg5294, k5295⟩, hpT, ⟨w5296, hg5297, k5298⟩, ⟨w5299, hg5300, k5301⟩⟩ := hE
                have k5302 := iv_lo w5293
                have k5303 := iv_hi w5293
                have k5304 := TK.at hTK hpT
                refine lv_istore_n (lv' := [(3, .int 0), (6, .int r5163), (5, .int 1), (4, .int v5013), (2, .int v5015), (0, .ref h0), (1, .int x1)]) hx hb dX3_test_104 rfl hl (by decide) rfl (fun ls hl => ?_)
                refine lv_iload hx hb dX3_test_105 (lv_at hl 2 rfl) ?_
                refine lv_if_eq (tgt := 116) hx hb dX3_test_107 (by decide) (fun c => absurd c (by decide)) (fun _ => ?_)
                refine lv_iload hx hb dX3_test_110 (lv_at hl 1 rfl) ?_
                refine lv_istore_n (lv' := [(2, .int r5163), (3, .int 0), (6, .int r5163), (5, .int 1), (4, .int v5013), (0, .ref h0), (1, .int x1)]) hx hb dX3_test_112 rfl hl (by decide) rfl (fun ls hl => ?_)
                refine lv_goto (tgt := 122) hx hb dX3_test_113 (by decide) ?_
                obtain ⟨v5305, e5306⟩ : ∃ y : Int32, y = v5013 + (1) := ⟨_, rfl⟩
                have tv5305 : v5305.toInt = v5013.toInt + (1) := iv_add rfl (by decide) e5306 (by omega) (by omega)
                refine lv_iinc (v := v5305) (lv' := [(4, .int v5305), (2, .int r5163), (3, .int 0), (6, .int r5163), (5, .int 1), (0, .ref h0), (1, .int x1)]) hx hb dX3_test_122 hl (k := 4) rfl (by rw [e5306]; rfl) (by decide) rfl (fun ls hl => ?_)
                refine lv_goto (tgt := 11) hx hb dX3_test_125 (by decide) ?_
                exact ih_11 _ (by omega) H locs ls v5305 0 r5163 pn5271 Ln5272 rfl (lv_sub hl [0, 2, 1, 5, 6] rfl) ⟨by omega, by omega⟩ ⟨by decide, by decide⟩ ⟨by omega, by omega⟩ (by omega) (by first | omega | (rw [show (0 : Int32).toInt = 0 from by decide]; omega)) (Or.inr ⟨by first | decide | omega, hfl5274⟩) (⟨by omega, by omega, ⟨a5275, hf5276, hq5277, hA5278⟩, ⟨a5279, hf5280, hq5281, hA5282⟩, ⟨a5283, hf5284, hq5285, hA5286⟩, ⟨w5287, hg5288, by first | omega | decide⟩, ⟨w5290, hg5291, by first | omega | decide⟩, ⟨w5293, hg5294, by first | omega | decide⟩, by omega, ⟨w5296, hg5297, by first | omega | decide⟩, ⟨w5299, hg5300, by first | omega | decide⟩⟩) hI hS
          · skip
            have k5307 := iv_ne (X := w5043.toInt) (Y := (261)) rfl (by decide) c5123
            refine lv_aload_n hx hb dX3_test_33 rfl (lv_at hl 3 rfl) ?_
            refine gmIC hx hb hts inT3 hown hK hI List.not_mem_nil hG0 11 (by decide) (hts _ (tb_c wd_140)) rfl rfl dX3_test_34 (fun w5308 hg5309 k5310 k5311 => ?_)
            obtain rfl := gfC.uniq (by decide) hg5044 hg5309
            refine lv_sipush (v := 262) hx hb dX3_test_37 (by decide) ?_
            refine lv_icmp_ne (tgt := 128) hx hb dX3_test_40 (by decide) (fun c5312 => ?_) (fun c5312 => ?_)
            · skip
              have k5313 := iv_ne (X := w5043.toInt) (Y := (262)) rfl (by decide) c5312
              refine lv_aload_n hx hb dX3_test_128 rfl (lv_at hl 3 rfl) ?_
              refine lv_iload_n hx hb dX3_test_129 rfl (lv_at hl 2 rfl) ?_
              refine nx_v (As := [.int v5015]) (rest := []) (n := 1) (d := 0) ⟨hx, hb, hml, hown, hts⟩ (c_X3_aim l E D G h0 hG0 v5015 ft fp fn TT p1 nc L1) wd_743 wd_745 wp_22 wd_5 wd_746 (by decide +kernel) ⟨by rw [hR]; show 0 + 1 ≤ 22 + 3 * k; omega, by rw [hR]; show 8 + (2 + 11) + 40 * (0) ≤ 40 * (22 + 3 * k); omega⟩ hI hN hK hS hG0 (⟨by omega, by omega, ⟨a5019, hf5020, hq5021, hA5022⟩, ⟨a5023, hf5024, hq5025, hA5026⟩, ⟨a5027, hf5028, hq5029, hA5030⟩, ⟨w5031, hg5032, by first | omega | decide⟩, ⟨w5034, hg5035, by first | omega | decide⟩, ⟨w5037, hg5038, by first | omega | decide⟩, by omega, ⟨w5040, hg5041, by first | omega | decide⟩, ⟨w5043, hg5044, by first | omega | decide⟩⟩) rfl hl.1 rfl (Nat.le_of_ble_eq_true rfl) dX3_test_130 ⟨Nat.zero_le _, Nat.zero_le _⟩ (fun H locs hI hp hS => ?_)
              obtain ⟨hT4, hn12, ⟨a5315, hf5316, hq5317, hA5318⟩, ⟨a5319, hf5320, hq5321, hA5322⟩, ⟨a5323, hf5324, hq5325, hA5326⟩, ⟨w5327, hg5328, k5329⟩, ⟨w5330, hg5331, k5332⟩, ⟨w5333, hg5334, k5335⟩, hpT, ⟨w5336, hg5337, k5338⟩, ⟨w5339, hg5340, k5341⟩⟩ := hp
              have k5342 := iv_lo w5333
              have k5343 := iv_hi w5333
              have k5344 := TK.at hTK hpT
              refine lv_iload_n hx hb dX3_test_133 rfl (lv_at hl 1 rfl) ?_
              have hpost : ((v5014 : Int32) = 1 ∧ ∃ p2 L2 : Nat, RC E D G h0 ft fp fn TT p2 nc L2 H ∧ pp + 1 ≤ p2 ∧ pd_R ZZ YY TT (4, tl :: fl, nk, L2) p2 = XX ∧ ((ft p2).toInt ≠ 261 ∧ (ft p2).toInt ≠ 262)) ∨ ((v5014 : Int32) = 0 ∧ ∃ p2 L2 : Nat, RC E D G h0 ft fp fn TT p2 nc L2 H ∧ pp ≤ p2 ∧ XX = (p2, false)) := (SJ_out (C := (ft p1).toInt ≠ 261 ∧ (ft p1).toInt ≠ 262) hSJ (by first | exact Or.inl (by omega) | exact Or.inr ⟨by omega, by omega⟩)).elim (fun h => Or.inl ⟨i32_1 h.1, p1, L1, ⟨by omega, by omega, ⟨a5315, hf5316, hq5317, hA5318⟩, ⟨a5319, hf5320, hq5321, hA5322⟩, ⟨a5323, hf5324, hq5325, hA5326⟩, ⟨w5327, hg5328, by first | omega | decide⟩, ⟨w5330, hg5331, by first | omega | decide⟩, ⟨w5333, hg5334, by first | omega | decide⟩, by omega, ⟨w5336, hg5337, by first | omega | decide⟩, ⟨w5339, hg5340, by first | omega | decide⟩⟩, h.2.1.2, h.2.1.1, h.2.2⟩) (fun h => Or.inr ⟨i32_0 h.1, p1, L1, ⟨by omega, by omega, ⟨a5315, hf5316, hq5317, hA5318⟩, ⟨a5319, hf5320, hq5321, hA5322⟩, ⟨a5323, hf5324, hq5325, hA5326⟩, ⟨w5327, hg5328, by first | omega | decide⟩, ⟨w5330, hg5331, by first | omega | decide⟩, ⟨w5333, hg5334, by first | omega | decide⟩, by omega, ⟨w5336, hg5337, by first | omega | decide⟩, ⟨w5339, hg5340, by first | omega | decide⟩⟩, by omega, h.2⟩)
              rw [hQ]
              exact W.zret (v := v5014) hx hb hr (th_zn (by omega)) (fun t ht hW => ⟨⟨v5014, v5014, rfl, rfl, ⟨by rw [ht]; exact hI, hN.warm hW, va_K.moved hW.alike hK⟩, by first | (rw [ht]; exact hpost) | exact hpost⟩, hS.F ht⟩) hS.2.2 dX3_test_134
            · skip
              have k5345 := iv_eq (X := w5043.toInt) (Y := (262)) rfl (by decide) c5312
              refine lv_aload_n hx hb dX3_test_43 rfl (lv_at hl 3 rfl) ?_
              refine gmIC hx hb hts inT3 hown hK hI List.not_mem_nil hG0 11 (by decide) (hts _ (tb_c wd_140)) rfl rfl dX3_test_44 (fun w5346 hg5347 k5348 k5349 => ?_)
              obtain rfl := gfC.uniq (by decide) hg5044 hg5347
              refine lv_sipush (v := 261) hx hb dX3_test_47 (by decide) ?_
              refine lv_icmp_ne (tgt := 57) hx hb dX3_test_50 (by decide) (fun c5350 => ?_) (fun c5350 => ?_)
              · skip
                have k5351 := iv_ne (X := w5043.toInt) (Y := (261)) rfl (by decide) c5350
                refine lv_iconst (v := 0) hx hb dX3_test_57 (by decide) ?_
                refine lv_istore (lv' := [(5, .int 0), (4, .int v5013), (3, .int v5014), (2, .int v5015), (0, .ref h0), (1, .int x1)]) hx hb dX3_test_58 hl (by decide) rfl (fun ls hl => ?_)
                refine lv_iload hx hb dX3_test_60 (lv_at hl 0 rfl) ?_
                refine lv_if_eq (tgt := 70) hx hb dX3_test_62 (by decide) (fun _ => ?_) (fun c => absurd c (by decide))
                refine lv_aload_n hx hb dX3_test_70 rfl (lv_at hl 4 rfl) ?_
                refine lv_iload hx hb dX3_test_71 (lv_at hl 0 rfl) ?_
                refine lv_if_eq (tgt := 81) hx hb dX3_test_73 (by decide) (fun _ => ?_) (fun c => absurd c (by decide))
                refine lv_bipush (v := 12) hx hb dX3_test_81 (by decide) ?_
                refine lv_iconst (v := 0) hx hb dX3_test_83 (by decide) ?_
                refine nx_i (As := [.int 12, .int 0]) (rest := []) (n := 2) (d := 0) ⟨hx, hb, hml, hown, hts⟩ (c_X3_emit l E D G h0 hG0 12 0 ft fp fn TT p1 nc L1) wd_723 wd_725 wp_17 wd_5 wd_726 (by decide +kernel) ⟨by rw [hR]; show 0 + 1 ≤ 22 + 3 * k; omega, by rw [hR]; show 8 + (3 + 11) + 40 * (0) ≤ 40 * (22 + 3 * k); omega⟩ hI hN hK hS hG0 (⟨by omega, by omega, ⟨a5019, hf5020, hq5021, hA5022⟩, ⟨a5023, hf5024, hq5025, hA5026⟩, ⟨a5027, hf5028, hq5029, hA5030⟩, ⟨w5031, hg5032, by first | omega | decide⟩, ⟨w5034, hg5035, by first | omega | decide⟩, ⟨w5037, hg5038, by first | omega | decide⟩, by omega, ⟨w5040, hg5041, by first | omega | decide⟩, ⟨w5043, hg5044, by first | omega | decide⟩⟩) rfl hl.1 rfl (Nat.le_of_ble_eq_true rfl) dX3_test_84 ⟨Nat.zero_le _, Nat.zero_le _⟩ (fun r5352 H locs hI hp hS => ?_)
                obtain ⟨hT4, hn12, ⟨a5353, hf5354, hq5355, hA5356⟩, ⟨a5357, hf5358, hq5359, hA5360⟩, ⟨a5361, hf5362, hq5363, hA5364⟩, ⟨w5365, hg5366, k5367⟩, ⟨w5368, hg5369, k5370⟩, ⟨w5371, hg5372, k5373⟩, hpT, ⟨w5374, hg5375, k5376⟩, ⟨w5377, hg5378, k5379⟩⟩ := hp
                have k5380 := iv_lo w5371
                have k5381 := iv_hi w5371
                have k5382 := TK.at hTK hpT
                refine lv_istore (lv' := [(6, .int r5352), (5, .int 0), (4, .int v5013), (3, .int v5014), (2, .int v5015), (0, .ref h0), (1, .int x1)]) hx hb dX3_test_87 hl (by decide) rfl (fun ls hl => ?_)
                refine lv_aload_n hx hb dX3_test_89 rfl (lv_at hl 5 rfl) ?_
                refine lv_aload_n hx hb dX3_test_90 rfl (lv_at hl 5 rfl) ?_
                refine gmIC hx hb hts inT3 hown hK hI List.not_mem_nil hG0 10 (by decide) (hts _ (tb_c wd_139)) rfl rfl dX3_test_91 (fun w5383 hg5384 k5385 k5386 => ?_)
                obtain rfl := gfC.uniq (by decide) hg5375 hg5384
                refine lv_iconst (v := 1) hx hb dX3_test_94 (by decide) ?_
                refine lv_iadd hx hb dX3_test_95 ?_
                refine lv_topi (fun v5387 e5388 => ?_)
                have tv5387 : v5387.toInt = w5374.toInt + (1) := iv_add rfl (by decide) e5388 (by omega) (by omega)
                obtain ⟨hpi, hlp⟩ := SJ_in hSJ (by omega)
                have hpd5389 : pd_R ZZ YY TT (3, tl :: fl, nk, L1) (p1 + 1) = XX := (pd_D_an (by omega) ht45 (by omega)).symm.trans hpi
                refine nx_v (As := [.int v5387]) (rest := []) (n := 1) (d := 0) ⟨hx, hb, hml, hown, hts⟩ (c_X3_moveTo l E D G h0 hG0 v5387 ft fp fn TT (p1 + 1) nc L1 (by first | omega | decide) (by omega)) wd_707 wd_709 wp_13 wd_5 wd_710 (by decide +kernel) ⟨by rw [hR]; show 0 + 1 ≤ 22 + 3 * k; omega, by rw [hR]; show 8 + (2 + 11) + 40 * (0) ≤ 40 * (22 + 3 * k); omega⟩ hI hN hK hS hG0 (⟨by omega, by omega, ⟨a5353, hf5354, hq5355, hA5356⟩, ⟨a5357, hf5358, hq5359, hA5360⟩, ⟨a5361, hf5362, hq5363, hA5364⟩, ⟨w5365, hg5366, by first | omega | decide⟩, ⟨w5368, hg5369, by first | omega | decide⟩, ⟨w5371, hg5372, by first | omega | decide⟩⟩) rfl hl.1 rfl (Nat.le_of_ble_eq_true rfl) dX3_test_96 ⟨Nat.zero_le _, Nat.zero_le _⟩ (fun H locs hI hp hS => ?_)
                obtain ⟨hT4, hn12, ⟨a5391, hf5392, hq5393, hA5394⟩, ⟨a5395, hf5396, hq5397, hA5398⟩, ⟨a5399, hf5400, hq5401, hA5402⟩, ⟨w5403, hg5404, k5405⟩, ⟨w5406, hg5407, k5408⟩, ⟨w5409, hg5410, k5411⟩, hpT, ⟨w5412, hg5413, k5414⟩, ⟨w5415, hg5416, k5417⟩⟩ := hp
                have k5418 := iv_lo w5409
                have k5419 := iv_hi w5409
                have k5420 := TK.at hTK hpT
                refine lv_aload_n hx hb dX3_test_99 rfl (lv_at hl 5 rfl) ?_
                refine lv_iload_n hx hb dX3_test_100 rfl (lv_at hl 6 rfl) ?_
                refine nx_i (As := [.int x1]) (rest := []) (n := 1) (d := (21 + 3 * k)) ⟨hx, hb, hml, hown, hts⟩ (hplain h0 hG0 x1 ft fp fn TT (p1 + 1) nc L1 ZZ YY nk XX hTK dd (by first | decide | omega) (by omega) (by omega) (tl :: fl) hdp hpd5389) wd_735 wd_737 wp_20 wd_5 wd_738 (by decide +kernel) ⟨by rw [hR]; show (21 + 3 * k) + 1 ≤ 22 + 3 * k; omega, by rw [hR]; show 8 + (5 + 11) + 40 * ((21 + 3 * k)) ≤ 40 * (22 + 3 * k); omega⟩ hI hN hK hS hG0 (⟨by omega, by omega, ⟨a5391, hf5392, hq5393, hA5394⟩, ⟨a5395, hf5396, hq5397, hA5398⟩, ⟨a5399, hf5400, hq5401, hA5402⟩, ⟨w5403, hg5404, by first | omega | decide⟩, ⟨w5406, hg5407, by first | omega | decide⟩, ⟨w5409, hg5410, by first | omega | decide⟩, by omega, ⟨w5412, hg5413, by first | omega | decide⟩, ⟨w5415, hg5416, by first | omega | decide⟩⟩) rfl hl.1 rfl (Nat.le_of_ble_eq_true rfl) dX3_test_101 ⟨Nat.zero_le _, Nat.zero_le _⟩ (fun r5421 H locs hI hp hS => ?_)
                rcases hp with ⟨rfl, hp⟩ | ⟨rfl, hp⟩
                · skip
                  try simp only [rg, not_and, Int.not_le] at hp
                  have hp5422 := hp
                  obtain ⟨pn5423, Ln5424, hE, k5425, hpd5426⟩ := hp5422
                  have hp5422 : True := trivial
                  obtain ⟨hT4, hn12, ⟨a5427, hf5428, hq5429, hA5430⟩, ⟨a5431, hf5432, hq5433, hA5434⟩, ⟨a5435, hf5436, hq5437, hA5438⟩, ⟨w5439, hg5440, k5441⟩, ⟨w5442, hg5443, k5444⟩, ⟨w5445, hg5446, k5447⟩, hpT, ⟨w5448, hg5449, k5450⟩, ⟨w5451, hg5452, k5453⟩⟩ := hE
                  have k5454 := iv_lo w5445
                  have k5455 := iv_hi w5445
                  have k5456 := TK.at hTK hpT
                  refine lv_istore_n (lv' := [(3, .int 1), (6, .int r5352), (5, .int 0), (4, .int v5013), (2, .int v5015), (0, .ref h0), (1, .int x1)]) hx hb dX3_test_104 rfl hl (by decide) rfl (fun ls hl => ?_)
                  refine lv_iload hx hb dX3_test_105 (lv_at hl 2 rfl) ?_
                  refine lv_if_eq (tgt := 116) hx hb dX3_test_107 (by decide) (fun _ => ?_) (fun c => absurd c (by decide))
                  refine lv_aload_n hx hb dX3_test_116 rfl (lv_at hl 5 rfl) ?_
                  refine lv_iload hx hb dX3_test_117 (lv_at hl 1 rfl) ?_
                  refine nx_v (As := [.int r5352]) (rest := []) (n := 1) (d := 0) ⟨hx, hb, hml, hown, hts⟩ (c_X3_aim l E D G h0 hG0 r5352 ft fp fn TT pn5423 nc Ln5424) wd_743 wd_745 wp_22 wd_5 wd_746 (by decide +kernel) ⟨by rw [hR]; show 0 + 1 ≤ 22 + 3 * k; omega, by rw [hR]; show 8 + (2 + 11) + 40 * (0) ≤ 40 * (22 + 3 * k); omega⟩ hI hN hK hS hG0 (⟨by omega, by omega, ⟨a5427, hf5428, hq5429, hA5430⟩, ⟨a5431, hf5432, hq5433, hA5434⟩, ⟨a5435, hf5436, hq5437, hA5438⟩, ⟨w5439, hg5440, by first | omega | decide⟩, ⟨w5442, hg5443, by first | omega | decide⟩, ⟨w5445, hg5446, by first | omega | decide⟩, by omega, ⟨w5448, hg5449, by first | omega | decide⟩, ⟨w5451, hg5452, by first | omega | decide⟩⟩) rfl hl.1 rfl (Nat.le_of_ble_eq_true rfl) dX3_test_119 ⟨Nat.zero_le _, Nat.zero_le _⟩ (fun H locs hI hp hS => ?_)
                  obtain ⟨hT4, hn12, ⟨a5458, hf5459, hq5460, hA5461⟩, ⟨a5462, hf5463, hq5464, hA5465⟩, ⟨a5466, hf5467, hq5468, hA5469⟩, ⟨w5470, hg5471, k5472⟩, ⟨w5473, hg5474, k5475⟩, ⟨w5476, hg5477, k5478⟩, hpT, ⟨w5479, hg5480, k5481⟩, ⟨w5482, hg5483, k5484⟩⟩ := hp
                  have k5485 := iv_lo w5476
                  have k5486 := iv_hi w5476
                  have k5487 := TK.at hTK hpT
                  obtain ⟨v5488, e5489⟩ : ∃ y : Int32, y = v5013 + (1) := ⟨_, rfl⟩
                  have tv5488 : v5488.toInt = v5013.toInt + (1) := iv_add rfl (by decide) e5489 (by omega) (by omega)
                  refine lv_iinc (v := v5488) (lv' := [(4, .int v5488), (3, .int 1), (6, .int r5352), (5, .int 0), (2, .int v5015), (0, .ref h0), (1, .int x1)]) hx hb dX3_test_122 hl (k := 3) rfl (by rw [e5489]; rfl) (by decide) rfl (fun ls hl => ?_)
                  refine lv_goto (tgt := 11) hx hb dX3_test_125 (by decide) ?_
                  exact ih_11 _ (by omega) H locs ls v5488 1 v5015 pn5423 Ln5424 rfl (lv_sub hl [0, 1, 4, 5, 6] rfl) ⟨by omega, by omega⟩ ⟨by decide, by decide⟩ ⟨by omega, by omega⟩ (by omega) (by first | omega | (rw [show (0 : Int32).toInt = 0 from by decide]; omega)) (Or.inl ⟨by first | decide | omega, hpd5426, by omega⟩) (⟨by omega, by omega, ⟨a5458, hf5459, hq5460, hA5461⟩, ⟨a5462, hf5463, hq5464, hA5465⟩, ⟨a5466, hf5467, hq5468, hA5469⟩, ⟨w5470, hg5471, by first | omega | decide⟩, ⟨w5473, hg5474, by first | omega | decide⟩, ⟨w5476, hg5477, by first | omega | decide⟩, by omega, ⟨w5479, hg5480, by first | omega | decide⟩, ⟨w5482, hg5483, by first | omega | decide⟩⟩) hI hS
                · skip
                  try simp only [rg, not_and, Int.not_le] at hp
                  have hp5490 := hp
                  obtain ⟨pn5491, Ln5492, hE, k5493, hfl5494⟩ := hp5490
                  have hp5490 : True := trivial
                  obtain ⟨hT4, hn12, ⟨a5495, hf5496, hq5497, hA5498⟩, ⟨a5499, hf5500, hq5501, hA5502⟩, ⟨a5503, hf5504, hq5505, hA5506⟩, ⟨w5507, hg5508, k5509⟩, ⟨w5510, hg5511, k5512⟩, ⟨w5513, hg5514, k5515⟩, hpT, ⟨w5516, hg5517, k5518⟩, ⟨w5519, hg5520, k5521⟩⟩ := hE
                  have k5522 := iv_lo w5513
                  have k5523 := iv_hi w5513
                  have k5524 := TK.at hTK hpT
                  refine lv_istore_n (lv' := [(3, .int 0), (6, .int r5352), (5, .int 0), (4, .int v5013), (2, .int v5015), (0, .ref h0), (1, .int x1)]) hx hb dX3_test_104 rfl hl (by decide) rfl (fun ls hl => ?_)
                  refine lv_iload hx hb dX3_test_105 (lv_at hl 2 rfl) ?_
                  refine lv_if_eq (tgt := 116) hx hb dX3_test_107 (by decide) (fun _ => ?_) (fun c => absurd c (by decide))
                  refine lv_aload_n hx hb dX3_test_116 rfl (lv_at hl 5 rfl) ?_
                  refine lv_iload hx hb dX3_test_117 (lv_at hl 1 rfl) ?_
                  refine nx_v (As := [.int r5352]) (rest := []) (n := 1) (d := 0) ⟨hx, hb, hml, hown, hts⟩ (c_X3_aim l E D G h0 hG0 r5352 ft fp fn TT pn5491 nc Ln5492) wd_743 wd_745 wp_22 wd_5 wd_746 (by decide +kernel) ⟨by rw [hR]; show 0 + 1 ≤ 22 + 3 * k; omega, by rw [hR]; show 8 + (2 + 11) + 40 * (0) ≤ 40 * (22 + 3 * k); omega⟩ hI hN hK hS hG0 (⟨by omega, by omega, ⟨a5495, hf5496, hq5497, hA5498⟩, ⟨a5499, hf5500, hq5501, hA5502⟩, ⟨a5503, hf5504, hq5505, hA5506⟩, ⟨w5507, hg5508, by first | omega | decide⟩, ⟨w5510, hg5511, by first | omega | decide⟩, ⟨w5513, hg5514, by first | omega | decide⟩, by omega, ⟨w5516, hg5517, by first | omega | decide⟩, ⟨w5519, hg5520, by first | omega | decide⟩⟩) rfl hl.1 rfl (Nat.le_of_ble_eq_true rfl) dX3_test_119 ⟨Nat.zero_le _, Nat.zero_le _⟩ (fun H locs hI hp hS => ?_)
                  obtain ⟨hT4, hn12, ⟨a5526, hf5527, hq5528, hA5529⟩, ⟨a5530, hf5531, hq5532, hA5533⟩, ⟨a5534, hf5535, hq5536, hA5537⟩, ⟨w5538, hg5539, k5540⟩, ⟨w5541, hg5542, k5543⟩, ⟨w5544, hg5545, k5546⟩, hpT, ⟨w5547, hg5548, k5549⟩, ⟨w5550, hg5551, k5552⟩⟩ := hp
                  have k5553 := iv_lo w5544
                  have k5554 := iv_hi w5544
                  have k5555 := TK.at hTK hpT
                  obtain ⟨v5556, e5557⟩ : ∃ y : Int32, y = v5013 + (1) := ⟨_, rfl⟩
                  have tv5556 : v5556.toInt = v5013.toInt + (1) := iv_add rfl (by decide) e5557 (by omega) (by omega)
                  refine lv_iinc (v := v5556) (lv' := [(4, .int v5556), (3, .int 0), (6, .int r5352), (5, .int 0), (2, .int v5015), (0, .ref h0), (1, .int x1)]) hx hb dX3_test_122 hl (k := 3) rfl (by rw [e5557]; rfl) (by decide) rfl (fun ls hl => ?_)
                  refine lv_goto (tgt := 11) hx hb dX3_test_125 (by decide) ?_
                  exact ih_11 _ (by omega) H locs ls v5556 0 v5015 pn5491 Ln5492 rfl (lv_sub hl [0, 1, 4, 5, 6] rfl) ⟨by omega, by omega⟩ ⟨by decide, by decide⟩ ⟨by omega, by omega⟩ (by omega) (by first | omega | (rw [show (0 : Int32).toInt = 0 from by decide]; omega)) (Or.inr ⟨by first | decide | omega, hfl5494⟩) (⟨by omega, by omega, ⟨a5526, hf5527, hq5528, hA5529⟩, ⟨a5530, hf5531, hq5532, hA5533⟩, ⟨a5534, hf5535, hq5536, hA5537⟩, ⟨w5538, hg5539, by first | omega | decide⟩, ⟨w5541, hg5542, by first | omega | decide⟩, ⟨w5544, hg5545, by first | omega | decide⟩, by omega, ⟨w5547, hg5548, by first | omega | decide⟩, ⟨w5550, hg5551, by first | omega | decide⟩⟩) hI hS
              · skip
                have k5558 := iv_eq (X := w5043.toInt) (Y := (261)) rfl (by decide) c5350
                exfalso; omega
  refine lv_iconst (v := (-1)) hx hb dX3_test_0 (by decide) ?_
  refine lv_istore_n (lv' := [(2, .int (-1)), (0, .ref h0), (1, .int x1)]) hx hb dX3_test_1 rfl hl (by decide) rfl (fun ls hl => ?_)
  refine lv_aload_n hx hb dX3_test_2 rfl (lv_at hl 1 rfl) ?_
  refine lv_iload_n hx hb dX3_test_3 rfl (lv_at hl 2 rfl) ?_
  refine nx_i (As := [.int x1]) (rest := []) (n := 1) (d := (21 + 3 * k)) ⟨hx, hb, hml, hown, hts⟩ (hplain h0 hG0 x1 ft fp fn TT pp nc LL ZZ YY nk XX hTK dd (by first | decide | omega) (by omega) (by omega) (tl :: fl) hdp hpd) wd_735 wd_737 wp_20 wd_5 wd_738 (by decide +kernel) ⟨by rw [hR]; show (21 + 3 * k) + 1 ≤ 22 + 3 * k; omega, by rw [hR]; show 8 + (5 + 11) + 40 * ((21 + 3 * k)) ≤ 40 * (22 + 3 * k); omega⟩ hI hN hK hS hG0 (⟨by omega, by omega, ⟨a1, hf2, hq3, hA4⟩, ⟨a5, hf6, hq7, hA8⟩, ⟨a9, hf10, hq11, hA12⟩, ⟨w13, hg14, by first | omega | decide⟩, ⟨w16, hg17, by first | omega | decide⟩, ⟨w19, hg20, by first | omega | decide⟩, by omega, ⟨w22, hg23, by first | omega | decide⟩, ⟨w25, hg26, by first | omega | decide⟩⟩) rfl hl.1 rfl (Nat.le_of_ble_eq_true rfl) dX3_test_4 ⟨Nat.zero_le _, Nat.zero_le _⟩ (fun r5559 H locs hI hp hS => ?_)
  rcases hp with ⟨rfl, hp⟩ | ⟨rfl, hp⟩
  · skip
    try simp only [rg, not_and, Int.not_le] at hp
    have hp5560 := hp
    obtain ⟨pn5561, Ln5562, hE, k5563, hpd5564⟩ := hp5560
    have hp5560 : True := trivial
    obtain ⟨hT4, hn12, ⟨a5565, hf5566, hq5567, hA5568⟩, ⟨a5569, hf5570, hq5571, hA5572⟩, ⟨a5573, hf5574, hq5575, hA5576⟩, ⟨w5577, hg5578, k5579⟩, ⟨w5580, hg5581, k5582⟩, ⟨w5583, hg5584, k5585⟩, hpT, ⟨w5586, hg5587, k5588⟩, ⟨w5589, hg5590, k5591⟩⟩ := hE
    have k5592 := iv_lo w5583
    have k5593 := iv_hi w5583
    have k5594 := TK.at hTK hpT
    refine lv_istore_n (lv' := [(3, .int 1), (2, .int (-1)), (0, .ref h0), (1, .int x1)]) hx hb dX3_test_7 rfl hl (by decide) rfl (fun ls hl => ?_)
    refine lv_iconst (v := 0) hx hb dX3_test_8 (by decide) ?_
    refine lv_istore (lv' := [(4, .int 0), (3, .int 1), (2, .int (-1)), (0, .ref h0), (1, .int x1)]) hx hb dX3_test_9 hl (by decide) rfl (fun ls hl => ?_)
    have zl : (0 : Int32).toInt = 0 := by decide
    exact J_11 _ H locs ls 0 1 (-1) pn5561 Ln5562 rfl (lv_sub hl [0, 1, 2, 3, 4] rfl) ⟨by decide, by decide⟩ ⟨by decide, by decide⟩ ⟨by omega, by omega⟩ (by omega) (by first | omega | (rw [show (0 : Int32).toInt = 0 from by decide]; omega)) (Or.inl ⟨by first | decide | omega, hpd5564, by omega⟩) (⟨by omega, by omega, ⟨a5565, hf5566, hq5567, hA5568⟩, ⟨a5569, hf5570, hq5571, hA5572⟩, ⟨a5573, hf5574, hq5575, hA5576⟩, ⟨w5577, hg5578, by first | omega | decide⟩, ⟨w5580, hg5581, by first | omega | decide⟩, ⟨w5583, hg5584, by first | omega | decide⟩, by omega, ⟨w5586, hg5587, by first | omega | decide⟩, ⟨w5589, hg5590, by first | omega | decide⟩⟩) hI hS
  · skip
    try simp only [rg, not_and, Int.not_le] at hp
    have hp5595 := hp
    obtain ⟨pn5596, Ln5597, hE, k5598, hfl5599⟩ := hp5595
    have hp5595 : True := trivial
    obtain ⟨hT4, hn12, ⟨a5600, hf5601, hq5602, hA5603⟩, ⟨a5604, hf5605, hq5606, hA5607⟩, ⟨a5608, hf5609, hq5610, hA5611⟩, ⟨w5612, hg5613, k5614⟩, ⟨w5615, hg5616, k5617⟩, ⟨w5618, hg5619, k5620⟩, hpT, ⟨w5621, hg5622, k5623⟩, ⟨w5624, hg5625, k5626⟩⟩ := hE
    have k5627 := iv_lo w5618
    have k5628 := iv_hi w5618
    have k5629 := TK.at hTK hpT
    refine lv_istore_n (lv' := [(3, .int 0), (2, .int (-1)), (0, .ref h0), (1, .int x1)]) hx hb dX3_test_7 rfl hl (by decide) rfl (fun ls hl => ?_)
    refine lv_iconst (v := 0) hx hb dX3_test_8 (by decide) ?_
    refine lv_istore (lv' := [(4, .int 0), (3, .int 0), (2, .int (-1)), (0, .ref h0), (1, .int x1)]) hx hb dX3_test_9 hl (by decide) rfl (fun ls hl => ?_)
    have zl : (0 : Int32).toInt = 0 := by decide
    exact J_11 _ H locs ls 0 0 (-1) pn5596 Ln5597 rfl (lv_sub hl [0, 1, 2, 3, 4] rfl) ⟨by decide, by decide⟩ ⟨by decide, by decide⟩ ⟨by omega, by omega⟩ (by omega) (by first | omega | (rw [show (0 : Int32).toInt = 0 from by decide]; omega)) (Or.inr ⟨by first | decide | omega, hfl5599⟩) (⟨by omega, by omega, ⟨a5600, hf5601, hq5602, hA5603⟩, ⟨a5604, hf5605, hq5606, hA5607⟩, ⟨a5608, hf5609, hq5610, hA5611⟩, ⟨w5612, hg5613, by first | omega | decide⟩, ⟨w5615, hg5616, by first | omega | decide⟩, ⟨w5618, hg5619, by first | omega | decide⟩, by omega, ⟨w5621, hg5622, by first | omega | decide⟩, ⟨w5624, hg5625, by first | omega | decide⟩⟩) hI hS
theorem dX3_enclosed_0 : decode cX3_enclosed 0 = .ok (.iload_n 1, 1) := by decide +kernel
theorem dX3_enclosed_1 : decode cX3_enclosed 1 = .ok (.bipush 8, 2) := by decide +kernel
theorem dX3_enclosed_3 : decode cX3_enclosed 3 = .ok (.if_icmp .lt 5, 3) := by decide +kernel
theorem dX3_enclosed_6 : decode cX3_enclosed 6 = .ok (.iconst 0, 1) := by decide +kernel
theorem dX3_enclosed_7 : decode cX3_enclosed 7 = .ok (.ireturn, 1) := by decide +kernel
theorem dX3_enclosed_8 : decode cX3_enclosed 8 = .ok (.aload_n 0, 1) := by decide +kernel
theorem dX3_enclosed_9 : decode cX3_enclosed 9 = .ok (.aload_n 0, 1) := by decide +kernel
theorem dX3_enclosed_10 : decode cX3_enclosed 10 = .ok (.getfield 43, 3) := by decide +kernel
theorem dX3_enclosed_13 : decode cX3_enclosed 13 = .ok (.iconst 1, 1) := by decide +kernel
theorem dX3_enclosed_14 : decode cX3_enclosed 14 = .ok (.iadd, 1) := by decide +kernel
theorem dX3_enclosed_15 : decode cX3_enclosed 15 = .ok (.invokevirtual 66, 3) := by decide +kernel
theorem dX3_enclosed_18 : decode cX3_enclosed 18 = .ok (.aload_n 0, 1) := by decide +kernel
theorem dX3_enclosed_19 : decode cX3_enclosed 19 = .ok (.iload_n 1, 1) := by decide +kernel
theorem dX3_enclosed_20 : decode cX3_enclosed 20 = .ok (.iconst 1, 1) := by decide +kernel
theorem dX3_enclosed_21 : decode cX3_enclosed 21 = .ok (.iadd, 1) := by decide +kernel
theorem dX3_enclosed_22 : decode cX3_enclosed 22 = .ok (.invokevirtual 100, 3) := by decide +kernel
theorem dX3_enclosed_25 : decode cX3_enclosed 25 = .ok (.ifCond .eq 16, 3) := by decide +kernel
theorem dX3_enclosed_28 : decode cX3_enclosed 28 = .ok (.aload_n 0, 1) := by decide +kernel
theorem dX3_enclosed_29 : decode cX3_enclosed 29 = .ok (.getfield 46, 3) := by decide +kernel
theorem dX3_enclosed_32 : decode cX3_enclosed 32 = .ok (.bipush 41, 2) := by decide +kernel
theorem dX3_enclosed_34 : decode cX3_enclosed 34 = .ok (.if_icmp .ne 7, 3) := by decide +kernel
theorem dX3_enclosed_37 : decode cX3_enclosed 37 = .ok (.iconst 1, 1) := by decide +kernel
theorem dX3_enclosed_38 : decode cX3_enclosed 38 = .ok (.goto 4, 3) := by decide +kernel
theorem dX3_enclosed_41 : decode cX3_enclosed 41 = .ok (.iconst 0, 1) := by decide +kernel
theorem dX3_enclosed_42 : decode cX3_enclosed 42 = .ok (.istore_n 2, 1) := by decide +kernel
theorem dX3_enclosed_43 : decode cX3_enclosed 43 = .ok (.aload_n 0, 1) := by decide +kernel
theorem dX3_enclosed_44 : decode cX3_enclosed 44 = .ok (.iload_n 2, 1) := by decide +kernel
theorem dX3_enclosed_45 : decode cX3_enclosed 45 = .ok (.ifCond .eq 12, 3) := by decide +kernel
theorem dX3_enclosed_48 : decode cX3_enclosed 48 = .ok (.aload_n 0, 1) := by decide +kernel
theorem dX3_enclosed_49 : decode cX3_enclosed 49 = .ok (.getfield 43, 3) := by decide +kernel
theorem dX3_enclosed_52 : decode cX3_enclosed 52 = .ok (.iconst 1, 1) := by decide +kernel
theorem dX3_enclosed_53 : decode cX3_enclosed 53 = .ok (.iadd, 1) := by decide +kernel
theorem dX3_enclosed_54 : decode cX3_enclosed 54 = .ok (.goto 7, 3) := by decide +kernel
theorem dX3_enclosed_57 : decode cX3_enclosed 57 = .ok (.aload_n 0, 1) := by decide +kernel
theorem dX3_enclosed_58 : decode cX3_enclosed 58 = .ok (.getfield 43, 3) := by decide +kernel
theorem dX3_enclosed_61 : decode cX3_enclosed 61 = .ok (.invokevirtual 66, 3) := by decide +kernel
theorem dX3_enclosed_64 : decode cX3_enclosed 64 = .ok (.iload_n 2, 1) := by decide +kernel
theorem dX3_enclosed_65 : decode cX3_enclosed 65 = .ok (.ireturn, 1) := by decide +kernel
set_option maxHeartbeats 4000000 in
set_option maxRecDepth 100000 in
theorem c_X3_enclosed (l : Launch) (E : Nat → Nat) (D : va_G) (G : th_G) (k : Nat) : ∀ (h0 : Nat) (hG0 : G h0 = some (7, 12)) (x1 : Int32) (ft fp fn : Nat → Int32) (TT pp nc LL : Nat) (ZZ : Nat → Int) (YY : Nat → Bool) (nk : Nat) (XX : Nat × Bool) (hTK : TK ft fn TT ZZ YY) (dd : Nat) (hdd : x1.toInt = (dd : Int)) (hd8 : dd ≤ 8) (hk : 8 ≤ dd + k) (fl : List Nat) (hdp : pd_dp (fl) = dd) (hpd : pd_R ZZ YY TT (3, fl, nk, LL) pp = XX) (hc40 : (ft pp).toInt = 40), Met l yX3_enclosed (tb (.code yX3_enclosed cX3_enclosed 3 (some .boolean))) (rm (20 + 3 * k)) (va_Pc [.ref h0, .int x1] (PCx E D G (fun H => RC E D G h0 ft fp fn TT pp nc LL H))) (QCi E D G (fun r H => ((r : Int32) = 1 ∧ ∃ p2 L2 : Nat, RC E D G h0 ft fp fn TT p2 nc L2 H ∧ pp + 1 ≤ p2 ∧ pd_R ZZ YY TT (4, fl, nk, L2) p2 = XX) ∨ ((r : Int32) = 0 ∧ ∃ p2 L2 : Nat, RC E D G h0 ft fp fn TT p2 nc L2 H ∧ pp ≤ p2 ∧ XX = (p2, false)))) 0 0 (th_A G) := by
  induction k using Nat.strongRecOn with
  | ind k ih =>
  intro h0 hG0 x1 ft fp fn TT pp nc LL ZZ YY nk XX hTK dd hdd hd8 hk fl hdp hpd hc40
  refine Met.ofW (cc := cX3_enclosed) (maxL := 3) (ret := (some .boolean)) (by decide) rfl ?_
  intro p e s m args below meth c s₁ B hml hv
  obtain ⟨hav, ⟨hI, hN, hK⟩, hX⟩ := hv
  have hx := B.exec
  have hb := B.bytes
  have hr := B.returns
  have hts := atoms_spec (ws := tb (.code yX3_enclosed cX3_enclosed 3 (some .boolean))) B.pre
  have hown : s.vm.findClass RX3 = some m.cls := findClass_of_methodNamed B.named
  have hlocks := B.notSynchronized
  have hS : va_S (th_A G) s.heap s.heap [] := va_S.rf
  have hl := lv_entry ([.ref h0, .int x1]) (n := 3) (Nat.le_of_ble_eq_true rfl)
  rw [show entryFrame m args 3 = entryFrame m ([.ref h0, .int x1] : List Value).toArray 3 from by rw [hav], lg_entry_eq]
  generalize (lg_sl ([.ref h0, .int x1]) ++ List.replicate (3 - (lg_sl ([.ref h0, .int x1])).length) Slot.unset).toArray = ls at hl ⊢
  have hl : lv_has ls 3 [(0, .ref h0), (1, .int x1)] := hl
  generalize hR : (headSpec (tb (.code yX3_enclosed cX3_enclosed 3 (some .boolean))) (rm (20 + 3 * k))).room = R
  have hR := hR.symm
  generalize hQ : MQ below (QCi E D G (fun r H => ((r : Int32) = 1 ∧ ∃ p2 L2 : Nat, RC E D G h0 ft fp fn TT p2 nc L2 H ∧ pp + 1 ≤ p2 ∧ pd_R ZZ YY TT (4, fl, nk, L2) p2 = XX) ∨ ((r : Int32) = 0 ∧ ∃ p2 L2 : Nat, RC E D G h0 ft fp fn TT p2 nc L2 H ∧ pp ≤ p2 ∧ XX = (p2, false)))) args s 0 0 (th_A G) = QF
  have hQ := hQ.symm
  obtain ⟨hT4, hn12, ⟨a1, hf2, hq3, hA4⟩, ⟨a5, hf6, hq7, hA8⟩, ⟨a9, hf10, hq11, hA12⟩, ⟨w13, hg14, k15⟩, ⟨w16, hg17, k18⟩, ⟨w19, hg20, k21⟩, hpT, ⟨w22, hg23, k24⟩, ⟨w25, hg26, k27⟩⟩ := hX
  have k28 := iv_lo w19
  have k29 := iv_hi w19
  have k30 := TK.at hTK hpT
  refine lv_iload_n hx hb dX3_enclosed_0 rfl (lv_at hl 1 rfl) ?_
  refine lv_bipush (v := 8) hx hb dX3_enclosed_1 (by decide) ?_
  refine lv_icmp_lt (tgt := 8) hx hb dX3_enclosed_3 (by decide) (fun c31 => ?_) (fun c31 => ?_)
  · skip
    have k32 := iv_lt (X := x1.toInt) (Y := (8)) rfl (by decide) c31
    refine lv_aload_n hx hb dX3_enclosed_8 rfl (lv_at hl 0 rfl) ?_
    refine lv_aload_n hx hb dX3_enclosed_9 rfl (lv_at hl 0 rfl) ?_
    refine gmIC hx hb hts inT3 hown hK hI List.not_mem_nil hG0 10 (by decide) (hts _ (tb_c wd_139)) rfl rfl dX3_enclosed_10 (fun w33 hg34 k35 k36 => ?_)
    obtain rfl := gfC.uniq (by decide) hg23 hg34
    refine lv_iconst (v := 1) hx hb dX3_enclosed_13 (by decide) ?_
    refine lv_iadd hx hb dX3_enclosed_14 ?_
    refine lv_topi (fun v37 e38 => ?_)
    have tv37 : v37.toInt = w22.toInt + (1) := iv_add rfl (by decide) e38 (by omega) (by omega)
    have hpd39 : pd_R ZZ YY TT (3, 4 :: fl, nk, LL) (pp + 1) = XX := (pd_Q_br (by omega) (by omega) (by omega)).symm.trans hpd
    refine nx_v (As := [.int v37]) (rest := []) (n := 1) (d := 0) ⟨hx, hb, hml, hown, hts⟩ (c_X3_moveTo l E D G h0 hG0 v37 ft fp fn TT (pp + 1) nc LL (by first | omega | decide) (by omega)) wd_707 wd_709 wp_13 wd_5 wd_710 (by decide +kernel) ⟨by rw [hR]; show 0 + 1 ≤ 20 + 3 * k; omega, by rw [hR]; show 8 + (2 + 11) + 40 * (0) ≤ 40 * (20 + 3 * k); omega⟩ hI hN hK hS hG0 (⟨by omega, by omega, ⟨a1, hf2, hq3, hA4⟩, ⟨a5, hf6, hq7, hA8⟩, ⟨a9, hf10, hq11, hA12⟩, ⟨w13, hg14, by first | omega | decide⟩, ⟨w16, hg17, by first | omega | decide⟩, ⟨w19, hg20, by first | omega | decide⟩⟩) rfl hl.1 rfl (Nat.le_of_ble_eq_true rfl) dX3_enclosed_15 ⟨Nat.zero_le _, Nat.zero_le _⟩ (fun H locs hI hp hS => ?_)
    obtain ⟨hT4, hn12, ⟨a41, hf42, hq43, hA44⟩, ⟨a45, hf46, hq47, hA48⟩, ⟨a49, hf50, hq51, hA52⟩, ⟨w53, hg54, k55⟩, ⟨w56, hg57, k58⟩, ⟨w59, hg60, k61⟩, hpT, ⟨w62, hg63, k64⟩, ⟨w65, hg66, k67⟩⟩ := hp
    have k68 := iv_lo w59
    have k69 := iv_hi w59
    have k70 := TK.at hTK hpT
    refine lv_aload_n hx hb dX3_enclosed_18 rfl (lv_at hl 0 rfl) ?_
    refine lv_iload_n hx hb dX3_enclosed_19 rfl (lv_at hl 1 rfl) ?_
    refine lv_iconst (v := 1) hx hb dX3_enclosed_20 (by decide) ?_
    refine lv_iadd hx hb dX3_enclosed_21 ?_
    refine lv_topi (fun v71 e72 => ?_)
    have tv71 : v71.toInt = x1.toInt + (1) := iv_add rfl (by decide) e72 (by omega) (by omega)
    refine nx_i (As := [.int v71]) (rest := []) (n := 1) (d := (22 + 3 * (k - 1))) ⟨hx, hb, hml, hown, hts⟩ (c_X3_test l E D G (k - 1) h0 hG0 v71 ft fp fn TT (pp + 1) nc LL ZZ YY nk XX hTK (dd + 1) (by first | decide | omega) (by omega) (by omega) 4 fl (Or.inl rfl) (by rw [pd_dp4, hdp]) hpd39 (fun h9 g9 x9 f1 f2 f3 T9 p9 c9 L9 Z9 Y9 n9 X9 t9 d9 e1 e2 e3 l9 e4 e5 => c_X3_plain l E D G (k - 1) h9 g9 x9 f1 f2 f3 T9 p9 c9 L9 Z9 Y9 n9 X9 t9 d9 e1 e2 e3 l9 e4 e5 (ih (k - 1) (by omega)))) wd_731 wd_733 wp_19 wd_5 wd_734 (by decide +kernel) ⟨by rw [hR]; show (22 + 3 * (k - 1)) + 1 ≤ 20 + 3 * k; omega, by rw [hR]; show 8 + (7 + 11) + 40 * ((22 + 3 * (k - 1))) ≤ 40 * (20 + 3 * k); omega⟩ hI hN hK hS hG0 (⟨by omega, by omega, ⟨a41, hf42, hq43, hA44⟩, ⟨a45, hf46, hq47, hA48⟩, ⟨a49, hf50, hq51, hA52⟩, ⟨w53, hg54, by first | omega | decide⟩, ⟨w56, hg57, by first | omega | decide⟩, ⟨w59, hg60, by first | omega | decide⟩, by omega, ⟨w62, hg63, by first | omega | decide⟩, ⟨w65, hg66, by first | omega | decide⟩⟩) rfl hl.1 rfl (Nat.le_of_ble_eq_true rfl) dX3_enclosed_22 ⟨Nat.zero_le _, Nat.zero_le _⟩ (fun r73 H locs hI hp hS => ?_)
    rcases hp with ⟨rfl, hp⟩ | ⟨rfl, hp⟩
    · skip
      try simp only [rg, not_and, Int.not_le] at hp
      have hp74 := hp
      obtain ⟨pn75, Ln76, hE, k77, hpd78, hno79⟩ := hp74
      have hp74 : True := trivial
      obtain ⟨hT4, hn12, ⟨a80, hf81, hq82, hA83⟩, ⟨a84, hf85, hq86, hA87⟩, ⟨a88, hf89, hq90, hA91⟩, ⟨w92, hg93, k94⟩, ⟨w95, hg96, k97⟩, ⟨w98, hg99, k100⟩, hpT, ⟨w101, hg102, k103⟩, ⟨w104, hg105, k106⟩⟩ := hE
      have k107 := iv_lo w98
      have k108 := iv_hi w98
      have k109 := TK.at hTK hpT
      refine lv_if_eq (tgt := 41) hx hb dX3_enclosed_25 (by decide) (fun c => absurd c (by decide)) (fun _ => ?_)
      refine lv_aload_n hx hb dX3_enclosed_28 rfl (lv_at hl 0 rfl) ?_
      refine gmIC hx hb hts inT3 hown hK hI List.not_mem_nil hG0 11 (by decide) (hts _ (tb_c wd_140)) rfl rfl dX3_enclosed_29 (fun w110 hg111 k112 k113 => ?_)
      obtain rfl := gfC.uniq (by decide) hg105 hg111
      refine lv_bipush (v := 41) hx hb dX3_enclosed_32 (by decide) ?_
      have k114 := iv_lo w104
      have k115 := iv_hi w104
      refine lv_icmp_ne (tgt := 41) hx hb dX3_enclosed_34 (by decide) (fun c116 => ?_) (fun c116 => ?_)
      · skip
        have k117 := iv_ne (X := w104.toInt) (Y := (41)) rfl (by decide) c116
        refine lv_iconst (v := 0) hx hb dX3_enclosed_41 (by decide) ?_
        refine lv_istore_n (lv' := [(2, .int 0), (0, .ref h0), (1, .int x1)]) hx hb dX3_enclosed_42 rfl hl (by decide) rfl (fun ls hl => ?_)
        refine lv_aload_n hx hb dX3_enclosed_43 rfl (lv_at hl 1 rfl) ?_
        refine lv_iload_n hx hb dX3_enclosed_44 rfl (lv_at hl 0 rfl) ?_
        refine lv_if_eq (tgt := 57) hx hb dX3_enclosed_45 (by decide) (fun _ => ?_) (fun c => absurd c (by decide))
        refine lv_aload_n hx hb dX3_enclosed_57 rfl (lv_at hl 1 rfl) ?_
        refine gmIC hx hb hts inT3 hown hK hI List.not_mem_nil hG0 10 (by decide) (hts _ (tb_c wd_139)) rfl rfl dX3_enclosed_58 (fun w118 hg119 k120 k121 => ?_)
        obtain rfl := gfC.uniq (by decide) hg102 hg119
        refine nx_v (As := [.int w101]) (rest := []) (n := 1) (d := 0) ⟨hx, hb, hml, hown, hts⟩ (c_X3_moveTo l E D G h0 hG0 w101 ft fp fn TT pn75 nc Ln76 (by first | omega | decide) (by omega)) wd_707 wd_709 wp_13 wd_5 wd_710 (by decide +kernel) ⟨by rw [hR]; show 0 + 1 ≤ 20 + 3 * k; omega, by rw [hR]; show 8 + (2 + 11) + 40 * (0) ≤ 40 * (20 + 3 * k); omega⟩ hI hN hK hS hG0 (⟨by omega, by omega, ⟨a80, hf81, hq82, hA83⟩, ⟨a84, hf85, hq86, hA87⟩, ⟨a88, hf89, hq90, hA91⟩, ⟨w92, hg93, by first | omega | decide⟩, ⟨w95, hg96, by first | omega | decide⟩, ⟨w98, hg99, by first | omega | decide⟩⟩) rfl hl.1 rfl (Nat.le_of_ble_eq_true rfl) dX3_enclosed_61 ⟨Nat.zero_le _, Nat.zero_le _⟩ (fun H locs hI hp hS => ?_)
        obtain ⟨hT4, hn12, ⟨a123, hf124, hq125, hA126⟩, ⟨a127, hf128, hq129, hA130⟩, ⟨a131, hf132, hq133, hA134⟩, ⟨w135, hg136, k137⟩, ⟨w138, hg139, k140⟩, ⟨w141, hg142, k143⟩, hpT, ⟨w144, hg145, k146⟩, ⟨w147, hg148, k149⟩⟩ := hp
        have k150 := iv_lo w141
        have k151 := iv_hi w141
        have k152 := TK.at hTK hpT
        refine lv_iload_n hx hb dX3_enclosed_64 rfl (lv_at hl 0 rfl) ?_
        have hpost : ((0 : Int32) = 1 ∧ ∃ p2 L2 : Nat, RC E D G h0 ft fp fn TT p2 nc L2 H ∧ pp + 1 ≤ p2 ∧ pd_R ZZ YY TT (4, fl, nk, L2) p2 = XX) ∨ ((0 : Int32) = 0 ∧ ∃ p2 L2 : Nat, RC E D G h0 ft fp fn TT p2 nc L2 H ∧ pp ≤ p2 ∧ XX = (p2, false)) := Or.inr ⟨rfl, pn75, Ln76, ⟨by omega, by omega, ⟨a123, hf124, hq125, hA126⟩, ⟨a127, hf128, hq129, hA130⟩, ⟨a131, hf132, hq133, hA134⟩, ⟨w135, hg136, by first | omega | decide⟩, ⟨w138, hg139, by first | omega | decide⟩, ⟨w141, hg142, by first | omega | decide⟩, by omega, ⟨w144, hg145, by first | omega | decide⟩, ⟨w147, hg148, by first | omega | decide⟩⟩, by omega, (hpd78.symm.trans (pd_D_clno (fun h9 => ⟨by omega, by omega, by omega⟩)))⟩
        rw [hQ]
        exact W.zret (v := 0) hx hb hr (by decide) (fun t ht hW => ⟨⟨0, 0, rfl, rfl, ⟨by rw [ht]; exact hI, hN.warm hW, va_K.moved hW.alike hK⟩, by first | (rw [ht]; exact hpost) | exact hpost⟩, hS.F ht⟩) hS.2.2 dX3_enclosed_65
      · skip
        have k153 := iv_eq (X := w104.toInt) (Y := (41)) rfl (by decide) c116
        refine lv_iconst (v := 1) hx hb dX3_enclosed_37 (by decide) ?_
        refine lv_goto (tgt := 42) hx hb dX3_enclosed_38 (by decide) ?_
        refine lv_istore_n (lv' := [(2, .int 1), (0, .ref h0), (1, .int x1)]) hx hb dX3_enclosed_42 rfl hl (by decide) rfl (fun ls hl => ?_)
        refine lv_aload_n hx hb dX3_enclosed_43 rfl (lv_at hl 1 rfl) ?_
        refine lv_iload_n hx hb dX3_enclosed_44 rfl (lv_at hl 0 rfl) ?_
        refine lv_if_eq (tgt := 57) hx hb dX3_enclosed_45 (by decide) (fun c => absurd c (by decide)) (fun _ => ?_)
        refine lv_aload_n hx hb dX3_enclosed_48 rfl (lv_at hl 1 rfl) ?_
        refine gmIC hx hb hts inT3 hown hK hI List.not_mem_nil hG0 10 (by decide) (hts _ (tb_c wd_139)) rfl rfl dX3_enclosed_49 (fun w154 hg155 k156 k157 => ?_)
        obtain rfl := gfC.uniq (by decide) hg102 hg155
        refine lv_iconst (v := 1) hx hb dX3_enclosed_52 (by decide) ?_
        refine lv_iadd hx hb dX3_enclosed_53 ?_
        refine lv_topi (fun v158 e159 => ?_)
        have tv158 : v158.toInt = w101.toInt + (1) := iv_add rfl (by decide) e159 (by omega) (by omega)
        refine lv_goto (tgt := 61) hx hb dX3_enclosed_54 (by decide) ?_
        have hpd160 : pd_R ZZ YY TT (4, fl, nk, Ln76) (pn75 + 1) = XX := (pd_D_cl (by omega) (by omega)).symm.trans hpd78
        refine nx_v (As := [.int v158]) (rest := []) (n := 1) (d := 0) ⟨hx, hb, hml, hown, hts⟩ (c_X3_moveTo l E D G h0 hG0 v158 ft fp fn TT (pn75 + 1) nc Ln76 (by first | omega | decide) (by omega)) wd_707 wd_709 wp_13 wd_5 wd_710 (by decide +kernel) ⟨by rw [hR]; show 0 + 1 ≤ 20 + 3 * k; omega, by rw [hR]; show 8 + (2 + 11) + 40 * (0) ≤ 40 * (20 + 3 * k); omega⟩ hI hN hK hS hG0 (⟨by omega, by omega, ⟨a80, hf81, hq82, hA83⟩, ⟨a84, hf85, hq86, hA87⟩, ⟨a88, hf89, hq90, hA91⟩, ⟨w92, hg93, by first | omega | decide⟩, ⟨w95, hg96, by first | omega | decide⟩, ⟨w98, hg99, by first | omega | decide⟩⟩) rfl hl.1 rfl (Nat.le_of_ble_eq_true rfl) dX3_enclosed_61 ⟨Nat.zero_le _, Nat.zero_le _⟩ (fun H locs hI hp hS => ?_)
        obtain ⟨hT4, hn12, ⟨a162, hf163, hq164, hA165⟩, ⟨a166, hf167, hq168, hA169⟩, ⟨a170, hf171, hq172, hA173⟩, ⟨w174, hg175, k176⟩, ⟨w177, hg178, k179⟩, ⟨w180, hg181, k182⟩, hpT, ⟨w183, hg184, k185⟩, ⟨w186, hg187, k188⟩⟩ := hp
        have k189 := iv_lo w180
        have k190 := iv_hi w180
        have k191 := TK.at hTK hpT
        refine lv_iload_n hx hb dX3_enclosed_64 rfl (lv_at hl 0 rfl) ?_
        have hpost : ((1 : Int32) = 1 ∧ ∃ p2 L2 : Nat, RC E D G h0 ft fp fn TT p2 nc L2 H ∧ pp + 1 ≤ p2 ∧ pd_R ZZ YY TT (4, fl, nk, L2) p2 = XX) ∨ ((1 : Int32) = 0 ∧ ∃ p2 L2 : Nat, RC E D G h0 ft fp fn TT p2 nc L2 H ∧ pp ≤ p2 ∧ XX = (p2, false)) := Or.inl ⟨rfl, (pn75 + 1), Ln76, ⟨by omega, by omega, ⟨a162, hf163, hq164, hA165⟩, ⟨a166, hf167, hq168, hA169⟩, ⟨a170, hf171, hq172, hA173⟩, ⟨w174, hg175, by first | omega | decide⟩, ⟨w177, hg178, by first | omega | decide⟩, ⟨w180, hg181, by first | omega | decide⟩, by omega, ⟨w183, hg184, by first | omega | decide⟩, ⟨w186, hg187, by first | omega | decide⟩⟩, by omega, hpd160⟩
        rw [hQ]
        exact W.zret (v := 1) hx hb hr (by decide) (fun t ht hW => ⟨⟨1, 1, rfl, rfl, ⟨by rw [ht]; exact hI, hN.warm hW, va_K.moved hW.alike hK⟩, by first | (rw [ht]; exact hpost) | exact hpost⟩, hS.F ht⟩) hS.2.2 dX3_enclosed_65
    · skip
      try simp only [rg, not_and, Int.not_le] at hp
      have hp192 := hp
      obtain ⟨pn193, Ln194, hE, k195, hfl196⟩ := hp192
      have hp192 : True := trivial
      obtain ⟨hT4, hn12, ⟨a197, hf198, hq199, hA200⟩, ⟨a201, hf202, hq203, hA204⟩, ⟨a205, hf206, hq207, hA208⟩, ⟨w209, hg210, k211⟩, ⟨w212, hg213, k214⟩, ⟨w215, hg216, k217⟩, hpT, ⟨w218, hg219, k220⟩, ⟨w221, hg222, k223⟩⟩ := hE
      have k224 := iv_lo w215
      have k225 := iv_hi w215
      have k226 := TK.at hTK hpT
      refine lv_if_eq (tgt := 41) hx hb dX3_enclosed_25 (by decide) (fun _ => ?_) (fun c => absurd c (by decide))
      refine lv_iconst (v := 0) hx hb dX3_enclosed_41 (by decide) ?_
      refine lv_istore_n (lv' := [(2, .int 0), (0, .ref h0), (1, .int x1)]) hx hb dX3_enclosed_42 rfl hl (by decide) rfl (fun ls hl => ?_)
      refine lv_aload_n hx hb dX3_enclosed_43 rfl (lv_at hl 1 rfl) ?_
      refine lv_iload_n hx hb dX3_enclosed_44 rfl (lv_at hl 0 rfl) ?_
      refine lv_if_eq (tgt := 57) hx hb dX3_enclosed_45 (by decide) (fun _ => ?_) (fun c => absurd c (by decide))
      refine lv_aload_n hx hb dX3_enclosed_57 rfl (lv_at hl 1 rfl) ?_
      refine gmIC hx hb hts inT3 hown hK hI List.not_mem_nil hG0 10 (by decide) (hts _ (tb_c wd_139)) rfl rfl dX3_enclosed_58 (fun w227 hg228 k229 k230 => ?_)
      obtain rfl := gfC.uniq (by decide) hg219 hg228
      refine nx_v (As := [.int w218]) (rest := []) (n := 1) (d := 0) ⟨hx, hb, hml, hown, hts⟩ (c_X3_moveTo l E D G h0 hG0 w218 ft fp fn TT pn193 nc Ln194 (by first | omega | decide) (by omega)) wd_707 wd_709 wp_13 wd_5 wd_710 (by decide +kernel) ⟨by rw [hR]; show 0 + 1 ≤ 20 + 3 * k; omega, by rw [hR]; show 8 + (2 + 11) + 40 * (0) ≤ 40 * (20 + 3 * k); omega⟩ hI hN hK hS hG0 (⟨by omega, by omega, ⟨a197, hf198, hq199, hA200⟩, ⟨a201, hf202, hq203, hA204⟩, ⟨a205, hf206, hq207, hA208⟩, ⟨w209, hg210, by first | omega | decide⟩, ⟨w212, hg213, by first | omega | decide⟩, ⟨w215, hg216, by first | omega | decide⟩⟩) rfl hl.1 rfl (Nat.le_of_ble_eq_true rfl) dX3_enclosed_61 ⟨Nat.zero_le _, Nat.zero_le _⟩ (fun H locs hI hp hS => ?_)
      obtain ⟨hT4, hn12, ⟨a232, hf233, hq234, hA235⟩, ⟨a236, hf237, hq238, hA239⟩, ⟨a240, hf241, hq242, hA243⟩, ⟨w244, hg245, k246⟩, ⟨w247, hg248, k249⟩, ⟨w250, hg251, k252⟩, hpT, ⟨w253, hg254, k255⟩, ⟨w256, hg257, k258⟩⟩ := hp
      have k259 := iv_lo w250
      have k260 := iv_hi w250
      have k261 := TK.at hTK hpT
      refine lv_iload_n hx hb dX3_enclosed_64 rfl (lv_at hl 0 rfl) ?_
      have hpost : ((0 : Int32) = 1 ∧ ∃ p2 L2 : Nat, RC E D G h0 ft fp fn TT p2 nc L2 H ∧ pp + 1 ≤ p2 ∧ pd_R ZZ YY TT (4, fl, nk, L2) p2 = XX) ∨ ((0 : Int32) = 0 ∧ ∃ p2 L2 : Nat, RC E D G h0 ft fp fn TT p2 nc L2 H ∧ pp ≤ p2 ∧ XX = (p2, false)) := Or.inr ⟨rfl, pn193, Ln194, ⟨by omega, by omega, ⟨a232, hf233, hq234, hA235⟩, ⟨a236, hf237, hq238, hA239⟩, ⟨a240, hf241, hq242, hA243⟩, ⟨w244, hg245, by first | omega | decide⟩, ⟨w247, hg248, by first | omega | decide⟩, ⟨w250, hg251, by first | omega | decide⟩, by omega, ⟨w253, hg254, by first | omega | decide⟩, ⟨w256, hg257, by first | omega | decide⟩⟩, by omega, hfl196⟩
      rw [hQ]
      exact W.zret (v := 0) hx hb hr (by decide) (fun t ht hW => ⟨⟨0, 0, rfl, rfl, ⟨by rw [ht]; exact hI, hN.warm hW, va_K.moved hW.alike hK⟩, by first | (rw [ht]; exact hpost) | exact hpost⟩, hS.F ht⟩) hS.2.2 dX3_enclosed_65
  · skip
    have k262 := iv_nlt (X := x1.toInt) (Y := (8)) rfl (by decide) c31
    refine lv_iconst (v := 0) hx hb dX3_enclosed_6 (by decide) ?_
    have hpost : ((0 : Int32) = 1 ∧ ∃ p2 L2 : Nat, RC E D G h0 ft fp fn TT p2 nc L2 s.heap ∧ pp + 1 ≤ p2 ∧ pd_R ZZ YY TT (4, fl, nk, L2) p2 = XX) ∨ ((0 : Int32) = 0 ∧ ∃ p2 L2 : Nat, RC E D G h0 ft fp fn TT p2 nc L2 s.heap ∧ pp ≤ p2 ∧ XX = (p2, false)) := Or.inr ⟨rfl, pp, LL, ⟨by omega, by omega, ⟨a1, hf2, hq3, hA4⟩, ⟨a5, hf6, hq7, hA8⟩, ⟨a9, hf10, hq11, hA12⟩, ⟨w13, hg14, by first | omega | decide⟩, ⟨w16, hg17, by first | omega | decide⟩, ⟨w19, hg20, by first | omega | decide⟩, by omega, ⟨w22, hg23, by first | omega | decide⟩, ⟨w25, hg26, by first | omega | decide⟩⟩, by omega, (hpd.symm.trans (pd_Q_brno (fun h9 => by omega) (by omega)))⟩
    rw [hQ]
    exact W.zret (v := 0) hx hb hr (by decide) (fun t ht hW => ⟨⟨0, 0, rfl, rfl, ⟨by rw [ht]; exact hI, hN.warm hW, va_K.moved hW.alike hK⟩, by first | (rw [ht]; exact hpost) | exact hpost⟩, hS.F ht⟩) hS.2.2 dX3_enclosed_7
theorem dX3_clause_0 : decode cX3_clause 0 = .ok (.aload_n 0, 1) := by decide +kernel
theorem dX3_clause_1 : decode cX3_clause 1 = .ok (.getfield 34, 3) := by decide +kernel
theorem dX3_clause_4 : decode cX3_clause 4 = .ok (.bipush 12, 2) := by decide +kernel
theorem dX3_clause_6 : decode cX3_clause 6 = .ok (.if_icmp .ge 23, 3) := by decide +kernel
theorem dX3_clause_9 : decode cX3_clause 9 = .ok (.aload_n 0, 1) := by decide +kernel
theorem dX3_clause_10 : decode cX3_clause 10 = .ok (.getfield 46, 3) := by decide +kernel
theorem dX3_clause_13 : decode cX3_clause 13 = .ok (.sipush 256, 3) := by decide +kernel
theorem dX3_clause_16 : decode cX3_clause 16 = .ok (.if_icmp .lt 13, 3) := by decide +kernel
theorem dX3_clause_19 : decode cX3_clause 19 = .ok (.aload_n 0, 1) := by decide +kernel
theorem dX3_clause_20 : decode cX3_clause 20 = .ok (.getfield 46, 3) := by decide +kernel
theorem dX3_clause_23 : decode cX3_clause 23 = .ok (.sipush 259, 3) := by decide +kernel
theorem dX3_clause_26 : decode cX3_clause 26 = .ok (.if_icmp .le 5, 3) := by decide +kernel
theorem dX3_clause_29 : decode cX3_clause 29 = .ok (.iconst 0, 1) := by decide +kernel
theorem dX3_clause_30 : decode cX3_clause 30 = .ok (.ireturn, 1) := by decide +kernel
theorem dX3_clause_31 : decode cX3_clause 31 = .ok (.aload_n 0, 1) := by decide +kernel
theorem dX3_clause_32 : decode cX3_clause 32 = .ok (.getfield 11, 3) := by decide +kernel
theorem dX3_clause_35 : decode cX3_clause 35 = .ok (.aload_n 0, 1) := by decide +kernel
theorem dX3_clause_36 : decode cX3_clause 36 = .ok (.getfield 34, 3) := by decide +kernel
theorem dX3_clause_39 : decode cX3_clause 39 = .ok (.aload_n 0, 1) := by decide +kernel
theorem dX3_clause_40 : decode cX3_clause 40 = .ok (.getfield 46, 3) := by decide +kernel
theorem dX3_clause_43 : decode cX3_clause 43 = .ok (.sipush 256, 3) := by decide +kernel
theorem dX3_clause_46 : decode cX3_clause 46 = .ok (.isub, 1) := by decide +kernel
theorem dX3_clause_47 : decode cX3_clause 47 = .ok (.iastore, 1) := by decide +kernel
theorem dX3_clause_48 : decode cX3_clause 48 = .ok (.aload_n 0, 1) := by decide +kernel
theorem dX3_clause_49 : decode cX3_clause 49 = .ok (.getfield 46, 3) := by decide +kernel
theorem dX3_clause_52 : decode cX3_clause 52 = .ok (.sipush 259, 3) := by decide +kernel
theorem dX3_clause_55 : decode cX3_clause 55 = .ok (.if_icmp .eq 7, 3) := by decide +kernel
theorem dX3_clause_58 : decode cX3_clause 58 = .ok (.iconst 1, 1) := by decide +kernel
theorem dX3_clause_59 : decode cX3_clause 59 = .ok (.goto 4, 3) := by decide +kernel
theorem dX3_clause_62 : decode cX3_clause 62 = .ok (.iconst 0, 1) := by decide +kernel
theorem dX3_clause_63 : decode cX3_clause 63 = .ok (.istore_n 1, 1) := by decide +kernel
theorem dX3_clause_64 : decode cX3_clause 64 = .ok (.aload_n 0, 1) := by decide +kernel
theorem dX3_clause_65 : decode cX3_clause 65 = .ok (.getfield 15, 3) := by decide +kernel
theorem dX3_clause_68 : decode cX3_clause 68 = .ok (.iconst 2, 1) := by decide +kernel
theorem dX3_clause_69 : decode cX3_clause 69 = .ok (.aload_n 0, 1) := by decide +kernel
theorem dX3_clause_70 : decode cX3_clause 70 = .ok (.getfield 34, 3) := by decide +kernel
theorem dX3_clause_73 : decode cX3_clause 73 = .ok (.imul, 1) := by decide +kernel
theorem dX3_clause_74 : decode cX3_clause 74 = .ok (.aload_n 0, 1) := by decide +kernel
theorem dX3_clause_75 : decode cX3_clause 75 = .ok (.getfield 40, 3) := by decide +kernel
theorem dX3_clause_78 : decode cX3_clause 78 = .ok (.iastore, 1) := by decide +kernel
theorem dX3_clause_79 : decode cX3_clause 79 = .ok (.aload_n 0, 1) := by decide +kernel
theorem dX3_clause_80 : decode cX3_clause 80 = .ok (.aload_n 0, 1) := by decide +kernel
theorem dX3_clause_81 : decode cX3_clause 81 = .ok (.getfield 43, 3) := by decide +kernel
theorem dX3_clause_84 : decode cX3_clause 84 = .ok (.iconst 1, 1) := by decide +kernel
theorem dX3_clause_85 : decode cX3_clause 85 = .ok (.iadd, 1) := by decide +kernel
theorem dX3_clause_86 : decode cX3_clause 86 = .ok (.invokevirtual 66, 3) := by decide +kernel
theorem dX3_clause_89 : decode cX3_clause 89 = .ok (.iload_n 1, 1) := by decide +kernel
theorem dX3_clause_90 : decode cX3_clause 90 = .ok (.ifCond .eq 13, 3) := by decide +kernel
theorem dX3_clause_93 : decode cX3_clause 93 = .ok (.aload_n 0, 1) := by decide +kernel
theorem dX3_clause_94 : decode cX3_clause 94 = .ok (.iconst 0, 1) := by decide +kernel
theorem dX3_clause_95 : decode cX3_clause 95 = .ok (.invokevirtual 97, 3) := by decide +kernel
theorem dX3_clause_98 : decode cX3_clause 98 = .ok (.ifCond .ne 5, 3) := by decide +kernel
theorem dX3_clause_101 : decode cX3_clause 101 = .ok (.iconst 0, 1) := by decide +kernel
theorem dX3_clause_102 : decode cX3_clause 102 = .ok (.ireturn, 1) := by decide +kernel
theorem dX3_clause_103 : decode cX3_clause 103 = .ok (.aload_n 0, 1) := by decide +kernel
theorem dX3_clause_104 : decode cX3_clause 104 = .ok (.getfield 15, 3) := by decide +kernel
theorem dX3_clause_107 : decode cX3_clause 107 = .ok (.iconst 2, 1) := by decide +kernel
theorem dX3_clause_108 : decode cX3_clause 108 = .ok (.aload_n 0, 1) := by decide +kernel
theorem dX3_clause_109 : decode cX3_clause 109 = .ok (.getfield 34, 3) := by decide +kernel
theorem dX3_clause_112 : decode cX3_clause 112 = .ok (.imul, 1) := by decide +kernel
theorem dX3_clause_113 : decode cX3_clause 113 = .ok (.iconst 1, 1) := by decide +kernel
theorem dX3_clause_114 : decode cX3_clause 114 = .ok (.iadd, 1) := by decide +kernel
theorem dX3_clause_115 : decode cX3_clause 115 = .ok (.aload_n 0, 1) := by decide +kernel
theorem dX3_clause_116 : decode cX3_clause 116 = .ok (.getfield 40, 3) := by decide +kernel
theorem dX3_clause_119 : decode cX3_clause 119 = .ok (.iastore, 1) := by decide +kernel
theorem dX3_clause_120 : decode cX3_clause 120 = .ok (.aload_n 0, 1) := by decide +kernel
theorem dX3_clause_121 : decode cX3_clause 121 = .ok (.getfield 46, 3) := by decide +kernel
theorem dX3_clause_124 : decode cX3_clause 124 = .ok (.sipush 260, 3) := by decide +kernel
theorem dX3_clause_127 : decode cX3_clause 127 = .ok (.if_icmp .ne 23, 3) := by decide +kernel
theorem dX3_clause_130 : decode cX3_clause 130 = .ok (.aload_n 0, 1) := by decide +kernel
theorem dX3_clause_131 : decode cX3_clause 131 = .ok (.aload_n 0, 1) := by decide +kernel
theorem dX3_clause_132 : decode cX3_clause 132 = .ok (.getfield 43, 3) := by decide +kernel
theorem dX3_clause_135 : decode cX3_clause 135 = .ok (.iconst 1, 1) := by decide +kernel
theorem dX3_clause_136 : decode cX3_clause 136 = .ok (.iadd, 1) := by decide +kernel
theorem dX3_clause_137 : decode cX3_clause 137 = .ok (.invokevirtual 66, 3) := by decide +kernel
theorem dX3_clause_140 : decode cX3_clause 140 = .ok (.aload_n 0, 1) := by decide +kernel
theorem dX3_clause_141 : decode cX3_clause 141 = .ok (.iconst 0, 1) := by decide +kernel
theorem dX3_clause_142 : decode cX3_clause 142 = .ok (.invokevirtual 100, 3) := by decide +kernel
theorem dX3_clause_145 : decode cX3_clause 145 = .ok (.ifCond .ne 5, 3) := by decide +kernel
theorem dX3_clause_148 : decode cX3_clause 148 = .ok (.iconst 0, 1) := by decide +kernel
theorem dX3_clause_149 : decode cX3_clause 149 = .ok (.ireturn, 1) := by decide +kernel
theorem dX3_clause_150 : decode cX3_clause 150 = .ok (.aload_n 0, 1) := by decide +kernel
theorem dX3_clause_151 : decode cX3_clause 151 = .ok (.dup, 1) := by decide +kernel
theorem dX3_clause_152 : decode cX3_clause 152 = .ok (.getfield 34, 3) := by decide +kernel
theorem dX3_clause_155 : decode cX3_clause 155 = .ok (.iconst 1, 1) := by decide +kernel
theorem dX3_clause_156 : decode cX3_clause 156 = .ok (.iadd, 1) := by decide +kernel
theorem dX3_clause_157 : decode cX3_clause 157 = .ok (.putfield 34, 3) := by decide +kernel
theorem dX3_clause_160 : decode cX3_clause 160 = .ok (.aload_n 0, 1) := by decide +kernel
theorem dX3_clause_161 : decode cX3_clause 161 = .ok (.getfield 15, 3) := by decide +kernel
theorem dX3_clause_164 : decode cX3_clause 164 = .ok (.iconst 2, 1) := by decide +kernel
theorem dX3_clause_165 : decode cX3_clause 165 = .ok (.aload_n 0, 1) := by decide +kernel
theorem dX3_clause_166 : decode cX3_clause 166 = .ok (.getfield 34, 3) := by decide +kernel
theorem dX3_clause_169 : decode cX3_clause 169 = .ok (.imul, 1) := by decide +kernel
theorem dX3_clause_170 : decode cX3_clause 170 = .ok (.aload_n 0, 1) := by decide +kernel
theorem dX3_clause_171 : decode cX3_clause 171 = .ok (.getfield 40, 3) := by decide +kernel
theorem dX3_clause_174 : decode cX3_clause 174 = .ok (.iastore, 1) := by decide +kernel
theorem dX3_clause_175 : decode cX3_clause 175 = .ok (.iconst 1, 1) := by decide +kernel
theorem dX3_clause_176 : decode cX3_clause 176 = .ok (.ireturn, 1) := by decide +kernel
set_option maxHeartbeats 4000000 in
set_option maxRecDepth 100000 in
theorem c_X3_clause (l : Launch) (E : Nat → Nat) (D : va_G) (G : th_G) (h0 : Nat) (hG0 : G h0 = some (7, 12)) (ft fp fn : Nat → Int32) (TT pp nc LL : Nat) (ZZ : Nat → Int) (YY : Nat → Bool) (nk : Nat) (XX : Nat × Bool) (hTK : TK ft fn TT ZZ YY) (hnk : nk = nc) (hpd : pd_R ZZ YY TT (0, [], nk, LL) pp = XX) : Met l yX3_clause (tb (.code yX3_clause cX3_clause 2 (some .boolean))) (rm 47) (va_Pc [.ref h0] (PCx E D G (fun H => RC E D G h0 ft fp fn TT pp nc LL H))) (QCi E D G (fun r H => ((r : Int32) = 1 ∧ ∃ p2 L2 : Nat, RC E D G h0 ft fp fn TT p2 (nc + 1) L2 H ∧ pp + 1 ≤ p2 ∧ pd_R ZZ YY TT (5, [], nk + 1, L2) p2 = XX) ∨ ((r : Int32) = 0 ∧ ∃ p2 L2 : Nat, RC E D G h0 ft fp fn TT p2 nc L2 H ∧ pp ≤ p2 ∧ XX = (p2, false)))) 0 0 (th_A G) := by
  refine Met.ofW (cc := cX3_clause) (maxL := 2) (ret := (some .boolean)) (by decide) rfl ?_
  intro p e s m args below meth c s₁ B hml hv
  obtain ⟨hav, ⟨hI, hN, hK⟩, hX⟩ := hv
  have hx := B.exec
  have hb := B.bytes
  have hr := B.returns
  have hts := atoms_spec (ws := tb (.code yX3_clause cX3_clause 2 (some .boolean))) B.pre
  have hown : s.vm.findClass RX3 = some m.cls := findClass_of_methodNamed B.named
  have hlocks := B.notSynchronized
  have hS : va_S (th_A G) s.heap s.heap [] := va_S.rf
  have hl := lv_entry ([.ref h0]) (n := 2) (Nat.le_of_ble_eq_true rfl)
  rw [show entryFrame m args 2 = entryFrame m ([.ref h0] : List Value).toArray 2 from by rw [hav], lg_entry_eq]
  generalize (lg_sl ([.ref h0]) ++ List.replicate (2 - (lg_sl ([.ref h0])).length) Slot.unset).toArray = ls at hl ⊢
  have hl : lv_has ls 2 [(0, .ref h0)] := hl
  generalize hR : (headSpec (tb (.code yX3_clause cX3_clause 2 (some .boolean))) (rm 47)).room = R
  have hR := hR.symm
  generalize hQ : MQ below (QCi E D G (fun r H => ((r : Int32) = 1 ∧ ∃ p2 L2 : Nat, RC E D G h0 ft fp fn TT p2 (nc + 1) L2 H ∧ pp + 1 ≤ p2 ∧ pd_R ZZ YY TT (5, [], nk + 1, L2) p2 = XX) ∨ ((r : Int32) = 0 ∧ ∃ p2 L2 : Nat, RC E D G h0 ft fp fn TT p2 nc L2 H ∧ pp ≤ p2 ∧ XX = (p2, false)))) args s 0 0 (th_A G) = QF
  have hQ := hQ.symm
  obtain ⟨hT4, hn12, ⟨a1, hf2, hq3, hA4⟩, ⟨a5, hf6, hq7, hA8⟩, ⟨a9, hf10, hq11, hA12⟩, ⟨w13, hg14, k15⟩, ⟨w16, hg17, k18⟩, ⟨w19, hg20, k21⟩, hpT, ⟨w22, hg23, k24⟩, ⟨w25, hg26, k27⟩⟩ := hX
  have k28 := iv_lo w19
  have k29 := iv_hi w19
  have k30 := TK.at hTK hpT
  refine lv_aload_n hx hb dX3_clause_0 rfl (lv_at hl 0 rfl) ?_
  refine gmIC hx hb hts inT3 hown hK hI List.not_mem_nil hG0 7 (by decide) (hts _ (tb_c wd_136)) rfl rfl dX3_clause_1 (fun w31 hg32 k33 k34 => ?_)
  obtain rfl := gfC.uniq (by decide) hg17 hg32
  refine lv_bipush (v := 12) hx hb dX3_clause_4 (by decide) ?_
  refine lv_icmp_ge (tgt := 29) hx hb dX3_clause_6 (by decide) (fun c35 => ?_) (fun c35 => ?_)
  · skip
    have k36 := iv_le (X := (12)) (Y := w16.toInt) (by decide) rfl c35
    refine lv_iconst (v := 0) hx hb dX3_clause_29 (by decide) ?_
    have hpost : ((0 : Int32) = 1 ∧ ∃ p2 L2 : Nat, RC E D G h0 ft fp fn TT p2 (nc + 1) L2 s.heap ∧ pp + 1 ≤ p2 ∧ pd_R ZZ YY TT (5, [], nk + 1, L2) p2 = XX) ∨ ((0 : Int32) = 0 ∧ ∃ p2 L2 : Nat, RC E D G h0 ft fp fn TT p2 nc L2 s.heap ∧ pp ≤ p2 ∧ XX = (p2, false)) := Or.inr ⟨rfl, pp, LL, ⟨by omega, by omega, ⟨a1, hf2, hq3, hA4⟩, ⟨a5, hf6, hq7, hA8⟩, ⟨a9, hf10, hq11, hA12⟩, ⟨w13, hg14, by first | omega | decide⟩, ⟨w16, hg17, by first | omega | decide⟩, ⟨w19, hg20, by first | omega | decide⟩, by omega, ⟨w22, hg23, by first | omega | decide⟩, ⟨w25, hg26, by first | omega | decide⟩⟩, by omega, (hpd.symm.trans (pd_H_no (fun h9 h10 => by omega)))⟩
    rw [hQ]
    exact W.zret (v := 0) hx hb hr (by decide) (fun t ht hW => ⟨⟨0, 0, rfl, rfl, ⟨by rw [ht]; exact hI, hN.warm hW, va_K.moved hW.alike hK⟩, by first | (rw [ht]; exact hpost) | exact hpost⟩, hS.F ht⟩) hS.2.2 dX3_clause_30
  · skip
    have k37 := iv_nle (X := (12)) (Y := w16.toInt) (by decide) rfl c35
    refine lv_aload_n hx hb dX3_clause_9 rfl (lv_at hl 0 rfl) ?_
    refine gmIC hx hb hts inT3 hown hK hI List.not_mem_nil hG0 11 (by decide) (hts _ (tb_c wd_140)) rfl rfl dX3_clause_10 (fun w38 hg39 k40 k41 => ?_)
    obtain rfl := gfC.uniq (by decide) hg26 hg39
    refine lv_sipush (v := 256) hx hb dX3_clause_13 (by decide) ?_
    have k42 := iv_lo w25
    have k43 := iv_hi w25
    refine lv_icmp_lt (tgt := 29) hx hb dX3_clause_16 (by decide) (fun c44 => ?_) (fun c44 => ?_)
    · skip
      have k45 := iv_lt (X := w25.toInt) (Y := (256)) rfl (by decide) c44
      refine lv_iconst (v := 0) hx hb dX3_clause_29 (by decide) ?_
      have hpost : ((0 : Int32) = 1 ∧ ∃ p2 L2 : Nat, RC E D G h0 ft fp fn TT p2 (nc + 1) L2 s.heap ∧ pp + 1 ≤ p2 ∧ pd_R ZZ YY TT (5, [], nk + 1, L2) p2 = XX) ∨ ((0 : Int32) = 0 ∧ ∃ p2 L2 : Nat, RC E D G h0 ft fp fn TT p2 nc L2 s.heap ∧ pp ≤ p2 ∧ XX = (p2, false)) := Or.inr ⟨rfl, pp, LL, ⟨by omega, by omega, ⟨a1, hf2, hq3, hA4⟩, ⟨a5, hf6, hq7, hA8⟩, ⟨a9, hf10, hq11, hA12⟩, ⟨w13, hg14, by first | omega | decide⟩, ⟨w16, hg17, by first | omega | decide⟩, ⟨w19, hg20, by first | omega | decide⟩, by omega, ⟨w22, hg23, by first | omega | decide⟩, ⟨w25, hg26, by first | omega | decide⟩⟩, by omega, (hpd.symm.trans (pd_H_no (fun h9 h10 => by omega)))⟩
      rw [hQ]
      exact W.zret (v := 0) hx hb hr (by decide) (fun t ht hW => ⟨⟨0, 0, rfl, rfl, ⟨by rw [ht]; exact hI, hN.warm hW, va_K.moved hW.alike hK⟩, by first | (rw [ht]; exact hpost) | exact hpost⟩, hS.F ht⟩) hS.2.2 dX3_clause_30
    · skip
      have k46 := iv_nlt (X := w25.toInt) (Y := (256)) rfl (by decide) c44
      refine lv_aload_n hx hb dX3_clause_19 rfl (lv_at hl 0 rfl) ?_
      refine gmIC hx hb hts inT3 hown hK hI List.not_mem_nil hG0 11 (by decide) (hts _ (tb_c wd_140)) rfl rfl dX3_clause_20 (fun w47 hg48 k49 k50 => ?_)
      obtain rfl := gfC.uniq (by decide) hg26 hg48
      refine lv_sipush (v := 259) hx hb dX3_clause_23 (by decide) ?_
      refine lv_icmp_le (tgt := 31) hx hb dX3_clause_26 (by decide) (fun c51 => ?_) (fun c51 => ?_)
      · skip
        have k52 := iv_le (X := w25.toInt) (Y := (259)) rfl (by decide) c51
        refine lv_aload_n hx hb dX3_clause_31 rfl (lv_at hl 0 rfl) ?_
        refine gmAC hx hb hts inT3 hown hK hI List.not_mem_nil hG0 0 (by decide) (hts _ (tb_c wd_129)) rfl rfl dX3_clause_32 (fun a53 hq54 hf55 => ?_)
        refine lv_aload_n hx hb dX3_clause_35 rfl (lv_at hl 0 rfl) ?_
        refine gmIC hx hb hts inT3 hown hK hI List.not_mem_nil hG0 7 (by decide) (hts _ (tb_c wd_136)) rfl rfl dX3_clause_36 (fun w56 hg57 k58 k59 => ?_)
        obtain rfl := gfC.uniq (by decide) hg17 hg57
        refine lv_aload_n hx hb dX3_clause_39 rfl (lv_at hl 0 rfl) ?_
        refine gmIC hx hb hts inT3 hown hK hI List.not_mem_nil hG0 11 (by decide) (hts _ (tb_c wd_140)) rfl rfl dX3_clause_40 (fun w60 hg61 k62 k63 => ?_)
        obtain rfl := gfC.uniq (by decide) hg26 hg61
        refine lv_sipush (v := 256) hx hb dX3_clause_43 (by decide) ?_
        refine lv_isub hx hb dX3_clause_46 ?_
        refine lv_topi (fun v64 e65 => ?_)
        have tv64 : v64.toInt = w25.toInt - (256) := iv_sub rfl (by decide) e65 (by omega) (by omega)
        obtain ⟨F66, hA67⟩ := op_0 hI hq54 List.not_mem_nil
        refine th_iast hx hb hK hA67 0 rfl hS ⟨_, hq54⟩ (iv_in (X := w16.toInt) rfl (by omega) (by omega)) dX3_clause_47 (fun H locs hA68 oq hS => ?_)
        have hI := th_I.put hI hq54 hA68 ok_0 oq
        have hg14 := gfC.arr hG0 hq54 (by decide) oq hg14
        have hg17 := gfC.arr hG0 hq54 (by decide) oq hg17
        have hg20 := gfC.arr hG0 hq54 (by decide) oq hg20
        have hg23 := gfC.arr hG0 hq54 (by decide) oq hg23
        have hg26 := gfC.arr hG0 hq54 (by decide) oq hg26
        have hf2 := frC.arr hG0 hq54 (by decide) oq hf2
        have hf6 := frC.arr hG0 hq54 (by decide) oq hf6
        have hf10 := frC.arr hG0 hq54 (by decide) oq hf10
        have hf55 := frC.arr hG0 hq54 (by decide) oq hf55
        have hA4 := va_at.kept hA4 (oq _ (m_ne hq3 hq54 (by first | decide | (dsimp only; decide))))
        have hA8 := va_at.kept hA8 (oq _ (m_ne hq7 hq54 (by first | decide | (dsimp only; decide))))
        have hA12 := va_at.kept hA12 (oq _ (m_ne hq11 hq54 (by first | decide | (dsimp only; decide))))
        have e69 : v64 = (upd F66 (w16 : Int32).toNatClampNeg v64) (w16 : Int32).toNatClampNeg := rd_us
        refine lv_aload_n hx hb dX3_clause_48 rfl (lv_at hl 0 rfl) ?_
        refine gmIC hx hb hts inT3 hown hK hI List.not_mem_nil hG0 11 (by decide) (hts _ (tb_c wd_140)) rfl rfl dX3_clause_49 (fun w70 hg71 k72 k73 => ?_)
        obtain rfl := gfC.uniq (by decide) hg26 hg71
        refine lv_sipush (v := 259) hx hb dX3_clause_52 (by decide) ?_
        refine lv_icmp_eq (tgt := 62) hx hb dX3_clause_55 (by decide) (fun c74 => ?_) (fun c74 => ?_)
        · skip
          have k75 := iv_eq (X := w25.toInt) (Y := (259)) rfl (by decide) c74
          refine lv_iconst (v := 0) hx hb dX3_clause_62 (by decide) ?_
          refine lv_istore_n (lv' := [(1, .int 0), (0, .ref h0)]) hx hb dX3_clause_63 rfl hl (by decide) rfl (fun ls hl => ?_)
          refine lv_aload_n hx hb dX3_clause_64 rfl (lv_at hl 1 rfl) ?_
          refine gmAC hx hb hts inT3 hown hK hI List.not_mem_nil hG0 1 (by decide) (hts _ (tb_c wd_130)) rfl rfl dX3_clause_65 (fun a76 hq77 hf78 => ?_)
          refine lv_iconst (v := 2) hx hb dX3_clause_68 (by decide) ?_
          refine lv_aload_n hx hb dX3_clause_69 rfl (lv_at hl 1 rfl) ?_
          refine gmIC hx hb hts inT3 hown hK hI List.not_mem_nil hG0 7 (by decide) (hts _ (tb_c wd_136)) rfl rfl dX3_clause_70 (fun w79 hg80 k81 k82 => ?_)
          obtain rfl := gfC.uniq (by decide) hg17 hg80
          refine lv_imul hx hb dX3_clause_73 ?_
          refine lv_topi (fun v83 e84 => ?_)
          have tv83 : v83.toInt = (2) * w16.toInt := iv_mul (by decide) rfl e84 (by omega) (by omega)
          refine lv_aload_n hx hb dX3_clause_74 rfl (lv_at hl 1 rfl) ?_
          refine gmIC hx hb hts inT3 hown hK hI List.not_mem_nil hG0 9 (by decide) (hts _ (tb_c wd_138)) rfl rfl dX3_clause_75 (fun w85 hg86 k87 k88 => ?_)
          obtain ⟨F89, hA90⟩ := op_0 hI hq77 List.not_mem_nil
          refine th_iast hx hb hK hA90 0 rfl hS ⟨_, hq77⟩ (iv_in (X := v83.toInt) rfl (by omega) (by omega)) dX3_clause_78 (fun H locs hA91 oq hS => ?_)
          have hI := th_I.put hI hq77 hA91 ok_0 oq
          have hg14 := gfC.arr hG0 hq77 (by decide) oq hg14
          have hg17 := gfC.arr hG0 hq77 (by decide) oq hg17
          have hg20 := gfC.arr hG0 hq77 (by decide) oq hg20
          have hg23 := gfC.arr hG0 hq77 (by decide) oq hg23
          have hg26 := gfC.arr hG0 hq77 (by decide) oq hg26
          have hg86 := gfC.arr hG0 hq77 (by decide) oq hg86
          have hf2 := frC.arr hG0 hq77 (by decide) oq hf2
          have hf6 := frC.arr hG0 hq77 (by decide) oq hf6
          have hf10 := frC.arr hG0 hq77 (by decide) oq hf10
          have hf55 := frC.arr hG0 hq77 (by decide) oq hf55
          have hf78 := frC.arr hG0 hq77 (by decide) oq hf78
          have hA4 := va_at.kept hA4 (oq _ (m_ne hq3 hq77 (by first | decide | (dsimp only; decide))))
          have hA8 := va_at.kept hA8 (oq _ (m_ne hq7 hq77 (by first | decide | (dsimp only; decide))))
          have hA12 := va_at.kept hA12 (oq _ (m_ne hq11 hq77 (by first | decide | (dsimp only; decide))))
          have e92 : w85 = (upd F89 (v83 : Int32).toNatClampNeg w85) (v83 : Int32).toNatClampNeg := rd_us
          refine lv_aload_n hx hb dX3_clause_79 rfl (lv_at hl 1 rfl) ?_
          refine lv_aload_n hx hb dX3_clause_80 rfl (lv_at hl 1 rfl) ?_
          refine gmIC hx hb hts inT3 hown hK hI List.not_mem_nil hG0 10 (by decide) (hts _ (tb_c wd_139)) rfl rfl dX3_clause_81 (fun w93 hg94 k95 k96 => ?_)
          obtain rfl := gfC.uniq (by decide) hg23 hg94
          refine lv_iconst (v := 1) hx hb dX3_clause_84 (by decide) ?_
          refine lv_iadd hx hb dX3_clause_85 ?_
          refine lv_topi (fun v97 e98 => ?_)
          have tv97 : v97.toInt = w22.toInt + (1) := iv_add rfl (by decide) e98 (by omega) (by omega)
          have hpd99 : pd_R ZZ YY TT (4, [0], nk + 1, LL) (pp + 1) = XX := (pd_H_ba (by omega) (by omega) (by omega)).symm.trans hpd
          refine nx_v (As := [.int v97]) (rest := []) (n := 1) (d := 0) ⟨hx, hb, hml, hown, hts⟩ (c_X3_moveTo l E D G h0 hG0 v97 ft fp fn TT (pp + 1) nc LL (by first | omega | decide) (by omega)) wd_707 wd_709 wp_13 wd_5 wd_710 (by decide +kernel) ⟨by rw [hR]; exact Nat.le_of_ble_eq_true rfl, by rw [hR]; exact Nat.le_of_ble_eq_true rfl⟩ hI hN hK hS hG0 (⟨by omega, by omega, ⟨a1, hf2, hq3, hA4⟩, ⟨a5, hf6, hq7, hA8⟩, ⟨a9, hf10, hq11, hA12⟩, ⟨w13, hg14, by first | omega | decide⟩, ⟨w16, hg17, by first | omega | decide⟩, ⟨w19, hg20, by first | omega | decide⟩⟩) rfl hl.1 rfl (Nat.le_of_ble_eq_true rfl) dX3_clause_86 ⟨Nat.zero_le _, Nat.zero_le _⟩ (fun H locs hI hp hS => ?_)
          obtain ⟨hT4, hn12, ⟨a101, hf102, hq103, hA104⟩, ⟨a105, hf106, hq107, hA108⟩, ⟨a109, hf110, hq111, hA112⟩, ⟨w113, hg114, k115⟩, ⟨w116, hg117, k118⟩, ⟨w119, hg120, k121⟩, hpT, ⟨w122, hg123, k124⟩, ⟨w125, hg126, k127⟩⟩ := hp
          have k128 := iv_lo w119
          have k129 := iv_hi w119
          have k130 := TK.at hTK hpT
          refine lv_iload_n hx hb dX3_clause_89 rfl (lv_at hl 0 rfl) ?_
          refine lv_if_eq (tgt := 103) hx hb dX3_clause_90 (by decide) (fun _ => ?_) (fun c => absurd c (by decide))
          refine lv_aload_n hx hb dX3_clause_103 rfl (lv_at hl 1 rfl) ?_
          refine gmAC hx hb hts inT3 hown hK hI List.not_mem_nil hG0 1 (by decide) (hts _ (tb_c wd_130)) rfl rfl dX3_clause_104 (fun a131 hq132 hf133 => ?_)
          refine lv_iconst (v := 2) hx hb dX3_clause_107 (by decide) ?_
          refine lv_aload_n hx hb dX3_clause_108 rfl (lv_at hl 1 rfl) ?_
          refine gmIC hx hb hts inT3 hown hK hI List.not_mem_nil hG0 7 (by decide) (hts _ (tb_c wd_136)) rfl rfl dX3_clause_109 (fun w134 hg135 k136 k137 => ?_)
          obtain rfl := gfC.uniq (by decide) hg117 hg135
          refine lv_imul hx hb dX3_clause_112 ?_
          refine lv_topi (fun v138 e139 => ?_)
          have tv138 : v138.toInt = (2) * w116.toInt := iv_mul (by decide) rfl e139 (by omega) (by omega)
          refine lv_iconst (v := 1) hx hb dX3_clause_113 (by decide) ?_
          refine lv_iadd hx hb dX3_clause_114 ?_
          refine lv_topi (fun v140 e141 => ?_)
          have tv140 : v140.toInt = v138.toInt + (1) := iv_add rfl (by decide) e141 (by omega) (by omega)
          refine lv_aload_n hx hb dX3_clause_115 rfl (lv_at hl 1 rfl) ?_
          refine gmIC hx hb hts inT3 hown hK hI List.not_mem_nil hG0 9 (by decide) (hts _ (tb_c wd_138)) rfl rfl dX3_clause_116 (fun w142 hg143 k144 k145 => ?_)
          obtain ⟨F146, hA147⟩ := op_0 hI hq132 List.not_mem_nil
          refine th_iast hx hb hK hA147 0 rfl hS ⟨_, hq132⟩ (iv_in (X := v140.toInt) rfl (by omega) (by omega)) dX3_clause_119 (fun H locs hA148 oq hS => ?_)
          have hI := th_I.put hI hq132 hA148 ok_0 oq
          have hg114 := gfC.arr hG0 hq132 (by decide) oq hg114
          have hg117 := gfC.arr hG0 hq132 (by decide) oq hg117
          have hg120 := gfC.arr hG0 hq132 (by decide) oq hg120
          have hg123 := gfC.arr hG0 hq132 (by decide) oq hg123
          have hg126 := gfC.arr hG0 hq132 (by decide) oq hg126
          have hg143 := gfC.arr hG0 hq132 (by decide) oq hg143
          have hf102 := frC.arr hG0 hq132 (by decide) oq hf102
          have hf106 := frC.arr hG0 hq132 (by decide) oq hf106
          have hf110 := frC.arr hG0 hq132 (by decide) oq hf110
          have hf133 := frC.arr hG0 hq132 (by decide) oq hf133
          have hA104 := va_at.kept hA104 (oq _ (m_ne hq103 hq132 (by first | decide | (dsimp only; decide))))
          have hA108 := va_at.kept hA108 (oq _ (m_ne hq107 hq132 (by first | decide | (dsimp only; decide))))
          have hA112 := va_at.kept hA112 (oq _ (m_ne hq111 hq132 (by first | decide | (dsimp only; decide))))
          have e149 : w142 = (upd F146 (v140 : Int32).toNatClampNeg w142) (v140 : Int32).toNatClampNeg := rd_us
          refine lv_aload_n hx hb dX3_clause_120 rfl (lv_at hl 1 rfl) ?_
          refine gmIC hx hb hts inT3 hown hK hI List.not_mem_nil hG0 11 (by decide) (hts _ (tb_c wd_140)) rfl rfl dX3_clause_121 (fun w150 hg151 k152 k153 => ?_)
          obtain rfl := gfC.uniq (by decide) hg126 hg151
          refine lv_sipush (v := 260) hx hb dX3_clause_124 (by decide) ?_
          have k154 := iv_lo w125
          have k155 := iv_hi w125
          refine lv_icmp_ne (tgt := 150) hx hb dX3_clause_127 (by decide) (fun c156 => ?_) (fun c156 => ?_)
          · skip
            have k157 := iv_ne (X := w125.toInt) (Y := (260)) rfl (by decide) c156
            have hpd158 : pd_R ZZ YY TT (5, [], nk + 1, LL) (pp + 1) = XX := (pd_D_c0 (fun h9 => by omega)).symm.trans hpd99
            refine lv_aload_n hx hb dX3_clause_150 rfl (lv_at hl 1 rfl) ?_
            refine lv_dup hx hb dX3_clause_151 rfl ?_
            refine gmIC hx hb hts inT3 hown hK hI List.not_mem_nil hG0 7 (by decide) (hts _ (tb_c wd_136)) rfl rfl dX3_clause_152 (fun w159 hg160 k161 k162 => ?_)
            obtain rfl := gfC.uniq (by decide) hg117 hg160
            refine lv_iconst (v := 1) hx hb dX3_clause_155 (by decide) ?_
            refine lv_iadd hx hb dX3_clause_156 ?_
            refine lv_topi (fun v163 e164 => ?_)
            have tv163 : v163.toInt = w116.toInt + (1) := iv_add rfl (by decide) e164 (by omega) (by omega)
            refine pmIC (ty := .int) hx hb hts inT3 hown hK hI List.not_mem_nil hG0 hS ⟨_, hG0⟩ 7 (by decide) (hts _ (tb_c wd_136)) rfl rfl (by decide +kernel) rfl rfl rfl (by omega) (by omega) dX3_clause_157 (fun H locs hI hgP hS => ?_)
            have hg114 := hgP.2.2.1 6 _ (by decide) (by decide) hg114
            have hg120 := hgP.2.2.1 8 _ (by decide) (by decide) hg120
            have hg123 := hgP.2.2.1 10 _ (by decide) (by decide) hg123
            have hg126 := hgP.2.2.1 11 _ (by decide) (by decide) hg126
            have hg143 := hgP.2.2.1 9 _ (by decide) (by decide) hg143
            have hg165 := hgP.2.1
            have hf102 := hgP.2.2.2 3 _ (by decide) (by decide) hf102
            have hf106 := hgP.2.2.2 4 _ (by decide) (by decide) hf106
            have hf110 := hgP.2.2.2 5 _ (by decide) (by decide) hf110
            have hf133 := hgP.2.2.2 1 _ (by decide) (by decide) hf133
            have hA104 := va_at.kept hA104 (hgP.1 _ (m_ne hq103 hG0 (by first | decide | (dsimp only; decide))))
            have hA108 := va_at.kept hA108 (hgP.1 _ (m_ne hq107 hG0 (by first | decide | (dsimp only; decide))))
            have hA112 := va_at.kept hA112 (hgP.1 _ (m_ne hq111 hG0 (by first | decide | (dsimp only; decide))))
            have hA148 := va_at.kept hA148 (hgP.1 _ (m_ne hq132 hG0 (by first | decide | (dsimp only; decide))))
            refine lv_aload_n hx hb dX3_clause_160 rfl (lv_at hl 1 rfl) ?_
            refine gmAC hx hb hts inT3 hown hK hI List.not_mem_nil hG0 1 (by decide) (hts _ (tb_c wd_130)) rfl rfl dX3_clause_161 (fun a166 hq167 hf168 => ?_)
            obtain rfl := frC.uniq (by decide) hf133 hf168
            refine lv_iconst (v := 2) hx hb dX3_clause_164 (by decide) ?_
            refine lv_aload_n hx hb dX3_clause_165 rfl (lv_at hl 1 rfl) ?_
            refine gmIC hx hb hts inT3 hown hK hI List.not_mem_nil hG0 7 (by decide) (hts _ (tb_c wd_136)) rfl rfl dX3_clause_166 (fun w169 hg170 k171 k172 => ?_)
            obtain rfl := gfC.uniq (by decide) hg165 hg170
            refine lv_imul hx hb dX3_clause_169 ?_
            refine lv_topi (fun v173 e174 => ?_)
            have tv173 : v173.toInt = (2) * v163.toInt := iv_mul (by decide) rfl e174 (by omega) (by omega)
            refine lv_aload_n hx hb dX3_clause_170 rfl (lv_at hl 1 rfl) ?_
            refine gmIC hx hb hts inT3 hown hK hI List.not_mem_nil hG0 9 (by decide) (hts _ (tb_c wd_138)) rfl rfl dX3_clause_171 (fun w175 hg176 k177 k178 => ?_)
            obtain rfl := gfC.uniq (by decide) hg143 hg176
            refine th_iast hx hb hK hA148 0 rfl hS ⟨_, hq132⟩ (iv_in (X := v173.toInt) rfl (by omega) (by omega)) dX3_clause_174 (fun H locs hA179 oq hS => ?_)
            have hI := th_I.put hI hq132 hA179 ok_0 oq
            have hg114 := gfC.arr hG0 hq132 (by decide) oq hg114
            have hg165 := gfC.arr hG0 hq132 (by decide) oq hg165
            have hg120 := gfC.arr hG0 hq132 (by decide) oq hg120
            have hg123 := gfC.arr hG0 hq132 (by decide) oq hg123
            have hg126 := gfC.arr hG0 hq132 (by decide) oq hg126
            have hg143 := gfC.arr hG0 hq132 (by decide) oq hg143
            have hf102 := frC.arr hG0 hq132 (by decide) oq hf102
            have hf106 := frC.arr hG0 hq132 (by decide) oq hf106
            have hf110 := frC.arr hG0 hq132 (by decide) oq hf110
            have hf133 := frC.arr hG0 hq132 (by decide) oq hf133
            have hA104 := va_at.kept hA104 (oq _ (m_ne hq103 hq132 (by first | decide | (dsimp only; decide))))
            have hA108 := va_at.kept hA108 (oq _ (m_ne hq107 hq132 (by first | decide | (dsimp only; decide))))
            have hA112 := va_at.kept hA112 (oq _ (m_ne hq111 hq132 (by first | decide | (dsimp only; decide))))
            have e180 := rd_un (i := v140) (j := v173) (v := w142) e149 (X := v140.toInt) (Y := v173.toInt) rfl rfl (by omega) (by omega) (by omega)
            have e181 : w142 = (upd (upd F146 (v140 : Int32).toNatClampNeg w142) (v173 : Int32).toNatClampNeg w142) (v173 : Int32).toNatClampNeg := rd_us
            refine lv_iconst (v := 1) hx hb dX3_clause_175 (by decide) ?_
            have hpost : ((1 : Int32) = 1 ∧ ∃ p2 L2 : Nat, RC E D G h0 ft fp fn TT p2 (nc + 1) L2 H ∧ pp + 1 ≤ p2 ∧ pd_R ZZ YY TT (5, [], nk + 1, L2) p2 = XX) ∨ ((1 : Int32) = 0 ∧ ∃ p2 L2 : Nat, RC E D G h0 ft fp fn TT p2 nc L2 H ∧ pp ≤ p2 ∧ XX = (p2, false)) := Or.inl ⟨rfl, (pp + 1), LL, ⟨by omega, by omega, ⟨a101, hf102, hq103, hA104⟩, ⟨a105, hf106, hq107, hA108⟩, ⟨a109, hf110, hq111, hA112⟩, ⟨w113, hg114, by first | omega | decide⟩, ⟨v163, hg165, by first | omega | decide⟩, ⟨w119, hg120, by first | omega | decide⟩, by omega, ⟨w122, hg123, by first | omega | decide⟩, ⟨w125, hg126, by first | omega | decide⟩⟩, by omega, hpd158⟩
            rw [hQ]
            exact W.zret (v := 1) hx hb hr (by decide) (fun t ht hW => ⟨⟨1, 1, rfl, rfl, ⟨by rw [ht]; exact hI, hN.warm hW, va_K.moved hW.alike hK⟩, by first | (rw [ht]; exact hpost) | exact hpost⟩, hS.F ht⟩) hS.2.2 dX3_clause_176
          · skip
            have k182 := iv_eq (X := w125.toInt) (Y := (260)) rfl (by decide) c156
            refine lv_aload_n hx hb dX3_clause_130 rfl (lv_at hl 1 rfl) ?_
            refine lv_aload_n hx hb dX3_clause_131 rfl (lv_at hl 1 rfl) ?_
            refine gmIC hx hb hts inT3 hown hK hI List.not_mem_nil hG0 10 (by decide) (hts _ (tb_c wd_139)) rfl rfl dX3_clause_132 (fun w183 hg184 k185 k186 => ?_)
            obtain rfl := gfC.uniq (by decide) hg123 hg184
            refine lv_iconst (v := 1) hx hb dX3_clause_135 (by decide) ?_
            refine lv_iadd hx hb dX3_clause_136 ?_
            refine lv_topi (fun v187 e188 => ?_)
            have tv187 : v187.toInt = w122.toInt + (1) := iv_add rfl (by decide) e188 (by omega) (by omega)
            have hpd189 : pd_R ZZ YY TT (3, [5], nk + 1, LL) ((pp + 1) + 1) = XX := (pd_D_if (by omega) (by omega)).symm.trans hpd99
            refine nx_v (As := [.int v187]) (rest := []) (n := 1) (d := 0) ⟨hx, hb, hml, hown, hts⟩ (c_X3_moveTo l E D G h0 hG0 v187 ft fp fn TT ((pp + 1) + 1) nc LL (by first | omega | decide) (by omega)) wd_707 wd_709 wp_13 wd_5 wd_710 (by decide +kernel) ⟨by rw [hR]; exact Nat.le_of_ble_eq_true rfl, by rw [hR]; exact Nat.le_of_ble_eq_true rfl⟩ hI hN hK hS hG0 (⟨by omega, by omega, ⟨a101, hf102, hq103, hA104⟩, ⟨a105, hf106, hq107, hA108⟩, ⟨a109, hf110, hq111, hA112⟩, ⟨w113, hg114, by first | omega | decide⟩, ⟨w116, hg117, by first | omega | decide⟩, ⟨w119, hg120, by first | omega | decide⟩⟩) rfl hl.1 rfl (Nat.le_of_ble_eq_true rfl) dX3_clause_137 ⟨Nat.zero_le _, Nat.zero_le _⟩ (fun H locs hI hp hS => ?_)
            obtain ⟨hT4, hn12, ⟨a191, hf192, hq193, hA194⟩, ⟨a195, hf196, hq197, hA198⟩, ⟨a199, hf200, hq201, hA202⟩, ⟨w203, hg204, k205⟩, ⟨w206, hg207, k208⟩, ⟨w209, hg210, k211⟩, hpT, ⟨w212, hg213, k214⟩, ⟨w215, hg216, k217⟩⟩ := hp
            have k218 := iv_lo w209
            have k219 := iv_hi w209
            have k220 := TK.at hTK hpT
            refine lv_aload_n hx hb dX3_clause_140 rfl (lv_at hl 1 rfl) ?_
            refine lv_iconst (v := 0) hx hb dX3_clause_141 (by decide) ?_
            refine nx_i (As := [.int 0]) (rest := []) (n := 1) (d := 46) ⟨hx, hb, hml, hown, hts⟩ (c_X3_test l E D G 8 h0 hG0 0 ft fp fn TT ((pp + 1) + 1) nc LL ZZ YY (nk + 1) XX hTK 0 (by first | decide | omega) (by omega) (by omega) 5 [] (Or.inr rfl) rfl hpd189 (fun h9 g9 x9 f1 f2 f3 T9 p9 c9 L9 Z9 Y9 n9 X9 t9 d9 e1 e2 e3 l9 e4 e5 => c_X3_plain l E D G 8 h9 g9 x9 f1 f2 f3 T9 p9 c9 L9 Z9 Y9 n9 X9 t9 d9 e1 e2 e3 l9 e4 e5 (c_X3_enclosed l E D G 8))) wd_731 wd_733 wp_19 wd_5 wd_734 (by decide +kernel) ⟨by rw [hR]; exact Nat.le_of_ble_eq_true rfl, by rw [hR]; exact Nat.le_of_ble_eq_true rfl⟩ hI hN hK hS hG0 (⟨by omega, by omega, ⟨a191, hf192, hq193, hA194⟩, ⟨a195, hf196, hq197, hA198⟩, ⟨a199, hf200, hq201, hA202⟩, ⟨w203, hg204, by first | omega | decide⟩, ⟨w206, hg207, by first | omega | decide⟩, ⟨w209, hg210, by first | omega | decide⟩, by omega, ⟨w212, hg213, by first | omega | decide⟩, ⟨w215, hg216, by first | omega | decide⟩⟩) rfl hl.1 rfl (Nat.le_of_ble_eq_true rfl) dX3_clause_142 ⟨Nat.zero_le _, Nat.zero_le _⟩ (fun r221 H locs hI hp hS => ?_)
            rcases hp with ⟨rfl, hp⟩ | ⟨rfl, hp⟩
            · skip
              try simp only [rg, not_and, Int.not_le] at hp
              have hp222 := hp
              obtain ⟨pn223, Ln224, hE, k225, hpd226, hno227⟩ := hp222
              have hp222 : True := trivial
              obtain ⟨hT4, hn12, ⟨a228, hf229, hq230, hA231⟩, ⟨a232, hf233, hq234, hA235⟩, ⟨a236, hf237, hq238, hA239⟩, ⟨w240, hg241, k242⟩, ⟨w243, hg244, k245⟩, ⟨w246, hg247, k248⟩, hpT, ⟨w249, hg250, k251⟩, ⟨w252, hg253, k254⟩⟩ := hE
              have k255 := iv_lo w246
              have k256 := iv_hi w246
              have k257 := TK.at hTK hpT
              have hpd258 : pd_R ZZ YY TT (5, [], nk + 1, Ln224) pn223 = XX := (pd_D_c5 (fun h9 => ⟨by omega, by omega⟩)).symm.trans hpd226
              try rw [show (0 : Int32).toInt = 0 from by decide] at hp222
              refine lv_if_ne (tgt := 150) hx hb dX3_clause_145 (by decide) (fun _ => ?_) (fun c => absurd c (by decide))
              refine lv_aload_n hx hb dX3_clause_150 rfl (lv_at hl 1 rfl) ?_
              refine lv_dup hx hb dX3_clause_151 rfl ?_
              refine gmIC hx hb hts inT3 hown hK hI List.not_mem_nil hG0 7 (by decide) (hts _ (tb_c wd_136)) rfl rfl dX3_clause_152 (fun w259 hg260 k261 k262 => ?_)
              obtain rfl := gfC.uniq (by decide) hg244 hg260
              refine lv_iconst (v := 1) hx hb dX3_clause_155 (by decide) ?_
              refine lv_iadd hx hb dX3_clause_156 ?_
              refine lv_topi (fun v263 e264 => ?_)
              have tv263 : v263.toInt = w243.toInt + (1) := iv_add rfl (by decide) e264 (by omega) (by omega)
              refine pmIC (ty := .int) hx hb hts inT3 hown hK hI List.not_mem_nil hG0 hS ⟨_, hG0⟩ 7 (by decide) (hts _ (tb_c wd_136)) rfl rfl (by decide +kernel) rfl rfl rfl (by omega) (by omega) dX3_clause_157 (fun H locs hI hgP hS => ?_)
              have hg241 := hgP.2.2.1 6 _ (by decide) (by decide) hg241
              have hg247 := hgP.2.2.1 8 _ (by decide) (by decide) hg247
              have hg250 := hgP.2.2.1 10 _ (by decide) (by decide) hg250
              have hg253 := hgP.2.2.1 11 _ (by decide) (by decide) hg253
              have hg265 := hgP.2.1
              have hf229 := hgP.2.2.2 3 _ (by decide) (by decide) hf229
              have hf233 := hgP.2.2.2 4 _ (by decide) (by decide) hf233
              have hf237 := hgP.2.2.2 5 _ (by decide) (by decide) hf237
              have hA231 := va_at.kept hA231 (hgP.1 _ (m_ne hq230 hG0 (by first | decide | (dsimp only; decide))))
              have hA235 := va_at.kept hA235 (hgP.1 _ (m_ne hq234 hG0 (by first | decide | (dsimp only; decide))))
              have hA239 := va_at.kept hA239 (hgP.1 _ (m_ne hq238 hG0 (by first | decide | (dsimp only; decide))))
              refine lv_aload_n hx hb dX3_clause_160 rfl (lv_at hl 1 rfl) ?_
              refine gmAC hx hb hts inT3 hown hK hI List.not_mem_nil hG0 1 (by decide) (hts _ (tb_c wd_130)) rfl rfl dX3_clause_161 (fun a266 hq267 hf268 => ?_)
              refine lv_iconst (v := 2) hx hb dX3_clause_164 (by decide) ?_
              refine lv_aload_n hx hb dX3_clause_165 rfl (lv_at hl 1 rfl) ?_
              refine gmIC hx hb hts inT3 hown hK hI List.not_mem_nil hG0 7 (by decide) (hts _ (tb_c wd_136)) rfl rfl dX3_clause_166 (fun w269 hg270 k271 k272 => ?_)
              obtain rfl := gfC.uniq (by decide) hg265 hg270
              refine lv_imul hx hb dX3_clause_169 ?_
              refine lv_topi (fun v273 e274 => ?_)
              have tv273 : v273.toInt = (2) * v263.toInt := iv_mul (by decide) rfl e274 (by omega) (by omega)
              refine lv_aload_n hx hb dX3_clause_170 rfl (lv_at hl 1 rfl) ?_
              refine gmIC hx hb hts inT3 hown hK hI List.not_mem_nil hG0 9 (by decide) (hts _ (tb_c wd_138)) rfl rfl dX3_clause_171 (fun w275 hg276 k277 k278 => ?_)
              obtain ⟨F279, hA280⟩ := op_0 hI hq267 List.not_mem_nil
              refine th_iast hx hb hK hA280 0 rfl hS ⟨_, hq267⟩ (iv_in (X := v273.toInt) rfl (by omega) (by omega)) dX3_clause_174 (fun H locs hA281 oq hS => ?_)
              have hI := th_I.put hI hq267 hA281 ok_0 oq
              have hg241 := gfC.arr hG0 hq267 (by decide) oq hg241
              have hg265 := gfC.arr hG0 hq267 (by decide) oq hg265
              have hg247 := gfC.arr hG0 hq267 (by decide) oq hg247
              have hg250 := gfC.arr hG0 hq267 (by decide) oq hg250
              have hg253 := gfC.arr hG0 hq267 (by decide) oq hg253
              have hg276 := gfC.arr hG0 hq267 (by decide) oq hg276
              have hf229 := frC.arr hG0 hq267 (by decide) oq hf229
              have hf233 := frC.arr hG0 hq267 (by decide) oq hf233
              have hf237 := frC.arr hG0 hq267 (by decide) oq hf237
              have hf268 := frC.arr hG0 hq267 (by decide) oq hf268
              have hA231 := va_at.kept hA231 (oq _ (m_ne hq230 hq267 (by first | decide | (dsimp only; decide))))
              have hA235 := va_at.kept hA235 (oq _ (m_ne hq234 hq267 (by first | decide | (dsimp only; decide))))
              have hA239 := va_at.kept hA239 (oq _ (m_ne hq238 hq267 (by first | decide | (dsimp only; decide))))
              have e282 : w275 = (upd F279 (v273 : Int32).toNatClampNeg w275) (v273 : Int32).toNatClampNeg := rd_us
              refine lv_iconst (v := 1) hx hb dX3_clause_175 (by decide) ?_
              have hpost : ((1 : Int32) = 1 ∧ ∃ p2 L2 : Nat, RC E D G h0 ft fp fn TT p2 (nc + 1) L2 H ∧ pp + 1 ≤ p2 ∧ pd_R ZZ YY TT (5, [], nk + 1, L2) p2 = XX) ∨ ((1 : Int32) = 0 ∧ ∃ p2 L2 : Nat, RC E D G h0 ft fp fn TT p2 nc L2 H ∧ pp ≤ p2 ∧ XX = (p2, false)) := Or.inl ⟨rfl, pn223, Ln224, ⟨by omega, by omega, ⟨a228, hf229, hq230, hA231⟩, ⟨a232, hf233, hq234, hA235⟩, ⟨a236, hf237, hq238, hA239⟩, ⟨w240, hg241, by first | omega | decide⟩, ⟨v263, hg265, by first | omega | decide⟩, ⟨w246, hg247, by first | omega | decide⟩, by omega, ⟨w249, hg250, by first | omega | decide⟩, ⟨w252, hg253, by first | omega | decide⟩⟩, by omega, hpd258⟩
              rw [hQ]
              exact W.zret (v := 1) hx hb hr (by decide) (fun t ht hW => ⟨⟨1, 1, rfl, rfl, ⟨by rw [ht]; exact hI, hN.warm hW, va_K.moved hW.alike hK⟩, by first | (rw [ht]; exact hpost) | exact hpost⟩, hS.F ht⟩) hS.2.2 dX3_clause_176
            · skip
              try simp only [rg, not_and, Int.not_le] at hp
              have hp283 := hp
              obtain ⟨pn284, Ln285, hE, k286, hfl287⟩ := hp283
              have hp283 : True := trivial
              obtain ⟨hT4, hn12, ⟨a288, hf289, hq290, hA291⟩, ⟨a292, hf293, hq294, hA295⟩, ⟨a296, hf297, hq298, hA299⟩, ⟨w300, hg301, k302⟩, ⟨w303, hg304, k305⟩, ⟨w306, hg307, k308⟩, hpT, ⟨w309, hg310, k311⟩, ⟨w312, hg313, k314⟩⟩ := hE
              have k315 := iv_lo w306
              have k316 := iv_hi w306
              have k317 := TK.at hTK hpT
              try rw [show (0 : Int32).toInt = 0 from by decide] at hp283
              refine lv_if_ne (tgt := 150) hx hb dX3_clause_145 (by decide) (fun c => absurd c (by decide)) (fun _ => ?_)
              refine lv_iconst (v := 0) hx hb dX3_clause_148 (by decide) ?_
              have hpost : ((0 : Int32) = 1 ∧ ∃ p2 L2 : Nat, RC E D G h0 ft fp fn TT p2 (nc + 1) L2 H ∧ pp + 1 ≤ p2 ∧ pd_R ZZ YY TT (5, [], nk + 1, L2) p2 = XX) ∨ ((0 : Int32) = 0 ∧ ∃ p2 L2 : Nat, RC E D G h0 ft fp fn TT p2 nc L2 H ∧ pp ≤ p2 ∧ XX = (p2, false)) := Or.inr ⟨rfl, pn284, Ln285, ⟨by omega, by omega, ⟨a288, hf289, hq290, hA291⟩, ⟨a292, hf293, hq294, hA295⟩, ⟨a296, hf297, hq298, hA299⟩, ⟨w300, hg301, by first | omega | decide⟩, ⟨w303, hg304, by first | omega | decide⟩, ⟨w306, hg307, by first | omega | decide⟩, by omega, ⟨w309, hg310, by first | omega | decide⟩, ⟨w312, hg313, by first | omega | decide⟩⟩, by omega, hfl287⟩
              rw [hQ]
              exact W.zret (v := 0) hx hb hr (by decide) (fun t ht hW => ⟨⟨0, 0, rfl, rfl, ⟨by rw [ht]; exact hI, hN.warm hW, va_K.moved hW.alike hK⟩, by first | (rw [ht]; exact hpost) | exact hpost⟩, hS.F ht⟩) hS.2.2 dX3_clause_149
        · skip
          have k318 := iv_ne (X := w25.toInt) (Y := (259)) rfl (by decide) c74
          refine lv_iconst (v := 1) hx hb dX3_clause_58 (by decide) ?_
          refine lv_goto (tgt := 63) hx hb dX3_clause_59 (by decide) ?_
          refine lv_istore_n (lv' := [(1, .int 1), (0, .ref h0)]) hx hb dX3_clause_63 rfl hl (by decide) rfl (fun ls hl => ?_)
          refine lv_aload_n hx hb dX3_clause_64 rfl (lv_at hl 1 rfl) ?_
          refine gmAC hx hb hts inT3 hown hK hI List.not_mem_nil hG0 1 (by decide) (hts _ (tb_c wd_130)) rfl rfl dX3_clause_65 (fun a319 hq320 hf321 => ?_)
          refine lv_iconst (v := 2) hx hb dX3_clause_68 (by decide) ?_
          refine lv_aload_n hx hb dX3_clause_69 rfl (lv_at hl 1 rfl) ?_
          refine gmIC hx hb hts inT3 hown hK hI List.not_mem_nil hG0 7 (by decide) (hts _ (tb_c wd_136)) rfl rfl dX3_clause_70 (fun w322 hg323 k324 k325 => ?_)
          obtain rfl := gfC.uniq (by decide) hg17 hg323
          refine lv_imul hx hb dX3_clause_73 ?_
          refine lv_topi (fun v326 e327 => ?_)
          have tv326 : v326.toInt = (2) * w16.toInt := iv_mul (by decide) rfl e327 (by omega) (by omega)
          refine lv_aload_n hx hb dX3_clause_74 rfl (lv_at hl 1 rfl) ?_
          refine gmIC hx hb hts inT3 hown hK hI List.not_mem_nil hG0 9 (by decide) (hts _ (tb_c wd_138)) rfl rfl dX3_clause_75 (fun w328 hg329 k330 k331 => ?_)
          obtain ⟨F332, hA333⟩ := op_0 hI hq320 List.not_mem_nil
          refine th_iast hx hb hK hA333 0 rfl hS ⟨_, hq320⟩ (iv_in (X := v326.toInt) rfl (by omega) (by omega)) dX3_clause_78 (fun H locs hA334 oq hS => ?_)
          have hI := th_I.put hI hq320 hA334 ok_0 oq
          have hg14 := gfC.arr hG0 hq320 (by decide) oq hg14
          have hg17 := gfC.arr hG0 hq320 (by decide) oq hg17
          have hg20 := gfC.arr hG0 hq320 (by decide) oq hg20
          have hg23 := gfC.arr hG0 hq320 (by decide) oq hg23
          have hg26 := gfC.arr hG0 hq320 (by decide) oq hg26
          have hg329 := gfC.arr hG0 hq320 (by decide) oq hg329
          have hf2 := frC.arr hG0 hq320 (by decide) oq hf2
          have hf6 := frC.arr hG0 hq320 (by decide) oq hf6
          have hf10 := frC.arr hG0 hq320 (by decide) oq hf10
          have hf55 := frC.arr hG0 hq320 (by decide) oq hf55
          have hf321 := frC.arr hG0 hq320 (by decide) oq hf321
          have hA4 := va_at.kept hA4 (oq _ (m_ne hq3 hq320 (by first | decide | (dsimp only; decide))))
          have hA8 := va_at.kept hA8 (oq _ (m_ne hq7 hq320 (by first | decide | (dsimp only; decide))))
          have hA12 := va_at.kept hA12 (oq _ (m_ne hq11 hq320 (by first | decide | (dsimp only; decide))))
          have e335 : w328 = (upd F332 (v326 : Int32).toNatClampNeg w328) (v326 : Int32).toNatClampNeg := rd_us
          refine lv_aload_n hx hb dX3_clause_79 rfl (lv_at hl 1 rfl) ?_
          refine lv_aload_n hx hb dX3_clause_80 rfl (lv_at hl 1 rfl) ?_
          refine gmIC hx hb hts inT3 hown hK hI List.not_mem_nil hG0 10 (by decide) (hts _ (tb_c wd_139)) rfl rfl dX3_clause_81 (fun w336 hg337 k338 k339 => ?_)
          obtain rfl := gfC.uniq (by decide) hg23 hg337
          refine lv_iconst (v := 1) hx hb dX3_clause_84 (by decide) ?_
          refine lv_iadd hx hb dX3_clause_85 ?_
          refine lv_topi (fun v340 e341 => ?_)
          have tv340 : v340.toInt = w22.toInt + (1) := iv_add rfl (by decide) e341 (by omega) (by omega)
          have hpd342 : pd_R ZZ YY TT (1, [0], nk + 1, LL) (pp + 1) = XX := (pd_H_sm (by omega) (by omega) (by omega)).symm.trans hpd
          refine nx_v (As := [.int v340]) (rest := []) (n := 1) (d := 0) ⟨hx, hb, hml, hown, hts⟩ (c_X3_moveTo l E D G h0 hG0 v340 ft fp fn TT (pp + 1) nc LL (by first | omega | decide) (by omega)) wd_707 wd_709 wp_13 wd_5 wd_710 (by decide +kernel) ⟨by rw [hR]; exact Nat.le_of_ble_eq_true rfl, by rw [hR]; exact Nat.le_of_ble_eq_true rfl⟩ hI hN hK hS hG0 (⟨by omega, by omega, ⟨a1, hf2, hq3, hA4⟩, ⟨a5, hf6, hq7, hA8⟩, ⟨a9, hf10, hq11, hA12⟩, ⟨w13, hg14, by first | omega | decide⟩, ⟨w16, hg17, by first | omega | decide⟩, ⟨w19, hg20, by first | omega | decide⟩⟩) rfl hl.1 rfl (Nat.le_of_ble_eq_true rfl) dX3_clause_86 ⟨Nat.zero_le _, Nat.zero_le _⟩ (fun H locs hI hp hS => ?_)
          obtain ⟨hT4, hn12, ⟨a344, hf345, hq346, hA347⟩, ⟨a348, hf349, hq350, hA351⟩, ⟨a352, hf353, hq354, hA355⟩, ⟨w356, hg357, k358⟩, ⟨w359, hg360, k361⟩, ⟨w362, hg363, k364⟩, hpT, ⟨w365, hg366, k367⟩, ⟨w368, hg369, k370⟩⟩ := hp
          have k371 := iv_lo w362
          have k372 := iv_hi w362
          have k373 := TK.at hTK hpT
          refine lv_iload_n hx hb dX3_clause_89 rfl (lv_at hl 0 rfl) ?_
          refine lv_if_eq (tgt := 103) hx hb dX3_clause_90 (by decide) (fun c => absurd c (by decide)) (fun _ => ?_)
          refine lv_aload_n hx hb dX3_clause_93 rfl (lv_at hl 1 rfl) ?_
          refine lv_iconst (v := 0) hx hb dX3_clause_94 (by decide) ?_
          refine nx_i (As := [.int 0]) (rest := []) (n := 1) (d := 19) ⟨hx, hb, hml, hown, hts⟩ (c_X3_sum l E D G 8 h0 hG0 0 ft fp fn TT (pp + 1) nc LL ZZ YY (nk + 1) XX hTK 0 (by first | decide | omega) (by omega) (by omega) [0] rfl hpd342 (c_X3_part l E D G 8)) wd_715 wd_717 wp_15 wd_5 wd_718 (by decide +kernel) ⟨by rw [hR]; exact Nat.le_of_ble_eq_true rfl, by rw [hR]; exact Nat.le_of_ble_eq_true rfl⟩ hI hN hK hS hG0 (⟨by omega, by omega, ⟨a344, hf345, hq346, hA347⟩, ⟨a348, hf349, hq350, hA351⟩, ⟨a352, hf353, hq354, hA355⟩, ⟨w356, hg357, by first | omega | decide⟩, ⟨w359, hg360, by first | omega | decide⟩, ⟨w362, hg363, by first | omega | decide⟩, by omega, ⟨w365, hg366, by first | omega | decide⟩, ⟨w368, hg369, by first | omega | decide⟩⟩) rfl hl.1 rfl (Nat.le_of_ble_eq_true rfl) dX3_clause_95 ⟨Nat.zero_le _, Nat.zero_le _⟩ (fun r374 H locs hI hp hS => ?_)
          rcases hp with ⟨rfl, hp⟩ | ⟨rfl, hp⟩
          · skip
            try simp only [rg, not_and, Int.not_le] at hp
            have hp375 := hp
            obtain ⟨pn376, Ln377, hE, k378, hpd379, hno380⟩ := hp375
            have hp375 : True := trivial
            obtain ⟨hT4, hn12, ⟨a381, hf382, hq383, hA384⟩, ⟨a385, hf386, hq387, hA388⟩, ⟨a389, hf390, hq391, hA392⟩, ⟨w393, hg394, k395⟩, ⟨w396, hg397, k398⟩, ⟨w399, hg400, k401⟩, hpT, ⟨w402, hg403, k404⟩, ⟨w405, hg406, k407⟩⟩ := hE
            have k408 := iv_lo w399
            have k409 := iv_hi w399
            have k410 := TK.at hTK hpT
            have hpd411 : pd_R ZZ YY TT (4, [0], nk + 1, Ln377) pn376 = XX := (pd_A_s (fun h9 => by unfold pd_op; unfold oc at hno380; omega)).symm.trans hpd379
            try rw [show (0 : Int32).toInt = 0 from by decide] at hp375
            refine lv_if_ne (tgt := 103) hx hb dX3_clause_98 (by decide) (fun _ => ?_) (fun c => absurd c (by decide))
            refine lv_aload_n hx hb dX3_clause_103 rfl (lv_at hl 1 rfl) ?_
            refine gmAC hx hb hts inT3 hown hK hI List.not_mem_nil hG0 1 (by decide) (hts _ (tb_c wd_130)) rfl rfl dX3_clause_104 (fun a412 hq413 hf414 => ?_)
            refine lv_iconst (v := 2) hx hb dX3_clause_107 (by decide) ?_
            refine lv_aload_n hx hb dX3_clause_108 rfl (lv_at hl 1 rfl) ?_
            refine gmIC hx hb hts inT3 hown hK hI List.not_mem_nil hG0 7 (by decide) (hts _ (tb_c wd_136)) rfl rfl dX3_clause_109 (fun w415 hg416 k417 k418 => ?_)
            obtain rfl := gfC.uniq (by decide) hg397 hg416
            refine lv_imul hx hb dX3_clause_112 ?_
            refine lv_topi (fun v419 e420 => ?_)
            have tv419 : v419.toInt = (2) * w396.toInt := iv_mul (by decide) rfl e420 (by omega) (by omega)
            refine lv_iconst (v := 1) hx hb dX3_clause_113 (by decide) ?_
            refine lv_iadd hx hb dX3_clause_114 ?_
            refine lv_topi (fun v421 e422 => ?_)
            have tv421 : v421.toInt = v419.toInt + (1) := iv_add rfl (by decide) e422 (by omega) (by omega)
            refine lv_aload_n hx hb dX3_clause_115 rfl (lv_at hl 1 rfl) ?_
            refine gmIC hx hb hts inT3 hown hK hI List.not_mem_nil hG0 9 (by decide) (hts _ (tb_c wd_138)) rfl rfl dX3_clause_116 (fun w423 hg424 k425 k426 => ?_)
            obtain ⟨F427, hA428⟩ := op_0 hI hq413 List.not_mem_nil
            refine th_iast hx hb hK hA428 0 rfl hS ⟨_, hq413⟩ (iv_in (X := v421.toInt) rfl (by omega) (by omega)) dX3_clause_119 (fun H locs hA429 oq hS => ?_)
            have hI := th_I.put hI hq413 hA429 ok_0 oq
            have hg394 := gfC.arr hG0 hq413 (by decide) oq hg394
            have hg397 := gfC.arr hG0 hq413 (by decide) oq hg397
            have hg400 := gfC.arr hG0 hq413 (by decide) oq hg400
            have hg403 := gfC.arr hG0 hq413 (by decide) oq hg403
            have hg406 := gfC.arr hG0 hq413 (by decide) oq hg406
            have hg424 := gfC.arr hG0 hq413 (by decide) oq hg424
            have hf382 := frC.arr hG0 hq413 (by decide) oq hf382
            have hf386 := frC.arr hG0 hq413 (by decide) oq hf386
            have hf390 := frC.arr hG0 hq413 (by decide) oq hf390
            have hf414 := frC.arr hG0 hq413 (by decide) oq hf414
            have hA384 := va_at.kept hA384 (oq _ (m_ne hq383 hq413 (by first | decide | (dsimp only; decide))))
            have hA388 := va_at.kept hA388 (oq _ (m_ne hq387 hq413 (by first | decide | (dsimp only; decide))))
            have hA392 := va_at.kept hA392 (oq _ (m_ne hq391 hq413 (by first | decide | (dsimp only; decide))))
            have e430 : w423 = (upd F427 (v421 : Int32).toNatClampNeg w423) (v421 : Int32).toNatClampNeg := rd_us
            refine lv_aload_n hx hb dX3_clause_120 rfl (lv_at hl 1 rfl) ?_
            refine gmIC hx hb hts inT3 hown hK hI List.not_mem_nil hG0 11 (by decide) (hts _ (tb_c wd_140)) rfl rfl dX3_clause_121 (fun w431 hg432 k433 k434 => ?_)
            obtain rfl := gfC.uniq (by decide) hg406 hg432
            refine lv_sipush (v := 260) hx hb dX3_clause_124 (by decide) ?_
            have k435 := iv_lo w405
            have k436 := iv_hi w405
            refine lv_icmp_ne (tgt := 150) hx hb dX3_clause_127 (by decide) (fun c437 => ?_) (fun c437 => ?_)
            · skip
              have k438 := iv_ne (X := w405.toInt) (Y := (260)) rfl (by decide) c437
              have hpd439 : pd_R ZZ YY TT (5, [], nk + 1, Ln377) pn376 = XX := (pd_D_c0 (fun h9 => by omega)).symm.trans hpd411
              refine lv_aload_n hx hb dX3_clause_150 rfl (lv_at hl 1 rfl) ?_
              refine lv_dup hx hb dX3_clause_151 rfl ?_
              refine gmIC hx hb hts inT3 hown hK hI List.not_mem_nil hG0 7 (by decide) (hts _ (tb_c wd_136)) rfl rfl dX3_clause_152 (fun w440 hg441 k442 k443 => ?_)
              obtain rfl := gfC.uniq (by decide) hg397 hg441
              refine lv_iconst (v := 1) hx hb dX3_clause_155 (by decide) ?_
              refine lv_iadd hx hb dX3_clause_156 ?_
              refine lv_topi (fun v444 e445 => ?_)
              have tv444 : v444.toInt = w396.toInt + (1) := iv_add rfl (by decide) e445 (by omega) (by omega)
              refine pmIC (ty := .int) hx hb hts inT3 hown hK hI List.not_mem_nil hG0 hS ⟨_, hG0⟩ 7 (by decide) (hts _ (tb_c wd_136)) rfl rfl (by decide +kernel) rfl rfl rfl (by omega) (by omega) dX3_clause_157 (fun H locs hI hgP hS => ?_)
              have hg394 := hgP.2.2.1 6 _ (by decide) (by decide) hg394
              have hg400 := hgP.2.2.1 8 _ (by decide) (by decide) hg400
              have hg403 := hgP.2.2.1 10 _ (by decide) (by decide) hg403
              have hg406 := hgP.2.2.1 11 _ (by decide) (by decide) hg406
              have hg424 := hgP.2.2.1 9 _ (by decide) (by decide) hg424
              have hg446 := hgP.2.1
              have hf382 := hgP.2.2.2 3 _ (by decide) (by decide) hf382
              have hf386 := hgP.2.2.2 4 _ (by decide) (by decide) hf386
              have hf390 := hgP.2.2.2 5 _ (by decide) (by decide) hf390
              have hf414 := hgP.2.2.2 1 _ (by decide) (by decide) hf414
              have hA384 := va_at.kept hA384 (hgP.1 _ (m_ne hq383 hG0 (by first | decide | (dsimp only; decide))))
              have hA388 := va_at.kept hA388 (hgP.1 _ (m_ne hq387 hG0 (by first | decide | (dsimp only; decide))))
              have hA392 := va_at.kept hA392 (hgP.1 _ (m_ne hq391 hG0 (by first | decide | (dsimp only; decide))))
              have hA429 := va_at.kept hA429 (hgP.1 _ (m_ne hq413 hG0 (by first | decide | (dsimp only; decide))))
              refine lv_aload_n hx hb dX3_clause_160 rfl (lv_at hl 1 rfl) ?_
              refine gmAC hx hb hts inT3 hown hK hI List.not_mem_nil hG0 1 (by decide) (hts _ (tb_c wd_130)) rfl rfl dX3_clause_161 (fun a447 hq448 hf449 => ?_)
              obtain rfl := frC.uniq (by decide) hf414 hf449
              refine lv_iconst (v := 2) hx hb dX3_clause_164 (by decide) ?_
              refine lv_aload_n hx hb dX3_clause_165 rfl (lv_at hl 1 rfl) ?_
              refine gmIC hx hb hts inT3 hown hK hI List.not_mem_nil hG0 7 (by decide) (hts _ (tb_c wd_136)) rfl rfl dX3_clause_166 (fun w450 hg451 k452 k453 => ?_)
              obtain rfl := gfC.uniq (by decide) hg446 hg451
              refine lv_imul hx hb dX3_clause_169 ?_
              refine lv_topi (fun v454 e455 => ?_)
              have tv454 : v454.toInt = (2) * v444.toInt := iv_mul (by decide) rfl e455 (by omega) (by omega)
              refine lv_aload_n hx hb dX3_clause_170 rfl (lv_at hl 1 rfl) ?_
              refine gmIC hx hb hts inT3 hown hK hI List.not_mem_nil hG0 9 (by decide) (hts _ (tb_c wd_138)) rfl rfl dX3_clause_171 (fun w456 hg457 k458 k459 => ?_)
              obtain rfl := gfC.uniq (by decide) hg424 hg457
              refine th_iast hx hb hK hA429 0 rfl hS ⟨_, hq413⟩ (iv_in (X := v454.toInt) rfl (by omega) (by omega)) dX3_clause_174 (fun H locs hA460 oq hS => ?_)
              have hI := th_I.put hI hq413 hA460 ok_0 oq
              have hg394 := gfC.arr hG0 hq413 (by decide) oq hg394
              have hg446 := gfC.arr hG0 hq413 (by decide) oq hg446
              have hg400 := gfC.arr hG0 hq413 (by decide) oq hg400
              have hg403 := gfC.arr hG0 hq413 (by decide) oq hg403
              have hg406 := gfC.arr hG0 hq413 (by decide) oq hg406
              have hg424 := gfC.arr hG0 hq413 (by decide) oq hg424
              have hf382 := frC.arr hG0 hq413 (by decide) oq hf382
              have hf386 := frC.arr hG0 hq413 (by decide) oq hf386
              have hf390 := frC.arr hG0 hq413 (by decide) oq hf390
              have hf414 := frC.arr hG0 hq413 (by decide) oq hf414
              have hA384 := va_at.kept hA384 (oq _ (m_ne hq383 hq413 (by first | decide | (dsimp only; decide))))
              have hA388 := va_at.kept hA388 (oq _ (m_ne hq387 hq413 (by first | decide | (dsimp only; decide))))
              have hA392 := va_at.kept hA392 (oq _ (m_ne hq391 hq413 (by first | decide | (dsimp only; decide))))
              have e461 := rd_un (i := v421) (j := v454) (v := w423) e430 (X := v421.toInt) (Y := v454.toInt) rfl rfl (by omega) (by omega) (by omega)
              have e462 : w423 = (upd (upd F427 (v421 : Int32).toNatClampNeg w423) (v454 : Int32).toNatClampNeg w423) (v454 : Int32).toNatClampNeg := rd_us
              refine lv_iconst (v := 1) hx hb dX3_clause_175 (by decide) ?_
              have hpost : ((1 : Int32) = 1 ∧ ∃ p2 L2 : Nat, RC E D G h0 ft fp fn TT p2 (nc + 1) L2 H ∧ pp + 1 ≤ p2 ∧ pd_R ZZ YY TT (5, [], nk + 1, L2) p2 = XX) ∨ ((1 : Int32) = 0 ∧ ∃ p2 L2 : Nat, RC E D G h0 ft fp fn TT p2 nc L2 H ∧ pp ≤ p2 ∧ XX = (p2, false)) := Or.inl ⟨rfl, pn376, Ln377, ⟨by omega, by omega, ⟨a381, hf382, hq383, hA384⟩, ⟨a385, hf386, hq387, hA388⟩, ⟨a389, hf390, hq391, hA392⟩, ⟨w393, hg394, by first | omega | decide⟩, ⟨v444, hg446, by first | omega | decide⟩, ⟨w399, hg400, by first | omega | decide⟩, by omega, ⟨w402, hg403, by first | omega | decide⟩, ⟨w405, hg406, by first | omega | decide⟩⟩, by omega, hpd439⟩
              rw [hQ]
              exact W.zret (v := 1) hx hb hr (by decide) (fun t ht hW => ⟨⟨1, 1, rfl, rfl, ⟨by rw [ht]; exact hI, hN.warm hW, va_K.moved hW.alike hK⟩, by first | (rw [ht]; exact hpost) | exact hpost⟩, hS.F ht⟩) hS.2.2 dX3_clause_176
            · skip
              have k463 := iv_eq (X := w405.toInt) (Y := (260)) rfl (by decide) c437
              refine lv_aload_n hx hb dX3_clause_130 rfl (lv_at hl 1 rfl) ?_
              refine lv_aload_n hx hb dX3_clause_131 rfl (lv_at hl 1 rfl) ?_
              refine gmIC hx hb hts inT3 hown hK hI List.not_mem_nil hG0 10 (by decide) (hts _ (tb_c wd_139)) rfl rfl dX3_clause_132 (fun w464 hg465 k466 k467 => ?_)
              obtain rfl := gfC.uniq (by decide) hg403 hg465
              refine lv_iconst (v := 1) hx hb dX3_clause_135 (by decide) ?_
              refine lv_iadd hx hb dX3_clause_136 ?_
              refine lv_topi (fun v468 e469 => ?_)
              have tv468 : v468.toInt = w402.toInt + (1) := iv_add rfl (by decide) e469 (by omega) (by omega)
              have hpd470 : pd_R ZZ YY TT (3, [5], nk + 1, Ln377) (pn376 + 1) = XX := (pd_D_if (by omega) (by omega)).symm.trans hpd411
              refine nx_v (As := [.int v468]) (rest := []) (n := 1) (d := 0) ⟨hx, hb, hml, hown, hts⟩ (c_X3_moveTo l E D G h0 hG0 v468 ft fp fn TT (pn376 + 1) nc Ln377 (by first | omega | decide) (by omega)) wd_707 wd_709 wp_13 wd_5 wd_710 (by decide +kernel) ⟨by rw [hR]; exact Nat.le_of_ble_eq_true rfl, by rw [hR]; exact Nat.le_of_ble_eq_true rfl⟩ hI hN hK hS hG0 (⟨by omega, by omega, ⟨a381, hf382, hq383, hA384⟩, ⟨a385, hf386, hq387, hA388⟩, ⟨a389, hf390, hq391, hA392⟩, ⟨w393, hg394, by first | omega | decide⟩, ⟨w396, hg397, by first | omega | decide⟩, ⟨w399, hg400, by first | omega | decide⟩⟩) rfl hl.1 rfl (Nat.le_of_ble_eq_true rfl) dX3_clause_137 ⟨Nat.zero_le _, Nat.zero_le _⟩ (fun H locs hI hp hS => ?_)
              obtain ⟨hT4, hn12, ⟨a472, hf473, hq474, hA475⟩, ⟨a476, hf477, hq478, hA479⟩, ⟨a480, hf481, hq482, hA483⟩, ⟨w484, hg485, k486⟩, ⟨w487, hg488, k489⟩, ⟨w490, hg491, k492⟩, hpT, ⟨w493, hg494, k495⟩, ⟨w496, hg497, k498⟩⟩ := hp
              have k499 := iv_lo w490
              have k500 := iv_hi w490
              have k501 := TK.at hTK hpT
              refine lv_aload_n hx hb dX3_clause_140 rfl (lv_at hl 1 rfl) ?_
              refine lv_iconst (v := 0) hx hb dX3_clause_141 (by decide) ?_
              refine nx_i (As := [.int 0]) (rest := []) (n := 1) (d := 46) ⟨hx, hb, hml, hown, hts⟩ (c_X3_test l E D G 8 h0 hG0 0 ft fp fn TT (pn376 + 1) nc Ln377 ZZ YY (nk + 1) XX hTK 0 (by first | decide | omega) (by omega) (by omega) 5 [] (Or.inr rfl) rfl hpd470 (fun h9 g9 x9 f1 f2 f3 T9 p9 c9 L9 Z9 Y9 n9 X9 t9 d9 e1 e2 e3 l9 e4 e5 => c_X3_plain l E D G 8 h9 g9 x9 f1 f2 f3 T9 p9 c9 L9 Z9 Y9 n9 X9 t9 d9 e1 e2 e3 l9 e4 e5 (c_X3_enclosed l E D G 8))) wd_731 wd_733 wp_19 wd_5 wd_734 (by decide +kernel) ⟨by rw [hR]; exact Nat.le_of_ble_eq_true rfl, by rw [hR]; exact Nat.le_of_ble_eq_true rfl⟩ hI hN hK hS hG0 (⟨by omega, by omega, ⟨a472, hf473, hq474, hA475⟩, ⟨a476, hf477, hq478, hA479⟩, ⟨a480, hf481, hq482, hA483⟩, ⟨w484, hg485, by first | omega | decide⟩, ⟨w487, hg488, by first | omega | decide⟩, ⟨w490, hg491, by first | omega | decide⟩, by omega, ⟨w493, hg494, by first | omega | decide⟩, ⟨w496, hg497, by first | omega | decide⟩⟩) rfl hl.1 rfl (Nat.le_of_ble_eq_true rfl) dX3_clause_142 ⟨Nat.zero_le _, Nat.zero_le _⟩ (fun r502 H locs hI hp hS => ?_)
              rcases hp with ⟨rfl, hp⟩ | ⟨rfl, hp⟩
              · skip
                try simp only [rg, not_and, Int.not_le] at hp
                have hp503 := hp
                obtain ⟨pn504, Ln505, hE, k506, hpd507, hno508⟩ := hp503
                have hp503 : True := trivial
                obtain ⟨hT4, hn12, ⟨a509, hf510, hq511, hA512⟩, ⟨a513, hf514, hq515, hA516⟩, ⟨a517, hf518, hq519, hA520⟩, ⟨w521, hg522, k523⟩, ⟨w524, hg525, k526⟩, ⟨w527, hg528, k529⟩, hpT, ⟨w530, hg531, k532⟩, ⟨w533, hg534, k535⟩⟩ := hE
                have k536 := iv_lo w527
                have k537 := iv_hi w527
                have k538 := TK.at hTK hpT
                have hpd539 : pd_R ZZ YY TT (5, [], nk + 1, Ln505) pn504 = XX := (pd_D_c5 (fun h9 => ⟨by omega, by omega⟩)).symm.trans hpd507
                try rw [show (0 : Int32).toInt = 0 from by decide] at hp503
                refine lv_if_ne (tgt := 150) hx hb dX3_clause_145 (by decide) (fun _ => ?_) (fun c => absurd c (by decide))
                refine lv_aload_n hx hb dX3_clause_150 rfl (lv_at hl 1 rfl) ?_
                refine lv_dup hx hb dX3_clause_151 rfl ?_
                refine gmIC hx hb hts inT3 hown hK hI List.not_mem_nil hG0 7 (by decide) (hts _ (tb_c wd_136)) rfl rfl dX3_clause_152 (fun w540 hg541 k542 k543 => ?_)
                obtain rfl := gfC.uniq (by decide) hg525 hg541
                refine lv_iconst (v := 1) hx hb dX3_clause_155 (by decide) ?_
                refine lv_iadd hx hb dX3_clause_156 ?_
                refine lv_topi (fun v544 e545 => ?_)
                have tv544 : v544.toInt = w524.toInt + (1) := iv_add rfl (by decide) e545 (by omega) (by omega)
                refine pmIC (ty := .int) hx hb hts inT3 hown hK hI List.not_mem_nil hG0 hS ⟨_, hG0⟩ 7 (by decide) (hts _ (tb_c wd_136)) rfl rfl (by decide +kernel) rfl rfl rfl (by omega) (by omega) dX3_clause_157 (fun H locs hI hgP hS => ?_)
                have hg522 := hgP.2.2.1 6 _ (by decide) (by decide) hg522
                have hg528 := hgP.2.2.1 8 _ (by decide) (by decide) hg528
                have hg531 := hgP.2.2.1 10 _ (by decide) (by decide) hg531
                have hg534 := hgP.2.2.1 11 _ (by decide) (by decide) hg534
                have hg546 := hgP.2.1
                have hf510 := hgP.2.2.2 3 _ (by decide) (by decide) hf510
                have hf514 := hgP.2.2.2 4 _ (by decide) (by decide) hf514
                have hf518 := hgP.2.2.2 5 _ (by decide) (by decide) hf518
                have hA512 := va_at.kept hA512 (hgP.1 _ (m_ne hq511 hG0 (by first | decide | (dsimp only; decide))))
                have hA516 := va_at.kept hA516 (hgP.1 _ (m_ne hq515 hG0 (by first | decide | (dsimp only; decide))))
                have hA520 := va_at.kept hA520 (hgP.1 _ (m_ne hq519 hG0 (by first | decide | (dsimp only; decide))))
                refine lv_aload_n hx hb dX3_clause_160 rfl (lv_at hl 1 rfl) ?_
                refine gmAC hx hb hts inT3 hown hK hI List.not_mem_nil hG0 1 (by decide) (hts _ (tb_c wd_130)) rfl rfl dX3_clause_161 (fun a547 hq548 hf549 => ?_)
                refine lv_iconst (v := 2) hx hb dX3_clause_164 (by decide) ?_
                refine lv_aload_n hx hb dX3_clause_165 rfl (lv_at hl 1 rfl) ?_
                refine gmIC hx hb hts inT3 hown hK hI List.not_mem_nil hG0 7 (by decide) (hts _ (tb_c wd_136)) rfl rfl dX3_clause_166 (fun w550 hg551 k552 k553 => ?_)
                obtain rfl := gfC.uniq (by decide) hg546 hg551
                refine lv_imul hx hb dX3_clause_169 ?_
                refine lv_topi (fun v554 e555 => ?_)
                have tv554 : v554.toInt = (2) * v544.toInt := iv_mul (by decide) rfl e555 (by omega) (by omega)
                refine lv_aload_n hx hb dX3_clause_170 rfl (lv_at hl 1 rfl) ?_
                refine gmIC hx hb hts inT3 hown hK hI List.not_mem_nil hG0 9 (by decide) (hts _ (tb_c wd_138)) rfl rfl dX3_clause_171 (fun w556 hg557 k558 k559 => ?_)
                obtain ⟨F560, hA561⟩ := op_0 hI hq548 List.not_mem_nil
                refine th_iast hx hb hK hA561 0 rfl hS ⟨_, hq548⟩ (iv_in (X := v554.toInt) rfl (by omega) (by omega)) dX3_clause_174 (fun H locs hA562 oq hS => ?_)
                have hI := th_I.put hI hq548 hA562 ok_0 oq
                have hg522 := gfC.arr hG0 hq548 (by decide) oq hg522
                have hg546 := gfC.arr hG0 hq548 (by decide) oq hg546
                have hg528 := gfC.arr hG0 hq548 (by decide) oq hg528
                have hg531 := gfC.arr hG0 hq548 (by decide) oq hg531
                have hg534 := gfC.arr hG0 hq548 (by decide) oq hg534
                have hg557 := gfC.arr hG0 hq548 (by decide) oq hg557
                have hf510 := frC.arr hG0 hq548 (by decide) oq hf510
                have hf514 := frC.arr hG0 hq548 (by decide) oq hf514
                have hf518 := frC.arr hG0 hq548 (by decide) oq hf518
                have hf549 := frC.arr hG0 hq548 (by decide) oq hf549
                have hA512 := va_at.kept hA512 (oq _ (m_ne hq511 hq548 (by first | decide | (dsimp only; decide))))
                have hA516 := va_at.kept hA516 (oq _ (m_ne hq515 hq548 (by first | decide | (dsimp only; decide))))
                have hA520 := va_at.kept hA520 (oq _ (m_ne hq519 hq548 (by first | decide | (dsimp only; decide))))
                have e563 : w556 = (upd F560 (v554 : Int32).toNatClampNeg w556) (v554 : Int32).toNatClampNeg := rd_us
                refine lv_iconst (v := 1) hx hb dX3_clause_175 (by decide) ?_
                have hpost : ((1 : Int32) = 1 ∧ ∃ p2 L2 : Nat, RC E D G h0 ft fp fn TT p2 (nc + 1) L2 H ∧ pp + 1 ≤ p2 ∧ pd_R ZZ YY TT (5, [], nk + 1, L2) p2 = XX) ∨ ((1 : Int32) = 0 ∧ ∃ p2 L2 : Nat, RC E D G h0 ft fp fn TT p2 nc L2 H ∧ pp ≤ p2 ∧ XX = (p2, false)) := Or.inl ⟨rfl, pn504, Ln505, ⟨by omega, by omega, ⟨a509, hf510, hq511, hA512⟩, ⟨a513, hf514, hq515, hA516⟩, ⟨a517, hf518, hq519, hA520⟩, ⟨w521, hg522, by first | omega | decide⟩, ⟨v544, hg546, by first | omega | decide⟩, ⟨w527, hg528, by first | omega | decide⟩, by omega, ⟨w530, hg531, by first | omega | decide⟩, ⟨w533, hg534, by first | omega | decide⟩⟩, by omega, hpd539⟩
                rw [hQ]
                exact W.zret (v := 1) hx hb hr (by decide) (fun t ht hW => ⟨⟨1, 1, rfl, rfl, ⟨by rw [ht]; exact hI, hN.warm hW, va_K.moved hW.alike hK⟩, by first | (rw [ht]; exact hpost) | exact hpost⟩, hS.F ht⟩) hS.2.2 dX3_clause_176
              · skip
                try simp only [rg, not_and, Int.not_le] at hp
                have hp564 := hp
                obtain ⟨pn565, Ln566, hE, k567, hfl568⟩ := hp564
                have hp564 : True := trivial
                obtain ⟨hT4, hn12, ⟨a569, hf570, hq571, hA572⟩, ⟨a573, hf574, hq575, hA576⟩, ⟨a577, hf578, hq579, hA580⟩, ⟨w581, hg582, k583⟩, ⟨w584, hg585, k586⟩, ⟨w587, hg588, k589⟩, hpT, ⟨w590, hg591, k592⟩, ⟨w593, hg594, k595⟩⟩ := hE
                have k596 := iv_lo w587
                have k597 := iv_hi w587
                have k598 := TK.at hTK hpT
                try rw [show (0 : Int32).toInt = 0 from by decide] at hp564
                refine lv_if_ne (tgt := 150) hx hb dX3_clause_145 (by decide) (fun c => absurd c (by decide)) (fun _ => ?_)
                refine lv_iconst (v := 0) hx hb dX3_clause_148 (by decide) ?_
                have hpost : ((0 : Int32) = 1 ∧ ∃ p2 L2 : Nat, RC E D G h0 ft fp fn TT p2 (nc + 1) L2 H ∧ pp + 1 ≤ p2 ∧ pd_R ZZ YY TT (5, [], nk + 1, L2) p2 = XX) ∨ ((0 : Int32) = 0 ∧ ∃ p2 L2 : Nat, RC E D G h0 ft fp fn TT p2 nc L2 H ∧ pp ≤ p2 ∧ XX = (p2, false)) := Or.inr ⟨rfl, pn565, Ln566, ⟨by omega, by omega, ⟨a569, hf570, hq571, hA572⟩, ⟨a573, hf574, hq575, hA576⟩, ⟨a577, hf578, hq579, hA580⟩, ⟨w581, hg582, by first | omega | decide⟩, ⟨w584, hg585, by first | omega | decide⟩, ⟨w587, hg588, by first | omega | decide⟩, by omega, ⟨w590, hg591, by first | omega | decide⟩, ⟨w593, hg594, by first | omega | decide⟩⟩, by omega, hfl568⟩
                rw [hQ]
                exact W.zret (v := 0) hx hb hr (by decide) (fun t ht hW => ⟨⟨0, 0, rfl, rfl, ⟨by rw [ht]; exact hI, hN.warm hW, va_K.moved hW.alike hK⟩, by first | (rw [ht]; exact hpost) | exact hpost⟩, hS.F ht⟩) hS.2.2 dX3_clause_149
          · skip
            try simp only [rg, not_and, Int.not_le] at hp
            have hp599 := hp
            obtain ⟨pn600, Ln601, hE, k602, hfl603⟩ := hp599
            have hp599 : True := trivial
            obtain ⟨hT4, hn12, ⟨a604, hf605, hq606, hA607⟩, ⟨a608, hf609, hq610, hA611⟩, ⟨a612, hf613, hq614, hA615⟩, ⟨w616, hg617, k618⟩, ⟨w619, hg620, k621⟩, ⟨w622, hg623, k624⟩, hpT, ⟨w625, hg626, k627⟩, ⟨w628, hg629, k630⟩⟩ := hE
            have k631 := iv_lo w622
            have k632 := iv_hi w622
            have k633 := TK.at hTK hpT
            try rw [show (0 : Int32).toInt = 0 from by decide] at hp599
            refine lv_if_ne (tgt := 103) hx hb dX3_clause_98 (by decide) (fun c => absurd c (by decide)) (fun _ => ?_)
            refine lv_iconst (v := 0) hx hb dX3_clause_101 (by decide) ?_
            have hpost : ((0 : Int32) = 1 ∧ ∃ p2 L2 : Nat, RC E D G h0 ft fp fn TT p2 (nc + 1) L2 H ∧ pp + 1 ≤ p2 ∧ pd_R ZZ YY TT (5, [], nk + 1, L2) p2 = XX) ∨ ((0 : Int32) = 0 ∧ ∃ p2 L2 : Nat, RC E D G h0 ft fp fn TT p2 nc L2 H ∧ pp ≤ p2 ∧ XX = (p2, false)) := Or.inr ⟨rfl, pn600, Ln601, ⟨by omega, by omega, ⟨a604, hf605, hq606, hA607⟩, ⟨a608, hf609, hq610, hA611⟩, ⟨a612, hf613, hq614, hA615⟩, ⟨w616, hg617, by first | omega | decide⟩, ⟨w619, hg620, by first | omega | decide⟩, ⟨w622, hg623, by first | omega | decide⟩, by omega, ⟨w625, hg626, by first | omega | decide⟩, ⟨w628, hg629, by first | omega | decide⟩⟩, by omega, hfl603⟩
            rw [hQ]
            exact W.zret (v := 0) hx hb hr (by decide) (fun t ht hW => ⟨⟨0, 0, rfl, rfl, ⟨by rw [ht]; exact hI, hN.warm hW, va_K.moved hW.alike hK⟩, by first | (rw [ht]; exact hpost) | exact hpost⟩, hS.F ht⟩) hS.2.2 dX3_clause_102
      · skip
        have k634 := iv_nle (X := w25.toInt) (Y := (259)) rfl (by decide) c51
        refine lv_iconst (v := 0) hx hb dX3_clause_29 (by decide) ?_
        have hpost : ((0 : Int32) = 1 ∧ ∃ p2 L2 : Nat, RC E D G h0 ft fp fn TT p2 (nc + 1) L2 s.heap ∧ pp + 1 ≤ p2 ∧ pd_R ZZ YY TT (5, [], nk + 1, L2) p2 = XX) ∨ ((0 : Int32) = 0 ∧ ∃ p2 L2 : Nat, RC E D G h0 ft fp fn TT p2 nc L2 s.heap ∧ pp ≤ p2 ∧ XX = (p2, false)) := Or.inr ⟨rfl, pp, LL, ⟨by omega, by omega, ⟨a1, hf2, hq3, hA4⟩, ⟨a5, hf6, hq7, hA8⟩, ⟨a9, hf10, hq11, hA12⟩, ⟨w13, hg14, by first | omega | decide⟩, ⟨w16, hg17, by first | omega | decide⟩, ⟨w19, hg20, by first | omega | decide⟩, by omega, ⟨w22, hg23, by first | omega | decide⟩, ⟨w25, hg26, by first | omega | decide⟩⟩, by omega, (hpd.symm.trans (pd_H_no (fun h9 h10 => by omega)))⟩
        rw [hQ]
        exact W.zret (v := 0) hx hb hr (by decide) (fun t ht hW => ⟨⟨0, 0, rfl, rfl, ⟨by rw [ht]; exact hI, hN.warm hW, va_K.moved hW.alike hK⟩, by first | (rw [ht]; exact hpost) | exact hpost⟩, hS.F ht⟩) hS.2.2 dX3_clause_30
