
def mfC : List m_F := [.inl (0, 12), .inl (0, 25), .inl (0, 400), .inl (17, 401), .inl (18, 401), .inl (19, 401), .inr (0, 401), .inr (0, 12), .inr (-2147483648, 2147483647), .inr (0, 400), .inr (-2147483648, 2147483647), .inr (-2147483648, 2147483647)]
def mOkC (G : th_G) (fs : List Value) : Prop := fs.length = 12 ∧ ∀ k : Nat, k < 12 → ∃ v, fs[k]? = some v ∧ mV G (mfC[k]?) v
theorem omC {E : Nat → Nat} {D : va_G} {G : th_G} {X : List Nat} {H : Heap} {a : Nat} (hI : th_I (okC E) D G X H) (ha : G a = some (7, 12)) (hX : a ∉ X) : ∃ fs : List Value, va_at D vwCl (a, .inr (3, fs)) H ∧ mOkC G fs := by
  obtain ⟨q0, q1, q2, q3, q4, q5, z6, z7, z8, z9, z10, z11, hO, c0, c1, c2, c3, c4, c5, c6, c7, c8, -⟩ := op_7 hI ha hX
  refine ⟨_, hO, rfl, fun k hk => ?_⟩
  match k, hk with
  | 0, _ => exact ⟨_, rfl, _, rfl, c0⟩
  | 1, _ => exact ⟨_, rfl, _, rfl, c1⟩
  | 2, _ => exact ⟨_, rfl, _, rfl, c2⟩
  | 3, _ => exact ⟨_, rfl, _, rfl, c3⟩
  | 4, _ => exact ⟨_, rfl, _, rfl, c4⟩
  | 5, _ => exact ⟨_, rfl, _, rfl, c5⟩
  | 6, _ => exact ⟨_, rfl, _, rfl, by omega, by omega⟩
  | 7, _ => exact ⟨_, rfl, _, rfl, by omega, by omega⟩
  | 8, _ => exact ⟨_, rfl, _, rfl, iv_lo _, iv_hi _⟩
  | 9, _ => exact ⟨_, rfl, _, rfl, by omega, by omega⟩
  | 10, _ => exact ⟨_, rfl, _, rfl, iv_lo _, iv_hi _⟩
  | 11, _ => exact ⟨_, rfl, _, rfl, iv_lo _, iv_hi _⟩
  | j + 12, h => omega
theorem ok_mC {E : Nat → Nat} {G : th_G} {a : Nat} {fs : List Value} (h : mOkC G fs) : okC E G a (7, 12) (.inr (3, fs)) := by
  obtain ⟨hl, h⟩ := h
  rcases fs with _ | ⟨a0, fs⟩
  · exact absurd hl (by first | (simp; done) | (intro z; simp only [List.length_cons, List.length_nil] at z; omega))
  rcases fs with _ | ⟨a1, fs⟩
  · exact absurd hl (by first | (simp; done) | (intro z; simp only [List.length_cons, List.length_nil] at z; omega))
  rcases fs with _ | ⟨a2, fs⟩
  · exact absurd hl (by first | (simp; done) | (intro z; simp only [List.length_cons, List.length_nil] at z; omega))
  rcases fs with _ | ⟨a3, fs⟩
  · exact absurd hl (by first | (simp; done) | (intro z; simp only [List.length_cons, List.length_nil] at z; omega))
  rcases fs with _ | ⟨a4, fs⟩
  · exact absurd hl (by first | (simp; done) | (intro z; simp only [List.length_cons, List.length_nil] at z; omega))
  rcases fs with _ | ⟨a5, fs⟩
  · exact absurd hl (by first | (simp; done) | (intro z; simp only [List.length_cons, List.length_nil] at z; omega))
  rcases fs with _ | ⟨a6, fs⟩
  · exact absurd hl (by first | (simp; done) | (intro z; simp only [List.length_cons, List.length_nil] at z; omega))
  rcases fs with _ | ⟨a7, fs⟩
  · exact absurd hl (by first | (simp; done) | (intro z; simp only [List.length_cons, List.length_nil] at z; omega))
  rcases fs with _ | ⟨a8, fs⟩
  · exact absurd hl (by first | (simp; done) | (intro z; simp only [List.length_cons, List.length_nil] at z; omega))
  rcases fs with _ | ⟨a9, fs⟩
  · exact absurd hl (by first | (simp; done) | (intro z; simp only [List.length_cons, List.length_nil] at z; omega))
  rcases fs with _ | ⟨a10, fs⟩
  · exact absurd hl (by first | (simp; done) | (intro z; simp only [List.length_cons, List.length_nil] at z; omega))
  rcases fs with _ | ⟨a11, fs⟩
  · exact absurd hl (by first | (simp; done) | (intro z; simp only [List.length_cons, List.length_nil] at z; omega))
  rcases fs with _ | ⟨a12, fs⟩
  · skip
    obtain ⟨v0, e0, m0⟩ := h 0 (by decide)
    obtain ⟨q0, r0, c0⟩ := (show ∃ q : Nat, v0 = .ref q ∧ G q = some (0, 12) from m0)
    obtain rfl : a0 = .ref q0 := (Option.some.inj e0).trans r0
    obtain ⟨v1, e1, m1⟩ := h 1 (by decide)
    obtain ⟨q1, r1, c1⟩ := (show ∃ q : Nat, v1 = .ref q ∧ G q = some (0, 25) from m1)
    obtain rfl : a1 = .ref q1 := (Option.some.inj e1).trans r1
    obtain ⟨v2, e2, m2⟩ := h 2 (by decide)
    obtain ⟨q2, r2, c2⟩ := (show ∃ q : Nat, v2 = .ref q ∧ G q = some (0, 400) from m2)
    obtain rfl : a2 = .ref q2 := (Option.some.inj e2).trans r2
    obtain ⟨v3, e3, m3⟩ := h 3 (by decide)
    obtain ⟨q3, r3, c3⟩ := (show ∃ q : Nat, v3 = .ref q ∧ G q = some (17, 401) from m3)
    obtain rfl : a3 = .ref q3 := (Option.some.inj e3).trans r3
    obtain ⟨v4, e4, m4⟩ := h 4 (by decide)
    obtain ⟨q4, r4, c4⟩ := (show ∃ q : Nat, v4 = .ref q ∧ G q = some (18, 401) from m4)
    obtain rfl : a4 = .ref q4 := (Option.some.inj e4).trans r4
    obtain ⟨v5, e5, m5⟩ := h 5 (by decide)
    obtain ⟨q5, r5, c5⟩ := (show ∃ q : Nat, v5 = .ref q ∧ G q = some (19, 401) from m5)
    obtain rfl : a5 = .ref q5 := (Option.some.inj e5).trans r5
    obtain ⟨v6, e6, m6⟩ := h 6 (by decide)
    obtain ⟨q6, r6, l6, h6⟩ := (show ∃ q : Int32, v6 = .int q ∧ (0 : Int) ≤ q.toInt ∧ q.toInt ≤ 401 from m6)
    obtain rfl : a6 = .int q6 := (Option.some.inj e6).trans r6
    obtain ⟨v7, e7, m7⟩ := h 7 (by decide)
    obtain ⟨q7, r7, l7, h7⟩ := (show ∃ q : Int32, v7 = .int q ∧ (0 : Int) ≤ q.toInt ∧ q.toInt ≤ 12 from m7)
    obtain rfl : a7 = .int q7 := (Option.some.inj e7).trans r7
    obtain ⟨v8, e8, m8⟩ := h 8 (by decide)
    obtain ⟨q8, r8, l8, h8⟩ := (show ∃ q : Int32, v8 = .int q ∧ (-2147483648 : Int) ≤ q.toInt ∧ q.toInt ≤ 2147483647 from m8)
    obtain rfl : a8 = .int q8 := (Option.some.inj e8).trans r8
    obtain ⟨v9, e9, m9⟩ := h 9 (by decide)
    obtain ⟨q9, r9, l9, h9⟩ := (show ∃ q : Int32, v9 = .int q ∧ (0 : Int) ≤ q.toInt ∧ q.toInt ≤ 400 from m9)
    obtain rfl : a9 = .int q9 := (Option.some.inj e9).trans r9
    obtain ⟨v10, e10, m10⟩ := h 10 (by decide)
    obtain ⟨q10, r10, l10, h10⟩ := (show ∃ q : Int32, v10 = .int q ∧ (-2147483648 : Int) ≤ q.toInt ∧ q.toInt ≤ 2147483647 from m10)
    obtain rfl : a10 = .int q10 := (Option.some.inj e10).trans r10
    obtain ⟨v11, e11, m11⟩ := h 11 (by decide)
    obtain ⟨q11, r11, l11, h11⟩ := (show ∃ q : Int32, v11 = .int q ∧ (-2147483648 : Int) ≤ q.toInt ∧ q.toInt ≤ 2147483647 from m11)
    obtain rfl : a11 = .int q11 := (Option.some.inj e11).trans r11
    exact ok_7 c0 c1 c2 c3 c4 c5 ⟨by omega, by omega⟩ ⟨by omega, by omega⟩ ⟨by omega, by omega⟩ (by decide)
  · exact absurd hl (by first | (simp; done) | (intro z; simp only [List.length_cons, List.length_nil] at z; omega))
section MKC
variable {E : Nat → Nat} {D : va_G} {G : th_G} {X : List Nat} {H H1 : Heap} {a q n M k j : Nat} {z w : Int32} {f : Nat → Int32} {kd : th_K}
/-- what a field of the object is -/
def gfC (D : va_G) (M k : Nat) (z : Int32) (H : Heap) : Prop := ∃ fs : List Value, va_at D vwCl (M, .inr (3, fs)) H ∧ fs[k]? = some (.int z)
def frC (D : va_G) (M k q : Nat) (H : Heap) : Prop := ∃ fs : List Value, va_at D vwCl (M, .inr (3, fs)) H ∧ fs[k]? = some (.ref q)
/-- what stands in a row that is a field of the object -/
def gaC (E : Nat → Nat) (D : va_G) (G : th_G) (M k : Nat) (kd : th_K) (f : Nat → Int32) (H : Heap) : Prop := ∃ q, frC D M k q H ∧ G q = some kd ∧ va_at D vwCl (q, .inl (E 0, kd.2, .inl f)) H
theorem m_sameC {fs fs' : List Value} {v v' : Value} (h : va_at D vwCl (M, .inr (3, fs)) H) (h' : va_at D vwCl (M, .inr (3, fs')) H) (hk : k < 12) (hv : fs[k]? = some v) (hv' : fs'[k]? = some v') : v = v' := by
  obtain ⟨r, h1, cell, q1, q2, q3, q4⟩ := h
  obtain ⟨r', h1', cell', q1', q2', q3', q4'⟩ := h'
  have e : r = (RX3, TX3, 12) := Option.some.inj (h1.symm.trans rfl)
  have e' : r' = (RX3, TX3, 12) := Option.some.inj (h1'.symm.trans rfl)
  subst e; subst e'
  have ec : cell = cell' := Option.some.inj (q1.symm.trans q1')
  subst ec
  have := Option.some.inj ((q4 k hk).symm.trans (q4' k hk))
  have a1 : vp_V fs k = v := by unfold vp_V; rw [List.getD_eq_getElem?_getD, hv]; rfl
  have a2 : vp_V fs' k = v' := by unfold vp_V; rw [List.getD_eq_getElem?_getD, hv']; rfl
  rw [← a1, ← a2]
  exact this
theorem gfC.uniq (hk : k < 12) (h : gfC D M k z H) (h' : gfC D M k w H) : z = w := by
  obtain ⟨fs, h1, h2⟩ := h
  obtain ⟨fs', h1', h2'⟩ := h'
  exact Value.int.inj (m_sameC h1 h1' hk h2 h2')
theorem frC.uniq {q' : Nat} (hk : k < 12) (h : frC D M k q H) (h' : frC D M k q' H) : q = q' := by
  obtain ⟨fs, h1, h2⟩ := h
  obtain ⟨fs', h1', h2'⟩ := h'
  exact Value.ref.inj (m_sameC h1 h1' hk h2 h2')
theorem gfC.kept (h : gfC D M k z H) (e : H1[M]? = H[M]?) : gfC D M k z H1 := by
  obtain ⟨fs, h1, h2⟩ := h
  exact ⟨fs, h1.kept e, h2⟩
theorem frC.kept (h : frC D M k q H) (e : H1[M]? = H[M]?) : frC D M k q H1 := by
  obtain ⟨fs, h1, h2⟩ := h
  exact ⟨fs, h1.kept e, h2⟩
theorem gaC.at (hk : k < 12) (h : gaC E D G M k kd f H) (hf : frC D M k q H) : va_at D vwCl (q, .inl (E 0, kd.2, .inl f)) H := by
  obtain ⟨q', h1, h2, h3⟩ := h
  cases frC.uniq hk hf h1
  exact h3
theorem gfC.arr {k2 : th_K} (hM : G M = some (7, 12)) (hq : G q = some k2) (hn : k2.1 ≠ 7) (oq : ∀ r : Nat, r ≠ q → H1[r]? = H[r]?) (h : gfC D M k z H) : gfC D M k z H1 := h.kept (oq M (m_ne hM hq (Ne.symm hn)))
theorem frC.arr {k2 : th_K} {r : Nat} (hM : G M = some (7, 12)) (hq : G q = some k2) (hn : k2.1 ≠ 7) (oq : ∀ r : Nat, r ≠ q → H1[r]? = H[r]?) (h : frC D M k r H) : frC D M k r H1 := h.kept (oq M (m_ne hM hq (Ne.symm hn)))
theorem gaC.arr {k2 : th_K} (hM : G M = some (7, 12)) (hq : G q = some k2) (hn : k2.1 ≠ 7) (hd : kd.1 ≠ k2.1) (oq : ∀ r : Nat, r ≠ q → H1[r]? = H[r]?) (h : gaC E D G M k kd f H) : gaC E D G M k kd f H1 := by
  obtain ⟨q', h1, h2, h3⟩ := h
  exact ⟨q', h1.arr hM hq hn oq, h2, h3.kept (oq q' (m_ne h2 hq hd))⟩
def gPC (D : va_G) (M k : Nat) (z : Int32) (H H1 : Heap) : Prop := (∀ r : Nat, r ≠ M → H1[r]? = H[r]?) ∧ gfC D M k z H1 ∧ (∀ (j : Nat) (w : Int32), j < 12 → j ≠ k → gfC D M j w H → gfC D M j w H1) ∧ ∀ (j q : Nat), j < 12 → j ≠ k → frC D M j q H → frC D M j q H1
theorem gPC.arr (h : gPC D M k z H H1) (hM : G M = some (7, 12)) (hn : kd.1 ≠ 7) (hl : j < 12) (hj : j ≠ k) (g : gaC E D G M j kd f H) : gaC E D G M j kd f H1 := by
  obtain ⟨q', h1, h2, h3⟩ := g
  exact ⟨q', h.2.2.2 _ _ hl hj h1, h2, h3.kept (h.1 q' (m_ne h2 hM hn))⟩
theorem mOkC.set {fs : List Value} {lo hi : Int} (h : mOkC G fs) (hk : k < 12) (hm : mfC[k]? = some (.inr (lo, hi))) (h1 : lo ≤ z.toInt) (h2 : z.toInt ≤ hi) : mOkC G (fs.set k (.int z)) := by
  refine ⟨by rw [List.length_set]; exact h.1, fun j hj => ?_⟩
  by_cases e : j = k
  · subst e
    refine ⟨.int z, ?_, ?_⟩
    · rw [List.getElem?_set_self (by rw [h.1]; exact hk)]
    · rw [hm]; exact ⟨z, rfl, h1, h2⟩
  · obtain ⟨v, a1, a2⟩ := h.2 j hj
    exact ⟨v, by rw [List.getElem?_set_ne (Ne.symm e)]; exact a1, a2⟩
end MKC
section MWC
variable {p : Program} {l : Launch} {e : Env} {R : Room} {s : State} {m : MethodId} {args : Array Value} {below : List Frame} {meth : Method} {c : Code} {H : Heap} {locs : List Loc} {cells slots : Nat} {Q : State → Prop}
variable {cc : ByteArray} {pc nL : Nat} {ls : Array Slot} {rest st0 As : List Value} {A A0 : Nat → Prop} {H0 : Heap} {D : va_G} {E : Nat → Nat} {G : th_G} {M b n0 : Nat}
variable {own C host : String} {index n maxL ci d : Nat} {y : MethodName} {bytes : ByteArray} {ret : Option FieldType} {cw : Cond} {T : u_T} {N : Nat}
theorem gmAC (hexec : p.tables.exec = Jvm.exec) (hb : c.code = cc) {Ts : List Cond} (hts : ∀ w ∈ Ts, w.before args s = true) (hin : ∀ w ∈ u_ws RX3 TX3 12, w ∈ Ts) (hown : s.vm.findClass own = some m.cls) (hK : va_K D vwCl (th_tys E) s) {Xs : List Nat} (hI : th_I (okC E) D G Xs H) (hXs : M ∉ Xs) (hM : G M = some (7, 12)) (k : Nat) (hk : k < 12) (hlink : (Cond.fieldLink own index RX3 (TX3 k).2.1 (TX3 k).2.2.1).before args s = true) (hsame : (TX3 k).1 = RX3) {kd : th_K} (hm : mfC[k]? = some (.inl kd)) (hdg : decode cc pc = .ok (.getfield index, 3))
    (kk : ∀ q : Nat, G q = some kd → frC D M k q H → W p l e R s m args below meth c H locs cells slots Q (F0 m (pc + 3) ls (.ref q :: rest))) : W p l e R s m args below meth c H locs cells slots Q (F0 m pc ls (.ref M :: rest)) := by
  obtain ⟨fs, hO, hok⟩ := omC hI hM hXs
  obtain ⟨v, hv, hmv⟩ := hok.2 k hk
  rw [hm] at hmv
  obtain ⟨q, rfl, hq⟩ := hmv
  exact th_get (C := RX3) (T := TX3) (N := 12) hexec hb hts hin hown hK hO rfl k hk hlink hsame hv hdg (kk q hq ⟨fs, hO, hv⟩)
theorem gmIC (hexec : p.tables.exec = Jvm.exec) (hb : c.code = cc) {Ts : List Cond} (hts : ∀ w ∈ Ts, w.before args s = true) (hin : ∀ w ∈ u_ws RX3 TX3 12, w ∈ Ts) (hown : s.vm.findClass own = some m.cls) (hK : va_K D vwCl (th_tys E) s) {Xs : List Nat} (hI : th_I (okC E) D G Xs H) (hXs : M ∉ Xs) (hM : G M = some (7, 12)) (k : Nat) (hk : k < 12) (hlink : (Cond.fieldLink own index RX3 (TX3 k).2.1 (TX3 k).2.2.1).before args s = true) (hsame : (TX3 k).1 = RX3) {lo hi : Int} (hm : mfC[k]? = some (.inr (lo, hi))) (hdg : decode cc pc = .ok (.getfield index, 3))
    (kk : ∀ z : Int32, gfC D M k z H → lo ≤ z.toInt → z.toInt ≤ hi → W p l e R s m args below meth c H locs cells slots Q (F0 m (pc + 3) ls (.int z :: rest))) : W p l e R s m args below meth c H locs cells slots Q (F0 m pc ls (.ref M :: rest)) := by
  obtain ⟨fs, hO, hok⟩ := omC hI hM hXs
  obtain ⟨v, hv, hmv⟩ := hok.2 k hk
  rw [hm] at hmv
  obtain ⟨q, rfl, h1, h2⟩ := hmv
  exact th_get (C := RX3) (T := TX3) (N := 12) hexec hb hts hin hown hK hO rfl k hk hlink hsame hv hdg (kk q ⟨fs, hO, hv⟩ h1 h2)
theorem pmIC (hexec : p.tables.exec = Jvm.exec) (hb : c.code = cc) {Ts : List Cond} (hts : ∀ w ∈ Ts, w.before args s = true) (hin : ∀ w ∈ u_ws RX3 TX3 12, w ∈ Ts) (hown : s.vm.findClass own = some m.cls) (hK : va_K D vwCl (th_tys E) s) {Xs : List Nat} (hI : th_I (okC E) D G Xs H) (hXs : M ∉ Xs) (hM : G M = some (7, 12)) (hS0 : va_S A H0 H locs) (hA : A M) (k : Nat) (hk : k < 12) (hlink : (Cond.fieldLink own index RX3 (TX3 k).2.1 (TX3 k).2.2.1).before args s = true) (hsame : (TX3 k).1 = RX3) (hfin : (TX3 k).2.2.2 = false) {ty : FieldType} {z : Int32} (hd : parseFieldDescriptor (TX3 k).2.2.1 = some ty) (hn : narrow ty (.int z) = .int z) (hfit : fits ty (.int z) = true) {lo hi : Int} (hm : mfC[k]? = some (.inr (lo, hi))) (h1 : lo ≤ z.toInt) (h2 : z.toInt ≤ hi) (hdg : decode cc pc = .ok (.putfield index, 3))
    (kk : ∀ (H1 : Heap) (locs1 : List Loc), th_I (okC E) D G Xs H1 → gPC D M k z H H1 → va_S A H0 H1 locs1 → W p l e R s m args below meth c H1 locs1 cells slots Q (F0 m (pc + 3) ls rest)) : W p l e R s m args below meth c H locs cells slots Q (F0 m pc ls (.int z :: .ref M :: rest)) := by
  obtain ⟨fs, hO, hok⟩ := omC hI hM hXs
  refine th_put (C := RX3) (T := TX3) (N := 12) (ty := ty) hexec hb hts hin tyX3 tyX3_ok nmX3 hown hK hO hS0 hA rfl k hk hlink hsame hfin hd hn hfit (by rw [hok.1]; exact hk) hdg (fun H1 locs1 hO1 oq hS1 => ?_)
  refine kk H1 locs1 (th_I.put hI hM hO1 (ok_mC (hok.set hk hm h1 h2)) oq) ⟨oq, ⟨_, hO1, List.getElem?_set_self (by rw [hok.1]; exact hk)⟩, fun j w hj2 hj hg => ?_, fun j q hj2 hj hg => ?_⟩ hS1
  · obtain ⟨fs', h3, h4⟩ := hg
    obtain ⟨v, hv, -⟩ := hok.2 j hj2
    have := m_sameC hO h3 hj2 hv h4
    subst this
    exact ⟨_, hO1, by rw [List.getElem?_set_ne (Ne.symm hj)]; exact hv⟩
  · obtain ⟨fs', h3, h4⟩ := hg
    obtain ⟨v, hv, -⟩ := hok.2 j hj2
    have := m_sameC hO h3 hj2 hv h4
    subst this
    exact ⟨_, hO1, by rw [List.getElem?_set_ne (Ne.symm hj)]; exact hv⟩
end MWC
abbrev PCx (E : Nat → Nat) (D : va_G) (G : th_G) (X : Heap → Prop) : State → Prop := fun U => th_P E D G U ∧ X U.heap
abbrev PRC (E : Nat → Nat) (D : va_G) (G : th_G) (H : Heap) : State → Prop := fun U => U.heap = H ∧ th_P E D G U
theorem nx_blind {E : Nat → Nat} {D : va_G} {G : th_G} {av : List Value} {X : Heap → Prop} : FrameBlind (va_Pc av (PCx E D G X)) := fun a U g mk q => ⟨q.1, ⟨q.2.1.1, th_N.same (u := U) rfl q.2.1.2.1, va_K.moved (u := U) (U := U.calling g mk a) (Vm.Alike.refl U.vm) q.2.1.2.2⟩, q.2.2⟩
theorem nr_blind {E : Nat → Nat} {D : va_G} {G : th_G} {av : List Value} {H : Heap} : FrameBlind (va_Pc av (PRC E D G H)) := fun a U g mk q => ⟨q.1, q.2.1, ⟨q.2.2.1, th_N.same (u := U) rfl q.2.2.2.1, va_K.moved (u := U) (U := U.calling g mk a) (Vm.Alike.refl U.vm) q.2.2.2.2⟩⟩
abbrev QCi (E : Nat → Nat) (D : va_G) (G : th_G) (Y : Int32 → Heap → Prop) : Array Value → State → Outcome → State → Prop := va_Qi (fun r (u : Int32) => u = r) (fun u t => th_P E D G t ∧ Y u t.heap) (th_A G)
abbrev QCv (E : Nat → Nat) (D : va_G) (G : th_G) (Y : Heap → Prop) : Array Value → State → Outcome → State → Prop := va_Qv (fun (_ : Unit) => True) (fun _ t => th_P E D G t ∧ Y t.heap) (th_A G)
section MCC
variable {p : Program} {l : Launch} {e : Env} {R : Room} {s : State} {m : MethodId} {args : Array Value} {below : List Frame} {meth : Method} {c : Code} {H : Heap} {locs : List Loc} {cells slots : Nat} {Q : State → Prop}
variable {cc : ByteArray} {pc nL : Nat} {ls : Array Slot} {rest st0 As : List Value} {A0 : Nat → Prop} {H0 : Heap} {D : va_G} {E : Nat → Nat} {G : th_G} {b : Nat}
variable {own host : String} {index n maxL d : Nat} {y : MethodName} {bytes : ByteArray} {ret : Option FieldType} {cw : Cond} {X : Heap → Prop}
theorem nx_i {Y : Int32 → Heap → Prop} (F : CallFix p m c cc nL s args (tb cw) own) (hM : Met l y (tb (.code y bytes maxL ret)) (rm d) (va_Pc (.ref b :: As) (PCx E D G X)) (QCi E D G Y) 0 0 (th_A G))
    (h1 : Cond.methodLink own index y ∈ TB) (h2 : Cond.instanceMethod y ∈ TB) (h3 : Cond.selects RX3 y y ∈ TB) (h4 : Cond.initialized RX3 ∈ TB) (h5 : Cond.code y bytes maxL ret ∈ TB)
    (hd : y.cls = RX3 ∧ y.cls ≠ "java/lang/invoke/MethodHandle" ∧ y.cls ≠ "java/lang/invoke/VarHandle" ∧ (parseMethodDescriptor y.desc).map (fun d => d.parameters.length) = some n) (hR : d + 1 ≤ R.frames ∧ 8 + (maxL + 11) + 40 * d ≤ R.locals)
    (hI : th_I (okC E) D G [] H) (hN : th_N s) (hK : va_K D vwCl (th_tys E) s) (hS : va_S (th_A G) H0 H locs) (hO : G b = some (7, 12)) (hX : X H)
    (hn : As.length = n) (hsize : ls.size = nL) (hst : st0 = As.reverse ++ .ref b :: rest) (hrm : (rest.map fun v => v.category).sum ≤ 8) (hdg : decode cc pc = .ok (.invokevirtual index, 3)) (hcs : cells ≤ R.cells ∧ slots ≤ R.slots)
    (kk : ∀ (r : Int32) (H1 : Heap) (locs1 : List Loc), th_I (okC E) D G [] H1 → Y r H1 → va_S (th_A G) H0 H1 locs1 → W p l e R s m args below meth c H1 locs1 cells slots Q (F0 m (pc + 3) ls (.int r :: rest))) : W p l e R s m args below meth c H locs cells slots Q (F0 m pc ls st0) := by
  obtain ⟨fs, hO⟩ := rc_7 hI hO List.not_mem_nil
  exact va_calli (va_runV (As := As) (rest := rest) F hM (cwV n F.2.2.2.2 (tb_V h1 h2 h3 h4 h5) rfl rfl rfl hd hR) ⟨nx_blind, va_recv hK (th_one hO) (q := (RX3, TX3, 12)) rfl (q0 := 0) rfl, fun U hU hW => ⟨rfl, ⟨by rw [hU]; exact hI, hN.warm hW, va_K.moved hW.alike hK⟩, by rw [hU]; exact hX⟩⟩ rfl hn hsize hst (lv_room hrm) hdg hcs) hS (fun q _ h => h) (fun q h => h) (fun r u t H1 locs1 ht hvm hw hB hz hk hS => kk r H1 locs1 (by rw [← ht]; exact hB.1.1) (by rw [← ht, ← hw]; exact hB.2) hS)
theorem nx_v {Y : Heap → Prop} (F : CallFix p m c cc nL s args (tb cw) own) (hM : Met l y (tb (.code y bytes maxL ret)) (rm d) (va_Pc (.ref b :: As) (PCx E D G X)) (QCv E D G Y) 0 0 (th_A G))
    (h1 : Cond.methodLink own index y ∈ TB) (h2 : Cond.instanceMethod y ∈ TB) (h3 : Cond.selects RX3 y y ∈ TB) (h4 : Cond.initialized RX3 ∈ TB) (h5 : Cond.code y bytes maxL ret ∈ TB)
    (hd : y.cls = RX3 ∧ y.cls ≠ "java/lang/invoke/MethodHandle" ∧ y.cls ≠ "java/lang/invoke/VarHandle" ∧ (parseMethodDescriptor y.desc).map (fun d => d.parameters.length) = some n) (hR : d + 1 ≤ R.frames ∧ 8 + (maxL + 11) + 40 * d ≤ R.locals)
    (hI : th_I (okC E) D G [] H) (hN : th_N s) (hK : va_K D vwCl (th_tys E) s) (hS : va_S (th_A G) H0 H locs) (hO : G b = some (7, 12)) (hX : X H)
    (hn : As.length = n) (hsize : ls.size = nL) (hst : st0 = As.reverse ++ .ref b :: rest) (hrm : (rest.map fun v => v.category).sum ≤ 8) (hdg : decode cc pc = .ok (.invokevirtual index, 3)) (hcs : cells ≤ R.cells ∧ slots ≤ R.slots)
    (kk : ∀ (H1 : Heap) (locs1 : List Loc), th_I (okC E) D G [] H1 → Y H1 → va_S (th_A G) H0 H1 locs1 → W p l e R s m args below meth c H1 locs1 cells slots Q (F0 m (pc + 3) ls (rest))) : W p l e R s m args below meth c H locs cells slots Q (F0 m pc ls st0) := by
  obtain ⟨fs, hO⟩ := rc_7 hI hO List.not_mem_nil
  exact va_callv (va_runV (As := As) (rest := rest) F hM (cwV n F.2.2.2.2 (tb_V h1 h2 h3 h4 h5) rfl rfl rfl hd hR) ⟨nx_blind, va_recv hK (th_one hO) (q := (RX3, TX3, 12)) rfl (q0 := 0) rfl, fun U hU hW => ⟨rfl, ⟨by rw [hU]; exact hI, hN.warm hW, va_K.moved hW.alike hK⟩, by rw [hU]; exact hX⟩⟩ rfl hn hsize hst (lv_room hrm) hdg hcs) hS (fun q _ h => h) (fun q h => h) (fun u t H1 locs1 ht hvm hw hB hz hk hS => kk H1 locs1 (by rw [← ht]; exact hB.1.1) (by rw [← ht]; exact hB.2) hS)
theorem nr_i {post : Int32 → Prop} (F : CallFix p m c cc nL s args (tb cw) own) (hM : Met l y (tb (.code y bytes maxL ret)) (rm d) (va_Pc (.ref b :: As) (PRC E D G H)) (QS H post) 0 0 (fun _ => False))
    (h1 : Cond.methodLink own index y ∈ TB) (h2 : Cond.instanceMethod y ∈ TB) (h3 : Cond.selects RX3 y y ∈ TB) (h4 : Cond.initialized RX3 ∈ TB) (h5 : Cond.code y bytes maxL ret ∈ TB)
    (hd : y.cls = RX3 ∧ y.cls ≠ "java/lang/invoke/MethodHandle" ∧ y.cls ≠ "java/lang/invoke/VarHandle" ∧ (parseMethodDescriptor y.desc).map (fun d => d.parameters.length) = some n) (hR : d + 1 ≤ R.frames ∧ 8 + (maxL + 11) + 40 * d ≤ R.locals)
    (hI : th_I (okC E) D G [] H) (hN : th_N s) (hK : va_K D vwCl (th_tys E) s) (hS : va_S A0 H0 H locs) (hO : G b = some (7, 12)) 
    (hn : As.length = n) (hsize : ls.size = nL) (hst : st0 = As.reverse ++ .ref b :: rest) (hrm : (rest.map fun v => v.category).sum ≤ 8) (hdg : decode cc pc = .ok (.invokevirtual index, 3)) (hcs : cells ≤ R.cells ∧ slots ≤ R.slots)
    (kk : ∀ (r : Int32) (locs1 : List Loc), post r → va_S A0 H0 H locs1 → W p l e R s m args below meth c H locs1 cells slots Q (F0 m (pc + 3) ls (.int r :: rest))) : W p l e R s m args below meth c H locs cells slots Q (F0 m pc ls st0) := by
  obtain ⟨fs, hO⟩ := rc_7 hI hO List.not_mem_nil
  exact va_calli (va_runV (As := As) (rest := rest) F hM (cwV n F.2.2.2.2 (tb_V h1 h2 h3 h4 h5) rfl rfl rfl hd hR) ⟨nr_blind, va_recv hK (th_one hO) (q := (RX3, TX3, 12)) rfl (q0 := 0) rfl, fun U hU hW => ⟨rfl, hU, ⟨by rw [hU]; exact hI, hN.warm hW, va_K.moved hW.alike hK⟩⟩⟩ rfl hn hsize hst (lv_room hrm) hdg hcs) hS (fun q _ h => h.elim) (fun q h => h.elim) (fun r u t H1 locs1 ht hvm hw hB hz hk hS1 => by
    have e : H1 = H := ht.symm.trans hB
    rw [e] at hS1 ⊢
    exact kk r locs1 hw hS1)
end MCC
theorem gfC_of {E : Nat → Nat} {D : va_G} {G : th_G} {H : Heap} {M n : Nat} {lo hi : Int} (hI : th_I (okC E) D G [] H) (hM : G M = some (7, 12)) (k : Nat) (hk : k < 12) (hm : mfC[k]? = some (.inr (lo, hi))) : ∃ z : Int32, gfC D M k z H ∧ lo ≤ z.toInt ∧ z.toInt ≤ hi := by
  obtain ⟨fs, hO, hok⟩ := omC hI hM List.not_mem_nil
  obtain ⟨v, hv, hmv⟩ := hok.2 k hk
  rw [hm] at hmv
  obtain ⟨q, rfl, h1, h2⟩ := hmv
  exact ⟨q, ⟨fs, hO, hv⟩, h1, h2⟩
theorem frC_of {E : Nat → Nat} {D : va_G} {G : th_G} {H : Heap} {M n : Nat} {kd : th_K} (hI : th_I (okC E) D G [] H) (hM : G M = some (7, 12)) (k : Nat) (hk : k < 12) (hm : mfC[k]? = some (.inl kd)) : ∃ q : Nat, G q = some kd ∧ frC D M k q H := by
  obtain ⟨fs, hO, hok⟩ := omC hI hM List.not_mem_nil
  obtain ⟨v, hv, hmv⟩ := hok.2 k hk
  rw [hm] at hmv
  obtain ⟨q, rfl, h1⟩ := hmv
  exact ⟨q, h1, ⟨fs, hO, hv⟩⟩
/-! ===== the Reader's tokens, and where it stands ===== -/
def ck (c z : Int) : Prop := (256 ≤ c ∧ c ≤ 272 ∧ z = c - 255) ∨ (0 ≤ c ∧ c ≤ 255 ∧ z = 100 + c) ∨ (c = -2 ∧ z = 50) ∨ (c = -3 ∧ z = 0)
def TK (ft fn : Nat → Int32) (TT : Nat) (ZZ : Nat → Int) (YY : Nat → Bool) : Prop := (ft TT).toInt = -1 ∧ ∀ j : Nat, j < TT → ck (ft j).toInt (ZZ j) ∧ (YY j = true ↔ (fn j).toInt ≤ 1000)
theorem TK.at {ft fn : Nat → Int32} {TT j : Nat} {ZZ : Nat → Int} {YY : Nat → Bool} (h : TK ft fn TT ZZ YY) (hj : j ≤ TT) : ((ft j).toInt = -1 ∧ j = TT) ∨ (j < TT ∧ ((256 ≤ (ft j).toInt ∧ (ft j).toInt ≤ 272 ∧ ZZ j = (ft j).toInt - 255) ∨ (0 ≤ (ft j).toInt ∧ (ft j).toInt ≤ 255 ∧ ZZ j = 100 + (ft j).toInt) ∨ ((ft j).toInt = -2 ∧ ZZ j = 50) ∨ ((ft j).toInt = -3 ∧ ZZ j = 0))) := by
  by_cases e : j = TT
  · exact Or.inl ⟨by rw [e]; exact h.1, e⟩
  · exact Or.inr ⟨by omega, (h.2 j (by omega)).1⟩
theorem TK.y {ft fn : Nat → Int32} {TT j : Nat} {ZZ : Nat → Int} {YY : Nat → Bool} (h : TK ft fn TT ZZ YY) (hj : j < TT) : YY j = true ↔ (fn j).toInt ≤ 1000 := (h.2 j hj).2
def oc (c : Int) : Prop := c = 43 ∨ c = 45 ∨ c = 42 ∨ c = 47 ∨ c = 37
def SI (r op c : Int) (P Q : Prop) : Prop := (r = 1 ∧ P ∧ ((op = -1 ∧ ¬ oc c) ∨ (op ≠ -1 ∧ oc c))) ∨ (r = 0 ∧ Q)
theorem SI_op {x : Int32} {c : Int} (h : (x.toInt = -1 ∧ ¬ oc c) ∨ (2 ≤ x.toInt ∧ x.toInt ≤ 6 ∧ oc c)) : (x.toInt = -1 ∧ ¬ oc c) ∨ (x.toInt ≠ -1 ∧ oc c) := by
  rcases h with h | ⟨a, b, c⟩
  · exact Or.inl h
  · exact Or.inr ⟨by omega, c⟩
theorem SI_in {r op c : Int} {P Q : Prop} (h : SI r op c P Q) (hr : r ≠ 0) (ho : op ≠ -1) : P ∧ oc c := by
  rcases h with ⟨a, b, d⟩ | ⟨a, b⟩
  · rcases d with ⟨d, _⟩ | ⟨_, d⟩
    · exact absurd d ho
    · exact ⟨b, d⟩
  · exact absurd a hr
theorem SI_out {r op c : Int} {P Q : Prop} (h : SI r op c P Q) (ho : r = 0 ∨ op = -1 ∨ ¬ oc c) : (r = 1 ∧ P ∧ ¬ oc c) ∨ (r = 0 ∧ Q) := by
  rcases h with ⟨a, b, d⟩ | h
  · refine Or.inl ⟨a, b, ?_⟩
    rcases d with ⟨_, d⟩ | ⟨d, e⟩
    · exact d
    · rcases ho with ho | ho | ho
      · omega
      · exact absurd ho d
      · exact ho
  · exact Or.inr h
def SJ (r : Int) (P Q : Prop) : Prop := (r = 1 ∧ P) ∨ (r = 0 ∧ Q)
theorem SJ_in {r : Int} {P Q : Prop} (h : SJ r P Q) (hr : r ≠ 0) : P := by
  rcases h with ⟨_, b⟩ | ⟨a, _⟩
  · exact b
  · exact absurd a hr
theorem SJ_out {r : Int} {P Q C : Prop} (h : SJ r P Q) (ho : r = 0 ∨ C) : (r = 1 ∧ P ∧ C) ∨ (r = 0 ∧ Q) := by
  rcases h with ⟨a, b⟩ | h
  · rcases ho with ho | ho
    · omega
    · exact Or.inl ⟨a, b, ho⟩
  · exact Or.inr h
def RC0 (E : Nat → Nat) (D : va_G) (G : th_G) (h0 : Nat) (ft fp fn : Nat → Int32) (TT nc LL : Nat) (H : Heap) : Prop := TT ≤ 400 ∧ nc ≤ 12 ∧ gaC E D G h0 3 (17, 401) ft H ∧ gaC E D G h0 4 (18, 401) fp H ∧ gaC E D G h0 5 (19, 401) fn H ∧ (∃ z, gfC D h0 6 z H ∧ z.toInt = (TT : Int) + 1) ∧ (∃ z, gfC D h0 7 z H ∧ z.toInt = (nc : Int)) ∧ ∃ z, gfC D h0 8 z H ∧ z.toInt = (LL : Int)
def RC (E : Nat → Nat) (D : va_G) (G : th_G) (h0 : Nat) (ft fp fn : Nat → Int32) (TT pp nc LL : Nat) (H : Heap) : Prop := TT ≤ 400 ∧ nc ≤ 12 ∧ gaC E D G h0 3 (17, 401) ft H ∧ gaC E D G h0 4 (18, 401) fp H ∧ gaC E D G h0 5 (19, 401) fn H ∧ (∃ z, gfC D h0 6 z H ∧ z.toInt = (TT : Int) + 1) ∧ (∃ z, gfC D h0 7 z H ∧ z.toInt = (nc : Int)) ∧ (∃ z, gfC D h0 8 z H ∧ z.toInt = (LL : Int)) ∧ pp ≤ TT ∧ (∃ z, gfC D h0 10 z H ∧ z.toInt = (pp : Int)) ∧ ∃ z, gfC D h0 11 z H ∧ z.toInt = (ft pp).toInt
theorem RC.to0 {E : Nat → Nat} {D : va_G} {G : th_G} {h0 : Nat} {ft fp fn : Nat → Int32} {TT pp nc LL : Nat} {H : Heap} (h : RC E D G h0 ft fp fn TT pp nc LL H) : RC0 E D G h0 ft fp fn TT nc LL H := ⟨h.1, h.2.1, h.2.2.1, h.2.2.2.1, h.2.2.2.2.1, h.2.2.2.2.2.1, h.2.2.2.2.2.2.1, h.2.2.2.2.2.2.2.1⟩
theorem RC.tk {E : Nat → Nat} {D : va_G} {G : th_G} {h0 : Nat} {ft fp fn : Nat → Int32} {TT pp nc LL : Nat} {H : Heap} (h : RC E D G h0 ft fp fn TT pp nc LL H) : TT ≤ 400 ∧ pp ≤ TT ∧ (∃ z, gfC D h0 10 z H ∧ z.toInt = (pp : Int)) ∧ ∃ z, gfC D h0 11 z H ∧ z.toInt = (ft pp).toInt := ⟨h.1, h.2.2.2.2.2.2.2.2.1, h.2.2.2.2.2.2.2.2.2.1, h.2.2.2.2.2.2.2.2.2.2⟩
/-! ===== the class's splitting ===== -/
def zc (c : Int) : Int := if 256 ≤ c then c - 255 else if 0 ≤ c then 100 + c else if c = -2 then 50 else 0
def tC (E : Nat → Nat) (a j : Nat) : Nat := E (1100 + 512 * a + j)
abbrev TC_ (E : Nat → Nat) (a N : Nat) (fp ft fn : Nat → Int32) (k t : Nat) : Prop := tk_I (tC E a) N (fun j => (fp j).toInt) (fun j => zc (ft j).toInt) (YV fn) k t
def CKI (ft : Nat → Int32) (t : Nat) : Prop := ∀ j : Nat, j < t → ck (ft j).toInt (zc (ft j).toInt)
theorem zc_ck {c : Int} (h : (256 ≤ c ∧ c ≤ 272) ∨ (0 ≤ c ∧ c ≤ 255) ∨ c = -2 ∨ c = -3) : ck c (zc c) := by
  unfold zc ck
  rcases h with h | h | h | h
  · rw [if_pos h.1]; omega
  · rw [if_neg (by omega), if_pos h.1]; omega
  · rw [if_neg (by omega), if_neg (by omega), if_pos h]; omega
  · rw [if_neg (by omega), if_neg (by omega), if_neg (by omega)]; omega
def RT (E : Nat → Nat) (D : va_G) (G : th_G) (h0 : Nat) (ft fp fn : Nat → Int32) (tt : Nat) (H : Heap) : Prop := tt ≤ 401 ∧ gaC E D G h0 3 (17, 401) ft H ∧ gaC E D G h0 4 (18, 401) fp H ∧ gaC E D G h0 5 (19, 401) fn H ∧ ∃ z, gfC D h0 6 z H ∧ z.toInt = (tt : Int)
/-- one token more -/
def AT (ft fp fn ft' fp' fn' : Nat → Int32) (tt : Nat) (a b c : Int32) : Prop := (∀ j : Nat, j ≠ tt → ft' j = ft j ∧ fp' j = fp j ∧ fn' j = fn j) ∧ ft' tt = a ∧ fp' tt = b ∧ fn' tt = c
theorem AT.mk {ft fp fn : Nat → Int32} {tt : Nat} {a b c i j k : Int32} (hi : i.toInt = (tt : Int)) (hj : j.toInt = (tt : Int)) (hk : k.toInt = (tt : Int)) : AT ft fp fn (upd ft i.toNatClampNeg a) (upd fp j.toNatClampNeg b) (upd fn k.toNatClampNeg c) tt a b c := ⟨fun m hm => ⟨up_ne hi hm, up_ne hj hm, up_ne hk hm⟩, up_at hi, up_at hj, up_at hk⟩
theorem TC_tok {E : Nat → Nat} {ta N k t e : Nat} {ft fp fn ft' fp' fn' : Nat → Int32} {a b c : Int32} (h : TC_ E ta N fp ft fn k t) (hA : AT ft fp fn ft' fp' fn' t a b c) (hk : k < N) (hb : tC E ta k ≠ 32) (he : k < e) (heN : e ≤ N) (hc : (∀ j, k < j → j < e → tk_ct (tC E ta) j) ∧ (e = N ∨ ¬ tk_ct (tC E ta) e)) (h5 : b.toInt = (k : Int)) (h6 : tk_z (tC E ta) N k (zc a.toInt)) (h7 : tk_dg (tC E ta k) → tk_rd (tC E ta) N k e ∧ (c.toInt ≤ 1000 ↔ tk_v (tC E ta) k (e - k) ≤ 1000)) : TC_ E ta N fp' ft' fn' e (t + 1) :=
  tk_I.tok h hk hb he heN hc (fun j hj => by
    obtain ⟨q1, q2, q3⟩ := hA.1 j hj
    refine ⟨by show (fp' j).toInt = (fp j).toInt; rw [q2], by show zc (ft' j).toInt = zc (ft j).toInt; rw [q1], ?_⟩
    unfold YV
    rw [q3]) (by show (fp' t).toInt = _; rw [hA.2.2.1]; exact h5) (by show tk_z _ _ _ (zc (ft' t).toInt); rw [hA.2.1]; exact h6) (fun z => by
    obtain ⟨r1, r2⟩ := h7 z
    refine ⟨e, r1, ?_⟩
    rw [YV_t, hA.2.2.2]
    exact r2)
theorem CKI_tok {ft fp fn ft' fp' fn' : Nat → Int32} {t : Nat} {a b c : Int32} (h : CKI ft t) (hA : AT ft fp fn ft' fp' fn' t a b c) (ha : ck a.toInt (zc a.toInt)) : CKI ft' (t + 1) := fun j hj => by
  by_cases e : j = t
  · rw [e, hA.2.1]; exact ha
  · rw [(hA.1 j e).1]; exact h j (by omega)
theorem tc_at {E : Nat → Nat} {a p : Nat} {f : Nat → Int32} {i x : Int32} (h : ∀ j : Nat, j < 400 → (f j).toInt = ((E (1100 + 512 * a + j) : Nat) : Int) ∧ E (1100 + 512 * a + j) ≤ 255) (e : x = f i.toNatClampNeg) (hi : i.toInt = (p : Int)) (hp : p < 400) : x.toInt = (tC E a p : Int) ∧ tC E a p ≤ 255 := by
  rw [rd_at e hi]
  exact h p hp
/-- the value so far, as the class keeps it: never above 1001 -/
def VC (E : Nat → Nat) (ta N k i : Nat) (v : Int) : Prop := 0 ≤ v ∧ v ≤ 1001 ∧ ((v ≤ 1000 ∧ v = (tk_v (tC E ta) k (i - k) : Int)) ∨ (v = 1001 ∧ 1000 < tk_v (tC E ta) k (i - k)))
theorem VC.ini {E : Nat → Nat} {ta N k : Nat} {v : Int} (hg : tk_dg (tC E ta k)) (hv : v = (tC E ta k : Int) - 48) : VC E ta N k (k + 1) v := by
  unfold tk_dg at hg
  have e : tk_v (tC E ta) k (k + 1 - k) = tC E ta k - 48 := by
    rw [tk_v1 (Nat.le_refl k), Nat.sub_self]
    show 0 * 10 + _ = _
    omega
  refine ⟨by omega, by omega, Or.inl ⟨by omega, ?_⟩⟩
  rw [e]; omega
theorem VC.add {E : Nat → Nat} {ta N k i : Nat} {v w d : Int} (h : VC E ta N k i v) (hi : k ≤ i) (hg : tk_dg (tC E ta i)) (hd : d = (tC E ta i : Int)) (hw : (w ≤ 1001 ∧ w = v * 10 + d - 48) ∨ (w = 1001 ∧ 1001 ≤ v * 10 + d - 48)) : VC E ta N k (i + 1) w := by
  unfold tk_dg at hg
  obtain ⟨a, b, c⟩ := h
  have e := tk_v1 (B := tC E ta) hi
  refine ⟨by omega, by omega, ?_⟩
  rcases c with ⟨c1, c2⟩ | ⟨c1, c2⟩
  · rcases hw with ⟨w1, w2⟩ | ⟨w1, w2⟩
    · by_cases q : w ≤ 1000
      · exact Or.inl ⟨q, by omega⟩
      · exact Or.inr ⟨by omega, by omega⟩
    · exact Or.inr ⟨w1, by omega⟩
  · exact Or.inr ⟨by omega, by omega⟩
/-! ===== the class's words: eight places each ===== -/
def w_8 (j : Nat) : Int := (w_byt.getD j 0).toInt
theorem w8_T : ∀ k : Nat, k < 17 → ∀ x : Nat, x < 8 → w_8 (8 * k + x) = if x < tk_wl k then ((tk_wc k x : Nat) : Int) else 32 := by decide +kernel
def sgn (B : Nat → Nat) (i e x : Nat) : Int := if i + x < e then (B (i + x) : Int) else 32
def WC (B : Nat → Nat) (i e k n : Nat) (same : Int) : Prop := (same = 1 ∧ e < i + 8 ∧ ∀ x : Nat, x < n → sgn B i e x = w_8 (8 * k + x)) ∨ (same = 0 ∧ ¬ tk_m B i e k)
theorem w_fw {B : Nat → Nat} {i e k : Nat} (hk : k < 17) (h : tk_m B i e k) : e < i + 8 ∧ ∀ x : Nat, x < 8 → sgn B i e x = w_8 (8 * k + x) := by
  obtain ⟨h1, h2⟩ := h
  obtain ⟨_, _, _, h7, _, _⟩ := wd_T k hk
  refine ⟨by omega, fun x hx => ?_⟩
  rw [w8_T k hk x hx]
  unfold sgn
  by_cases q : x < tk_wl k
  · rw [if_pos (by omega), if_pos q, h2 x q]
  · rw [if_neg (by omega), if_neg q]
theorem w_bw {B : Nat → Nat} {i e k : Nat} (hk : k < 17) (hie : i ≤ e) (hl : ∀ j : Nat, i ≤ j → j < e → tk_lt (B j)) (h : e < i + 8 ∧ ∀ x : Nat, x < 8 → sgn B i e x = w_8 (8 * k + x)) : tk_m B i e k := by
  obtain ⟨h1, h2⟩ := h
  obtain ⟨_, _, _, h7, _, h6⟩ := wd_T k hk
  have hx : ∀ x : Nat, x < tk_wl k → i + x < e ∧ B (i + x) = tk_wc k x := fun x hx => by
    have a := h2 x (by omega)
    rw [w8_T k hk x (by omega), if_pos hx] at a
    have b := h6 x hx
    unfold sgn at a
    by_cases q : i + x < e
    · rw [if_pos q] at a; exact ⟨q, by omega⟩
    · rw [if_neg q] at a; omega
  have h9 := h2 (tk_wl k) (by omega)
  rw [w8_T k hk _ (by omega), if_neg (by omega)] at h9
  have hge : ¬ i + tk_wl k < e := fun q => by
    unfold sgn at h9
    rw [if_pos q] at h9
    have := hl (i + tk_wl k) (by omega) q
    unfold tk_lt at this
    omega
  obtain ⟨_, _, hw1, _, _, _⟩ := wd_T k hk
  have h8 := (hx (tk_wl k - 1) (by omega)).1
  exact ⟨by omega, fun x q => (hx x q).2⟩
theorem WC.ini {B : Nat → Nat} {i e k : Nat} (h : e < i + 8) : WC B i e k 0 1 := Or.inl ⟨rfl, h, fun _ z => absurd z (Nat.not_lt_zero _)⟩
theorem WC.no {B : Nat → Nat} {i e k n : Nat} (hk : k < 17) (h : ¬ e < i + 8) : WC B i e k n 0 := Or.inr ⟨rfl, fun z => h (w_fw hk z).1⟩
theorem WC.yes {B : Nat → Nat} {i e k n : Nat} {s v : Int} (h : WC B i e k n s) (hs : s ≠ 0) (hv : v = sgn B i e n) (hb : v = w_8 (8 * k + n)) : WC B i e k (n + 1) 1 := by
  rcases h with ⟨a, b, c⟩ | ⟨a, _⟩
  · refine Or.inl ⟨rfl, b, fun x hx => ?_⟩
    by_cases q : x = n
    · rw [q, ← hv, hb]
    · exact c x (by omega)
  · exact absurd a hs
theorem WC.dif {B : Nat → Nat} {i e k n : Nat} {v : Int} (hk : k < 17) (hn : n < 8) (hv : v = sgn B i e n) (hb : v ≠ w_8 (8 * k + n)) : WC B i e k (n + 1) 0 := Or.inr ⟨rfl, fun z => hb (hv.trans ((w_fw hk z).2 n hn))⟩
theorem WC.done {B : Nat → Nat} {i e k n : Nat} {s : Int} (h : WC B i e k n s) (hk : k < 17) (hs : s ≠ 0) (hn : 8 ≤ n) (hie : i ≤ e) (hl : ∀ j : Nat, i ≤ j → j < e → tk_lt (B j)) : tk_m B i e k := by
  rcases h with ⟨_, b, c⟩ | ⟨a, _⟩
  · exact w_bw hk hie hl ⟨b, fun x hx => c x (by omega)⟩
  · exact absurd a hs
theorem WC.not {B : Nat → Nat} {i e k n : Nat} {s : Int} (h : WC B i e k n s) (hs : s = 0) : ¬ tk_m B i e k := by
  rcases h with ⟨a, _⟩ | ⟨_, b⟩
  · omega
  · exact b
theorem sgn_in {B : Nat → Nat} {i e x : Nat} (h : i + x < e) : sgn B i e x = (B (i + x) : Int) := if_pos h
theorem sgn_out {B : Nat → Nat} {i e x : Nat} (h : ¬ i + x < e) : sgn B i e x = 32 := if_neg h
theorem zc_w {c : Int} {w : Nat} (h : (w = 0 ∧ c = -3) ∨ (1 ≤ w ∧ c = 255 + (w : Int))) : zc c = (w : Int) := by
  unfold zc
  rcases h with ⟨a, b⟩ | ⟨a, b⟩
  · rw [if_neg (by omega), if_neg (by omega), if_neg (by omega)]; omega
  · rw [if_pos (by omega)]; omega
theorem zc_b {c : Int} (h : 0 ≤ c ∧ c ≤ 255) : zc c = 100 + c := by
  unfold zc
  rw [if_neg (by omega), if_pos h.1]
theorem tk_w17 {B : Nat → Nat} {i e w : Nat} (h : tk_w B i e w) : w ≤ 17 := by
  rcases h with ⟨k, a, _, _, b⟩ | ⟨_, b⟩ <;> omega
theorem VC.y {E : Nat → Nat} {ta N k i : Nat} {v : Int} (h : VC E ta N k i v) : v ≤ 1000 ↔ tk_v (tC E ta) k (i - k) ≤ 1000 := by
  rcases h.2.2 with ⟨a, b⟩ | ⟨a, b⟩ <;> omega
abbrev PWx (E : Nat → Nat) (D : va_G) (G : th_G) (adK adV : Nat → Nat) (X : Heap → Prop) : State → Prop := fun U => th_PW E D G adK adV U ∧ X U.heap
theorem px_blind {E : Nat → Nat} {D : va_G} {G : th_G} {adK adV : Nat → Nat} {av : List Value} {X : Heap → Prop} : FrameBlind (va_Pc av (PWx E D G adK adV X)) := fun a U g mk q => ⟨q.1, ⟨⟨q.2.1.1.1, th_N.same (u := U) rfl q.2.1.1.2.1, va_K.moved (u := U) (U := U.calling g mk a) (Vm.Alike.refl U.vm) q.2.1.1.2.2⟩, WS.same (u := U) rfl q.2.1.2⟩, q.2.2⟩
theorem w8_at {r i : Int32} {p : Nat} (h : r = w_byt.getD i.toNatClampNeg 0) (hi : i.toInt = (p : Int)) : r.toInt = w_8 p := by
  have : i.toNatClampNeg = p := by show i.toInt.toNat = p; omega
  rw [h, this]; rfl

theorem dX3_stoppedAt_0g : (decode cX3_stoppedAt 0 = .ok (.aload_n 0, 1)) ∧ (decode cX3_stoppedAt 1 = .ok (.getfield 43, 3)) ∧ (decode cX3_stoppedAt 4 = .ok (.ifCond .lt 27, 3)) ∧ (decode cX3_stoppedAt 7 = .ok (.aload_n 0, 1)) ∧ (decode cX3_stoppedAt 8 = .ok (.getfield 43, 3)) ∧ (decode cX3_stoppedAt 11 = .ok (.aload_n 0, 1)) ∧ (decode cX3_stoppedAt 12 = .ok (.getfield 24, 3)) ∧ (decode cX3_stoppedAt 15 = .ok (.arraylength, 1)) ∧ (decode cX3_stoppedAt 16 = .ok (.if_icmp .ge 15, 3)) ∧ (decode cX3_stoppedAt 19 = .ok (.aload_n 0, 1)) := by decide +kernel
theorem dX3_stoppedAt_0 : decode cX3_stoppedAt 0 = .ok (.aload_n 0, 1) := dX3_stoppedAt_0g.1
theorem dX3_stoppedAt_1 : decode cX3_stoppedAt 1 = .ok (.getfield 43, 3) := dX3_stoppedAt_0g.2.1
theorem dX3_stoppedAt_4 : decode cX3_stoppedAt 4 = .ok (.ifCond .lt 27, 3) := dX3_stoppedAt_0g.2.2.1
theorem dX3_stoppedAt_7 : decode cX3_stoppedAt 7 = .ok (.aload_n 0, 1) := dX3_stoppedAt_0g.2.2.2.1
theorem dX3_stoppedAt_8 : decode cX3_stoppedAt 8 = .ok (.getfield 43, 3) := dX3_stoppedAt_0g.2.2.2.2.1
theorem dX3_stoppedAt_11 : decode cX3_stoppedAt 11 = .ok (.aload_n 0, 1) := dX3_stoppedAt_0g.2.2.2.2.2.1
theorem dX3_stoppedAt_12 : decode cX3_stoppedAt 12 = .ok (.getfield 24, 3) := dX3_stoppedAt_0g.2.2.2.2.2.2.1
theorem dX3_stoppedAt_15 : decode cX3_stoppedAt 15 = .ok (.arraylength, 1) := dX3_stoppedAt_0g.2.2.2.2.2.2.2.1
theorem dX3_stoppedAt_16 : decode cX3_stoppedAt 16 = .ok (.if_icmp .ge 15, 3) := dX3_stoppedAt_0g.2.2.2.2.2.2.2.2.1
theorem dX3_stoppedAt_19 : decode cX3_stoppedAt 19 = .ok (.aload_n 0, 1) := dX3_stoppedAt_0g.2.2.2.2.2.2.2.2.2
theorem dX3_stoppedAt_20g : (decode cX3_stoppedAt 20 = .ok (.getfield 24, 3)) ∧ (decode cX3_stoppedAt 23 = .ok (.aload_n 0, 1)) ∧ (decode cX3_stoppedAt 24 = .ok (.getfield 43, 3)) ∧ (decode cX3_stoppedAt 27 = .ok (.iaload, 1)) ∧ (decode cX3_stoppedAt 28 = .ok (.goto 4, 3)) ∧ (decode cX3_stoppedAt 31 = .ok (.iconst 0, 1)) ∧ (decode cX3_stoppedAt 32 = .ok (.ireturn, 1)) := by decide +kernel
theorem dX3_stoppedAt_20 : decode cX3_stoppedAt 20 = .ok (.getfield 24, 3) := dX3_stoppedAt_20g.1
theorem dX3_stoppedAt_23 : decode cX3_stoppedAt 23 = .ok (.aload_n 0, 1) := dX3_stoppedAt_20g.2.1
theorem dX3_stoppedAt_24 : decode cX3_stoppedAt 24 = .ok (.getfield 43, 3) := dX3_stoppedAt_20g.2.2.1
theorem dX3_stoppedAt_27 : decode cX3_stoppedAt 27 = .ok (.iaload, 1) := dX3_stoppedAt_20g.2.2.2.1
theorem dX3_stoppedAt_28 : decode cX3_stoppedAt 28 = .ok (.goto 4, 3) := dX3_stoppedAt_20g.2.2.2.2.1
theorem dX3_stoppedAt_31 : decode cX3_stoppedAt 31 = .ok (.iconst 0, 1) := dX3_stoppedAt_20g.2.2.2.2.2.1
theorem dX3_stoppedAt_32 : decode cX3_stoppedAt 32 = .ok (.ireturn, 1) := dX3_stoppedAt_20g.2.2.2.2.2.2
set_option maxHeartbeats 4000000 in
set_option maxRecDepth 100000 in
theorem c_X3_stoppedAt (l : Launch) (E : Nat → Nat) (D : va_G) (G : th_G) (H0 : Heap) (h0 : Nat) (hG0 : G h0 = some (7, 12)) (ft fp fn : Nat → Int32) (TT pp nc LL : Nat) (hE : RC E D G h0 ft fp fn TT pp nc LL H0) : Met l yX3_stoppedAt (tb (.code yX3_stoppedAt cX3_stoppedAt 1 (some .int))) (rm 0) (va_Pc [.ref h0] (PRC E D G H0)) (QS H0 (fun r => (r : Int32).toInt = (fp pp).toInt)) 0 0 (fun _ => False) := by
  refine Met.ofW (cc := cX3_stoppedAt) (maxL := 1) (ret := (some .int)) (by decide) rfl ?_
  intro p e s m args below meth c s₁ B hml hv
  obtain ⟨hav, rfl, hI, hN, hK⟩ := hv
  have hx := B.exec
  have hb := B.bytes
  have hr := B.returns
  have hts := atoms_spec (ws := tb (.code yX3_stoppedAt cX3_stoppedAt 1 (some .int))) B.pre
  have hown : s.vm.findClass RX3 = some m.cls := findClass_of_methodNamed B.named
  have hlocks := B.notSynchronized
  have hS : va_S (fun _ => False) s.heap s.heap [] := va_S.rf
  have hl := lv_entry ([.ref h0]) (n := 1) (Nat.le_of_ble_eq_true rfl)
  rw [show entryFrame m args 1 = entryFrame m ([.ref h0] : List Value).toArray 1 from by rw [hav], lg_entry_eq]
  generalize (lg_sl ([.ref h0]) ++ List.replicate (1 - (lg_sl ([.ref h0])).length) Slot.unset).toArray = ls at hl ⊢
  have hl : lv_has ls 1 [(0, .ref h0)] := hl
  generalize hR : (headSpec (tb (.code yX3_stoppedAt cX3_stoppedAt 1 (some .int))) (rm 0)).room = R
  have hR := hR.symm
  generalize hQ : MQ below (QS s.heap (fun r => (r : Int32).toInt = (fp pp).toInt)) args s 0 0 (fun _ => False) = QF
  have hQ := hQ.symm
  obtain ⟨hT4, hn12, ⟨a1, hf2, hq3, hA4⟩, ⟨a5, hf6, hq7, hA8⟩, ⟨a9, hf10, hq11, hA12⟩, ⟨w13, hg14, k15⟩, ⟨w16, hg17, k18⟩, ⟨w19, hg20, k21⟩, hpT, ⟨w22, hg23, k24⟩, ⟨w25, hg26, k27⟩⟩ := hE
  have k28 := iv_lo w19
  have k29 := iv_hi w19
  refine lv_aload_n hx hb dX3_stoppedAt_0 rfl (lv_at hl 0 rfl) ?_
  refine gmIC hx hb hts inT3 hown hK hI List.not_mem_nil hG0 10 (by decide) (hts _ (tb_c wd_139)) rfl rfl dX3_stoppedAt_1 (fun w30 hg31 k32 k33 => ?_)
  obtain rfl := gfC.uniq (by decide) hg23 hg31
  refine lv_if_lt (tgt := 31) hx hb dX3_stoppedAt_4 (by decide) (fun c34 => ?_) (fun c34 => ?_)
  · skip
    have k35 := iv_lt (X := w22.toInt) (Y := (0)) rfl (by decide) c34
    exfalso; omega
  · skip
    have k36 := iv_nlt (X := w22.toInt) (Y := (0)) rfl (by decide) c34
    refine lv_aload_n hx hb dX3_stoppedAt_7 rfl (lv_at hl 0 rfl) ?_
    refine gmIC hx hb hts inT3 hown hK hI List.not_mem_nil hG0 10 (by decide) (hts _ (tb_c wd_139)) rfl rfl dX3_stoppedAt_8 (fun w37 hg38 k39 k40 => ?_)
    obtain rfl := gfC.uniq (by decide) hg23 hg38
    refine lv_aload_n hx hb dX3_stoppedAt_11 rfl (lv_at hl 0 rfl) ?_
    refine gmAC hx hb hts inT3 hown hK hI List.not_mem_nil hG0 4 (by decide) (hts _ (tb_c wd_133)) rfl rfl dX3_stoppedAt_12 (fun a41 hq42 hf43 => ?_)
    obtain rfl := frC.uniq (by decide) hf6 hf43
    refine va_alen hx hb hK (th_one hA8) 0 0 rfl (v := 401) rfl (show Int32.ofNat 401 = (401 : Int32) from by decide) dX3_stoppedAt_15 ?_
    refine lv_icmp_ge (tgt := 31) hx hb dX3_stoppedAt_16 (by decide) (fun c44 => ?_) (fun c44 => ?_)
    · skip
      have k45 := iv_le (X := (401)) (Y := w22.toInt) (by decide) rfl c44
      exfalso; omega
    · skip
      have k46 := iv_nle (X := (401)) (Y := w22.toInt) (by decide) rfl c44
      refine lv_aload_n hx hb dX3_stoppedAt_19 rfl (lv_at hl 0 rfl) ?_
      refine gmAC hx hb hts inT3 hown hK hI List.not_mem_nil hG0 4 (by decide) (hts _ (tb_c wd_133)) rfl rfl dX3_stoppedAt_20 (fun a47 hq48 hf49 => ?_)
      obtain rfl := frC.uniq (by decide) hf6 hf49
      refine lv_aload_n hx hb dX3_stoppedAt_23 rfl (lv_at hl 0 rfl) ?_
      refine gmIC hx hb hts inT3 hown hK hI List.not_mem_nil hG0 10 (by decide) (hts _ (tb_c wd_139)) rfl rfl dX3_stoppedAt_24 (fun w50 hg51 k52 k53 => ?_)
      obtain rfl := gfC.uniq (by decide) hg23 hg51
      refine th_iald hx hb hK hA8 0 rfl (iv_in (X := w22.toInt) rfl (by omega) (by omega)) dX3_stoppedAt_27 (fun v54 e55 => ?_)
      have k56 := rd_at (p := pp) e55 (by omega)
      refine lv_goto (tgt := 32) hx hb dX3_stoppedAt_28 (by decide) ?_
      have hpost : (v54 : Int32).toInt = (fp pp).toInt := by omega
      rw [hQ]
      exact W.iret (v := v54) hx hb hr (fun t ht hW => ⟨⟨v54, (), rfl, hpost, ht⟩, hS.F ht⟩) hS.2.2 dX3_stoppedAt_32
theorem dX3_moveTo_0g : (decode cX3_moveTo 0 = .ok (.aload_n 0, 1)) ∧ (decode cX3_moveTo 1 = .ok (.iload_n 1, 1)) ∧ (decode cX3_moveTo 2 = .ok (.putfield 43, 3)) ∧ (decode cX3_moveTo 5 = .ok (.aload_n 0, 1)) ∧ (decode cX3_moveTo 6 = .ok (.aload_n 0, 1)) ∧ (decode cX3_moveTo 7 = .ok (.getfield 43, 3)) ∧ (decode cX3_moveTo 10 = .ok (.ifCond .lt 26, 3)) ∧ (decode cX3_moveTo 13 = .ok (.aload_n 0, 1)) ∧ (decode cX3_moveTo 14 = .ok (.getfield 43, 3)) ∧ (decode cX3_moveTo 17 = .ok (.aload_n 0, 1)) := by decide +kernel
theorem dX3_moveTo_0 : decode cX3_moveTo 0 = .ok (.aload_n 0, 1) := dX3_moveTo_0g.1
theorem dX3_moveTo_1 : decode cX3_moveTo 1 = .ok (.iload_n 1, 1) := dX3_moveTo_0g.2.1
theorem dX3_moveTo_2 : decode cX3_moveTo 2 = .ok (.putfield 43, 3) := dX3_moveTo_0g.2.2.1
theorem dX3_moveTo_5 : decode cX3_moveTo 5 = .ok (.aload_n 0, 1) := dX3_moveTo_0g.2.2.2.1
theorem dX3_moveTo_6 : decode cX3_moveTo 6 = .ok (.aload_n 0, 1) := dX3_moveTo_0g.2.2.2.2.1
theorem dX3_moveTo_7 : decode cX3_moveTo 7 = .ok (.getfield 43, 3) := dX3_moveTo_0g.2.2.2.2.2.1
theorem dX3_moveTo_10 : decode cX3_moveTo 10 = .ok (.ifCond .lt 26, 3) := dX3_moveTo_0g.2.2.2.2.2.2.1
theorem dX3_moveTo_13 : decode cX3_moveTo 13 = .ok (.aload_n 0, 1) := dX3_moveTo_0g.2.2.2.2.2.2.2.1
theorem dX3_moveTo_14 : decode cX3_moveTo 14 = .ok (.getfield 43, 3) := dX3_moveTo_0g.2.2.2.2.2.2.2.2.1
theorem dX3_moveTo_17 : decode cX3_moveTo 17 = .ok (.aload_n 0, 1) := dX3_moveTo_0g.2.2.2.2.2.2.2.2.2
theorem dX3_moveTo_18g : (decode cX3_moveTo 18 = .ok (.getfield 30, 3)) ∧ (decode cX3_moveTo 21 = .ok (.if_icmp .ge 15, 3)) ∧ (decode cX3_moveTo 24 = .ok (.aload_n 0, 1)) ∧ (decode cX3_moveTo 25 = .ok (.getfield 21, 3)) ∧ (decode cX3_moveTo 28 = .ok (.aload_n 0, 1)) ∧ (decode cX3_moveTo 29 = .ok (.getfield 43, 3)) ∧ (decode cX3_moveTo 32 = .ok (.iaload, 1)) ∧ (decode cX3_moveTo 33 = .ok (.goto 4, 3)) ∧ (decode cX3_moveTo 36 = .ok (.iconst (-1), 1)) ∧ (decode cX3_moveTo 37 = .ok (.putfield 46, 3)) := by decide +kernel
theorem dX3_moveTo_18 : decode cX3_moveTo 18 = .ok (.getfield 30, 3) := dX3_moveTo_18g.1
theorem dX3_moveTo_21 : decode cX3_moveTo 21 = .ok (.if_icmp .ge 15, 3) := dX3_moveTo_18g.2.1
theorem dX3_moveTo_24 : decode cX3_moveTo 24 = .ok (.aload_n 0, 1) := dX3_moveTo_18g.2.2.1
theorem dX3_moveTo_25 : decode cX3_moveTo 25 = .ok (.getfield 21, 3) := dX3_moveTo_18g.2.2.2.1
theorem dX3_moveTo_28 : decode cX3_moveTo 28 = .ok (.aload_n 0, 1) := dX3_moveTo_18g.2.2.2.2.1
theorem dX3_moveTo_29 : decode cX3_moveTo 29 = .ok (.getfield 43, 3) := dX3_moveTo_18g.2.2.2.2.2.1
theorem dX3_moveTo_32 : decode cX3_moveTo 32 = .ok (.iaload, 1) := dX3_moveTo_18g.2.2.2.2.2.2.1
theorem dX3_moveTo_33 : decode cX3_moveTo 33 = .ok (.goto 4, 3) := dX3_moveTo_18g.2.2.2.2.2.2.2.1
theorem dX3_moveTo_36 : decode cX3_moveTo 36 = .ok (.iconst (-1), 1) := dX3_moveTo_18g.2.2.2.2.2.2.2.2.1
theorem dX3_moveTo_37 : decode cX3_moveTo 37 = .ok (.putfield 46, 3) := dX3_moveTo_18g.2.2.2.2.2.2.2.2.2
theorem dX3_moveTo_40 : decode cX3_moveTo 40 = .ok (.return_, 1) := by decide +kernel
set_option maxHeartbeats 4000000 in
set_option maxRecDepth 100000 in
theorem c_X3_moveTo (l : Launch) (E : Nat → Nat) (D : va_G) (G : th_G) (h0 : Nat) (hG0 : G h0 = some (7, 12)) (x1 : Int32) (ft fp fn : Nat → Int32) (TT pp nc LL : Nat) (hx1 : x1.toInt = (pp : Int)) (hpT : pp ≤ TT) : Met l yX3_moveTo (tb (.code yX3_moveTo cX3_moveTo 2 none)) (rm 0) (va_Pc [.ref h0, .int x1] (PCx E D G (fun H => RC0 E D G h0 ft fp fn TT nc LL H))) (QCv E D G (fun H => RC E D G h0 ft fp fn TT pp nc LL H)) 0 0 (th_A G) := by
  refine Met.ofW (cc := cX3_moveTo) (maxL := 2) (ret := none) (by decide) rfl ?_
  intro p e s m args below meth c s₁ B hml hv
  obtain ⟨hav, ⟨hI, hN, hK⟩, hX⟩ := hv
  have hx := B.exec
  have hb := B.bytes
  have hr := B.returns
  have hts := atoms_spec (ws := tb (.code yX3_moveTo cX3_moveTo 2 none)) B.pre
  have hown : s.vm.findClass RX3 = some m.cls := findClass_of_methodNamed B.named
  have hlocks := B.notSynchronized
  have hS : va_S (th_A G) s.heap s.heap [] := va_S.rf
  have hl := lv_entry ([.ref h0, .int x1]) (n := 2) (Nat.le_of_ble_eq_true rfl)
  rw [show entryFrame m args 2 = entryFrame m ([.ref h0, .int x1] : List Value).toArray 2 from by rw [hav], lg_entry_eq]
  generalize (lg_sl ([.ref h0, .int x1]) ++ List.replicate (2 - (lg_sl ([.ref h0, .int x1])).length) Slot.unset).toArray = ls at hl ⊢
  have hl : lv_has ls 2 [(0, .ref h0), (1, .int x1)] := hl
  generalize hR : (headSpec (tb (.code yX3_moveTo cX3_moveTo 2 none)) (rm 0)).room = R
  have hR := hR.symm
  generalize hQ : MQ below (QCv E D G (fun H => RC E D G h0 ft fp fn TT pp nc LL H)) args s 0 0 (th_A G) = QF
  have hQ := hQ.symm
  obtain ⟨hT4, hn12, ⟨a1, hf2, hq3, hA4⟩, ⟨a5, hf6, hq7, hA8⟩, ⟨a9, hf10, hq11, hA12⟩, ⟨w13, hg14, k15⟩, ⟨w16, hg17, k18⟩, ⟨w19, hg20, k21⟩⟩ := hX
  have k22 := iv_lo w19
  have k23 := iv_hi w19
  refine lv_aload_n hx hb dX3_moveTo_0 rfl (lv_at hl 0 rfl) ?_
  refine lv_iload_n hx hb dX3_moveTo_1 rfl (lv_at hl 1 rfl) ?_
  refine pmIC (ty := .int) hx hb hts inT3 hown hK hI List.not_mem_nil hG0 hS ⟨_, hG0⟩ 10 (by decide) (hts _ (tb_c wd_139)) rfl rfl (by decide +kernel) rfl rfl rfl (by omega) (by omega) dX3_moveTo_2 (fun H locs hI hgP hS => ?_)
  have hg14 := hgP.2.2.1 6 _ (by decide) (by decide) hg14
  have hg17 := hgP.2.2.1 7 _ (by decide) (by decide) hg17
  have hg20 := hgP.2.2.1 8 _ (by decide) (by decide) hg20
  have hg24 := hgP.2.1
  have hf2 := hgP.2.2.2 3 _ (by decide) (by decide) hf2
  have hf6 := hgP.2.2.2 4 _ (by decide) (by decide) hf6
  have hf10 := hgP.2.2.2 5 _ (by decide) (by decide) hf10
  have hA4 := va_at.kept hA4 (hgP.1 _ (m_ne hq3 hG0 (by first | decide | (dsimp only; decide))))
  have hA8 := va_at.kept hA8 (hgP.1 _ (m_ne hq7 hG0 (by first | decide | (dsimp only; decide))))
  have hA12 := va_at.kept hA12 (hgP.1 _ (m_ne hq11 hG0 (by first | decide | (dsimp only; decide))))
  refine lv_aload_n hx hb dX3_moveTo_5 rfl (lv_at hl 0 rfl) ?_
  refine lv_aload_n hx hb dX3_moveTo_6 rfl (lv_at hl 0 rfl) ?_
  refine gmIC hx hb hts inT3 hown hK hI List.not_mem_nil hG0 10 (by decide) (hts _ (tb_c wd_139)) rfl rfl dX3_moveTo_7 (fun w25 hg26 k27 k28 => ?_)
  obtain rfl := gfC.uniq (by decide) hg24 hg26
  refine lv_if_lt (tgt := 36) hx hb dX3_moveTo_10 (by decide) (fun c29 => ?_) (fun c29 => ?_)
  · skip
    have k30 := iv_lt (X := x1.toInt) (Y := (0)) rfl (by decide) c29
    exfalso; omega
  · skip
    have k31 := iv_nlt (X := x1.toInt) (Y := (0)) rfl (by decide) c29
    refine lv_aload_n hx hb dX3_moveTo_13 rfl (lv_at hl 0 rfl) ?_
    refine gmIC hx hb hts inT3 hown hK hI List.not_mem_nil hG0 10 (by decide) (hts _ (tb_c wd_139)) rfl rfl dX3_moveTo_14 (fun w32 hg33 k34 k35 => ?_)
    obtain rfl := gfC.uniq (by decide) hg24 hg33
    refine lv_aload_n hx hb dX3_moveTo_17 rfl (lv_at hl 0 rfl) ?_
    refine gmIC hx hb hts inT3 hown hK hI List.not_mem_nil hG0 6 (by decide) (hts _ (tb_c wd_135)) rfl rfl dX3_moveTo_18 (fun w36 hg37 k38 k39 => ?_)
    obtain rfl := gfC.uniq (by decide) hg14 hg37
    refine lv_icmp_ge (tgt := 36) hx hb dX3_moveTo_21 (by decide) (fun c40 => ?_) (fun c40 => ?_)
    · skip
      have k41 := iv_le (X := w13.toInt) (Y := x1.toInt) rfl rfl c40
      refine lv_iconst (v := (-1)) hx hb dX3_moveTo_36 (by decide) ?_
      refine pmIC (ty := .int) hx hb hts inT3 hown hK hI List.not_mem_nil hG0 hS ⟨_, hG0⟩ 11 (by decide) (hts _ (tb_c wd_140)) rfl rfl (by decide +kernel) rfl rfl rfl (by decide) (by decide) dX3_moveTo_37 (fun H locs hI hgP hS => ?_)
      have hg14 := hgP.2.2.1 6 _ (by decide) (by decide) hg14
      have hg17 := hgP.2.2.1 7 _ (by decide) (by decide) hg17
      have hg20 := hgP.2.2.1 8 _ (by decide) (by decide) hg20
      have hg24 := hgP.2.2.1 10 _ (by decide) (by decide) hg24
      have hg42 := hgP.2.1
      have hf2 := hgP.2.2.2 3 _ (by decide) (by decide) hf2
      have hf6 := hgP.2.2.2 4 _ (by decide) (by decide) hf6
      have hf10 := hgP.2.2.2 5 _ (by decide) (by decide) hf10
      have hA4 := va_at.kept hA4 (hgP.1 _ (m_ne hq3 hG0 (by first | decide | (dsimp only; decide))))
      have hA8 := va_at.kept hA8 (hgP.1 _ (m_ne hq7 hG0 (by first | decide | (dsimp only; decide))))
      have hA12 := va_at.kept hA12 (hgP.1 _ (m_ne hq11 hG0 (by first | decide | (dsimp only; decide))))
      have hpost : RC E D G h0 ft fp fn TT pp nc LL H := by first | exact ⟨by omega, by omega, ⟨a1, hf2, hq3, hA4⟩, ⟨a5, hf6, hq7, hA8⟩, ⟨a9, hf10, hq11, hA12⟩, ⟨w13, hg14, by first | omega | decide⟩, ⟨w16, hg17, by first | omega | decide⟩, ⟨w19, hg20, by first | omega | decide⟩, by omega, ⟨x1, hg24, by first | omega | decide⟩, ⟨(-1), hg42, by first | omega | decide⟩⟩ | (exfalso; omega)
      rw [hQ]
      exact W.vret hx hb hr (fun t ht hW => ⟨⟨(), rfl, trivial, ⟨by rw [ht]; exact hI, hN.warm hW, va_K.moved hW.alike hK⟩, by first | (rw [ht]; exact hpost) | exact hpost⟩, hS.F ht⟩) hS.2.2 dX3_moveTo_40
    · skip
      have k43 := iv_nle (X := w13.toInt) (Y := x1.toInt) rfl rfl c40
      refine lv_aload_n hx hb dX3_moveTo_24 rfl (lv_at hl 0 rfl) ?_
      refine gmAC hx hb hts inT3 hown hK hI List.not_mem_nil hG0 3 (by decide) (hts _ (tb_c wd_132)) rfl rfl dX3_moveTo_25 (fun a44 hq45 hf46 => ?_)
      obtain rfl := frC.uniq (by decide) hf2 hf46
      refine lv_aload_n hx hb dX3_moveTo_28 rfl (lv_at hl 0 rfl) ?_
      refine gmIC hx hb hts inT3 hown hK hI List.not_mem_nil hG0 10 (by decide) (hts _ (tb_c wd_139)) rfl rfl dX3_moveTo_29 (fun w47 hg48 k49 k50 => ?_)
      obtain rfl := gfC.uniq (by decide) hg24 hg48
      refine th_iald hx hb hK hA4 0 rfl (iv_in (X := x1.toInt) rfl (by omega) (by omega)) dX3_moveTo_32 (fun v51 e52 => ?_)
      have k53 := rd_at (p := pp) e52 (by omega)
      refine lv_goto (tgt := 37) hx hb dX3_moveTo_33 (by decide) ?_
      have k54 := iv_lo v51
      have k55 := iv_hi v51
      refine pmIC (ty := .int) hx hb hts inT3 hown hK hI List.not_mem_nil hG0 hS ⟨_, hG0⟩ 11 (by decide) (hts _ (tb_c wd_140)) rfl rfl (by decide +kernel) rfl rfl rfl (by omega) (by omega) dX3_moveTo_37 (fun H locs hI hgP hS => ?_)
      have hg14 := hgP.2.2.1 6 _ (by decide) (by decide) hg14
      have hg17 := hgP.2.2.1 7 _ (by decide) (by decide) hg17
      have hg20 := hgP.2.2.1 8 _ (by decide) (by decide) hg20
      have hg24 := hgP.2.2.1 10 _ (by decide) (by decide) hg24
      have hg56 := hgP.2.1
      have hf2 := hgP.2.2.2 3 _ (by decide) (by decide) hf2
      have hf6 := hgP.2.2.2 4 _ (by decide) (by decide) hf6
      have hf10 := hgP.2.2.2 5 _ (by decide) (by decide) hf10
      have hA4 := va_at.kept hA4 (hgP.1 _ (m_ne hq3 hG0 (by first | decide | (dsimp only; decide))))
      have hA8 := va_at.kept hA8 (hgP.1 _ (m_ne hq7 hG0 (by first | decide | (dsimp only; decide))))
      have hA12 := va_at.kept hA12 (hgP.1 _ (m_ne hq11 hG0 (by first | decide | (dsimp only; decide))))
      have hpost : RC E D G h0 ft fp fn TT pp nc LL H := by first | exact ⟨by omega, by omega, ⟨a1, hf2, hq3, hA4⟩, ⟨a5, hf6, hq7, hA8⟩, ⟨a9, hf10, hq11, hA12⟩, ⟨w13, hg14, by first | omega | decide⟩, ⟨w16, hg17, by first | omega | decide⟩, ⟨w19, hg20, by first | omega | decide⟩, by omega, ⟨x1, hg24, by first | omega | decide⟩, ⟨v51, hg56, by first | omega | decide⟩⟩ | (exfalso; omega)
      rw [hQ]
      exact W.vret hx hb hr (fun t ht hW => ⟨⟨(), rfl, trivial, ⟨by rw [ht]; exact hI, hN.warm hW, va_K.moved hW.alike hK⟩, by first | (rw [ht]; exact hpost) | exact hpost⟩, hS.F ht⟩) hS.2.2 dX3_moveTo_40
theorem dX3_emit_0g : (decode cX3_emit 0 = .ok (.aload_n 0, 1)) ∧ (decode cX3_emit 1 = .ok (.getfield 40, 3)) ∧ (decode cX3_emit 4 = .ok (.aload_n 0, 1)) ∧ (decode cX3_emit 5 = .ok (.getfield 18, 3)) ∧ (decode cX3_emit 8 = .ok (.arraylength, 1)) ∧ (decode cX3_emit 9 = .ok (.if_icmp .ge 27, 3)) ∧ (decode cX3_emit 12 = .ok (.aload_n 0, 1)) ∧ (decode cX3_emit 13 = .ok (.getfield 18, 3)) ∧ (decode cX3_emit 16 = .ok (.aload_n 0, 1)) ∧ (decode cX3_emit 17 = .ok (.getfield 40, 3)) := by decide +kernel
theorem dX3_emit_0 : decode cX3_emit 0 = .ok (.aload_n 0, 1) := dX3_emit_0g.1
theorem dX3_emit_1 : decode cX3_emit 1 = .ok (.getfield 40, 3) := dX3_emit_0g.2.1
theorem dX3_emit_4 : decode cX3_emit 4 = .ok (.aload_n 0, 1) := dX3_emit_0g.2.2.1
theorem dX3_emit_5 : decode cX3_emit 5 = .ok (.getfield 18, 3) := dX3_emit_0g.2.2.2.1
theorem dX3_emit_8 : decode cX3_emit 8 = .ok (.arraylength, 1) := dX3_emit_0g.2.2.2.2.1
theorem dX3_emit_9 : decode cX3_emit 9 = .ok (.if_icmp .ge 27, 3) := dX3_emit_0g.2.2.2.2.2.1
theorem dX3_emit_12 : decode cX3_emit 12 = .ok (.aload_n 0, 1) := dX3_emit_0g.2.2.2.2.2.2.1
theorem dX3_emit_13 : decode cX3_emit 13 = .ok (.getfield 18, 3) := dX3_emit_0g.2.2.2.2.2.2.2.1
theorem dX3_emit_16 : decode cX3_emit 16 = .ok (.aload_n 0, 1) := dX3_emit_0g.2.2.2.2.2.2.2.2.1
theorem dX3_emit_17 : decode cX3_emit 17 = .ok (.getfield 40, 3) := dX3_emit_0g.2.2.2.2.2.2.2.2.2
theorem dX3_emit_20g : (decode cX3_emit 20 = .ok (.iload_n 1, 1)) ∧ (decode cX3_emit 21 = .ok (.iload_n 2, 1)) ∧ (decode cX3_emit 22 = .ok (.iconst 4, 1)) ∧ (decode cX3_emit 23 = .ok (.ishl, 1)) ∧ (decode cX3_emit 24 = .ok (.ior, 1)) ∧ (decode cX3_emit 25 = .ok (.iastore, 1)) ∧ (decode cX3_emit 26 = .ok (.aload_n 0, 1)) ∧ (decode cX3_emit 27 = .ok (.dup, 1)) ∧ (decode cX3_emit 28 = .ok (.getfield 40, 3)) ∧ (decode cX3_emit 31 = .ok (.iconst 1, 1)) := by decide +kernel
theorem dX3_emit_20 : decode cX3_emit 20 = .ok (.iload_n 1, 1) := dX3_emit_20g.1
theorem dX3_emit_21 : decode cX3_emit 21 = .ok (.iload_n 2, 1) := dX3_emit_20g.2.1
theorem dX3_emit_22 : decode cX3_emit 22 = .ok (.iconst 4, 1) := dX3_emit_20g.2.2.1
theorem dX3_emit_23 : decode cX3_emit 23 = .ok (.ishl, 1) := dX3_emit_20g.2.2.2.1
theorem dX3_emit_24 : decode cX3_emit 24 = .ok (.ior, 1) := dX3_emit_20g.2.2.2.2.1
theorem dX3_emit_25 : decode cX3_emit 25 = .ok (.iastore, 1) := dX3_emit_20g.2.2.2.2.2.1
theorem dX3_emit_26 : decode cX3_emit 26 = .ok (.aload_n 0, 1) := dX3_emit_20g.2.2.2.2.2.2.1
theorem dX3_emit_27 : decode cX3_emit 27 = .ok (.dup, 1) := dX3_emit_20g.2.2.2.2.2.2.2.1
theorem dX3_emit_28 : decode cX3_emit 28 = .ok (.getfield 40, 3) := dX3_emit_20g.2.2.2.2.2.2.2.2.1
theorem dX3_emit_31 : decode cX3_emit 31 = .ok (.iconst 1, 1) := dX3_emit_20g.2.2.2.2.2.2.2.2.2
theorem dX3_emit_32g : (decode cX3_emit 32 = .ok (.iadd, 1)) ∧ (decode cX3_emit 33 = .ok (.putfield 40, 3)) ∧ (decode cX3_emit 36 = .ok (.aload_n 0, 1)) ∧ (decode cX3_emit 37 = .ok (.getfield 40, 3)) ∧ (decode cX3_emit 40 = .ok (.iconst 1, 1)) ∧ (decode cX3_emit 41 = .ok (.isub, 1)) ∧ (decode cX3_emit 42 = .ok (.ireturn, 1)) := by decide +kernel
theorem dX3_emit_32 : decode cX3_emit 32 = .ok (.iadd, 1) := dX3_emit_32g.1
theorem dX3_emit_33 : decode cX3_emit 33 = .ok (.putfield 40, 3) := dX3_emit_32g.2.1
theorem dX3_emit_36 : decode cX3_emit 36 = .ok (.aload_n 0, 1) := dX3_emit_32g.2.2.1
theorem dX3_emit_37 : decode cX3_emit 37 = .ok (.getfield 40, 3) := dX3_emit_32g.2.2.2.1
theorem dX3_emit_40 : decode cX3_emit 40 = .ok (.iconst 1, 1) := dX3_emit_32g.2.2.2.2.1
theorem dX3_emit_41 : decode cX3_emit 41 = .ok (.isub, 1) := dX3_emit_32g.2.2.2.2.2.1
theorem dX3_emit_42 : decode cX3_emit 42 = .ok (.ireturn, 1) := dX3_emit_32g.2.2.2.2.2.2
set_option maxHeartbeats 4000000 in
set_option maxRecDepth 100000 in
theorem c_X3_emit (l : Launch) (E : Nat → Nat) (D : va_G) (G : th_G) (h0 : Nat) (hG0 : G h0 = some (7, 12)) (x1 : Int32) (x2 : Int32) (ft fp fn : Nat → Int32) (TT pp nc LL : Nat) : Met l yX3_emit (tb (.code yX3_emit cX3_emit 3 (some .int))) (rm 0) (va_Pc [.ref h0, .int x1, .int x2] (PCx E D G (fun H => RC E D G h0 ft fp fn TT pp nc LL H))) (QCi E D G (fun r H => RC E D G h0 ft fp fn TT pp nc LL H)) 0 0 (th_A G) := by
  refine Met.ofW (cc := cX3_emit) (maxL := 3) (ret := (some .int)) (by decide) rfl ?_
  intro p e s m args below meth c s₁ B hml hv
  obtain ⟨hav, ⟨hI, hN, hK⟩, hX⟩ := hv
  have hx := B.exec
  have hb := B.bytes
  have hr := B.returns
  have hts := atoms_spec (ws := tb (.code yX3_emit cX3_emit 3 (some .int))) B.pre
  have hown : s.vm.findClass RX3 = some m.cls := findClass_of_methodNamed B.named
  have hlocks := B.notSynchronized
  have hS : va_S (th_A G) s.heap s.heap [] := va_S.rf
  have hl := lv_entry ([.ref h0, .int x1, .int x2]) (n := 3) (Nat.le_of_ble_eq_true rfl)
  rw [show entryFrame m args 3 = entryFrame m ([.ref h0, .int x1, .int x2] : List Value).toArray 3 from by rw [hav], lg_entry_eq]
  generalize (lg_sl ([.ref h0, .int x1, .int x2]) ++ List.replicate (3 - (lg_sl ([.ref h0, .int x1, .int x2])).length) Slot.unset).toArray = ls at hl ⊢
  have hl : lv_has ls 3 [(0, .ref h0), (1, .int x1), (2, .int x2)] := hl
  generalize hR : (headSpec (tb (.code yX3_emit cX3_emit 3 (some .int))) (rm 0)).room = R
  have hR := hR.symm
  generalize hQ : MQ below (QCi E D G (fun r H => RC E D G h0 ft fp fn TT pp nc LL H)) args s 0 0 (th_A G) = QF
  have hQ := hQ.symm
  obtain ⟨hT4, hn12, ⟨a1, hf2, hq3, hA4⟩, ⟨a5, hf6, hq7, hA8⟩, ⟨a9, hf10, hq11, hA12⟩, ⟨w13, hg14, k15⟩, ⟨w16, hg17, k18⟩, ⟨w19, hg20, k21⟩, hpT, ⟨w22, hg23, k24⟩, ⟨w25, hg26, k27⟩⟩ := hX
  have k28 := iv_lo w19
  have k29 := iv_hi w19
  refine lv_aload_n hx hb dX3_emit_0 rfl (lv_at hl 0 rfl) ?_
  refine gmIC hx hb hts inT3 hown hK hI List.not_mem_nil hG0 9 (by decide) (hts _ (tb_c wd_138)) rfl rfl dX3_emit_1 (fun w30 hg31 k32 k33 => ?_)
  refine lv_aload_n hx hb dX3_emit_4 rfl (lv_at hl 0 rfl) ?_
  refine gmAC hx hb hts inT3 hown hK hI List.not_mem_nil hG0 2 (by decide) (hts _ (tb_c wd_131)) rfl rfl dX3_emit_5 (fun a34 hq35 hf36 => ?_)
  obtain ⟨F37, hA38⟩ := op_0 hI hq35 List.not_mem_nil
  refine va_alen hx hb hK (th_one hA38) 0 0 rfl (v := 400) rfl (show Int32.ofNat 400 = (400 : Int32) from by decide) dX3_emit_8 ?_
  refine lv_icmp_ge (tgt := 36) hx hb dX3_emit_9 (by decide) (fun c39 => ?_) (fun c39 => ?_)
  · skip
    have k40 := iv_le (X := (400)) (Y := w30.toInt) (by decide) rfl c39
    refine lv_aload_n hx hb dX3_emit_36 rfl (lv_at hl 0 rfl) ?_
    refine gmIC hx hb hts inT3 hown hK hI List.not_mem_nil hG0 9 (by decide) (hts _ (tb_c wd_138)) rfl rfl dX3_emit_37 (fun w41 hg42 k43 k44 => ?_)
    obtain rfl := gfC.uniq (by decide) hg31 hg42
    refine lv_iconst (v := 1) hx hb dX3_emit_40 (by decide) ?_
    refine lv_isub hx hb dX3_emit_41 ?_
    refine lv_topi (fun v45 e46 => ?_)
    have tv45 : v45.toInt = w30.toInt - (1) := iv_sub rfl (by decide) e46 (by omega) (by omega)
    have hpost : RC E D G h0 ft fp fn TT pp nc LL s.heap := ⟨by omega, by omega, ⟨a1, hf2, hq3, hA4⟩, ⟨a5, hf6, hq7, hA8⟩, ⟨a9, hf10, hq11, hA12⟩, ⟨w13, hg14, by first | omega | decide⟩, ⟨w16, hg17, by first | omega | decide⟩, ⟨w19, hg20, by first | omega | decide⟩, by omega, ⟨w22, hg23, by first | omega | decide⟩, ⟨w25, hg26, by first | omega | decide⟩⟩
    rw [hQ]
    exact W.iret (v := v45) hx hb hr (fun t ht hW => ⟨⟨v45, v45, rfl, rfl, ⟨by rw [ht]; exact hI, hN.warm hW, va_K.moved hW.alike hK⟩, by first | (rw [ht]; exact hpost) | exact hpost⟩, hS.F ht⟩) hS.2.2 dX3_emit_42
  · skip
    have k47 := iv_nle (X := (400)) (Y := w30.toInt) (by decide) rfl c39
    refine lv_aload_n hx hb dX3_emit_12 rfl (lv_at hl 0 rfl) ?_
    refine gmAC hx hb hts inT3 hown hK hI List.not_mem_nil hG0 2 (by decide) (hts _ (tb_c wd_131)) rfl rfl dX3_emit_13 (fun a48 hq49 hf50 => ?_)
    obtain rfl := frC.uniq (by decide) hf36 hf50
    refine lv_aload_n hx hb dX3_emit_16 rfl (lv_at hl 0 rfl) ?_
    refine gmIC hx hb hts inT3 hown hK hI List.not_mem_nil hG0 9 (by decide) (hts _ (tb_c wd_138)) rfl rfl dX3_emit_17 (fun w51 hg52 k53 k54 => ?_)
    obtain rfl := gfC.uniq (by decide) hg31 hg52
    refine lv_iload_n hx hb dX3_emit_20 rfl (lv_at hl 1 rfl) ?_
    refine lv_iload_n hx hb dX3_emit_21 rfl (lv_at hl 2 rfl) ?_
    refine lv_iconst (v := 4) hx hb dX3_emit_22 (by decide) ?_
    refine lv_ishl hx hb dX3_emit_23 ?_
    refine lv_topi (fun v55 e56 => ?_)
    refine lv_ior hx hb dX3_emit_24 ?_
    refine lv_topi (fun v57 e58 => ?_)
    refine th_iast hx hb hK hA38 0 rfl hS ⟨_, hq35⟩ (iv_in (X := w30.toInt) rfl (by omega) (by omega)) dX3_emit_25 (fun H locs hA59 oq hS => ?_)
    have hI := th_I.put hI hq35 hA59 ok_0 oq
    have hg14 := gfC.arr hG0 hq35 (by decide) oq hg14
    have hg17 := gfC.arr hG0 hq35 (by decide) oq hg17
    have hg20 := gfC.arr hG0 hq35 (by decide) oq hg20
    have hg23 := gfC.arr hG0 hq35 (by decide) oq hg23
    have hg26 := gfC.arr hG0 hq35 (by decide) oq hg26
    have hg31 := gfC.arr hG0 hq35 (by decide) oq hg31
    have hf2 := frC.arr hG0 hq35 (by decide) oq hf2
    have hf6 := frC.arr hG0 hq35 (by decide) oq hf6
    have hf10 := frC.arr hG0 hq35 (by decide) oq hf10
    have hf36 := frC.arr hG0 hq35 (by decide) oq hf36
    have hA4 := va_at.kept hA4 (oq _ (m_ne hq3 hq35 (by first | decide | (dsimp only; decide))))
    have hA8 := va_at.kept hA8 (oq _ (m_ne hq7 hq35 (by first | decide | (dsimp only; decide))))
    have hA12 := va_at.kept hA12 (oq _ (m_ne hq11 hq35 (by first | decide | (dsimp only; decide))))
    have e60 : v57 = (upd F37 (w30 : Int32).toNatClampNeg v57) (w30 : Int32).toNatClampNeg := rd_us
    refine lv_aload_n hx hb dX3_emit_26 rfl (lv_at hl 0 rfl) ?_
    refine lv_dup hx hb dX3_emit_27 rfl ?_
    refine gmIC hx hb hts inT3 hown hK hI List.not_mem_nil hG0 9 (by decide) (hts _ (tb_c wd_138)) rfl rfl dX3_emit_28 (fun w61 hg62 k63 k64 => ?_)
    obtain rfl := gfC.uniq (by decide) hg31 hg62
    refine lv_iconst (v := 1) hx hb dX3_emit_31 (by decide) ?_
    refine lv_iadd hx hb dX3_emit_32 ?_
    refine lv_topi (fun v65 e66 => ?_)
    have tv65 : v65.toInt = w30.toInt + (1) := iv_add rfl (by decide) e66 (by omega) (by omega)
    refine pmIC (ty := .int) hx hb hts inT3 hown hK hI List.not_mem_nil hG0 hS ⟨_, hG0⟩ 9 (by decide) (hts _ (tb_c wd_138)) rfl rfl (by decide +kernel) rfl rfl rfl (by omega) (by omega) dX3_emit_33 (fun H locs hI hgP hS => ?_)
    have hg14 := hgP.2.2.1 6 _ (by decide) (by decide) hg14
    have hg17 := hgP.2.2.1 7 _ (by decide) (by decide) hg17
    have hg20 := hgP.2.2.1 8 _ (by decide) (by decide) hg20
    have hg23 := hgP.2.2.1 10 _ (by decide) (by decide) hg23
    have hg26 := hgP.2.2.1 11 _ (by decide) (by decide) hg26
    have hg67 := hgP.2.1
    have hf2 := hgP.2.2.2 3 _ (by decide) (by decide) hf2
    have hf6 := hgP.2.2.2 4 _ (by decide) (by decide) hf6
    have hf10 := hgP.2.2.2 5 _ (by decide) (by decide) hf10
    have hf36 := hgP.2.2.2 2 _ (by decide) (by decide) hf36
    have hA4 := va_at.kept hA4 (hgP.1 _ (m_ne hq3 hG0 (by first | decide | (dsimp only; decide))))
    have hA8 := va_at.kept hA8 (hgP.1 _ (m_ne hq7 hG0 (by first | decide | (dsimp only; decide))))
    have hA12 := va_at.kept hA12 (hgP.1 _ (m_ne hq11 hG0 (by first | decide | (dsimp only; decide))))
    have hA59 := va_at.kept hA59 (hgP.1 _ (m_ne hq35 hG0 (by first | decide | (dsimp only; decide))))
    refine lv_aload_n hx hb dX3_emit_36 rfl (lv_at hl 0 rfl) ?_
    refine gmIC hx hb hts inT3 hown hK hI List.not_mem_nil hG0 9 (by decide) (hts _ (tb_c wd_138)) rfl rfl dX3_emit_37 (fun w68 hg69 k70 k71 => ?_)
    obtain rfl := gfC.uniq (by decide) hg67 hg69
    refine lv_iconst (v := 1) hx hb dX3_emit_40 (by decide) ?_
    refine lv_isub hx hb dX3_emit_41 ?_
    refine lv_topi (fun v72 e73 => ?_)
    have tv72 : v72.toInt = v65.toInt - (1) := iv_sub rfl (by decide) e73 (by omega) (by omega)
    have hpost : RC E D G h0 ft fp fn TT pp nc LL H := ⟨by omega, by omega, ⟨a1, hf2, hq3, hA4⟩, ⟨a5, hf6, hq7, hA8⟩, ⟨a9, hf10, hq11, hA12⟩, ⟨w13, hg14, by first | omega | decide⟩, ⟨w16, hg17, by first | omega | decide⟩, ⟨w19, hg20, by first | omega | decide⟩, by omega, ⟨w22, hg23, by first | omega | decide⟩, ⟨w25, hg26, by first | omega | decide⟩⟩
    rw [hQ]
    exact W.iret (v := v72) hx hb hr (fun t ht hW => ⟨⟨v72, v72, rfl, rfl, ⟨by rw [ht]; exact hI, hN.warm hW, va_K.moved hW.alike hK⟩, by first | (rw [ht]; exact hpost) | exact hpost⟩, hS.F ht⟩) hS.2.2 dX3_emit_42
theorem dX3_aim_0g : (decode cX3_aim 0 = .ok (.iload_n 1, 1)) ∧ (decode cX3_aim 1 = .ok (.ifCond .lt 33, 3)) ∧ (decode cX3_aim 4 = .ok (.iload_n 1, 1)) ∧ (decode cX3_aim 5 = .ok (.aload_n 0, 1)) ∧ (decode cX3_aim 6 = .ok (.getfield 40, 3)) ∧ (decode cX3_aim 9 = .ok (.if_icmp .ge 25, 3)) ∧ (decode cX3_aim 12 = .ok (.aload_n 0, 1)) ∧ (decode cX3_aim 13 = .ok (.getfield 18, 3)) ∧ (decode cX3_aim 16 = .ok (.iload_n 1, 1)) ∧ (decode cX3_aim 17 = .ok (.aload_n 0, 1)) := by decide +kernel
theorem dX3_aim_0 : decode cX3_aim 0 = .ok (.iload_n 1, 1) := dX3_aim_0g.1
theorem dX3_aim_1 : decode cX3_aim 1 = .ok (.ifCond .lt 33, 3) := dX3_aim_0g.2.1
theorem dX3_aim_4 : decode cX3_aim 4 = .ok (.iload_n 1, 1) := dX3_aim_0g.2.2.1
theorem dX3_aim_5 : decode cX3_aim 5 = .ok (.aload_n 0, 1) := dX3_aim_0g.2.2.2.1
theorem dX3_aim_6 : decode cX3_aim 6 = .ok (.getfield 40, 3) := dX3_aim_0g.2.2.2.2.1
theorem dX3_aim_9 : decode cX3_aim 9 = .ok (.if_icmp .ge 25, 3) := dX3_aim_0g.2.2.2.2.2.1
theorem dX3_aim_12 : decode cX3_aim 12 = .ok (.aload_n 0, 1) := dX3_aim_0g.2.2.2.2.2.2.1
theorem dX3_aim_13 : decode cX3_aim 13 = .ok (.getfield 18, 3) := dX3_aim_0g.2.2.2.2.2.2.2.1
theorem dX3_aim_16 : decode cX3_aim 16 = .ok (.iload_n 1, 1) := dX3_aim_0g.2.2.2.2.2.2.2.2.1
theorem dX3_aim_17 : decode cX3_aim 17 = .ok (.aload_n 0, 1) := dX3_aim_0g.2.2.2.2.2.2.2.2.2
theorem dX3_aim_18g : (decode cX3_aim 18 = .ok (.getfield 18, 3)) ∧ (decode cX3_aim 21 = .ok (.iload_n 1, 1)) ∧ (decode cX3_aim 22 = .ok (.iaload, 1)) ∧ (decode cX3_aim 23 = .ok (.bipush 15, 2)) ∧ (decode cX3_aim 25 = .ok (.iand, 1)) ∧ (decode cX3_aim 26 = .ok (.aload_n 0, 1)) ∧ (decode cX3_aim 27 = .ok (.getfield 40, 3)) ∧ (decode cX3_aim 30 = .ok (.iconst 4, 1)) ∧ (decode cX3_aim 31 = .ok (.ishl, 1)) ∧ (decode cX3_aim 32 = .ok (.ior, 1)) := by decide +kernel
theorem dX3_aim_18 : decode cX3_aim 18 = .ok (.getfield 18, 3) := dX3_aim_18g.1
theorem dX3_aim_21 : decode cX3_aim 21 = .ok (.iload_n 1, 1) := dX3_aim_18g.2.1
theorem dX3_aim_22 : decode cX3_aim 22 = .ok (.iaload, 1) := dX3_aim_18g.2.2.1
theorem dX3_aim_23 : decode cX3_aim 23 = .ok (.bipush 15, 2) := dX3_aim_18g.2.2.2.1
theorem dX3_aim_25 : decode cX3_aim 25 = .ok (.iand, 1) := dX3_aim_18g.2.2.2.2.1
theorem dX3_aim_26 : decode cX3_aim 26 = .ok (.aload_n 0, 1) := dX3_aim_18g.2.2.2.2.2.1
theorem dX3_aim_27 : decode cX3_aim 27 = .ok (.getfield 40, 3) := dX3_aim_18g.2.2.2.2.2.2.1
theorem dX3_aim_30 : decode cX3_aim 30 = .ok (.iconst 4, 1) := dX3_aim_18g.2.2.2.2.2.2.2.1
theorem dX3_aim_31 : decode cX3_aim 31 = .ok (.ishl, 1) := dX3_aim_18g.2.2.2.2.2.2.2.2.1
theorem dX3_aim_32 : decode cX3_aim 32 = .ok (.ior, 1) := dX3_aim_18g.2.2.2.2.2.2.2.2.2
theorem dX3_aim_33g : (decode cX3_aim 33 = .ok (.iastore, 1)) ∧ (decode cX3_aim 34 = .ok (.return_, 1)) := by decide +kernel
theorem dX3_aim_33 : decode cX3_aim 33 = .ok (.iastore, 1) := dX3_aim_33g.1
theorem dX3_aim_34 : decode cX3_aim 34 = .ok (.return_, 1) := dX3_aim_33g.2
set_option maxHeartbeats 4000000 in
set_option maxRecDepth 100000 in
theorem c_X3_aim (l : Launch) (E : Nat → Nat) (D : va_G) (G : th_G) (h0 : Nat) (hG0 : G h0 = some (7, 12)) (x1 : Int32) (ft fp fn : Nat → Int32) (TT pp nc LL : Nat) : Met l yX3_aim (tb (.code yX3_aim cX3_aim 2 none)) (rm 0) (va_Pc [.ref h0, .int x1] (PCx E D G (fun H => RC E D G h0 ft fp fn TT pp nc LL H))) (QCv E D G (fun H => RC E D G h0 ft fp fn TT pp nc LL H)) 0 0 (th_A G) := by
  refine Met.ofW (cc := cX3_aim) (maxL := 2) (ret := none) (by decide) rfl ?_
  intro p e s m args below meth c s₁ B hml hv
  obtain ⟨hav, ⟨hI, hN, hK⟩, hX⟩ := hv
  have hx := B.exec
  have hb := B.bytes
  have hr := B.returns
  have hts := atoms_spec (ws := tb (.code yX3_aim cX3_aim 2 none)) B.pre
  have hown : s.vm.findClass RX3 = some m.cls := findClass_of_methodNamed B.named
  have hlocks := B.notSynchronized
  have hS : va_S (th_A G) s.heap s.heap [] := va_S.rf
  have hl := lv_entry ([.ref h0, .int x1]) (n := 2) (Nat.le_of_ble_eq_true rfl)
  rw [show entryFrame m args 2 = entryFrame m ([.ref h0, .int x1] : List Value).toArray 2 from by rw [hav], lg_entry_eq]
  generalize (lg_sl ([.ref h0, .int x1]) ++ List.replicate (2 - (lg_sl ([.ref h0, .int x1])).length) Slot.unset).toArray = ls at hl ⊢
  have hl : lv_has ls 2 [(0, .ref h0), (1, .int x1)] := hl
  generalize hR : (headSpec (tb (.code yX3_aim cX3_aim 2 none)) (rm 0)).room = R
  have hR := hR.symm
  generalize hQ : MQ below (QCv E D G (fun H => RC E D G h0 ft fp fn TT pp nc LL H)) args s 0 0 (th_A G) = QF
  have hQ := hQ.symm
  obtain ⟨hT4, hn12, ⟨a1, hf2, hq3, hA4⟩, ⟨a5, hf6, hq7, hA8⟩, ⟨a9, hf10, hq11, hA12⟩, ⟨w13, hg14, k15⟩, ⟨w16, hg17, k18⟩, ⟨w19, hg20, k21⟩, hpT, ⟨w22, hg23, k24⟩, ⟨w25, hg26, k27⟩⟩ := hX
  have k28 := iv_lo w19
  have k29 := iv_hi w19
  refine lv_iload_n hx hb dX3_aim_0 rfl (lv_at hl 1 rfl) ?_
  have k30 := iv_lo x1
  have k31 := iv_hi x1
  refine lv_if_lt (tgt := 34) hx hb dX3_aim_1 (by decide) (fun c32 => ?_) (fun c32 => ?_)
  · skip
    have k33 := iv_lt (X := x1.toInt) (Y := (0)) rfl (by decide) c32
    have hpost : RC E D G h0 ft fp fn TT pp nc LL s.heap := ⟨by omega, by omega, ⟨a1, hf2, hq3, hA4⟩, ⟨a5, hf6, hq7, hA8⟩, ⟨a9, hf10, hq11, hA12⟩, ⟨w13, hg14, by first | omega | decide⟩, ⟨w16, hg17, by first | omega | decide⟩, ⟨w19, hg20, by first | omega | decide⟩, by omega, ⟨w22, hg23, by first | omega | decide⟩, ⟨w25, hg26, by first | omega | decide⟩⟩
    rw [hQ]
    exact W.vret hx hb hr (fun t ht hW => ⟨⟨(), rfl, trivial, ⟨by rw [ht]; exact hI, hN.warm hW, va_K.moved hW.alike hK⟩, by first | (rw [ht]; exact hpost) | exact hpost⟩, hS.F ht⟩) hS.2.2 dX3_aim_34
  · skip
    have k34 := iv_nlt (X := x1.toInt) (Y := (0)) rfl (by decide) c32
    refine lv_iload_n hx hb dX3_aim_4 rfl (lv_at hl 1 rfl) ?_
    refine lv_aload_n hx hb dX3_aim_5 rfl (lv_at hl 0 rfl) ?_
    refine gmIC hx hb hts inT3 hown hK hI List.not_mem_nil hG0 9 (by decide) (hts _ (tb_c wd_138)) rfl rfl dX3_aim_6 (fun w35 hg36 k37 k38 => ?_)
    refine lv_icmp_ge (tgt := 34) hx hb dX3_aim_9 (by decide) (fun c39 => ?_) (fun c39 => ?_)
    · skip
      have k40 := iv_le (X := w35.toInt) (Y := x1.toInt) rfl rfl c39
      have hpost : RC E D G h0 ft fp fn TT pp nc LL s.heap := ⟨by omega, by omega, ⟨a1, hf2, hq3, hA4⟩, ⟨a5, hf6, hq7, hA8⟩, ⟨a9, hf10, hq11, hA12⟩, ⟨w13, hg14, by first | omega | decide⟩, ⟨w16, hg17, by first | omega | decide⟩, ⟨w19, hg20, by first | omega | decide⟩, by omega, ⟨w22, hg23, by first | omega | decide⟩, ⟨w25, hg26, by first | omega | decide⟩⟩
      rw [hQ]
      exact W.vret hx hb hr (fun t ht hW => ⟨⟨(), rfl, trivial, ⟨by rw [ht]; exact hI, hN.warm hW, va_K.moved hW.alike hK⟩, by first | (rw [ht]; exact hpost) | exact hpost⟩, hS.F ht⟩) hS.2.2 dX3_aim_34
    · skip
      have k41 := iv_nle (X := w35.toInt) (Y := x1.toInt) rfl rfl c39
      refine lv_aload_n hx hb dX3_aim_12 rfl (lv_at hl 0 rfl) ?_
      refine gmAC hx hb hts inT3 hown hK hI List.not_mem_nil hG0 2 (by decide) (hts _ (tb_c wd_131)) rfl rfl dX3_aim_13 (fun a42 hq43 hf44 => ?_)
      refine lv_iload_n hx hb dX3_aim_16 rfl (lv_at hl 1 rfl) ?_
      refine lv_aload_n hx hb dX3_aim_17 rfl (lv_at hl 0 rfl) ?_
      refine gmAC hx hb hts inT3 hown hK hI List.not_mem_nil hG0 2 (by decide) (hts _ (tb_c wd_131)) rfl rfl dX3_aim_18 (fun a45 hq46 hf47 => ?_)
      obtain rfl := frC.uniq (by decide) hf44 hf47
      refine lv_iload_n hx hb dX3_aim_21 rfl (lv_at hl 1 rfl) ?_
      obtain ⟨F48, hA49⟩ := op_0 hI hq43 List.not_mem_nil
      refine th_iald hx hb hK hA49 0 rfl (iv_in (X := x1.toInt) rfl (by omega) (by omega)) dX3_aim_22 (fun v50 e51 => ?_)
      refine lv_bipush (v := 15) hx hb dX3_aim_23 (by decide) ?_
      refine lv_iand hx hb dX3_aim_25 ?_
      refine lv_topi (fun v52 e53 => ?_)
      have tv52 := iv_andr (m := 15) (M := 15) e53 (by decide) (by decide)
      refine lv_aload_n hx hb dX3_aim_26 rfl (lv_at hl 0 rfl) ?_
      refine gmIC hx hb hts inT3 hown hK hI List.not_mem_nil hG0 9 (by decide) (hts _ (tb_c wd_138)) rfl rfl dX3_aim_27 (fun w54 hg55 k56 k57 => ?_)
      obtain rfl := gfC.uniq (by decide) hg36 hg55
      refine lv_iconst (v := 4) hx hb dX3_aim_30 (by decide) ?_
      refine lv_ishl hx hb dX3_aim_31 ?_
      refine lv_topi (fun v58 e59 => ?_)
      refine lv_ior hx hb dX3_aim_32 ?_
      refine lv_topi (fun v60 e61 => ?_)
      refine th_iast hx hb hK hA49 0 rfl hS ⟨_, hq43⟩ (iv_in (X := x1.toInt) rfl (by omega) (by omega)) dX3_aim_33 (fun H locs hA62 oq hS => ?_)
      have hI := th_I.put hI hq43 hA62 ok_0 oq
      have hg14 := gfC.arr hG0 hq43 (by decide) oq hg14
      have hg17 := gfC.arr hG0 hq43 (by decide) oq hg17
      have hg20 := gfC.arr hG0 hq43 (by decide) oq hg20
      have hg23 := gfC.arr hG0 hq43 (by decide) oq hg23
      have hg26 := gfC.arr hG0 hq43 (by decide) oq hg26
      have hg36 := gfC.arr hG0 hq43 (by decide) oq hg36
      have hf2 := frC.arr hG0 hq43 (by decide) oq hf2
      have hf6 := frC.arr hG0 hq43 (by decide) oq hf6
      have hf10 := frC.arr hG0 hq43 (by decide) oq hf10
      have hf44 := frC.arr hG0 hq43 (by decide) oq hf44
      have hA4 := va_at.kept hA4 (oq _ (m_ne hq3 hq43 (by first | decide | (dsimp only; decide))))
      have hA8 := va_at.kept hA8 (oq _ (m_ne hq7 hq43 (by first | decide | (dsimp only; decide))))
      have hA12 := va_at.kept hA12 (oq _ (m_ne hq11 hq43 (by first | decide | (dsimp only; decide))))
      have e63 : v60 = (upd F48 (x1 : Int32).toNatClampNeg v60) (x1 : Int32).toNatClampNeg := rd_us
      have hpost : RC E D G h0 ft fp fn TT pp nc LL H := ⟨by omega, by omega, ⟨a1, hf2, hq3, hA4⟩, ⟨a5, hf6, hq7, hA8⟩, ⟨a9, hf10, hq11, hA12⟩, ⟨w13, hg14, by first | omega | decide⟩, ⟨w16, hg17, by first | omega | decide⟩, ⟨w19, hg20, by first | omega | decide⟩, by omega, ⟨w22, hg23, by first | omega | decide⟩, ⟨w25, hg26, by first | omega | decide⟩⟩
      rw [hQ]
      exact W.vret hx hb hr (fun t ht hW => ⟨⟨(), rfl, trivial, ⟨by rw [ht]; exact hI, hN.warm hW, va_K.moved hW.alike hK⟩, by first | (rw [ht]; exact hpost) | exact hpost⟩, hS.F ht⟩) hS.2.2 dX3_aim_34
theorem dX3_arithmetic_0g : (decode cX3_arithmetic 0 = .ok (.aload_n 0, 1)) ∧ (decode cX3_arithmetic 1 = .ok (.getfield 46, 3)) ∧ (decode cX3_arithmetic 4 = .ok (.tableswitch 71 37 47 #[68, 71, 71, 71, 71, 64, 60, 71, 62, 71, 66], 60)) ∧ (decode cX3_arithmetic 64 = .ok (.iconst 2, 1)) ∧ (decode cX3_arithmetic 65 = .ok (.ireturn, 1)) ∧ (decode cX3_arithmetic 66 = .ok (.iconst 3, 1)) ∧ (decode cX3_arithmetic 67 = .ok (.ireturn, 1)) ∧ (decode cX3_arithmetic 68 = .ok (.iconst 4, 1)) ∧ (decode cX3_arithmetic 69 = .ok (.ireturn, 1)) ∧ (decode cX3_arithmetic 70 = .ok (.iconst 5, 1)) := by decide +kernel
theorem dX3_arithmetic_0 : decode cX3_arithmetic 0 = .ok (.aload_n 0, 1) := dX3_arithmetic_0g.1
theorem dX3_arithmetic_1 : decode cX3_arithmetic 1 = .ok (.getfield 46, 3) := dX3_arithmetic_0g.2.1
theorem dX3_arithmetic_4 : decode cX3_arithmetic 4 = .ok (.tableswitch 71 37 47 #[68, 71, 71, 71, 71, 64, 60, 71, 62, 71, 66], 60) := dX3_arithmetic_0g.2.2.1
theorem dX3_arithmetic_64 : decode cX3_arithmetic 64 = .ok (.iconst 2, 1) := dX3_arithmetic_0g.2.2.2.1
theorem dX3_arithmetic_65 : decode cX3_arithmetic 65 = .ok (.ireturn, 1) := dX3_arithmetic_0g.2.2.2.2.1
theorem dX3_arithmetic_66 : decode cX3_arithmetic 66 = .ok (.iconst 3, 1) := dX3_arithmetic_0g.2.2.2.2.2.1
theorem dX3_arithmetic_67 : decode cX3_arithmetic 67 = .ok (.ireturn, 1) := dX3_arithmetic_0g.2.2.2.2.2.2.1
theorem dX3_arithmetic_68 : decode cX3_arithmetic 68 = .ok (.iconst 4, 1) := dX3_arithmetic_0g.2.2.2.2.2.2.2.1
theorem dX3_arithmetic_69 : decode cX3_arithmetic 69 = .ok (.ireturn, 1) := dX3_arithmetic_0g.2.2.2.2.2.2.2.2.1
theorem dX3_arithmetic_70 : decode cX3_arithmetic 70 = .ok (.iconst 5, 1) := dX3_arithmetic_0g.2.2.2.2.2.2.2.2.2
theorem dX3_arithmetic_71g : (decode cX3_arithmetic 71 = .ok (.ireturn, 1)) ∧ (decode cX3_arithmetic 72 = .ok (.bipush 6, 2)) ∧ (decode cX3_arithmetic 74 = .ok (.ireturn, 1)) ∧ (decode cX3_arithmetic 75 = .ok (.iconst (-1), 1)) ∧ (decode cX3_arithmetic 76 = .ok (.ireturn, 1)) := by decide +kernel
theorem dX3_arithmetic_71 : decode cX3_arithmetic 71 = .ok (.ireturn, 1) := dX3_arithmetic_71g.1
theorem dX3_arithmetic_72 : decode cX3_arithmetic 72 = .ok (.bipush 6, 2) := dX3_arithmetic_71g.2.1
theorem dX3_arithmetic_74 : decode cX3_arithmetic 74 = .ok (.ireturn, 1) := dX3_arithmetic_71g.2.2.1
theorem dX3_arithmetic_75 : decode cX3_arithmetic 75 = .ok (.iconst (-1), 1) := dX3_arithmetic_71g.2.2.2.1
theorem dX3_arithmetic_76 : decode cX3_arithmetic 76 = .ok (.ireturn, 1) := dX3_arithmetic_71g.2.2.2.2
set_option maxHeartbeats 4000000 in
set_option maxRecDepth 100000 in
theorem c_X3_arithmetic (l : Launch) (E : Nat → Nat) (D : va_G) (G : th_G) (H0 : Heap) (h0 : Nat) (hG0 : G h0 = some (7, 12)) (ft fp fn : Nat → Int32) (TT pp nc LL : Nat) (hE : RC E D G h0 ft fp fn TT pp nc LL H0) : Met l yX3_arithmetic (tb (.code yX3_arithmetic cX3_arithmetic 1 (some .int))) (rm 0) (va_Pc [.ref h0] (PRC E D G H0)) (QS H0 (fun r => ((r : Int32).toInt = -1 ∧ ¬ oc (ft pp).toInt) ∨ (2 ≤ (r : Int32).toInt ∧ (r : Int32).toInt ≤ 6 ∧ oc (ft pp).toInt))) 0 0 (fun _ => False) := by
  refine Met.ofW (cc := cX3_arithmetic) (maxL := 1) (ret := (some .int)) (by decide) rfl ?_
  intro p e s m args below meth c s₁ B hml hv
  obtain ⟨hav, rfl, hI, hN, hK⟩ := hv
  have hx := B.exec
  have hb := B.bytes
  have hr := B.returns
  have hts := atoms_spec (ws := tb (.code yX3_arithmetic cX3_arithmetic 1 (some .int))) B.pre
  have hown : s.vm.findClass RX3 = some m.cls := findClass_of_methodNamed B.named
  have hlocks := B.notSynchronized
  have hS : va_S (fun _ => False) s.heap s.heap [] := va_S.rf
  have hl := lv_entry ([.ref h0]) (n := 1) (Nat.le_of_ble_eq_true rfl)
  rw [show entryFrame m args 1 = entryFrame m ([.ref h0] : List Value).toArray 1 from by rw [hav], lg_entry_eq]
  generalize (lg_sl ([.ref h0]) ++ List.replicate (1 - (lg_sl ([.ref h0])).length) Slot.unset).toArray = ls at hl ⊢
  have hl : lv_has ls 1 [(0, .ref h0)] := hl
  generalize hR : (headSpec (tb (.code yX3_arithmetic cX3_arithmetic 1 (some .int))) (rm 0)).room = R
  have hR := hR.symm
  generalize hQ : MQ below (QS s.heap (fun r => ((r : Int32).toInt = -1 ∧ ¬ oc (ft pp).toInt) ∨ (2 ≤ (r : Int32).toInt ∧ (r : Int32).toInt ≤ 6 ∧ oc (ft pp).toInt))) args s 0 0 (fun _ => False) = QF
  have hQ := hQ.symm
  obtain ⟨hT4, hn12, ⟨a1, hf2, hq3, hA4⟩, ⟨a5, hf6, hq7, hA8⟩, ⟨a9, hf10, hq11, hA12⟩, ⟨w13, hg14, k15⟩, ⟨w16, hg17, k18⟩, ⟨w19, hg20, k21⟩, hpT, ⟨w22, hg23, k24⟩, ⟨w25, hg26, k27⟩⟩ := hE
  have k28 := iv_lo w19
  have k29 := iv_hi w19
  refine lv_aload_n hx hb dX3_arithmetic_0 rfl (lv_at hl 0 rfl) ?_
  refine gmIC hx hb hts inT3 hown hK hI List.not_mem_nil hG0 11 (by decide) (hts _ (tb_c wd_140)) rfl rfl dX3_arithmetic_1 (fun w30 hg31 k32 k33 => ?_)
  obtain rfl := gfC.uniq (by decide) hg26 hg31
  have k34 := iv_lo w25
  have k35 := iv_hi w25
  by_cases c36 : w25 = 37
  · skip
    have k37 := iv_eq (X := w25.toInt) (Y := 37) rfl (by decide) c36
    refine lv_tableIn (tgt := 72) (off := 68) hx hb dX3_arithmetic_4 (by omega) (by omega) (by rw [k37]; rfl) (by decide) ?_
    refine lv_bipush (v := 6) hx hb dX3_arithmetic_72 (by decide) ?_
    have hpost : ((6 : Int32).toInt = -1 ∧ ¬ oc (ft pp).toInt) ∨ (2 ≤ (6 : Int32).toInt ∧ (6 : Int32).toInt ≤ 6 ∧ oc (ft pp).toInt) := by first | exact Or.inl ⟨by decide, by unfold oc; omega⟩ | exact Or.inr ⟨by decide, by decide, by unfold oc; omega⟩
    rw [hQ]
    exact W.iret (v := 6) hx hb hr (fun t ht hW => ⟨⟨6, (), rfl, hpost, ht⟩, hS.F ht⟩) hS.2.2 dX3_arithmetic_74
  have k38 := iv_ne (X := w25.toInt) (Y := 37) rfl (by decide) c36
  by_cases c39 : w25 = 38
  · skip
    have k40 := iv_eq (X := w25.toInt) (Y := 38) rfl (by decide) c39
    refine lv_tableIn (tgt := 75) (off := 71) hx hb dX3_arithmetic_4 (by omega) (by omega) (by rw [k40]; rfl) (by decide) ?_
    refine lv_iconst (v := (-1)) hx hb dX3_arithmetic_75 (by decide) ?_
    have hpost : (((-1) : Int32).toInt = -1 ∧ ¬ oc (ft pp).toInt) ∨ (2 ≤ ((-1) : Int32).toInt ∧ ((-1) : Int32).toInt ≤ 6 ∧ oc (ft pp).toInt) := by first | exact Or.inl ⟨by decide, by unfold oc; omega⟩ | exact Or.inr ⟨by decide, by decide, by unfold oc; omega⟩
    rw [hQ]
    exact W.iret (v := (-1)) hx hb hr (fun t ht hW => ⟨⟨(-1), (), rfl, hpost, ht⟩, hS.F ht⟩) hS.2.2 dX3_arithmetic_76
  have k41 := iv_ne (X := w25.toInt) (Y := 38) rfl (by decide) c39
  by_cases c42 : w25 = 39
  · skip
    have k43 := iv_eq (X := w25.toInt) (Y := 39) rfl (by decide) c42
    refine lv_tableIn (tgt := 75) (off := 71) hx hb dX3_arithmetic_4 (by omega) (by omega) (by rw [k43]; rfl) (by decide) ?_
    refine lv_iconst (v := (-1)) hx hb dX3_arithmetic_75 (by decide) ?_
    have hpost : (((-1) : Int32).toInt = -1 ∧ ¬ oc (ft pp).toInt) ∨ (2 ≤ ((-1) : Int32).toInt ∧ ((-1) : Int32).toInt ≤ 6 ∧ oc (ft pp).toInt) := by first | exact Or.inl ⟨by decide, by unfold oc; omega⟩ | exact Or.inr ⟨by decide, by decide, by unfold oc; omega⟩
    rw [hQ]
    exact W.iret (v := (-1)) hx hb hr (fun t ht hW => ⟨⟨(-1), (), rfl, hpost, ht⟩, hS.F ht⟩) hS.2.2 dX3_arithmetic_76
  have k44 := iv_ne (X := w25.toInt) (Y := 39) rfl (by decide) c42
  by_cases c45 : w25 = 40
  · skip
    have k46 := iv_eq (X := w25.toInt) (Y := 40) rfl (by decide) c45
    refine lv_tableIn (tgt := 75) (off := 71) hx hb dX3_arithmetic_4 (by omega) (by omega) (by rw [k46]; rfl) (by decide) ?_
    refine lv_iconst (v := (-1)) hx hb dX3_arithmetic_75 (by decide) ?_
    have hpost : (((-1) : Int32).toInt = -1 ∧ ¬ oc (ft pp).toInt) ∨ (2 ≤ ((-1) : Int32).toInt ∧ ((-1) : Int32).toInt ≤ 6 ∧ oc (ft pp).toInt) := by first | exact Or.inl ⟨by decide, by unfold oc; omega⟩ | exact Or.inr ⟨by decide, by decide, by unfold oc; omega⟩
    rw [hQ]
    exact W.iret (v := (-1)) hx hb hr (fun t ht hW => ⟨⟨(-1), (), rfl, hpost, ht⟩, hS.F ht⟩) hS.2.2 dX3_arithmetic_76
  have k47 := iv_ne (X := w25.toInt) (Y := 40) rfl (by decide) c45
  by_cases c48 : w25 = 41
  · skip
    have k49 := iv_eq (X := w25.toInt) (Y := 41) rfl (by decide) c48
    refine lv_tableIn (tgt := 75) (off := 71) hx hb dX3_arithmetic_4 (by omega) (by omega) (by rw [k49]; rfl) (by decide) ?_
    refine lv_iconst (v := (-1)) hx hb dX3_arithmetic_75 (by decide) ?_
    have hpost : (((-1) : Int32).toInt = -1 ∧ ¬ oc (ft pp).toInt) ∨ (2 ≤ ((-1) : Int32).toInt ∧ ((-1) : Int32).toInt ≤ 6 ∧ oc (ft pp).toInt) := by first | exact Or.inl ⟨by decide, by unfold oc; omega⟩ | exact Or.inr ⟨by decide, by decide, by unfold oc; omega⟩
    rw [hQ]
    exact W.iret (v := (-1)) hx hb hr (fun t ht hW => ⟨⟨(-1), (), rfl, hpost, ht⟩, hS.F ht⟩) hS.2.2 dX3_arithmetic_76
  have k50 := iv_ne (X := w25.toInt) (Y := 41) rfl (by decide) c48
  by_cases c51 : w25 = 42
  · skip
    have k52 := iv_eq (X := w25.toInt) (Y := 42) rfl (by decide) c51
    refine lv_tableIn (tgt := 68) (off := 64) hx hb dX3_arithmetic_4 (by omega) (by omega) (by rw [k52]; rfl) (by decide) ?_
    refine lv_iconst (v := 4) hx hb dX3_arithmetic_68 (by decide) ?_
    have hpost : ((4 : Int32).toInt = -1 ∧ ¬ oc (ft pp).toInt) ∨ (2 ≤ (4 : Int32).toInt ∧ (4 : Int32).toInt ≤ 6 ∧ oc (ft pp).toInt) := by first | exact Or.inl ⟨by decide, by unfold oc; omega⟩ | exact Or.inr ⟨by decide, by decide, by unfold oc; omega⟩
    rw [hQ]
    exact W.iret (v := 4) hx hb hr (fun t ht hW => ⟨⟨4, (), rfl, hpost, ht⟩, hS.F ht⟩) hS.2.2 dX3_arithmetic_69
  have k53 := iv_ne (X := w25.toInt) (Y := 42) rfl (by decide) c51
  by_cases c54 : w25 = 43
  · skip
    have k55 := iv_eq (X := w25.toInt) (Y := 43) rfl (by decide) c54
    refine lv_tableIn (tgt := 64) (off := 60) hx hb dX3_arithmetic_4 (by omega) (by omega) (by rw [k55]; rfl) (by decide) ?_
    refine lv_iconst (v := 2) hx hb dX3_arithmetic_64 (by decide) ?_
    have hpost : ((2 : Int32).toInt = -1 ∧ ¬ oc (ft pp).toInt) ∨ (2 ≤ (2 : Int32).toInt ∧ (2 : Int32).toInt ≤ 6 ∧ oc (ft pp).toInt) := by first | exact Or.inl ⟨by decide, by unfold oc; omega⟩ | exact Or.inr ⟨by decide, by decide, by unfold oc; omega⟩
    rw [hQ]
    exact W.iret (v := 2) hx hb hr (fun t ht hW => ⟨⟨2, (), rfl, hpost, ht⟩, hS.F ht⟩) hS.2.2 dX3_arithmetic_65
  have k56 := iv_ne (X := w25.toInt) (Y := 43) rfl (by decide) c54
  by_cases c57 : w25 = 44
  · skip
    have k58 := iv_eq (X := w25.toInt) (Y := 44) rfl (by decide) c57
    refine lv_tableIn (tgt := 75) (off := 71) hx hb dX3_arithmetic_4 (by omega) (by omega) (by rw [k58]; rfl) (by decide) ?_
    refine lv_iconst (v := (-1)) hx hb dX3_arithmetic_75 (by decide) ?_
    have hpost : (((-1) : Int32).toInt = -1 ∧ ¬ oc (ft pp).toInt) ∨ (2 ≤ ((-1) : Int32).toInt ∧ ((-1) : Int32).toInt ≤ 6 ∧ oc (ft pp).toInt) := by first | exact Or.inl ⟨by decide, by unfold oc; omega⟩ | exact Or.inr ⟨by decide, by decide, by unfold oc; omega⟩
    rw [hQ]
    exact W.iret (v := (-1)) hx hb hr (fun t ht hW => ⟨⟨(-1), (), rfl, hpost, ht⟩, hS.F ht⟩) hS.2.2 dX3_arithmetic_76
  have k59 := iv_ne (X := w25.toInt) (Y := 44) rfl (by decide) c57
  by_cases c60 : w25 = 45
  · skip
    have k61 := iv_eq (X := w25.toInt) (Y := 45) rfl (by decide) c60
    refine lv_tableIn (tgt := 66) (off := 62) hx hb dX3_arithmetic_4 (by omega) (by omega) (by rw [k61]; rfl) (by decide) ?_
    refine lv_iconst (v := 3) hx hb dX3_arithmetic_66 (by decide) ?_
    have hpost : ((3 : Int32).toInt = -1 ∧ ¬ oc (ft pp).toInt) ∨ (2 ≤ (3 : Int32).toInt ∧ (3 : Int32).toInt ≤ 6 ∧ oc (ft pp).toInt) := by first | exact Or.inl ⟨by decide, by unfold oc; omega⟩ | exact Or.inr ⟨by decide, by decide, by unfold oc; omega⟩
    rw [hQ]
    exact W.iret (v := 3) hx hb hr (fun t ht hW => ⟨⟨3, (), rfl, hpost, ht⟩, hS.F ht⟩) hS.2.2 dX3_arithmetic_67
  have k62 := iv_ne (X := w25.toInt) (Y := 45) rfl (by decide) c60
  by_cases c63 : w25 = 46
  · skip
    have k64 := iv_eq (X := w25.toInt) (Y := 46) rfl (by decide) c63
    refine lv_tableIn (tgt := 75) (off := 71) hx hb dX3_arithmetic_4 (by omega) (by omega) (by rw [k64]; rfl) (by decide) ?_
    refine lv_iconst (v := (-1)) hx hb dX3_arithmetic_75 (by decide) ?_
    have hpost : (((-1) : Int32).toInt = -1 ∧ ¬ oc (ft pp).toInt) ∨ (2 ≤ ((-1) : Int32).toInt ∧ ((-1) : Int32).toInt ≤ 6 ∧ oc (ft pp).toInt) := by first | exact Or.inl ⟨by decide, by unfold oc; omega⟩ | exact Or.inr ⟨by decide, by decide, by unfold oc; omega⟩
    rw [hQ]
    exact W.iret (v := (-1)) hx hb hr (fun t ht hW => ⟨⟨(-1), (), rfl, hpost, ht⟩, hS.F ht⟩) hS.2.2 dX3_arithmetic_76
  have k65 := iv_ne (X := w25.toInt) (Y := 46) rfl (by decide) c63
  by_cases c66 : w25 = 47
  · skip
    have k67 := iv_eq (X := w25.toInt) (Y := 47) rfl (by decide) c66
    refine lv_tableIn (tgt := 70) (off := 66) hx hb dX3_arithmetic_4 (by omega) (by omega) (by rw [k67]; rfl) (by decide) ?_
    refine lv_iconst (v := 5) hx hb dX3_arithmetic_70 (by decide) ?_
    have hpost : ((5 : Int32).toInt = -1 ∧ ¬ oc (ft pp).toInt) ∨ (2 ≤ (5 : Int32).toInt ∧ (5 : Int32).toInt ≤ 6 ∧ oc (ft pp).toInt) := by first | exact Or.inl ⟨by decide, by unfold oc; omega⟩ | exact Or.inr ⟨by decide, by decide, by unfold oc; omega⟩
    rw [hQ]
    exact W.iret (v := 5) hx hb hr (fun t ht hW => ⟨⟨5, (), rfl, hpost, ht⟩, hS.F ht⟩) hS.2.2 dX3_arithmetic_71
  have k68 := iv_ne (X := w25.toInt) (Y := 47) rfl (by decide) c66
  refine lv_tableOut (tgt := 75) hx hb dX3_arithmetic_4 (by omega) (by decide) ?_
  refine lv_iconst (v := (-1)) hx hb dX3_arithmetic_75 (by decide) ?_
  have hpost : (((-1) : Int32).toInt = -1 ∧ ¬ oc (ft pp).toInt) ∨ (2 ≤ ((-1) : Int32).toInt ∧ ((-1) : Int32).toInt ≤ 6 ∧ oc (ft pp).toInt) := by first | exact Or.inl ⟨by decide, by unfold oc; omega⟩ | exact Or.inr ⟨by decide, by decide, by unfold oc; omega⟩
  rw [hQ]
  exact W.iret (v := (-1)) hx hb hr (fun t ht hW => ⟨⟨(-1), (), rfl, hpost, ht⟩, hS.F ht⟩) hS.2.2 dX3_arithmetic_76
