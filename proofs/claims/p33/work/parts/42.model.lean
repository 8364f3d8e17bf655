/-! ===== the reference's cells: kinds 0 ints, 1 kept, 2 images, 3 places, 4 bytes, 5 truths, 6 hours of text, 7 words, 8 code, 9 began, 10 the object ===== -/
abbrev m_F : Type := (Nat × Nat) ⊕ (Int × Int)
def mfs : List m_F := [.inr (-2147483648, 2147483647), .inr (-2147483648, 2147483647), .inl (0, 7), .inl (1, 5123), .inl (2, 10246), .inl (11, 2), .inr (-2147483648, 2147483647), .inl (7, 89), .inl (4, 400), .inl (0, 5), .inr (0, 400), .inr (-2147483648, 2147483647), .inl (8, 401), .inl (0, 401), .inl (6, 401), .inr (0, 400), .inr (-2147483648, 2147483647), .inr (-2147483648, 2147483647), .inr (-2147483648, 2147483647), .inr (-2147483648, 2147483647), .inr (-2147483648, 2147483647), .inr (0, 1), .inl (0, 9), .inl (0, 2304), .inl (0, 2304), .inl (0, 4608), .inl (5, 2304), .inl (3, 2400), .inr (-2147483648, 2147483647), .inr (-2147483648, 2147483647), .inr (-2147483648, 2147483647), .inr (-2147483648, 2147483647), .inr (-2147483648, 2147483647), .inr (-2147483648, 2147483647), .inl (0, 1024), .inl (0, 6), .inl (0, 6), .inl (0, 6), .inl (0, 6), .inl (5, 2304), .inr (-2147483648, 2147483647), .inr (-2147483648, 2147483647), .inl (0, 98), .inl (9, 25), .inr (-2147483648, 2147483647), .inr (-2147483648, 2147483647), .inr (-2147483648, 2147483647), .inr (-2147483648, 2147483647), .inr (-2147483648, 2147483647), .inl (3, 24), .inr (0, 1), .inr (-2147483648, 2147483647)]
def mV (G : th_G) (o : Option m_F) (v : Value) : Prop := match o with
  | some (.inl kd) => ∃ q, v = .ref q ∧ G q = some kd
  | some (.inr r) => ∃ z : Int32, v = .int z ∧ r.1 ≤ z.toInt ∧ z.toInt ≤ r.2
  | none => False
def mOk (G : th_G) (fs : List Value) : Prop := fs.length = 52 ∧ ∀ k : Nat, k < 52 → ∃ v, fs[k]? = some v ∧ mV G (mfs[k]?) v
def m_0 : k_T := fun E _ a n e => ∃ f : Nat → Int32, e = .inl (E 0, n, .inl f)
def m_1 : k_T := fun E _ a n e => ∃ f : Nat → Int32, e = .inl (E 0, n, .inl f) ∧ kOk (E 10) f
def m_2 : k_T := fun E _ a n e => ∃ f : Nat → Int32, e = .inl (E 0, n, .inl f) ∧ iOk (E 11) (E 12) f
def m_3 : k_T := fun E _ a n e => ∃ f : Nat → Int32, e = .inl (E 0, n, .inl f) ∧ ∀ j, j < n → 0 ≤ (f j).toInt ∧ (f j).toInt ≤ 24
def m_4 : k_T := fun E _ a n e => ∃ f : Nat → Int32, e = .inl (E 3, n, .inl f)
def m_5 : k_T := fun E _ a n e => ∃ f : Nat → Int32, e = .inl (E 2, n, .inl f)
def m_6 : k_T := fun E _ a n e => ∃ f : Nat → Int32, e = .inl (E 0, n, .inl f) ∧ ∀ j, j < n → 0 ≤ (f j).toInt ∧ (f j).toInt ≤ 400
def m_7 : k_T := fun E _ a n e => ∃ f : Nat → Int32, e = .inl (E 3, n, .inl f) ∧ (f 88).toInt = 32
def m_11 : k_T := fun E _ a n e => ∃ f : Nat → Int32, e = .inl (E 2, 2, .inl f) ∧ (f 0).toInt = ((E 13 : Nat) : Int) ∧ (f 1).toInt = ((E 14 : Nat) : Int) ∧ E 13 ≤ 1 ∧ E 14 ≤ 1
def m_10 : k_T := fun _ G a _ e => ∃ fs : List Value, e = .inr (12, fs) ∧ mOk G fs
def m_all : List k_T := [m_0, m_1, m_2, m_3, m_4, m_5, m_6, m_7, m_0, m_0, m_10, m_11]
def okM (E : Nat → Nat) (G : th_G) (a : Nat) (k : th_K) (e : va_E) : Prop := ∃ P : k_T, m_all[k.1]? = some P ∧ P E G a k.2 e
section MK
variable {E : Nat → Nat} {D : va_G} {G : th_G} {X : List Nat} {H H1 : Heap} {a q n M k j : Nat} {z w : Int32} {f : Nat → Int32} {kd : th_K}
theorem om_P {t : Nat} {P : k_T} (hI : th_I (okM E) D G X H) (ha : G a = some (t, n)) (hX : a ∉ X) (hP : m_all[t]? = some P) : ∃ e : va_E, va_at D vwCl (a, e) H ∧ P E G a n e := by
  obtain ⟨e, h1, P', h2, h3⟩ := hI a _ ha hX
  cases hP.symm.trans h2
  exact ⟨e, h1, h3⟩
theorem om_0 (hI : th_I (okM E) D G X H) (ha : G a = some (0, n)) (hX : a ∉ X) : ∃ f : Nat → Int32, va_at D vwCl (a, .inl (E 0, n, .inl f)) H := by
  obtain ⟨_, h, f, rfl⟩ := om_P hI ha hX (P := m_0) rfl
  exact ⟨f, h⟩
theorem om_8 (hI : th_I (okM E) D G X H) (ha : G a = some (8, n)) (hX : a ∉ X) : ∃ f : Nat → Int32, va_at D vwCl (a, .inl (E 0, n, .inl f)) H := by
  obtain ⟨_, h, f, rfl⟩ := om_P hI ha hX (P := m_0) rfl
  exact ⟨f, h⟩
theorem om_9 (hI : th_I (okM E) D G X H) (ha : G a = some (9, n)) (hX : a ∉ X) : ∃ f : Nat → Int32, va_at D vwCl (a, .inl (E 0, n, .inl f)) H := by
  obtain ⟨_, h, f, rfl⟩ := om_P hI ha hX (P := m_0) rfl
  exact ⟨f, h⟩
theorem om_1 (hI : th_I (okM E) D G X H) (ha : G a = some (1, n)) (hX : a ∉ X) : ∃ f : Nat → Int32, va_at D vwCl (a, .inl (E 0, n, .inl f)) H ∧ kOk (E 10) f := by
  obtain ⟨_, h, f, rfl, h2⟩ := om_P hI ha hX (P := m_1) rfl
  exact ⟨f, h, h2⟩
theorem om_2 (hI : th_I (okM E) D G X H) (ha : G a = some (2, n)) (hX : a ∉ X) : ∃ f : Nat → Int32, va_at D vwCl (a, .inl (E 0, n, .inl f)) H ∧ iOk (E 11) (E 12) f := by
  obtain ⟨_, h, f, rfl, h2⟩ := om_P hI ha hX (P := m_2) rfl
  exact ⟨f, h, h2⟩
theorem om_3 (hI : th_I (okM E) D G X H) (ha : G a = some (3, n)) (hX : a ∉ X) : ∃ f : Nat → Int32, va_at D vwCl (a, .inl (E 0, n, .inl f)) H ∧ ∀ j, j < n → 0 ≤ (f j).toInt ∧ (f j).toInt ≤ 24 := by
  obtain ⟨_, h, f, rfl, h2⟩ := om_P hI ha hX (P := m_3) rfl
  exact ⟨f, h, h2⟩
theorem om_4 (hI : th_I (okM E) D G X H) (ha : G a = some (4, n)) (hX : a ∉ X) : ∃ f : Nat → Int32, va_at D vwCl (a, .inl (E 3, n, .inl f)) H := by
  obtain ⟨_, h, f, rfl⟩ := om_P hI ha hX (P := m_4) rfl
  exact ⟨f, h⟩
theorem om_5 (hI : th_I (okM E) D G X H) (ha : G a = some (5, n)) (hX : a ∉ X) : ∃ f : Nat → Int32, va_at D vwCl (a, .inl (E 2, n, .inl f)) H := by
  obtain ⟨_, h, f, rfl⟩ := om_P hI ha hX (P := m_5) rfl
  exact ⟨f, h⟩
theorem om_6 (hI : th_I (okM E) D G X H) (ha : G a = some (6, n)) (hX : a ∉ X) : ∃ f : Nat → Int32, va_at D vwCl (a, .inl (E 0, n, .inl f)) H ∧ ∀ j, j < n → 0 ≤ (f j).toInt ∧ (f j).toInt ≤ 400 := by
  obtain ⟨_, h, f, rfl, h2⟩ := om_P hI ha hX (P := m_6) rfl
  exact ⟨f, h, h2⟩
theorem om_7 (hI : th_I (okM E) D G X H) (ha : G a = some (7, n)) (hX : a ∉ X) : ∃ f : Nat → Int32, va_at D vwCl (a, .inl (E 3, n, .inl f)) H ∧ (f 88).toInt = 32 := by
  obtain ⟨_, h, f, rfl, h2⟩ := om_P hI ha hX (P := m_7) rfl
  exact ⟨f, h, h2⟩
theorem om_10 (hI : th_I (okM E) D G X H) (ha : G a = some (10, n)) (hX : a ∉ X) : ∃ fs : List Value, va_at D vwCl (a, .inr (12, fs)) H ∧ mOk G fs := by
  obtain ⟨_, h, f, rfl, h2⟩ := om_P hI ha hX (P := m_10) rfl
  exact ⟨f, h, h2⟩
theorem om_11 (hI : th_I (okM E) D G X H) (ha : G a = some (11, n)) (hX : a ∉ X) : ∃ f : Nat → Int32, va_at D vwCl (a, .inl (E 2, 2, .inl f)) H ∧ (f 0).toInt = ((E 13 : Nat) : Int) ∧ (f 1).toInt = ((E 14 : Nat) : Int) ∧ E 13 ≤ 1 ∧ E 14 ≤ 1 := by
  obtain ⟨_, h, f, rfl, h2⟩ := om_P hI ha hX (P := m_11) rfl
  exact ⟨f, h, h2⟩
theorem rm_10 (hI : th_I (okM E) D G X H) (ha : G a = some (10, n)) (hX : a ∉ X) : ∃ fs : List Value, va_at D vwCl (a, .inr (12, fs)) H := by
  obtain ⟨fs, h, -⟩ := om_10 hI ha hX
  exact ⟨fs, h⟩
theorem ok_m0 : okM E G a (0, n) (.inl (E 0, n, .inl f)) := ⟨m_0, rfl, f, rfl⟩
theorem ok_m8 : okM E G a (8, n) (.inl (E 0, n, .inl f)) := ⟨m_0, rfl, f, rfl⟩
theorem ok_m9 : okM E G a (9, n) (.inl (E 0, n, .inl f)) := ⟨m_0, rfl, f, rfl⟩
theorem ok_m1 (h : kOk (E 10) f) : okM E G a (1, n) (.inl (E 0, n, .inl f)) := ⟨m_1, rfl, f, rfl, h⟩
theorem ok_m2 (h : iOk (E 11) (E 12) f) : okM E G a (2, n) (.inl (E 0, n, .inl f)) := ⟨m_2, rfl, f, rfl, h⟩
theorem ok_m3 (h : ∀ j, j < n → 0 ≤ (f j).toInt ∧ (f j).toInt ≤ 24) : okM E G a (3, n) (.inl (E 0, n, .inl f)) := ⟨m_3, rfl, f, rfl, h⟩
theorem ok_m4 : okM E G a (4, n) (.inl (E 3, n, .inl f)) := ⟨m_4, rfl, f, rfl⟩
theorem ok_m5 : okM E G a (5, n) (.inl (E 2, n, .inl f)) := ⟨m_5, rfl, f, rfl⟩
theorem ok_m6 (h : ∀ j, j < n → 0 ≤ (f j).toInt ∧ (f j).toInt ≤ 400) : okM E G a (6, n) (.inl (E 0, n, .inl f)) := ⟨m_6, rfl, f, rfl, h⟩
theorem ok_m7 (h : (f 88).toInt = 32) : okM E G a (7, n) (.inl (E 3, n, .inl f)) := ⟨m_7, rfl, f, rfl, h⟩
theorem ok_m11 (h : (f 0).toInt = ((E 13 : Nat) : Int) ∧ (f 1).toInt = ((E 14 : Nat) : Int) ∧ E 13 ≤ 1 ∧ E 14 ≤ 1) : okM E G a (11, n) (.inl (E 2, 2, .inl f)) := ⟨m_11, rfl, f, rfl, h⟩
theorem ok_m10 {fs : List Value} (h : mOk G fs) : okM E G a (10, n) (.inr (12, fs)) := ⟨m_10, rfl, fs, rfl, h⟩
theorem rgs_set {lo hi : Int} {k n : Nat} {v : Int32} (h : ∀ j, j < n → lo ≤ (f j).toInt ∧ (f j).toInt ≤ hi) (h1 : lo ≤ v.toInt) (h2 : v.toInt ≤ hi) : ∀ j, j < n → lo ≤ (upd f k v j).toInt ∧ (upd f k v j).toInt ≤ hi := fun j hj => by
  by_cases e : j = k
  · subst e; rw [pk_us]; exact ⟨h1, h2⟩
  · rw [pk_un e]; exact h j hj
theorem rgs_get {lo hi : Int} {n : Nat} {i x : Int32} {X : Int} (h : ∀ j, j < n → lo ≤ (f j).toInt ∧ (f j).toInt ≤ hi) (e : x = f i.toNatClampNeg) (hi' : i.toInt = X) (h0 : 0 ≤ X) (h1 : X < (n : Int)) : lo ≤ x.toInt ∧ x.toInt ≤ hi := by
  rw [e]; exact h _ (th_cl hi' h0 h1)
/-- one place, read twice -/
theorem rd_same {i j x y : Int32} {X Y : Int} (e : x = f i.toNatClampNeg) (e' : y = f j.toNatClampNeg) (hi : i.toInt = X) (hj : j.toInt = Y) (h : X = Y) : y = x := by
  have : i = j := Int32.toInt_inj.mp (by omega)
  rw [e, e', this]
theorem rd_un {i j x v : Int32} {X Y : Int} (e : x = f i.toNatClampNeg) (hi : i.toInt = X) (hj : j.toInt = Y) (h0 : 0 ≤ X) (h1 : 0 ≤ Y) (h : X ≠ Y) : x = upd f j.toNatClampNeg v i.toNatClampNeg := by
  rw [pk_un, e]
  intro z
  have e1 : (i.toNatClampNeg : Int) = X := by rw [← hi]; show ((i.toInt.toNat : Nat) : Int) = _; omega
  have e2 : (j.toNatClampNeg : Int) = Y := by rw [← hj]; show ((j.toInt.toNat : Nat) : Int) = _; omega
  omega
theorem rd_us {j v : Int32} : v = upd f j.toNatClampNeg v j.toNatClampNeg := pk_us.symm
/-- what a field of the object is -/
def gf (D : va_G) (M k : Nat) (z : Int32) (H : Heap) : Prop := ∃ fs : List Value, va_at D vwCl (M, .inr (12, fs)) H ∧ fs[k]? = some (.int z)
def fr (D : va_G) (M k q : Nat) (H : Heap) : Prop := ∃ fs : List Value, va_at D vwCl (M, .inr (12, fs)) H ∧ fs[k]? = some (.ref q)
/-- what stands in a row that is a field of the object -/
def ga (E : Nat → Nat) (D : va_G) (G : th_G) (M k : Nat) (kd : th_K) (f : Nat → Int32) (H : Heap) : Prop := ∃ q, fr D M k q H ∧ G q = some kd ∧ va_at D vwCl (q, .inl (E 0, kd.2, .inl f)) H
theorem m_same {fs fs' : List Value} {v v' : Value} (h : va_at D vwCl (M, .inr (12, fs)) H) (h' : va_at D vwCl (M, .inr (12, fs')) H) (hk : k < 52) (hv : fs[k]? = some v) (hv' : fs'[k]? = some v') : v = v' := by
  obtain ⟨r, h1, cell, q1, q2, q3, q4⟩ := h
  obtain ⟨r', h1', cell', q1', q2', q3', q4'⟩ := h'
  have e : r = (RX12, TX12, 52) := Option.some.inj (h1.symm.trans rfl)
  have e' : r' = (RX12, TX12, 52) := Option.some.inj (h1'.symm.trans rfl)
  subst e; subst e'
  have ec : cell = cell' := Option.some.inj (q1.symm.trans q1')
  subst ec
  have := Option.some.inj ((q4 k hk).symm.trans (q4' k hk))
  have a1 : vp_V fs k = v := by unfold vp_V; rw [List.getD_eq_getElem?_getD, hv]; rfl
  have a2 : vp_V fs' k = v' := by unfold vp_V; rw [List.getD_eq_getElem?_getD, hv']; rfl
  rw [← a1, ← a2]
  exact this
theorem gf.uniq (hk : k < 52) (h : gf D M k z H) (h' : gf D M k w H) : z = w := by
  obtain ⟨fs, h1, h2⟩ := h
  obtain ⟨fs', h1', h2'⟩ := h'
  exact Value.int.inj (m_same h1 h1' hk h2 h2')
theorem fr.uniq {q' : Nat} (hk : k < 52) (h : fr D M k q H) (h' : fr D M k q' H) : q = q' := by
  obtain ⟨fs, h1, h2⟩ := h
  obtain ⟨fs', h1', h2'⟩ := h'
  exact Value.ref.inj (m_same h1 h1' hk h2 h2')
theorem gf.kept (h : gf D M k z H) (e : H1[M]? = H[M]?) : gf D M k z H1 := by
  obtain ⟨fs, h1, h2⟩ := h
  exact ⟨fs, h1.kept e, h2⟩
theorem fr.kept (h : fr D M k q H) (e : H1[M]? = H[M]?) : fr D M k q H1 := by
  obtain ⟨fs, h1, h2⟩ := h
  exact ⟨fs, h1.kept e, h2⟩
theorem ga.at (hk : k < 52) (h : ga E D G M k kd f H) (hf : fr D M k q H) : va_at D vwCl (q, .inl (E 0, kd.2, .inl f)) H := by
  obtain ⟨q', h1, h2, h3⟩ := h
  cases fr.uniq hk hf h1
  exact h3
theorem m_ne {k1 k2 : th_K} {a b : Nat} (ha : G a = some k1) (hb : G b = some k2) (h : k1.1 ≠ k2.1) : a ≠ b := fun z => by
  subst z
  cases ha.symm.trans hb
  exact h rfl
theorem m_nin {k1 k2 : th_K} {a b : Nat} (ha : G a = some k1) (hb : G b = some k2) (h : k1.1 ≠ k2.1) : a ∉ [b] := fun z => m_ne ha hb h (List.mem_singleton.mp z)
theorem gf.arr {k2 : th_K} (hM : G M = some (10, n)) (hq : G q = some k2) (hn : k2.1 ≠ 10) (oq : ∀ r : Nat, r ≠ q → H1[r]? = H[r]?) (h : gf D M k z H) : gf D M k z H1 := h.kept (oq M (m_ne hM hq (Ne.symm hn)))
theorem fr.arr {k2 : th_K} {r : Nat} (hM : G M = some (10, n)) (hq : G q = some k2) (hn : k2.1 ≠ 10) (oq : ∀ r : Nat, r ≠ q → H1[r]? = H[r]?) (h : fr D M k r H) : fr D M k r H1 := h.kept (oq M (m_ne hM hq (Ne.symm hn)))
theorem ga.arr {k2 : th_K} (hM : G M = some (10, n)) (hq : G q = some k2) (hn : k2.1 ≠ 10) (hd : kd.1 ≠ k2.1) (oq : ∀ r : Nat, r ≠ q → H1[r]? = H[r]?) (h : ga E D G M k kd f H) : ga E D G M k kd f H1 := by
  obtain ⟨q', h1, h2, h3⟩ := h
  exact ⟨q', h1.arr hM hq hn oq, h2, h3.kept (oq q' (m_ne h2 hq hd))⟩
def gP (D : va_G) (M k : Nat) (z : Int32) (H H1 : Heap) : Prop := (∀ r : Nat, r ≠ M → H1[r]? = H[r]?) ∧ gf D M k z H1 ∧ (∀ (j : Nat) (w : Int32), j < 52 → j ≠ k → gf D M j w H → gf D M j w H1) ∧ ∀ (j q : Nat), j < 52 → j ≠ k → fr D M j q H → fr D M j q H1
theorem gP.arr (h : gP D M k z H H1) (hM : G M = some (10, n)) (hn : kd.1 ≠ 10) (hl : j < 52) (hj : j ≠ k) (g : ga E D G M j kd f H) : ga E D G M j kd f H1 := by
  obtain ⟨q', h1, h2, h3⟩ := g
  exact ⟨q', h.2.2.2 _ _ hl hj h1, h2, h3.kept (h.1 q' (m_ne h2 hM hn))⟩
theorem mOk.set {fs : List Value} {lo hi : Int} (h : mOk G fs) (hk : k < 52) (hm : mfs[k]? = some (.inr (lo, hi))) (h1 : lo ≤ z.toInt) (h2 : z.toInt ≤ hi) : mOk G (fs.set k (.int z)) := by
  refine ⟨by rw [List.length_set]; exact h.1, fun j hj => ?_⟩
  by_cases e : j = k
  · subst e
    refine ⟨.int z, ?_, ?_⟩
    · rw [List.getElem?_set_self (by rw [h.1]; exact hk)]
    · rw [hm]; exact ⟨z, rfl, h1, h2⟩
  · obtain ⟨v, a1, a2⟩ := h.2 j hj
    exact ⟨v, by rw [List.getElem?_set_ne (Ne.symm e)]; exact a1, a2⟩
end MK
section MW
variable {p : Program} {l : Launch} {e : Env} {R : Room} {s : State} {m : MethodId} {args : Array Value} {below : List Frame} {meth : Method} {c : Code} {H : Heap} {locs : List Loc} {cells slots : Nat} {Q : State → Prop}
variable {cc : ByteArray} {pc nL : Nat} {ls : Array Slot} {rest st0 As : List Value} {A A0 : Nat → Prop} {H0 : Heap} {D : va_G} {E : Nat → Nat} {G : th_G} {M b n0 : Nat}
variable {own C host : String} {index n maxL ci d : Nat} {y : MethodName} {bytes : ByteArray} {ret : Option FieldType} {cw : Cond} {T : u_T} {N : Nat}
theorem gmA (hexec : p.tables.exec = Jvm.exec) (hb : c.code = cc) {Ts : List Cond} (hts : ∀ w ∈ Ts, w.before args s = true) (hin : ∀ w ∈ u_ws RX12 TX12 52, w ∈ Ts) (hown : s.vm.findClass own = some m.cls) (hK : va_K D vwCl (th_tys E) s) {Xs : List Nat} (hI : th_I (okM E) D G Xs H) (hXs : M ∉ Xs) (hM : G M = some (10, n0)) (k : Nat) (hk : k < 52) (hlink : (Cond.fieldLink own index RX12 (TX12 k).2.1 (TX12 k).2.2.1).before args s = true) (hsame : (TX12 k).1 = RX12) {kd : th_K} (hm : mfs[k]? = some (.inl kd)) (hdg : decode cc pc = .ok (.getfield index, 3))
    (kk : ∀ q : Nat, G q = some kd → fr D M k q H → W p l e R s m args below meth c H locs cells slots Q (F0 m (pc + 3) ls (.ref q :: rest))) : W p l e R s m args below meth c H locs cells slots Q (F0 m pc ls (.ref M :: rest)) := by
  obtain ⟨fs, hO, hok⟩ := om_10 hI hM hXs
  obtain ⟨v, hv, hmv⟩ := hok.2 k hk
  rw [hm] at hmv
  obtain ⟨q, rfl, hq⟩ := hmv
  exact th_get (C := RX12) (T := TX12) (N := 52) hexec hb hts hin hown hK hO rfl k hk hlink hsame hv hdg (kk q hq ⟨fs, hO, hv⟩)
theorem gmI (hexec : p.tables.exec = Jvm.exec) (hb : c.code = cc) {Ts : List Cond} (hts : ∀ w ∈ Ts, w.before args s = true) (hin : ∀ w ∈ u_ws RX12 TX12 52, w ∈ Ts) (hown : s.vm.findClass own = some m.cls) (hK : va_K D vwCl (th_tys E) s) {Xs : List Nat} (hI : th_I (okM E) D G Xs H) (hXs : M ∉ Xs) (hM : G M = some (10, n0)) (k : Nat) (hk : k < 52) (hlink : (Cond.fieldLink own index RX12 (TX12 k).2.1 (TX12 k).2.2.1).before args s = true) (hsame : (TX12 k).1 = RX12) {lo hi : Int} (hm : mfs[k]? = some (.inr (lo, hi))) (hdg : decode cc pc = .ok (.getfield index, 3))
    (kk : ∀ z : Int32, gf D M k z H → lo ≤ z.toInt → z.toInt ≤ hi → W p l e R s m args below meth c H locs cells slots Q (F0 m (pc + 3) ls (.int z :: rest))) : W p l e R s m args below meth c H locs cells slots Q (F0 m pc ls (.ref M :: rest)) := by
  obtain ⟨fs, hO, hok⟩ := om_10 hI hM hXs
  obtain ⟨v, hv, hmv⟩ := hok.2 k hk
  rw [hm] at hmv
  obtain ⟨q, rfl, h1, h2⟩ := hmv
  exact th_get (C := RX12) (T := TX12) (N := 52) hexec hb hts hin hown hK hO rfl k hk hlink hsame hv hdg (kk q ⟨fs, hO, hv⟩ h1 h2)
theorem pmI (hexec : p.tables.exec = Jvm.exec) (hb : c.code = cc) {Ts : List Cond} (hts : ∀ w ∈ Ts, w.before args s = true) (hin : ∀ w ∈ u_ws RX12 TX12 52, w ∈ Ts) (hown : s.vm.findClass own = some m.cls) (hK : va_K D vwCl (th_tys E) s) {Xs : List Nat} (hI : th_I (okM E) D G Xs H) (hXs : M ∉ Xs) (hM : G M = some (10, n0)) (hS0 : va_S A H0 H locs) (hA : A M) (k : Nat) (hk : k < 52) (hlink : (Cond.fieldLink own index RX12 (TX12 k).2.1 (TX12 k).2.2.1).before args s = true) (hsame : (TX12 k).1 = RX12) (hfin : (TX12 k).2.2.2 = false) {ty : FieldType} {z : Int32} (hd : parseFieldDescriptor (TX12 k).2.2.1 = some ty) (hn : narrow ty (.int z) = .int z) (hfit : fits ty (.int z) = true) {lo hi : Int} (hm : mfs[k]? = some (.inr (lo, hi))) (h1 : lo ≤ z.toInt) (h2 : z.toInt ≤ hi) (hdg : decode cc pc = .ok (.putfield index, 3))
    (kk : ∀ (H1 : Heap) (locs1 : List Loc), th_I (okM E) D G Xs H1 → gP D M k z H H1 → va_S A H0 H1 locs1 → W p l e R s m args below meth c H1 locs1 cells slots Q (F0 m (pc + 3) ls rest)) : W p l e R s m args below meth c H locs cells slots Q (F0 m pc ls (.int z :: .ref M :: rest)) := by
  obtain ⟨fs, hO, hok⟩ := om_10 hI hM hXs
  refine th_put (C := RX12) (T := TX12) (N := 52) (ty := ty) hexec hb hts hin tyX12 tyX12_ok nmX12 hown hK hO hS0 hA rfl k hk hlink hsame hfin hd hn hfit (by rw [hok.1]; exact hk) hdg (fun H1 locs1 hO1 oq hS1 => ?_)
  refine kk H1 locs1 (th_I.put hI hM hO1 (ok_m10 (hok.set hk hm h1 h2)) oq) ⟨oq, ⟨_, hO1, List.getElem?_set_self (by rw [hok.1]; exact hk)⟩, fun j w hj2 hj hg => ?_, fun j q hj2 hj hg => ?_⟩ hS1
  · obtain ⟨fs', h3, h4⟩ := hg
    obtain ⟨v, hv, -⟩ := hok.2 j hj2
    have := m_same hO h3 hj2 hv h4
    subst this
    exact ⟨_, hO1, by rw [List.getElem?_set_ne (Ne.symm hj)]; exact hv⟩
  · obtain ⟨fs', h3, h4⟩ := hg
    obtain ⟨v, hv, -⟩ := hok.2 j hj2
    have := m_same hO h3 hj2 hv h4
    subst this
    exact ⟨_, hO1, by rw [List.getElem?_set_ne (Ne.symm hj)]; exact hv⟩
theorem th_bast (hexec : p.tables.exec = Jvm.exec) (hb : c.code = cc) {tys : List (ClassId × FieldType)} {a : Nat} (hK : va_K D vwCl tys s) {cA : ClassId} {n : Nat} {f : Nat → Int32} (hO : va_at D vwCl (a, .inl (cA, n, .inl f)) H) (t0 : Nat) (ht : tys[t0]? = some (cA, .byte)) (hS : va_S A H0 H locs) (hA : A a) {i : Int32} {x : Int32} (hin : vp_in i n) (hdg : decode cc pc = .ok (.bastore, 1))
    (kk : ∀ (H1 : Heap) (locs1 : List Loc), va_at D vwCl (a, .inl (cA, n, .inl (upd f i.toNatClampNeg (vp_nar .byte x)))) H1 → (∀ q : Nat, q ≠ a → H1[q]? = H[q]?) → va_S A H0 H1 locs1 → W p l e R s m args below meth c H1 locs1 cells slots Q (F0 m (pc + 1) ls rest)) : W p l e R s m args below meth c H locs cells slots Q (F0 m pc ls (.int x :: .int i :: .ref a :: rest)) := by
  have h0 : H[a]? = some (vp_cell cA (n, .inl f)) := hO
  refine W.bast hexec hb h0 ((hK.2 t0 _ ht).1 n (fun j => .int (f j))) (fun q => by cases q) (by show ¬ (i < 0 ∨ (arrV _ _ _).slots.size ≤ _); rw [arrV_size]; exact hin) rfl rfl hdg fun H1 e z oq => ?_
  refine kk H1 _ ?_ oq (hS.put z oq hA)
  show H1[a]? = some (vp_cell _ _)
  rw [e]
  rw [vp_cell_i, vp_cell_i, arrV_store]
  congr 2
  funext q
  by_cases hq : q = i.toNatClampNeg
  · subst hq
    simp [updV, upd, vp_nar]
    try rfl
  · simp [updV, upd, hq]
theorem th_zast (hexec : p.tables.exec = Jvm.exec) (hb : c.code = cc) {tys : List (ClassId × FieldType)} {a : Nat} (hK : va_K D vwCl tys s) {cA : ClassId} {n : Nat} {f : Nat → Int32} (hO : va_at D vwCl (a, .inl (cA, n, .inl f)) H) (t0 : Nat) (ht : tys[t0]? = some (cA, .boolean)) (hS : va_S A H0 H locs) (hA : A a) {i : Int32} {x : Int32} (hin : vp_in i n) (hdg : decode cc pc = .ok (.bastore, 1))
    (kk : ∀ (H1 : Heap) (locs1 : List Loc), va_at D vwCl (a, .inl (cA, n, .inl (upd f i.toNatClampNeg (vp_nar .boolean x)))) H1 → (∀ q : Nat, q ≠ a → H1[q]? = H[q]?) → va_S A H0 H1 locs1 → W p l e R s m args below meth c H1 locs1 cells slots Q (F0 m (pc + 1) ls rest)) : W p l e R s m args below meth c H locs cells slots Q (F0 m pc ls (.int x :: .int i :: .ref a :: rest)) := by
  have h0 : H[a]? = some (vp_cell cA (n, .inl f)) := hO
  refine W.zast hexec hb h0 ((hK.2 t0 _ ht).1 n (fun j => .int (f j))) (fun q => by cases q) (by show ¬ (i < 0 ∨ (arrV _ _ _).slots.size ≤ _); rw [arrV_size]; exact hin) rfl rfl hdg fun H1 e z oq => ?_
  refine kk H1 _ ?_ oq (hS.put z oq hA)
  show H1[a]? = some (vp_cell _ _)
  rw [e]
  rw [vp_cell_i, vp_cell_i, arrV_store]
  congr 2
  funext q
  by_cases hq : q = i.toNatClampNeg
  · subst hq
    simp [updV, upd, vp_nar]
    try rfl
  · simp [updV, upd, hq]
end MW
def th_PM (E : Nat → Nat) (D : va_G) (G : th_G) : State → Prop := fun U => th_I (okM E) D G [] U.heap ∧ th_N U ∧ va_K D vwCl (th_tys E) U
abbrev PX (E : Nat → Nat) (D : va_G) (G : th_G) (X : Heap → Prop) : State → Prop := fun U => th_PM E D G U ∧ X U.heap
abbrev PR (E : Nat → Nat) (D : va_G) (G : th_G) (H : Heap) : State → Prop := fun U => U.heap = H ∧ th_PM E D G U
theorem mx_blind {E : Nat → Nat} {D : va_G} {G : th_G} {av : List Value} {X : Heap → Prop} : FrameBlind (va_Pc av (PX E D G X)) := fun a U g mk q => ⟨q.1, ⟨q.2.1.1, th_N.same (u := U) rfl q.2.1.2.1, va_K.moved (u := U) (U := U.calling g mk a) (Vm.Alike.refl U.vm) q.2.1.2.2⟩, q.2.2⟩
theorem mr_blind {E : Nat → Nat} {D : va_G} {G : th_G} {av : List Value} {H : Heap} : FrameBlind (va_Pc av (PR E D G H)) := fun a U g mk q => ⟨q.1, q.2.1, ⟨q.2.2.1, th_N.same (u := U) rfl q.2.2.2.1, va_K.moved (u := U) (U := U.calling g mk a) (Vm.Alike.refl U.vm) q.2.2.2.2⟩⟩
abbrev QXi (E : Nat → Nat) (D : va_G) (G : th_G) (Y : Int32 → Heap → Prop) : Array Value → State → Outcome → State → Prop := va_Qi (fun r (u : Int32) => u = r) (fun u t => th_PM E D G t ∧ Y u t.heap) (th_A G)
abbrev QXl (E : Nat → Nat) (D : va_G) (G : th_G) (Y : Int64 → Heap → Prop) : Array Value → State → Outcome → State → Prop := va_Ql (fun r (u : Int64) => u = r) (fun u t => th_PM E D G t ∧ Y u t.heap) (th_A G)
abbrev QXv (E : Nat → Nat) (D : va_G) (G : th_G) (Y : Heap → Prop) : Array Value → State → Outcome → State → Prop := va_Qv (fun (_ : Unit) => True) (fun _ t => th_PM E D G t ∧ Y t.heap) (th_A G)
abbrev QSl (H : Heap) (post : Int64 → Prop) : Array Value → State → Outcome → State → Prop := va_Ql (fun r (_ : Unit) => post r) (fun _ t => t.heap = H) (fun _ => False)
section MC
variable {p : Program} {l : Launch} {e : Env} {R : Room} {s : State} {m : MethodId} {args : Array Value} {below : List Frame} {meth : Method} {c : Code} {H : Heap} {locs : List Loc} {cells slots : Nat} {Q : State → Prop}
variable {cc : ByteArray} {pc nL : Nat} {ls : Array Slot} {rest st0 As : List Value} {A0 : Nat → Prop} {H0 : Heap} {D : va_G} {E : Nat → Nat} {G : th_G} {b n0 : Nat}
variable {own host : String} {index n maxL d : Nat} {y : MethodName} {bytes : ByteArray} {ret : Option FieldType} {cw : Cond} {X : Heap → Prop}
theorem mx_i {Y : Int32 → Heap → Prop} (F : CallFix p m c cc nL s args (tb cw) own) (hM : Met l y (tb (.code y bytes maxL ret)) (rm d) (va_Pc (.ref b :: As) (PX E D G X)) (QXi E D G Y) 0 0 (th_A G))
    (h1 : Cond.methodLink own index y ∈ TB) (h2 : Cond.instanceMethod y ∈ TB) (h3 : Cond.selects RX12 y y ∈ TB) (h4 : Cond.initialized RX12 ∈ TB) (h5 : Cond.code y bytes maxL ret ∈ TB)
    (hd : y.cls = RX12 ∧ y.cls ≠ "java/lang/invoke/MethodHandle" ∧ y.cls ≠ "java/lang/invoke/VarHandle" ∧ (parseMethodDescriptor y.desc).map (fun d => d.parameters.length) = some n) (hR : d + 1 ≤ R.frames ∧ 8 + (maxL + 11) + 40 * d ≤ R.locals)
    (hI : th_I (okM E) D G [] H) (hN : th_N s) (hK : va_K D vwCl (th_tys E) s) (hS : va_S (th_A G) H0 H locs) (hO : G b = some (10, n0)) (hX : X H)
    (hn : As.length = n) (hsize : ls.size = nL) (hst : st0 = As.reverse ++ .ref b :: rest) (hrm : (rest.map fun v => v.category).sum ≤ 8) (hdg : decode cc pc = .ok (.invokevirtual index, 3)) (hcs : cells ≤ R.cells ∧ slots ≤ R.slots)
    (kk : ∀ (r : Int32) (H1 : Heap) (locs1 : List Loc), th_I (okM E) D G [] H1 → Y r H1 → va_S (th_A G) H0 H1 locs1 → W p l e R s m args below meth c H1 locs1 cells slots Q (F0 m (pc + 3) ls (.int r :: rest))) : W p l e R s m args below meth c H locs cells slots Q (F0 m pc ls st0) := by
  obtain ⟨fs, hO⟩ := rm_10 hI hO List.not_mem_nil
  exact va_calli (va_runV (As := As) (rest := rest) F hM (cwV n F.2.2.2.2 (tb_V h1 h2 h3 h4 h5) rfl rfl rfl hd hR) ⟨mx_blind, va_recv hK (th_one hO) (q := (RX12, TX12, 52)) rfl (q0 := 0) rfl, fun U hU hW => ⟨rfl, ⟨by rw [hU]; exact hI, hN.warm hW, va_K.moved hW.alike hK⟩, by rw [hU]; exact hX⟩⟩ rfl hn hsize hst (lv_room hrm) hdg hcs) hS (fun q _ h => h) (fun q h => h) (fun r u t H1 locs1 ht hvm hw hB hz hk hS => kk r H1 locs1 (by rw [← ht]; exact hB.1.1) (by rw [← ht, ← hw]; exact hB.2) hS)
theorem mx_l {Y : Int64 → Heap → Prop} (F : CallFix p m c cc nL s args (tb cw) own) (hM : Met l y (tb (.code y bytes maxL ret)) (rm d) (va_Pc (.ref b :: As) (PX E D G X)) (QXl E D G Y) 0 0 (th_A G))
    (h1 : Cond.methodLink own index y ∈ TB) (h2 : Cond.instanceMethod y ∈ TB) (h3 : Cond.selects RX12 y y ∈ TB) (h4 : Cond.initialized RX12 ∈ TB) (h5 : Cond.code y bytes maxL ret ∈ TB)
    (hd : y.cls = RX12 ∧ y.cls ≠ "java/lang/invoke/MethodHandle" ∧ y.cls ≠ "java/lang/invoke/VarHandle" ∧ (parseMethodDescriptor y.desc).map (fun d => d.parameters.length) = some n) (hR : d + 1 ≤ R.frames ∧ 8 + (maxL + 11) + 40 * d ≤ R.locals)
    (hI : th_I (okM E) D G [] H) (hN : th_N s) (hK : va_K D vwCl (th_tys E) s) (hS : va_S (th_A G) H0 H locs) (hO : G b = some (10, n0)) (hX : X H)
    (hn : As.length = n) (hsize : ls.size = nL) (hst : st0 = As.reverse ++ .ref b :: rest) (hrm : (rest.map fun v => v.category).sum ≤ 8) (hdg : decode cc pc = .ok (.invokevirtual index, 3)) (hcs : cells ≤ R.cells ∧ slots ≤ R.slots)
    (kk : ∀ (r : Int64) (H1 : Heap) (locs1 : List Loc), th_I (okM E) D G [] H1 → Y r H1 → va_S (th_A G) H0 H1 locs1 → W p l e R s m args below meth c H1 locs1 cells slots Q (F0 m (pc + 3) ls (.long r :: rest))) : W p l e R s m args below meth c H locs cells slots Q (F0 m pc ls st0) := by
  obtain ⟨fs, hO⟩ := rm_10 hI hO List.not_mem_nil
  exact va_calll (va_runV (As := As) (rest := rest) F hM (cwV n F.2.2.2.2 (tb_V h1 h2 h3 h4 h5) rfl rfl rfl hd hR) ⟨mx_blind, va_recv hK (th_one hO) (q := (RX12, TX12, 52)) rfl (q0 := 0) rfl, fun U hU hW => ⟨rfl, ⟨by rw [hU]; exact hI, hN.warm hW, va_K.moved hW.alike hK⟩, by rw [hU]; exact hX⟩⟩ rfl hn hsize hst (lv_room hrm) hdg hcs) hS (fun q _ h => h) (fun q h => h) (fun r u t H1 locs1 ht hvm hw hB hz hk hS => kk r H1 locs1 (by rw [← ht]; exact hB.1.1) (by rw [← ht, ← hw]; exact hB.2) hS)
theorem mx_v {Y : Heap → Prop} (F : CallFix p m c cc nL s args (tb cw) own) (hM : Met l y (tb (.code y bytes maxL ret)) (rm d) (va_Pc (.ref b :: As) (PX E D G X)) (QXv E D G Y) 0 0 (th_A G))
    (h1 : Cond.methodLink own index y ∈ TB) (h2 : Cond.instanceMethod y ∈ TB) (h3 : Cond.selects RX12 y y ∈ TB) (h4 : Cond.initialized RX12 ∈ TB) (h5 : Cond.code y bytes maxL ret ∈ TB)
    (hd : y.cls = RX12 ∧ y.cls ≠ "java/lang/invoke/MethodHandle" ∧ y.cls ≠ "java/lang/invoke/VarHandle" ∧ (parseMethodDescriptor y.desc).map (fun d => d.parameters.length) = some n) (hR : d + 1 ≤ R.frames ∧ 8 + (maxL + 11) + 40 * d ≤ R.locals)
    (hI : th_I (okM E) D G [] H) (hN : th_N s) (hK : va_K D vwCl (th_tys E) s) (hS : va_S (th_A G) H0 H locs) (hO : G b = some (10, n0)) (hX : X H)
    (hn : As.length = n) (hsize : ls.size = nL) (hst : st0 = As.reverse ++ .ref b :: rest) (hrm : (rest.map fun v => v.category).sum ≤ 8) (hdg : decode cc pc = .ok (.invokevirtual index, 3)) (hcs : cells ≤ R.cells ∧ slots ≤ R.slots)
    (kk : ∀ (H1 : Heap) (locs1 : List Loc), th_I (okM E) D G [] H1 → Y H1 → va_S (th_A G) H0 H1 locs1 → W p l e R s m args below meth c H1 locs1 cells slots Q (F0 m (pc + 3) ls (rest))) : W p l e R s m args below meth c H locs cells slots Q (F0 m pc ls st0) := by
  obtain ⟨fs, hO⟩ := rm_10 hI hO List.not_mem_nil
  exact va_callv (va_runV (As := As) (rest := rest) F hM (cwV n F.2.2.2.2 (tb_V h1 h2 h3 h4 h5) rfl rfl rfl hd hR) ⟨mx_blind, va_recv hK (th_one hO) (q := (RX12, TX12, 52)) rfl (q0 := 0) rfl, fun U hU hW => ⟨rfl, ⟨by rw [hU]; exact hI, hN.warm hW, va_K.moved hW.alike hK⟩, by rw [hU]; exact hX⟩⟩ rfl hn hsize hst (lv_room hrm) hdg hcs) hS (fun q _ h => h) (fun q h => h) (fun u t H1 locs1 ht hvm hw hB hz hk hS => kk H1 locs1 (by rw [← ht]; exact hB.1.1) (by rw [← ht]; exact hB.2) hS)
theorem mr_i {post : Int32 → Prop} (F : CallFix p m c cc nL s args (tb cw) own) (hM : Met l y (tb (.code y bytes maxL ret)) (rm d) (va_Pc (.ref b :: As) (PR E D G H)) (QS H post) 0 0 (fun _ => False))
    (h1 : Cond.methodLink own index y ∈ TB) (h2 : Cond.instanceMethod y ∈ TB) (h3 : Cond.selects RX12 y y ∈ TB) (h4 : Cond.initialized RX12 ∈ TB) (h5 : Cond.code y bytes maxL ret ∈ TB)
    (hd : y.cls = RX12 ∧ y.cls ≠ "java/lang/invoke/MethodHandle" ∧ y.cls ≠ "java/lang/invoke/VarHandle" ∧ (parseMethodDescriptor y.desc).map (fun d => d.parameters.length) = some n) (hR : d + 1 ≤ R.frames ∧ 8 + (maxL + 11) + 40 * d ≤ R.locals)
    (hI : th_I (okM E) D G [] H) (hN : th_N s) (hK : va_K D vwCl (th_tys E) s) (hS : va_S A0 H0 H locs) (hO : G b = some (10, n0)) 
    (hn : As.length = n) (hsize : ls.size = nL) (hst : st0 = As.reverse ++ .ref b :: rest) (hrm : (rest.map fun v => v.category).sum ≤ 8) (hdg : decode cc pc = .ok (.invokevirtual index, 3)) (hcs : cells ≤ R.cells ∧ slots ≤ R.slots)
    (kk : ∀ (r : Int32) (locs1 : List Loc), post r → va_S A0 H0 H locs1 → W p l e R s m args below meth c H locs1 cells slots Q (F0 m (pc + 3) ls (.int r :: rest))) : W p l e R s m args below meth c H locs cells slots Q (F0 m pc ls st0) := by
  obtain ⟨fs, hO⟩ := rm_10 hI hO List.not_mem_nil
  exact va_calli (va_runV (As := As) (rest := rest) F hM (cwV n F.2.2.2.2 (tb_V h1 h2 h3 h4 h5) rfl rfl rfl hd hR) ⟨mr_blind, va_recv hK (th_one hO) (q := (RX12, TX12, 52)) rfl (q0 := 0) rfl, fun U hU hW => ⟨rfl, hU, ⟨by rw [hU]; exact hI, hN.warm hW, va_K.moved hW.alike hK⟩⟩⟩ rfl hn hsize hst (lv_room hrm) hdg hcs) hS (fun q _ h => h.elim) (fun q h => h.elim) (fun r u t H1 locs1 ht hvm hw hB hz hk hS1 => by
    have e : H1 = H := ht.symm.trans hB
    rw [e] at hS1 ⊢
    exact kk r locs1 hw hS1)
theorem mr_l {post : Int64 → Prop} (F : CallFix p m c cc nL s args (tb cw) own) (hM : Met l y (tb (.code y bytes maxL ret)) (rm d) (va_Pc (.ref b :: As) (PR E D G H)) (QSl H post) 0 0 (fun _ => False))
    (h1 : Cond.methodLink own index y ∈ TB) (h2 : Cond.instanceMethod y ∈ TB) (h3 : Cond.selects RX12 y y ∈ TB) (h4 : Cond.initialized RX12 ∈ TB) (h5 : Cond.code y bytes maxL ret ∈ TB)
    (hd : y.cls = RX12 ∧ y.cls ≠ "java/lang/invoke/MethodHandle" ∧ y.cls ≠ "java/lang/invoke/VarHandle" ∧ (parseMethodDescriptor y.desc).map (fun d => d.parameters.length) = some n) (hR : d + 1 ≤ R.frames ∧ 8 + (maxL + 11) + 40 * d ≤ R.locals)
    (hI : th_I (okM E) D G [] H) (hN : th_N s) (hK : va_K D vwCl (th_tys E) s) (hS : va_S A0 H0 H locs) (hO : G b = some (10, n0)) 
    (hn : As.length = n) (hsize : ls.size = nL) (hst : st0 = As.reverse ++ .ref b :: rest) (hrm : (rest.map fun v => v.category).sum ≤ 8) (hdg : decode cc pc = .ok (.invokevirtual index, 3)) (hcs : cells ≤ R.cells ∧ slots ≤ R.slots)
    (kk : ∀ (r : Int64) (locs1 : List Loc), post r → va_S A0 H0 H locs1 → W p l e R s m args below meth c H locs1 cells slots Q (F0 m (pc + 3) ls (.long r :: rest))) : W p l e R s m args below meth c H locs cells slots Q (F0 m pc ls st0) := by
  obtain ⟨fs, hO⟩ := rm_10 hI hO List.not_mem_nil
  exact va_calll (va_runV (As := As) (rest := rest) F hM (cwV n F.2.2.2.2 (tb_V h1 h2 h3 h4 h5) rfl rfl rfl hd hR) ⟨mr_blind, va_recv hK (th_one hO) (q := (RX12, TX12, 52)) rfl (q0 := 0) rfl, fun U hU hW => ⟨rfl, hU, ⟨by rw [hU]; exact hI, hN.warm hW, va_K.moved hW.alike hK⟩⟩⟩ rfl hn hsize hst (lv_room hrm) hdg hcs) hS (fun q _ h => h.elim) (fun q h => h.elim) (fun r u t H1 locs1 ht hvm hw hB hz hk hS1 => by
    have e : H1 = H := ht.symm.trans hB
    rw [e] at hS1 ⊢
    exact kk r locs1 hw hS1)
theorem ms_l {post : Int64 → Prop} (F : CallFix p m c cc nL s args (tb cw) own) (hM : Met l y (tb (.code y bytes maxL ret)) (rm d) (va_Pc As (PS H)) (QSl H post) 0 0 (fun _ => False))
    (h1 : Cond.methodLink own index y ∈ TB) (h2 : Cond.static y ∈ TB) (h4 : Cond.initialized y.cls ∈ TB) (h5 : Cond.code y bytes maxL ret ∈ TB)
    (hd : y.cls ≠ "java/lang/invoke/MethodHandle" ∧ y.cls ≠ "java/lang/invoke/VarHandle" ∧ (parseMethodDescriptor y.desc).map (fun d => d.parameters.length) = some n) (hR : d + 1 ≤ R.frames ∧ 8 + (maxL + 11) + 40 * d ≤ R.locals)
    (hN : th_N s) (hS : va_S A0 H0 H locs)
    (hn : As.length = n) (hsize : ls.size = nL) (hst : st0 = As.reverse ++ rest) (hrm : (rest.map fun v => v.category).sum ≤ 8) (hdg : decode cc pc = .ok (.invokestatic index, 3)) (hcs : cells ≤ R.cells ∧ slots ≤ R.slots)
    (kk : ∀ (r : Int64) (locs1 : List Loc), post r → va_S A0 H0 H locs1 → W p l e R s m args below meth c H locs1 cells slots Q (F0 m (pc + 3) ls (.long r :: rest))) : W p l e R s m args below meth c H locs cells slots Q (F0 m pc ls st0) :=
  va_calll (va_runS (As := As) (rest := rest) F hM (va_cwS n F.2.2.2.2 (tb_S h1 h2 h4 h5) rfl rfl rfl hd hR) ⟨th_blindH, fun U hU hW => ⟨rfl, hU, hN.warm hW⟩⟩ rfl hn hsize hst (lv_room hrm) hdg hcs) hS (fun q _ h => h.elim) (fun q h => h.elim) (fun r u t H1 locs1 ht hvm hw hB hz hk hS1 => by
    have e : H1 = H := ht.symm.trans hB
    rw [e] at hS1 ⊢
    exact kk r locs1 hw hS1)
end MC
theorem gf_of {E : Nat → Nat} {D : va_G} {G : th_G} {H : Heap} {M n : Nat} {lo hi : Int} (hI : th_I (okM E) D G [] H) (hM : G M = some (10, n)) (k : Nat) (hk : k < 52) (hm : mfs[k]? = some (.inr (lo, hi))) : ∃ z : Int32, gf D M k z H ∧ lo ≤ z.toInt ∧ z.toInt ≤ hi := by
  obtain ⟨fs, hO, hok⟩ := om_10 hI hM List.not_mem_nil
  obtain ⟨v, hv, hmv⟩ := hok.2 k hk
  rw [hm] at hmv
  obtain ⟨q, rfl, h1, h2⟩ := hmv
  exact ⟨q, ⟨fs, hO, hv⟩, h1, h2⟩
theorem fr_of {E : Nat → Nat} {D : va_G} {G : th_G} {H : Heap} {M n : Nat} {kd : th_K} (hI : th_I (okM E) D G [] H) (hM : G M = some (10, n)) (k : Nat) (hk : k < 52) (hm : mfs[k]? = some (.inl kd)) : ∃ q : Nat, G q = some kd ∧ fr D M k q H := by
  obtain ⟨fs, hO, hok⟩ := om_10 hI hM List.not_mem_nil
  obtain ⟨v, hv, hmv⟩ := hok.2 k hk
  rw [hm] at hmv
  obtain ⟨q, rfl, h1⟩ := hmv
  exact ⟨q, h1, ⟨fs, hO, hv⟩⟩
theorem wd_get {f : Nat → Int32} {i x : Int32} {X : Int} (h : (f 88).toInt = 32) (e : x = f i.toNatClampNeg) (hi : i.toInt = X) (h0 : 0 ≤ X) : X ≠ 88 ∨ x.toInt = 32 := by
  by_cases hX : X = 88
  · right
    have e1 : i.toNatClampNeg = 88 := by show i.toInt.toNat = 88; omega
    rw [e, e1]; exact h
  · exact Or.inl hX
theorem iv_or {x y z : Int32} {X Y : Int} (hx : x.toInt = X) (hy : y.toInt = Y) (e : z = x ||| y) (h0 : 0 ≤ X) (h1 : X < 1024) (h2 : 0 ≤ Y) (h3 : Y < 1024) : 0 ≤ z.toInt ∧ z.toInt ≤ 1023 := by
  obtain ⟨a, ha, rfl, rfl⟩ := iv_nat hx h0
  obtain ⟨b, hb, rfl, rfl⟩ := iv_nat hy h2
  have hz : z.toBitVec.toNat = a ||| b := by
    rw [e, Int32.toBitVec_or, BitVec.toNat_or, pk_tn (by omega), pk_tn (by omega)]
  have hl : a ||| b < 2 ^ 10 := Nat.or_lt_two_pow (by omega) (by omega)
  have h4 : z.toInt = z.toBitVec.toInt := rfl
  rw [BitVec.toInt_eq_toNat_cond, hz] at h4
  split at h4 <;> omega
theorem iv_1T : ∀ j : Nat, j < 10 → 1 ≤ ((1 : Int32) <<< ((nI j) &&& 31)).toInt ∧ ((1 : Int32) <<< ((nI j) &&& 31)).toInt ≤ 512 := by decide +kernel
theorem iv_1sh {y z : Int32} {X : Int} (hy : y.toInt = X) (e : z = (1 : Int32) <<< (y &&& 31)) (h0 : 0 ≤ X) (h1 : X < 10) : 1 ≤ z.toInt ∧ z.toInt ≤ 512 := by
  obtain ⟨j, hj, rfl, rfl⟩ := iv_nat hy h0
  rw [e]
  exact iv_1T j (by omega)
theorem iv_neg {x z : Int32} {X : Int} (hx : x.toInt = X) (e : z = -x) (h : -2147483648 < X) : z.toInt = -X := by
  have := iv_hi x
  rw [e, Int32.toInt_neg, hx]
  exact rg_bm (by omega) (by omega)
theorem lt_of_rd {f : Nat → Int32} {x i : Int32} {j : Nat} {n : Int} (ex : x = f i.toNatClampNeg) (hij : i.toNatClampNeg = j) (h : x.toInt < n) : (f j).toInt < n := by rw [← hij, ← ex]; exact h
/-! ===== a law written down; images taken and gone back to ===== -/
def LI (f cd F : Nat → Int32) (t TT kk : Nat) : Prop := (∀ j, j ≠ 317 + t → ¬ (323 + 400 * t ≤ j ∧ j < 323 + 400 * t + kk) → ¬ (2723 + 400 * t ≤ j ∧ j < 2723 + 400 * t + kk) → F j = f j) ∧ (F (317 + t)).toInt = (TT : Int) ∧ ∀ j, j < kk → F (323 + 400 * t + j) = cd j
theorem LI.init {f cd : Nat → Int32} {t TT : Nat} {i v : Int32} (hi : i.toInt = 317 + (t : Int)) (hv : v.toInt = (TT : Int)) : LI f cd (upd f i.toNatClampNeg v) t TT 0 := by
  have e : i.toNatClampNeg = 317 + t := by show i.toInt.toNat = _; omega
  rw [e]
  exact ⟨fun j h _ _ => pk_un h, by rw [pk_us]; exact hv, fun j hj => absurd hj (Nat.not_lt_zero _)⟩
theorem LI.step {f cd F : Nat → Int32} {t TT kk : Nat} {i1 i2 v1 v2 k : Int32} (h : LI f cd F t TT kk) (ht : t < 6) (hkk : kk < 400) (h1 : i1.toInt = 323 + 400 * (t : Int) + (kk : Int)) (h2 : i2.toInt = 2723 + 400 * (t : Int) + (kk : Int)) (ev : v1 = cd k.toNatClampNeg) (hk : k.toInt = (kk : Int)) : LI f cd (upd (upd F i1.toNatClampNeg v1) i2.toNatClampNeg v2) t TT (kk + 1) := by
  have e1 : i1.toNatClampNeg = 323 + 400 * t + kk := by show i1.toInt.toNat = _; omega
  have e2 : i2.toNatClampNeg = 2723 + 400 * t + kk := by show i2.toInt.toNat = _; omega
  have e3 : k.toNatClampNeg = kk := by show k.toInt.toNat = _; omega
  rw [e1, e2]
  rw [e3] at ev
  refine ⟨fun j a b c => ?_, ?_, fun j hj => ?_⟩
  · rw [pk_un (by omega), pk_un (by omega)]
    exact h.1 j a (by omega) (by omega)
  · rw [pk_un (by omega), pk_un (by omega)]
    exact h.2.1
  · rw [pk_un (by omega)]
    by_cases e : j = kk
    · subst e
      rw [pk_us]
      exact ev
    · rw [pk_un (by omega)]
      exact h.2.2 j (by omega)
theorem LawOK.congr' {f g : Nat → Int32} {t : Nat} (h0 : g (317 + t) = f (317 + t)) (h : ∀ j, j < kT f t → g (323 + 400 * t + j) = f (323 + 400 * t + j)) (hl : LawOK f t) : LawOK g t := by
  have e1 : kT g t = kT f t := by unfold kT; rw [h0]
  have e2 : kC g t = kC f t := by
    funext j
    unfold kC
    rw [e1]
    by_cases hj : j < kT f t
    · rw [if_pos hj, if_pos hj, h _ hj]
    · rw [if_neg hj, if_neg hj]
  unfold LawOK
  rw [e1, e2]
  exact hl
def rC (cd : Nat → Int32) (TT j : Nat) : Int := if j < TT then (cd j).toInt else 0
theorem LI.done {c : Nat} {f cd F : Nat → Int32} {t TT : Nat} (h : LI f cd F t TT TT) (hk : kOk c f) (ht : t < 6) (hT : TT ≤ 400) (hg : ∃ n, g_lw (rC cd TT) TT n 0) : kOk c F := by
  have e1 : kT F t = TT := by unfold kT; have := h.2.1; omega
  have e2 : kC F t = rC cd TT := by
    funext j
    unfold kC rC
    rw [e1]
    by_cases hj : j < TT
    · rw [if_pos hj, if_pos hj, h.2.2 j hj]
    · rw [if_neg hj, if_neg hj]
  refine ⟨fun j hj => ?_, fun t' ht' => ?_⟩
  · by_cases a : j = 317 + t
    · have := h.2.1
      rw [a, this]
      exact ks_sizes (by omega) (by omega) (by omega) ⟨by omega, by omega⟩
    · by_cases b : 323 ≤ j
      · exact ks_free9 (by omega)
      · rw [h.1 j a (by omega) (by omega)]
        exact hk.1 j hj
  · by_cases a : t' = t
    · subst a
      unfold LawOK
      rw [e1, e2]
      exact Or.inr hg
    · have hs := (hk.size ht').2
      refine (hk.2 t' ht').congr' (h.1 _ (by omega) (by omega) (by omega)) (fun j hj => ?_)
      have : j < 400 := by unfold kT at hj; omega
      refine h.1 _ (by omega) ?_ (by omega)
      rcases Nat.lt_or_gt_of_ne a with a | a
      · have : 400 * t' + 400 ≤ 400 * t := by omega
        omega
      · have : 400 * t + 400 ≤ 400 * t' := by omega
        omega
def II (g f F : Nat → Int32) (k i : Nat) : Prop := (∀ j, ¬ (5123 * k ≤ j ∧ j < 5123 * k + i) → F j = g j) ∧ ∀ j, j < i → F (5123 * k + j) = f j
theorem II.init {g f : Nat → Int32} {k : Nat} : II g f g k 0 := ⟨fun _ _ => rfl, fun _ h => absurd h (Nat.not_lt_zero _)⟩
theorem II.step {g f F : Nat → Int32} {k i : Nat} {a v b : Int32} (h : II g f F k i) (ha : a.toInt = 5123 * (k : Int) + (i : Int)) (hv : v = f b.toNatClampNeg) (hb : b.toInt = (i : Int)) : II g f (upd F a.toNatClampNeg v) k (i + 1) := by
  have e1 : a.toNatClampNeg = 5123 * k + i := by show a.toInt.toNat = _; omega
  have e2 : b.toNatClampNeg = i := by show b.toInt.toNat = _; omega
  rw [e1]; rw [e2] at hv
  refine ⟨fun j hj => ?_, fun j hj => ?_⟩
  · rw [pk_un (by omega)]; exact h.1 j (by omega)
  · by_cases e : j = i
    · subst e; rw [pk_us]; exact hv
    · rw [pk_un (by omega)]; exact h.2 j (by omega)
theorem II.done {c c0 c1 : Nat} {g f F : Nat → Int32} {k : Nat} (h : II g f F k 5123) (hk : k < 2) (hg : iOk c0 c1 g) (hf : kOk c f) : iOk (if k = 0 then c else c0) (if k = 0 then c1 else c) F := by
  rcases Nat.lt_or_ge k 1 with a | a
  · have e : k = 0 := by omega
    subst e
    simp only [if_true]
    exact ⟨hf.congr (fun j hj => by have := h.2 j hj; rw [show 5123 * 0 + j = j by omega] at this; exact this), hg.2.congr (fun j hj => h.1 _ (by omega))⟩
  · have e : k = 1 := by omega
    subst e
    simp only [Nat.one_ne_zero, if_false]
    exact ⟨hg.1.congr (fun j hj => h.1 _ (by omega)), hf.congr (fun j hj => by have := h.2 j hj; rw [show 5123 * 1 + j = 5123 + j by omega] at this; exact this)⟩
def BI (g F : Nat → Int32) (k i : Nat) : Prop := ∀ j, j < i → F j = g (5123 * k + j)
theorem BI.init {g F : Nat → Int32} {k : Nat} : BI g F k 0 := fun _ h => absurd h (Nat.not_lt_zero _)
theorem BI.step {g F : Nat → Int32} {k i : Nat} {a v b : Int32} (h : BI g F k i) (ha : a.toInt = (i : Int)) (hv : v = g b.toNatClampNeg) (hb : b.toInt = 5123 * (k : Int) + (i : Int)) : BI g (upd F a.toNatClampNeg v) k (i + 1) := by
  have e1 : a.toNatClampNeg = i := by show a.toInt.toNat = _; omega
  have e2 : b.toNatClampNeg = 5123 * k + i := by show b.toInt.toNat = _; omega
  rw [e1]; rw [e2] at hv
  intro j hj
  by_cases e : j = i
  · subst e; rw [pk_us]; exact hv
  · rw [pk_un (by omega)]; exact h j (by omega)
theorem BI.done {c0 c1 : Nat} {g F : Nat → Int32} {k : Nat} (h : BI g F k 5123) (hk : k < 2) (hg : iOk c0 c1 g) : kOk (if k = 0 then c0 else c1) F := by
  rcases Nat.lt_or_ge k 1 with a | a
  · have e : k = 0 := by omega
    subst e
    simp only [if_true]
    exact hg.1.congr (fun j hj => by have := h j hj; rw [show 5123 * 0 + j = j by omega] at this; exact this)
  · have e : k = 1 := by omega
    subst e
    simp only [Nat.one_ne_zero, if_false]
    exact hg.2.congr (fun j hj => by have := h j hj; rw [show 5123 * 1 + j = 5123 + j by omega] at this; exact this)
/-! ===== how many places are still untouched ===== -/
def cN (F : Nat → Int32) : Nat → Nat
  | 0 => 0
  | n + 1 => cN F n + (if F n = -1 then 1 else 0)
theorem cN_le {F : Nat → Int32} : ∀ n, cN F n ≤ n
  | 0 => Nat.le_refl _
  | n + 1 => by have := cN_le (F := F) n; unfold cN; split <;> omega
theorem cN_all {F : Nat → Int32} : ∀ n, (∀ j, j < n → F j = -1) → cN F n = n
  | 0, _ => rfl
  | n + 1, h => by unfold cN; rw [cN_all n (fun j hj => h j (by omega)), if_pos (h n (by omega))]
theorem cN_same {F : Nat → Int32} {i : Nat} {v : Int32} : ∀ n, n ≤ i → cN (upd F i v) n = cN F n
  | 0, _ => rfl
  | n + 1, h => by unfold cN; rw [cN_same n (by omega), pk_un (by omega)]
theorem cN_upd {F : Nat → Int32} {i : Nat} {v : Int32} (hv : v ≠ -1) (hi : F i = -1) : ∀ n, i < n → cN (upd F i v) n + 1 = cN F n
  | 0, h => absurd h (Nat.not_lt_zero _)
  | n + 1, h => by
    by_cases e : i = n
    · subst e
      unfold cN
      rw [cN_same i (Nat.le_refl _), pk_us, if_neg hv, if_pos hi]
    · have := cN_upd hv hi n (by omega)
      unfold cN
      rw [pk_un (show n ≠ i from fun z => e z.symm)]
      omega
