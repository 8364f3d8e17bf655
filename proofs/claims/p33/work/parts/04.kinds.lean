/-! ===== kinds of the class's cells ===== -/
def th_tys (E : Nat → Nat) : List (ClassId × FieldType) := [(E 0, .int), (E 1, .long), (E 2, .boolean), (E 3, .byte), (E 4, .object "NineRiver$Law"), (E 5, .object "NineRiver$State")]
/-! ===== ghosts in E by address ===== -/
def eaU (x q : Nat) : Prop := x = 0 ∨ q + 1 = x
def eaV (n x : Nat) (z : Int32) : Prop := n < 32 ∨ z.toInt = (x : Int)
def im_r (a : Nat) : Option Nat := if a = 0 then none else some (a - 1)
theorem im_r0 {a : Nat} (h : a = 0) : im_r a = none := if_pos h
theorem im_rs {a z : Nat} (h : a = z + 1) : im_r a = some z := by
  unfold im_r
  rw [if_neg (by omega), h]
  rfl
theorem eaU_q {x q t : Nat} (h : eaU x q) (e : x = t + 1) : t = q := by
  rcases h with h | h <;> omega
theorem eaV_t {n x : Nat} {z : Int32} (h : eaV n x z) (hn : 32 ≤ n) : z.toInt = (x : Int) := h.resolve_left (by omega)
noncomputable def gI (P : Prop) (c : Nat) : Nat := @ite Nat P (Classical.propDecidable P) (c + 1) c
noncomputable def gD (P : Prop) (c : Nat) : Nat := @ite Nat P (Classical.propDecidable P) (c - 1) c
theorem gI_t {P : Prop} {c : Nat} (h : P) : gI P c = c + 1 := if_pos h
theorem gI_f {P : Prop} {c : Nat} (h : ¬ P) : gI P c = c := if_neg h
theorem gD_t {P : Prop} {c : Nat} (h : P) : gD P c = c - 1 := if_pos h
theorem gD_f {P : Prop} {c : Nat} (h : ¬ P) : gD P c = c := if_neg h
def eu (E : Nat → Nat) (i t : Nat) : Nat → Nat := fun k => if k = i then t else E k
theorem eu_at {E : Nat → Nat} {i t : Nat} : eu E i t i = t := if_pos rfl
theorem eu_ne {E : Nat → Nat} {i j t : Nat} (h : j ≠ i) : eu E i t j = E j := if_neg h
theorem eu_id {E : Nat → Nat} {i t : Nat} (h : t = E i) : eu E i t = E := by
  funext k
  by_cases e : k = i
  · rw [e, eu_at, h]
  · rw [eu_ne e]
theorem eu_eu {E : Nat → Nat} {i t u : Nat} : eu (eu E i t) i u = eu E i u := by
  funext k
  by_cases e : k = i
  · rw [e, eu_at, eu_at]
  · rw [eu_ne e, eu_ne e, eu_ne e]
noncomputable def gB (E : Nat → Nat) (n t u0 u1 : Nat) (x : Int32) : Nat := if x.toInt = 0 ∧ E (32 + 8 * n) ≠ 0 then E (32 + 8 * u0) else if x.toInt = 1 ∧ E (33 + 8 * n) ≠ 0 then E (32 + 8 * u1) else E (32 + 8 * t)
abbrev k_T : Type := (Nat → Nat) → th_G → Nat → Nat → va_E → Prop
def k_0 : k_T := fun E _ a n e => ∃ f : Nat → Int32, e = .inl (E 0, n, .inl f)
def k_1 : k_T := fun E _ a n e => ∃ f : Nat → Int64, e = .inl (E 1, n, .inr (.inl f))
def k_2 : k_T := fun E G a n e => ∃ g : Nat → Option Nat, e = .inl (E 4, n, .inr (.inr (.inr (.inr g)))) ∧ ∀ (j q : Nat), j < n → g j = some q → ∃ m, G q = some (5, m)
def k_3 : k_T := fun E G a n e => ∃ g : Nat → Option Nat, e = .inl (E 5, 2, .inr (.inr (.inr (.inr g)))) ∧ (∀ (j q : Nat), j < 2 → g j = some q → G q = some (6, 0)) ∧ g 0 = im_r (E (32 + 8 * a)) ∧ g 1 = im_r (E (33 + 8 * a))
def k_4 : k_T := fun E G a n e => ∃ (q1 : Nat) (z2 : Int32), e = .inr (4, [.int (nI (n % 32)), .ref q1, .int z2]) ∧ (G q1 = some (0, 4 * (n % 32))) ∧ ((0 : Int) ≤ z2.toInt ∧ z2.toInt ≤ (n % 32)) ∧ (n % 32 ≤ 16 ∧ eaV n (E (32 + 8 * a)) z2)
def k_5 : k_T := fun _ G a n e => ∃ (q1 : Nat) (q2 : Nat) (q3 : Nat) (m3 : Nat), e = .inr (2, [.int (nI n), .ref q1, .ref q2, .ref q3]) ∧ (G q1 = some (0, n)) ∧ (G q2 = some (0, 2 * n + 1)) ∧ (G q3 = some (0, m3) ∧ m3 ≤ 400) ∧ (n ≤ 12)
def k_6 : k_T := fun E G a n e => ∃ (q0 : Nat) (q1 : Nat) (q2 : Nat) (q3 : Nat) (q4 : Nat) (q5 : Nat) (q6 : Nat) (q7 : Nat) (q8 : Nat) (q9 : Nat) (z10 : Int32) (z11 : Int32) (z12 : Int32) (z13 : Int32), e = .inr (6, [.ref q0, .ref q1, .ref q2, .ref q3, .ref q4, .ref q5, .ref q6, .ref q7, .ref q8, .ref q9, .int z10, .int z11, .int z12, .int z13]) ∧ (G q0 = some (0, 10)) ∧ (G q1 = some (0, 96)) ∧ (G q2 = some (4, 8)) ∧ (G q3 = some (4, 6)) ∧ (G q4 = some (4, 6)) ∧ (G q5 = some (4, 16)) ∧ (G q6 = some (4, 42)) ∧ (G q7 = some (4, 6)) ∧ (G q8 = some (4, 6)) ∧ (G q9 = some (2, 6)) ∧ ((0 : Int) ≤ z10.toInt ∧ z10.toInt ≤ 6) ∧ (eaU (E (32 + 8 * a)) q6 ∧ a < q6)
def k_7 : k_T := fun _ G a n e => ∃ (q0 : Nat) (q1 : Nat) (q2 : Nat) (q3 : Nat) (q4 : Nat) (q5 : Nat) (z6 : Int32) (z7 : Int32) (z8 : Int32) (z9 : Int32) (z10 : Int32) (z11 : Int32), e = .inr (3, [.ref q0, .ref q1, .ref q2, .ref q3, .ref q4, .ref q5, .int z6, .int z7, .int z8, .int z9, .int z10, .int z11]) ∧ (G q0 = some (0, 12)) ∧ (G q1 = some (0, 25)) ∧ (G q2 = some (0, 400)) ∧ (G q3 = some (0, 401)) ∧ (G q4 = some (0, 401)) ∧ (G q5 = some (0, 401)) ∧ ((0 : Int) ≤ z6.toInt ∧ z6.toInt ≤ 401) ∧ ((0 : Int) ≤ z7.toInt ∧ z7.toInt ≤ n) ∧ ((0 : Int) ≤ z9.toInt ∧ z9.toInt ≤ 400) ∧ (n ≤ 12)
def k_8 : k_T := fun _ G a n e => ∃ (q0 : Nat) (q1 : Nat) (z2 : Int32), e = .inr (0, [.ref q0, .ref q1, .int z2]) ∧ (G q0 = some (0, 9)) ∧ (G q1 = some (1, 64))
def k_9 : k_T := fun _ G a n e => ∃ (q0 : Nat) (q1 : Nat) (q2 : Nat) (q3 : Nat) (q4 : Nat) (q5 : Nat) (z6 : Int32), e = .inr (7, [.ref q0, .ref q1, .ref q2, .ref q3, .ref q4, .ref q5, .int z6]) ∧ (G q0 = some (6, 0)) ∧ (G q1 = some (8, 0)) ∧ (G q2 = some (0, 2304)) ∧ (G q3 = some (0, 2304)) ∧ (G q4 = some (0, 96)) ∧ (G q5 = some (0, 24))
def k_10 : k_T := fun _ G a n e => ∃ (q0 : Nat) (q1 : Nat) (q2 : Nat) (q3 : Nat), e = .inr (9, [.ref q0, .ref q1, .ref q2, .ref q3]) ∧ (G q0 = some (6, 0)) ∧ (G q1 = some (9, 0)) ∧ (G q2 = some (0, 97)) ∧ (G q3 = some (0, 25))
def k_11 : k_T := fun _ G a n e => ∃ (q0 : Nat) (q1 : Nat) (q2 : Nat) (q3 : Nat) (q4 : Nat) (q5 : Nat) (q6 : Nat) (q7 : Nat) (z8 : Int32) (z9 : Int32) (z10 : Int32), e = .inr (1, [.ref q0, .ref q1, .ref q2, .ref q3, .ref q4, .ref q5, .ref q6, .ref q7, .int z8, .int z9, .int z10]) ∧ (G q0 = some (6, 0)) ∧ (G q1 = some (9, 0)) ∧ (G q2 = some (10, 0)) ∧ (G q3 = some (0, 24)) ∧ (G q4 = some (0, 97)) ∧ (G q5 = some (0, 582)) ∧ (G q6 = some (0, 12)) ∧ (G q7 = some (0, 12))
def k_12 : k_T := fun _ G a n e => ∃ (q0 : Nat) (q1 : Nat) (q2 : Nat) (q3 : Nat) (z4 : Int32) (z5 : Int32), e = .inr (5, [.ref q0, .ref q1, .ref q2, .ref q3, .int z4, .int z5]) ∧ (G q0 = some (6, 0)) ∧ (G q1 = some (10, 0)) ∧ (G q2 = some (0, 2304)) ∧ (G q3 = some (1, 1024))
def k_13 : k_T := fun _ G a n e => ∃ (q0 : Nat) (q1 : Nat) (q2 : Nat) (q3 : Nat) (q4 : Nat) (q5 : Nat), e = .inr (8, [.ref q0, .ref q1, .ref q2, .ref q3, .ref q4, .ref q5]) ∧ (G q0 = some (9, 0)) ∧ (G q1 = some (0, 25)) ∧ (G q2 = some (0, 25)) ∧ (G q3 = some (0, 25)) ∧ (G q4 = some (0, 97)) ∧ (G q5 = some (0, 4))
def k_14 : k_T := fun _ G a n e => ∃ (q0 : Nat) (q1 : Nat) (q2 : Nat) (q3 : Nat) (q4 : Nat) (z5 : Int32), e = .inr (10, [.ref q0, .ref q1, .ref q2, .ref q3, .ref q4, .int z5]) ∧ (G q0 = some (6, 0)) ∧ (G q1 = some (9, 0)) ∧ (G q2 = some (10, 0)) ∧ (G q3 = some (0, 2304)) ∧ (G q4 = some (0, 3))
def k_15 : k_T := fun E G a n e => ∃ (q0 : Nat) (q2 : Nat) (q3 : Nat) (q4 : Nat) (q5 : Nat) (q6 : Nat) (q7 : Nat) (q8 : Nat) (q9 : Nat) (q10 : Nat) (q11 : Nat) (z12 : Int32) (z13 : Int32) (z14 : Int32) (z15 : Int32) (z16 : Int32), e = .inr (11, [.ref q0, .ref n, .ref q2, .ref q3, .ref q4, .ref q5, .ref q6, .ref q7, .ref q8, .ref q9, .ref q10, .ref q11, .int z12, .int z13, .int z14, .int z15, .int z16]) ∧ (G q0 = some (6, 0)) ∧ (G n = some (3, 2)) ∧ (G q2 = some (0, 400)) ∧ (G q3 = some (0, 5)) ∧ (G q4 = some (0, 24)) ∧ (G q5 = some (7, 12)) ∧ (G q6 = some (9, 0)) ∧ (G q7 = some (10, 0)) ∧ (G q8 = some (11, 0)) ∧ (G q9 = some (12, 0)) ∧ (G q10 = some (13, 0)) ∧ (G q11 = some (14, 0)) ∧ ((0 : Int) ≤ z12.toInt ∧ z12.toInt ≤ 400) ∧ (eaU (E (32 + 8 * a)) q0)
def k_all : List k_T := [k_0, k_1, k_2, k_3, k_4, k_5, k_6, k_7, k_8, k_9, k_10, k_11, k_12, k_13, k_14, k_15]
def okC (E : Nat → Nat) (G : th_G) (a : Nat) (k : th_K) (e : va_E) : Prop := ∃ P : k_T, k_all[k.1]? = some P ∧ P E G a k.2 e
section KINDS
variable {E : Nat → Nat} {D : va_G} {G : th_G} {X : List Nat} {H : Heap} {a n : Nat}
theorem op_0 (hI : th_I (okC E) D G X H) (ha : G a = some (0, n)) (hX : a ∉ X) : ∃ f : Nat → Int32, va_at D vwCl (a, .inl (E 0, n, .inl f)) H := by
  obtain ⟨e, h1, P, h2, h3⟩ := hI a _ ha hX
  cases (Option.some.inj ((show k_all[0]? = some k_0 from rfl).symm.trans h2))
  obtain ⟨f, rfl⟩ := h3
  exact ⟨f, h1⟩
theorem op_1 (hI : th_I (okC E) D G X H) (ha : G a = some (1, n)) (hX : a ∉ X) : ∃ f : Nat → Int64, va_at D vwCl (a, .inl (E 1, n, .inr (.inl f))) H := by
  obtain ⟨e, h1, P, h2, h3⟩ := hI a _ ha hX
  cases (Option.some.inj ((show k_all[1]? = some k_1 from rfl).symm.trans h2))
  obtain ⟨f, rfl⟩ := h3
  exact ⟨f, h1⟩
theorem op_2 (hI : th_I (okC E) D G X H) (ha : G a = some (2, n)) (hX : a ∉ X) : ∃ g : Nat → Option Nat, va_at D vwCl (a, .inl (E 4, n, .inr (.inr (.inr (.inr g))))) H ∧ ∀ (j q : Nat), j < n → g j = some q → ∃ m, G q = some (5, m) := by
  obtain ⟨e, h1, P, h2, h3⟩ := hI a _ ha hX
  cases (Option.some.inj ((show k_all[2]? = some k_2 from rfl).symm.trans h2))
  obtain ⟨g, rfl, hg⟩ := h3
  exact ⟨g, h1, hg⟩
theorem op_3 (hI : th_I (okC E) D G X H) (ha : G a = some (3, n)) (hX : a ∉ X) : ∃ g : Nat → Option Nat, va_at D vwCl (a, .inl (E 5, 2, .inr (.inr (.inr (.inr g))))) H ∧ (∀ (j q : Nat), j < 2 → g j = some q → G q = some (6, 0)) ∧ g 0 = im_r (E (32 + 8 * a)) ∧ g 1 = im_r (E (33 + 8 * a)) := by
  obtain ⟨e, h1, P, h2, h3⟩ := hI a _ ha hX
  cases (Option.some.inj ((show k_all[3]? = some k_3 from rfl).symm.trans h2))
  obtain ⟨g, rfl, hg, h4, h5⟩ := h3
  exact ⟨g, h1, hg, h4, h5⟩
theorem op_4 (hI : th_I (okC E) D G X H) (ha : G a = some (4, n)) (hX : a ∉ X) : ∃ (q1 : Nat) (z2 : Int32), va_at D vwCl (a, .inr (4, [.int (nI (n % 32)), .ref q1, .int z2])) H ∧ (G q1 = some (0, 4 * (n % 32))) ∧ ((0 : Int) ≤ z2.toInt ∧ z2.toInt ≤ (n % 32)) ∧ (n % 32 ≤ 16 ∧ eaV n (E (32 + 8 * a)) z2) := by
  obtain ⟨e, h1, P, h2, h3⟩ := hI a _ ha hX
  cases (Option.some.inj ((show k_all[4]? = some k_4 from rfl).symm.trans h2))
  obtain ⟨q1, z2, rfl, c0, c1, c2⟩ := h3
  exact ⟨q1, z2, h1, c0, c1, c2⟩
theorem rc_4 (hI : th_I (okC E) D G X H) (ha : G a = some (4, n)) (hX : a ∉ X) : ∃ fs, va_at D vwCl (a, .inr (4, fs)) H := by
  obtain ⟨q1, z2, h, -⟩ := op_4 hI ha hX
  exact ⟨_, h⟩
theorem op_5 (hI : th_I (okC E) D G X H) (ha : G a = some (5, n)) (hX : a ∉ X) : ∃ (q1 : Nat) (q2 : Nat) (q3 : Nat) (m3 : Nat), va_at D vwCl (a, .inr (2, [.int (nI n), .ref q1, .ref q2, .ref q3])) H ∧ (G q1 = some (0, n)) ∧ (G q2 = some (0, 2 * n + 1)) ∧ (G q3 = some (0, m3) ∧ m3 ≤ 400) ∧ (n ≤ 12) := by
  obtain ⟨e, h1, P, h2, h3⟩ := hI a _ ha hX
  cases (Option.some.inj ((show k_all[5]? = some k_5 from rfl).symm.trans h2))
  obtain ⟨q1, q2, q3, m3, rfl, c0, c1, c2, c3⟩ := h3
  exact ⟨q1, q2, q3, m3, h1, c0, c1, c2, c3⟩
theorem rc_5 (hI : th_I (okC E) D G X H) (ha : G a = some (5, n)) (hX : a ∉ X) : ∃ fs, va_at D vwCl (a, .inr (2, fs)) H := by
  obtain ⟨q1, q2, q3, m3, h, -⟩ := op_5 hI ha hX
  exact ⟨_, h⟩
theorem op_6 (hI : th_I (okC E) D G X H) (ha : G a = some (6, n)) (hX : a ∉ X) : ∃ (q0 : Nat) (q1 : Nat) (q2 : Nat) (q3 : Nat) (q4 : Nat) (q5 : Nat) (q6 : Nat) (q7 : Nat) (q8 : Nat) (q9 : Nat) (z10 : Int32) (z11 : Int32) (z12 : Int32) (z13 : Int32), va_at D vwCl (a, .inr (6, [.ref q0, .ref q1, .ref q2, .ref q3, .ref q4, .ref q5, .ref q6, .ref q7, .ref q8, .ref q9, .int z10, .int z11, .int z12, .int z13])) H ∧ (G q0 = some (0, 10)) ∧ (G q1 = some (0, 96)) ∧ (G q2 = some (4, 8)) ∧ (G q3 = some (4, 6)) ∧ (G q4 = some (4, 6)) ∧ (G q5 = some (4, 16)) ∧ (G q6 = some (4, 42)) ∧ (G q7 = some (4, 6)) ∧ (G q8 = some (4, 6)) ∧ (G q9 = some (2, 6)) ∧ ((0 : Int) ≤ z10.toInt ∧ z10.toInt ≤ 6) ∧ (eaU (E (32 + 8 * a)) q6 ∧ a < q6) := by
  obtain ⟨e, h1, P, h2, h3⟩ := hI a _ ha hX
  cases (Option.some.inj ((show k_all[6]? = some k_6 from rfl).symm.trans h2))
  obtain ⟨q0, q1, q2, q3, q4, q5, q6, q7, q8, q9, z10, z11, z12, z13, rfl, c0, c1, c2, c3, c4, c5, c6, c7, c8, c9, c10, c11⟩ := h3
  exact ⟨q0, q1, q2, q3, q4, q5, q6, q7, q8, q9, z10, z11, z12, z13, h1, c0, c1, c2, c3, c4, c5, c6, c7, c8, c9, c10, c11⟩
theorem rc_6 (hI : th_I (okC E) D G X H) (ha : G a = some (6, n)) (hX : a ∉ X) : ∃ fs, va_at D vwCl (a, .inr (6, fs)) H := by
  obtain ⟨q0, q1, q2, q3, q4, q5, q6, q7, q8, q9, z10, z11, z12, z13, h, -⟩ := op_6 hI ha hX
  exact ⟨_, h⟩
theorem op_7 (hI : th_I (okC E) D G X H) (ha : G a = some (7, n)) (hX : a ∉ X) : ∃ (q0 : Nat) (q1 : Nat) (q2 : Nat) (q3 : Nat) (q4 : Nat) (q5 : Nat) (z6 : Int32) (z7 : Int32) (z8 : Int32) (z9 : Int32) (z10 : Int32) (z11 : Int32), va_at D vwCl (a, .inr (3, [.ref q0, .ref q1, .ref q2, .ref q3, .ref q4, .ref q5, .int z6, .int z7, .int z8, .int z9, .int z10, .int z11])) H ∧ (G q0 = some (0, 12)) ∧ (G q1 = some (0, 25)) ∧ (G q2 = some (0, 400)) ∧ (G q3 = some (0, 401)) ∧ (G q4 = some (0, 401)) ∧ (G q5 = some (0, 401)) ∧ ((0 : Int) ≤ z6.toInt ∧ z6.toInt ≤ 401) ∧ ((0 : Int) ≤ z7.toInt ∧ z7.toInt ≤ n) ∧ ((0 : Int) ≤ z9.toInt ∧ z9.toInt ≤ 400) ∧ (n ≤ 12) := by
  obtain ⟨e, h1, P, h2, h3⟩ := hI a _ ha hX
  cases (Option.some.inj ((show k_all[7]? = some k_7 from rfl).symm.trans h2))
  obtain ⟨q0, q1, q2, q3, q4, q5, z6, z7, z8, z9, z10, z11, rfl, c0, c1, c2, c3, c4, c5, c6, c7, c8, c9⟩ := h3
  exact ⟨q0, q1, q2, q3, q4, q5, z6, z7, z8, z9, z10, z11, h1, c0, c1, c2, c3, c4, c5, c6, c7, c8, c9⟩
theorem rc_7 (hI : th_I (okC E) D G X H) (ha : G a = some (7, n)) (hX : a ∉ X) : ∃ fs, va_at D vwCl (a, .inr (3, fs)) H := by
  obtain ⟨q0, q1, q2, q3, q4, q5, z6, z7, z8, z9, z10, z11, h, -⟩ := op_7 hI ha hX
  exact ⟨_, h⟩
theorem op_8 (hI : th_I (okC E) D G X H) (ha : G a = some (8, n)) (hX : a ∉ X) : ∃ (q0 : Nat) (q1 : Nat) (z2 : Int32), va_at D vwCl (a, .inr (0, [.ref q0, .ref q1, .int z2])) H ∧ (G q0 = some (0, 9)) ∧ (G q1 = some (1, 64)) := by
  obtain ⟨e, h1, P, h2, h3⟩ := hI a _ ha hX
  cases (Option.some.inj ((show k_all[8]? = some k_8 from rfl).symm.trans h2))
  obtain ⟨q0, q1, z2, rfl, c0, c1⟩ := h3
  exact ⟨q0, q1, z2, h1, c0, c1⟩
theorem rc_8 (hI : th_I (okC E) D G X H) (ha : G a = some (8, n)) (hX : a ∉ X) : ∃ fs, va_at D vwCl (a, .inr (0, fs)) H := by
  obtain ⟨q0, q1, z2, h, -⟩ := op_8 hI ha hX
  exact ⟨_, h⟩
theorem op_9 (hI : th_I (okC E) D G X H) (ha : G a = some (9, n)) (hX : a ∉ X) : ∃ (q0 : Nat) (q1 : Nat) (q2 : Nat) (q3 : Nat) (q4 : Nat) (q5 : Nat) (z6 : Int32), va_at D vwCl (a, .inr (7, [.ref q0, .ref q1, .ref q2, .ref q3, .ref q4, .ref q5, .int z6])) H ∧ (G q0 = some (6, 0)) ∧ (G q1 = some (8, 0)) ∧ (G q2 = some (0, 2304)) ∧ (G q3 = some (0, 2304)) ∧ (G q4 = some (0, 96)) ∧ (G q5 = some (0, 24)) := by
  obtain ⟨e, h1, P, h2, h3⟩ := hI a _ ha hX
  cases (Option.some.inj ((show k_all[9]? = some k_9 from rfl).symm.trans h2))
  obtain ⟨q0, q1, q2, q3, q4, q5, z6, rfl, c0, c1, c2, c3, c4, c5⟩ := h3
  exact ⟨q0, q1, q2, q3, q4, q5, z6, h1, c0, c1, c2, c3, c4, c5⟩
theorem rc_9 (hI : th_I (okC E) D G X H) (ha : G a = some (9, n)) (hX : a ∉ X) : ∃ fs, va_at D vwCl (a, .inr (7, fs)) H := by
  obtain ⟨q0, q1, q2, q3, q4, q5, z6, h, -⟩ := op_9 hI ha hX
  exact ⟨_, h⟩
theorem op_10 (hI : th_I (okC E) D G X H) (ha : G a = some (10, n)) (hX : a ∉ X) : ∃ (q0 : Nat) (q1 : Nat) (q2 : Nat) (q3 : Nat), va_at D vwCl (a, .inr (9, [.ref q0, .ref q1, .ref q2, .ref q3])) H ∧ (G q0 = some (6, 0)) ∧ (G q1 = some (9, 0)) ∧ (G q2 = some (0, 97)) ∧ (G q3 = some (0, 25)) := by
  obtain ⟨e, h1, P, h2, h3⟩ := hI a _ ha hX
  cases (Option.some.inj ((show k_all[10]? = some k_10 from rfl).symm.trans h2))
  obtain ⟨q0, q1, q2, q3, rfl, c0, c1, c2, c3⟩ := h3
  exact ⟨q0, q1, q2, q3, h1, c0, c1, c2, c3⟩
theorem rc_10 (hI : th_I (okC E) D G X H) (ha : G a = some (10, n)) (hX : a ∉ X) : ∃ fs, va_at D vwCl (a, .inr (9, fs)) H := by
  obtain ⟨q0, q1, q2, q3, h, -⟩ := op_10 hI ha hX
  exact ⟨_, h⟩
theorem op_11 (hI : th_I (okC E) D G X H) (ha : G a = some (11, n)) (hX : a ∉ X) : ∃ (q0 : Nat) (q1 : Nat) (q2 : Nat) (q3 : Nat) (q4 : Nat) (q5 : Nat) (q6 : Nat) (q7 : Nat) (z8 : Int32) (z9 : Int32) (z10 : Int32), va_at D vwCl (a, .inr (1, [.ref q0, .ref q1, .ref q2, .ref q3, .ref q4, .ref q5, .ref q6, .ref q7, .int z8, .int z9, .int z10])) H ∧ (G q0 = some (6, 0)) ∧ (G q1 = some (9, 0)) ∧ (G q2 = some (10, 0)) ∧ (G q3 = some (0, 24)) ∧ (G q4 = some (0, 97)) ∧ (G q5 = some (0, 582)) ∧ (G q6 = some (0, 12)) ∧ (G q7 = some (0, 12)) := by
  obtain ⟨e, h1, P, h2, h3⟩ := hI a _ ha hX
  cases (Option.some.inj ((show k_all[11]? = some k_11 from rfl).symm.trans h2))
  obtain ⟨q0, q1, q2, q3, q4, q5, q6, q7, z8, z9, z10, rfl, c0, c1, c2, c3, c4, c5, c6, c7⟩ := h3
  exact ⟨q0, q1, q2, q3, q4, q5, q6, q7, z8, z9, z10, h1, c0, c1, c2, c3, c4, c5, c6, c7⟩
theorem rc_11 (hI : th_I (okC E) D G X H) (ha : G a = some (11, n)) (hX : a ∉ X) : ∃ fs, va_at D vwCl (a, .inr (1, fs)) H := by
  obtain ⟨q0, q1, q2, q3, q4, q5, q6, q7, z8, z9, z10, h, -⟩ := op_11 hI ha hX
  exact ⟨_, h⟩
theorem op_12 (hI : th_I (okC E) D G X H) (ha : G a = some (12, n)) (hX : a ∉ X) : ∃ (q0 : Nat) (q1 : Nat) (q2 : Nat) (q3 : Nat) (z4 : Int32) (z5 : Int32), va_at D vwCl (a, .inr (5, [.ref q0, .ref q1, .ref q2, .ref q3, .int z4, .int z5])) H ∧ (G q0 = some (6, 0)) ∧ (G q1 = some (10, 0)) ∧ (G q2 = some (0, 2304)) ∧ (G q3 = some (1, 1024)) := by
  obtain ⟨e, h1, P, h2, h3⟩ := hI a _ ha hX
  cases (Option.some.inj ((show k_all[12]? = some k_12 from rfl).symm.trans h2))
  obtain ⟨q0, q1, q2, q3, z4, z5, rfl, c0, c1, c2, c3⟩ := h3
  exact ⟨q0, q1, q2, q3, z4, z5, h1, c0, c1, c2, c3⟩
theorem rc_12 (hI : th_I (okC E) D G X H) (ha : G a = some (12, n)) (hX : a ∉ X) : ∃ fs, va_at D vwCl (a, .inr (5, fs)) H := by
  obtain ⟨q0, q1, q2, q3, z4, z5, h, -⟩ := op_12 hI ha hX
  exact ⟨_, h⟩
theorem op_13 (hI : th_I (okC E) D G X H) (ha : G a = some (13, n)) (hX : a ∉ X) : ∃ (q0 : Nat) (q1 : Nat) (q2 : Nat) (q3 : Nat) (q4 : Nat) (q5 : Nat), va_at D vwCl (a, .inr (8, [.ref q0, .ref q1, .ref q2, .ref q3, .ref q4, .ref q5])) H ∧ (G q0 = some (9, 0)) ∧ (G q1 = some (0, 25)) ∧ (G q2 = some (0, 25)) ∧ (G q3 = some (0, 25)) ∧ (G q4 = some (0, 97)) ∧ (G q5 = some (0, 4)) := by
  obtain ⟨e, h1, P, h2, h3⟩ := hI a _ ha hX
  cases (Option.some.inj ((show k_all[13]? = some k_13 from rfl).symm.trans h2))
  obtain ⟨q0, q1, q2, q3, q4, q5, rfl, c0, c1, c2, c3, c4, c5⟩ := h3
  exact ⟨q0, q1, q2, q3, q4, q5, h1, c0, c1, c2, c3, c4, c5⟩
theorem rc_13 (hI : th_I (okC E) D G X H) (ha : G a = some (13, n)) (hX : a ∉ X) : ∃ fs, va_at D vwCl (a, .inr (8, fs)) H := by
  obtain ⟨q0, q1, q2, q3, q4, q5, h, -⟩ := op_13 hI ha hX
  exact ⟨_, h⟩
theorem op_14 (hI : th_I (okC E) D G X H) (ha : G a = some (14, n)) (hX : a ∉ X) : ∃ (q0 : Nat) (q1 : Nat) (q2 : Nat) (q3 : Nat) (q4 : Nat) (z5 : Int32), va_at D vwCl (a, .inr (10, [.ref q0, .ref q1, .ref q2, .ref q3, .ref q4, .int z5])) H ∧ (G q0 = some (6, 0)) ∧ (G q1 = some (9, 0)) ∧ (G q2 = some (10, 0)) ∧ (G q3 = some (0, 2304)) ∧ (G q4 = some (0, 3)) := by
  obtain ⟨e, h1, P, h2, h3⟩ := hI a _ ha hX
  cases (Option.some.inj ((show k_all[14]? = some k_14 from rfl).symm.trans h2))
  obtain ⟨q0, q1, q2, q3, q4, z5, rfl, c0, c1, c2, c3, c4⟩ := h3
  exact ⟨q0, q1, q2, q3, q4, z5, h1, c0, c1, c2, c3, c4⟩
theorem rc_14 (hI : th_I (okC E) D G X H) (ha : G a = some (14, n)) (hX : a ∉ X) : ∃ fs, va_at D vwCl (a, .inr (10, fs)) H := by
  obtain ⟨q0, q1, q2, q3, q4, z5, h, -⟩ := op_14 hI ha hX
  exact ⟨_, h⟩
theorem op_15 (hI : th_I (okC E) D G X H) (ha : G a = some (15, n)) (hX : a ∉ X) : ∃ (q0 : Nat) (q2 : Nat) (q3 : Nat) (q4 : Nat) (q5 : Nat) (q6 : Nat) (q7 : Nat) (q8 : Nat) (q9 : Nat) (q10 : Nat) (q11 : Nat) (z12 : Int32) (z13 : Int32) (z14 : Int32) (z15 : Int32) (z16 : Int32), va_at D vwCl (a, .inr (11, [.ref q0, .ref n, .ref q2, .ref q3, .ref q4, .ref q5, .ref q6, .ref q7, .ref q8, .ref q9, .ref q10, .ref q11, .int z12, .int z13, .int z14, .int z15, .int z16])) H ∧ (G q0 = some (6, 0)) ∧ (G n = some (3, 2)) ∧ (G q2 = some (0, 400)) ∧ (G q3 = some (0, 5)) ∧ (G q4 = some (0, 24)) ∧ (G q5 = some (7, 12)) ∧ (G q6 = some (9, 0)) ∧ (G q7 = some (10, 0)) ∧ (G q8 = some (11, 0)) ∧ (G q9 = some (12, 0)) ∧ (G q10 = some (13, 0)) ∧ (G q11 = some (14, 0)) ∧ ((0 : Int) ≤ z12.toInt ∧ z12.toInt ≤ 400) ∧ (eaU (E (32 + 8 * a)) q0) := by
  obtain ⟨e, h1, P, h2, h3⟩ := hI a _ ha hX
  cases (Option.some.inj ((show k_all[15]? = some k_15 from rfl).symm.trans h2))
  obtain ⟨q0, q2, q3, q4, q5, q6, q7, q8, q9, q10, q11, z12, z13, z14, z15, z16, rfl, c0, c1, c2, c3, c4, c5, c6, c7, c8, c9, c10, c11, c12, c13⟩ := h3
  exact ⟨q0, q2, q3, q4, q5, q6, q7, q8, q9, q10, q11, z12, z13, z14, z15, z16, h1, c0, c1, c2, c3, c4, c5, c6, c7, c8, c9, c10, c11, c12, c13⟩
theorem rc_15 (hI : th_I (okC E) D G X H) (ha : G a = some (15, n)) (hX : a ∉ X) : ∃ fs, va_at D vwCl (a, .inr (11, fs)) H := by
  obtain ⟨q0, q2, q3, q4, q5, q6, q7, q8, q9, q10, q11, z12, z13, z14, z15, z16, h, -⟩ := op_15 hI ha hX
  exact ⟨_, h⟩
theorem th_upN {P : Nat → Prop} {g : Nat → Option Nat} {i n : Nat} (h : ∀ (j q : Nat), j < n → g j = some q → P q) : ∀ (j q : Nat), j < n → va_up g i none j = some q → P q := fun j q hj hq => by
  by_cases e : j = i
  · simp [va_up, e] at hq
  · simp [va_up, e] at hq; exact h j q hj hq
theorem th_upS {P : Nat → Prop} {g : Nat → Option Nat} {i n v : Nat} (h : ∀ (j q : Nat), j < n → g j = some q → P q) (hv : P v) : ∀ (j q : Nat), j < n → va_up g i (some v) j = some q → P q := fun j q hj hq => by
  by_cases e : j = i
  · simp [va_up, e] at hq; rw [← hq]; exact hv
  · simp [va_up, e] at hq; exact h j q hj hq
theorem th_upSL {g : Nat → Option Nat} {i n v k : Nat} (h : ∀ (j q : Nat), j < n → g j = some q → ∃ m, G q = some (5, m)) (hv : G v = some (5, k)) : ∀ (j q : Nat), j < n → va_up g i (some v) j = some q → ∃ m, G q = some (5, m) := th_upS (P := fun q => ∃ m, G q = some (5, m)) h ⟨k, hv⟩
theorem ok_2 {g : Nat → Option Nat} (h : ∀ (j q : Nat), j < n → g j = some q → ∃ m, G q = some (5, m)) : okC E G a (2, n) (.inl (E 4, n, .inr (.inr (.inr (.inr g))))) := ⟨k_2, rfl, g, rfl, h⟩
theorem ok_3 {g : Nat → Option Nat} (h : ∀ (j q : Nat), j < 2 → g j = some q → G q = some (6, 0)) (h2 : g 0 = im_r (E (32 + 8 * a)) ∧ g 1 = im_r (E (33 + 8 * a))) : okC E G a (3, n) (.inl (E 5, 2, .inr (.inr (.inr (.inr g))))) := ⟨k_3, rfl, g, rfl, h, h2⟩
theorem ok_0 {f : Nat → Int32} : okC E G a (0, n) (.inl (E 0, n, .inl f)) := ⟨k_0, rfl, f, rfl⟩
theorem ok_1 {f : Nat → Int64} : okC E G a (1, n) (.inl (E 1, n, .inr (.inl f))) := ⟨k_1, rfl, f, rfl⟩
theorem ok_4 {q1 : Nat} {z2 : Int32} (c0 : G q1 = some (0, 4 * (n % 32))) (c1 : (0 : Int) ≤ z2.toInt ∧ z2.toInt ≤ (n % 32)) (c2 : n % 32 ≤ 16 ∧ eaV n (E (32 + 8 * a)) z2) : okC E G a (4, n) (.inr (4, [.int (nI (n % 32)), .ref q1, .int z2])) := ⟨k_4, rfl, q1, z2, rfl, c0, c1, c2⟩
theorem ok_5 {q1 q2 q3 m3 : Nat} (c0 : G q1 = some (0, n)) (c1 : G q2 = some (0, 2 * n + 1)) (c2 : G q3 = some (0, m3) ∧ m3 ≤ 400) (c3 : n ≤ 12) : okC E G a (5, n) (.inr (2, [.int (nI n), .ref q1, .ref q2, .ref q3])) := ⟨k_5, rfl, q1, q2, q3, m3, rfl, c0, c1, c2, c3⟩
theorem ok_6 {q0 q1 q2 q3 q4 q5 q6 q7 q8 q9 : Nat} {z10 z11 z12 z13 : Int32} (c0 : G q0 = some (0, 10)) (c1 : G q1 = some (0, 96)) (c2 : G q2 = some (4, 8)) (c3 : G q3 = some (4, 6)) (c4 : G q4 = some (4, 6)) (c5 : G q5 = some (4, 16)) (c6 : G q6 = some (4, 42)) (c7 : G q7 = some (4, 6)) (c8 : G q8 = some (4, 6)) (c9 : G q9 = some (2, 6)) (c10 : (0 : Int) ≤ z10.toInt ∧ z10.toInt ≤ 6) (c11 : eaU (E (32 + 8 * a)) q6 ∧ a < q6) : okC E G a (6, n) (.inr (6, [.ref q0, .ref q1, .ref q2, .ref q3, .ref q4, .ref q5, .ref q6, .ref q7, .ref q8, .ref q9, .int z10, .int z11, .int z12, .int z13])) := ⟨k_6, rfl, q0, q1, q2, q3, q4, q5, q6, q7, q8, q9, z10, z11, z12, z13, rfl, c0, c1, c2, c3, c4, c5, c6, c7, c8, c9, c10, c11⟩
theorem ok_7 {q0 q1 q2 q3 q4 q5 : Nat} {z6 z7 z8 z9 z10 z11 : Int32} (c0 : G q0 = some (0, 12)) (c1 : G q1 = some (0, 25)) (c2 : G q2 = some (0, 400)) (c3 : G q3 = some (0, 401)) (c4 : G q4 = some (0, 401)) (c5 : G q5 = some (0, 401)) (c6 : (0 : Int) ≤ z6.toInt ∧ z6.toInt ≤ 401) (c7 : (0 : Int) ≤ z7.toInt ∧ z7.toInt ≤ n) (c8 : (0 : Int) ≤ z9.toInt ∧ z9.toInt ≤ 400) (c9 : n ≤ 12) : okC E G a (7, n) (.inr (3, [.ref q0, .ref q1, .ref q2, .ref q3, .ref q4, .ref q5, .int z6, .int z7, .int z8, .int z9, .int z10, .int z11])) := ⟨k_7, rfl, q0, q1, q2, q3, q4, q5, z6, z7, z8, z9, z10, z11, rfl, c0, c1, c2, c3, c4, c5, c6, c7, c8, c9⟩
theorem ok_8 {q0 q1 : Nat} {z2 : Int32} (c0 : G q0 = some (0, 9)) (c1 : G q1 = some (1, 64)) : okC E G a (8, n) (.inr (0, [.ref q0, .ref q1, .int z2])) := ⟨k_8, rfl, q0, q1, z2, rfl, c0, c1⟩
theorem ok_9 {q0 q1 q2 q3 q4 q5 : Nat} {z6 : Int32} (c0 : G q0 = some (6, 0)) (c1 : G q1 = some (8, 0)) (c2 : G q2 = some (0, 2304)) (c3 : G q3 = some (0, 2304)) (c4 : G q4 = some (0, 96)) (c5 : G q5 = some (0, 24)) : okC E G a (9, n) (.inr (7, [.ref q0, .ref q1, .ref q2, .ref q3, .ref q4, .ref q5, .int z6])) := ⟨k_9, rfl, q0, q1, q2, q3, q4, q5, z6, rfl, c0, c1, c2, c3, c4, c5⟩
theorem ok_10 {q0 q1 q2 q3 : Nat} (c0 : G q0 = some (6, 0)) (c1 : G q1 = some (9, 0)) (c2 : G q2 = some (0, 97)) (c3 : G q3 = some (0, 25)) : okC E G a (10, n) (.inr (9, [.ref q0, .ref q1, .ref q2, .ref q3])) := ⟨k_10, rfl, q0, q1, q2, q3, rfl, c0, c1, c2, c3⟩
theorem ok_11 {q0 q1 q2 q3 q4 q5 q6 q7 : Nat} {z8 z9 z10 : Int32} (c0 : G q0 = some (6, 0)) (c1 : G q1 = some (9, 0)) (c2 : G q2 = some (10, 0)) (c3 : G q3 = some (0, 24)) (c4 : G q4 = some (0, 97)) (c5 : G q5 = some (0, 582)) (c6 : G q6 = some (0, 12)) (c7 : G q7 = some (0, 12)) : okC E G a (11, n) (.inr (1, [.ref q0, .ref q1, .ref q2, .ref q3, .ref q4, .ref q5, .ref q6, .ref q7, .int z8, .int z9, .int z10])) := ⟨k_11, rfl, q0, q1, q2, q3, q4, q5, q6, q7, z8, z9, z10, rfl, c0, c1, c2, c3, c4, c5, c6, c7⟩
theorem ok_12 {q0 q1 q2 q3 : Nat} {z4 z5 : Int32} (c0 : G q0 = some (6, 0)) (c1 : G q1 = some (10, 0)) (c2 : G q2 = some (0, 2304)) (c3 : G q3 = some (1, 1024)) : okC E G a (12, n) (.inr (5, [.ref q0, .ref q1, .ref q2, .ref q3, .int z4, .int z5])) := ⟨k_12, rfl, q0, q1, q2, q3, z4, z5, rfl, c0, c1, c2, c3⟩
theorem ok_13 {q0 q1 q2 q3 q4 q5 : Nat} (c0 : G q0 = some (9, 0)) (c1 : G q1 = some (0, 25)) (c2 : G q2 = some (0, 25)) (c3 : G q3 = some (0, 25)) (c4 : G q4 = some (0, 97)) (c5 : G q5 = some (0, 4)) : okC E G a (13, n) (.inr (8, [.ref q0, .ref q1, .ref q2, .ref q3, .ref q4, .ref q5])) := ⟨k_13, rfl, q0, q1, q2, q3, q4, q5, rfl, c0, c1, c2, c3, c4, c5⟩
theorem ok_14 {q0 q1 q2 q3 q4 : Nat} {z5 : Int32} (c0 : G q0 = some (6, 0)) (c1 : G q1 = some (9, 0)) (c2 : G q2 = some (10, 0)) (c3 : G q3 = some (0, 2304)) (c4 : G q4 = some (0, 3)) : okC E G a (14, n) (.inr (10, [.ref q0, .ref q1, .ref q2, .ref q3, .ref q4, .int z5])) := ⟨k_14, rfl, q0, q1, q2, q3, q4, z5, rfl, c0, c1, c2, c3, c4⟩
theorem ok_15 {q0 q2 q3 q4 q5 q6 q7 q8 q9 q10 q11 : Nat} {z12 z13 z14 z15 z16 : Int32} (c0 : G q0 = some (6, 0)) (c1 : G n = some (3, 2)) (c2 : G q2 = some (0, 400)) (c3 : G q3 = some (0, 5)) (c4 : G q4 = some (0, 24)) (c5 : G q5 = some (7, 12)) (c6 : G q6 = some (9, 0)) (c7 : G q7 = some (10, 0)) (c8 : G q8 = some (11, 0)) (c9 : G q9 = some (12, 0)) (c10 : G q10 = some (13, 0)) (c11 : G q11 = some (14, 0)) (c12 : (0 : Int) ≤ z12.toInt ∧ z12.toInt ≤ 400) (c13 : eaU (E (32 + 8 * a)) q0) : okC E G a (15, n) (.inr (11, [.ref q0, .ref n, .ref q2, .ref q3, .ref q4, .ref q5, .ref q6, .ref q7, .ref q8, .ref q9, .ref q10, .ref q11, .int z12, .int z13, .int z14, .int z15, .int z16])) := ⟨k_15, rfl, q0, q2, q3, q4, q5, q6, q7, q8, q9, q10, q11, z12, z13, z14, z15, z16, rfl, c0, c1, c2, c3, c4, c5, c6, c7, c8, c9, c10, c11, c12, c13⟩
end KINDS
theorem im_at {x : Int32} (h0 : 0 ≤ x.toInt) (h1 : x.toInt < 2) : (x.toInt = 0 ∧ x.toNatClampNeg = 0) ∨ (x.toInt = 1 ∧ x.toNatClampNeg = 1) := by
  rcases (show x.toInt = 0 ∨ x.toInt = 1 by omega) with h | h
  · exact Or.inl ⟨h, by show x.toInt.toNat = 0; omega⟩
  · exact Or.inr ⟨h, by show x.toInt.toNat = 1; omega⟩
theorem okC_eq {E E' : Nat → Nat} {G : th_G} {a : Nat} {k : th_K} {e : va_E} (h0 : ∀ j : Nat, j < 6 → E' j = E j) (h1 : ∀ j : Nat, j < 8 → E' (32 + j + 8 * a) = E (32 + j + 8 * a)) (h : okC E G a k e) : okC E' G a k e := by
  have a0 : E' 0 = E 0 := h0 0 (by decide)
  have a1 : E' 1 = E 1 := h0 1 (by decide)
  have a2 : E' 2 = E 2 := h0 2 (by decide)
  have a3 : E' 3 = E 3 := h0 3 (by decide)
  have a4 : E' 4 = E 4 := h0 4 (by decide)
  have a5 : E' 5 = E 5 := h0 5 (by decide)
  have b0 : E' (32 + 8 * a) = E (32 + 8 * a) := h1 0 (by decide)
  have b1 : E' (33 + 8 * a) = E (33 + 8 * a) := h1 1 (by decide)
  obtain ⟨P, hP, h⟩ := h
  refine ⟨P, hP, ?_⟩
  have hm : P ∈ k_all := List.mem_of_getElem? hP
  simp only [k_all, List.mem_cons, List.not_mem_nil, or_false] at hm
  rcases hm with rfl | rfl | rfl | rfl | rfl | rfl | rfl | rfl | rfl | rfl | rfl | rfl | rfl | rfl | rfl | rfl
  · unfold k_0 at h ⊢; rw [a0]; exact h
  · unfold k_1 at h ⊢; rw [a1]; exact h
  · unfold k_2 at h ⊢; rw [a4]; exact h
  · unfold k_3 at h ⊢; rw [a5, b0, b1]; exact h
  · unfold k_4 at h ⊢; rw [b0]; exact h
  · exact h
  · unfold k_6 at h ⊢; rw [b0]; exact h
  · exact h
  · exact h
  · exact h
  · exact h
  · exact h
  · exact h
  · exact h
  · exact h
  · unfold k_15 at h ⊢; rw [b0]; exact h
theorem th_eq {E E' : Nat → Nat} {D : va_G} {G : th_G} {X : List Nat} {H : Heap} (h0 : ∀ j : Nat, j < 6 → E' j = E j) (h1 : ∀ (a j : Nat), j < 8 → (∃ k, G a = some k) → a ∉ X → E' (32 + j + 8 * a) = E (32 + j + 8 * a)) (hI : th_I (okC E) D G X H) : th_I (okC E') D G X H := fun b k hb hx => by
  obtain ⟨e, g1, g2⟩ := hI b k hb hx
  exact ⟨e, g1, okC_eq h0 (fun j hj => h1 b j hj ⟨k, hb⟩ hx) g2⟩
theorem eu_lo {E : Nat → Nat} {i t : Nat} (hi : 32 ≤ i) : ∀ j : Nat, j < 32 → eu E i t j = E j := fun j hj => eu_ne (by omega)
theorem eu_of {E : Nat → Nat} {a b j T i : Nat} (hj : j < 8) (hb : b < 8) (h : a ≠ i) : eu E (32 + b + 8 * i) T (32 + j + 8 * a) = E (32 + j + 8 * a) := eu_ne (by omega)
theorem ea_close {E : Nat → Nat} {D : va_G} {G : th_G} {H : Heap} {a i T : Nat} {k : th_K} {e0 : va_E} (hI : th_I (okC E) D G [a] H) (ha : G a = some k) (he : va_at D vwCl (a, e0) H) (hi : 32 + 8 * a ≤ i ∧ i < 40 + 8 * a) (hok : okC (eu E i T) G a k e0) : th_I (okC (eu E i T)) D G [] H := by
  have h := th_eq (E' := eu E i T) (fun j hj => eu_ne (by omega)) (fun b j hj _ hx => eu_ne (by
    have : b ≠ a := fun z => hx (by rw [z]; exact List.mem_singleton.mpr rfl)
    omega)) hI
  exact th_I.close h ha he hok
theorem ea_put {E : Nat → Nat} {D : va_G} {G : th_G} {H H1 : Heap} {a i T : Nat} {k : th_K} {e0 : va_E} (hI : th_I (okC E) D G [] H) (ha : G a = some k) (he : va_at D vwCl (a, e0) H1) (hi : 32 + 8 * a ≤ i ∧ i < 40 + 8 * a) (hok : okC (eu E i T) G a k e0) (oq : ∀ q : Nat, q ≠ a → H1[q]? = H[q]?) : th_I (okC (eu E i T)) D G [] H1 := ea_close ((th_I.weak (a := a) hI).moved oq) ha he hi hok
theorem tys_eq {E E' : Nat → Nat} (h0 : ∀ j : Nat, j < 6 → E' j = E j) : th_tys E' = th_tys E := by
  unfold th_tys
  rw [h0 0 (by decide), h0 1 (by decide), h0 2 (by decide), h0 3 (by decide), h0 4 (by decide), h0 5 (by decide)]
theorem tys_eu {E : Nat → Nat} {i T : Nat} (hi : 6 ≤ i) : th_tys (eu E i T) = th_tys E := by
  unfold th_tys
  rw [eu_ne (show 0 ≠ i by omega), eu_ne (show 1 ≠ i by omega), eu_ne (show 2 ≠ i by omega), eu_ne (show 3 ≠ i by omega), eu_ne (show 4 ≠ i by omega), eu_ne (show 5 ≠ i by omega)]
