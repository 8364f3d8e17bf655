/-! ===== laws told: where the reading stands ===== -/
def EV (E : Nat → Nat) (D : va_G) (G : th_G) (h0 : Nat) (f : Nat → Int32) (t p : Nat) (H : Heap) : Prop := kOk (E 10) f ∧ t < 6 ∧ kT f t ≤ 400 ∧ p ≤ 401 ∧ ga E D G h0 3 (1, 5123) f H ∧ (∃ g, gf D h0 19 g H ∧ g.toInt = 400 * (t : Int) + (p : Int)) ∧ ∃ e, gf D h0 20 e H ∧ e.toInt = 400 * (t : Int) + (kT f t : Int)
theorem kC_end {f : Nat → Int32} {t : Nat} : ∀ j, kT f t ≤ j → kC f t j = 0 := fun j hj => by unfold kC; rw [if_neg (Nat.not_lt.mpr hj)]
theorem kC_at {f : Nat → Int32} {t j : Nat} {x i : Int32} (ex : x = f i.toNatClampNeg) (hi : i.toInt = 323 + (400 * (t : Int) + (j : Int))) (hj : j < kT f t) : x.toInt = kC f t j := by
  unfold kC
  rw [if_pos hj, ex]
  have : i.toNatClampNeg = 323 + 400 * t + j := by show i.toInt.toNat = _; omega
  rw [this]
section GL
variable {f : Nat → Int} {d p q m : Nat}
theorem g0_br (h : Gr f 0 d p q) (e : f p = 191) : d < 8 ∧ ∃ m, Gr f 2 (d + 1) (p + 1) m ∧ f m = 193 ∧ q = m + 1 := by
  rcases h.out with ⟨a, -⟩ | ⟨-, b, c⟩
  · rcases a with a | a <;> omega
  · exact ⟨b, c⟩
theorem g0_lf (h : Gr f 0 d p q) (e : f p ≠ 191) : (f p = 50 ∨ (9 ≤ f p ∧ f p ≤ 17)) ∧ q = p + 1 := by
  rcases h.out with a | ⟨a, -⟩
  · exact a
  · exact absurd a e
theorem g1_o (h : Gr f 1 d p q) : ∃ m, Gr f 0 d p m ∧ Gr f 7 d m q := h.out
theorem g2_o (h : Gr f 2 d p q) : ∃ m, Gr f 1 d p m ∧ Gr f 8 d m q := h.out
theorem g4_o (h : Gr f 4 d p q) : ∃ m, Gr f 3 d p m ∧ Gr f 9 d m q := h.out
theorem g5_o (h : Gr f 5 d p q) : ∃ m, Gr f 4 d p m ∧ Gr f 10 d m q := h.out
theorem g7_x (h : Gr f 7 d p q) (e1 : f p ≠ 142) (e2 : f p ≠ 147) (e3 : f p ≠ 137) : q = p := by
  rcases h.out with ⟨-, a⟩ | ⟨a, -⟩
  · exact a
  · rcases a with a | a | a <;> omega
theorem g7_m (h : Gr f 7 d p q) (e : f p = 142 ∨ f p = 147 ∨ f p = 137) : ∃ m, Gr f 0 d (p + 1) m ∧ Gr f 7 d m q := by
  rcases h.out with ⟨a, -⟩ | ⟨-, a⟩
  · exact absurd e a
  · exact a
theorem g8_x (h : Gr f 8 d p q) (e1 : f p ≠ 143) (e2 : f p ≠ 145) : q = p := by
  rcases h.out with ⟨-, a⟩ | ⟨a, -⟩
  · exact a
  · rcases a with a | a <;> omega
theorem g8_m (h : Gr f 8 d p q) (e : f p = 143 ∨ f p = 145) : ∃ m, Gr f 1 d (p + 1) m ∧ Gr f 8 d m q := by
  rcases h.out with ⟨a, -⟩ | ⟨-, a⟩
  · exact absurd e a
  · exact a
theorem g9_x (h : Gr f 9 d p q) (e : f p ≠ 7) : q = p := by
  rcases h.out with ⟨-, a⟩ | ⟨a, -⟩
  · exact a
  · exact absurd a e
theorem g9_m (h : Gr f 9 d p q) (e : f p = 7) : ∃ m, Gr f 3 d (p + 1) m ∧ Gr f 9 d m q := by
  rcases h.out with ⟨a, -⟩ | ⟨-, a⟩
  · exact absurd e a
  · exact a
theorem g10_x (h : Gr f 10 d p q) (e : f p ≠ 6) : q = p := by
  rcases h.out with ⟨-, a⟩ | ⟨a, -⟩
  · exact a
  · exact absurd a e
theorem g10_m (h : Gr f 10 d p q) (e : f p = 6) : ∃ m, Gr f 4 d (p + 1) m ∧ Gr f 10 d m q := by
  rcases h.out with ⟨a, -⟩ | ⟨-, a⟩
  · exact absurd e a
  · exact a
theorem g3_x (h : Gr f 3 d p q) (e : f p ≠ 8) : Gr f 6 d p q := by
  rcases h.out with ⟨a, -⟩ | ⟨-, a⟩
  · exact absurd a e
  · exact a
theorem g3_m (h : Gr f 3 d p q) (e : f p = 8) : Gr f 3 d (p + 1) q := by
  rcases h.out with ⟨-, a⟩ | ⟨a, -⟩
  · exact a
  · exact absurd e a
theorem g6_br (h : Gr f 6 d p q) (e : f p = 140) : d < 8 ∧ ∃ m, Gr f 5 (d + 1) (p + 1) m ∧ f m = 141 ∧ q = m + 1 := by
  rcases h.out with ⟨-, a⟩ | ⟨a, -⟩
  · exact a
  · exact absurd e a
theorem g6_x (h : Gr f 6 d p q) (e : f p ≠ 140) : ∃ m, Gr f 2 d p m ∧ (f m = 160 ∨ f m = 161 ∨ f m = 162) ∧ Gr f 2 d (m + 1) q := by
  rcases h.out with ⟨a, -⟩ | ⟨-, a⟩
  · exact absurd a e
  · exact a
theorem lw_o {T n : Nat} (h : g_lw f T n p) : ∃ q k, g_cl f p q ∧ (q = T ∨ (f q = 159 ∧ g_lw f T k (q + 1))) := by
  cases n with
  | zero => exact h.elim
  | succ n => obtain ⟨q, h1, h2⟩ := h; exact ⟨q, n, h1, h2⟩
theorem cl_bars (h : g_cl f p q) (e : f p = 4) : (f (p + 1) ≠ 5 ∧ q = p + 1) ∨ (f (p + 1) = 5 ∧ Gr f 5 0 (p + 1 + 1) q) := by
  obtain ⟨m, a | ⟨-, rfl⟩, b⟩ := h
  · omega
  · exact b
theorem cl_sum (h : g_cl f p q) (e : f p ≠ 4) : ∃ m, Gr f 2 0 (p + 1) m ∧ ((f m ≠ 5 ∧ q = m) ∨ (f m = 5 ∧ Gr f 5 0 (m + 1) q)) := by
  obtain ⟨m, ⟨-, a⟩ | ⟨a, -⟩, b⟩ := h
  · exact ⟨m, a, b⟩
  · exact absurd a e
theorem if_no (h : (f m ≠ 5 ∧ q = m) ∨ (f m = 5 ∧ Gr f 5 0 (m + 1) q)) (e : f m ≠ 5) : q = m := by
  rcases h with ⟨-, a⟩ | ⟨a, -⟩
  · exact a
  · exact absurd a e
theorem if_yes (h : (f m ≠ 5 ∧ q = m) ∨ (f m = 5 ∧ Gr f 5 0 (m + 1) q)) (e : f m = 5) : Gr f 5 0 (m + 1) q := by
  rcases h with ⟨a, -⟩ | ⟨-, a⟩
  · exact absurd e a
  · exact a
end GL
theorem kT_rd {f : Nat → Int32} {t : Nat} {x i : Int32} (ex : x = f i.toNatClampNeg) (hi : i.toInt = 317 + (t : Int)) (h0 : 0 ≤ x.toInt) : (kT f t : Int) = x.toInt := by
  have : i.toNatClampNeg = 317 + t := by show i.toInt.toNat = _; omega
  unfold kT
  rw [← this, ← ex]
  omega
theorem lw_le {f : Nat → Int32} {t q n : Nat} (h : q = kT f t ∨ (kC f t q = 159 ∧ g_lw (kC f t) (kT f t) n (q + 1))) : q ≤ kT f t := by
  rcases h with h | ⟨h, -⟩
  · omega
  · exact Nat.le_of_lt (Nat.not_le.mp fun z => by rw [kC_end q z] at h; omega)
