/-! ===== the language of laws: the least relation; clauses ===== -/
def g_op1 (c : Int) : Prop := c = 143 ∨ c = 145
def g_op2 (c : Int) : Prop := c = 142 ∨ c = 147 ∨ c = 137
def g_leaf (c : Int) : Prop := c = 50 ∨ (9 ≤ c ∧ c ≤ 17)
abbrev g_R : Type := Nat → Nat → Nat → Nat → Prop
def gGB (f : Nat → Int) (R : g_R) (k d p q : Nat) : Prop := match k with
  | 0 => (g_leaf (f p) ∧ q = p + 1) ∨ (f p = 191 ∧ d < 8 ∧ ∃ m, R 2 (d + 1) (p + 1) m ∧ f m = 193 ∧ q = m + 1)
  | 1 => ∃ m, R 0 d p m ∧ R 7 d m q
  | 2 => ∃ m, R 1 d p m ∧ R 8 d m q
  | 3 => (f p = 8 ∧ R 3 d (p + 1) q) ∨ (f p ≠ 8 ∧ R 6 d p q)
  | 4 => ∃ m, R 3 d p m ∧ R 9 d m q
  | 5 => ∃ m, R 4 d p m ∧ R 10 d m q
  | 6 => (f p = 140 ∧ d < 8 ∧ ∃ m, R 5 (d + 1) (p + 1) m ∧ f m = 141 ∧ q = m + 1) ∨ (f p ≠ 140 ∧ ∃ m, R 2 d p m ∧ (f m = 160 ∨ f m = 161 ∨ f m = 162) ∧ R 2 d (m + 1) q)
  | 7 => (¬ g_op2 (f p) ∧ q = p) ∨ (g_op2 (f p) ∧ ∃ m, R 0 d (p + 1) m ∧ R 7 d m q)
  | 8 => (¬ g_op1 (f p) ∧ q = p) ∨ (g_op1 (f p) ∧ ∃ m, R 1 d (p + 1) m ∧ R 8 d m q)
  | 9 => (f p ≠ 7 ∧ q = p) ∨ (f p = 7 ∧ ∃ m, R 3 d (p + 1) m ∧ R 9 d m q)
  | 10 => (f p ≠ 6 ∧ q = p) ∨ (f p = 6 ∧ ∃ m, R 4 d (p + 1) m ∧ R 10 d m q)
  | _ => False
theorem gB_mono {f : Nat → Int} {R S : g_R} (h : ∀ k d p q, R k d p q → S k d p q) : ∀ k d p q, gGB f R k d p q → gGB f S k d p q := by
  intro k d p q hk
  rcases k with _ | _ | _ | _ | _ | _ | _ | _ | _ | _ | _ | k
  · rcases hk with hk | ⟨a, b, m, c, e⟩
    · exact Or.inl hk
    · exact Or.inr ⟨a, b, m, h _ _ _ _ c, e⟩
  · obtain ⟨m, a, b⟩ := hk; exact ⟨m, h _ _ _ _ a, h _ _ _ _ b⟩
  · obtain ⟨m, a, b⟩ := hk; exact ⟨m, h _ _ _ _ a, h _ _ _ _ b⟩
  · rcases hk with ⟨a, b⟩ | ⟨a, b⟩
    · exact Or.inl ⟨a, h _ _ _ _ b⟩
    · exact Or.inr ⟨a, h _ _ _ _ b⟩
  · obtain ⟨m, a, b⟩ := hk; exact ⟨m, h _ _ _ _ a, h _ _ _ _ b⟩
  · obtain ⟨m, a, b⟩ := hk; exact ⟨m, h _ _ _ _ a, h _ _ _ _ b⟩
  · rcases hk with ⟨a, b, m, c, e⟩ | ⟨a, m, b, c, e⟩
    · exact Or.inl ⟨a, b, m, h _ _ _ _ c, e⟩
    · exact Or.inr ⟨a, m, h _ _ _ _ b, c, h _ _ _ _ e⟩
  · rcases hk with hk | ⟨a, m, b, c⟩
    · exact Or.inl hk
    · exact Or.inr ⟨a, m, h _ _ _ _ b, h _ _ _ _ c⟩
  · rcases hk with hk | ⟨a, m, b, c⟩
    · exact Or.inl hk
    · exact Or.inr ⟨a, m, h _ _ _ _ b, h _ _ _ _ c⟩
  · rcases hk with hk | ⟨a, m, b, c⟩
    · exact Or.inl hk
    · exact Or.inr ⟨a, m, h _ _ _ _ b, h _ _ _ _ c⟩
  · rcases hk with hk | ⟨a, m, b, c⟩
    · exact Or.inl hk
    · exact Or.inr ⟨a, m, h _ _ _ _ b, h _ _ _ _ c⟩
  · exact hk
def Gr (f : Nat → Int) (k d p q : Nat) : Prop := ∀ R : g_R, (∀ k d p q, gGB f R k d p q → R k d p q) → R k d p q
theorem Gr.mk {f : Nat → Int} {k d p q : Nat} (h : gGB f (Gr f) k d p q) : Gr f k d p q := fun R hR => hR _ _ _ _ (gB_mono (fun _ _ _ _ g => g R hR) _ _ _ _ h)
theorem Gr.out {f : Nat → Int} {k d p q : Nat} (h : Gr f k d p q) : gGB f (Gr f) k d p q := h (gGB f (Gr f)) (fun _ _ _ _ g => gB_mono (fun _ _ _ _ r => Gr.mk r) _ _ _ _ g)
/-- where it ends: within the text, and behind where it began -/
def g_W (T k p q : Nat) : Prop := if k < 7 then p < q ∧ q ≤ T else p ≤ q ∧ (p ≤ T → q ≤ T)
theorem Gr.wide {f : Nat → Int} {T : Nat} (hf : ∀ j, T ≤ j → f j = 0) {k d p q : Nat} (h : Gr f k d p q) : g_W T k p q := by
  refine h (fun k _ p q => g_W T k p q) ?_
  have hlt : ∀ j, f j ≠ 0 → j < T := fun j hj => Nat.not_le.mp (fun z => hj (hf j z))
  intro k d p q hk
  rcases k with _ | _ | _ | _ | _ | _ | _ | _ | _ | _ | _ | k
  · rcases hk with ⟨a, rfl⟩ | ⟨a, b, m, c, e, rfl⟩
    · have := hlt p (by rcases a with a | a <;> omega)
      simp only [g_W]; simp; omega
    · have := hlt m (by omega)
      simp only [g_W] at c ⊢; simp at c ⊢; omega
  · obtain ⟨m, a, b⟩ := hk; simp only [g_W] at a b ⊢; simp at a b ⊢; omega
  · obtain ⟨m, a, b⟩ := hk; simp only [g_W] at a b ⊢; simp at a b ⊢; omega
  · rcases hk with ⟨a, b⟩ | ⟨a, b⟩ <;> (simp only [g_W] at b ⊢; simp at b ⊢; omega)
  · obtain ⟨m, a, b⟩ := hk; simp only [g_W] at a b ⊢; simp at a b ⊢; omega
  · obtain ⟨m, a, b⟩ := hk; simp only [g_W] at a b ⊢; simp at a b ⊢; omega
  · rcases hk with ⟨a, b, m, c, e, rfl⟩ | ⟨a, m, b, c, e⟩
    · have := hlt m (by omega)
      simp only [g_W] at c ⊢; simp at c ⊢; omega
    · simp only [g_W] at b e ⊢; simp at b e ⊢; omega
  · rcases hk with ⟨a, rfl⟩ | ⟨a, m, b, c⟩
    · simp only [g_W]; simp
    · simp only [g_W] at b c ⊢; simp at b c ⊢; omega
  · rcases hk with ⟨a, rfl⟩ | ⟨a, m, b, c⟩
    · simp only [g_W]; simp
    · simp only [g_W] at b c ⊢; simp at b c ⊢; omega
  · rcases hk with ⟨a, rfl⟩ | ⟨a, m, b, c⟩
    · simp only [g_W]; simp
    · simp only [g_W] at b c ⊢; simp at b c ⊢; omega
  · rcases hk with ⟨a, rfl⟩ | ⟨a, m, b, c⟩
    · simp only [g_W]; simp
    · simp only [g_W] at b c ⊢; simp at b c ⊢; omega
  · exact hk.elim
theorem Gr.lt {f : Nat → Int} {T : Nat} (hf : ∀ j, T ≤ j → f j = 0) {k d p q : Nat} (hk : k < 7) (h : Gr f k d p q) : p < q ∧ q ≤ T := by
  have := h.wide hf
  unfold g_W at this
  rw [if_pos hk] at this
  exact this
theorem Gr.le {f : Nat → Int} {T : Nat} (hf : ∀ j, T ≤ j → f j = 0) {k d p q : Nat} (hk : 7 ≤ k) (hp : p ≤ T) (h : Gr f k d p q) : p ≤ q ∧ q ≤ T := by
  have := h.wide hf
  unfold g_W at this
  rw [if_neg (Nat.not_lt.mpr hk)] at this
  exact ⟨this.1, this.2 hp⟩
def g_cl (f : Nat → Int) (p q : Nat) : Prop := ∃ m, (((f p = 1 ∨ f p = 2 ∨ f p = 3) ∧ Gr f 2 0 (p + 1) m) ∨ (f p = 4 ∧ m = p + 1)) ∧ ((f m ≠ 5 ∧ q = m) ∨ (f m = 5 ∧ Gr f 5 0 (m + 1) q))
def g_lw (f : Nat → Int) (T : Nat) : Nat → Nat → Prop
  | 0, _ => False
  | n + 1, p => ∃ q, g_cl f p q ∧ (q = T ∨ (f q = 159 ∧ g_lw f T n (q + 1)))
/-! ===== the reference's row 'kept': what may stand at each place ===== -/
def kr (c : Nat) (X V : Int) : Prop := (308 ≤ X → X ≤ 308 → X % 1 = 0 → (0 : Int) ≤ V ∧ V ≤ 8) ∧ (309 ≤ X → X ≤ 309 → X % 1 = 0 → (0 : Int) ≤ V ∧ V ≤ 6) ∧ (310 ≤ X → X ≤ 310 → X % 1 = 0 → (0 : Int) ≤ V ∧ V ≤ 6) ∧ (311 ≤ X → X ≤ 311 → X % 1 = 0 → (0 : Int) ≤ V ∧ V ≤ 16) ∧ (312 ≤ X → X ≤ 312 → X % 1 = 0 → (0 : Int) ≤ V ∧ V ≤ 10 ∧ V = ((c : Nat) : Int)) ∧ (313 ≤ X → X ≤ 313 → X % 1 = 0 → (0 : Int) ≤ V ∧ V ≤ 6) ∧ (314 ≤ X → X ≤ 314 → X % 1 = 0 → (0 : Int) ≤ V ∧ V ≤ 6) ∧ (315 ≤ X → X ≤ 315 → X % 1 = 0 → (0 : Int) ≤ V ∧ V ≤ 6) ∧ (316 ≤ X → X ≤ 316 → X % 1 = 0 → (-1 : Int) ≤ V ∧ V ≤ 5) ∧ (317 ≤ X → X ≤ 322 → X % 1 = 0 → (0 : Int) ≤ V ∧ V ≤ 400) ∧ (130 ≤ X → X ≤ 135 → X % 1 = 0 → (0 : Int) ≤ V ∧ V ≤ 23) ∧ (136 ≤ X → X ≤ 159 → X % 4 = 0 → (0 : Int) ≤ V ∧ V ≤ 23) ∧ (136 ≤ X → X ≤ 159 → X % 4 = 1 → (0 : Int) ≤ V ∧ V ≤ 95) ∧ (160 ≤ X → X ≤ 223 → X % 4 = 0 → (0 : Int) ≤ V ∧ V ≤ 23) ∧ (160 ≤ X → X ≤ 223 → X % 4 = 1 → (0 : Int) ≤ V ∧ V ≤ 95) ∧ (224 ≤ X → X ≤ 263 → X % 4 = 1 → (0 : Int) ≤ V ∧ V ≤ 96) ∧ (264 ≤ X → X ≤ 281 → X % 3 = 0 → (0 : Int) ≤ V ∧ V ≤ 23) ∧ (264 ≤ X → X ≤ 281 → X % 3 = 2 → (0 : Int) ≤ V ∧ V ≤ 95) ∧ (282 ≤ X → X ≤ 305 → X % 4 = 2 → (0 : Int) ≤ V ∧ V ≤ 23) ∧ (282 ≤ X → X ≤ 305 → X % 4 = 3 → (0 : Int) ≤ V ∧ V ≤ 96) ∧ (282 ≤ X → X ≤ 305 → X % 4 = 1 → (0 : Int) ≤ V ∧ V ≤ 96)
theorem kg_m308 {c : Nat} {X V : Int} (h : kr c X V) (h1 : 308 ≤ X) (h2 : X ≤ 308) (h3 : X % 1 = 0) : (0 : Int) ≤ V ∧ V ≤ 8 := h.1 h1 h2 h3
theorem ks_m308 {c : Nat} {X V : Int} (h1 : 308 ≤ X) (h2 : X ≤ 308) (h3 : X % 1 = 0) (h4 : (0 : Int) ≤ V ∧ V ≤ 8) : kr c X V := ⟨fun _ _ _ => by omega, fun _ _ _ => by omega, fun _ _ _ => by omega, fun _ _ _ => by omega, fun _ _ _ => by omega, fun _ _ _ => by omega, fun _ _ _ => by omega, fun _ _ _ => by omega, fun _ _ _ => by omega, fun _ _ _ => by omega, fun _ _ _ => by omega, fun _ _ _ => by omega, fun _ _ _ => by omega, fun _ _ _ => by omega, fun _ _ _ => by omega, fun _ _ _ => by omega, fun _ _ _ => by omega, fun _ _ _ => by omega, fun _ _ _ => by omega, fun _ _ _ => by omega, fun _ _ _ => by omega⟩
theorem kg_m309 {c : Nat} {X V : Int} (h : kr c X V) (h1 : 309 ≤ X) (h2 : X ≤ 309) (h3 : X % 1 = 0) : (0 : Int) ≤ V ∧ V ≤ 6 := h.2.1 h1 h2 h3
theorem ks_m309 {c : Nat} {X V : Int} (h1 : 309 ≤ X) (h2 : X ≤ 309) (h3 : X % 1 = 0) (h4 : (0 : Int) ≤ V ∧ V ≤ 6) : kr c X V := ⟨fun _ _ _ => by omega, fun _ _ _ => by omega, fun _ _ _ => by omega, fun _ _ _ => by omega, fun _ _ _ => by omega, fun _ _ _ => by omega, fun _ _ _ => by omega, fun _ _ _ => by omega, fun _ _ _ => by omega, fun _ _ _ => by omega, fun _ _ _ => by omega, fun _ _ _ => by omega, fun _ _ _ => by omega, fun _ _ _ => by omega, fun _ _ _ => by omega, fun _ _ _ => by omega, fun _ _ _ => by omega, fun _ _ _ => by omega, fun _ _ _ => by omega, fun _ _ _ => by omega, fun _ _ _ => by omega⟩
theorem kg_m310 {c : Nat} {X V : Int} (h : kr c X V) (h1 : 310 ≤ X) (h2 : X ≤ 310) (h3 : X % 1 = 0) : (0 : Int) ≤ V ∧ V ≤ 6 := h.2.2.1 h1 h2 h3
theorem ks_m310 {c : Nat} {X V : Int} (h1 : 310 ≤ X) (h2 : X ≤ 310) (h3 : X % 1 = 0) (h4 : (0 : Int) ≤ V ∧ V ≤ 6) : kr c X V := ⟨fun _ _ _ => by omega, fun _ _ _ => by omega, fun _ _ _ => by omega, fun _ _ _ => by omega, fun _ _ _ => by omega, fun _ _ _ => by omega, fun _ _ _ => by omega, fun _ _ _ => by omega, fun _ _ _ => by omega, fun _ _ _ => by omega, fun _ _ _ => by omega, fun _ _ _ => by omega, fun _ _ _ => by omega, fun _ _ _ => by omega, fun _ _ _ => by omega, fun _ _ _ => by omega, fun _ _ _ => by omega, fun _ _ _ => by omega, fun _ _ _ => by omega, fun _ _ _ => by omega, fun _ _ _ => by omega⟩
theorem kg_m311 {c : Nat} {X V : Int} (h : kr c X V) (h1 : 311 ≤ X) (h2 : X ≤ 311) (h3 : X % 1 = 0) : (0 : Int) ≤ V ∧ V ≤ 16 := h.2.2.2.1 h1 h2 h3
theorem ks_m311 {c : Nat} {X V : Int} (h1 : 311 ≤ X) (h2 : X ≤ 311) (h3 : X % 1 = 0) (h4 : (0 : Int) ≤ V ∧ V ≤ 16) : kr c X V := ⟨fun _ _ _ => by omega, fun _ _ _ => by omega, fun _ _ _ => by omega, fun _ _ _ => by omega, fun _ _ _ => by omega, fun _ _ _ => by omega, fun _ _ _ => by omega, fun _ _ _ => by omega, fun _ _ _ => by omega, fun _ _ _ => by omega, fun _ _ _ => by omega, fun _ _ _ => by omega, fun _ _ _ => by omega, fun _ _ _ => by omega, fun _ _ _ => by omega, fun _ _ _ => by omega, fun _ _ _ => by omega, fun _ _ _ => by omega, fun _ _ _ => by omega, fun _ _ _ => by omega, fun _ _ _ => by omega⟩
theorem kg_m312 {c : Nat} {X V : Int} (h : kr c X V) (h1 : 312 ≤ X) (h2 : X ≤ 312) (h3 : X % 1 = 0) : (0 : Int) ≤ V ∧ V ≤ 10 ∧ V = ((c : Nat) : Int) := h.2.2.2.2.1 h1 h2 h3
theorem ks_m312 {c : Nat} {X V : Int} (h1 : 312 ≤ X) (h2 : X ≤ 312) (h3 : X % 1 = 0) (h4 : (0 : Int) ≤ V ∧ V ≤ 10 ∧ V = ((c : Nat) : Int)) : kr c X V := ⟨fun _ _ _ => by omega, fun _ _ _ => by omega, fun _ _ _ => by omega, fun _ _ _ => by omega, fun _ _ _ => by omega, fun _ _ _ => by omega, fun _ _ _ => by omega, fun _ _ _ => by omega, fun _ _ _ => by omega, fun _ _ _ => by omega, fun _ _ _ => by omega, fun _ _ _ => by omega, fun _ _ _ => by omega, fun _ _ _ => by omega, fun _ _ _ => by omega, fun _ _ _ => by omega, fun _ _ _ => by omega, fun _ _ _ => by omega, fun _ _ _ => by omega, fun _ _ _ => by omega, fun _ _ _ => by omega⟩
theorem kg_m313 {c : Nat} {X V : Int} (h : kr c X V) (h1 : 313 ≤ X) (h2 : X ≤ 313) (h3 : X % 1 = 0) : (0 : Int) ≤ V ∧ V ≤ 6 := h.2.2.2.2.2.1 h1 h2 h3
theorem ks_m313 {c : Nat} {X V : Int} (h1 : 313 ≤ X) (h2 : X ≤ 313) (h3 : X % 1 = 0) (h4 : (0 : Int) ≤ V ∧ V ≤ 6) : kr c X V := ⟨fun _ _ _ => by omega, fun _ _ _ => by omega, fun _ _ _ => by omega, fun _ _ _ => by omega, fun _ _ _ => by omega, fun _ _ _ => by omega, fun _ _ _ => by omega, fun _ _ _ => by omega, fun _ _ _ => by omega, fun _ _ _ => by omega, fun _ _ _ => by omega, fun _ _ _ => by omega, fun _ _ _ => by omega, fun _ _ _ => by omega, fun _ _ _ => by omega, fun _ _ _ => by omega, fun _ _ _ => by omega, fun _ _ _ => by omega, fun _ _ _ => by omega, fun _ _ _ => by omega, fun _ _ _ => by omega⟩
theorem kg_m314 {c : Nat} {X V : Int} (h : kr c X V) (h1 : 314 ≤ X) (h2 : X ≤ 314) (h3 : X % 1 = 0) : (0 : Int) ≤ V ∧ V ≤ 6 := h.2.2.2.2.2.2.1 h1 h2 h3
theorem ks_m314 {c : Nat} {X V : Int} (h1 : 314 ≤ X) (h2 : X ≤ 314) (h3 : X % 1 = 0) (h4 : (0 : Int) ≤ V ∧ V ≤ 6) : kr c X V := ⟨fun _ _ _ => by omega, fun _ _ _ => by omega, fun _ _ _ => by omega, fun _ _ _ => by omega, fun _ _ _ => by omega, fun _ _ _ => by omega, fun _ _ _ => by omega, fun _ _ _ => by omega, fun _ _ _ => by omega, fun _ _ _ => by omega, fun _ _ _ => by omega, fun _ _ _ => by omega, fun _ _ _ => by omega, fun _ _ _ => by omega, fun _ _ _ => by omega, fun _ _ _ => by omega, fun _ _ _ => by omega, fun _ _ _ => by omega, fun _ _ _ => by omega, fun _ _ _ => by omega, fun _ _ _ => by omega⟩
theorem kg_m315 {c : Nat} {X V : Int} (h : kr c X V) (h1 : 315 ≤ X) (h2 : X ≤ 315) (h3 : X % 1 = 0) : (0 : Int) ≤ V ∧ V ≤ 6 := h.2.2.2.2.2.2.2.1 h1 h2 h3
theorem ks_m315 {c : Nat} {X V : Int} (h1 : 315 ≤ X) (h2 : X ≤ 315) (h3 : X % 1 = 0) (h4 : (0 : Int) ≤ V ∧ V ≤ 6) : kr c X V := ⟨fun _ _ _ => by omega, fun _ _ _ => by omega, fun _ _ _ => by omega, fun _ _ _ => by omega, fun _ _ _ => by omega, fun _ _ _ => by omega, fun _ _ _ => by omega, fun _ _ _ => by omega, fun _ _ _ => by omega, fun _ _ _ => by omega, fun _ _ _ => by omega, fun _ _ _ => by omega, fun _ _ _ => by omega, fun _ _ _ => by omega, fun _ _ _ => by omega, fun _ _ _ => by omega, fun _ _ _ => by omega, fun _ _ _ => by omega, fun _ _ _ => by omega, fun _ _ _ => by omega, fun _ _ _ => by omega⟩
theorem kg_force {c : Nat} {X V : Int} (h : kr c X V) (h1 : 316 ≤ X) (h2 : X ≤ 316) (h3 : X % 1 = 0) : (-1 : Int) ≤ V ∧ V ≤ 5 := h.2.2.2.2.2.2.2.2.1 h1 h2 h3
theorem ks_force {c : Nat} {X V : Int} (h1 : 316 ≤ X) (h2 : X ≤ 316) (h3 : X % 1 = 0) (h4 : (-1 : Int) ≤ V ∧ V ≤ 5) : kr c X V := ⟨fun _ _ _ => by omega, fun _ _ _ => by omega, fun _ _ _ => by omega, fun _ _ _ => by omega, fun _ _ _ => by omega, fun _ _ _ => by omega, fun _ _ _ => by omega, fun _ _ _ => by omega, fun _ _ _ => by omega, fun _ _ _ => by omega, fun _ _ _ => by omega, fun _ _ _ => by omega, fun _ _ _ => by omega, fun _ _ _ => by omega, fun _ _ _ => by omega, fun _ _ _ => by omega, fun _ _ _ => by omega, fun _ _ _ => by omega, fun _ _ _ => by omega, fun _ _ _ => by omega, fun _ _ _ => by omega⟩
theorem kg_sizes {c : Nat} {X V : Int} (h : kr c X V) (h1 : 317 ≤ X) (h2 : X ≤ 322) (h3 : X % 1 = 0) : (0 : Int) ≤ V ∧ V ≤ 400 := h.2.2.2.2.2.2.2.2.2.1 h1 h2 h3
theorem ks_sizes {c : Nat} {X V : Int} (h1 : 317 ≤ X) (h2 : X ≤ 322) (h3 : X % 1 = 0) (h4 : (0 : Int) ≤ V ∧ V ≤ 400) : kr c X V := ⟨fun _ _ _ => by omega, fun _ _ _ => by omega, fun _ _ _ => by omega, fun _ _ _ => by omega, fun _ _ _ => by omega, fun _ _ _ => by omega, fun _ _ _ => by omega, fun _ _ _ => by omega, fun _ _ _ => by omega, fun _ _ _ => by omega, fun _ _ _ => by omega, fun _ _ _ => by omega, fun _ _ _ => by omega, fun _ _ _ => by omega, fun _ _ _ => by omega, fun _ _ _ => by omega, fun _ _ _ => by omega, fun _ _ _ => by omega, fun _ _ _ => by omega, fun _ _ _ => by omega, fun _ _ _ => by omega⟩
theorem kg_mill {c : Nat} {X V : Int} (h : kr c X V) (h1 : 130 ≤ X) (h2 : X ≤ 135) (h3 : X % 1 = 0) : (0 : Int) ≤ V ∧ V ≤ 23 := h.2.2.2.2.2.2.2.2.2.2.1 h1 h2 h3
theorem ks_mill {c : Nat} {X V : Int} (h1 : 130 ≤ X) (h2 : X ≤ 135) (h3 : X % 1 = 0) (h4 : (0 : Int) ≤ V ∧ V ≤ 23) : kr c X V := ⟨fun _ _ _ => by omega, fun _ _ _ => by omega, fun _ _ _ => by omega, fun _ _ _ => by omega, fun _ _ _ => by omega, fun _ _ _ => by omega, fun _ _ _ => by omega, fun _ _ _ => by omega, fun _ _ _ => by omega, fun _ _ _ => by omega, fun _ _ _ => by omega, fun _ _ _ => by omega, fun _ _ _ => by omega, fun _ _ _ => by omega, fun _ _ _ => by omega, fun _ _ _ => by omega, fun _ _ _ => by omega, fun _ _ _ => by omega, fun _ _ _ => by omega, fun _ _ _ => by omega, fun _ _ _ => by omega⟩
theorem kg_boat0 {c : Nat} {X V : Int} (h : kr c X V) (h1 : 136 ≤ X) (h2 : X ≤ 159) (h3 : X % 4 = 0) : (0 : Int) ≤ V ∧ V ≤ 23 := h.2.2.2.2.2.2.2.2.2.2.2.1 h1 h2 h3
theorem ks_boat0 {c : Nat} {X V : Int} (h1 : 136 ≤ X) (h2 : X ≤ 159) (h3 : X % 4 = 0) (h4 : (0 : Int) ≤ V ∧ V ≤ 23) : kr c X V := ⟨fun _ _ _ => by omega, fun _ _ _ => by omega, fun _ _ _ => by omega, fun _ _ _ => by omega, fun _ _ _ => by omega, fun _ _ _ => by omega, fun _ _ _ => by omega, fun _ _ _ => by omega, fun _ _ _ => by omega, fun _ _ _ => by omega, fun _ _ _ => by omega, fun _ _ _ => by omega, fun _ _ _ => by omega, fun _ _ _ => by omega, fun _ _ _ => by omega, fun _ _ _ => by omega, fun _ _ _ => by omega, fun _ _ _ => by omega, fun _ _ _ => by omega, fun _ _ _ => by omega, fun _ _ _ => by omega⟩
theorem kg_boat1 {c : Nat} {X V : Int} (h : kr c X V) (h1 : 136 ≤ X) (h2 : X ≤ 159) (h3 : X % 4 = 1) : (0 : Int) ≤ V ∧ V ≤ 95 := h.2.2.2.2.2.2.2.2.2.2.2.2.1 h1 h2 h3
theorem ks_boat1 {c : Nat} {X V : Int} (h1 : 136 ≤ X) (h2 : X ≤ 159) (h3 : X % 4 = 1) (h4 : (0 : Int) ≤ V ∧ V ≤ 95) : kr c X V := ⟨fun _ _ _ => by omega, fun _ _ _ => by omega, fun _ _ _ => by omega, fun _ _ _ => by omega, fun _ _ _ => by omega, fun _ _ _ => by omega, fun _ _ _ => by omega, fun _ _ _ => by omega, fun _ _ _ => by omega, fun _ _ _ => by omega, fun _ _ _ => by omega, fun _ _ _ => by omega, fun _ _ _ => by omega, fun _ _ _ => by omega, fun _ _ _ => by omega, fun _ _ _ => by omega, fun _ _ _ => by omega, fun _ _ _ => by omega, fun _ _ _ => by omega, fun _ _ _ => by omega, fun _ _ _ => by omega⟩
theorem kg_pour0 {c : Nat} {X V : Int} (h : kr c X V) (h1 : 160 ≤ X) (h2 : X ≤ 223) (h3 : X % 4 = 0) : (0 : Int) ≤ V ∧ V ≤ 23 := h.2.2.2.2.2.2.2.2.2.2.2.2.2.1 h1 h2 h3
theorem ks_pour0 {c : Nat} {X V : Int} (h1 : 160 ≤ X) (h2 : X ≤ 223) (h3 : X % 4 = 0) (h4 : (0 : Int) ≤ V ∧ V ≤ 23) : kr c X V := ⟨fun _ _ _ => by omega, fun _ _ _ => by omega, fun _ _ _ => by omega, fun _ _ _ => by omega, fun _ _ _ => by omega, fun _ _ _ => by omega, fun _ _ _ => by omega, fun _ _ _ => by omega, fun _ _ _ => by omega, fun _ _ _ => by omega, fun _ _ _ => by omega, fun _ _ _ => by omega, fun _ _ _ => by omega, fun _ _ _ => by omega, fun _ _ _ => by omega, fun _ _ _ => by omega, fun _ _ _ => by omega, fun _ _ _ => by omega, fun _ _ _ => by omega, fun _ _ _ => by omega, fun _ _ _ => by omega⟩
theorem kg_pour1 {c : Nat} {X V : Int} (h : kr c X V) (h1 : 160 ≤ X) (h2 : X ≤ 223) (h3 : X % 4 = 1) : (0 : Int) ≤ V ∧ V ≤ 95 := h.2.2.2.2.2.2.2.2.2.2.2.2.2.2.1 h1 h2 h3
theorem ks_pour1 {c : Nat} {X V : Int} (h1 : 160 ≤ X) (h2 : X ≤ 223) (h3 : X % 4 = 1) (h4 : (0 : Int) ≤ V ∧ V ≤ 95) : kr c X V := ⟨fun _ _ _ => by omega, fun _ _ _ => by omega, fun _ _ _ => by omega, fun _ _ _ => by omega, fun _ _ _ => by omega, fun _ _ _ => by omega, fun _ _ _ => by omega, fun _ _ _ => by omega, fun _ _ _ => by omega, fun _ _ _ => by omega, fun _ _ _ => by omega, fun _ _ _ => by omega, fun _ _ _ => by omega, fun _ _ _ => by omega, fun _ _ _ => by omega, fun _ _ _ => by omega, fun _ _ _ => by omega, fun _ _ _ => by omega, fun _ _ _ => by omega, fun _ _ _ => by omega, fun _ _ _ => by omega⟩
theorem kg_sight1 {c : Nat} {X V : Int} (h : kr c X V) (h1 : 224 ≤ X) (h2 : X ≤ 263) (h3 : X % 4 = 1) : (0 : Int) ≤ V ∧ V ≤ 96 := h.2.2.2.2.2.2.2.2.2.2.2.2.2.2.2.1 h1 h2 h3
theorem ks_sight1 {c : Nat} {X V : Int} (h1 : 224 ≤ X) (h2 : X ≤ 263) (h3 : X % 4 = 1) (h4 : (0 : Int) ≤ V ∧ V ≤ 96) : kr c X V := ⟨fun _ _ _ => by omega, fun _ _ _ => by omega, fun _ _ _ => by omega, fun _ _ _ => by omega, fun _ _ _ => by omega, fun _ _ _ => by omega, fun _ _ _ => by omega, fun _ _ _ => by omega, fun _ _ _ => by omega, fun _ _ _ => by omega, fun _ _ _ => by omega, fun _ _ _ => by omega, fun _ _ _ => by omega, fun _ _ _ => by omega, fun _ _ _ => by omega, fun _ _ _ => by omega, fun _ _ _ => by omega, fun _ _ _ => by omega, fun _ _ _ => by omega, fun _ _ _ => by omega, fun _ _ _ => by omega⟩
theorem kg_job0 {c : Nat} {X V : Int} (h : kr c X V) (h1 : 264 ≤ X) (h2 : X ≤ 281) (h3 : X % 3 = 0) : (0 : Int) ≤ V ∧ V ≤ 23 := h.2.2.2.2.2.2.2.2.2.2.2.2.2.2.2.2.1 h1 h2 h3
theorem ks_job0 {c : Nat} {X V : Int} (h1 : 264 ≤ X) (h2 : X ≤ 281) (h3 : X % 3 = 0) (h4 : (0 : Int) ≤ V ∧ V ≤ 23) : kr c X V := ⟨fun _ _ _ => by omega, fun _ _ _ => by omega, fun _ _ _ => by omega, fun _ _ _ => by omega, fun _ _ _ => by omega, fun _ _ _ => by omega, fun _ _ _ => by omega, fun _ _ _ => by omega, fun _ _ _ => by omega, fun _ _ _ => by omega, fun _ _ _ => by omega, fun _ _ _ => by omega, fun _ _ _ => by omega, fun _ _ _ => by omega, fun _ _ _ => by omega, fun _ _ _ => by omega, fun _ _ _ => by omega, fun _ _ _ => by omega, fun _ _ _ => by omega, fun _ _ _ => by omega, fun _ _ _ => by omega⟩
theorem kg_job2 {c : Nat} {X V : Int} (h : kr c X V) (h1 : 264 ≤ X) (h2 : X ≤ 281) (h3 : X % 3 = 2) : (0 : Int) ≤ V ∧ V ≤ 95 := h.2.2.2.2.2.2.2.2.2.2.2.2.2.2.2.2.2.1 h1 h2 h3
theorem ks_job2 {c : Nat} {X V : Int} (h1 : 264 ≤ X) (h2 : X ≤ 281) (h3 : X % 3 = 2) (h4 : (0 : Int) ≤ V ∧ V ≤ 95) : kr c X V := ⟨fun _ _ _ => by omega, fun _ _ _ => by omega, fun _ _ _ => by omega, fun _ _ _ => by omega, fun _ _ _ => by omega, fun _ _ _ => by omega, fun _ _ _ => by omega, fun _ _ _ => by omega, fun _ _ _ => by omega, fun _ _ _ => by omega, fun _ _ _ => by omega, fun _ _ _ => by omega, fun _ _ _ => by omega, fun _ _ _ => by omega, fun _ _ _ => by omega, fun _ _ _ => by omega, fun _ _ _ => by omega, fun _ _ _ => by omega, fun _ _ _ => by omega, fun _ _ _ => by omega, fun _ _ _ => by omega⟩
theorem kg_wish0 {c : Nat} {X V : Int} (h : kr c X V) (h1 : 282 ≤ X) (h2 : X ≤ 305) (h3 : X % 4 = 2) : (0 : Int) ≤ V ∧ V ≤ 23 := h.2.2.2.2.2.2.2.2.2.2.2.2.2.2.2.2.2.2.1 h1 h2 h3
theorem ks_wish0 {c : Nat} {X V : Int} (h1 : 282 ≤ X) (h2 : X ≤ 305) (h3 : X % 4 = 2) (h4 : (0 : Int) ≤ V ∧ V ≤ 23) : kr c X V := ⟨fun _ _ _ => by omega, fun _ _ _ => by omega, fun _ _ _ => by omega, fun _ _ _ => by omega, fun _ _ _ => by omega, fun _ _ _ => by omega, fun _ _ _ => by omega, fun _ _ _ => by omega, fun _ _ _ => by omega, fun _ _ _ => by omega, fun _ _ _ => by omega, fun _ _ _ => by omega, fun _ _ _ => by omega, fun _ _ _ => by omega, fun _ _ _ => by omega, fun _ _ _ => by omega, fun _ _ _ => by omega, fun _ _ _ => by omega, fun _ _ _ => by omega, fun _ _ _ => by omega, fun _ _ _ => by omega⟩
theorem kg_wish1 {c : Nat} {X V : Int} (h : kr c X V) (h1 : 282 ≤ X) (h2 : X ≤ 305) (h3 : X % 4 = 3) : (0 : Int) ≤ V ∧ V ≤ 96 := h.2.2.2.2.2.2.2.2.2.2.2.2.2.2.2.2.2.2.2.1 h1 h2 h3
theorem ks_wish1 {c : Nat} {X V : Int} (h1 : 282 ≤ X) (h2 : X ≤ 305) (h3 : X % 4 = 3) (h4 : (0 : Int) ≤ V ∧ V ≤ 96) : kr c X V := ⟨fun _ _ _ => by omega, fun _ _ _ => by omega, fun _ _ _ => by omega, fun _ _ _ => by omega, fun _ _ _ => by omega, fun _ _ _ => by omega, fun _ _ _ => by omega, fun _ _ _ => by omega, fun _ _ _ => by omega, fun _ _ _ => by omega, fun _ _ _ => by omega, fun _ _ _ => by omega, fun _ _ _ => by omega, fun _ _ _ => by omega, fun _ _ _ => by omega, fun _ _ _ => by omega, fun _ _ _ => by omega, fun _ _ _ => by omega, fun _ _ _ => by omega, fun _ _ _ => by omega, fun _ _ _ => by omega⟩
theorem kg_wish3 {c : Nat} {X V : Int} (h : kr c X V) (h1 : 282 ≤ X) (h2 : X ≤ 305) (h3 : X % 4 = 1) : (0 : Int) ≤ V ∧ V ≤ 96 := h.2.2.2.2.2.2.2.2.2.2.2.2.2.2.2.2.2.2.2.2 h1 h2 h3
theorem ks_wish3 {c : Nat} {X V : Int} (h1 : 282 ≤ X) (h2 : X ≤ 305) (h3 : X % 4 = 1) (h4 : (0 : Int) ≤ V ∧ V ≤ 96) : kr c X V := ⟨fun _ _ _ => by omega, fun _ _ _ => by omega, fun _ _ _ => by omega, fun _ _ _ => by omega, fun _ _ _ => by omega, fun _ _ _ => by omega, fun _ _ _ => by omega, fun _ _ _ => by omega, fun _ _ _ => by omega, fun _ _ _ => by omega, fun _ _ _ => by omega, fun _ _ _ => by omega, fun _ _ _ => by omega, fun _ _ _ => by omega, fun _ _ _ => by omega, fun _ _ _ => by omega, fun _ _ _ => by omega, fun _ _ _ => by omega, fun _ _ _ => by omega, fun _ _ _ => by omega, fun _ _ _ => by omega⟩
theorem ks_pumps {c : Nat} {X V : Int} (h1 : 0 ≤ X) (h2 : X ≤ 129) (h3 : X % 1 = 0) : kr c X V := ⟨fun _ _ _ => by omega, fun _ _ _ => by omega, fun _ _ _ => by omega, fun _ _ _ => by omega, fun _ _ _ => by omega, fun _ _ _ => by omega, fun _ _ _ => by omega, fun _ _ _ => by omega, fun _ _ _ => by omega, fun _ _ _ => by omega, fun _ _ _ => by omega, fun _ _ _ => by omega, fun _ _ _ => by omega, fun _ _ _ => by omega, fun _ _ _ => by omega, fun _ _ _ => by omega, fun _ _ _ => by omega, fun _ _ _ => by omega, fun _ _ _ => by omega, fun _ _ _ => by omega, fun _ _ _ => by omega⟩
theorem ks_boat2 {c : Nat} {X V : Int} (h1 : 136 ≤ X) (h2 : X ≤ 159) (h3 : X % 4 = 2) : kr c X V := ⟨fun _ _ _ => by omega, fun _ _ _ => by omega, fun _ _ _ => by omega, fun _ _ _ => by omega, fun _ _ _ => by omega, fun _ _ _ => by omega, fun _ _ _ => by omega, fun _ _ _ => by omega, fun _ _ _ => by omega, fun _ _ _ => by omega, fun _ _ _ => by omega, fun _ _ _ => by omega, fun _ _ _ => by omega, fun _ _ _ => by omega, fun _ _ _ => by omega, fun _ _ _ => by omega, fun _ _ _ => by omega, fun _ _ _ => by omega, fun _ _ _ => by omega, fun _ _ _ => by omega, fun _ _ _ => by omega⟩
theorem ks_boat3 {c : Nat} {X V : Int} (h1 : 136 ≤ X) (h2 : X ≤ 159) (h3 : X % 4 = 3) : kr c X V := ⟨fun _ _ _ => by omega, fun _ _ _ => by omega, fun _ _ _ => by omega, fun _ _ _ => by omega, fun _ _ _ => by omega, fun _ _ _ => by omega, fun _ _ _ => by omega, fun _ _ _ => by omega, fun _ _ _ => by omega, fun _ _ _ => by omega, fun _ _ _ => by omega, fun _ _ _ => by omega, fun _ _ _ => by omega, fun _ _ _ => by omega, fun _ _ _ => by omega, fun _ _ _ => by omega, fun _ _ _ => by omega, fun _ _ _ => by omega, fun _ _ _ => by omega, fun _ _ _ => by omega, fun _ _ _ => by omega⟩
theorem ks_pour2 {c : Nat} {X V : Int} (h1 : 160 ≤ X) (h2 : X ≤ 223) (h3 : X % 4 = 2) : kr c X V := ⟨fun _ _ _ => by omega, fun _ _ _ => by omega, fun _ _ _ => by omega, fun _ _ _ => by omega, fun _ _ _ => by omega, fun _ _ _ => by omega, fun _ _ _ => by omega, fun _ _ _ => by omega, fun _ _ _ => by omega, fun _ _ _ => by omega, fun _ _ _ => by omega, fun _ _ _ => by omega, fun _ _ _ => by omega, fun _ _ _ => by omega, fun _ _ _ => by omega, fun _ _ _ => by omega, fun _ _ _ => by omega, fun _ _ _ => by omega, fun _ _ _ => by omega, fun _ _ _ => by omega, fun _ _ _ => by omega⟩
theorem ks_pour3 {c : Nat} {X V : Int} (h1 : 160 ≤ X) (h2 : X ≤ 223) (h3 : X % 4 = 3) : kr c X V := ⟨fun _ _ _ => by omega, fun _ _ _ => by omega, fun _ _ _ => by omega, fun _ _ _ => by omega, fun _ _ _ => by omega, fun _ _ _ => by omega, fun _ _ _ => by omega, fun _ _ _ => by omega, fun _ _ _ => by omega, fun _ _ _ => by omega, fun _ _ _ => by omega, fun _ _ _ => by omega, fun _ _ _ => by omega, fun _ _ _ => by omega, fun _ _ _ => by omega, fun _ _ _ => by omega, fun _ _ _ => by omega, fun _ _ _ => by omega, fun _ _ _ => by omega, fun _ _ _ => by omega, fun _ _ _ => by omega⟩
theorem ks_sight0 {c : Nat} {X V : Int} (h1 : 224 ≤ X) (h2 : X ≤ 263) (h3 : X % 4 = 0) : kr c X V := ⟨fun _ _ _ => by omega, fun _ _ _ => by omega, fun _ _ _ => by omega, fun _ _ _ => by omega, fun _ _ _ => by omega, fun _ _ _ => by omega, fun _ _ _ => by omega, fun _ _ _ => by omega, fun _ _ _ => by omega, fun _ _ _ => by omega, fun _ _ _ => by omega, fun _ _ _ => by omega, fun _ _ _ => by omega, fun _ _ _ => by omega, fun _ _ _ => by omega, fun _ _ _ => by omega, fun _ _ _ => by omega, fun _ _ _ => by omega, fun _ _ _ => by omega, fun _ _ _ => by omega, fun _ _ _ => by omega⟩
theorem ks_sight2 {c : Nat} {X V : Int} (h1 : 224 ≤ X) (h2 : X ≤ 263) (h3 : X % 4 = 2) : kr c X V := ⟨fun _ _ _ => by omega, fun _ _ _ => by omega, fun _ _ _ => by omega, fun _ _ _ => by omega, fun _ _ _ => by omega, fun _ _ _ => by omega, fun _ _ _ => by omega, fun _ _ _ => by omega, fun _ _ _ => by omega, fun _ _ _ => by omega, fun _ _ _ => by omega, fun _ _ _ => by omega, fun _ _ _ => by omega, fun _ _ _ => by omega, fun _ _ _ => by omega, fun _ _ _ => by omega, fun _ _ _ => by omega, fun _ _ _ => by omega, fun _ _ _ => by omega, fun _ _ _ => by omega, fun _ _ _ => by omega⟩
theorem ks_sight3 {c : Nat} {X V : Int} (h1 : 224 ≤ X) (h2 : X ≤ 263) (h3 : X % 4 = 3) : kr c X V := ⟨fun _ _ _ => by omega, fun _ _ _ => by omega, fun _ _ _ => by omega, fun _ _ _ => by omega, fun _ _ _ => by omega, fun _ _ _ => by omega, fun _ _ _ => by omega, fun _ _ _ => by omega, fun _ _ _ => by omega, fun _ _ _ => by omega, fun _ _ _ => by omega, fun _ _ _ => by omega, fun _ _ _ => by omega, fun _ _ _ => by omega, fun _ _ _ => by omega, fun _ _ _ => by omega, fun _ _ _ => by omega, fun _ _ _ => by omega, fun _ _ _ => by omega, fun _ _ _ => by omega, fun _ _ _ => by omega⟩
theorem ks_job1 {c : Nat} {X V : Int} (h1 : 264 ≤ X) (h2 : X ≤ 281) (h3 : X % 3 = 1) : kr c X V := ⟨fun _ _ _ => by omega, fun _ _ _ => by omega, fun _ _ _ => by omega, fun _ _ _ => by omega, fun _ _ _ => by omega, fun _ _ _ => by omega, fun _ _ _ => by omega, fun _ _ _ => by omega, fun _ _ _ => by omega, fun _ _ _ => by omega, fun _ _ _ => by omega, fun _ _ _ => by omega, fun _ _ _ => by omega, fun _ _ _ => by omega, fun _ _ _ => by omega, fun _ _ _ => by omega, fun _ _ _ => by omega, fun _ _ _ => by omega, fun _ _ _ => by omega, fun _ _ _ => by omega, fun _ _ _ => by omega⟩
theorem ks_wish2 {c : Nat} {X V : Int} (h1 : 282 ≤ X) (h2 : X ≤ 305) (h3 : X % 4 = 0) : kr c X V := ⟨fun _ _ _ => by omega, fun _ _ _ => by omega, fun _ _ _ => by omega, fun _ _ _ => by omega, fun _ _ _ => by omega, fun _ _ _ => by omega, fun _ _ _ => by omega, fun _ _ _ => by omega, fun _ _ _ => by omega, fun _ _ _ => by omega, fun _ _ _ => by omega, fun _ _ _ => by omega, fun _ _ _ => by omega, fun _ _ _ => by omega, fun _ _ _ => by omega, fun _ _ _ => by omega, fun _ _ _ => by omega, fun _ _ _ => by omega, fun _ _ _ => by omega, fun _ _ _ => by omega, fun _ _ _ => by omega⟩
theorem ks_term {c : Nat} {X V : Int} (h1 : 306 ≤ X) (h2 : X ≤ 307) (h3 : X % 1 = 0) : kr c X V := ⟨fun _ _ _ => by omega, fun _ _ _ => by omega, fun _ _ _ => by omega, fun _ _ _ => by omega, fun _ _ _ => by omega, fun _ _ _ => by omega, fun _ _ _ => by omega, fun _ _ _ => by omega, fun _ _ _ => by omega, fun _ _ _ => by omega, fun _ _ _ => by omega, fun _ _ _ => by omega, fun _ _ _ => by omega, fun _ _ _ => by omega, fun _ _ _ => by omega, fun _ _ _ => by omega, fun _ _ _ => by omega, fun _ _ _ => by omega, fun _ _ _ => by omega, fun _ _ _ => by omega, fun _ _ _ => by omega⟩
theorem ks_free9 {c : Nat} {X V : Int} (h1 : 323 ≤ X) : kr c X V := ⟨fun _ _ _ => by omega, fun _ _ _ => by omega, fun _ _ _ => by omega, fun _ _ _ => by omega, fun _ _ _ => by omega, fun _ _ _ => by omega, fun _ _ _ => by omega, fun _ _ _ => by omega, fun _ _ _ => by omega, fun _ _ _ => by omega, fun _ _ _ => by omega, fun _ _ _ => by omega, fun _ _ _ => by omega, fun _ _ _ => by omega, fun _ _ _ => by omega, fun _ _ _ => by omega, fun _ _ _ => by omega, fun _ _ _ => by omega, fun _ _ _ => by omega, fun _ _ _ => by omega, fun _ _ _ => by omega⟩
theorem kr_zero (X : Int) : kr 0 X (Int32.toInt 0) := by
  rw [show (Int32.toInt 0) = 0 from rfl]
  exact ⟨fun _ _ _ => by omega, fun _ _ _ => by omega, fun _ _ _ => by omega, fun _ _ _ => by omega, fun _ _ _ => by omega, fun _ _ _ => by omega, fun _ _ _ => by omega, fun _ _ _ => by omega, fun _ _ _ => by omega, fun _ _ _ => by omega, fun _ _ _ => by omega, fun _ _ _ => by omega, fun _ _ _ => by omega, fun _ _ _ => by omega, fun _ _ _ => by omega, fun _ _ _ => by omega, fun _ _ _ => by omega, fun _ _ _ => by omega, fun _ _ _ => by omega, fun _ _ _ => by omega, fun _ _ _ => by omega⟩
theorem kr_c {c c' : Nat} {X V : Int} (hx : X ≠ 312) (h : kr c X V) : kr c' X V := ⟨h.1, h.2.1, h.2.2.1, h.2.2.2.1, fun _ _ _ => by omega, h.2.2.2.2.2.1, h.2.2.2.2.2.2.1, h.2.2.2.2.2.2.2.1, h.2.2.2.2.2.2.2.2.1, h.2.2.2.2.2.2.2.2.2.1, h.2.2.2.2.2.2.2.2.2.2.1, h.2.2.2.2.2.2.2.2.2.2.2.1, h.2.2.2.2.2.2.2.2.2.2.2.2.1, h.2.2.2.2.2.2.2.2.2.2.2.2.2.1, h.2.2.2.2.2.2.2.2.2.2.2.2.2.2.1, h.2.2.2.2.2.2.2.2.2.2.2.2.2.2.2.1, h.2.2.2.2.2.2.2.2.2.2.2.2.2.2.2.2.1, h.2.2.2.2.2.2.2.2.2.2.2.2.2.2.2.2.2.1, h.2.2.2.2.2.2.2.2.2.2.2.2.2.2.2.2.2.2.1, h.2.2.2.2.2.2.2.2.2.2.2.2.2.2.2.2.2.2.2.1, h.2.2.2.2.2.2.2.2.2.2.2.2.2.2.2.2.2.2.2.2⟩
def kT (f : Nat → Int32) (t : Nat) : Nat := (f (317 + t)).toInt.toNat
def kC (f : Nat → Int32) (t j : Nat) : Int := if j < kT f t then (f (323 + 400 * t + j)).toInt else 0
def LawOK (f : Nat → Int32) (t : Nat) : Prop := kT f t = 0 ∨ ∃ n, g_lw (kC f t) (kT f t) n 0
def kOk (c : Nat) (f : Nat → Int32) : Prop := (∀ j : Nat, j < 5123 → kr c j (f j).toInt) ∧ ∀ t : Nat, t < 6 → LawOK f t
theorem kOk.get {c : Nat} {f : Nat → Int32} {i x : Int32} {X : Int} (h : kOk c f) (e : x = f i.toNatClampNeg) (hi : i.toInt = X) (h0 : 0 ≤ X) (h1 : X < 5123) : kr c X x.toInt := by
  have e1 : (i.toNatClampNeg : Int) = X := by rw [← hi]; show ((i.toInt.toNat : Nat) : Int) = _; omega
  have := h.1 i.toNatClampNeg (by omega)
  rw [e1, ← e] at this
  exact this
theorem LawOK.congr {f g : Nat → Int32} {t : Nat} (ht : t < 6) (h : ∀ j, 317 ≤ j → j < 5123 → g j = f j) (hs : (f (317 + t)).toInt ≤ 400) (hl : LawOK f t) : LawOK g t := by
  have e1 : kT g t = kT f t := by unfold kT; rw [h _ (by omega) (by omega)]
  have e2 : kC g t = kC f t := by
    funext j
    unfold kC
    rw [e1]
    by_cases hj : j < kT f t
    · rw [if_pos hj, if_pos hj, h _ (by omega) (by unfold kT at hj; omega)]
    · rw [if_neg hj, if_neg hj]
  unfold LawOK
  rw [e1, e2]
  exact hl
theorem kOk.size {c : Nat} {f : Nat → Int32} {t : Nat} (h : kOk c f) (ht : t < 6) : 0 ≤ (f (317 + t)).toInt ∧ (f (317 + t)).toInt ≤ 400 := kg_sizes (h.1 (317 + t) (by omega)) (by omega) (by omega) (by omega)
theorem kOk.set {c : Nat} {f : Nat → Int32} {i v : Int32} {X V : Int} (h : kOk c f) (hi : i.toInt = X) (hv : v.toInt = V) (h0 : 0 ≤ X) (h1 : X < 317) (hk : kr c X V) : kOk c (upd f i.toNatClampNeg v) := by
  have e1 : (i.toNatClampNeg : Int) = X := by rw [← hi]; show ((i.toInt.toNat : Nat) : Int) = _; omega
  refine ⟨fun j hj => ?_, fun t ht => ?_⟩
  · by_cases e : j = i.toNatClampNeg
    · subst e
      rw [pk_us, e1, hv]
      exact hk
    · rw [pk_un e]
      exact h.1 j hj
  · exact (h.2 t ht).congr ht (fun j hj _ => pk_un (by omega)) (h.size ht).2
theorem kOk.congr {c : Nat} {f g : Nat → Int32} (h : ∀ j, j < 5123 → g j = f j) (hk : kOk c f) : kOk c g := ⟨fun j hj => by rw [h j hj]; exact hk.1 j hj, fun t ht => (hk.2 t ht).congr ht (fun j _ hj => h j hj) (hk.size ht).2⟩
theorem kOk.zero : kOk 0 (fun _ => 0) := ⟨fun j _ => kr_zero _, fun t _ => Or.inl rfl⟩
def iOk (c d : Nat) (f : Nat → Int32) : Prop := kOk c f ∧ kOk d (fun j => f (5123 + j))
theorem iOk.zero : iOk 0 0 (fun _ => 0) := ⟨kOk.zero, kOk.zero⟩
theorem kOk.setT {c c' : Nat} {f : Nat → Int32} {i v : Int32} (h : kOk c f) (hi : i.toInt = 312) (hv : v.toInt = ((c' : Nat) : Int)) (hc : c' ≤ 10) : kOk c' (upd f i.toNatClampNeg v) := by
  have e1 : i.toNatClampNeg = 312 := by show i.toInt.toNat = _; omega
  refine ⟨fun j hj => ?_, fun t ht => ?_⟩
  · by_cases e : j = i.toNatClampNeg
    · subst e
      rw [pk_us, e1]
      exact ks_m312 (by omega) (by omega) (by omega) ⟨by omega, by omega, hv⟩
    · rw [pk_un e]
      exact kr_c (by omega) (h.1 j hj)
  · exact (h.2 t ht).congr ht (fun j hj _ => pk_un (by omega)) (h.size ht).2
