/-! ===== laws read: where the reading stands ===== -/
def RD (E : Nat → Nat) (D : va_G) (G : th_G) (h0 : Nat) (ff cd : Nat → Int32) (TT pp : Nat) (bb : Int32) (H : Heap) : Prop := kOk (E 10) ff ∧ TT ≤ 400 ∧ (cd TT).toInt = 0 ∧ pp ≤ TT ∧ ga E D G h0 3 (1, 5123) ff H ∧ ga E D G h0 12 (8, 401) cd H ∧ (∃ z, gf D h0 15 z H ∧ z.toInt = (TT : Int)) ∧ (∃ z, gf D h0 16 z H ∧ z.toInt = (pp : Int)) ∧ gf D h0 18 bb H
theorem rC_rd {cd : Nat → Int32} {TT j : Nat} {x i : Int32} (ex : x = cd i.toNatClampNeg) (hi : i.toInt = (j : Int)) (hj : j ≤ TT) (hz : (cd TT).toInt = 0) : rC cd TT j = x.toInt := by
  have : i.toNatClampNeg = j := by show i.toInt.toNat = _; omega
  rw [ex, this]
  unfold rC
  by_cases h : j < TT
  · rw [if_pos h]
  · rw [if_neg h, show j = TT by omega, hz]
theorem rC_lt {cd : Nat → Int32} {TT j : Nat} (h : rC cd TT j ≠ 0) : j < TT := by
  refine Nat.not_le.mp fun z => h ?_
  unfold rC
  rw [if_neg (Nat.not_lt.mpr z)]
section RL
variable {f : Nat → Int} {d p p1 p3 : Nat}
theorem r7_i (h : Gr f 0 d p p1) : ∀ r, Gr f 7 d p1 r → Gr f 1 d p r := fun r hr => Gr.mk ⟨p1, h, hr⟩
theorem r7_x (h : ∀ r, Gr f 7 d p1 r → Gr f 1 d p r) (e1 : f p1 ≠ 142) (e2 : f p1 ≠ 147) (e3 : f p1 ≠ 137) : Gr f 1 d p p1 := h p1 (Gr.mk (Or.inl ⟨fun o => by rcases o with o | o | o <;> omega, rfl⟩))
theorem r7_m (h : ∀ r, Gr f 7 d p1 r → Gr f 1 d p r) (e : f p1 = 142 ∨ f p1 = 147 ∨ f p1 = 137) (h2 : Gr f 0 d (p1 + 1) p3) : ∀ r, Gr f 7 d p3 r → Gr f 1 d p r := fun r hr => h r (Gr.mk (Or.inr ⟨e, p3, h2, hr⟩))
theorem r8_i (h : Gr f 1 d p p1) : ∀ r, Gr f 8 d p1 r → Gr f 2 d p r := fun r hr => Gr.mk ⟨p1, h, hr⟩
theorem r8_x (h : ∀ r, Gr f 8 d p1 r → Gr f 2 d p r) (e1 : f p1 ≠ 143) (e2 : f p1 ≠ 145) : Gr f 2 d p p1 := h p1 (Gr.mk (Or.inl ⟨fun o => by rcases o with o | o <;> omega, rfl⟩))
theorem r8_m (h : ∀ r, Gr f 8 d p1 r → Gr f 2 d p r) (e : f p1 = 143 ∨ f p1 = 145) (h2 : Gr f 1 d (p1 + 1) p3) : ∀ r, Gr f 8 d p3 r → Gr f 2 d p r := fun r hr => h r (Gr.mk (Or.inr ⟨e, p3, h2, hr⟩))
theorem r9_i (h : Gr f 3 d p p1) : ∀ r, Gr f 9 d p1 r → Gr f 4 d p r := fun r hr => Gr.mk ⟨p1, h, hr⟩
theorem r9_x (h : ∀ r, Gr f 9 d p1 r → Gr f 4 d p r) (e1 : f p1 ≠ 7) : Gr f 4 d p p1 := h p1 (Gr.mk (Or.inl ⟨e1, rfl⟩))
theorem r9_m (h : ∀ r, Gr f 9 d p1 r → Gr f 4 d p r) (e : f p1 = 7) (h2 : Gr f 3 d (p1 + 1) p3) : ∀ r, Gr f 9 d p3 r → Gr f 4 d p r := fun r hr => h r (Gr.mk (Or.inr ⟨e, p3, h2, hr⟩))
theorem r10_i (h : Gr f 4 d p p1) : ∀ r, Gr f 10 d p1 r → Gr f 5 d p r := fun r hr => Gr.mk ⟨p1, h, hr⟩
theorem r10_x (h : ∀ r, Gr f 10 d p1 r → Gr f 5 d p r) (e1 : f p1 ≠ 6) : Gr f 5 d p p1 := h p1 (Gr.mk (Or.inl ⟨e1, rfl⟩))
theorem r10_m (h : ∀ r, Gr f 10 d p1 r → Gr f 5 d p r) (e : f p1 = 6) (h2 : Gr f 4 d (p1 + 1) p3) : ∀ r, Gr f 10 d p3 r → Gr f 5 d p r := fun r hr => h r (Gr.mk (Or.inr ⟨e, p3, h2, hr⟩))
theorem r3_m (h : ∀ r, Gr f 3 d p1 r → Gr f 3 d p r) (e : f p1 = 8) : ∀ r, Gr f 3 d (p1 + 1) r → Gr f 3 d p r := fun r hr => h r (Gr.mk (Or.inl ⟨e, hr⟩))
theorem r3_br {m q : Nat} (h : ∀ r, Gr f 3 d p1 r → Gr f 3 d p r) (e : f p1 = 140) (hd : d < 8) (h5 : Gr f 5 (d + 1) (p1 + 1) m) (hm : f m = 141) (hq : q = m + 1) : Gr f 3 d p q := h q (Gr.mk (Or.inr ⟨by omega, Gr.mk (Or.inl ⟨e, hd, m, h5, hm, hq⟩)⟩))
theorem r3_x {m q : Nat} (h : ∀ r, Gr f 3 d p1 r → Gr f 3 d p r) (e8 : f p1 ≠ 8) (e : f p1 ≠ 140) (h2 : Gr f 2 d p1 m) (hm : f m = 160 ∨ f m = 161 ∨ f m = 162) (h3 : Gr f 2 d (m + 1) q) : Gr f 3 d p q := h q (Gr.mk (Or.inr ⟨e8, Gr.mk (Or.inr ⟨e, m, h2, hm, h3⟩)⟩))
theorem r0_br {m q : Nat} (e : f p = 191) (hd : d < 8) (h2 : Gr f 2 (d + 1) (p + 1) m) (hm : f m = 193) (hq : q = m + 1) : Gr f 0 d p q := Gr.mk (Or.inr ⟨e, hd, m, h2, hm, hq⟩)
theorem r0_lf {q : Nat} (e : f p = 50 ∨ (9 ≤ f p ∧ f p ≤ 17)) (hq : q = p + 1) : Gr f 0 d p q := Gr.mk (Or.inl ⟨e, hq⟩)
theorem cl_1 {m q : Nat} (e : f p = 1 ∨ f p = 2 ∨ f p = 3) (h2 : Gr f 2 0 (p + 1) m) (h : (f m ≠ 5 ∧ q = m) ∨ (f m = 5 ∧ Gr f 5 0 (m + 1) q)) : g_cl f p q := ⟨m, Or.inl ⟨e, h2⟩, h⟩
theorem cl_2 {m q : Nat} (e : f p = 4) (hm : m = p + 1) (h : (f m ≠ 5 ∧ q = m) ∨ (f m = 5 ∧ Gr f 5 0 (m + 1) q)) : g_cl f p q := ⟨m, Or.inr ⟨e, hm⟩, h⟩
/-- clauses so far: what comes behind makes it whole -/
def g_so (f : Nat → Int) (T p : Nat) : Prop := ∀ n, (p = T ∨ (f p = 159 ∧ g_lw f T n (p + 1))) → ∃ k, g_lw f T k 0
theorem so_i {T : Nat} (h : g_cl f 0 p1) : g_so f T p1 := fun n hn => ⟨n + 1, p1, h, hn⟩
theorem so_m {T : Nat} (h : g_so f T p1) (e : f p1 = 159) (h2 : g_cl f (p1 + 1) p3) : g_so f T p3 := fun n hn => h (n + 1) (Or.inr ⟨e, p3, h2, hn⟩)
theorem so_x {T : Nat} (h : g_so f T p1) (e : p1 = T) : ∃ k, g_lw f T k 0 := h 0 (Or.inl e)
end RL
/-- a law has been read -/
def LD (E : Nat → Nat) (D : va_G) (G : th_G) (h0 : Nat) (ff : Nat → Int32) (H : Heap) : Prop := ∃ (cd : Nat → Int32) (TT : Nat), TT ≤ 400 ∧ ga E D G h0 3 (1, 5123) ff H ∧ ga E D G h0 12 (8, 401) cd H ∧ (∃ z, gf D h0 15 z H ∧ z.toInt = (TT : Int)) ∧ ∃ n, g_lw (rC cd TT) TT n 0
theorem db_step {F : Nat → Int32} {i : Int32} {X : Int} (h : ∀ j : Nat, (j : Int) < X → F j = -1) (hi : i.toInt = X) (h0 : 0 ≤ X) : ∀ j : Nat, (j : Int) < X + 1 → upd F i.toNatClampNeg (-1) j = -1 := fun j hj => by
  by_cases e : j = i.toNatClampNeg
  · rw [e, pk_us]
  · rw [pk_un e]
    refine h j ?_
    have : (i.toNatClampNeg : Int) = X := by rw [← hi]; show ((i.toInt.toNat : Nat) : Int) = _; omega
    omega
theorem dk_step {F : Nat → Int32} {i v x : Int32} (ex : x = F i.toNatClampNeg) (hx : x.toInt = -1) (h0 : 0 ≤ i.toInt) (h1 : i.toInt < 25) (hv : 0 ≤ v.toInt) : cN (upd F i.toNatClampNeg v) 25 + 1 = cN F 25 := by
  refine cN_upd (fun z => ?_) ?_ 25 (by show i.toInt.toNat < 25; omega)
  · rw [z, show (-1 : Int32).toInt = -1 from by decide] at hv; omega
  · rw [← ex]; exact Int32.toInt_inj.mp (by rw [hx]; decide)
theorem ord_ok {c : Nat} {f : Nat → Int32} (h : kOk c f) : 0 ≤ (0 : Int32).toInt ∧ (0 : Int32).toInt ≤ (f 313).toInt := ⟨by decide, (kg_m313 (h.1 313 (by omega)) (by omega) (by omega) (by omega)).1⟩
theorem ord_6 {c : Nat} {f : Nat → Int32} (h : kOk c f) : (f 313).toInt - (0 : Int32).toInt ≤ ((6 : Nat) : Int) := by
  have := (kg_m313 (h.1 313 (by omega)) (by omega) (by omega) (by omega)).2
  rw [show (0 : Int32).toInt = 0 from by decide]; omega
