/-! ===== the law: two worlds side by side ===== -/
abbrev LWa (s : State) : Nat → Prop := fun q => s.heap.size ≤ q
def LWs (E : Nat → Nat) (D : va_G) (s : State) (xa ma : Nat) (Gc Gm : th_G) (n : Nat) (H : Heap) (locs : List Loc) : Prop := th_I (okC E) D Gc [] H ∧ Gc xa = some (15, n) ∧ th_I (okM E) D Gm [] H ∧ Gm ma = some (10, 0) ∧ (∀ (r : Nat) (k : th_K), Gc r = some k → s.heap.size ≤ r) ∧ (∀ (r : Nat) (k : th_K), Gm r = some k → s.heap.size ≤ r) ∧ (∀ (r : Nat) (k : th_K), Gm r = some k → Gc r = none) ∧ va_S (LWa s) s.heap H locs
theorem th_keep {ok : th_G → Nat → th_K → va_E → Prop} {D : va_G} {G : th_G} {H H1 : Heap} {B : Nat → Prop} (hI : th_I ok D G [] H) (hk : ∀ q : Nat, q < H.size → ¬ B q → H1[q]? = H[q]?) (hd : ∀ (r : Nat) (k : th_K), G r = some k → ¬ B r) : th_I ok D G [] H1 := fun b k hb hx => by
  obtain ⟨e, h1, h2⟩ := hI b k hb hx
  exact ⟨e, h1.kept (hk b h1.lt (hd b k hb)), h2⟩
theorem mm_lt' {E : Nat → Nat} {D : va_G} {G : th_G} {H : Heap} (hI : th_I (okM E) D G [] H) {q : Nat} {k : th_K} (h : G q = some k) : q < H.size := by
  obtain ⟨e, h1, -⟩ := hI q k h List.not_mem_nil
  exact h1.lt
theorem mi_blind {E : Nat → Nat} {D : va_G} {G : th_G} {av : List Value} {sz : Nat} : FrameBlind (va_Pc av (fun U => U.heap.size = sz ∧ th_P E D G U ∧ th_AO U)) := fun a U g mk z => ⟨z.1, z.2.1, ⟨z.2.2.1.1, th_N.same (u := U) rfl z.2.2.1.2.1, va_K.moved (u := U) (U := U.calling g mk a) (Vm.Alike.refl U.vm) z.2.2.1.2.2⟩, z.2.2.2.moved (U := U.calling g mk a) (Vm.Alike.refl U.vm)⟩
theorem mb_blind {E : Nat → Nat} {D : va_G} {G : th_G} {av : List Value} {sz : Nat} {q : Nat × va_E} : FrameBlind (va_Pc av (fun U => U.heap.size = sz ∧ th_PM E D G U ∧ va_at D vwCl q U.heap)) := fun a U g mk z => ⟨z.1, z.2.1, ⟨z.2.2.1.1, th_N.same (u := U) rfl z.2.2.1.2.1, va_K.moved (u := U) (U := U.calling g mk a) (Vm.Alike.refl U.vm) z.2.2.1.2.2⟩, z.2.2.2⟩
/-! ===== the ties ===== -/
theorem IMQ_lo {G' : th_G} {E E' : Nat → Nat} {sz n t : Nat} {x : Int32} (h : IMQ G' E E' sz n t x) : ∀ j : Nat, j < 32 → E' j = E j := fun j hj => by
  rcases h with ⟨_, h⟩ | ⟨i, z, u, _, _, _, _, _, _, _, h, _⟩
  · rw [h]
  · exact h j (by omega) (by omega) (by omega)
def TJ (E : Nat → Nat) (Gc : th_G) (sa t nn j : Nat) : Prop := (E (32 + j + 8 * nn) = 0 ∧ E (13 + j) = 0) ∨ (E (13 + j) = 1 ∧ ∃ z u : Nat, E (32 + j + 8 * nn) = z + 1 ∧ E (32 + 8 * z) = u + 1 ∧ E (32 + 8 * u) = E (11 + j) ∧ Gc z = some (6, 0) ∧ Gc u = some (4, 42) ∧ z ≠ sa ∧ u ≠ t)
def TD (E : Nat → Nat) (nn : Nat) : Prop := ∀ z z' u u' : Nat, E (32 + 0 + 8 * nn) = z + 1 → E (32 + 1 + 8 * nn) = z' + 1 → E (32 + 8 * z) = u + 1 → E (32 + 8 * z') = u' + 1 → z ≠ z' ∧ u ≠ u'
def TS (E : Nat → Nat) (Gc : th_G) (xa nn sa t : Nat) : Prop := E (32 + 8 * xa) = sa + 1 ∧ E (32 + 8 * sa) = t + 1 ∧ E (32 + 8 * t) = E 10 ∧ Gc sa = some (6, 0) ∧ Gc t = some (4, 42) ∧ Gc nn = some (3, 2) ∧ Gc xa = some (15, nn) ∧ TJ E Gc sa t nn 0 ∧ TJ E Gc sa t nn 1 ∧ TD E nn
def TI (E : Nat → Nat) (Gc : th_G) (xa nn : Nat) : Prop := ∃ sa t : Nat, TS E Gc xa nn sa t
theorem TI_gle {E : Nat → Nat} {Gc G' : th_G} {xa nn : Nat} (hle : gle Gc G') (h : TI E Gc xa nn) : TI E G' xa nn := by
  obtain ⟨sa, t, a1, a2, a3, a4, a5, a6, a7, j0, j1, d⟩ := h
  have hj : ∀ j, TJ E Gc sa t nn j → TJ E G' sa t nn j := fun j z => by
    rcases z with z | ⟨b1, z, u, b2, b3, b4, b5, b6, b7⟩
    · exact Or.inl z
    · exact Or.inr ⟨b1, z, u, b2, b3, b4, hle _ _ b5, hle _ _ b6, b7⟩
  exact ⟨sa, t, a1, a2, a3, hle _ _ a4, hle _ _ a5, hle _ _ a6, hle _ _ a7, hj _ j0, hj _ j1, d⟩
theorem TI_set {E : Nat → Nat} {Gc : th_G} {xa nn sa t v : Nat} (h : TS E Gc xa nn sa t) : TI (eu (eu E (32 + 8 * t) v) 10 v) Gc xa nn := by
  obtain ⟨a1, a2, a3, a4, a5, a6, a7, j0, j1, d⟩ := h
  have n1 : xa ≠ t := ea_ne a7 a5 (by decide)
  have n2 : sa ≠ t := ea_ne a4 a5 (by decide)
  have n3 : nn ≠ t := ea_ne a6 a5 (by decide)
  have e : ∀ k, k ≠ 32 + 8 * t → k ≠ 10 → eu (eu E (32 + 8 * t) v) 10 v k = E k := fun k h1 h2 => by rw [eu_ne h2, eu_ne h1]
  have hj : ∀ j, j < 2 → TJ E Gc sa t nn j → TJ (eu (eu E (32 + 8 * t) v) 10 v) Gc sa t nn j := fun j hj z => by
    rcases z with ⟨z1, z2⟩ | ⟨b1, z, u, b2, b3, b4, b5, b6, b7, b8⟩
    · exact Or.inl ⟨by rw [e _ (by omega) (by omega)]; exact z1, by rw [e _ (by omega) (by omega)]; exact z2⟩
    · have n4 : z ≠ t := ea_ne b5 a5 (by decide)
      exact Or.inr ⟨by rw [e _ (by omega) (by omega)]; exact b1, z, u, by rw [e _ (by omega) (by omega)]; exact b2, by rw [e _ (by omega) (by omega)]; exact b3, by rw [e _ (by omega) (by omega), e _ (by omega) (by omega)]; exact b4, b5, b6, b7, b8⟩
  refine ⟨sa, t, by rw [e _ (by omega) (by omega)]; exact a1, by rw [e _ (by omega) (by omega)]; exact a2, by rw [eu_at, eu_ne (by omega), eu_at], a4, a5, a6, a7, hj 0 (by omega) j0, hj 1 (by omega) j1, fun z z' u u' h1 h2 h3 h4 => ?_⟩
  have nz : ∀ (j z : Nat), j < 2 → TJ E Gc sa t nn j → E (32 + j + 8 * nn) = z + 1 → z ≠ t := fun j z _ hz h9 => by
    rcases hz with ⟨q1, _⟩ | ⟨_, y, _, q1, _, _, q2, _⟩
    · omega
    · have : y = z := by omega
      rw [← this]
      exact ea_ne q2 a5 (by decide)
  rw [e _ (by omega) (by omega)] at h1 h2
  have m1 := nz 0 z (by omega) j0 h1
  have m2 := nz 1 z' (by omega) j1 h2
  rw [e _ (by omega) (by omega)] at h3 h4
  exact d z z' u u' h1 h2 h3 h4
theorem TJ_u {E : Nat → Nat} {a b c : Nat} {R : Nat → Nat → Prop} (h : (E a = 0 ∧ E b = 0) ∨ (E b = 1 ∧ ∃ z u : Nat, E a = z + 1 ∧ E (32 + 8 * z) = u + 1 ∧ E (32 + 8 * u) = E c ∧ R z u)) : ∃ u0 : Nat, (∀ z : Nat, E a = z + 1 → E (32 + 8 * z) = u0 + 1) ∧ ((E a = 0 ∧ E b = 0) ∨ (E a ≠ 0 ∧ E b ≠ 0 ∧ E (32 + 8 * u0) = E c)) := by
  rcases h with ⟨p, q⟩ | ⟨q, z, u, r1, r2, r3, _⟩
  · exact ⟨0, fun z hz => by omega, Or.inl ⟨p, q⟩⟩
  · refine ⟨u, fun y hy => ?_, Or.inr ⟨by omega, by omega, r3⟩⟩
    have : y = z := by omega
    rw [this]; exact r2
theorem TI_back {E : Nat → Nat} {Gc : th_G} {xa nn sa t : Nat} {x : Int32} (h : TS E Gc xa nn sa t) : ∃ u0 u1 : Nat, (∀ z : Nat, E (32 + 8 * nn) = z + 1 → E (32 + 8 * z) = u0 + 1) ∧ (∀ z : Nat, E (33 + 8 * nn) = z + 1 → E (32 + 8 * z) = u1 + 1) ∧ ∀ v : Nat, gBm (eu E (32 + 8 * t) v) x = gB E nn t u0 u1 x := by
  obtain ⟨a1, a2, a3, a4, a5, a6, a7, j0, j1, d⟩ := h
  obtain ⟨u0, f0, g0⟩ := TJ_u (a := 32 + 8 * nn) (b := 13) (c := 11) j0
  obtain ⟨u1, f1, g1⟩ := TJ_u (a := 33 + 8 * nn) (b := 14) (c := 12) j1
  refine ⟨u0, u1, f0, f1, fun v => ?_⟩
  unfold gB gBm
  rw [a3, eu_ne (show 10 ≠ 32 + 8 * t by omega), eu_ne (show 11 ≠ 32 + 8 * t by omega), eu_ne (show 12 ≠ 32 + 8 * t by omega), eu_ne (show 13 ≠ 32 + 8 * t by omega), eu_ne (show 14 ≠ 32 + 8 * t by omega)]
  have A : (x.toInt = 0 ∧ E 13 ≠ 0) ↔ (x.toInt = 0 ∧ E (32 + 8 * nn) ≠ 0) := by
    constructor <;> intro z <;> rcases g0 with g | g <;> omega
  have B : (x.toInt = 1 ∧ E 14 ≠ 0) ↔ (x.toInt = 1 ∧ E (33 + 8 * nn) ≠ 0) := by
    constructor <;> intro z <;> rcases g1 with g | g <;> omega
  by_cases h1 : x.toInt = 0 ∧ E (32 + 8 * nn) ≠ 0
  · rw [if_pos h1, if_pos (A.mpr h1)]
    rcases g0 with g | g
    · exact absurd g.1 h1.2
    · exact g.2.2.symm
  · rw [if_neg h1, if_neg (fun z => h1 (A.mp z))]
    by_cases h2 : x.toInt = 1 ∧ E (33 + 8 * nn) ≠ 0
    · rw [if_pos h2, if_pos (B.mpr h2)]
      rcases g1 with g | g
      · exact absurd g.1 h2.2
      · exact g.2.2.symm
    · rw [if_neg h2, if_neg (fun z => h2 (B.mp z))]
theorem TI_image {E E1 : Nat → Nat} {Gc G' : th_G} {xa nn sa t sz : Nat} {x : Int32} (h : TS E Gc xa nn sa t) (hle : gle Gc G') (hq : IMQ G' E E1 sz nn t x) (hsz : ∀ (q : Nat) (k : th_K), Gc q = some k → q < sz) : TI (mI E1 x) G' xa nn := by
  obtain ⟨a1, a2, a3, a4, a5, a6, a7, j0, j1, d⟩ := h
  rcases hq with ⟨hr, hE⟩ | ⟨j, z, u, hj, hx, b1, b2, b3, b4, b5, b6, b7⟩
  · rw [mI_f hr, hE]
    exact TI_gle hle ⟨sa, t, a1, a2, a3, a4, a5, a6, a7, j0, j1, d⟩
  · rw [mI_t hj hx.symm]
    have TJs : ∀ i, i < 2 → TJ E Gc sa t nn i := fun i hi => by
      rcases (show i = 0 ∨ i = 1 by omega) with e | e
      · rw [e]; exact j0
      · rw [e]; exact j1
    have c4 := hle _ _ a4
    have c5 := hle _ _ a5
    have c6 := hle _ _ a6
    have c7 := hle _ _ a7
    have m1 : xa ≠ z := ea_ne c7 b4 (by decide)
    have m2 : xa ≠ u := ea_ne c7 b5 (by decide)
    have m3 : nn ≠ z := ea_ne c6 b4 (by decide)
    have m4 : nn ≠ u := ea_ne c6 b5 (by decide)
    have m5 : sa ≠ u := ea_ne c4 b5 (by decide)
    have m6 : t ≠ z := ea_ne c5 b4 (by decide)
    have m7 : xa ≠ nn := ea_ne c7 c6 (by decide)
    have m8 : sa ≠ nn := ea_ne c4 c6 (by decide)
    have m9 : t ≠ nn := ea_ne c5 c6 (by decide)
    have m10 : z ≠ u := ea_ne b4 b5 (by decide)
    have hst : sa ≠ z ∧ t ≠ u := by
      rcases b7 with ⟨p, q⟩ | ⟨_, p, q⟩
      · rcases TJs j hj with ⟨r, _⟩ | ⟨_, y, w, r1, r2, _, _, _, r3, r4⟩
        · omega
        · have ey : y = z := by omega
          rw [ey] at r2 r3
          have ew : w = u := by omega
          rw [ew] at r4
          exact ⟨fun e => r3 e.symm, fun e => r4 e.symm⟩
      · have := hsz _ _ a4
        have := hsz _ _ a5
        exact ⟨by omega, by omega⟩
    obtain ⟨hsaz, htu⟩ := hst
    have ot : ∀ i z' u' : Nat, i < 2 → i ≠ j → E (32 + i + 8 * nn) = z' + 1 → E (32 + 8 * z') = u' + 1 → Gc z' = some (6, 0) → Gc u' = some (4, 42) → z' ≠ z ∧ u' ≠ u := fun i z' u' hi hij h1 h2 h3 h4 => by
      rcases b7 with ⟨p, q⟩ | ⟨_, p, q⟩
      · rcases (show (i = 0 ∧ j = 1) ∨ (i = 1 ∧ j = 0) by omega) with ⟨e1, e2⟩ | ⟨e1, e2⟩
        · rw [e1] at h1; rw [e2] at p
          exact d z' z u' u h1 p h2 q
        · rw [e1] at h1; rw [e2] at p
          have := d z z' u u' p h1 q h2
          exact ⟨fun e => this.1 e.symm, fun e => this.2 e.symm⟩
      · have := hsz _ _ h3
        have := hsz _ _ h4
        exact ⟨by omega, by omega⟩
    have e2 : ∀ k, k ≠ 11 + j → k ≠ 13 + j → eu (eu E1 (11 + j) (E1 10)) (13 + j) 1 k = E1 k := fun k h1 h2 => by rw [eu_ne h2, eu_ne h1]
    have e3 : ∀ k, k ≠ 11 + j → k ≠ 13 + j → k ≠ 32 + j + 8 * nn → k ≠ 32 + 8 * z → k ≠ 32 + 8 * u → eu (eu E1 (11 + j) (E1 10)) (13 + j) 1 k = E k := fun k h1 h2 h3 h4 h5 => by rw [e2 k h1 h2, b6 k h3 h4 h5]
    have E10 : E1 10 = E 10 := b6 10 (by omega) (by omega) (by omega)
    generalize hE2 : eu (eu E1 (11 + j) (E1 10)) (13 + j) 1 = E2 at e2 e3
    have w1 : E2 (11 + j) = E 10 := by rw [← hE2, eu_ne (by omega), eu_at, E10]
    have w2 : E2 (13 + j) = 1 := by rw [← hE2, eu_at]
    have TJn : ∀ i, i < 2 → TJ E2 G' sa t nn i := fun i hi => by
      by_cases hij : i = j
      · rw [hij]
        exact Or.inr ⟨w2, z, u, by rw [e2 _ (by omega) (by omega)]; exact b1, by rw [e2 _ (by omega) (by omega)]; exact b2, by rw [e2 _ (by omega) (by omega), b3, a3, w1], b4, b5, fun e => hsaz e.symm, fun e => htu e.symm⟩
      · rcases TJs i hi with ⟨r1, r2⟩ | ⟨r0, y, w, r1, r2, r3, r4, r5, r6, r7⟩
        · exact Or.inl ⟨by rw [e3 _ (by omega) (by omega) (by omega) (by omega) (by omega)]; exact r1, by rw [e3 _ (by omega) (by omega) (by omega) (by omega) (by omega)]; exact r2⟩
        · obtain ⟨o1, o2⟩ := ot i y w hi hij r1 r2 r4 r5
          have k1 : y ≠ u := ea_ne (hle _ _ r4) b5 (by decide)
          have k2 : w ≠ z := ea_ne (hle _ _ r5) b4 (by decide)
          have k3 : y ≠ nn := ea_ne (hle _ _ r4) c6 (by decide)
          have k4 : w ≠ nn := ea_ne (hle _ _ r5) c6 (by decide)
          exact Or.inr ⟨by rw [e3 _ (by omega) (by omega) (by omega) (by omega) (by omega)]; exact r0, y, w, by rw [e3 _ (by omega) (by omega) (by omega) (by omega) (by omega)]; exact r1, by rw [e3 _ (by omega) (by omega) (by omega) (by omega) (by omega)]; exact r2, by rw [e3 _ (by omega) (by omega) (by omega) (by omega) (by omega), e3 (11 + i) (by omega) (by omega) (by omega) (by omega) (by omega)]; exact r3, hle _ _ r4, hle _ _ r5, r6, r7⟩
    have n1 : E2 (32 + j + 8 * nn) = z + 1 := by rw [e2 _ (by omega) (by omega)]; exact b1
    have n2 : E2 (32 + 8 * z) = u + 1 := by rw [e2 _ (by omega) (by omega)]; exact b2
    have on : ∀ i z' u' : Nat, i < 2 → i ≠ j → E2 (32 + i + 8 * nn) = z' + 1 → E2 (32 + 8 * z') = u' + 1 → z' ≠ z ∧ u' ≠ u := fun i z' u' hi hij h1 h2 => by
      rw [e3 _ (by omega) (by omega) (by omega) (by omega) (by omega)] at h1
      rcases TJs i hi with ⟨r1, _⟩ | ⟨r0, y, w, r1, r2, r3, r4, r5, r6, r7⟩
      · omega
      · have ey : y = z' := by omega
        obtain ⟨o1, o2⟩ := ot i y w hi hij r1 r2 r4 r5
        have k1 : y ≠ u := ea_ne (hle _ _ r4) b5 (by decide)
        have k3 : y ≠ nn := ea_ne (hle _ _ r4) c6 (by decide)
        rw [← ey, e3 _ (by omega) (by omega) (by omega) (by omega) (by omega)] at h2
        have ew : w = u' := by omega
        rw [← ey, ← ew]
        exact ⟨o1, o2⟩
    refine ⟨sa, t, by rw [e3 _ (by omega) (by omega) (by omega) (by omega) (by omega)]; exact a1, by rw [e3 _ (by omega) (by omega) (by omega) (by omega) (by omega)]; exact a2, by rw [e3 _ (by omega) (by omega) (by omega) (by omega) (by omega), e3 10 (by omega) (by omega) (by omega) (by omega) (by omega)]; exact a3, c4, c5, c6, c7, TJn 0 (by omega), TJn 1 (by omega), fun za zb ua ub h1 h2 h3 h4 => ?_⟩
    rcases (show j = 0 ∨ j = 1 by omega) with e | e
    · rw [e] at n1
      have q1 : za = z := by omega
      rw [q1] at h3 ⊢
      have q2 : ua = u := by omega
      rw [q2]
      have := on 1 zb ub (by omega) (by omega) h2 h4
      exact ⟨fun y => this.1 y.symm, fun y => this.2 y.symm⟩
    · rw [e] at n1
      have q1 : zb = z := by omega
      rw [q1] at h4 ⊢
      have q2 : ub = u := by omega
      rw [q2]
      exact on 0 za ua (by omega) (by omega) h1 h3
theorem TI_init {E : Nat → Nat} {D : va_G} {Gc : th_G} {H : Heap} {xa nn : Nat} (hI : th_I (okC E) D Gc [] H) (hx : Gc xa = some (15, nn)) (hE : ∀ j : Nat, 6 ≤ j → E j = 0) : ∃ E2 : Nat → Nat, (∀ j : Nat, j < 32 → E2 j = E j) ∧ th_I (okC E2) D Gc [] H ∧ TI E2 Gc xa nn := by
  obtain ⟨sa, h1, hI1⟩ := ea_state hI hx
  obtain ⟨t, h2, hst, hI2⟩ := ea_learn hI1 h1
  obtain ⟨h3, h4⟩ := ea_sa hI1 hx (sa := sa) eu_at
  have n1 : xa ≠ sa := ea_ne hx h1 (by decide)
  have n2 : xa ≠ t := ea_ne hx h2 (by decide)
  have n3 : nn ≠ sa := ea_ne h4 h1 (by decide)
  have n4 : nn ≠ xa := ea_ne h4 hx (by decide)
  have e : ∀ k, k ≠ 32 + 8 * xa → k ≠ 32 + 8 * sa → 6 ≤ k → eu (eu E (32 + 8 * xa) (sa + 1)) (32 + 8 * sa) (t + 1) k = 0 := fun k a b c => by rw [eu_ne b, eu_ne a, hE k c]
  have z : ∀ j, j < 2 → eu (eu E (32 + 8 * xa) (sa + 1)) (32 + 8 * sa) (t + 1) (32 + j + 8 * nn) = 0 := fun j hj => e _ (by omega) (by omega) (by omega)
  refine ⟨_, fun j hj => by rw [eu_ne (by omega), eu_ne (by omega)], hI2, sa, t, by rw [eu_ne (by omega), eu_at], eu_at, by rw [e _ (by omega) (by omega) (by omega), e 10 (by omega) (by omega) (by omega)], h1, h2, h4, hx, Or.inl ⟨z 0 (by omega), e _ (by omega) (by omega) (by omega)⟩, Or.inl ⟨z 1 (by omega), e _ (by omega) (by omega) (by omega)⟩, fun za zb ua ub q1 _ _ _ => ?_⟩
  have := z 0 (by omega)
  omega
section LW
variable {p : Program} {l : Launch} {e : Env} {R : Room} {s : State} {m : MethodId} {args : Array Value} {below : List Frame} {meth : Method} {c : Code} {H : Heap} {locs : List Loc} {cells slots : Nat} {Q : State → Prop}
variable {cc : ByteArray} {pc nL : Nat} {ls : Array Slot} {rest st0 As : List Value} {D : va_G} {E : Nat → Nat} {Gc Gm : th_G} {xa ma nn : Nat} {adK adV : Nat → Nat}
variable {own : String} {index n maxL d mc ms : Nat} {y : MethodName} {bytes : ByteArray} {ret : Option FieldType} {cw : Cond} {rr : Room}
theorem lc_e {E' : Nat → Nat} {post : Int32 → Prop} (F : CallFix p m c cc nL s args (tb cw) own) (hM : Met l y (tb (.code y bytes maxL ret)) (rm d) (va_Pc (.ref xa :: As) (th_P E D Gc)) (QI E' D Gc post) 0 0 (th_A Gc)) (hlo : ∀ j : Nat, j < 32 → E' j = E j)
    (h1 : Cond.methodLink own index y ∈ TB) (h2 : Cond.instanceMethod y ∈ TB) (h3 : Cond.selects RX11 y y ∈ TB) (h4 : Cond.initialized RX11 ∈ TB) (h5 : Cond.code y bytes maxL ret ∈ TB)
    (hd : y.cls = RX11 ∧ y.cls ≠ "java/lang/invoke/MethodHandle" ∧ y.cls ≠ "java/lang/invoke/VarHandle" ∧ (parseMethodDescriptor y.desc).map (fun d => d.parameters.length) = some n) (hR : d + 1 ≤ R.frames ∧ 8 + (maxL + 11) + 40 * d ≤ R.locals)
    (hL : LWs E D s xa ma Gc Gm nn H locs) (hN : th_N s) (hK : va_K D vwCl (th_tys E) s)
    (hn : As.length = n) (hsize : ls.size = nL) (hst : st0 = As.reverse ++ .ref xa :: rest) (hrm : (rest.map fun v => v.category).sum ≤ 8) (hdg : decode cc pc = .ok (.invokevirtual index, 3)) (hcs : cells ≤ R.cells ∧ slots ≤ R.slots)
    (kk : ∀ (r : Int32) (H1 : Heap) (locs1 : List Loc) (E2 : Nat → Nat), E2 = E' → post r → LWs E2 D s xa ma Gc Gm nn H1 locs1 → W p l e R s m args below meth c H1 locs1 cells slots Q (F0 m (pc + 3) ls (.int r :: rest))) : W p l e R s m args below meth c H locs cells slots Q (F0 m pc ls st0) := by
  obtain ⟨hI, hx, hI2, hm, hA1, hA2, hdj, hS⟩ := hL
  obtain ⟨fs, hO⟩ := rc_15 hI hx List.not_mem_nil
  exact va_calli (va_runV (As := As) (rest := rest) F hM (cwV n F.2.2.2.2 (tb_V h1 h2 h3 h4 h5) rfl rfl rfl hd hR) ⟨th_blind, va_recv hK (th_one hO) (q := (RX11, TX11, 17)) rfl (q0 := 0) rfl, fun U hU hW => ⟨rfl, by rw [hU]; exact hI, hN.warm hW, va_K.moved hW.alike hK⟩⟩ rfl hn hsize hst (lv_room hrm) hdg hcs) hS (fun q _ h => by obtain ⟨k', h⟩ := h; exact hA1 q k' h) (fun q h => by obtain ⟨k', h⟩ := h; exact hA1 q k' h) (fun r u t H1 locs1 ht hvm hw hB hz hk hS1 => kk r H1 locs1 _ rfl hw ⟨by rw [← ht]; exact hB.1, hx, th_keep (tm_eq hlo hI2) hk (fun r k h z => by obtain ⟨k', z⟩ := z; rw [hdj r k h] at z; cases z), hm, hA1, hA2, hdj, hS1⟩)
theorem lc_i {post : Int32 → Prop} (F : CallFix p m c cc nL s args (tb cw) own) (hM : Met l y (tb (.code y bytes maxL ret)) (rm d) (va_Pc (.ref xa :: As) (th_P E D Gc)) (QI E D Gc post) 0 0 (th_A Gc))
    (h1 : Cond.methodLink own index y ∈ TB) (h2 : Cond.instanceMethod y ∈ TB) (h3 : Cond.selects RX11 y y ∈ TB) (h4 : Cond.initialized RX11 ∈ TB) (h5 : Cond.code y bytes maxL ret ∈ TB)
    (hd : y.cls = RX11 ∧ y.cls ≠ "java/lang/invoke/MethodHandle" ∧ y.cls ≠ "java/lang/invoke/VarHandle" ∧ (parseMethodDescriptor y.desc).map (fun d => d.parameters.length) = some n) (hR : d + 1 ≤ R.frames ∧ 8 + (maxL + 11) + 40 * d ≤ R.locals)
    (hL : LWs E D s xa ma Gc Gm nn H locs) (hN : th_N s) (hK : va_K D vwCl (th_tys E) s)
    (hn : As.length = n) (hsize : ls.size = nL) (hst : st0 = As.reverse ++ .ref xa :: rest) (hrm : (rest.map fun v => v.category).sum ≤ 8) (hdg : decode cc pc = .ok (.invokevirtual index, 3)) (hcs : cells ≤ R.cells ∧ slots ≤ R.slots)
    (kk : ∀ (r : Int32) (H1 : Heap) (locs1 : List Loc), post r → LWs E D s xa ma Gc Gm nn H1 locs1 → W p l e R s m args below meth c H1 locs1 cells slots Q (F0 m (pc + 3) ls (.int r :: rest))) : W p l e R s m args below meth c H locs cells slots Q (F0 m pc ls st0) := by
  obtain ⟨hI, hx, hI2, hm, hA1, hA2, hdj, hS⟩ := hL
  obtain ⟨fs, hO⟩ := rc_15 hI hx List.not_mem_nil
  exact va_calli (va_runV (As := As) (rest := rest) F hM (cwV n F.2.2.2.2 (tb_V h1 h2 h3 h4 h5) rfl rfl rfl hd hR) ⟨th_blind, va_recv hK (th_one hO) (q := (RX11, TX11, 17)) rfl (q0 := 0) rfl, fun U hU hW => ⟨rfl, by rw [hU]; exact hI, hN.warm hW, va_K.moved hW.alike hK⟩⟩ rfl hn hsize hst (lv_room hrm) hdg hcs) hS (fun q _ h => by obtain ⟨k', h⟩ := h; exact hA1 q k' h) (fun q h => by obtain ⟨k', h⟩ := h; exact hA1 q k' h) (fun r u t H1 locs1 ht hvm hw hB hz hk hS1 => kk r H1 locs1 hw ⟨by rw [← ht]; exact hB.1, hx, th_keep hI2 hk (fun r k h z => by obtain ⟨k', z⟩ := z; rw [hdj r k h] at z; cases z), hm, hA1, hA2, hdj, hS1⟩)
theorem lm_e {E' : Nat → Nat} {post : Int32 → Prop} (F : CallFix p m c cc nL s args (tb cw) own) (hM : Met l y (tb (.code y bytes maxL ret)) (rm d) (va_Pc (.ref ma :: As) (PX E D Gm (fun _ => True))) (QXi E' D Gm (fun r _ => post r)) 0 0 (th_A Gm)) (hlo : ∀ j : Nat, j < 6 ∨ 32 ≤ j → E' j = E j)
    (h1 : Cond.methodLink own index y ∈ TB) (h2 : Cond.instanceMethod y ∈ TB) (h3 : Cond.selects RX12 y y ∈ TB) (h4 : Cond.initialized RX12 ∈ TB) (h5 : Cond.code y bytes maxL ret ∈ TB)
    (hd : y.cls = RX12 ∧ y.cls ≠ "java/lang/invoke/MethodHandle" ∧ y.cls ≠ "java/lang/invoke/VarHandle" ∧ (parseMethodDescriptor y.desc).map (fun d => d.parameters.length) = some n) (hR : d + 1 ≤ R.frames ∧ 8 + (maxL + 11) + 40 * d ≤ R.locals)
    (hL : LWs E D s xa ma Gc Gm nn H locs) (hN : th_N s) (hK : va_K D vwCl (th_tys E) s)
    (hn : As.length = n) (hsize : ls.size = nL) (hst : st0 = As.reverse ++ .ref ma :: rest) (hrm : (rest.map fun v => v.category).sum ≤ 8) (hdg : decode cc pc = .ok (.invokevirtual index, 3)) (hcs : cells ≤ R.cells ∧ slots ≤ R.slots)
    (kk : ∀ (r : Int32) (H1 : Heap) (locs1 : List Loc) (E2 : Nat → Nat), E2 = E' → post r → LWs E2 D s xa ma Gc Gm nn H1 locs1 → W p l e R s m args below meth c H1 locs1 cells slots Q (F0 m (pc + 3) ls (.int r :: rest))) : W p l e R s m args below meth c H locs cells slots Q (F0 m pc ls st0) := by
  obtain ⟨hI, hx, hI2, hm, hA1, hA2, hdj, hS⟩ := hL
  obtain ⟨fs, hO⟩ := rm_10 hI2 hm List.not_mem_nil
  exact va_calli (va_runV (As := As) (rest := rest) F hM (cwV n F.2.2.2.2 (tb_V h1 h2 h3 h4 h5) rfl rfl rfl hd hR) ⟨mx_blind, va_recv hK (th_one hO) (q := (RX12, TX12, 52)) rfl (q0 := 0) rfl, fun U hU hW => ⟨rfl, ⟨by rw [hU]; exact hI2, hN.warm hW, va_K.moved hW.alike hK⟩, trivial⟩⟩ rfl hn hsize hst (lv_room hrm) hdg hcs) hS (fun q _ h => by obtain ⟨k', h⟩ := h; exact hA2 q k' h) (fun q h => by obtain ⟨k', h⟩ := h; exact hA2 q k' h) (fun r u t H1 locs1 ht hvm hw hB hz hk hS1 => kk r H1 locs1 _ rfl (by rw [← hw]; exact hB.2) ⟨th_keep (th_eq (fun j hj => hlo j (Or.inl hj)) (fun a j _ _ _ => hlo _ (Or.inr (by omega))) hI) hk (fun r k h z => by obtain ⟨k', z⟩ := z; rw [hdj r k' z] at h; cases h), hx, by rw [← ht]; exact hB.1.1, hm, hA1, hA2, hdj, hS1⟩)
theorem lm_i {post : Int32 → Prop} (F : CallFix p m c cc nL s args (tb cw) own) (hM : Met l y (tb (.code y bytes maxL ret)) (rm d) (va_Pc (.ref ma :: As) (PX E D Gm (fun _ => True))) (QXi E D Gm (fun r _ => post r)) 0 0 (th_A Gm))
    (h1 : Cond.methodLink own index y ∈ TB) (h2 : Cond.instanceMethod y ∈ TB) (h3 : Cond.selects RX12 y y ∈ TB) (h4 : Cond.initialized RX12 ∈ TB) (h5 : Cond.code y bytes maxL ret ∈ TB)
    (hd : y.cls = RX12 ∧ y.cls ≠ "java/lang/invoke/MethodHandle" ∧ y.cls ≠ "java/lang/invoke/VarHandle" ∧ (parseMethodDescriptor y.desc).map (fun d => d.parameters.length) = some n) (hR : d + 1 ≤ R.frames ∧ 8 + (maxL + 11) + 40 * d ≤ R.locals)
    (hL : LWs E D s xa ma Gc Gm nn H locs) (hN : th_N s) (hK : va_K D vwCl (th_tys E) s)
    (hn : As.length = n) (hsize : ls.size = nL) (hst : st0 = As.reverse ++ .ref ma :: rest) (hrm : (rest.map fun v => v.category).sum ≤ 8) (hdg : decode cc pc = .ok (.invokevirtual index, 3)) (hcs : cells ≤ R.cells ∧ slots ≤ R.slots)
    (kk : ∀ (r : Int32) (H1 : Heap) (locs1 : List Loc), post r → LWs E D s xa ma Gc Gm nn H1 locs1 → W p l e R s m args below meth c H1 locs1 cells slots Q (F0 m (pc + 3) ls (.int r :: rest))) : W p l e R s m args below meth c H locs cells slots Q (F0 m pc ls st0) := by
  obtain ⟨hI, hx, hI2, hm, hA1, hA2, hdj, hS⟩ := hL
  obtain ⟨fs, hO⟩ := rm_10 hI2 hm List.not_mem_nil
  exact va_calli (va_runV (As := As) (rest := rest) F hM (cwV n F.2.2.2.2 (tb_V h1 h2 h3 h4 h5) rfl rfl rfl hd hR) ⟨mx_blind, va_recv hK (th_one hO) (q := (RX12, TX12, 52)) rfl (q0 := 0) rfl, fun U hU hW => ⟨rfl, ⟨by rw [hU]; exact hI2, hN.warm hW, va_K.moved hW.alike hK⟩, trivial⟩⟩ rfl hn hsize hst (lv_room hrm) hdg hcs) hS (fun q _ h => by obtain ⟨k', h⟩ := h; exact hA2 q k' h) (fun q h => by obtain ⟨k', h⟩ := h; exact hA2 q k' h) (fun r u t H1 locs1 ht hvm hw hB hz hk hS1 => kk r H1 locs1 (by rw [← hw]; exact hB.2) ⟨th_keep hI hk (fun r k h z => by obtain ⟨k', z⟩ := z; rw [hdj r k' z] at h; cases h), hx, by rw [← ht]; exact hB.1.1, hm, hA1, hA2, hdj, hS1⟩)
/-- the makers: an image, a law -/
theorem lc_mk {PP : State → Prop} {post : Int32 → Prop} (F : CallFix p m c cc nL s args (tb cw) own) (hM : Met l y (tb (.code y bytes maxL ret)) rr (va_Pc (.ref xa :: As) PP) (QMI E D Gc H.size post) mc ms (nA Gc H.size)) (hbl : FrameBlind (va_Pc (.ref xa :: As) PP)) (hPP : ∀ U : State, U.heap = H → s.WarmedH U.vm → PP U)
    (h1 : Cond.methodLink own index y ∈ TB) (h2 : Cond.instanceMethod y ∈ TB) (h3 : Cond.selects RX11 y y ∈ TB) (h4 : Cond.initialized RX11 ∈ TB) (h5 : Cond.code y bytes maxL ret ∈ TB) (hrr : rr.cells = mc ∧ rr.slots = ms)
    (hd : y.cls = RX11 ∧ y.cls ≠ "java/lang/invoke/MethodHandle" ∧ y.cls ≠ "java/lang/invoke/VarHandle" ∧ (parseMethodDescriptor y.desc).map (fun d => d.parameters.length) = some n) (hR : rr.frames + 1 ≤ R.frames ∧ 8 + (maxL + 11) + rr.locals ≤ R.locals)
    (hL : LWs E D s xa ma Gc Gm nn H locs) (hK : va_K D vwCl (th_tys E) s)
    (hn : As.length = n) (hsize : ls.size = nL) (hst : st0 = As.reverse ++ .ref xa :: rest) (hrm : (rest.map fun v => v.category).sum ≤ 8) (hdg : decode cc pc = .ok (.invokevirtual index, 3)) (hcs : cells + mc ≤ R.cells ∧ slots + ms ≤ R.slots)
    (kk : ∀ (r : Int32) (G' : th_G) (H1 : Heap) (locs1 : List Loc), post r → gle Gc G' → LWs E D s xa ma G' Gm nn H1 locs1 → W p l e R s m args below meth c H1 locs1 (cells + mc) (slots + ms) Q (F0 m (pc + 3) ls (.int r :: rest))) : W p l e R s m args below meth c H locs cells slots Q (F0 m pc ls st0) := by
  obtain ⟨hI, hx, hI2, hm, hA1, hA2, hdj, hS⟩ := hL
  obtain ⟨fs, hO⟩ := rc_15 hI hx List.not_mem_nil
  have hF : ∀ q, nA Gc H.size q → LWa s q := fun q h => by
    rcases h with ⟨k', h⟩ | h
    · exact hA1 q k' h
    · exact Nat.le_trans hS.1 h
  exact va_calli (va_runV (As := As) (rest := rest) F hM (cwV n F.2.2.2.2 (tb_V h1 h2 h3 h4 h5) rfl hrr.1 hrr.2 hd hR) ⟨hbl, va_recv hK (th_one hO) (q := (RX11, TX11, 17)) rfl (q0 := 0) rfl, fun U hU hW => ⟨rfl, hPP U hU hW⟩⟩ rfl hn hsize hst (lv_room hrm) hdg hcs) hS (fun q _ h => hF q h) hF (fun r G' t H1 locs1 ht hvm hw hB hz hk hS1 => kk r G' H1 locs1 hw.1 hw.2.1 ⟨by rw [← ht]; exact hB.1, hw.2.1 _ _ hx, th_keep hI2 hk (fun r k h z => by
      rcases z with ⟨k', z⟩ | z
      · rw [hdj r k h] at z; cases z
      · exact absurd (mm_lt' hI2 h) (by omega)), hm, fun r k h => by
      rcases hw.2.2 r k h with h | h
      · exact hA1 r k h
      · exact Nat.le_trans hS.1 h, hA2, fun r k h => by
      cases hg : G' r with
      | none => rfl
      | some k' =>
        rcases hw.2.2 r k' hg with z | z
        · rw [hdj r k h] at z; cases z
        · exact absurd (mm_lt' hI2 h) (by omega), hS1⟩)
theorem lc_im {t : Nat} {x : Int32} {PP : State → Prop} {post : Int32 → Prop} (F : CallFix p m c cc nL s args (tb cw) own) (hM : Met l y (tb (.code y bytes maxL ret)) rr (va_Pc (.ref xa :: As) PP) (QME E D Gc H.size nn t x post) mc ms (nA Gc H.size)) (hbl : FrameBlind (va_Pc (.ref xa :: As) PP)) (hPP : ∀ U : State, U.heap = H → s.WarmedH U.vm → PP U)
    (h1 : Cond.methodLink own index y ∈ TB) (h2 : Cond.instanceMethod y ∈ TB) (h3 : Cond.selects RX11 y y ∈ TB) (h4 : Cond.initialized RX11 ∈ TB) (h5 : Cond.code y bytes maxL ret ∈ TB) (hrr : rr.cells = mc ∧ rr.slots = ms)
    (hd : y.cls = RX11 ∧ y.cls ≠ "java/lang/invoke/MethodHandle" ∧ y.cls ≠ "java/lang/invoke/VarHandle" ∧ (parseMethodDescriptor y.desc).map (fun d => d.parameters.length) = some n) (hR : rr.frames + 1 ≤ R.frames ∧ 8 + (maxL + 11) + rr.locals ≤ R.locals)
    (hL : LWs E D s xa ma Gc Gm nn H locs) (hK : va_K D vwCl (th_tys E) s)
    (hn : As.length = n) (hsize : ls.size = nL) (hst : st0 = As.reverse ++ .ref xa :: rest) (hrm : (rest.map fun v => v.category).sum ≤ 8) (hdg : decode cc pc = .ok (.invokevirtual index, 3)) (hcs : cells + mc ≤ R.cells ∧ slots + ms ≤ R.slots)
    (kk : ∀ (r : Int32) (G' : th_G) (E' : Nat → Nat) (H1 : Heap) (locs1 : List Loc), post r → gle Gc G' → IMQ G' E E' H.size nn t x → LWs E' D s xa ma G' Gm nn H1 locs1 → W p l e R s m args below meth c H1 locs1 (cells + mc) (slots + ms) Q (F0 m (pc + 3) ls (.int r :: rest))) : W p l e R s m args below meth c H locs cells slots Q (F0 m pc ls st0) := by
  obtain ⟨hI, hx, hI2, hm, hA1, hA2, hdj, hS⟩ := hL
  obtain ⟨fs, hO⟩ := rc_15 hI hx List.not_mem_nil
  have hF : ∀ q, nA Gc H.size q → LWa s q := fun q h => by
    rcases h with ⟨k', h⟩ | h
    · exact hA1 q k' h
    · exact Nat.le_trans hS.1 h
  exact va_calli (va_runV (As := As) (rest := rest) F hM (cwV n F.2.2.2.2 (tb_V h1 h2 h3 h4 h5) rfl hrr.1 hrr.2 hd hR) ⟨hbl, va_recv hK (th_one hO) (q := (RX11, TX11, 17)) rfl (q0 := 0) rfl, fun U hU hW => ⟨rfl, hPP U hU hW⟩⟩ rfl hn hsize hst (lv_room hrm) hdg hcs) hS (fun q _ h => hF q h) hF (fun r U t H1 locs1 ht hvm hw hB hz hk hS1 => kk r U.1 U.2 H1 locs1 hw.1 hw.2.1 hw.2.2.2 ⟨by rw [← ht]; exact hB.1, hw.2.1 _ _ hx, th_keep (tm_eq (IMQ_lo hw.2.2.2) hI2) hk (fun r k h z => by
      rcases z with ⟨k', z⟩ | z
      · rw [hdj r k h] at z; cases z
      · exact absurd (mm_lt' hI2 h) (by omega)), hm, fun r k h => by
      rcases hw.2.2.1 r k h with h | h
      · exact hA1 r k h
      · exact Nat.le_trans hS.1 h, hA2, fun r k h => by
      cases hg : U.1 r with
      | none => rfl
      | some k' =>
        rcases hw.2.2.1 r k' hg with z | z
        · rw [hdj r k h] at z; cases z
        · exact absurd (mm_lt' hI2 h) (by omega), hS1⟩)
/-- the two constructors -/
theorem lc_new {ci : Nat} {fs : List Value} (F : CallFix p m c cc nL s args (tb cw) own) (hM : Met l y (tb (.code y bytes maxL none)) rr (va_Pc (.ref xa :: As) (fun U => U.heap.size = H.size ∧ th_P E D (fun _ => none) U ∧ va_at D vwCl (xa, .inr (ci, fs)) U.heap ∧ th_AO U)) (QN E D (fun _ => none) xa H.size) mc ms (mA (fun _ => none) xa H.size))
    (h1 : Cond.methodLink own index y ∈ TB) (h2 : Cond.instanceMethod y ∈ TB) (h4 : Cond.initialized y.cls ∈ TB) (h5 : Cond.code y bytes maxL none ∈ TB)
    (hd : rr.cells = mc ∧ rr.slots = ms ∧ y.name = "<init>" ∧ y.cls ≠ "java/lang/invoke/MethodHandle" ∧ y.cls ≠ "java/lang/invoke/VarHandle" ∧ (parseMethodDescriptor y.desc).map (fun d => d.parameters.length) = some n) (hR : rr.frames + 1 ≤ R.frames ∧ 8 + (maxL + 11) + rr.locals ≤ R.locals)
    (hN : th_N s) (hAO : th_AO s) (hK : va_K D vwCl (th_tys E) s) (hOb : va_at D vwCl (xa, .inr (ci, fs)) H) (hbs : s.heap.size ≤ xa) (hS : va_S (LWa s) s.heap H locs)
    (hn : As.length = n) (hsize : ls.size = nL) (hst : st0 = As.reverse ++ .ref xa :: rest) (hrm : (rest.map fun v => v.category).sum ≤ 8) (hdg : decode cc pc = .ok (.invokespecial index, 3)) (hcs : cells + mc ≤ R.cells ∧ slots + ms ≤ R.slots)
    (kk : ∀ (G' : th_G) (nn : Nat) (H1 : Heap) (locs1 : List Loc), th_I (okC E) D G' [] H1 → G' xa = some (15, nn) → (∀ (r : Nat) (k : th_K), G' r = some k → s.heap.size ≤ r) → va_S (LWa s) s.heap H1 locs1 → W p l e R s m args below meth c H1 locs1 (cells + mc) (slots + ms) Q (F0 m (pc + 3) ls rest)) : W p l e R s m args below meth c H locs cells slots Q (F0 m pc ls st0) := by
  obtain ⟨g1, g2, g3, g4⟩ := hd
  have hF : ∀ q, mA (fun _ => none) xa H.size q → LWa s q := fun q h => by
    rcases h with ⟨k', h⟩ | h | h
    · cases h
    · rw [h]; exact hbs
    · exact Nat.le_trans hS.1 h
  exact va_callv (va_runI (As := As) (rest := rest) F hM (cwI n F.2.2.2.2 (tb_G h5) rfl g1 g2 (F.2.2.2.2 _ (tb_c h4)) (F.2.2.2.2 _ (tb_c h1)) (F.2.2.2.2 _ (tb_c h2)) g3 g4 hR) ⟨th_blindM, fun U hU hW => ⟨rfl, by rw [hU], ⟨fun a k h => (by cases h), hN.warm hW, va_K.moved hW.alike hK⟩, by rw [hU]; exact hOb, hAO.moved hW.alike⟩⟩ rfl hn hsize hst (lv_room hrm) hdg hcs) hS (fun q _ h => hF q h) hF (fun G' t H1 locs1 ht hvm hw hB hz hk hS1 => by
    obtain ⟨nn, hx⟩ := hw.2.1
    exact kk G' nn H1 locs1 (by rw [← ht]; exact hB.1) hx (fun r k h => by
      rcases hw.2.2 r k h with h | h | h
      · cases h
      · rw [h]; exact hbs
      · exact Nat.le_trans hS.1 h) hS1)
theorem lm_new {ci : Nat} {fs : List Value} (F : CallFix p m c cc nL s args (tb cw) own) (hM : Met l y (tb (.code y bytes maxL none)) rr (va_Pc (.ref ma :: As) (fun U => U.heap.size = H.size ∧ th_PM E D (fun _ => none) U ∧ va_at D vwCl (ma, .inr (ci, fs)) U.heap)) (QMM E D (fun _ => none) ma H.size) mc ms (mA (fun _ => none) ma H.size))
    (h1 : Cond.methodLink own index y ∈ TB) (h2 : Cond.instanceMethod y ∈ TB) (h4 : Cond.initialized y.cls ∈ TB) (h5 : Cond.code y bytes maxL none ∈ TB)
    (hd : rr.cells = mc ∧ rr.slots = ms ∧ y.name = "<init>" ∧ y.cls ≠ "java/lang/invoke/MethodHandle" ∧ y.cls ≠ "java/lang/invoke/VarHandle" ∧ (parseMethodDescriptor y.desc).map (fun d => d.parameters.length) = some n) (hR : rr.frames + 1 ≤ R.frames ∧ 8 + (maxL + 11) + rr.locals ≤ R.locals)
    (hN : th_N s) (hK : va_K D vwCl (th_tys E) s) (hOb : va_at D vwCl (ma, .inr (ci, fs)) H) (hbs : s.heap.size ≤ ma) (hS : va_S (LWa s) s.heap H locs) (hI : th_I (okC E) D Gc [] H) (hx : Gc xa = some (15, nn)) (hA1 : ∀ (r : Nat) (k : th_K), Gc r = some k → s.heap.size ≤ r) (hnm : Gc ma = none)
    (hn : As.length = n) (hsize : ls.size = nL) (hst : st0 = As.reverse ++ .ref ma :: rest) (hrm : (rest.map fun v => v.category).sum ≤ 8) (hdg : decode cc pc = .ok (.invokespecial index, 3)) (hcs : cells + mc ≤ R.cells ∧ slots + ms ≤ R.slots)
    (kk : ∀ (Gm : th_G) (H1 : Heap) (locs1 : List Loc), (UQ Gm 1 ∧ UQ Gm 2 ∧ UQ Gm 11) → LWs E D s xa ma Gc Gm nn H1 locs1 → W p l e R s m args below meth c H1 locs1 (cells + mc) (slots + ms) Q (F0 m (pc + 3) ls rest)) : W p l e R s m args below meth c H locs cells slots Q (F0 m pc ls st0) := by
  obtain ⟨g1, g2, g3, g4⟩ := hd
  have hF : ∀ q, mA (fun _ => none) ma H.size q → LWa s q := fun q h => by
    rcases h with ⟨k', h⟩ | h | h
    · cases h
    · rw [h]; exact hbs
    · exact Nat.le_trans hS.1 h
  exact va_callv (va_runI (As := As) (rest := rest) F hM (cwI n F.2.2.2.2 (tb_G h5) rfl g1 g2 (F.2.2.2.2 _ (tb_c h4)) (F.2.2.2.2 _ (tb_c h1)) (F.2.2.2.2 _ (tb_c h2)) g3 g4 hR) ⟨mb_blind, fun U hU hW => ⟨rfl, by rw [hU], ⟨fun a k h => (by cases h), hN.warm hW, va_K.moved hW.alike hK⟩, by rw [hU]; exact hOb⟩⟩ rfl hn hsize hst (lv_room hrm) hdg hcs) hS (fun q _ h => hF q h) hF (fun G' t H1 locs1 ht hvm hw hB hz hk hS1 => kk G' H1 locs1 hw.2.1.2 ⟨th_keep hI hk (fun r k h z => by
      rcases z with ⟨k', z⟩ | z | z
      · cases z
      · rw [z, hnm] at h; cases h
      · exact absurd (th_lt hI h) (by omega)), hx, by rw [← ht]; exact hB.1, hw.2.1.1, hA1, fun r k h => by
      rcases hw.2.2 r k h with h | h | h
      · cases h
      · rw [h]; exact hbs
      · exact Nat.le_trans hS.1 h, fun r k h => by
      cases hg : Gc r with
      | none => rfl
      | some k' =>
        rcases hw.2.2 r k h with z | z | z
        · cases z
        · rw [z, hnm] at hg; cases hg
        · exact absurd (th_lt hI hg) (by omega), hS1⟩)
end LW
theorem pump_same {P Q : Prop} {r t : Int32} (h : (r = -1 ∧ ¬ P) ∨ (r = -2 ∧ P ∧ ¬ Q) ∨ (r = 0 ∧ P ∧ Q)) (h' : (t = -1 ∧ ¬ P) ∨ (t = -2 ∧ P ∧ ¬ Q) ∨ (t = 0 ∧ P ∧ Q)) : r = t := by
  rcases h with ⟨a, b⟩ | ⟨a, b, c⟩ | ⟨a, b, c⟩ <;> rcases h' with ⟨a', b'⟩ | ⟨a', b', c'⟩ | ⟨a', b', c'⟩ <;> first | (rw [a, a']; done) | exact absurd b b' | exact absurd b' b | exact absurd c c' | exact absurd c' c
theorem two_same {P : Prop} {r t : Int32} (h : (r = -1 ∧ ¬ P) ∨ (r = 0 ∧ P)) (h' : (t = -1 ∧ ¬ P) ∨ (t = 0 ∧ P)) : r = t := by
  rcases h with ⟨a, b⟩ | ⟨a, b⟩ <;> rcases h' with ⟨a', b'⟩ | ⟨a', b'⟩ <;> first | (rw [a, a']; done) | exact absurd b b' | exact absurd b' b
theorem put_same {P Q : Prop} {r t : Int32} {a : Int} (h : (r = -1 ∧ ¬ P) ∨ (r = -5 ∧ P ∧ ¬ Q) ∨ (r.toInt = a ∧ P ∧ Q)) (h' : (t = -1 ∧ ¬ P) ∨ (t = -5 ∧ P ∧ ¬ Q) ∨ (t.toInt = a ∧ P ∧ Q)) : r = t := by
  rcases h with ⟨a, b⟩ | ⟨a, b, c⟩ | ⟨a, b, c⟩ <;> rcases h' with ⟨a', b'⟩ | ⟨a', b', c'⟩ | ⟨a', b', c'⟩ <;> first | (rw [a, a']; done) | exact absurd b b' | exact absurd b' b | exact absurd c c' | exact absurd c' c | exact Int32.toInt_inj.mp (by rw [a, a'])
theorem two_sameI {P : Prop} {r t : Int32} {a : Int} (h : (r = -2 ∧ ¬ P) ∨ (r.toInt = a ∧ P)) (h' : (t = -2 ∧ ¬ P) ∨ (t.toInt = a ∧ P)) : r = t := by
  rcases h with ⟨a, b⟩ | ⟨a, b⟩ <;> rcases h' with ⟨a', b'⟩ | ⟨a', b'⟩ <;> first | (rw [a, a']; done) | exact absurd b b' | exact absurd b' b | exact Int32.toInt_inj.mp (by rw [a, a'])
theorem one_same {r t : Int32} {a : Int} (h : r.toInt = a) (h' : t.toInt = a) : r = t := Int32.toInt_inj.mp (by rw [h, h'])
