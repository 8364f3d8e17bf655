/-! ===== the law: two worlds side by side ===== -/
abbrev LWa (s : State) : Nat → Prop := fun q => s.heap.size ≤ q
def LWs (E : Nat → Nat) (D : va_G) (s : State) (xa ma : Nat) (Gc Gm : th_G) (n : Nat) (H : Heap) (locs : List Loc) : Prop := th_I (okC E) D Gc [] H ∧ Gc xa = some (15, n) ∧ th_I (okM E) D Gm [] H ∧ Gm ma = some (10, 0) ∧ (∀ (r : Nat) (k : th_K), Gc r = some k → s.heap.size ≤ r) ∧ (∀ (r : Nat) (k : th_K), Gm r = some k → s.heap.size ≤ r) ∧ (∀ (r : Nat) (k : th_K), Gm r = some k → Gc r = none) ∧ va_S (LWa s) s.heap H locs
theorem th_keep {ok : th_G → Nat → th_K → va_E → Prop} {D : va_G} {G : th_G} {H H1 : Heap} {B : Nat → Prop} (hI : th_I ok D G [] H) (hk : ∀ q : Nat, q < H.size → ¬ B q → H1[q]? = H[q]?) (hd : ∀ (r : Nat) (k : th_K), G r = some k → ¬ B r) : th_I ok D G [] H1 := fun b k hb hx => by
  obtain ⟨e, h1, h2⟩ := hI b k hb hx
  exact ⟨e, h1.kept (hk b h1.lt (hd b k hb)), h2⟩
theorem mm_lt' {E : Nat → Nat} {D : va_G} {G : th_G} {H : Heap} (hI : th_I (okM E) D G [] H) {q : Nat} {k : th_K} (h : G q = some k) : q < H.size := by
  obtain ⟨e, h1, -⟩ := hI q k h List.not_mem_nil
  exact h1.lt
theorem mi_blind {E : Nat → Nat} {D : va_G} {G : th_G} {av : List Value} {sz : Nat} : FrameBlind (va_Pc av (fun U => U.heap.size = sz ∧ th_P E D G U ∧ th_AO U)) := fun a U g mk z => ⟨z.1, z.2.1, ⟨z.2.2.1.1, th_N.same (u := U) rfl z.2.2.1.2.1, va_K.moved (u := U) (U := U.calling g mk a) (Vm.Alike.refl U.vm) z.2.2.1.2.2⟩, z.2.2.2.moved (U := U.calling g mk a) (Vm.Alike.refl U.vm)⟩
theorem mb_blind {E : Nat → Nat} {D : va_G} {G : th_G} {av : List Value} {sz : Nat} {q : Nat × va_E} : FrameBlind (va_Pc av (fun U => U.heap.size = sz ∧ th_PM E D G U ∧ va_at D vwCl q U.heap)) := fun a U g mk z => ⟨z.1, z.2.1, ⟨z.2.2.1.1, th_N.same (u := U) rfl z.2.2.1.2.1, va_K.moved (u := U) (U := U.calling g mk a) (Vm.Alike.refl U.vm) z.2.2.1.2.2⟩, z.2.2.2⟩
/-! ===== the ties ===== -/
theorem IMQ_lo {G' : th_G} {E E' : Nat → Nat} {sz n t : Nat} {x : Int32} (h : IMQ G' E E' sz n t x) : ∀ j : Nat, j < 1000 → E' j = E j := fun j hj => by
  rcases h with ⟨_, h⟩ | ⟨i, z, _, _, _, _, _, h, _⟩
  · rw [h]
  · exact h j (by omega) (by omega)
def TJ (E : Nat → Nat) (Gc : th_G) (sa nn j : Nat) : Prop := (E (1000 + j + 512 * nn) = 0 ∧ E (13 + j) = 0) ∨ (E (13 + j) = 1 ∧ ∃ z : Nat, E (1000 + j + 512 * nn) = z + 1 ∧ E (1000 + 512 * z) = E (11 + j) ∧ Gc z = some (6, 0) ∧ z ≠ sa)
def TD (E : Nat → Nat) (nn : Nat) : Prop := ∀ z z' : Nat, E (1000 + 0 + 512 * nn) = z + 1 → E (1000 + 1 + 512 * nn) = z' + 1 → z ≠ z'
def TS (E : Nat → Nat) (Gc : th_G) (xa nn sa : Nat) : Prop := E (1000 + 512 * xa) = sa + 1 ∧ E (1000 + 512 * sa) = E 10 ∧ Gc sa = some (6, 0) ∧ Gc nn = some (3, 2) ∧ Gc xa = some (15, nn) ∧ TJ E Gc sa nn 0 ∧ TJ E Gc sa nn 1 ∧ TD E nn
def TI0 (E : Nat → Nat) (Gc : th_G) (xa nn : Nat) : Prop := ∃ sa : Nat, TS E Gc xa nn sa
theorem TI0_gle {E : Nat → Nat} {Gc G' : th_G} {xa nn : Nat} (hle : gle Gc G') (h : TI0 E Gc xa nn) : TI0 E G' xa nn := by
  obtain ⟨sa, a1, a3, a4, a6, a7, j0, j1, d⟩ := h
  have hj : ∀ j, TJ E Gc sa nn j → TJ E G' sa nn j := fun j z => by
    rcases z with z | ⟨b1, z, b2, b4, b5, b7⟩
    · exact Or.inl z
    · exact Or.inr ⟨b1, z, b2, b4, hle _ _ b5, b7⟩
  exact ⟨sa, a1, a3, hle _ _ a4, hle _ _ a6, hle _ _ a7, hj _ j0, hj _ j1, d⟩
theorem TI0_set {E : Nat → Nat} {Gc : th_G} {xa nn sa v : Nat} (h : TS E Gc xa nn sa) : TI0 (eu (eu E (1000 + 512 * sa) v) 10 v) Gc xa nn := by
  obtain ⟨a1, a3, a4, a6, a7, j0, j1, d⟩ := h
  have n1 : xa ≠ sa := ea_ne a7 a4 (by decide)
  have n3 : nn ≠ sa := ea_ne a6 a4 (by decide)
  have e : ∀ k, k ≠ 1000 + 512 * sa → k ≠ 10 → eu (eu E (1000 + 512 * sa) v) 10 v k = E k := fun k h1 h2 => by rw [eu_ne h2, eu_ne h1]
  have hj : ∀ j, j < 2 → TJ E Gc sa nn j → TJ (eu (eu E (1000 + 512 * sa) v) 10 v) Gc sa nn j := fun j hj z => by
    rcases z with ⟨z1, z2⟩ | ⟨b1, z, b2, b4, b5, b8⟩
    · exact Or.inl ⟨by rw [e _ (by omega) (by omega)]; exact z1, by rw [e _ (by omega) (by omega)]; exact z2⟩
    · exact Or.inr ⟨by rw [e _ (by omega) (by omega)]; exact b1, z, by rw [e _ (by omega) (by omega)]; exact b2, by rw [e _ (by omega) (by omega), e _ (by omega) (by omega)]; exact b4, b5, b8⟩
  refine ⟨sa, by rw [e _ (by omega) (by omega)]; exact a1, by rw [eu_at, eu_ne (by omega), eu_at], a4, a6, a7, hj 0 (by omega) j0, hj 1 (by omega) j1, fun z z' h1 h2 => ?_⟩
  rw [e _ (by omega) (by omega)] at h1 h2
  exact d z z' h1 h2
theorem TJ_u {E : Nat → Nat} {a b c : Nat} {R : Nat → Prop} (h : (E a = 0 ∧ E b = 0) ∨ (E b = 1 ∧ ∃ z : Nat, E a = z + 1 ∧ E (1000 + 512 * z) = E c ∧ R z)) : (∀ z : Nat, E a = z + 1 → R z) ∧ ((E a = 0 ∧ E b = 0) ∨ (E a ≠ 0 ∧ E b ≠ 0 ∧ E (1000 + 512 * (E a - 1)) = E c)) := by
  rcases h with ⟨p, q⟩ | ⟨q, z, r1, r2, r3⟩
  · exact ⟨fun z hz => by omega, Or.inl ⟨p, q⟩⟩
  · refine ⟨fun y hy => ?_, Or.inr ⟨by omega, by omega, by rw [show E a - 1 = z by omega]; exact r2⟩⟩
    have : y = z := by omega
    rw [this]; exact r3
theorem TI_back {E : Nat → Nat} {Gc : th_G} {xa nn sa : Nat} {x : Int32} (h : TS E Gc xa nn sa) : (∀ z : Nat, E (1000 + 512 * nn) = z + 1 → z ≠ sa) ∧ (∀ z : Nat, E (1001 + 512 * nn) = z + 1 → z ≠ sa) ∧ ∀ v : Nat, gBm (eu E (1000 + 512 * sa) v) x = gBt E nn sa x := by
  obtain ⟨a1, a3, a4, a6, a7, j0, j1, d⟩ := h
  obtain ⟨f0, g0⟩ := TJ_u (a := 1000 + 512 * nn) (b := 13) (c := 11) (R := fun z => Gc z = some (6, 0) ∧ z ≠ sa) j0
  obtain ⟨f1, g1⟩ := TJ_u (a := 1001 + 512 * nn) (b := 14) (c := 12) (R := fun z => Gc z = some (6, 0) ∧ z ≠ sa) j1
  refine ⟨fun z hz => (f0 z hz).2, fun z hz => (f1 z hz).2, fun v => ?_⟩
  unfold gBt gBm
  rw [a3, eu_ne (show 10 ≠ 1000 + 512 * sa by omega), eu_ne (show 11 ≠ 1000 + 512 * sa by omega), eu_ne (show 12 ≠ 1000 + 512 * sa by omega), eu_ne (show 13 ≠ 1000 + 512 * sa by omega), eu_ne (show 14 ≠ 1000 + 512 * sa by omega)]
  have A : (x.toInt = 0 ∧ E 13 ≠ 0) ↔ (x.toInt = 0 ∧ E (1000 + 512 * nn) ≠ 0) := by
    constructor <;> intro z <;> rcases g0 with g | g <;> omega
  have B : (x.toInt = 1 ∧ E 14 ≠ 0) ↔ (x.toInt = 1 ∧ E (1001 + 512 * nn) ≠ 0) := by
    constructor <;> intro z <;> rcases g1 with g | g <;> omega
  by_cases h1 : x.toInt = 0 ∧ E (1000 + 512 * nn) ≠ 0
  · rw [if_pos h1, if_pos (A.mpr h1)]
    rcases g0 with g | g
    · exact absurd g.1 h1.2
    · exact g.2.2.symm
  · rw [if_neg h1, if_neg (fun z => h1 (A.mp z))]
    by_cases h2 : x.toInt = 1 ∧ E (1001 + 512 * nn) ≠ 0
    · rw [if_pos h2, if_pos (B.mpr h2)]
      rcases g1 with g | g
      · exact absurd g.1 h2.2
      · exact g.2.2.symm
    · rw [if_neg h2, if_neg (fun z => h2 (B.mp z))]
theorem TI0_image {E E1 : Nat → Nat} {Gc G' : th_G} {xa nn sa sz : Nat} {x : Int32} (h : TS E Gc xa nn sa) (hle : gle Gc G') (hq : IMQ G' E E1 sz nn sa x) (hsz : ∀ (q : Nat) (k : th_K), Gc q = some k → q < sz) : TI0 (mI E1 x) G' xa nn := by
  obtain ⟨a1, a3, a4, a6, a7, j0, j1, d⟩ := h
  rcases hq with ⟨hr, hE⟩ | ⟨j, z, hj, hx, b1, b3, b4, b6, b7⟩
  · rw [mI_f hr, hE]
    exact TI0_gle hle ⟨sa, a1, a3, a4, a6, a7, j0, j1, d⟩
  · rw [mI_t hj hx.symm]
    have TJs : ∀ i, i < 2 → TJ E Gc sa nn i := fun i hi => by
      rcases (show i = 0 ∨ i = 1 by omega) with e | e
      · rw [e]; exact j0
      · rw [e]; exact j1
    have c4 := hle _ _ a4
    have c6 := hle _ _ a6
    have c7 := hle _ _ a7
    have m1 : xa ≠ z := ea_ne c7 b4 (by decide)
    have m3 : nn ≠ z := ea_ne c6 b4 (by decide)
    have m7 : xa ≠ nn := ea_ne c7 c6 (by decide)
    have m8 : sa ≠ nn := ea_ne c4 c6 (by decide)
    have hsaz : sa ≠ z := by
      rcases b7 with p | ⟨_, p⟩
      · rcases TJs j hj with ⟨r, _⟩ | ⟨_, y, r1, _, _, r3⟩
        · omega
        · have ey : y = z := by omega
          rw [ey] at r3
          exact fun e => r3 e.symm
      · have := hsz _ _ a4
        omega
    have ot : ∀ i z' : Nat, i < 2 → i ≠ j → E (1000 + i + 512 * nn) = z' + 1 → Gc z' = some (6, 0) → z' ≠ z := fun i z' hi hij h1 h3 => by
      rcases b7 with p | ⟨_, p⟩
      · rcases (show (i = 0 ∧ j = 1) ∨ (i = 1 ∧ j = 0) by omega) with ⟨e1, e2⟩ | ⟨e1, e2⟩
        · rw [e1] at h1; rw [e2] at p
          exact d z' z h1 p
        · rw [e1] at h1; rw [e2] at p
          exact fun e => d z z' p h1 e.symm
      · have := hsz _ _ h3
        omega
    have e2 : ∀ k, k ≠ 11 + j → k ≠ 13 + j → eu (eu E1 (11 + j) (E1 10)) (13 + j) 1 k = E1 k := fun k h1 h2 => by rw [eu_ne h2, eu_ne h1]
    have e3 : ∀ k, k ≠ 11 + j → k ≠ 13 + j → k ≠ 1000 + j + 512 * nn → k ≠ 1000 + 512 * z → eu (eu E1 (11 + j) (E1 10)) (13 + j) 1 k = E k := fun k h1 h2 h3 h4 => by rw [e2 k h1 h2, b6 k h3 h4]
    have E10 : E1 10 = E 10 := b6 10 (by omega) (by omega)
    generalize hE2 : eu (eu E1 (11 + j) (E1 10)) (13 + j) 1 = E2 at e2 e3
    have w1 : E2 (11 + j) = E 10 := by rw [← hE2, eu_ne (by omega), eu_at, E10]
    have w2 : E2 (13 + j) = 1 := by rw [← hE2, eu_at]
    have TJn : ∀ i, i < 2 → TJ E2 G' sa nn i := fun i hi => by
      by_cases hij : i = j
      · rw [hij]
        exact Or.inr ⟨w2, z, by rw [e2 _ (by omega) (by omega)]; exact b1, by rw [e2 _ (by omega) (by omega), b3, a3, w1], b4, fun e => hsaz e.symm⟩
      · rcases TJs i hi with ⟨r1, r2⟩ | ⟨r0, y, r1, r3, r4, r6⟩
        · exact Or.inl ⟨by rw [e3 _ (by omega) (by omega) (by omega) (by omega)]; exact r1, by rw [e3 _ (by omega) (by omega) (by omega) (by omega)]; exact r2⟩
        · have o1 := ot i y hi hij r1 r4
          have k3 : y ≠ nn := ea_ne (hle _ _ r4) c6 (by decide)
          exact Or.inr ⟨by rw [e3 _ (by omega) (by omega) (by omega) (by omega)]; exact r0, y, by rw [e3 _ (by omega) (by omega) (by omega) (by omega)]; exact r1, by rw [e3 _ (by omega) (by omega) (by omega) (by omega), e3 (11 + i) (by omega) (by omega) (by omega) (by omega)]; exact r3, hle _ _ r4, r6⟩
    have n1 : E2 (1000 + j + 512 * nn) = z + 1 := by rw [e2 _ (by omega) (by omega)]; exact b1
    have on : ∀ i z' : Nat, i < 2 → i ≠ j → E2 (1000 + i + 512 * nn) = z' + 1 → z' ≠ z := fun i z' hi hij h1 => by
      rw [e3 _ (by omega) (by omega) (by omega) (by omega)] at h1
      rcases TJs i hi with ⟨r1, _⟩ | ⟨r0, y, r1, r3, r4, r6⟩
      · omega
      · have ey : y = z' := by omega
        rw [← ey]
        exact ot i y hi hij r1 r4
    refine ⟨sa, by rw [e3 _ (by omega) (by omega) (by omega) (by omega)]; exact a1, by rw [e3 _ (by omega) (by omega) (by omega) (by omega), e3 10 (by omega) (by omega) (by omega) (by omega)]; exact a3, c4, c6, c7, TJn 0 (by omega), TJn 1 (by omega), fun za zb h1 h2 => ?_⟩
    rcases (show j = 0 ∨ j = 1 by omega) with e | e
    · rw [e] at n1
      have q1 : za = z := by omega
      have := on 1 zb (by omega) (by omega) h2
      omega
    · rw [e] at n1
      have q1 : zb = z := by omega
      have := on 0 za (by omega) (by omega) h1
      omega
/-! ===== the tape's ties ===== -/
def TP_ (E : Nat → Nat) (Gc : th_G) (xa ta ra : Nat) : Prop := E (1003 + 512 * xa) = ta + 1 ∧ Gc ta = some (16, 400) ∧ E (1004 + 512 * xa) = ra + 1 ∧ E (1001 + 512 * xa) = E 15 ∧ E (1002 + 512 * xa) = E 16 ∧ ∀ j : Nat, j < 400 → E (1100 + 512 * ta + j) = E (100 + j)
def TI (E : Nat → Nat) (Gc : th_G) (xa nn : Nat) : Prop := TI0 E Gc xa nn ∧ ∃ ta ra : Nat, TP_ E Gc xa ta ra
theorem TS_gle {E : Nat → Nat} {Gc G' : th_G} {xa nn sa : Nat} (hle : gle Gc G') (h : TS E Gc xa nn sa) : TS E G' xa nn sa := by
  obtain ⟨a1, a3, a4, a6, a7, j0, j1, d⟩ := h
  have hj : ∀ j, TJ E Gc sa nn j → TJ E G' sa nn j := fun j z => by
    rcases z with z | ⟨b1, z, b2, b4, b5, b7⟩
    · exact Or.inl z
    · exact Or.inr ⟨b1, z, b2, b4, hle _ _ b5, b7⟩
  exact ⟨a1, a3, hle _ _ a4, hle _ _ a6, hle _ _ a7, hj _ j0, hj _ j1, d⟩
theorem TP_gle {E : Nat → Nat} {Gc G' : th_G} {xa ta ra : Nat} (hle : gle Gc G') (h : TP_ E Gc xa ta ra) : TP_ E G' xa ta ra := ⟨h.1, hle _ _ h.2.1, h.2.2⟩
theorem TI_gle {E : Nat → Nat} {Gc G' : th_G} {xa nn : Nat} (hle : gle Gc G') (h : TI E Gc xa nn) : TI E G' xa nn := by
  obtain ⟨h0, ta, ra, h1⟩ := h
  exact ⟨TI0_gle hle h0, ta, ra, TP_gle hle h1⟩
theorem TP_eq {E E' : Nat → Nat} {Gc : th_G} {xa ta ra : Nat} (h1 : ∀ j : Nat, j < 5 → E' (1000 + j + 512 * xa) = E (1000 + j + 512 * xa)) (h2 : ∀ j : Nat, j < 400 → E' (1100 + 512 * ta + j) = E (1100 + 512 * ta + j) ∧ E' (100 + j) = E (100 + j)) (h3 : E' 15 = E 15 ∧ E' 16 = E 16) (h : TP_ E Gc xa ta ra) : TP_ E' Gc xa ta ra := by
  obtain ⟨a, b, c, d, e, f⟩ := h
  exact ⟨(h1 3 (by decide)).trans a, b, (h1 4 (by decide)).trans c, (h1 1 (by decide)).trans (d.trans h3.1.symm), (h1 2 (by decide)).trans (e.trans h3.2.symm), fun j hj => by rw [(h2 j hj).1, (h2 j hj).2]; exact f j hj⟩
theorem TI_set {E : Nat → Nat} {Gc : th_G} {xa nn sa v ta ra : Nat} (h : TS E Gc xa nn sa) (h2 : TP_ E Gc xa ta ra) : TI (eu (eu E (1000 + 512 * sa) v) 10 v) Gc xa nn := by
  have n1 : xa ≠ sa := ea_ne h.2.2.2.2.1 h.2.2.1 (by decide)
  have n2 : ta ≠ sa := ea_ne h2.2.1 h.2.2.1 (by decide)
  have e : ∀ k, k ≠ 1000 + 512 * sa → k ≠ 10 → eu (eu E (1000 + 512 * sa) v) 10 v k = E k := fun k h1 h2 => by rw [eu_ne h2, eu_ne h1]
  exact ⟨TI0_set h, ta, ra, TP_eq (fun j hj => e _ (by omega) (by omega)) (fun j hj => ⟨e _ (by omega) (by omega), e _ (by omega) (by omega)⟩) ⟨e _ (by omega) (by decide), e _ (by omega) (by decide)⟩ h2⟩
theorem TI_image {E E1 : Nat → Nat} {Gc G' : th_G} {xa nn sa ta ra sz : Nat} {x : Int32} (h : TS E Gc xa nn sa) (h2 : TP_ E Gc xa ta ra) (hle : gle Gc G') (hq : IMQ G' E E1 sz nn sa x) (hsz : ∀ (q : Nat) (k : th_K), Gc q = some k → q < sz) : TI (mI E1 x) G' xa nn := by
  refine ⟨TI0_image h hle hq hsz, ta, ra, ?_⟩
  have h2 := TP_gle hle h2
  rcases hq with ⟨hr, hE⟩ | ⟨j, z, hj, hx, b1, b3, b4, b6, b7⟩
  · rw [mI_f hr, hE]; exact h2
  · rw [mI_t hj hx.symm]
    have a6 := hle _ _ h.2.2.2.1
    have a7 := hle _ _ h.2.2.2.2.1
    have m1 : xa ≠ z := ea_ne a7 b4 (by decide)
    have m2 : xa ≠ nn := ea_ne a7 a6 (by decide)
    have m3 : ta ≠ z := ea_ne h2.2.1 b4 (by decide)
    have m4 : ta ≠ nn := ea_ne h2.2.1 a6 (by decide)
    have e3 : ∀ k, k ≠ 11 + j → k ≠ 13 + j → k ≠ 1000 + j + 512 * nn → k ≠ 1000 + 512 * z → eu (eu E1 (11 + j) (E1 10)) (13 + j) 1 k = E k := fun k h1 h2 h3 h4 => by rw [eu_ne h2, eu_ne h1, b6 k h3 h4]
    exact TP_eq (fun i hi => e3 _ (by omega) (by omega) (by omega) (by omega)) (fun i hi => ⟨e3 _ (by omega) (by omega) (by omega) (by omega), e3 _ (by omega) (by omega) (by omega) (by omega)⟩) ⟨e3 _ (by omega) (by omega) (by omega) (by omega), e3 _ (by omega) (by omega) (by omega) (by omega)⟩ h2
theorem TI0_eqE {E E' : Nat → Nat} {Gc : th_G} {xa nn : Nat} (h : TI0 E Gc xa nn) (hx : ∀ (a j : Nat), (a = xa ∧ j = 0) ∨ (Gc a ≠ none ∧ a ≠ xa ∧ j < 2) → E' (1000 + j + 512 * a) = E (1000 + j + 512 * a)) (hf : ∀ j : Nat, 10 ≤ j → j < 15 → E' j = E j) : TI0 E' Gc xa nn := by
  obtain ⟨sa, a1, a3, a4, a6, a7, j0, j1, d⟩ := h
  have n1 : sa ≠ xa := ea_ne a4 a7 (by decide)
  have n2 : nn ≠ xa := ea_ne a6 a7 (by decide)
  have hs : ∀ j, j < 2 → E' (1000 + j + 512 * sa) = E (1000 + j + 512 * sa) := fun j hj => hx sa j (Or.inr ⟨by rw [a4]; exact Option.some_ne_none _, n1, hj⟩)
  have hn : ∀ j, j < 2 → E' (1000 + j + 512 * nn) = E (1000 + j + 512 * nn) := fun j hj => hx nn j (Or.inr ⟨by rw [a6]; exact Option.some_ne_none _, n2, hj⟩)
  have hj : ∀ j, j < 2 → TJ E Gc sa nn j → TJ E' Gc sa nn j := fun j hj z => by
    rcases z with ⟨z1, z2⟩ | ⟨b1, z, b2, b4, b5, b8⟩
    · exact Or.inl ⟨by rw [hn j hj]; exact z1, by rw [hf _ (by omega) (by omega)]; exact z2⟩
    · have hz := hx z 0 (Or.inr ⟨by rw [b5]; exact Option.some_ne_none _, ea_ne b5 a7 (by decide), by decide⟩)
      exact Or.inr ⟨by rw [hf _ (by omega) (by omega)]; exact b1, z, by rw [hn j hj]; exact b2, hz.trans (b4.trans (hf _ (by omega) (by omega)).symm), b5, b8⟩
  exact ⟨sa, (hx xa 0 (Or.inl ⟨rfl, rfl⟩)).trans a1, (hs 0 (by decide)).trans (a3.trans (hf 10 (by decide) (by decide)).symm), a4, a6, a7, hj 0 (by decide) j0, hj 1 (by decide) j1, fun z z' h1 h2 => d z z' (by rw [← hn 0 (by decide)]; exact h1) (by rw [← hn 1 (by decide)]; exact h2)⟩
theorem fN_ne {E : Nat → Nat} {z b t k : Nat} {x1 x2 x3 x4 x5 : Int32} (h1 : k ≠ z) (h2 : ¬ (b ≤ k ∧ k < b + 400)) : fN E z b t x1 x2 x3 x4 x5 k = E k := by
  unfold fN
  by_cases c : t + 20 ≤ 400
  · rw [if_pos c]; exact fW_ne h1 (by omega)
  · rw [if_neg c]
theorem TI_feed {E : Nat → Nat} {Gc : th_G} {xa nn ta ra : Nat} {x1 x2 x3 x4 x5 : Int32} (h : TI0 E Gc xa nn) (h2 : TP_ E Gc xa ta ra) : TI (fN (fN E (1001 + 512 * xa) (1100 + 512 * ta) (E (1001 + 512 * xa)) x1 x2 x3 x4 x5) 15 100 (fN E (1001 + 512 * xa) (1100 + 512 * ta) (E (1001 + 512 * xa)) x1 x2 x3 x4 x5 15) x1 x2 x3 x4 x5) Gc xa nn := by
  obtain ⟨a, b, c, d, e, f⟩ := h2
  have e15 : fN E (1001 + 512 * xa) (1100 + 512 * ta) (E (1001 + 512 * xa)) x1 x2 x3 x4 x5 15 = E (1001 + 512 * xa) := (fN_ne (by omega) (by omega)).trans d.symm
  rw [e15]
  have hk : ∀ k, k ≠ 1001 + 512 * xa → ¬ (1100 + 512 * ta ≤ k ∧ k < 1100 + 512 * ta + 400) → k ≠ 15 → ¬ (100 ≤ k ∧ k < 100 + 400) → fN (fN E (1001 + 512 * xa) (1100 + 512 * ta) (E (1001 + 512 * xa)) x1 x2 x3 x4 x5) 15 100 (E (1001 + 512 * xa)) x1 x2 x3 x4 x5 k = E k := fun k h1 h2 h3 h4 => by rw [fN_ne h3 h4, fN_ne h1 h2]
  have hx := h
  obtain ⟨sa, _, _, _, _, a7, _⟩ := hx
  have n1 : ta ≠ xa := ea_ne b a7 (by decide)
  refine ⟨TI0_eqE h (fun q j hq => hk _ (by omega) (by omega) (by omega) (by omega)) (fun j h1 h2 => hk _ (by omega) (by omega) (by omega) (by omega)), ta, ra, (hk _ (by omega) (by omega) (by omega) (by omega)).trans a, b, (hk _ (by omega) (by omega) (by omega) (by omega)).trans c, ?_, ?_, fun j hj => ?_⟩
  · rw [fN_ne (show 1001 + 512 * xa ≠ 15 by omega) (by omega)]
    generalize ht : E (1001 + 512 * xa) = t at *
    by_cases q : t + 20 ≤ 400
    · unfold fN; rw [if_pos q, if_pos q]; unfold fW; rw [if_pos rfl, if_pos rfl]
    · unfold fN; rw [if_neg q, if_neg q]; exact ht.trans d
  · rw [hk _ (by omega) (by omega) (by omega) (by omega), hk 16 (by omega) (by omega) (by omega) (by omega)]; exact e
  · rw [fN_ne (show 1100 + 512 * ta + j ≠ 15 by omega) (by omega)]
    generalize ht : E (1001 + 512 * xa) = t at *
    by_cases q : t + 20 ≤ 400
    · unfold fN
      rw [if_pos q, if_pos q]
      by_cases z : t ≤ j ∧ j < t + 20
      · rw [fW_in (by omega) (by omega), fW_in (by omega) (by omega), show 1100 + 512 * ta + j - (1100 + 512 * ta + t) = j - t by omega, show 100 + j - (100 + t) = j - t by omega]
      · rw [fW_ne (by omega) (by omega), fW_ne (by omega) (by omega), fW_ne (by omega) (by omega)]; exact f j hj
    · unfold fN
      rw [if_neg q, if_neg q]; exact f j hj
theorem TI_size {E : Nat → Nat} {Gc : th_G} {xa nn ta ra v : Nat} (h : TI0 E Gc xa nn) (h2 : TP_ E Gc xa ta ra) : TI (eu (eu E (1001 + 512 * xa) v) 15 v) Gc xa nn := by
  obtain ⟨a, b, c, d, e, f⟩ := h2
  have hk : ∀ k, k ≠ 1001 + 512 * xa → k ≠ 15 → eu (eu E (1001 + 512 * xa) v) 15 v k = E k := fun k h1 h2 => by rw [eu_ne h2, eu_ne h1]
  have hx := h
  obtain ⟨sa, _, _, _, _, a7, _⟩ := hx
  have n1 : ta ≠ xa := ea_ne b a7 (by decide)
  exact ⟨TI0_eqE h (fun q j hq => hk _ (by omega) (by omega)) (fun j h1 h2 => hk _ (by omega) (by omega)), ta, ra, (hk _ (by omega) (by omega)).trans a, b, (hk _ (by omega) (by omega)).trans c, by rw [eu_ne (by omega), eu_at, eu_at], by rw [hk _ (by omega) (by omega), hk 16 (by omega) (by decide)]; exact e, fun j hj => by rw [hk _ (by omega) (by omega), hk _ (by omega) (by omega)]; exact f j hj⟩
/-- what both laws look at is the same -/
theorem TP_lw {E : Nat → Nat} {Gc : th_G} {xa nn sa ta ra : Nat} (h : TS E Gc xa nn sa) (h2 : TP_ E Gc xa ta ra) : let E1 := mL E (1001 + 512 * xa) (1002 + 512 * xa) (1000 + 512 * sa) (tC E ta); E1 15 = E (1001 + 512 * xa) ∧ E1 16 = E (1002 + 512 * xa) ∧ E1 10 = E (1000 + 512 * sa) ∧ ∀ j : Nat, j < 400 → tB E1 j = tC E ta j := by
  obtain ⟨a, b, c, d, e, f⟩ := h2
  refine ⟨?_, ?_, ?_, fun j hj => ?_⟩
  · exact (mL_ne (by omega) (by omega) (by omega)).trans d.symm
  · exact (mL_ne (by omega) (by omega) (by omega)).trans e.symm
  · exact (mL_ne (by omega) (by omega) (by omega)).trans h.2.1.symm
  · exact (mL_ne (k := 100 + j) (by omega) (by omega) (by omega)).trans (f j hj).symm
theorem TI_law {E : Nat → Nat} {Gc : th_G} {xa nn sa ta ra : Nat} (h : TS E Gc xa nn sa) (h2 : TP_ E Gc xa ta ra) (h4 : E (1001 + 512 * xa) ≤ 400) : TI (mL (mL E (1001 + 512 * xa) (1002 + 512 * xa) (1000 + 512 * sa) (tC E ta)) 15 16 10 (tB (mL E (1001 + 512 * xa) (1002 + 512 * xa) (1000 + 512 * sa) (tC E ta)))) Gc xa nn := by
  have n1 : xa ≠ sa := ea_ne h.2.2.2.2.1 h.2.2.1 (by decide)
  have n2 : ta ≠ sa := ea_ne h2.2.1 h.2.2.1 (by decide)
  have n3 : ta ≠ xa := ea_ne h2.2.1 h.2.2.2.2.1 (by decide)
  obtain ⟨p1, p2, p3, p4⟩ := TP_lw h h2
  generalize hE1 : mL E (1001 + 512 * xa) (1002 + 512 * xa) (1000 + 512 * sa) (tC E ta) = E1 at p1 p2 p3 p4 ⊢
  have hk1 : ∀ k, k ≠ 1001 + 512 * xa → k ≠ 1002 + 512 * xa → k ≠ 1000 + 512 * sa → E1 k = E k := fun k a b c => by rw [← hE1, mL_ne a b c]
  have hk : ∀ k, k ≠ 1001 + 512 * xa → k ≠ 1002 + 512 * xa → k ≠ 1000 + 512 * sa → k ≠ 15 → k ≠ 16 → k ≠ 10 → mL E1 15 16 10 (tB E1) k = E k := fun k a b c d e f => (mL_ne d e f).trans (hk1 k a b c)
  have hc := mL_cg (E := E) (E' := E1) (z := 1001 + 512 * xa) (fs := 1002 + 512 * xa) (ss := 1000 + 512 * sa) (B := tC E ta) (z' := 15) (fs' := 16) (ss' := 10) (B' := tB E1) p1 p2 p3 (fun j hj => p4 j (by omega)) (by omega) (by decide)
  have hc1 : mL E1 15 16 10 (tB E1) 16 = E1 (1002 + 512 * xa) := by rw [hc.1, hE1]
  have hc2 : mL E1 15 16 10 (tB E1) 10 = E1 (1000 + 512 * sa) := by rw [hc.2, hE1]
  have hz : E1 (1001 + 512 * xa) = 0 := by rw [← hE1]; exact mL_z (by omega) (by omega)
  have hu : ∀ k, 1000 ≤ k → mL E1 15 16 10 (tB E1) k = E1 k := fun k hk => mL_ne (by omega) (by omega) (by omega)
  obtain ⟨a1, a3, a4, a6, a7, j0, j1, d⟩ := h
  obtain ⟨b1, b2, b3, b4, b5, b6⟩ := h2
  have n4 : nn ≠ sa := ea_ne a6 a4 (by decide)
  have n5 : nn ≠ xa := ea_ne a6 a7 (by decide)
  have hj : ∀ j, j < 2 → TJ E Gc sa nn j → TJ (mL E1 15 16 10 (tB E1)) Gc sa nn j := fun j hj z => by
    rcases z with ⟨z1, z2⟩ | ⟨c1, z, c2, c4, c5, c8⟩
    · exact Or.inl ⟨by rw [hk _ (by omega) (by omega) (by omega) (by omega) (by omega) (by omega)]; exact z1, by rw [hk _ (by omega) (by omega) (by omega) (by omega) (by omega) (by omega)]; exact z2⟩
    · have n6 : z ≠ xa := ea_ne c5 a7 (by decide)
      exact Or.inr ⟨by rw [hk _ (by omega) (by omega) (by omega) (by omega) (by omega) (by omega)]; exact c1, z, by rw [hk _ (by omega) (by omega) (by omega) (by omega) (by omega) (by omega)]; exact c2, by rw [hk _ (by omega) (by omega) (by omega) (by omega) (by omega) (by omega), hk (11 + j) (by omega) (by omega) (by omega) (by omega) (by omega) (by omega)]; exact c4, c5, c8⟩
  refine ⟨⟨sa, by rw [hk _ (by omega) (by omega) (by omega) (by omega) (by omega) (by omega)]; exact a1, by rw [hc2]; exact hu _ (by omega), a4, a6, a7, hj 0 (by decide) j0, hj 1 (by decide) j1, fun z z' q1 q2 => ?_⟩, ta, ra, (hk _ (by omega) (by omega) (by omega) (by omega) (by omega) (by omega)).trans b1, b2, (hk _ (by omega) (by omega) (by omega) (by omega) (by omega) (by omega)).trans b3, by rw [hu _ (by omega), hz]; exact (mL_z (by decide) (by decide)).symm, by rw [hc1]; exact hu _ (by omega), fun j hj => by rw [hk _ (by omega) (by omega) (by omega) (by omega) (by omega) (by omega), hk (100 + j) (by omega) (by omega) (by omega) (by omega) (by omega) (by omega)]; exact b6 j hj⟩
  rw [hk _ (by omega) (by omega) (by omega) (by omega) (by omega) (by omega)] at q1 q2
  exact d z z' q1 q2
theorem TI_init {E : Nat → Nat} {D : va_G} {Gc : th_G} {H : Heap} {xa nn : Nat} (hI : th_I (okC E) D Gc [] H) (hx : Gc xa = some (15, nn)) (hE : ∀ j : Nat, (j = 10 ∨ 13 ≤ j) → E j = 0) : ∃ E2 : Nat → Nat, (∀ j : Nat, j < 1000 → E2 j = E j) ∧ th_I (okC E2) D Gc [] H ∧ TI E2 Gc xa nn := by
  obtain ⟨sa, h1, hI1⟩ := ea_state hI hx
  obtain ⟨h3, h4⟩ := ea_sa hI1 hx (sa := sa) eu_at
  obtain ⟨ta, g1, hI2⟩ := ea_tape hI1 hx
  obtain ⟨ra, hI3⟩ := ea_rd hI2 hx
  have n1 : xa ≠ sa := ea_ne hx h1 (by decide)
  have n4 : nn ≠ xa := ea_ne h4 hx (by decide)
  have n5 : ta ≠ xa := ea_ne g1 hx (by decide)
  generalize hE3 : eu (eu (eu E (1000 + 512 * xa) (sa + 1)) (1003 + 512 * xa) (ta + 1)) (1004 + 512 * xa) (ra + 1) = E3 at hI3
  have e : ∀ k, k ≠ 1000 + 512 * xa → k ≠ 1003 + 512 * xa → k ≠ 1004 + 512 * xa → E3 k = E k := fun k a b c => by rw [← hE3, eu_ne c, eu_ne b, eu_ne a]
  have z : ∀ k, k ≠ 1000 + 512 * xa → k ≠ 1003 + 512 * xa → k ≠ 1004 + 512 * xa → (k = 10 ∨ 13 ≤ k) → E3 k = 0 := fun k a b c d => (e k a b c).trans (hE k d)
  have y : ∀ j, j < 2 → E3 (1000 + j + 512 * nn) = 0 := fun j hj => z _ (by omega) (by omega) (by omega) (by omega)
  refine ⟨E3, fun j hj => e _ (by omega) (by omega) (by omega), hI3, ⟨sa, by rw [← hE3, eu_ne (by omega), eu_ne (by omega), eu_at], by rw [z _ (by omega) (by omega) (by omega) (by omega), z 10 (by omega) (by omega) (by omega) (by omega)], h1, h4, hx, Or.inl ⟨y 0 (by decide), z _ (by omega) (by omega) (by omega) (by omega)⟩, Or.inl ⟨y 1 (by decide), z _ (by omega) (by omega) (by omega) (by omega)⟩, fun za zb q1 _ => ?_⟩, ta, ra, by rw [← hE3, eu_ne (by omega), eu_at], g1, by rw [← hE3, eu_at], by rw [z _ (by omega) (by omega) (by omega) (by omega), z 15 (by omega) (by omega) (by omega) (by omega)], by rw [z _ (by omega) (by omega) (by omega) (by omega), z 16 (by omega) (by omega) (by omega) (by omega)], fun j hj => by rw [z _ (by omega) (by omega) (by omega) (by omega), z _ (by omega) (by omega) (by omega) (by omega)]⟩
  have := y 0 (by decide)
  omega
section LW
variable {p : Program} {l : Launch} {e : Env} {R : Room} {s : State} {m : MethodId} {args : Array Value} {below : List Frame} {meth : Method} {c : Code} {H : Heap} {locs : List Loc} {cells slots : Nat} {Q : State → Prop}
variable {cc : ByteArray} {pc nL : Nat} {ls : Array Slot} {rest st0 As : List Value} {D : va_G} {E : Nat → Nat} {Gc Gm : th_G} {xa ma nn : Nat} {adK adV : Nat → Nat}
variable {own : String} {index n maxL d mc ms : Nat} {y : MethodName} {bytes : ByteArray} {ret : Option FieldType} {cw : Cond} {rr : Room}
theorem lc_e {E' : Nat → Nat} {post : Int32 → Prop} (F : CallFix p m c cc nL s args (tb cw) own) (hM : Met l y (tb (.code y bytes maxL ret)) (rm d) (va_Pc (.ref xa :: As) (th_P E D Gc)) (QI E' D Gc post) 0 0 (th_A Gc)) (hlo : ∀ j : Nat, j < 1000 → E' j = E j)
    (h1 : Cond.methodLink own index y ∈ TB) (h2 : Cond.instanceMethod y ∈ TB) (h3 : Cond.selects RX11 y y ∈ TB) (h4 : Cond.initialized RX11 ∈ TB) (h5 : Cond.code y bytes maxL ret ∈ TB)
    (hd : y.cls = RX11 ∧ y.cls ≠ "java/lang/invoke/MethodHandle" ∧ y.cls ≠ "java/lang/invoke/VarHandle" ∧ (parseMethodDescriptor y.desc).map (fun d => d.parameters.length) = some n) (hR : d + 1 ≤ R.frames ∧ 8 + (maxL + 11) + 40 * d ≤ R.locals)
    (hL : LWs E D s xa ma Gc Gm nn H locs) (hN : th_N s) (hK : va_K D vwCl (th_tys E) s)
    (hn : As.length = n) (hsize : ls.size = nL) (hst : st0 = As.reverse ++ .ref xa :: rest) (hrm : (rest.map fun v => v.category).sum ≤ 8) (hdg : decode cc pc = .ok (.invokevirtual index, 3)) (hcs : cells ≤ R.cells ∧ slots ≤ R.slots)
    (kk : ∀ (r : Int32) (H1 : Heap) (locs1 : List Loc) (E2 : Nat → Nat), E2 = E' → post r → LWs E2 D s xa ma Gc Gm nn H1 locs1 → W p l e R s m args below meth c H1 locs1 cells slots Q (F0 m (pc + 3) ls (.int r :: rest))) : W p l e R s m args below meth c H locs cells slots Q (F0 m pc ls st0) := by
  obtain ⟨hI, hx, hI2, hm, hA1, hA2, hdj, hS⟩ := hL
  obtain ⟨fs, hO⟩ := rc_15 hI hx List.not_mem_nil
  exact va_calli (va_runV (As := As) (rest := rest) F hM (cwV n F.2.2.2.2 (tb_V h1 h2 h3 h4 h5) rfl rfl rfl hd hR) ⟨th_blind, va_recv hK (th_one hO) (q := (RX11, TX11, 17)) rfl (q0 := 0) rfl, fun U hU hW => ⟨rfl, by rw [hU]; exact hI, hN.warm hW, va_K.moved hW.alike hK⟩⟩ rfl hn hsize hst (lv_room hrm) hdg hcs) hS (fun q _ h => by obtain ⟨k', h⟩ := h; exact hA1 q k' h) (fun q h => by obtain ⟨k', h⟩ := h; exact hA1 q k' h) (fun r u t H1 locs1 ht hvm hw hB hz hk hS1 => kk r H1 locs1 _ rfl hw ⟨by rw [← ht]; exact hB.1, hx, th_keep (tm_eq hlo hI2) hk (fun r k h z => by obtain ⟨k', z⟩ := z; rw [hdj r k h] at z; cases z), hm, hA1, hA2, hdj, hS1⟩)
theorem lc_i {post : Int32 → Prop} (F : CallFix p m c cc nL s args (tb cw) own) (hM : Met l y (tb (.code y bytes maxL ret)) (rm d) (va_Pc (.ref xa :: As) (th_P E D Gc)) (QI E D Gc post) 0 0 (th_A Gc))
    (h1 : Cond.methodLink own index y ∈ TB) (h2 : Cond.instanceMethod y ∈ TB) (h3 : Cond.selects RX11 y y ∈ TB) (h4 : Cond.initialized RX11 ∈ TB) (h5 : Cond.code y bytes maxL ret ∈ TB)
    (hd : y.cls = RX11 ∧ y.cls ≠ "java/lang/invoke/MethodHandle" ∧ y.cls ≠ "java/lang/invoke/VarHandle" ∧ (parseMethodDescriptor y.desc).map (fun d => d.parameters.length) = some n) (hR : d + 1 ≤ R.frames ∧ 8 + (maxL + 11) + 40 * d ≤ R.locals)
    (hL : LWs E D s xa ma Gc Gm nn H locs) (hN : th_N s) (hK : va_K D vwCl (th_tys E) s)
    (hn : As.length = n) (hsize : ls.size = nL) (hst : st0 = As.reverse ++ .ref xa :: rest) (hrm : (rest.map fun v => v.category).sum ≤ 8) (hdg : decode cc pc = .ok (.invokevirtual index, 3)) (hcs : cells ≤ R.cells ∧ slots ≤ R.slots)
    (kk : ∀ (r : Int32) (H1 : Heap) (locs1 : List Loc), post r → LWs E D s xa ma Gc Gm nn H1 locs1 → W p l e R s m args below meth c H1 locs1 cells slots Q (F0 m (pc + 3) ls (.int r :: rest))) : W p l e R s m args below meth c H locs cells slots Q (F0 m pc ls st0) := by
  obtain ⟨hI, hx, hI2, hm, hA1, hA2, hdj, hS⟩ := hL
  obtain ⟨fs, hO⟩ := rc_15 hI hx List.not_mem_nil
  exact va_calli (va_runV (As := As) (rest := rest) F hM (cwV n F.2.2.2.2 (tb_V h1 h2 h3 h4 h5) rfl rfl rfl hd hR) ⟨th_blind, va_recv hK (th_one hO) (q := (RX11, TX11, 17)) rfl (q0 := 0) rfl, fun U hU hW => ⟨rfl, by rw [hU]; exact hI, hN.warm hW, va_K.moved hW.alike hK⟩⟩ rfl hn hsize hst (lv_room hrm) hdg hcs) hS (fun q _ h => by obtain ⟨k', h⟩ := h; exact hA1 q k' h) (fun q h => by obtain ⟨k', h⟩ := h; exact hA1 q k' h) (fun r u t H1 locs1 ht hvm hw hB hz hk hS1 => kk r H1 locs1 hw ⟨by rw [← ht]; exact hB.1, hx, th_keep hI2 hk (fun r k h z => by obtain ⟨k', z⟩ := z; rw [hdj r k h] at z; cases z), hm, hA1, hA2, hdj, hS1⟩)
theorem lm_e {E' : Nat → Nat} {post : Int32 → Prop} (F : CallFix p m c cc nL s args (tb cw) own) (hM : Met l y (tb (.code y bytes maxL ret)) (rm d) (va_Pc (.ref ma :: As) (PX E D Gm (fun _ => True))) (QXi E' D Gm (fun r _ => post r)) 0 0 (th_A Gm)) (hlo : ∀ j : Nat, j < 6 ∨ 1000 ≤ j → E' j = E j)
    (h1 : Cond.methodLink own index y ∈ TB) (h2 : Cond.instanceMethod y ∈ TB) (h3 : Cond.selects RX12 y y ∈ TB) (h4 : Cond.initialized RX12 ∈ TB) (h5 : Cond.code y bytes maxL ret ∈ TB)
    (hd : y.cls = RX12 ∧ y.cls ≠ "java/lang/invoke/MethodHandle" ∧ y.cls ≠ "java/lang/invoke/VarHandle" ∧ (parseMethodDescriptor y.desc).map (fun d => d.parameters.length) = some n) (hR : d + 1 ≤ R.frames ∧ 8 + (maxL + 11) + 40 * d ≤ R.locals)
    (hL : LWs E D s xa ma Gc Gm nn H locs) (hN : th_N s) (hK : va_K D vwCl (th_tys E) s)
    (hn : As.length = n) (hsize : ls.size = nL) (hst : st0 = As.reverse ++ .ref ma :: rest) (hrm : (rest.map fun v => v.category).sum ≤ 8) (hdg : decode cc pc = .ok (.invokevirtual index, 3)) (hcs : cells ≤ R.cells ∧ slots ≤ R.slots)
    (kk : ∀ (r : Int32) (H1 : Heap) (locs1 : List Loc) (E2 : Nat → Nat), E2 = E' → post r → LWs E2 D s xa ma Gc Gm nn H1 locs1 → W p l e R s m args below meth c H1 locs1 cells slots Q (F0 m (pc + 3) ls (.int r :: rest))) : W p l e R s m args below meth c H locs cells slots Q (F0 m pc ls st0) := by
  obtain ⟨hI, hx, hI2, hm, hA1, hA2, hdj, hS⟩ := hL
  obtain ⟨fs, hO⟩ := rm_10 hI2 hm List.not_mem_nil
  exact va_calli (va_runV (As := As) (rest := rest) F hM (cwV n F.2.2.2.2 (tb_V h1 h2 h3 h4 h5) rfl rfl rfl hd hR) ⟨mx_blind, va_recv hK (th_one hO) (q := (RX12, TX12, 52)) rfl (q0 := 0) rfl, fun U hU hW => ⟨rfl, ⟨by rw [hU]; exact hI2, hN.warm hW, va_K.moved hW.alike hK⟩, trivial⟩⟩ rfl hn hsize hst (lv_room hrm) hdg hcs) hS (fun q _ h => by obtain ⟨k', h⟩ := h; exact hA2 q k' h) (fun q h => by obtain ⟨k', h⟩ := h; exact hA2 q k' h) (fun r u t H1 locs1 ht hvm hw hB hz hk hS1 => kk r H1 locs1 _ rfl (by rw [← hw]; exact hB.2) ⟨th_keep (th_eq (fun j hj => hlo j (Or.inl hj)) (fun a j _ _ _ => hlo _ (Or.inr (by omega))) hI) hk (fun r k h z => by obtain ⟨k', z⟩ := z; rw [hdj r k' z] at h; cases h), hx, by rw [← ht]; exact hB.1.1, hm, hA1, hA2, hdj, hS1⟩)
theorem lm_i {post : Int32 → Prop} (F : CallFix p m c cc nL s args (tb cw) own) (hM : Met l y (tb (.code y bytes maxL ret)) (rm d) (va_Pc (.ref ma :: As) (PX E D Gm (fun _ => True))) (QXi E D Gm (fun r _ => post r)) 0 0 (th_A Gm))
    (h1 : Cond.methodLink own index y ∈ TB) (h2 : Cond.instanceMethod y ∈ TB) (h3 : Cond.selects RX12 y y ∈ TB) (h4 : Cond.initialized RX12 ∈ TB) (h5 : Cond.code y bytes maxL ret ∈ TB)
    (hd : y.cls = RX12 ∧ y.cls ≠ "java/lang/invoke/MethodHandle" ∧ y.cls ≠ "java/lang/invoke/VarHandle" ∧ (parseMethodDescriptor y.desc).map (fun d => d.parameters.length) = some n) (hR : d + 1 ≤ R.frames ∧ 8 + (maxL + 11) + 40 * d ≤ R.locals)
    (hL : LWs E D s xa ma Gc Gm nn H locs) (hN : th_N s) (hK : va_K D vwCl (th_tys E) s)
    (hn : As.length = n) (hsize : ls.size = nL) (hst : st0 = As.reverse ++ .ref ma :: rest) (hrm : (rest.map fun v => v.category).sum ≤ 8) (hdg : decode cc pc = .ok (.invokevirtual index, 3)) (hcs : cells ≤ R.cells ∧ slots ≤ R.slots)
    (kk : ∀ (r : Int32) (H1 : Heap) (locs1 : List Loc), post r → LWs E D s xa ma Gc Gm nn H1 locs1 → W p l e R s m args below meth c H1 locs1 cells slots Q (F0 m (pc + 3) ls (.int r :: rest))) : W p l e R s m args below meth c H locs cells slots Q (F0 m pc ls st0) := by
  obtain ⟨hI, hx, hI2, hm, hA1, hA2, hdj, hS⟩ := hL
  obtain ⟨fs, hO⟩ := rm_10 hI2 hm List.not_mem_nil
  exact va_calli (va_runV (As := As) (rest := rest) F hM (cwV n F.2.2.2.2 (tb_V h1 h2 h3 h4 h5) rfl rfl rfl hd hR) ⟨mx_blind, va_recv hK (th_one hO) (q := (RX12, TX12, 52)) rfl (q0 := 0) rfl, fun U hU hW => ⟨rfl, ⟨by rw [hU]; exact hI2, hN.warm hW, va_K.moved hW.alike hK⟩, trivial⟩⟩ rfl hn hsize hst (lv_room hrm) hdg hcs) hS (fun q _ h => by obtain ⟨k', h⟩ := h; exact hA2 q k' h) (fun q h => by obtain ⟨k', h⟩ := h; exact hA2 q k' h) (fun r u t H1 locs1 ht hvm hw hB hz hk hS1 => kk r H1 locs1 (by rw [← hw]; exact hB.2) ⟨th_keep hI hk (fun r k h z => by obtain ⟨k', z⟩ := z; rw [hdj r k' z] at h; cases h), hx, by rw [← ht]; exact hB.1.1, hm, hA1, hA2, hdj, hS1⟩)
/-- the makers: an image, a law -/
theorem lc_mk {PP : State → Prop} {post : Int32 → Prop} (F : CallFix p m c cc nL s args (tb cw) own) (hM : Met l y (tb (.code y bytes maxL ret)) rr (va_Pc (.ref xa :: As) PP) (QMI E D Gc H.size post) mc ms (nA Gc H.size)) (hbl : FrameBlind (va_Pc (.ref xa :: As) PP)) (hPP : ∀ U : State, U.heap = H → s.WarmedH U.vm → PP U)
    (h1 : Cond.methodLink own index y ∈ TB) (h2 : Cond.instanceMethod y ∈ TB) (h3 : Cond.selects RX11 y y ∈ TB) (h4 : Cond.initialized RX11 ∈ TB) (h5 : Cond.code y bytes maxL ret ∈ TB) (hrr : rr.cells = mc ∧ rr.slots = ms)
    (hd : y.cls = RX11 ∧ y.cls ≠ "java/lang/invoke/MethodHandle" ∧ y.cls ≠ "java/lang/invoke/VarHandle" ∧ (parseMethodDescriptor y.desc).map (fun d => d.parameters.length) = some n) (hR : rr.frames + 1 ≤ R.frames ∧ 8 + (maxL + 11) + rr.locals ≤ R.locals)
    (hL : LWs E D s xa ma Gc Gm nn H locs) (hK : va_K D vwCl (th_tys E) s)
    (hn : As.length = n) (hsize : ls.size = nL) (hst : st0 = As.reverse ++ .ref xa :: rest) (hrm : (rest.map fun v => v.category).sum ≤ 8) (hdg : decode cc pc = .ok (.invokevirtual index, 3)) (hcs : cells + mc ≤ R.cells ∧ slots + ms ≤ R.slots)
    (kk : ∀ (r : Int32) (G' : th_G) (H1 : Heap) (locs1 : List Loc), post r → gle Gc G' → LWs E D s xa ma G' Gm nn H1 locs1 → W p l e R s m args below meth c H1 locs1 (cells + mc) (slots + ms) Q (F0 m (pc + 3) ls (.int r :: rest))) : W p l e R s m args below meth c H locs cells slots Q (F0 m pc ls st0) := by
  obtain ⟨hI, hx, hI2, hm, hA1, hA2, hdj, hS⟩ := hL
  obtain ⟨fs, hO⟩ := rc_15 hI hx List.not_mem_nil
  have hF : ∀ q, nA Gc H.size q → LWa s q := fun q h => by
    rcases h with ⟨k', h⟩ | h
    · exact hA1 q k' h
    · exact Nat.le_trans hS.1 h
  exact va_calli (va_runV (As := As) (rest := rest) F hM (cwV n F.2.2.2.2 (tb_V h1 h2 h3 h4 h5) rfl hrr.1 hrr.2 hd hR) ⟨hbl, va_recv hK (th_one hO) (q := (RX11, TX11, 17)) rfl (q0 := 0) rfl, fun U hU hW => ⟨rfl, hPP U hU hW⟩⟩ rfl hn hsize hst (lv_room hrm) hdg hcs) hS (fun q _ h => hF q h) hF (fun r G' t H1 locs1 ht hvm hw hB hz hk hS1 => kk r G' H1 locs1 hw.1 hw.2.1 ⟨by rw [← ht]; exact hB.1, hw.2.1 _ _ hx, th_keep hI2 hk (fun r k h z => by
      rcases z with ⟨k', z⟩ | z
      · rw [hdj r k h] at z; cases z
      · exact absurd (mm_lt' hI2 h) (by omega)), hm, fun r k h => by
      rcases hw.2.2 r k h with h | h
      · exact hA1 r k h
      · exact Nat.le_trans hS.1 h, hA2, fun r k h => by
      cases hg : G' r with
      | none => rfl
      | some k' =>
        rcases hw.2.2 r k' hg with z | z
        · rw [hdj r k h] at z; cases z
        · exact absurd (mm_lt' hI2 h) (by omega), hS1⟩)
theorem lc_im {t : Nat} {x : Int32} {PP : State → Prop} {post : Int32 → Prop} (F : CallFix p m c cc nL s args (tb cw) own) (hM : Met l y (tb (.code y bytes maxL ret)) rr (va_Pc (.ref xa :: As) PP) (QME E D Gc H.size nn t x post) mc ms (nA Gc H.size)) (hbl : FrameBlind (va_Pc (.ref xa :: As) PP)) (hPP : ∀ U : State, U.heap = H → s.WarmedH U.vm → PP U)
    (h1 : Cond.methodLink own index y ∈ TB) (h2 : Cond.instanceMethod y ∈ TB) (h3 : Cond.selects RX11 y y ∈ TB) (h4 : Cond.initialized RX11 ∈ TB) (h5 : Cond.code y bytes maxL ret ∈ TB) (hrr : rr.cells = mc ∧ rr.slots = ms)
    (hd : y.cls = RX11 ∧ y.cls ≠ "java/lang/invoke/MethodHandle" ∧ y.cls ≠ "java/lang/invoke/VarHandle" ∧ (parseMethodDescriptor y.desc).map (fun d => d.parameters.length) = some n) (hR : rr.frames + 1 ≤ R.frames ∧ 8 + (maxL + 11) + rr.locals ≤ R.locals)
    (hL : LWs E D s xa ma Gc Gm nn H locs) (hK : va_K D vwCl (th_tys E) s)
    (hn : As.length = n) (hsize : ls.size = nL) (hst : st0 = As.reverse ++ .ref xa :: rest) (hrm : (rest.map fun v => v.category).sum ≤ 8) (hdg : decode cc pc = .ok (.invokevirtual index, 3)) (hcs : cells + mc ≤ R.cells ∧ slots + ms ≤ R.slots)
    (kk : ∀ (r : Int32) (G' : th_G) (E' : Nat → Nat) (H1 : Heap) (locs1 : List Loc), post r → gle Gc G' → IMQ G' E E' H.size nn t x → LWs E' D s xa ma G' Gm nn H1 locs1 → W p l e R s m args below meth c H1 locs1 (cells + mc) (slots + ms) Q (F0 m (pc + 3) ls (.int r :: rest))) : W p l e R s m args below meth c H locs cells slots Q (F0 m pc ls st0) := by
  obtain ⟨hI, hx, hI2, hm, hA1, hA2, hdj, hS⟩ := hL
  obtain ⟨fs, hO⟩ := rc_15 hI hx List.not_mem_nil
  have hF : ∀ q, nA Gc H.size q → LWa s q := fun q h => by
    rcases h with ⟨k', h⟩ | h
    · exact hA1 q k' h
    · exact Nat.le_trans hS.1 h
  exact va_calli (va_runV (As := As) (rest := rest) F hM (cwV n F.2.2.2.2 (tb_V h1 h2 h3 h4 h5) rfl hrr.1 hrr.2 hd hR) ⟨hbl, va_recv hK (th_one hO) (q := (RX11, TX11, 17)) rfl (q0 := 0) rfl, fun U hU hW => ⟨rfl, hPP U hU hW⟩⟩ rfl hn hsize hst (lv_room hrm) hdg hcs) hS (fun q _ h => hF q h) hF (fun r U t H1 locs1 ht hvm hw hB hz hk hS1 => kk r U.1 U.2 H1 locs1 hw.1 hw.2.1 hw.2.2.2 ⟨by rw [← ht]; exact hB.1, hw.2.1 _ _ hx, th_keep (tm_eq (IMQ_lo hw.2.2.2) hI2) hk (fun r k h z => by
      rcases z with ⟨k', z⟩ | z
      · rw [hdj r k h] at z; cases z
      · exact absurd (mm_lt' hI2 h) (by omega)), hm, fun r k h => by
      rcases hw.2.2.1 r k h with h | h
      · exact hA1 r k h
      · exact Nat.le_trans hS.1 h, hA2, fun r k h => by
      cases hg : U.1 r with
      | none => rfl
      | some k' =>
        rcases hw.2.2.1 r k' hg with z | z
        · rw [hdj r k h] at z; cases z
        · exact absurd (mm_lt' hI2 h) (by omega), hS1⟩)
theorem lc_mkE {E' : Nat → Nat} {PP : State → Prop} {post : Int32 → Prop} (F : CallFix p m c cc nL s args (tb cw) own) (hM : Met l y (tb (.code y bytes maxL ret)) rr (va_Pc (.ref xa :: As) PP) (QMI E' D Gc H.size post) mc ms (nA Gc H.size)) (hlo : ∀ j : Nat, j < 1000 → E' j = E j) (hbl : FrameBlind (va_Pc (.ref xa :: As) PP)) (hPP : ∀ U : State, U.heap = H → s.WarmedH U.vm → PP U)
    (h1 : Cond.methodLink own index y ∈ TB) (h2 : Cond.instanceMethod y ∈ TB) (h3 : Cond.selects RX11 y y ∈ TB) (h4 : Cond.initialized RX11 ∈ TB) (h5 : Cond.code y bytes maxL ret ∈ TB) (hrr : rr.cells = mc ∧ rr.slots = ms)
    (hd : y.cls = RX11 ∧ y.cls ≠ "java/lang/invoke/MethodHandle" ∧ y.cls ≠ "java/lang/invoke/VarHandle" ∧ (parseMethodDescriptor y.desc).map (fun d => d.parameters.length) = some n) (hR : rr.frames + 1 ≤ R.frames ∧ 8 + (maxL + 11) + rr.locals ≤ R.locals)
    (hL : LWs E D s xa ma Gc Gm nn H locs) (hK : va_K D vwCl (th_tys E) s)
    (hn : As.length = n) (hsize : ls.size = nL) (hst : st0 = As.reverse ++ .ref xa :: rest) (hrm : (rest.map fun v => v.category).sum ≤ 8) (hdg : decode cc pc = .ok (.invokevirtual index, 3)) (hcs : cells + mc ≤ R.cells ∧ slots + ms ≤ R.slots)
    (kk : ∀ (r : Int32) (G' : th_G) (E2 : Nat → Nat) (H1 : Heap) (locs1 : List Loc), E2 = E' → post r → gle Gc G' → LWs E2 D s xa ma G' Gm nn H1 locs1 → W p l e R s m args below meth c H1 locs1 (cells + mc) (slots + ms) Q (F0 m (pc + 3) ls (.int r :: rest))) : W p l e R s m args below meth c H locs cells slots Q (F0 m pc ls st0) := by
  obtain ⟨hI, hx, hI2, hm, hA1, hA2, hdj, hS⟩ := hL
  obtain ⟨fs, hO⟩ := rc_15 hI hx List.not_mem_nil
  have hF : ∀ q, nA Gc H.size q → LWa s q := fun q h => by
    rcases h with ⟨k', h⟩ | h
    · exact hA1 q k' h
    · exact Nat.le_trans hS.1 h
  exact va_calli (va_runV (As := As) (rest := rest) F hM (cwV n F.2.2.2.2 (tb_V h1 h2 h3 h4 h5) rfl hrr.1 hrr.2 hd hR) ⟨hbl, va_recv hK (th_one hO) (q := (RX11, TX11, 17)) rfl (q0 := 0) rfl, fun U hU hW => ⟨rfl, hPP U hU hW⟩⟩ rfl hn hsize hst (lv_room hrm) hdg hcs) hS (fun q _ h => hF q h) hF (fun r G' t H1 locs1 ht hvm hw hB hz hk hS1 => kk r G' _ H1 locs1 rfl hw.1 hw.2.1 ⟨by rw [← ht]; exact hB.1, hw.2.1 _ _ hx, th_keep (tm_eq hlo hI2) hk (fun r k h z => by
      rcases z with ⟨k', z⟩ | z
      · rw [hdj r k h] at z; cases z
      · exact absurd (mm_lt' hI2 h) (by omega)), hm, fun r k h => by
      rcases hw.2.2 r k h with h | h
      · exact hA1 r k h
      · exact Nat.le_trans hS.1 h, hA2, fun r k h => by
      cases hg : G' r with
      | none => rfl
      | some k' =>
        rcases hw.2.2 r k' hg with z | z
        · rw [hdj r k h] at z; cases z
        · exact absurd (mm_lt' hI2 h) (by omega), hS1⟩)
/-- the two constructors -/
theorem lc_new {ci : Nat} {fs : List Value} (F : CallFix p m c cc nL s args (tb cw) own) (hM : Met l y (tb (.code y bytes maxL none)) rr (va_Pc (.ref xa :: As) (fun U => U.heap.size = H.size ∧ th_P E D (fun _ => none) U ∧ va_at D vwCl (xa, .inr (ci, fs)) U.heap ∧ th_AO U)) (QN E D (fun _ => none) xa H.size) mc ms (mA (fun _ => none) xa H.size))
    (h1 : Cond.methodLink own index y ∈ TB) (h2 : Cond.instanceMethod y ∈ TB) (h4 : Cond.initialized y.cls ∈ TB) (h5 : Cond.code y bytes maxL none ∈ TB)
    (hd : rr.cells = mc ∧ rr.slots = ms ∧ y.name = "<init>" ∧ y.cls ≠ "java/lang/invoke/MethodHandle" ∧ y.cls ≠ "java/lang/invoke/VarHandle" ∧ (parseMethodDescriptor y.desc).map (fun d => d.parameters.length) = some n) (hR : rr.frames + 1 ≤ R.frames ∧ 8 + (maxL + 11) + rr.locals ≤ R.locals)
    (hN : th_N s) (hAO : th_AO s) (hK : va_K D vwCl (th_tys E) s) (hOb : va_at D vwCl (xa, .inr (ci, fs)) H) (hbs : s.heap.size ≤ xa) (hS : va_S (LWa s) s.heap H locs)
    (hn : As.length = n) (hsize : ls.size = nL) (hst : st0 = As.reverse ++ .ref xa :: rest) (hrm : (rest.map fun v => v.category).sum ≤ 8) (hdg : decode cc pc = .ok (.invokespecial index, 3)) (hcs : cells + mc ≤ R.cells ∧ slots + ms ≤ R.slots)
    (kk : ∀ (G' : th_G) (nn : Nat) (H1 : Heap) (locs1 : List Loc), th_I (okC E) D G' [] H1 → G' xa = some (15, nn) → (∀ (r : Nat) (k : th_K), G' r = some k → s.heap.size ≤ r) → va_S (LWa s) s.heap H1 locs1 → W p l e R s m args below meth c H1 locs1 (cells + mc) (slots + ms) Q (F0 m (pc + 3) ls rest)) : W p l e R s m args below meth c H locs cells slots Q (F0 m pc ls st0) := by
  obtain ⟨g1, g2, g3, g4⟩ := hd
  have hF : ∀ q, mA (fun _ => none) xa H.size q → LWa s q := fun q h => by
    rcases h with ⟨k', h⟩ | h | h
    · cases h
    · rw [h]; exact hbs
    · exact Nat.le_trans hS.1 h
  exact va_callv (va_runI (As := As) (rest := rest) F hM (cwI n F.2.2.2.2 (tb_G h5) rfl g1 g2 (F.2.2.2.2 _ (tb_c h4)) (F.2.2.2.2 _ (tb_c h1)) (F.2.2.2.2 _ (tb_c h2)) g3 g4 hR) ⟨th_blindM, fun U hU hW => ⟨rfl, by rw [hU], ⟨fun a k h => (by cases h), hN.warm hW, va_K.moved hW.alike hK⟩, by rw [hU]; exact hOb, hAO.moved hW.alike⟩⟩ rfl hn hsize hst (lv_room hrm) hdg hcs) hS (fun q _ h => hF q h) hF (fun G' t H1 locs1 ht hvm hw hB hz hk hS1 => by
    obtain ⟨nn, hx⟩ := hw.2.1
    exact kk G' nn H1 locs1 (by rw [← ht]; exact hB.1) hx (fun r k h => by
      rcases hw.2.2 r k h with h | h | h
      · cases h
      · rw [h]; exact hbs
      · exact Nat.le_trans hS.1 h) hS1)
theorem lm_new {ci : Nat} {fs : List Value} (F : CallFix p m c cc nL s args (tb cw) own) (hM : Met l y (tb (.code y bytes maxL none)) rr (va_Pc (.ref ma :: As) (fun U => U.heap.size = H.size ∧ th_PM E D (fun _ => none) U ∧ va_at D vwCl (ma, .inr (ci, fs)) U.heap)) (QMM (eu E 10 0) D (fun _ => none) ma H.size) mc ms (mA (fun _ => none) ma H.size))
    (h1 : Cond.methodLink own index y ∈ TB) (h2 : Cond.instanceMethod y ∈ TB) (h4 : Cond.initialized y.cls ∈ TB) (h5 : Cond.code y bytes maxL none ∈ TB)
    (hd : rr.cells = mc ∧ rr.slots = ms ∧ y.name = "<init>" ∧ y.cls ≠ "java/lang/invoke/MethodHandle" ∧ y.cls ≠ "java/lang/invoke/VarHandle" ∧ (parseMethodDescriptor y.desc).map (fun d => d.parameters.length) = some n) (hR : rr.frames + 1 ≤ R.frames ∧ 8 + (maxL + 11) + rr.locals ≤ R.locals)
    (hN : th_N s) (hK : va_K D vwCl (th_tys E) s) (hOb : va_at D vwCl (ma, .inr (ci, fs)) H) (hbs : s.heap.size ≤ ma) (hS : va_S (LWa s) s.heap H locs) (hI : th_I (okC E) D Gc [] H) (hx : Gc xa = some (15, nn)) (hA1 : ∀ (r : Nat) (k : th_K), Gc r = some k → s.heap.size ≤ r) (hnm : Gc ma = none)
    (hn : As.length = n) (hsize : ls.size = nL) (hst : st0 = As.reverse ++ .ref ma :: rest) (hrm : (rest.map fun v => v.category).sum ≤ 8) (hdg : decode cc pc = .ok (.invokespecial index, 3)) (hcs : cells + mc ≤ R.cells ∧ slots + ms ≤ R.slots)
    (kk : ∀ (Gm : th_G) (H1 : Heap) (locs1 : List Loc), (UQ Gm 1 ∧ UQ Gm 2 ∧ UQ Gm 11 ∧ UQ Gm 4 ∧ UQ Gm 10) → LWs (eu E 10 0) D s xa ma Gc Gm nn H1 locs1 → W p l e R s m args below meth c H1 locs1 (cells + mc) (slots + ms) Q (F0 m (pc + 3) ls rest)) : W p l e R s m args below meth c H locs cells slots Q (F0 m pc ls st0) := by
  obtain ⟨g1, g2, g3, g4⟩ := hd
  have hF : ∀ q, mA (fun _ => none) ma H.size q → LWa s q := fun q h => by
    rcases h with ⟨k', h⟩ | h | h
    · cases h
    · rw [h]; exact hbs
    · exact Nat.le_trans hS.1 h
  exact va_callv (va_runI (As := As) (rest := rest) F hM (cwI n F.2.2.2.2 (tb_G h5) rfl g1 g2 (F.2.2.2.2 _ (tb_c h4)) (F.2.2.2.2 _ (tb_c h1)) (F.2.2.2.2 _ (tb_c h2)) g3 g4 hR) ⟨mb_blind, fun U hU hW => ⟨rfl, by rw [hU], ⟨fun a k h => (by cases h), hN.warm hW, va_K.moved hW.alike hK⟩, by rw [hU]; exact hOb⟩⟩ rfl hn hsize hst (lv_room hrm) hdg hcs) hS (fun q _ h => hF q h) hF (fun G' t H1 locs1 ht hvm hw hB hz hk hS1 => kk G' H1 locs1 hw.2.1.2 ⟨th_keep (th_eq (fun j hj => eu_ne (by omega)) (fun a j _ _ _ => eu_ne (by omega)) hI) hk (fun r k h z => by
      rcases z with ⟨k', z⟩ | z | z
      · cases z
      · rw [z, hnm] at h; cases h
      · exact absurd (th_lt hI h) (by omega)), hx, by rw [← ht]; exact hB.1, hw.2.1.1, hA1, fun r k h => by
      rcases hw.2.2 r k h with h | h | h
      · cases h
      · rw [h]; exact hbs
      · exact Nat.le_trans hS.1 h, fun r k h => by
      cases hg : Gc r with
      | none => rfl
      | some k' =>
        rcases hw.2.2 r k h with z | z | z
        · cases z
        · rw [z, hnm] at hg; cases hg
        · exact absurd (th_lt hI hg) (by omega), hS1⟩)
end LW
theorem pump_same {P Q : Prop} {r t : Int32} (h : (r = -1 ∧ ¬ P) ∨ (r = -2 ∧ P ∧ ¬ Q) ∨ (r = 0 ∧ P ∧ Q)) (h' : (t = -1 ∧ ¬ P) ∨ (t = -2 ∧ P ∧ ¬ Q) ∨ (t = 0 ∧ P ∧ Q)) : r = t := by
  rcases h with ⟨a, b⟩ | ⟨a, b, c⟩ | ⟨a, b, c⟩ <;> rcases h' with ⟨a', b'⟩ | ⟨a', b', c'⟩ | ⟨a', b', c'⟩ <;> first | (rw [a, a']; done) | exact absurd b b' | exact absurd b' b | exact absurd c c' | exact absurd c' c
theorem two_same {P : Prop} {r t : Int32} (h : (r = -1 ∧ ¬ P) ∨ (r = 0 ∧ P)) (h' : (t = -1 ∧ ¬ P) ∨ (t = 0 ∧ P)) : r = t := by
  rcases h with ⟨a, b⟩ | ⟨a, b⟩ <;> rcases h' with ⟨a', b'⟩ | ⟨a', b'⟩ <;> first | (rw [a, a']; done) | exact absurd b b' | exact absurd b' b
theorem put_same {P Q : Prop} {r t : Int32} {a : Int} (h : (r = -1 ∧ ¬ P) ∨ (r = -5 ∧ P ∧ ¬ Q) ∨ (r.toInt = a ∧ P ∧ Q)) (h' : (t = -1 ∧ ¬ P) ∨ (t = -5 ∧ P ∧ ¬ Q) ∨ (t.toInt = a ∧ P ∧ Q)) : r = t := by
  rcases h with ⟨a, b⟩ | ⟨a, b, c⟩ | ⟨a, b, c⟩ <;> rcases h' with ⟨a', b'⟩ | ⟨a', b', c'⟩ | ⟨a', b', c'⟩ <;> first | (rw [a, a']; done) | exact absurd b b' | exact absurd b' b | exact absurd c c' | exact absurd c' c | exact Int32.toInt_inj.mp (by rw [a, a'])
theorem two_sameI {P : Prop} {r t : Int32} {a : Int} (h : (r = -2 ∧ ¬ P) ∨ (r.toInt = a ∧ P)) (h' : (t = -2 ∧ ¬ P) ∨ (t.toInt = a ∧ P)) : r = t := by
  rcases h with ⟨a, b⟩ | ⟨a, b⟩ <;> rcases h' with ⟨a', b'⟩ | ⟨a', b'⟩ <;> first | (rw [a, a']; done) | exact absurd b b' | exact absurd b' b | exact Int32.toInt_inj.mp (by rw [a, a'])
theorem one_same {r t : Int32} {a : Int} (h : r.toInt = a) (h' : t.toInt = a) : r = t := Int32.toInt_inj.mp (by rw [h, h'])
theorem terms_same {A B : Prop} {r t : Int32} {a b : Int} (hab : ¬ (A ∧ B)) (h : (r = -1000 ∧ ¬ A ∧ ¬ B) ∨ (r.toInt = a ∧ A) ∨ (r.toInt = b ∧ B)) (h' : (t = -1000 ∧ ¬ A ∧ ¬ B) ∨ (t.toInt = a ∧ A) ∨ (t.toInt = b ∧ B)) : r = t := by
  rcases h with ⟨p, q, z⟩ | ⟨p, q⟩ | ⟨p, q⟩
  · rcases h' with ⟨p', q', z'⟩ | ⟨p', q'⟩ | ⟨p', q'⟩
    · rw [p, p']
    · exact absurd q' q
    · exact absurd q' z
  · rcases h' with ⟨p', q', z'⟩ | ⟨p', q'⟩ | ⟨p', q'⟩
    · exact absurd q q'
    · exact Int32.toInt_inj.mp (by rw [p, p'])
    · exact absurd (And.intro q q') hab
  · rcases h' with ⟨p', q', z'⟩ | ⟨p', q'⟩ | ⟨p', q'⟩
    · exact absurd q z'
    · exact absurd (And.intro q' q) hab
    · exact Int32.toInt_inj.mp (by rw [p, p'])
