/-! ===== ghosts of the reference ===== -/
abbrev UQ (G : th_G) (t : Nat) : Prop := ∀ q q' m m' : Nat, G q = some (t, m) → G q' = some (t, m') → q = q'
theorem uq_no {G G' : th_G} {q t : Nat} {kd : th_K} (hG : ∀ r, r ≠ q → G' r = G r) (hq : G' q = some kd) (hk : kd.1 ≠ t) (h : ∀ r m : Nat, G r ≠ some (t, m)) : ∀ r m : Nat, G' r ≠ some (t, m) := fun r m z => by
  by_cases e : r = q
  · rw [e, hq] at z; cases z; exact hk rfl
  · rw [hG r e] at z; exact h r m z
theorem uq_new {G G' : th_G} {q t : Nat} (hG : ∀ r, r ≠ q → G' r = G r) (h : ∀ r m : Nat, G r ≠ some (t, m)) : UQ G' t := fun a b m m' ha hb => by
  have h1 : a = q := Decidable.byContradiction fun e => h a m (by rw [← hG a e]; exact ha)
  have h2 : b = q := Decidable.byContradiction fun e => h b m' (by rw [← hG b e]; exact hb)
  rw [h1, h2]
theorem uq_keep {G G' : th_G} {q t : Nat} {kd : th_K} (hG : ∀ r, r ≠ q → G' r = G r) (hq : G' q = some kd) (hk : kd.1 ≠ t) (h : UQ G t) : UQ G' t := fun a b m m' ha hb => by
  have h1 : a ≠ q := fun e => by rw [e, hq] at ha; cases ha; exact hk rfl
  have h2 : b ≠ q := fun e => by rw [e, hq] at hb; cases hb; exact hk rfl
  rw [hG a h1] at ha
  rw [hG b h2] at hb
  exact h a b m m' ha hb
theorem okM_eq {E E' : Nat → Nat} {G : th_G} {a : Nat} {k : th_K} {e : va_E} (h0 : ∀ j : Nat, j < 32 → E' j = E j) (h : okM E G a k e) : okM E' G a k e := by
  have a0 : E' 0 = E 0 := h0 0 (by decide)
  have a1 : E' 1 = E 1 := h0 1 (by decide)
  have a2 : E' 2 = E 2 := h0 2 (by decide)
  have a3 : E' 3 = E 3 := h0 3 (by decide)
  have a4 : E' 4 = E 4 := h0 4 (by decide)
  have a5 : E' 5 = E 5 := h0 5 (by decide)
  have c0 : E' 10 = E 10 := h0 10 (by decide)
  have c1 : E' 11 = E 11 := h0 11 (by decide)
  have c2 : E' 12 = E 12 := h0 12 (by decide)
  have c3 : E' 13 = E 13 := h0 13 (by decide)
  have c4 : E' 14 = E 14 := h0 14 (by decide)
  obtain ⟨P, hP, h⟩ := h
  refine ⟨P, hP, ?_⟩
  have hm : P ∈ m_all := List.mem_of_getElem? hP
  simp only [m_all, List.mem_cons, List.not_mem_nil, or_false] at hm
  rcases hm with rfl | rfl | rfl | rfl | rfl | rfl | rfl | rfl | rfl | rfl | rfl | rfl
  · unfold m_0 at h ⊢; rw [a0]; exact h
  · unfold m_1 at h ⊢; rw [a0, c0]; exact h
  · unfold m_2 at h ⊢; rw [a0, c1, c2]; exact h
  · unfold m_3 at h ⊢; rw [a0]; exact h
  · unfold m_4 at h ⊢; rw [a3]; exact h
  · unfold m_5 at h ⊢; rw [a2]; exact h
  · unfold m_6 at h ⊢; rw [a0]; exact h
  · unfold m_7 at h ⊢; rw [a3]; exact h
  · unfold m_0 at h ⊢; rw [a0]; exact h
  · unfold m_0 at h ⊢; rw [a0]; exact h
  · exact h
  · unfold m_11 at h ⊢; rw [a2, c3, c4]; exact h
theorem tm_eq {E E' : Nat → Nat} {D : va_G} {G : th_G} {X : List Nat} {H : Heap} (h0 : ∀ j : Nat, j < 32 → E' j = E j) (hI : th_I (okM E) D G X H) : th_I (okM E') D G X H := fun b k hb hx => by
  obtain ⟨e, g1, g2⟩ := hI b k hb hx
  exact ⟨e, g1, okM_eq h0 g2⟩
theorem okM_e10 {E : Nat → Nat} {G : th_G} {a i T : Nat} {k : th_K} {e : va_E} (hi : i = 10) (hk : k.1 ≠ 1) (h : okM E G a k e) : okM (eu E i T) G a k e := by
  have c0 : eu E i T 0 = E 0 := eu_ne (by omega)
  have c1 : eu E i T 1 = E 1 := eu_ne (by omega)
  have c2 : eu E i T 2 = E 2 := eu_ne (by omega)
  have c3 : eu E i T 3 = E 3 := eu_ne (by omega)
  have c4 : eu E i T 4 = E 4 := eu_ne (by omega)
  have c5 : eu E i T 5 = E 5 := eu_ne (by omega)
  have c11 : eu E i T 11 = E 11 := eu_ne (by omega)
  have c12 : eu E i T 12 = E 12 := eu_ne (by omega)
  have c13 : eu E i T 13 = E 13 := eu_ne (by omega)
  have c14 : eu E i T 14 = E 14 := eu_ne (by omega)
  obtain ⟨P, hP, h⟩ := h
  refine ⟨P, hP, ?_⟩
  obtain ⟨k1, k2⟩ := k
  match k1, hk, hP, h with
  | 0, _, hP, h => cases (Option.some.inj ((show m_all[0]? = some m_0 from rfl).symm.trans hP)); unfold m_0 at h ⊢; rw [c0]; exact h
  | 1, hk, _, _ => exact absurd rfl hk
  | 2, _, hP, h => cases (Option.some.inj ((show m_all[2]? = some m_2 from rfl).symm.trans hP)); unfold m_2 at h ⊢; rw [c0, c11, c12]; exact h
  | 3, _, hP, h => cases (Option.some.inj ((show m_all[3]? = some m_3 from rfl).symm.trans hP)); unfold m_3 at h ⊢; rw [c0]; exact h
  | 4, _, hP, h => cases (Option.some.inj ((show m_all[4]? = some m_4 from rfl).symm.trans hP)); unfold m_4 at h ⊢; rw [c3]; exact h
  | 5, _, hP, h => cases (Option.some.inj ((show m_all[5]? = some m_5 from rfl).symm.trans hP)); unfold m_5 at h ⊢; rw [c2]; exact h
  | 6, _, hP, h => cases (Option.some.inj ((show m_all[6]? = some m_6 from rfl).symm.trans hP)); unfold m_6 at h ⊢; rw [c0]; exact h
  | 7, _, hP, h => cases (Option.some.inj ((show m_all[7]? = some m_7 from rfl).symm.trans hP)); unfold m_7 at h ⊢; rw [c3]; exact h
  | 8, _, hP, h => cases (Option.some.inj ((show m_all[8]? = some m_0 from rfl).symm.trans hP)); unfold m_0 at h ⊢; rw [c0]; exact h
  | 9, _, hP, h => cases (Option.some.inj ((show m_all[9]? = some m_0 from rfl).symm.trans hP)); unfold m_0 at h ⊢; rw [c0]; exact h
  | 10, _, hP, h => cases (Option.some.inj ((show m_all[10]? = some m_10 from rfl).symm.trans hP)); exact h
  | 11, _, hP, h => cases (Option.some.inj ((show m_all[11]? = some m_11 from rfl).symm.trans hP)); unfold m_11 at h ⊢; rw [c2, c13, c14]; exact h
  | j + 12, _, hP, _ => simp [m_all] at hP
theorem okM_e11 {E : Nat → Nat} {G : th_G} {a i T : Nat} {k : th_K} {e : va_E} (hi : i = 11 ∨ i = 12) (hk : k.1 ≠ 2) (h : okM E G a k e) : okM (eu E i T) G a k e := by
  have c0 : eu E i T 0 = E 0 := eu_ne (by omega)
  have c1 : eu E i T 1 = E 1 := eu_ne (by omega)
  have c2 : eu E i T 2 = E 2 := eu_ne (by omega)
  have c3 : eu E i T 3 = E 3 := eu_ne (by omega)
  have c4 : eu E i T 4 = E 4 := eu_ne (by omega)
  have c5 : eu E i T 5 = E 5 := eu_ne (by omega)
  have c10 : eu E i T 10 = E 10 := eu_ne (by omega)
  have c13 : eu E i T 13 = E 13 := eu_ne (by omega)
  have c14 : eu E i T 14 = E 14 := eu_ne (by omega)
  obtain ⟨P, hP, h⟩ := h
  refine ⟨P, hP, ?_⟩
  obtain ⟨k1, k2⟩ := k
  match k1, hk, hP, h with
  | 0, _, hP, h => cases (Option.some.inj ((show m_all[0]? = some m_0 from rfl).symm.trans hP)); unfold m_0 at h ⊢; rw [c0]; exact h
  | 1, _, hP, h => cases (Option.some.inj ((show m_all[1]? = some m_1 from rfl).symm.trans hP)); unfold m_1 at h ⊢; rw [c0, c10]; exact h
  | 2, hk, _, _ => exact absurd rfl hk
  | 3, _, hP, h => cases (Option.some.inj ((show m_all[3]? = some m_3 from rfl).symm.trans hP)); unfold m_3 at h ⊢; rw [c0]; exact h
  | 4, _, hP, h => cases (Option.some.inj ((show m_all[4]? = some m_4 from rfl).symm.trans hP)); unfold m_4 at h ⊢; rw [c3]; exact h
  | 5, _, hP, h => cases (Option.some.inj ((show m_all[5]? = some m_5 from rfl).symm.trans hP)); unfold m_5 at h ⊢; rw [c2]; exact h
  | 6, _, hP, h => cases (Option.some.inj ((show m_all[6]? = some m_6 from rfl).symm.trans hP)); unfold m_6 at h ⊢; rw [c0]; exact h
  | 7, _, hP, h => cases (Option.some.inj ((show m_all[7]? = some m_7 from rfl).symm.trans hP)); unfold m_7 at h ⊢; rw [c3]; exact h
  | 8, _, hP, h => cases (Option.some.inj ((show m_all[8]? = some m_0 from rfl).symm.trans hP)); unfold m_0 at h ⊢; rw [c0]; exact h
  | 9, _, hP, h => cases (Option.some.inj ((show m_all[9]? = some m_0 from rfl).symm.trans hP)); unfold m_0 at h ⊢; rw [c0]; exact h
  | 10, _, hP, h => cases (Option.some.inj ((show m_all[10]? = some m_10 from rfl).symm.trans hP)); exact h
  | 11, _, hP, h => cases (Option.some.inj ((show m_all[11]? = some m_11 from rfl).symm.trans hP)); unfold m_11 at h ⊢; rw [c2, c13, c14]; exact h
  | j + 12, _, hP, _ => simp [m_all] at hP
theorem okM_e13 {E : Nat → Nat} {G : th_G} {a i T : Nat} {k : th_K} {e : va_E} (hi : i = 13 ∨ i = 14) (hk : k.1 ≠ 11) (h : okM E G a k e) : okM (eu E i T) G a k e := by
  have c0 : eu E i T 0 = E 0 := eu_ne (by omega)
  have c1 : eu E i T 1 = E 1 := eu_ne (by omega)
  have c2 : eu E i T 2 = E 2 := eu_ne (by omega)
  have c3 : eu E i T 3 = E 3 := eu_ne (by omega)
  have c4 : eu E i T 4 = E 4 := eu_ne (by omega)
  have c5 : eu E i T 5 = E 5 := eu_ne (by omega)
  have c10 : eu E i T 10 = E 10 := eu_ne (by omega)
  have c11 : eu E i T 11 = E 11 := eu_ne (by omega)
  have c12 : eu E i T 12 = E 12 := eu_ne (by omega)
  obtain ⟨P, hP, h⟩ := h
  refine ⟨P, hP, ?_⟩
  obtain ⟨k1, k2⟩ := k
  match k1, hk, hP, h with
  | 0, _, hP, h => cases (Option.some.inj ((show m_all[0]? = some m_0 from rfl).symm.trans hP)); unfold m_0 at h ⊢; rw [c0]; exact h
  | 1, _, hP, h => cases (Option.some.inj ((show m_all[1]? = some m_1 from rfl).symm.trans hP)); unfold m_1 at h ⊢; rw [c0, c10]; exact h
  | 2, _, hP, h => cases (Option.some.inj ((show m_all[2]? = some m_2 from rfl).symm.trans hP)); unfold m_2 at h ⊢; rw [c0, c11, c12]; exact h
  | 3, _, hP, h => cases (Option.some.inj ((show m_all[3]? = some m_3 from rfl).symm.trans hP)); unfold m_3 at h ⊢; rw [c0]; exact h
  | 4, _, hP, h => cases (Option.some.inj ((show m_all[4]? = some m_4 from rfl).symm.trans hP)); unfold m_4 at h ⊢; rw [c3]; exact h
  | 5, _, hP, h => cases (Option.some.inj ((show m_all[5]? = some m_5 from rfl).symm.trans hP)); unfold m_5 at h ⊢; rw [c2]; exact h
  | 6, _, hP, h => cases (Option.some.inj ((show m_all[6]? = some m_6 from rfl).symm.trans hP)); unfold m_6 at h ⊢; rw [c0]; exact h
  | 7, _, hP, h => cases (Option.some.inj ((show m_all[7]? = some m_7 from rfl).symm.trans hP)); unfold m_7 at h ⊢; rw [c3]; exact h
  | 8, _, hP, h => cases (Option.some.inj ((show m_all[8]? = some m_0 from rfl).symm.trans hP)); unfold m_0 at h ⊢; rw [c0]; exact h
  | 9, _, hP, h => cases (Option.some.inj ((show m_all[9]? = some m_0 from rfl).symm.trans hP)); unfold m_0 at h ⊢; rw [c0]; exact h
  | 10, _, hP, h => cases (Option.some.inj ((show m_all[10]? = some m_10 from rfl).symm.trans hP)); exact h
  | 11, hk, _, _ => exact absurd rfl hk
  | j + 12, _, hP, _ => simp [m_all] at hP
theorem em_close {E : Nat → Nat} {D : va_G} {G : th_G} {H : Heap} {a n i T tag : Nat} {e0 : va_E} (hI : th_I (okM E) D G [a] H) (ha : G a = some (tag, n)) (hU : UQ G tag) (hk : ∀ (b : Nat) (k : th_K) (e : va_E), k.1 ≠ tag → okM E G b k e → okM (eu E i T) G b k e) (he : va_at D vwCl (a, e0) H) (hok : okM (eu E i T) G a (tag, n) e0) : th_I (okM (eu E i T)) D G [] H := fun b k hb hx => by
  by_cases e : b = a
  · subst e
    cases ha.symm.trans hb
    exact ⟨_, he, hok⟩
  · obtain ⟨e', g1, g2⟩ := hI b k hb (fun z => e (List.mem_singleton.mp z))
    exact ⟨e', g1, hk b k e' (fun z => e (hU _ _ _ _ (by rw [hb, ← z]) ha)) g2⟩
theorem em_put {E : Nat → Nat} {D : va_G} {G : th_G} {H H1 : Heap} {a n i T tag : Nat} {e0 : va_E} (hI : th_I (okM E) D G [] H) (ha : G a = some (tag, n)) (hU : UQ G tag) (hk : ∀ (b : Nat) (k : th_K) (e : va_E), k.1 ≠ tag → okM E G b k e → okM (eu E i T) G b k e) (he : va_at D vwCl (a, e0) H1) (hok : okM (eu E i T) G a (tag, n) e0) (oq : ∀ q : Nat, q ≠ a → H1[q]? = H[q]?) : th_I (okM (eu E i T)) D G [] H1 := em_close ((th_I.weak (a := a) hI).moved oq) ha hU hk he hok
section OKT
variable {E : Nat → Nat} {G : th_G} {a n T : Nat} {f : Nat → Int32}
theorem ok_m1T (h : kOk T f) : okM (eu E 10 T) G a (1, n) (.inl (E 0, n, .inl f)) := by
  have h := ok_m1 (E := eu E 10 T) (G := G) (a := a) (n := n) (f := f) (by rw [eu_at]; exact h)
  rw [eu_ne (show 0 ≠ 10 by decide)] at h
  exact h
theorem ok_m2T {k c : Nat} (hk : k < 2) (h : iOk (if k = 0 then c else E 11) (if k = 0 then E 12 else c) f) : okM (eu E (11 + k) c) G a (2, n) (.inl (E 0, n, .inl f)) := by
  have h := ok_m2 (E := eu E (11 + k) c) (G := G) (a := a) (n := n) (f := f) (by
    rcases (show k = 0 ∨ k = 1 by omega) with e | e <;> subst e
    · simp only [if_true] at h
      rw [show eu E (11 + 0) c 11 = c from eu_at, show eu E (11 + 0) c 12 = E 12 from eu_ne (by omega)]; exact h
    · simp only [Nat.one_ne_zero, if_false] at h
      rw [show eu E (11 + 1) c 12 = c from eu_at, show eu E (11 + 1) c 11 = E 11 from eu_ne (by omega)]; exact h)
  rw [eu_ne (show 0 ≠ 11 + k by omega)] at h
  exact h
theorem ok_m11T {k : Nat} {x v : Int32} (hk : k < 2) (hx : x.toInt = (k : Int)) (hv : v.toInt = 1) (h : (f 0).toInt = ((E 13 : Nat) : Int) ∧ (f 1).toInt = ((E 14 : Nat) : Int) ∧ E 13 ≤ 1 ∧ E 14 ≤ 1) : okM (eu E (13 + k) 1) G a (11, n) (.inl (E 2, 2, .inl (upd f x.toNatClampNeg v))) := by
  have e1 : x.toNatClampNeg = k := by show x.toInt.toNat = k; omega
  obtain ⟨h0, h1, h2, h3⟩ := h
  have h := ok_m11 (E := eu E (13 + k) 1) (G := G) (a := a) (n := n) (f := upd f x.toNatClampNeg v) (by
    rw [e1]
    rcases (show k = 0 ∨ k = 1 by omega) with e | e <;> subst e
    · rw [pk_us, pk_un (show (1 : Nat) ≠ 0 by decide), show eu E (13 + 0) 1 13 = 1 from eu_at, show eu E (13 + 0) 1 14 = E 14 from eu_ne (by omega)]; exact ⟨hv, h1, by omega, h3⟩
    · rw [pk_us, pk_un (show (0 : Nat) ≠ 1 by decide), show eu E (13 + 1) 1 14 = 1 from eu_at, show eu E (13 + 1) 1 13 = E 13 from eu_ne (by omega)]; exact ⟨h0, hv, h2, by omega⟩)
  rw [eu_ne (show 2 ≠ 13 + k by omega)] at h
  exact h
theorem ea_zget {x y : Int32} (h : (f 0).toInt = ((E 13 : Nat) : Int) ∧ (f 1).toInt = ((E 14 : Nat) : Int) ∧ E 13 ≤ 1 ∧ E 14 ≤ 1) (e : y = f x.toNatClampNeg) (h0 : 0 ≤ x.toInt) (h1 : x.toInt < 2) : ((x.toInt = 0 ∧ y.toInt = ((E 13 : Nat) : Int)) ∨ (x.toInt = 1 ∧ y.toInt = ((E 14 : Nat) : Int))) ∧ E 13 ≤ 1 ∧ E 14 ≤ 1 := by
  refine ⟨?_, h.2.2.1, h.2.2.2⟩
  rcases im_at h0 h1 with ⟨a, z⟩ | ⟨a, z⟩
  · rw [z] at e; exact Or.inl ⟨a, by rw [e]; exact h.1⟩
  · rw [z] at e; exact Or.inr ⟨a, by rw [e]; exact h.2.1⟩
end OKT
noncomputable def mI (E : Nat → Nat) (x : Int32) : Nat → Nat := @ite _ (rg x 0 1) (Classical.propDecidable _) (eu (eu E (11 + x.toInt.toNat) (E 10)) (13 + x.toInt.toNat) 1) E
theorem mI_t {E : Nat → Nat} {x : Int32} {k : Nat} (h : k < 2) (hx : (k : Int) = x.toInt) : mI E x = eu (eu E (11 + k) (E 10)) (13 + k) 1 := by
  unfold mI
  rw [if_pos (show rg x 0 1 from ⟨by omega, by omega⟩), show x.toInt.toNat = k by omega]
theorem mI_lo {E : Nat → Nat} {x : Int32} : ∀ j : Nat, j < 6 ∨ 32 ≤ j → mI E x j = E j := fun j hj => by
  by_cases h : rg x 0 1
  · obtain ⟨k, hk⟩ : ∃ k : Nat, (k : Int) = x.toInt := ⟨x.toInt.toNat, by have := h.1; omega⟩
    have h2 := h.2
    rw [mI_t (k := k) (by omega) hk, eu_ne (by omega), eu_ne (by omega)]
  · rw [show mI E x = E from if_neg h]
theorem mI_f {E : Nat → Nat} {x : Int32} (h : ¬ rg x 0 1) : mI E x = E := if_neg h
def gBm (E : Nat → Nat) (x : Int32) : Nat := if x.toInt = 0 ∧ E 13 ≠ 0 then E 11 else if x.toInt = 1 ∧ E 14 ≠ 0 then E 12 else E 10
section MXG
variable {p : Program} {l : Launch} {e : Env} {R : Room} {s : State} {m : MethodId} {args : Array Value} {below : List Frame} {meth : Method} {c : Code} {H : Heap} {locs : List Loc} {cells slots : Nat} {Q : State → Prop}
variable {cc : ByteArray} {pc nL : Nat} {ls : Array Slot} {rest st0 As : List Value} {A0 : Nat → Prop} {H0 : Heap} {D : va_G} {E : Nat → Nat} {G : th_G} {b n0 : Nat}
variable {own host : String} {index n maxL d : Nat} {y : MethodName} {bytes : ByteArray} {ret : Option FieldType} {cw : Cond} {X : Heap → Prop}
theorem mx_iE {E' : Nat → Nat} {Y : Int32 → Heap → Prop} (F : CallFix p m c cc nL s args (tb cw) own) (hM : Met l y (tb (.code y bytes maxL ret)) (rm d) (va_Pc (.ref b :: As) (PX E D G X)) (QXi E' D G Y) 0 0 (th_A G))
    (h1 : Cond.methodLink own index y ∈ TB) (h2 : Cond.instanceMethod y ∈ TB) (h3 : Cond.selects RX12 y y ∈ TB) (h4 : Cond.initialized RX12 ∈ TB) (h5 : Cond.code y bytes maxL ret ∈ TB)
    (hd : y.cls = RX12 ∧ y.cls ≠ "java/lang/invoke/MethodHandle" ∧ y.cls ≠ "java/lang/invoke/VarHandle" ∧ (parseMethodDescriptor y.desc).map (fun d => d.parameters.length) = some n) (hR : d + 1 ≤ R.frames ∧ 8 + (maxL + 11) + 40 * d ≤ R.locals)
    (hI : th_I (okM E) D G [] H) (hN : th_N s) (hK : va_K D vwCl (th_tys E) s) (hKE : va_K D vwCl (th_tys E') s) (hS : va_S (th_A G) H0 H locs) (hO : G b = some (10, n0)) (hX : X H)
    (hn : As.length = n) (hsize : ls.size = nL) (hst : st0 = As.reverse ++ .ref b :: rest) (hrm : (rest.map fun v => v.category).sum ≤ 8) (hdg : decode cc pc = .ok (.invokevirtual index, 3)) (hcs : cells ≤ R.cells ∧ slots ≤ R.slots)
    (kk : ∀ (r : Int32) (H1 : Heap) (locs1 : List Loc) (E2 : Nat → Nat), E2 = E' → th_I (okM E2) D G [] H1 → va_K D vwCl (th_tys E2) s → Y r H1 → va_S (th_A G) H0 H1 locs1 → W p l e R s m args below meth c H1 locs1 cells slots Q (F0 m (pc + 3) ls (.int r :: rest))) : W p l e R s m args below meth c H locs cells slots Q (F0 m pc ls st0) := by
  obtain ⟨fs, hO⟩ := rm_10 hI hO List.not_mem_nil
  exact va_calli (va_runV (As := As) (rest := rest) F hM (cwV n F.2.2.2.2 (tb_V h1 h2 h3 h4 h5) rfl rfl rfl hd hR) ⟨mx_blind, va_recv hK (th_one hO) (q := (RX12, TX12, 52)) rfl (q0 := 0) rfl, fun U hU hW => ⟨rfl, ⟨by rw [hU]; exact hI, hN.warm hW, va_K.moved hW.alike hK⟩, by rw [hU]; exact hX⟩⟩ rfl hn hsize hst (lv_room hrm) hdg hcs) hS (fun q _ h => h) (fun q h => h) (fun r u t H1 locs1 ht hvm hw hB hz hk hS => kk r H1 locs1 _ rfl (by rw [← ht]; exact hB.1.1) hKE (by rw [← ht, ← hw]; exact hB.2) hS)

end MXG
