/-! ===== the reference's images ===== -/
theorem mOk_gu {G : th_G} {a p p' : Nat} {fs : List Value} (ha : G a = some (11, p)) (h : mOk G fs) : mOk (gu G a (11, p')) fs := by
  refine ⟨h.1, fun j hj => ?_⟩
  obtain ⟨v, h1, h2⟩ := h.2 j hj
  refine ⟨v, h1, ?_⟩
  cases hm : mfs[j]? with
  | none => rw [hm] at h2; exact h2
  | some x =>
    rw [hm] at h2
    cases x with
    | inr r => exact h2
    | inl kd =>
      obtain ⟨q, e1, e2⟩ := h2
      refine ⟨q, e1, ?_⟩
      by_cases e : q = a
      · rw [e]
        refine Or.inr ⟨?_, _, gu_at⟩
        rcases e2 with e2 | e2
        · rw [e, ha] at e2; cases e2; rfl
        · exact e2.1
      · rw [gu_ne e]; exact e2
theorem okM_gu {E : Nat → ClassId} {G : th_G} {a p p' : Nat} {k : th_K} {e : va_E} (ha : G a = some (11, p)) (h : okM E G k e) : okM E (gu G a (11, p')) k e := by
  obtain ⟨P, hP, h⟩ := h
  refine ⟨P, hP, ?_⟩
  have hm : P ∈ m_all := List.mem_of_getElem? hP
  simp only [m_all, List.mem_cons, List.not_mem_nil, or_false] at hm
  rcases hm with rfl | rfl | rfl | rfl | rfl | rfl | rfl | rfl | rfl | rfl | rfl | rfl
  · exact h
  · exact h
  · exact h
  · exact h
  · exact h
  · exact h
  · exact h
  · exact h
  · exact h
  · exact h
  · obtain ⟨fs, h1, h2, h3⟩ := h
    exact ⟨fs, h1, mOk_gu ha h2, h3⟩
  · exact h
theorem mm_put {E : Nat → ClassId} {D : va_G} {G : th_G} {H H1 : Heap} {a p p' : Nat} {e0 : va_E} (hI : th_I (okM E) D G [] H) (ha : G a = some (11, p)) (he : va_at D vwCl (a, e0) H1) (hok : okM E (gu G a (11, p')) (11, p') e0) (oq : ∀ q : Nat, q ≠ a → H1[q]? = H[q]?) : th_I (okM E) D (gu G a (11, p')) [] H1 := fun b k hb hx => by
  by_cases e : b = a
  · subst e
    cases gu_at.symm.trans hb
    exact ⟨_, he, hok⟩
  · rw [gu_ne e] at hb
    obtain ⟨e', h1, h2⟩ := hI b k hb hx
    exact ⟨e', h1.kept (oq b e), okM_gu ha h2⟩
theorem im_zget {f : Nat → Int32} {p : Nat} {x y : Int32} (h : 2 ≤ p ∧ p ≤ 5 ∧ (f 0).toInt = ((p % 2 : Nat) : Int) ∧ (f 1).toInt = (((p - 2) / 2 : Nat) : Int)) (e : y = f x.toNatClampNeg) (h0 : 0 ≤ x.toInt) (h1 : x.toInt < 2) : ((x.toInt = 0 ∧ y.toInt = ((p % 2 : Nat) : Int)) ∨ (x.toInt = 1 ∧ y.toInt = (((p - 2) / 2 : Nat) : Int))) ∧ 2 ≤ p ∧ p ≤ 5 := by
  refine ⟨?_, h.1, h.2.1⟩
  rcases im_at h0 h1 with ⟨a, z⟩ | ⟨a, z⟩
  · rw [z] at e; exact Or.inl ⟨a, by rw [e]; exact h.2.2.1⟩
  · rw [z] at e; exact Or.inr ⟨a, by rw [e]; exact h.2.2.2⟩
theorem im_zup {f : Nat → Int32} {p : Nat} {x v : Int32} (h : 2 ≤ p ∧ p ≤ 5 ∧ (f 0).toInt = ((p % 2 : Nat) : Int) ∧ (f 1).toInt = (((p - 2) / 2 : Nat) : Int)) (hv : v.toInt = 1) (h0 : 0 ≤ x.toInt) (h1 : x.toInt < 2) : 2 ≤ iS p x ∧ iS p x ≤ 5 ∧ (upd f x.toNatClampNeg v 0).toInt = ((iS p x % 2 : Nat) : Int) ∧ (upd f x.toNatClampNeg v 1).toInt = (((iS p x - 2) / 2 : Nat) : Int) := by
  obtain ⟨p2, p5, f0, f1⟩ := h
  rcases im_at h0 h1 with ⟨a, z⟩ | ⟨a, z⟩
  · rw [z, pk_us, pk_un (show (1 : Nat) ≠ 0 by decide), hv, f1]
    by_cases hp : p % 2 = 0
    · rw [iS_0 a hp]; exact ⟨by omega, by omega, by omega, by omega⟩
    · rw [iS_id (by omega)]; exact ⟨by omega, by omega, by omega, by omega⟩
  · rw [z, pk_us, pk_un (show (0 : Nat) ≠ 1 by decide), hv, f0]
    by_cases hp : p < 4
    · rw [iS_1 a hp]; exact ⟨by omega, by omega, by omega, by omega⟩
    · rw [iS_id (by omega)]; exact ⟨by omega, by omega, by omega, by omega⟩
