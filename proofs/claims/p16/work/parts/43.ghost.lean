/-! ===== ghosts of the reference ===== -/
abbrev UQ (G : th_G) (t : Nat) : Prop := ∀ q q' m m' : Nat, G q = some (t, m) → G q' = some (t, m') → q = q'
theorem uq_no {G G' : th_G} {q t : Nat} {kd : th_K} (hG : ∀ r, r ≠ q → G' r = G r) (hq : G' q = some kd) (hk : kd.1 ≠ t) (h : ∀ r m : Nat, G r ≠ some (t, m)) : ∀ r m : Nat, G' r ≠ some (t, m) := fun r m z => by
  by_cases e : r = q
  · rw [e, hq] at z; cases z; exact hk rfl
  · rw [hG r e] at z; exact h r m z
theorem uq_new {G G' : th_G} {q t : Nat} (hG : ∀ r, r ≠ q → G' r = G r) (h : ∀ r m : Nat, G r ≠ some (t, m)) : UQ G' t := fun a b m m' ha hb => by
  have h1 : a = q := Decidable.byContradiction fun e => h a m (by rw [← hG a e]; exact ha)
  have h2 : b = q := Decidable.byContradiction fun e => h b m' (by rw [← hG b e]; exact hb)
  rw [h1, h2]
theorem uq_keep {G G' : th_G} {q t : Nat} {kd : th_K} (hG : ∀ r, r ≠ q → G' r = G r) (hq : G' q = some kd) (hk : kd.1 ≠ t) (h : UQ G t) : UQ G' t := fun a b m m' ha hb => by
  have h1 : a ≠ q := fun e => by rw [e, hq] at ha; cases ha; exact hk rfl
  have h2 : b ≠ q := fun e => by rw [e, hq] at hb; cases hb; exact hk rfl
  rw [hG a h1] at ha
  rw [hG b h2] at hb
  exact h a b m m' ha hb
theorem okM_x {E E' : Nat → Nat} {G : th_G} {a : Nat} {k : th_K} {e : va_E} (h0 : ∀ j : Nat, j < 6 → E' j = E j) (h1 : k.1 = 1 → E' 10 = E 10) (h2 : k.1 = 2 → E' 11 = E 11 ∧ E' 12 = E 12) (h3 : k.1 = 11 → E' 13 = E 13 ∧ E' 14 = E 14) (h4 : k.1 = 4 → ∀ j : Nat, j < 400 → E' (100 + j) = E (100 + j)) (h5 : k.1 = 10 → E' 15 = E 15 ∧ E' 16 = E 16) (h : okM E G a k e) : okM E' G a k e := by
  have a0 : E' 0 = E 0 := h0 0 (by decide)
  have a2 : E' 2 = E 2 := h0 2 (by decide)
  have a3 : E' 3 = E 3 := h0 3 (by decide)
  obtain ⟨P, hP, h⟩ := h
  refine ⟨P, hP, ?_⟩
  obtain ⟨k1, k2⟩ := k
  match k1, hP, h, h1, h2, h3, h4, h5 with
  | 0, hP, h, h1, h2, h3, h4, h5 => cases (Option.some.inj ((show m_all[0]? = some m_0 from rfl).symm.trans hP)); unfold m_0 at h ⊢; rw [a0]; exact h
  | 1, hP, h, h1, h2, h3, h4, h5 => cases (Option.some.inj ((show m_all[1]? = some m_1 from rfl).symm.trans hP)); unfold m_1 at h ⊢; rw [a0, h1 rfl]; exact h
  | 2, hP, h, h1, h2, h3, h4, h5 => cases (Option.some.inj ((show m_all[2]? = some m_2 from rfl).symm.trans hP)); unfold m_2 at h ⊢; rw [a0, (h2 rfl).1, (h2 rfl).2]; exact h
  | 3, hP, h, h1, h2, h3, h4, h5 => cases (Option.some.inj ((show m_all[3]? = some m_3 from rfl).symm.trans hP)); unfold m_3 at h ⊢; rw [a0]; exact h
  | 4, hP, h, h1, h2, h3, h4, h5 => cases (Option.some.inj ((show m_all[4]? = some m_4 from rfl).symm.trans hP)); unfold m_4 at h ⊢; rw [a3]; obtain ⟨f, p, q⟩ := h; exact ⟨f, p, fun j hj => by show tp_s _ (E' (100 + j)); rw [h4 rfl j hj]; exact q j hj⟩
  | 5, hP, h, h1, h2, h3, h4, h5 => cases (Option.some.inj ((show m_all[5]? = some m_5 from rfl).symm.trans hP)); unfold m_5 at h ⊢; rw [a2]; exact h
  | 6, hP, h, h1, h2, h3, h4, h5 => cases (Option.some.inj ((show m_all[6]? = some m_6 from rfl).symm.trans hP)); unfold m_6 at h ⊢; rw [a0]; exact h
  | 7, hP, h, h1, h2, h3, h4, h5 => cases (Option.some.inj ((show m_all[7]? = some m_7 from rfl).symm.trans hP)); unfold m_7 at h ⊢; rw [a3]; exact h
  | 8, hP, h, h1, h2, h3, h4, h5 => cases (Option.some.inj ((show m_all[8]? = some m_0 from rfl).symm.trans hP)); unfold m_0 at h ⊢; rw [a0]; exact h
  | 9, hP, h, h1, h2, h3, h4, h5 => cases (Option.some.inj ((show m_all[9]? = some m_0 from rfl).symm.trans hP)); unfold m_0 at h ⊢; rw [a0]; exact h
  | 10, hP, h, h1, h2, h3, h4, h5 => cases (Option.some.inj ((show m_all[10]? = some m_10 from rfl).symm.trans hP)); unfold m_10 at h ⊢; obtain ⟨fs, p, q, z, w, r1, r2, r3, r4⟩ := h; exact ⟨fs, p, q, z, w, r1, by rw [(h5 rfl).1]; exact r2, r3, by rw [(h5 rfl).2]; exact r4⟩
  | 11, hP, h, h1, h2, h3, h4, h5 => cases (Option.some.inj ((show m_all[11]? = some m_11 from rfl).symm.trans hP)); unfold m_11 at h ⊢; rw [a2, (h3 rfl).1, (h3 rfl).2]; exact h
  | j + 12, hP, _, _, _, _, _, _ => simp [m_all] at hP
theorem tm_eq {E E' : Nat → Nat} {D : va_G} {G : th_G} {X : List Nat} {H : Heap} (h0 : ∀ j : Nat, j < 1000 → E' j = E j) (hI : th_I (okM E) D G X H) : th_I (okM E') D G X H := fun b k hb hx => by
  obtain ⟨e, g1, g2⟩ := hI b k hb hx
  exact ⟨e, g1, okM_x (fun j hj => h0 j (by omega)) (fun _ => h0 _ (by omega)) (fun _ => ⟨h0 _ (by omega), h0 _ (by omega)⟩) (fun _ => ⟨h0 _ (by omega), h0 _ (by omega)⟩) (fun _ j hj => h0 _ (by omega)) (fun _ => ⟨h0 _ (by omega), h0 _ (by omega)⟩) g2⟩
theorem okM_g10 {E : Nat → Nat} {G : th_G} {i T : Nat} (hi : i = 10) : ∀ (b : Nat) (k : th_K) (e : va_E), k.1 ≠ 1 → okM E G b k e → okM (eu E i T) G b k e := fun b k e hk h => okM_x (fun j hj => eu_ne (by omega)) (fun z => absurd z hk) (fun z => ⟨eu_ne (by omega), eu_ne (by omega)⟩) (fun z => ⟨eu_ne (by omega), eu_ne (by omega)⟩) (fun z => fun j hj => eu_ne (by omega)) (fun z => ⟨eu_ne (by omega), eu_ne (by omega)⟩) h
theorem okM_g11 {E : Nat → Nat} {G : th_G} {i T : Nat} (hi : i = 11 ∨ i = 12) : ∀ (b : Nat) (k : th_K) (e : va_E), k.1 ≠ 2 → okM E G b k e → okM (eu E i T) G b k e := fun b k e hk h => okM_x (fun j hj => eu_ne (by omega)) (fun z => eu_ne (by omega)) (fun z => absurd z hk) (fun z => ⟨eu_ne (by omega), eu_ne (by omega)⟩) (fun z => fun j hj => eu_ne (by omega)) (fun z => ⟨eu_ne (by omega), eu_ne (by omega)⟩) h
theorem okM_g13 {E : Nat → Nat} {G : th_G} {i T : Nat} (hi : i = 13 ∨ i = 14) : ∀ (b : Nat) (k : th_K) (e : va_E), k.1 ≠ 11 → okM E G b k e → okM (eu E i T) G b k e := fun b k e hk h => okM_x (fun j hj => eu_ne (by omega)) (fun z => eu_ne (by omega)) (fun z => ⟨eu_ne (by omega), eu_ne (by omega)⟩) (fun z => absurd z hk) (fun z => fun j hj => eu_ne (by omega)) (fun z => ⟨eu_ne (by omega), eu_ne (by omega)⟩) h
theorem okM_g15 {E : Nat → Nat} {G : th_G} {i T : Nat} (hi : i = 15 ∨ i = 16) : ∀ (b : Nat) (k : th_K) (e : va_E), k.1 ≠ 10 → okM E G b k e → okM (eu E i T) G b k e := fun b k e hk h => okM_x (fun j hj => eu_ne (by omega)) (fun z => eu_ne (by omega)) (fun z => ⟨eu_ne (by omega), eu_ne (by omega)⟩) (fun z => ⟨eu_ne (by omega), eu_ne (by omega)⟩) (fun z => fun j hj => eu_ne (by omega)) (fun z => absurd z hk) h
theorem okM_e10 {E : Nat → Nat} {G : th_G} {a i T : Nat} {k : th_K} {e : va_E} (hi : i = 10) (hk : k.1 ≠ 1) (h : okM E G a k e) : okM (eu E i T) G a k e := okM_g10 hi a k e hk h
theorem okM_e11 {E : Nat → Nat} {G : th_G} {a i T : Nat} {k : th_K} {e : va_E} (hi : i = 11 ∨ i = 12) (hk : k.1 ≠ 2) (h : okM E G a k e) : okM (eu E i T) G a k e := okM_g11 hi a k e hk h
theorem okM_e13 {E : Nat → Nat} {G : th_G} {a i T : Nat} {k : th_K} {e : va_E} (hi : i = 13 ∨ i = 14) (hk : k.1 ≠ 11) (h : okM E G a k e) : okM (eu E i T) G a k e := okM_g13 hi a k e hk h
theorem okM_g4 {E E' : Nat → Nat} {G : th_G} (h : ∀ k : Nat, ¬ (100 ≤ k ∧ k < 500) → E' k = E k) : ∀ (b : Nat) (k : th_K) (e : va_E), k.1 ≠ 4 → okM E G b k e → okM E' G b k e := fun b k e hk g => okM_x (fun j hj => h _ (by omega)) (fun _ => h _ (by omega)) (fun _ => ⟨h _ (by omega), h _ (by omega)⟩) (fun _ => ⟨h _ (by omega), h _ (by omega)⟩) (fun z => absurd z hk) (fun _ => ⟨h _ (by omega), h _ (by omega)⟩) g
theorem em_close {E E' : Nat → Nat} {D : va_G} {G : th_G} {H : Heap} {a n tag : Nat} {e0 : va_E} (hI : th_I (okM E) D G [a] H) (ha : G a = some (tag, n)) (hU : UQ G tag) (hk : ∀ (b : Nat) (k : th_K) (e : va_E), k.1 ≠ tag → okM E G b k e → okM E' G b k e) (he : va_at D vwCl (a, e0) H) (hok : okM E' G a (tag, n) e0) : th_I (okM E') D G [] H := fun b k hb hx => by
  by_cases e : b = a
  · subst e
    cases ha.symm.trans hb
    exact ⟨_, he, hok⟩
  · obtain ⟨e', g1, g2⟩ := hI b k hb (fun z => e (List.mem_singleton.mp z))
    exact ⟨e', g1, hk b k e' (fun z => e (hU _ _ _ _ (by rw [hb, ← z]) ha)) g2⟩
theorem em_put {E E' : Nat → Nat} {D : va_G} {G : th_G} {H H1 : Heap} {a n tag : Nat} {e0 : va_E} (hI : th_I (okM E) D G [] H) (ha : G a = some (tag, n)) (hU : UQ G tag) (hk : ∀ (b : Nat) (k : th_K) (e : va_E), k.1 ≠ tag → okM E G b k e → okM E' G b k e) (he : va_at D vwCl (a, e0) H1) (hok : okM E' G a (tag, n) e0) (oq : ∀ q : Nat, q ≠ a → H1[q]? = H[q]?) : th_I (okM E') D G [] H1 := em_close ((th_I.weak (a := a) hI).moved oq) ha hU hk he hok
section OKT
variable {E : Nat → Nat} {G : th_G} {a n T : Nat} {f : Nat → Int32}
theorem ok_m1T (h : kOk T f) : okM (eu E 10 T) G a (1, n) (.inl (E 0, n, .inl f)) := by
  have h := ok_m1 (E := eu E 10 T) (G := G) (a := a) (n := n) (f := f) (by rw [eu_at]; exact h)
  rw [eu_ne (show 0 ≠ 10 by decide)] at h
  exact h
theorem ok_m2T {k c : Nat} (hk : k < 2) (h : iOk (if k = 0 then c else E 11) (if k = 0 then E 12 else c) f) : okM (eu E (11 + k) c) G a (2, n) (.inl (E 0, n, .inl f)) := by
  have h := ok_m2 (E := eu E (11 + k) c) (G := G) (a := a) (n := n) (f := f) (by
    rcases (show k = 0 ∨ k = 1 by omega) with e | e <;> subst e
    · simp only [if_true] at h
      rw [show eu E (11 + 0) c 11 = c from eu_at, show eu E (11 + 0) c 12 = E 12 from eu_ne (by omega)]; exact h
    · simp only [Nat.one_ne_zero, if_false] at h
      rw [show eu E (11 + 1) c 12 = c from eu_at, show eu E (11 + 1) c 11 = E 11 from eu_ne (by omega)]; exact h)
  rw [eu_ne (show 0 ≠ 11 + k by omega)] at h
  exact h
theorem ok_m11T {k : Nat} {x v : Int32} (hk : k < 2) (hx : x.toInt = (k : Int)) (hv : v.toInt = 1) (h : (f 0).toInt = ((E 13 : Nat) : Int) ∧ (f 1).toInt = ((E 14 : Nat) : Int) ∧ E 13 ≤ 1 ∧ E 14 ≤ 1) : okM (eu E (13 + k) 1) G a (11, n) (.inl (E 2, 2, .inl (upd f x.toNatClampNeg v))) := by
  have e1 : x.toNatClampNeg = k := by show x.toInt.toNat = k; omega
  obtain ⟨h0, h1, h2, h3⟩ := h
  have h := ok_m11 (E := eu E (13 + k) 1) (G := G) (a := a) (n := n) (f := upd f x.toNatClampNeg v) (by
    rw [e1]
    rcases (show k = 0 ∨ k = 1 by omega) with e | e <;> subst e
    · rw [pk_us, pk_un (show (1 : Nat) ≠ 0 by decide), show eu E (13 + 0) 1 13 = 1 from eu_at, show eu E (13 + 0) 1 14 = E 14 from eu_ne (by omega)]; exact ⟨hv, h1, by omega, h3⟩
    · rw [pk_us, pk_un (show (0 : Nat) ≠ 1 by decide), show eu E (13 + 1) 1 14 = 1 from eu_at, show eu E (13 + 1) 1 13 = E 13 from eu_ne (by omega)]; exact ⟨h0, hv, h2, by omega⟩)
  rw [eu_ne (show 2 ≠ 13 + k by omega)] at h
  exact h
theorem ea_zget {x y : Int32} (h : (f 0).toInt = ((E 13 : Nat) : Int) ∧ (f 1).toInt = ((E 14 : Nat) : Int) ∧ E 13 ≤ 1 ∧ E 14 ≤ 1) (e : y = f x.toNatClampNeg) (h0 : 0 ≤ x.toInt) (h1 : x.toInt < 2) : ((x.toInt = 0 ∧ y.toInt = ((E 13 : Nat) : Int)) ∨ (x.toInt = 1 ∧ y.toInt = ((E 14 : Nat) : Int))) ∧ E 13 ≤ 1 ∧ E 14 ≤ 1 := by
  refine ⟨?_, h.2.2.1, h.2.2.2⟩
  rcases im_at h0 h1 with ⟨a, z⟩ | ⟨a, z⟩
  · rw [z] at e; exact Or.inl ⟨a, by rw [e]; exact h.1⟩
  · rw [z] at e; exact Or.inr ⟨a, by rw [e]; exact h.2.1⟩
theorem ok_m4T {E' : Nat → Nat} (h3 : E' 3 = E 3) (h : ∀ j : Nat, j < 400 → tp_s (f j).toInt (tB E' j)) : okM E' G a (4, n) (.inl (E 3, n, .inl f)) := by
  rw [← h3]
  exact ok_m4 h
theorem c10_15 {fs : List Value} {z : Int32} (hok : mOk G fs) (h : c10 E fs) (hz : z.toInt = ((T : Nat) : Int)) : c10 (eu E 15 T) (fs.set 10 (.int z)) := by
  obtain ⟨z9, w9, g1, g2, g3, g4⟩ := h
  exact ⟨z, w9, List.getElem?_set_self (by rw [hok.1]; decide), by rw [eu_at]; exact hz, by rw [List.getElem?_set_ne (by decide)]; exact g3, by rw [eu_ne (by decide)]; exact g4⟩
theorem c10_16 {fs : List Value} {z : Int32} (hok : mOk G fs) (h : c10 E fs) (hz : z.toInt = ((T : Nat) : Int) - 1) : c10 (eu E 16 T) (fs.set 11 (.int z)) := by
  obtain ⟨z9, w9, g1, g2, g3, g4⟩ := h
  exact ⟨z9, z, by rw [List.getElem?_set_ne (by decide)]; exact g1, by rw [eu_ne (by decide)]; exact g2, List.getElem?_set_self (by rw [hok.1]; decide), by rw [eu_at]; exact hz⟩
theorem lw_g10 {D : va_G} {X : List Nat} {H : Heap} {M : Nat} {z : Int32} (hI : th_I (okM E) D G X H) (hM : G M = some (10, n)) (hX : M ∉ X) (hg : gf D M 10 z H) : z.toInt = ((E 15 : Nat) : Int) := by
  obtain ⟨fs, hO, -, z9, w9, g1, g2, g3, g4⟩ := om_10g hI hM hX
  obtain ⟨fs', h1, h2⟩ := hg
  rw [Value.int.inj (m_same h1 hO (by decide) h2 g1)]
  exact g2
theorem lw_g11 {D : va_G} {X : List Nat} {H : Heap} {M : Nat} {z : Int32} (hI : th_I (okM E) D G X H) (hM : G M = some (10, n)) (hX : M ∉ X) (hg : gf D M 11 z H) : z.toInt = ((E 16 : Nat) : Int) - 1 := by
  obtain ⟨fs, hO, -, z9, w9, g1, g2, g3, g4⟩ := om_10g hI hM hX
  obtain ⟨fs', h1, h2⟩ := hg
  rw [Value.int.inj (m_same h1 hO (by decide) h2 g3)]
  exact g4
end OKT
noncomputable def mI (E : Nat → Nat) (x : Int32) : Nat → Nat := @ite _ (rg x 0 1) (Classical.propDecidable _) (eu (eu E (11 + x.toInt.toNat) (E 10)) (13 + x.toInt.toNat) 1) E
theorem mI_t {E : Nat → Nat} {x : Int32} {k : Nat} (h : k < 2) (hx : (k : Int) = x.toInt) : mI E x = eu (eu E (11 + k) (E 10)) (13 + k) 1 := by
  unfold mI
  rw [if_pos (show rg x 0 1 from ⟨by omega, by omega⟩), show x.toInt.toNat = k by omega]
theorem mI_lo {E : Nat → Nat} {x : Int32} : ∀ j : Nat, j < 6 ∨ 1000 ≤ j → mI E x j = E j := fun j hj => by
  by_cases h : rg x 0 1
  · obtain ⟨k, hk⟩ : ∃ k : Nat, (k : Int) = x.toInt := ⟨x.toInt.toNat, by have := h.1; omega⟩
    have h2 := h.2
    rw [mI_t (k := k) (by omega) hk, eu_ne (by omega), eu_ne (by omega)]
  · rw [show mI E x = E from if_neg h]
theorem mI_f {E : Nat → Nat} {x : Int32} (h : ¬ rg x 0 1) : mI E x = E := if_neg h
def gBm (E : Nat → Nat) (x : Int32) : Nat := if x.toInt = 0 ∧ E 13 ≠ 0 then E 11 else if x.toInt = 1 ∧ E 14 ≠ 0 then E 12 else E 10
section PME
variable {p : Program} {l : Launch} {e : Env} {R : Room} {s : State} {m : MethodId} {args : Array Value} {below : List Frame} {meth : Method} {c : Code} {H : Heap} {locs : List Loc} {cells slots : Nat} {Q : State → Prop}
variable {cc : ByteArray} {pc nL : Nat} {ls : Array Slot} {rest st0 As : List Value} {A A0 : Nat → Prop} {H0 : Heap} {D : va_G} {E : Nat → Nat} {G : th_G} {M b n0 : Nat}
variable {own C host : String} {index n maxL ci d : Nat} {y : MethodName} {bytes : ByteArray} {ret : Option FieldType} {cw : Cond} {T : u_T} {N : Nat}
theorem pmE {E' : Nat → Nat} (hexec : p.tables.exec = Jvm.exec) (hb : c.code = cc) {Ts : List Cond} (hts : ∀ w ∈ Ts, w.before args s = true) (hin : ∀ w ∈ u_ws RX12 TX12 52, w ∈ Ts) (hown : s.vm.findClass own = some m.cls) (hK : va_K D vwCl (th_tys E) s) (hI : th_I (okM E) D G [] H) (hXs : M ∉ ([] : List Nat)) (hM : G M = some (10, n0)) (hS0 : va_S A H0 H locs) (hA : A M) (k : Nat) (hk : k < 52) (hlink : (Cond.fieldLink own index RX12 (TX12 k).2.1 (TX12 k).2.2.1).before args s = true) (hsame : (TX12 k).1 = RX12) (hfin : (TX12 k).2.2.2 = false) {ty : FieldType} {z : Int32} (hU : UQ G 10) (hk9 : ∀ (b : Nat) (k : th_K) (e : va_E), k.1 ≠ 10 → okM E G b k e → okM E' G b k e) (hz : ∀ fs : List Value, mOk G fs → c10 E fs → c10 E' (fs.set k (.int z))) (hd : parseFieldDescriptor (TX12 k).2.2.1 = some ty) (hn : narrow ty (.int z) = .int z) (hfit : fits ty (.int z) = true) {lo hi : Int} (hm : mfs[k]? = some (.inr (lo, hi))) (h1 : lo ≤ z.toInt) (h2 : z.toInt ≤ hi) (hdg : decode cc pc = .ok (.putfield index, 3))
    (kk : ∀ (H1 : Heap) (locs1 : List Loc), th_I (okM E') D G [] H1 → gP D M k z H H1 → va_S A H0 H1 locs1 → W p l e R s m args below meth c H1 locs1 cells slots Q (F0 m (pc + 3) ls rest)) : W p l e R s m args below meth c H locs cells slots Q (F0 m pc ls (.int z :: .ref M :: rest)) := by
  obtain ⟨fs, hO, hok, hg9⟩ := om_10g hI hM hXs
  refine th_put (C := RX12) (T := TX12) (N := 52) (ty := ty) hexec hb hts hin tyX12 tyX12_ok nmX12 hown hK hO hS0 hA rfl k hk hlink hsame hfin hd hn hfit (by rw [hok.1]; exact hk) hdg (fun H1 locs1 hO1 oq hS1 => ?_)
  refine kk H1 locs1 (em_put hI hM hU hk9 hO1 (ok_m10 (hok.set hk hm h1 h2) (hz fs hok hg9)) oq) ⟨oq, ⟨_, hO1, List.getElem?_set_self (by rw [hok.1]; exact hk)⟩, fun j w hj2 hj hg => ?_, fun j q hj2 hj hg => ?_⟩ hS1
  · obtain ⟨fs', h3, h4⟩ := hg
    obtain ⟨v, hv, -⟩ := hok.2 j hj2
    have := m_same hO h3 hj2 hv h4
    subst this
    exact ⟨_, hO1, by rw [List.getElem?_set_ne (Ne.symm hj)]; exact hv⟩
  · obtain ⟨fs', h3, h4⟩ := hg
    obtain ⟨v, hv, -⟩ := hok.2 j hj2
    have := m_same hO h3 hj2 hv h4
    subst this
    exact ⟨_, hO1, by rw [List.getElem?_set_ne (Ne.symm hj)]; exact hv⟩
end PME
/-! ===== twenty bytes written ===== -/
theorem wd_put {F : Nat → Int32} {i : Nat} {k v : Int32} (h : ∀ j : Nat, j < i → (F j).toInt = ((tk_F.getD j 0 : Nat) : Int)) (hk : k.toNatClampNeg = i) (hv : (vp_nar .byte v).toInt = ((tk_F.getD i 0 : Nat) : Int)) : ∀ j : Nat, j < i + 1 → (upd F k.toNatClampNeg (vp_nar .byte v) j).toInt = ((tk_F.getD j 0 : Nat) : Int) := fun j hj => by
  rw [hk]
  by_cases e : j = i
  · rw [e, pk_us]; exact hv
  · rw [pk_un e]; exact h j (by omega)
theorem sh8_of {x : Int32} {j : Nat} (hj : j < 4) (h : x.toInt = 24 - 8 * (j : Int)) : x = sh8 j := by
  rcases (show j = 0 ∨ j = 1 ∨ j = 2 ∨ j = 3 by omega) with e | e | e | e <;> subst e <;> exact Int32.toInt_inj.mp (h.trans (by decide))
theorem tp_nar {y z : Int32} (hz : y.toInt8.toInt32 = z) : tp_s (vp_nar .byte z).toInt ((y &&& 255).toInt.toNat) := by
  have e1 : vp_nar .byte z = z.toInt8.toInt32 := rfl
  have e2 : (y &&& 255).toBitVec.toNat = y.toBitVec.toNat % 256 := by
    rw [Int32.toBitVec_and, BitVec.toNat_and]
    exact Nat.and_two_pow_sub_one_eq_mod _ 8
  have e3 : (y &&& 255).toInt = (y &&& 255).toBitVec.toInt := rfl
  have e4 : y.toInt = y.toBitVec.toInt := rfl
  rw [BitVec.toInt_eq_toNat_cond, e2] at e3
  rw [BitVec.toInt_eq_toNat_cond] at e4
  have e5 : z.toInt = y.toInt.bmod 256 := by rw [← hz, Int8.toInt_toInt32, Int32.toInt_toInt8]
  have e6 : (vp_nar .byte z).toInt = z.toInt.bmod 256 := by rw [e1, Int8.toInt_toInt32, Int32.toInt_toInt8]
  have hy := y.toBitVec.isLt
  unfold tp_s
  rw [e6, e5]
  simp only [Int.bmod] at *
  split at e3 <;> split at e4 <;> omega
def FI (E : Nat → Nat) (F : Nat → Int32) (t : Nat) (x1 x2 x3 x4 x5 : Int32) (n : Nat) : Prop := ∀ j : Nat, j < 400 → tp_s (F j).toInt (if t ≤ j ∧ j < t + n then fB x1 x2 x3 x4 x5 (j - t) else tB E j)
theorem FI.init {E : Nat → Nat} {F : Nat → Int32} {t : Nat} {x1 x2 x3 x4 x5 : Int32} (h : ∀ j : Nat, j < 400 → tp_s (F j).toInt (tB E j)) : FI E F t x1 x2 x3 x4 x5 0 := fun j hj => by
  rw [if_neg (by omega)]
  exact h j hj
theorem FI.step {E : Nat → Nat} {F : Nat → Int32} {t n : Nat} {x1 x2 x3 x4 x5 i v : Int32} (h : FI E F t x1 x2 x3 x4 x5 n) (hi : i.toInt = ((t + n : Nat) : Int)) (hv : tp_s v.toInt (fB x1 x2 x3 x4 x5 n)) : FI E (upd F i.toNatClampNeg v) t x1 x2 x3 x4 x5 (n + 1) := fun j hj => by
  have e1 : i.toNatClampNeg = t + n := by show i.toInt.toNat = _; omega
  by_cases e : j = t + n
  · rw [e, e1, pk_us, if_pos ⟨by omega, by omega⟩, show t + n - t = n by omega]
    exact hv
  · rw [e1, pk_un e]
    have q := h j hj
    by_cases z : t ≤ j ∧ j < t + n
    · rw [if_pos z] at q; rw [if_pos ⟨z.1, by omega⟩]; exact q
    · rw [if_neg z] at q; rw [if_neg (by omega)]; exact q
theorem FI.byte {x1 x2 x3 x4 x5 a s y z : Int32} {F : Nat → Int32} {i : Int32} {n : Nat} (h5 : ∀ j : Nat, j < 5 → F j = f5 x1 x2 x3 x4 x5 j) (hn : n < 20) (ea : a = F i.toNatClampNeg) (hi : i.toInt = ((n / 4 : Nat) : Int)) (hs : s.toInt = 24 - 8 * ((n % 4 : Nat) : Int)) (ey : y = a >>> (s &&& 31)) (ez : y.toInt8.toInt32 = z) : tp_s (vp_nar .byte z).toInt (fB x1 x2 x3 x4 x5 n) := by
  have e1 : i.toNatClampNeg = n / 4 := by show i.toInt.toNat = _; omega
  have e2 := sh8_of (by omega) hs
  have q := tp_nar ez
  rw [ey, e2, ea, e1, h5 _ (by omega)] at q
  exact q
def eT (E : Nat → Nat) (t : Nat) (x1 x2 x3 x4 x5 : Int32) : Nat → Nat := fun k => if 100 + t ≤ k ∧ k < 100 + t + 20 then fB x1 x2 x3 x4 x5 (k - (100 + t)) else E k
theorem eT_ne {E : Nat → Nat} {t k : Nat} {x1 x2 x3 x4 x5 : Int32} (h : ¬ (100 + t ≤ k ∧ k < 100 + t + 20)) : eT E t x1 x2 x3 x4 x5 k = E k := if_neg h
theorem FI.done {E : Nat → Nat} {F : Nat → Int32} {t : Nat} {x1 x2 x3 x4 x5 : Int32} (h : FI E F t x1 x2 x3 x4 x5 20) : ∀ j : Nat, j < 400 → tp_s (F j).toInt (tB (eT E t x1 x2 x3 x4 x5) j) := fun j hj => by
  have q := h j hj
  by_cases z : t ≤ j ∧ j < t + 20
  · rw [if_pos z] at q
    show tp_s _ (if 100 + t ≤ 100 + j ∧ 100 + j < 100 + t + 20 then fB x1 x2 x3 x4 x5 (100 + j - (100 + t)) else E (100 + j))
    rw [if_pos ⟨by omega, by omega⟩, show 100 + j - (100 + t) = j - t by omega]
    exact q
  · rw [if_neg z] at q
    show tp_s _ (eT E t x1 x2 x3 x4 x5 (100 + j))
    rw [eT_ne (by omega)]
    exact q
theorem eT_fW {E : Nat → Nat} {t : Nat} {x1 x2 x3 x4 x5 : Int32} : eu (eT E t x1 x2 x3 x4 x5) 15 (t + 20) = fW E 15 100 t x1 x2 x3 x4 x5 := by
  funext k
  unfold fW eT
  by_cases e : k = 15
  · rw [e, eu_at, if_pos rfl]
  · rw [eu_ne e, if_neg e]
section MXG
variable {p : Program} {l : Launch} {e : Env} {R : Room} {s : State} {m : MethodId} {args : Array Value} {below : List Frame} {meth : Method} {c : Code} {H : Heap} {locs : List Loc} {cells slots : Nat} {Q : State → Prop}
variable {cc : ByteArray} {pc nL : Nat} {ls : Array Slot} {rest st0 As : List Value} {A0 : Nat → Prop} {H0 : Heap} {D : va_G} {E : Nat → Nat} {G : th_G} {b n0 : Nat}
variable {own host : String} {index n maxL d : Nat} {y : MethodName} {bytes : ByteArray} {ret : Option FieldType} {cw : Cond} {X : Heap → Prop}
theorem mx_iE {E' : Nat → Nat} {Y : Int32 → Heap → Prop} (F : CallFix p m c cc nL s args (tb cw) own) (hM : Met l y (tb (.code y bytes maxL ret)) (rm d) (va_Pc (.ref b :: As) (PX E D G X)) (QXi E' D G Y) 0 0 (th_A G))
    (h1 : Cond.methodLink own index y ∈ TB) (h2 : Cond.instanceMethod y ∈ TB) (h3 : Cond.selects RX12 y y ∈ TB) (h4 : Cond.initialized RX12 ∈ TB) (h5 : Cond.code y bytes maxL ret ∈ TB)
    (hd : y.cls = RX12 ∧ y.cls ≠ "java/lang/invoke/MethodHandle" ∧ y.cls ≠ "java/lang/invoke/VarHandle" ∧ (parseMethodDescriptor y.desc).map (fun d => d.parameters.length) = some n) (hR : d + 1 ≤ R.frames ∧ 8 + (maxL + 11) + 40 * d ≤ R.locals)
    (hI : th_I (okM E) D G [] H) (hN : th_N s) (hK : va_K D vwCl (th_tys E) s) (hKE : va_K D vwCl (th_tys E') s) (hS : va_S (th_A G) H0 H locs) (hO : G b = some (10, n0)) (hX : X H)
    (hn : As.length = n) (hsize : ls.size = nL) (hst : st0 = As.reverse ++ .ref b :: rest) (hrm : (rest.map fun v => v.category).sum ≤ 8) (hdg : decode cc pc = .ok (.invokevirtual index, 3)) (hcs : cells ≤ R.cells ∧ slots ≤ R.slots)
    (kk : ∀ (r : Int32) (H1 : Heap) (locs1 : List Loc) (E2 : Nat → Nat), E2 = E' → th_I (okM E2) D G [] H1 → va_K D vwCl (th_tys E2) s → Y r H1 → va_S (th_A G) H0 H1 locs1 → W p l e R s m args below meth c H1 locs1 cells slots Q (F0 m (pc + 3) ls (.int r :: rest))) : W p l e R s m args below meth c H locs cells slots Q (F0 m pc ls st0) := by
  obtain ⟨fs, hO⟩ := rm_10 hI hO List.not_mem_nil
  exact va_calli (va_runV (As := As) (rest := rest) F hM (cwV n F.2.2.2.2 (tb_V h1 h2 h3 h4 h5) rfl rfl rfl hd hR) ⟨mx_blind, va_recv hK (th_one hO) (q := (RX12, TX12, 52)) rfl (q0 := 0) rfl, fun U hU hW => ⟨rfl, ⟨by rw [hU]; exact hI, hN.warm hW, va_K.moved hW.alike hK⟩, by rw [hU]; exact hX⟩⟩ rfl hn hsize hst (lv_room hrm) hdg hcs) hS (fun q _ h => h) (fun q h => h) (fun r u t H1 locs1 ht hvm hw hB hz hk hS => kk r H1 locs1 _ rfl (by rw [← ht]; exact hB.1.1) hKE (by rw [← ht, ← hw]; exact hB.2) hS)

end MXG
