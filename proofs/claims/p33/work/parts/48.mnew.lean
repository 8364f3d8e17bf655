/-! ===== making the reference ===== -/
theorem okM_mono {E : Nat → Nat} {G G' : th_G} {a : Nat} {k : th_K} {e : va_E} (hle : gle G G') (h : okM E G a k e) : okM E G' a k e := by
  obtain ⟨P, hP, h⟩ := h
  refine ⟨P, hP, ?_⟩
  have hm : P ∈ m_all := List.mem_of_getElem? hP
  simp only [m_all, List.mem_cons, List.not_mem_nil, or_false] at hm
  rcases hm with rfl | rfl | rfl | rfl | rfl | rfl | rfl | rfl | rfl | rfl | rfl | rfl
  · exact h
  · exact h
  · exact h
  · exact h
  · exact h
  · exact h
  · exact h
  · exact h
  · exact h
  · exact h
  · obtain ⟨fs, h1, h2, h3⟩ := h
    refine ⟨fs, h1, h2, fun j hj => ?_⟩
    obtain ⟨v, a1, a2⟩ := h3 j hj
    refine ⟨v, a1, ?_⟩
    rcases hm : mfs[j]? with _ | ⟨kd⟩ | ⟨r⟩
    · rw [hm] at a2; exact a2
    · rw [hm] at a2; obtain ⟨q, e1, e2⟩ := a2; exact ⟨q, e1, hle _ _ e2⟩
    · rw [hm] at a2; exact a2
  · exact h
def mAll (G : th_G) : List m_F → List Value → Prop
  | [], [] => True
  | o :: os, v :: vs => mV G (some o) v ∧ mAll G os vs
  | _, _ => False
theorem mAll.get {G : th_G} : ∀ {os : List m_F} {vs : List Value}, mAll G os vs → vs.length = os.length ∧ ∀ k : Nat, k < os.length → ∃ v, vs[k]? = some v ∧ mV G (os[k]?) v
  | [], [], _ => ⟨rfl, fun k hk => absurd hk (Nat.not_lt_zero _)⟩
  | [], _ :: _, h => h.elim
  | _ :: _, [], h => h.elim
  | o :: os, v :: vs, h => by
    have ih := mAll.get h.2
    refine ⟨by simp [ih.1], fun k hk => ?_⟩
    cases k with
    | zero => exact ⟨v, rfl, h.1⟩
    | succ k =>
      obtain ⟨w, a, b⟩ := ih.2 k (by simpa using hk)
      exact ⟨w, by simpa using a, by simpa using b⟩
theorem mOk_of {G : th_G} {fs : List Value} (h : mAll G mfs fs) : mOk G fs := ⟨h.get.1, fun k hk => h.get.2 k hk⟩
section NEWT
variable {E : Nat → Nat} {D : va_G} {G : th_G} {H H1 : Heap} {a b : Nat} {k : th_K} {e : va_E} {A : Nat → Prop} {H0 : Heap} {locs : List Loc}
theorem mm_lt (hI : th_I (okM E) D G [] H) {q : Nat} {k : th_K} (h : G q = some k) : q < H.size := by
  obtain ⟨e, h1, -⟩ := hI q k h List.not_mem_nil
  exact h1.lt
theorem mm_fresh (hI : th_I (okM E) D G [] H) : G H.size = none := by
  cases h : G H.size with
  | none => rfl
  | some k => exact absurd (mm_lt hI h) (Nat.lt_irrefl _)
theorem mm_grow (hI : th_I (okM E) D G [] H) (o1 : ∀ q : Nat, q < H.size → H1[q]? = H[q]?) (he : va_at D vwCl (H.size, e) H1) (hok : okM E (gx G H.size k) H.size k e) : th_I (okM E) D (gx G H.size k) [] H1 := fun b k' hb _ => by
  by_cases hq : b = H.size
  · subst hq
    rw [gx_a] at hb
    cases hb
    exact ⟨e, he, hok⟩
  · rw [gx_ne hq] at hb
    obtain ⟨e', h1, h2⟩ := hI b k' hb List.not_mem_nil
    exact ⟨e', h1.kept (o1 b h1.lt), okM_mono (gx_le (mm_fresh hI)) h2⟩
/-- an object that is all there gets its kind -/
theorem mm_type (hI : th_I (okM E) D G [] H) (hn : G a = none) (he : va_at D vwCl (a, e) H) (hok : okM E (gx G a k) a k e) : th_I (okM E) D (gx G a k) [] H := fun b k' hb _ => by
  by_cases hq : b = a
  · subst hq
    rw [gx_a] at hb
    cases hb
    exact ⟨e, he, hok⟩
  · rw [gx_ne hq] at hb
    obtain ⟨e', h1, h2⟩ := hI b k' hb List.not_mem_nil
    exact ⟨e', h1, okM_mono (gx_le hn) h2⟩
theorem mm_more (hI : th_I (okM E) D G [] H) (o1 : ∀ q : Nat, q < H.size → H1[q]? = H[q]?) : th_I (okM E) D G [] H1 := fun b k' hb hx => by
  obtain ⟨e', h1, h2⟩ := hI b k' hb hx
  exact ⟨e', h1.kept (o1 b h1.lt), h2⟩
theorem mm_raw (hI : th_I (okM E) D G [] H) (hn : G a = none) (oq : ∀ q : Nat, q ≠ a → H1[q]? = H[q]?) : th_I (okM E) D G [] H1 := fun b k' hb hx => by
  obtain ⟨e', h1, h2⟩ := hI b k' hb hx
  exact ⟨e', h1.kept (oq b (fun z => by rw [z, hn] at hb; cases hb)), h2⟩
theorem mm_neN (hn : G a = none) (hb : G b = some k) : a ≠ b := fun z => by rw [z, hb] at hn; cases hn
end NEWT
section NEWM
variable {p : Program} {l : Launch} {e : Env} {R : Room} {s : State} {m : MethodId} {args : Array Value} {below : List Frame} {meth : Method} {c : Code} {H : Heap} {locs : List Loc} {cells slots : Nat} {Q : State → Prop}
variable {cc : ByteArray} {pc : Nat} {ls : Array Slot} {rest : List Value} {A : Nat → Prop} {H0 : Heap} {D : va_G} {E : Nat → Nat} {G : th_G}
def mm_kk (p : Program) (l : Launch) (e : Env) (R : Room) (s : State) (m : MethodId) (args : Array Value) (below : List Frame) (meth : Method) (c : Code) (Q : State → Prop) (E : Nat → Nat) (D : va_G) (G : th_G) (A : Nat → Prop) (H0 H : Heap) (locs : List Loc) (cells slots : Nat) (k : th_K) (f : Nat → JFrame) : Prop :=
  ∀ (G' : th_G) (q : Nat) (H1 : Heap), gle G G' → G' q = some k → (∀ r k', G' r = some k' → A r) → q = H.size → (∀ r : Nat, r ≠ q → G' r = G r) → (∀ r : Nat, r < H.size → H1[r]? = H[r]?) → th_I (okM E) D G' [] H1 → va_S A H0 H1 locs → W p l e R s m args below meth c H1 locs cells slots Q (f q)
theorem mm_newi {t : Nat} (hexec : p.tables.exec = Jvm.exec) (hb : c.code = cc) (harr : (Cond.arrayClass .int).before args s = true) (hK : va_K D vwCl (th_tys E) s) (hI : th_I (okM E) D G [] H) (hS : va_S A H0 H locs) (hA : ∀ q : Nat, H0.size ≤ q → A q) (hAG : ∀ (r : Nat) (k' : th_K), G r = some k' → A r)
    {n : Int32} (N : Nat) (hN : n.toNatClampNeg = N) (hn : ¬ n < 0) (hbytes : N * componentBytes .int ≤ 536870912) (hcells : cells + 1 ≤ R.cells) (hslots : slots + N ≤ R.slots) (hok : ∀ G2 : th_G, okM E G2 H.size (t, N) (.inl (E 0, N, .inl (fun _ => 0)))) (hdg : decode cc pc = .ok (.newarray .int, 2))
    (kk : mm_kk p l e R s m args below meth c Q E D G A H0 H locs (cells + 1) (slots + N) (t, N) (fun q => F0 m (pc + 2) ls (.ref q :: rest))) : W p l e R s m args below meth c H locs cells slots Q (F0 m pc ls (.int n :: rest)) := by
  subst hN
  refine W.newa (atype := .int) hexec hb harr rfl hdg rfl hn hbytes hcells hslots fun cA kA comp h1 h2 h3 => ?_
  have hcA : cA = E 0 := Option.some.inj (h1.symm.trans (hK.2 0 (E 0, .int) rfl).2)
  subst hcA
  have o1 : ∀ r : Nat, r < H.size → (H.push { cls := E 0, slots := Array.replicate n.toNatClampNeg (defaultValue .int), vm := .none })[r]? = H[r]? := fun q hq => by rw [Array.getElem?_push, if_neg (Nat.ne_of_lt hq)]
  refine kk (gx G H.size (t, n.toNatClampNeg)) H.size _ (gx_le (mm_fresh hI)) gx_a (fun r k' hr => ?_) rfl (fun r hr => gx_ne hr) o1 (mm_grow (e := .inl (E 0, n.toNatClampNeg, .inl (fun _ => 0))) hI o1 ?_ (hok _)) (hS.grow (by simp) o1)
  · by_cases hq : r = H.size
    · rw [hq]; exact hA _ hS.1
    · rw [gx_ne hq] at hr; exact hAG r k' hr
  · show (H.push _)[H.size]? = some (vp_cell _ _)
    rw [vp_cell_i, ← arrV_new]
    first | (simp [defaultValue, newarray.typeOf]; done) | (simp [defaultValue]; exact Or.inr rfl)
theorem mm_newz {t : Nat} (hexec : p.tables.exec = Jvm.exec) (hb : c.code = cc) (harr : (Cond.arrayClass .boolean).before args s = true) (hK : va_K D vwCl (th_tys E) s) (hI : th_I (okM E) D G [] H) (hS : va_S A H0 H locs) (hA : ∀ q : Nat, H0.size ≤ q → A q) (hAG : ∀ (r : Nat) (k' : th_K), G r = some k' → A r)
    {n : Int32} (N : Nat) (hN : n.toNatClampNeg = N) (hn : ¬ n < 0) (hbytes : N * componentBytes .boolean ≤ 536870912) (hcells : cells + 1 ≤ R.cells) (hslots : slots + N ≤ R.slots) (hok : ∀ G2 : th_G, okM E G2 H.size (t, N) (.inl (E 2, N, .inl (fun _ => 0)))) (hdg : decode cc pc = .ok (.newarray .boolean, 2))
    (kk : mm_kk p l e R s m args below meth c Q E D G A H0 H locs (cells + 1) (slots + N) (t, N) (fun q => F0 m (pc + 2) ls (.ref q :: rest))) : W p l e R s m args below meth c H locs cells slots Q (F0 m pc ls (.int n :: rest)) := by
  subst hN
  refine W.newa (atype := .boolean) hexec hb harr rfl hdg rfl hn hbytes hcells hslots fun cA kA comp h1 h2 h3 => ?_
  have hcA : cA = E 2 := Option.some.inj (h1.symm.trans (hK.2 2 (E 2, .boolean) rfl).2)
  subst hcA
  have o1 : ∀ r : Nat, r < H.size → (H.push { cls := E 2, slots := Array.replicate n.toNatClampNeg (defaultValue .boolean), vm := .none })[r]? = H[r]? := fun q hq => by rw [Array.getElem?_push, if_neg (Nat.ne_of_lt hq)]
  refine kk (gx G H.size (t, n.toNatClampNeg)) H.size _ (gx_le (mm_fresh hI)) gx_a (fun r k' hr => ?_) rfl (fun r hr => gx_ne hr) o1 (mm_grow (e := .inl (E 2, n.toNatClampNeg, .inl (fun _ => 0))) hI o1 ?_ (hok _)) (hS.grow (by simp) o1)
  · by_cases hq : r = H.size
    · rw [hq]; exact hA _ hS.1
    · rw [gx_ne hq] at hr; exact hAG r k' hr
  · show (H.push _)[H.size]? = some (vp_cell _ _)
    rw [vp_cell_i, ← arrV_new]
    first | (simp [defaultValue, newarray.typeOf]; done) | (simp [defaultValue]; exact Or.inr rfl)
theorem mm_newb {t : Nat} (hexec : p.tables.exec = Jvm.exec) (hb : c.code = cc) (harr : (Cond.arrayClass .byte).before args s = true) (hK : va_K D vwCl (th_tys E) s) (hI : th_I (okM E) D G [] H) (hS : va_S A H0 H locs) (hA : ∀ q : Nat, H0.size ≤ q → A q) (hAG : ∀ (r : Nat) (k' : th_K), G r = some k' → A r)
    {n : Int32} (N : Nat) (hN : n.toNatClampNeg = N) (hn : ¬ n < 0) (hbytes : N * componentBytes .byte ≤ 536870912) (hcells : cells + 1 ≤ R.cells) (hslots : slots + N ≤ R.slots) (hok : ∀ G2 : th_G, okM E G2 H.size (t, N) (.inl (E 3, N, .inl (fun _ => 0)))) (hdg : decode cc pc = .ok (.newarray .byte, 2))
    (kk : mm_kk p l e R s m args below meth c Q E D G A H0 H locs (cells + 1) (slots + N) (t, N) (fun q => F0 m (pc + 2) ls (.ref q :: rest))) : W p l e R s m args below meth c H locs cells slots Q (F0 m pc ls (.int n :: rest)) := by
  subst hN
  refine W.newa (atype := .byte) hexec hb harr rfl hdg rfl hn hbytes hcells hslots fun cA kA comp h1 h2 h3 => ?_
  have hcA : cA = E 3 := Option.some.inj (h1.symm.trans (hK.2 3 (E 3, .byte) rfl).2)
  subst hcA
  have o1 : ∀ r : Nat, r < H.size → (H.push { cls := E 3, slots := Array.replicate n.toNatClampNeg (defaultValue .byte), vm := .none })[r]? = H[r]? := fun q hq => by rw [Array.getElem?_push, if_neg (Nat.ne_of_lt hq)]
  refine kk (gx G H.size (t, n.toNatClampNeg)) H.size _ (gx_le (mm_fresh hI)) gx_a (fun r k' hr => ?_) rfl (fun r hr => gx_ne hr) o1 (mm_grow (e := .inl (E 3, n.toNatClampNeg, .inl (fun _ => 0))) hI o1 ?_ (hok _)) (hS.grow (by simp) o1)
  · by_cases hq : r = H.size
    · rw [hq]; exact hA _ hS.1
    · rw [gx_ne hq] at hr; exact hAG r k' hr
  · show (H.push _)[H.size]? = some (vp_cell _ _)
    rw [vp_cell_i, ← arrV_new]
    first | (simp [defaultValue, newarray.typeOf]; done) | (simp [defaultValue]; exact Or.inr rfl)
theorem mm_neww (hexec : p.tables.exec = Jvm.exec) (hb : c.code = cc) (harr : (Cond.arrayClass .byte).before args s = true) (hK : va_K D vwCl (th_tys E) s) (hI : th_I (okM E) D G [] H) (hS : va_S A H0 H locs) {n : Int32} (N : Nat) (hN : n.toNatClampNeg = N) (hn : ¬ n < 0) (hbytes : N * componentBytes .byte ≤ 536870912) (hcells : cells + 1 ≤ R.cells) (hslots : slots + N ≤ R.slots) (hdg : decode cc pc = .ok (.newarray .byte, 2))
    (kk : ∀ (q : Nat) (H1 : Heap) (F : Nat → Int32), q = H.size → G q = none → H0.size ≤ q → va_at D vwCl (q, .inl (E 3, N, .inl F)) H1 → (∀ r : Nat, r < H.size → H1[r]? = H[r]?) → th_I (okM E) D G [] H1 → va_S A H0 H1 locs → W p l e R s m args below meth c H1 locs (cells + 1) (slots + N) Q (F0 m (pc + 2) ls (.ref q :: rest))) : W p l e R s m args below meth c H locs cells slots Q (F0 m pc ls (.int n :: rest)) := by
  subst hN
  refine W.newa (atype := .byte) hexec hb harr rfl hdg rfl hn hbytes hcells hslots fun cA kA comp h1 h2 h3 => ?_
  have hcA : cA = E 3 := Option.some.inj (h1.symm.trans (hK.2 3 (E 3, .byte) rfl).2)
  subst hcA
  have o1 : ∀ r : Nat, r < H.size → (H.push { cls := E 3, slots := Array.replicate n.toNatClampNeg (defaultValue .byte), vm := .none })[r]? = H[r]? := fun q hq => by rw [Array.getElem?_push, if_neg (Nat.ne_of_lt hq)]
  refine kk H.size _ (fun _ => 0) rfl (mm_fresh hI) hS.1 ?_ o1 (mm_more hI o1) (hS.grow (by simp) o1)
  show (H.push _)[H.size]? = some (vp_cell _ _)
  rw [vp_cell_i, ← arrV_new]
  first | (simp [defaultValue, newarray.typeOf]; done) | (simp [defaultValue]; exact Or.inr rfl)
end NEWM
abbrev QMM (E : Nat → Nat) (D : va_G) (Gi : th_G) (h0 : Nat) (sz : Nat) : Array Value → State → Outcome → State → Prop := va_Qv (fun G' : th_G => gle Gi G' ∧ (G' h0 = some (10, 0) ∧ UQ G' 1 ∧ UQ G' 2 ∧ UQ G' 11) ∧ ∀ (r : Nat) (k' : th_K), G' r = some k' → Gi r = some k' ∨ r = h0 ∨ sz ≤ r) (fun G' => th_PM E D G') (mA Gi h0 sz)
