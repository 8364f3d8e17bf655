/-! ===== making: the typing grows by what is made ===== -/
def gle (G G' : th_G) : Prop := ∀ (q : Nat) (k : th_K), G q = some k → G' q = some k
theorem gle.rf {G : th_G} : gle G G := fun _ _ h => h
theorem gle.tr {G G' G2 : th_G} (h : gle G G') (h2 : gle G' G2) : gle G G2 := fun q k z => h2 q k (h q k z)
def gx (G : th_G) (a : Nat) (k : th_K) : th_G := fun q => if q = a then some k else G q
theorem gx_a {G : th_G} {a : Nat} {k : th_K} : gx G a k a = some k := by simp [gx]
theorem gx_ne {G : th_G} {a q : Nat} {k : th_K} (h : q ≠ a) : gx G a k q = G q := by simp [gx, h]
theorem gx_le {G : th_G} {a : Nat} {k : th_K} (h : G a = none) : gle G (gx G a k) := fun q k' z => by
  have hq : q ≠ a := fun e => by rw [e, h] at z; cases z
  rw [gx_ne hq]; exact z
theorem okC_mono {E : Nat → Nat} {G G' : th_G} {a : Nat} {k : th_K} {e : va_E} (hle : gle G G') (h : okC E G a k e) : okC E G' a k e := by
  obtain ⟨P, hP, h⟩ := h
  refine ⟨P, hP, ?_⟩
  have hm : P ∈ k_all := List.mem_of_getElem? hP
  simp only [k_all, List.mem_cons, List.not_mem_nil, or_false] at hm
  rcases hm with rfl | rfl | rfl | rfl | rfl | rfl | rfl | rfl | rfl | rfl | rfl | rfl | rfl | rfl | rfl | rfl
  · exact h
  · exact h
  · obtain ⟨g, h1, h2⟩ := h; exact ⟨g, h1, fun j q hj hq => by obtain ⟨m, hm⟩ := h2 j q hj hq; exact ⟨m, hle _ _ hm⟩⟩
  · obtain ⟨g, h1, h2, h3⟩ := h; exact ⟨g, h1, fun j q hj hq => hle _ _ (h2 j q hj hq), h3⟩
  · obtain ⟨q1, z2, he, c0, c1, c2⟩ := h; exact ⟨q1, z2, he, hle _ _ c0, c1, c2⟩
  · obtain ⟨q1, q2, q3, m3, he, c0, c1, c2, c3⟩ := h; exact ⟨q1, q2, q3, m3, he, hle _ _ c0, hle _ _ c1, ⟨hle _ _ c2.1, c2.2⟩, c3⟩
  · obtain ⟨q0, q1, q2, q3, q4, q5, q6, q7, q8, q9, z10, z11, z12, z13, he, c0, c1, c2, c3, c4, c5, c6, c7, c8, c9, c10, c11⟩ := h; exact ⟨q0, q1, q2, q3, q4, q5, q6, q7, q8, q9, z10, z11, z12, z13, he, hle _ _ c0, hle _ _ c1, hle _ _ c2, hle _ _ c3, hle _ _ c4, hle _ _ c5, hle _ _ c6, hle _ _ c7, hle _ _ c8, hle _ _ c9, c10, c11⟩
  · obtain ⟨q0, q1, q2, q3, q4, q5, z6, z7, z8, z9, z10, z11, he, c0, c1, c2, c3, c4, c5, c6, c7, c8, c9⟩ := h; exact ⟨q0, q1, q2, q3, q4, q5, z6, z7, z8, z9, z10, z11, he, hle _ _ c0, hle _ _ c1, hle _ _ c2, hle _ _ c3, hle _ _ c4, hle _ _ c5, c6, c7, c8, c9⟩
  · obtain ⟨q0, q1, z2, he, c0, c1⟩ := h; exact ⟨q0, q1, z2, he, hle _ _ c0, hle _ _ c1⟩
  · obtain ⟨q0, q1, q2, q3, q4, q5, z6, he, c0, c1, c2, c3, c4, c5⟩ := h; exact ⟨q0, q1, q2, q3, q4, q5, z6, he, hle _ _ c0, hle _ _ c1, hle _ _ c2, hle _ _ c3, hle _ _ c4, hle _ _ c5⟩
  · obtain ⟨q0, q1, q2, q3, he, c0, c1, c2, c3⟩ := h; exact ⟨q0, q1, q2, q3, he, hle _ _ c0, hle _ _ c1, hle _ _ c2, hle _ _ c3⟩
  · obtain ⟨q0, q1, q2, q3, q4, q5, q6, q7, z8, z9, z10, he, c0, c1, c2, c3, c4, c5, c6, c7⟩ := h; exact ⟨q0, q1, q2, q3, q4, q5, q6, q7, z8, z9, z10, he, hle _ _ c0, hle _ _ c1, hle _ _ c2, hle _ _ c3, hle _ _ c4, hle _ _ c5, hle _ _ c6, hle _ _ c7⟩
  · obtain ⟨q0, q1, q2, q3, z4, z5, he, c0, c1, c2, c3⟩ := h; exact ⟨q0, q1, q2, q3, z4, z5, he, hle _ _ c0, hle _ _ c1, hle _ _ c2, hle _ _ c3⟩
  · obtain ⟨q0, q1, q2, q3, q4, q5, he, c0, c1, c2, c3, c4, c5⟩ := h; exact ⟨q0, q1, q2, q3, q4, q5, he, hle _ _ c0, hle _ _ c1, hle _ _ c2, hle _ _ c3, hle _ _ c4, hle _ _ c5⟩
  · obtain ⟨q0, q1, q2, q3, q4, z5, he, c0, c1, c2, c3, c4⟩ := h; exact ⟨q0, q1, q2, q3, q4, z5, he, hle _ _ c0, hle _ _ c1, hle _ _ c2, hle _ _ c3, hle _ _ c4⟩
  · obtain ⟨q0, q2, q3, q4, q5, q6, q7, q8, q9, q10, q11, z12, z13, z14, z15, z16, he, c0, c1, c2, c3, c4, c5, c6, c7, c8, c9, c10, c11, c12, c13⟩ := h; exact ⟨q0, q2, q3, q4, q5, q6, q7, q8, q9, q10, q11, z12, z13, z14, z15, z16, he, hle _ _ c0, hle _ _ c1, hle _ _ c2, hle _ _ c3, hle _ _ c4, hle _ _ c5, hle _ _ c6, hle _ _ c7, hle _ _ c8, hle _ _ c9, hle _ _ c10, hle _ _ c11, c12, c13⟩
section NEWT
variable {E : Nat → Nat} {D : va_G} {G : th_G} {H H1 : Heap} {a b : Nat} {k : th_K} {e : va_E} {A : Nat → Prop} {H0 : Heap} {locs : List Loc}
theorem th_lt (hI : th_I (okC E) D G [] H) {q : Nat} {k : th_K} (h : G q = some k) : q < H.size := by
  obtain ⟨e, h1, -⟩ := hI q k h List.not_mem_nil
  exact h1.lt
theorem th_fresh (hI : th_I (okC E) D G [] H) : G H.size = none := by
  cases h : G H.size with
  | none => rfl
  | some k => exact absurd (th_lt hI h) (Nat.lt_irrefl _)
theorem th_grow (hI : th_I (okC E) D G [] H) (o1 : ∀ q : Nat, q < H.size → H1[q]? = H[q]?) (he : va_at D vwCl (H.size, e) H1) (hok : okC E (gx G H.size k) H.size k e) : th_I (okC E) D (gx G H.size k) [] H1 := fun b k' hb _ => by
  by_cases hq : b = H.size
  · subst hq
    rw [gx_a] at hb
    cases hb
    exact ⟨e, he, hok⟩
  · rw [gx_ne hq] at hb
    obtain ⟨e', h1, h2⟩ := hI b k' hb List.not_mem_nil
    exact ⟨e', h1.kept (o1 b h1.lt), okC_mono (gx_le (th_fresh hI)) h2⟩
/-- an object that is all there gets its kind -/
theorem th_type (hI : th_I (okC E) D G [] H) (hn : G a = none) (he : va_at D vwCl (a, e) H) (hok : okC E (gx G a k) a k e) : th_I (okC E) D (gx G a k) [] H := fun b k' hb _ => by
  by_cases hq : b = a
  · subst hq
    rw [gx_a] at hb
    cases hb
    exact ⟨e, he, hok⟩
  · rw [gx_ne hq] at hb
    obtain ⟨e', h1, h2⟩ := hI b k' hb List.not_mem_nil
    exact ⟨e', h1, okC_mono (gx_le hn) h2⟩
theorem th_more (hI : th_I (okC E) D G [] H) (o1 : ∀ q : Nat, q < H.size → H1[q]? = H[q]?) : th_I (okC E) D G [] H1 := fun b k' hb hx => by
  obtain ⟨e', h1, h2⟩ := hI b k' hb hx
  exact ⟨e', h1.kept (o1 b h1.lt), h2⟩
theorem th_raw (hI : th_I (okC E) D G [] H) (hn : G a = none) (oq : ∀ q : Nat, q ≠ a → H1[q]? = H[q]?) : th_I (okC E) D G [] H1 := fun b k' hb hx => by
  obtain ⟨e', h1, h2⟩ := hI b k' hb hx
  exact ⟨e', h1.kept (oq b (fun z => by rw [z, hn] at hb; cases hb)), h2⟩
theorem th_neN (hn : G a = none) (hb : G b = some k) : a ≠ b := fun z => by rw [z, hb] at hn; cases hn
theorem va_S.grow (hS : va_S A H0 H locs) (z1 : H1.size = H.size + 1) (o1 : ∀ q : Nat, q < H.size → H1[q]? = H[q]?) : va_S A H0 H1 locs := ⟨Nat.le_trans hS.1 (by omega), fun x h1 h2 => (o1 x (Nat.lt_of_lt_of_le h1 hS.1)).trans (hS.2.1 x h1 h2), hS.2.2⟩
end NEWT
section NEWW
variable {p : Program} {l : Launch} {e : Env} {R : Room} {s : State} {m : MethodId} {args : Array Value} {below : List Frame} {meth : Method} {c : Code} {H : Heap} {locs : List Loc} {cells slots : Nat} {Q : State → Prop}
variable {cc : ByteArray} {pc : Nat} {ls : Array Slot} {rest : List Value} {A : Nat → Prop} {H0 : Heap} {D : va_G} {E : Nat → Nat} {G : th_G}
/-- what comes with a new array of a kind: the typing, its address, the heap -/
def th_kk (p : Program) (l : Launch) (e : Env) (R : Room) (s : State) (m : MethodId) (args : Array Value) (below : List Frame) (meth : Method) (c : Code) (Q : State → Prop) (E : Nat → Nat) (D : va_G) (G : th_G) (A : Nat → Prop) (H0 H : Heap) (locs : List Loc) (cells slots : Nat) (k : th_K) (f : Nat → JFrame) : Prop :=
  ∀ (G' : th_G) (q : Nat) (H1 : Heap), gle G G' → G' q = some k → (∀ r k', G' r = some k' → A r) → q = H.size → (∀ r : Nat, r ≠ q → G' r = G r) → (∀ r : Nat, r < H.size → H1[r]? = H[r]?) → th_I (okC E) D G' [] H1 → va_S A H0 H1 locs → W p l e R s m args below meth c H1 locs cells slots Q (f q)
theorem th_newi (hexec : p.tables.exec = Jvm.exec) (hb : c.code = cc) (harr : (Cond.arrayClass .int).before args s = true) (hK : va_K D vwCl (th_tys E) s) (hI : th_I (okC E) D G [] H) (hS : va_S A H0 H locs) (hA : ∀ q : Nat, H0.size ≤ q → A q) (hAG : ∀ (r : Nat) (k' : th_K), G r = some k' → A r)
    {n : Int32} (N : Nat) (hN : n.toNatClampNeg = N) (hn : ¬ n < 0) (hbytes : N * componentBytes .int ≤ 536870912) (hcells : cells + 1 ≤ R.cells) (hslots : slots + N ≤ R.slots) (hdg : decode cc pc = .ok (.newarray .int, 2))
    (kk : th_kk p l e R s m args below meth c Q E D G A H0 H locs (cells + 1) (slots + N) (0, N) (fun q => F0 m (pc + 2) ls (.ref q :: rest))) : W p l e R s m args below meth c H locs cells slots Q (F0 m pc ls (.int n :: rest)) := by
  subst hN
  refine W.newa (atype := .int) hexec hb harr rfl hdg rfl hn hbytes hcells hslots fun cA kA comp h1 h2 h3 => ?_
  have hcA : cA = E 0 := Option.some.inj (h1.symm.trans (hK.2 0 (E 0, .int) rfl).2)
  subst hcA
  have o1 : ∀ r : Nat, r < H.size → (H.push { cls := E 0, slots := Array.replicate n.toNatClampNeg (defaultValue .int), vm := .none })[r]? = H[r]? := fun q hq => by rw [Array.getElem?_push, if_neg (Nat.ne_of_lt hq)]
  refine kk (gx G H.size (0, n.toNatClampNeg)) H.size _ (gx_le (th_fresh hI)) gx_a (fun r k' hr => ?_) rfl (fun r hr => gx_ne hr) o1 (th_grow (e := .inl (E 0, n.toNatClampNeg, .inl (fun _ => 0))) hI o1 ?_ ok_0) (hS.grow (by simp) o1)
  · by_cases hq : r = H.size
    · rw [hq]; exact hA _ hS.1
    · rw [gx_ne hq] at hr; exact hAG r k' hr
  · show (H.push _)[H.size]? = some (vp_cell _ _)
    rw [vp_cell_i, ← arrV_new]
    first | (simp [defaultValue, newarray.typeOf]; done) | (simp [defaultValue]; exact Or.inr rfl)
theorem th_newl (hexec : p.tables.exec = Jvm.exec) (hb : c.code = cc) (harr : (Cond.arrayClass .long).before args s = true) (hK : va_K D vwCl (th_tys E) s) (hI : th_I (okC E) D G [] H) (hS : va_S A H0 H locs) (hA : ∀ q : Nat, H0.size ≤ q → A q) (hAG : ∀ (r : Nat) (k' : th_K), G r = some k' → A r)
    {n : Int32} (N : Nat) (hN : n.toNatClampNeg = N) (hn : ¬ n < 0) (hbytes : N * componentBytes .long ≤ 536870912) (hcells : cells + 1 ≤ R.cells) (hslots : slots + N ≤ R.slots) (hdg : decode cc pc = .ok (.newarray .long, 2))
    (kk : th_kk p l e R s m args below meth c Q E D G A H0 H locs (cells + 1) (slots + N) (1, N) (fun q => F0 m (pc + 2) ls (.ref q :: rest))) : W p l e R s m args below meth c H locs cells slots Q (F0 m pc ls (.int n :: rest)) := by
  subst hN
  refine W.newa (atype := .long) hexec hb harr rfl hdg rfl hn hbytes hcells hslots fun cA kA comp h1 h2 h3 => ?_
  have hcA : cA = E 1 := Option.some.inj (h1.symm.trans (hK.2 1 (E 1, .long) rfl).2)
  subst hcA
  have o1 : ∀ r : Nat, r < H.size → (H.push { cls := E 1, slots := Array.replicate n.toNatClampNeg (defaultValue .long), vm := .none })[r]? = H[r]? := fun q hq => by rw [Array.getElem?_push, if_neg (Nat.ne_of_lt hq)]
  refine kk (gx G H.size (1, n.toNatClampNeg)) H.size _ (gx_le (th_fresh hI)) gx_a (fun r k' hr => ?_) rfl (fun r hr => gx_ne hr) o1 (th_grow (e := .inl (E 1, n.toNatClampNeg, .inr (.inl (fun _ => 0)))) hI o1 ?_ ok_1) (hS.grow (by simp) o1)
  · by_cases hq : r = H.size
    · rw [hq]; exact hA _ hS.1
    · rw [gx_ne hq] at hr; exact hAG r k' hr
  · show (H.push _)[H.size]? = some (vp_cell _ _)
    rw [vp_cell_l, ← arrV_new]
    first | (simp [defaultValue, newarray.typeOf]; done) | (simp [defaultValue]; exact Or.inr rfl)
/-- an array of references, all null: of laws (place 4) or of states (5) -/
theorem th_newq (hexec : p.tables.exec = Jvm.exec) (hb : c.code = cc) {own C : String} {index t : Nat} (hown : s.vm.findClass own = some m.cls) (hclink : (Cond.classLink own index C).before args s = true) (hover : (Cond.arrayOver (.object C)).before args s = true) (hK : va_K D vwCl (th_tys E) s) (tp : Nat) (htp : (th_tys E)[tp]? = some (E tp, .object C)) (hI : th_I (okC E) D G [] H) (hS : va_S A H0 H locs) (hA : ∀ q : Nat, H0.size ≤ q → A q) (hAG : ∀ (r : Nat) (k' : th_K), G r = some k' → A r)
    {n : Int32} (N : Nat) (hN : n.toNatClampNeg = N) (hn : ¬ n < 0) (hbytes : N * 4 ≤ 536870912) (hcells : cells + 1 ≤ R.cells) (hslots : slots + N ≤ R.slots) (hdg : decode cc pc = .ok (.anewarray index, 3)) (hok : ∀ G2 : th_G, okC E G2 H.size (t, N) (.inl (E tp, N, .inr (.inr (.inr (.inr (fun _ => none)))))))
    (kk : th_kk p l e R s m args below meth c Q E D G A H0 H locs (cells + 1) (slots + N) (t, N) (fun q => F0 m (pc + 3) ls (.ref q :: rest))) : W p l e R s m args below meth c H locs cells slots Q (F0 m pc ls (.int n :: rest)) := by
  subst hN
  refine W.anew hexec hb hown hclink hover rfl hdg rfl hn hbytes hcells hslots fun cA kA comp h1 h2 h3 h4 => ?_
  obtain ⟨kB, comp', g1, g2, g3, g4⟩ := (hK.2 tp _ htp).2
  have hcA : cA = E tp := Option.some.inj (h1.symm.trans g4)
  subst hcA
  have o1 : ∀ r : Nat, r < H.size → (H.push { cls := E tp, slots := Array.replicate n.toNatClampNeg .null, vm := .none })[r]? = H[r]? := fun q hq => by rw [Array.getElem?_push, if_neg (Nat.ne_of_lt hq)]
  refine kk (gx G H.size (t, n.toNatClampNeg)) H.size _ (gx_le (th_fresh hI)) gx_a (fun r k' hr => ?_) rfl (fun r hr => gx_ne hr) o1 (th_grow (e := .inl (E tp, n.toNatClampNeg, .inr (.inr (.inr (.inr (fun _ => none)))))) hI o1 ?_ (hok _)) (hS.grow (by simp) o1)
  · by_cases hq : r = H.size
    · rw [hq]; exact hA _ hS.1
    · rw [gx_ne hq] at hr; exact hAG r k' hr
  · show (H.push _)[H.size]? = some (vp_cell _ _)
    rw [vp_cell_q]
    show _ = some (arrV (E tp) n.toNatClampNeg (fun _ => Value.null))
    rw [← arrV_new]
    simp
/-- an object, blank yet: it has no kind until its constructor is through -/
theorem th_newo (hexec : p.tables.exec = Jvm.exec) (hb : c.code = cc) {own C : String} {T : u_T} {N ci index : Nat} {Ts : List Cond} (hts : ∀ w ∈ Ts, w.before args s = true) (hin : ∀ w ∈ u_ws C T N, w ∈ Ts) (ty : Nat → FieldType) (hty : ∀ k, k < N → parseFieldDescriptor (T k).2.2.1 = some (ty k)) (hown : s.vm.findClass own = some m.cls) (hcl : (Cond.classLink own index C).before args s = true) (hinst : (Cond.instantiable C N).before args s = true) (hini : (Cond.initialized C).before args s = true)
    (hK : va_K D vwCl (th_tys E) s) (hI : th_I (okC E) D G [] H) (hS : va_S A H0 H locs) (hc : vwCl[ci]? = some (C, T, N)) {fs : List Value} (hfs : ∀ j, j < N → defaultValue (ty j) = vp_V fs j) (hcells : cells + 1 ≤ R.cells) (hslots : slots + N ≤ R.slots) (hdg : decode cc pc = .ok (.new index, 3))
    (kk : ∀ (q : Nat) (H1 : Heap), q = H.size → G q = none → H0.size ≤ q → va_at D vwCl (q, .inr (ci, fs)) H1 → (∀ r : Nat, r < H.size → H1[r]? = H[r]?) → th_I (okC E) D G [] H1 → va_S A H0 H1 locs → W p l e R s m args below meth c H1 locs (cells + 1) (slots + N) Q (F0 m (pc + 3) ls (.ref q :: rest))) : W p l e R s m args below meth c H locs cells slots Q (F0 m pc ls rest) := by
  have hKn := hK.1 ci _ hc
  refine W.newcK hexec hb hown hcl hinst hini rfl hdg hcells hslots hKn.2.1 rfl fun H1 kC hkC e1 z1 o1 => ?_
  exact kk H.size H1 rfl (th_fresh hI) hS.1 ⟨_, hc, (u_born ty hts hin hKn hkC e1 hty).to hfs⟩ o1 (th_more hI o1) (hS.grow z1 o1)
/-- a final field of one's own, in the constructor -/
theorem th_putF (hexec : p.tables.exec = Jvm.exec) (hb : c.code = cc) {own C : String} {T : u_T} {N ci index a : Nat} {Ts : List Cond} {tys : List (ClassId × FieldType)} (hts : ∀ w ∈ Ts, w.before args s = true) (hin : ∀ w ∈ u_ws C T N, w ∈ Ts) (ty0 : Nat → FieldType) (hty : ∀ k, k < N → parseFieldDescriptor (T k).2.2.1 = some (ty0 k)) (hnm : ∀ a, a < N → ∀ b, b < N → a ≠ b → (T a).2.1 ≠ (T b).2.1) (hown : s.vm.findClass own = some m.cls) (hK : va_K D vwCl tys s) {fs : List Value} (hO : va_at D vwCl (a, .inr (ci, fs)) H) (hS0 : va_S A H0 H locs) (hA : A a) (hc : vwCl[ci]? = some (C, T, N)) (k : Nat) (hk : k < N) (hlink : (Cond.fieldLink own index (T k).1 (T k).2.1 (T k).2.2.1).before args s = true) (hfin : (T k).2.2.2 = true) (hin2 : meth.name = "<init>") (hdecl : (T k).1 = own) {ty : FieldType} {v : Value} (hd : parseFieldDescriptor (T k).2.2.1 = some ty) (hn : narrow ty v = v) (hfit : fits ty v = true) (hl : k < fs.length)
    (hdg : decode cc pc = .ok (.putfield index, 3)) (kk : ∀ (H1 : Heap) (locs1 : List Loc), va_at D vwCl (a, .inr (ci, fs.set k v)) H1 → (∀ q : Nat, q ≠ a → H1[q]? = H[q]?) → va_S A H0 H1 locs1 → W p l e R s m args below meth c H1 locs1 cells slots Q (F0 m (pc + 3) ls rest)) : W p l e R s m args below meth c H locs cells slots Q (F0 m pc ls (v :: .ref a :: rest)) := by
  have hap := va_apart (own := own) hts hin ty0 hty hnm hK hc
  obtain ⟨r, h1, cell, q1, q2, q3, q4⟩ := hO
  have hr : r = (C, T, N) := Option.some.inj (h1.symm.trans hc)
  subst hr
  obtain ⟨hS, hfc, kC, hkC, hkind⟩ := hK.1 ci _ hc
  obtain ⟨cf, kf, fi, f, hi, hsl⟩ := hS k hk
  have hlay := hts _ (hin _ (u_in_lay hk))
  unfold u_lay at hlay
  rw [if_pos hfin] at hlay
  have hst := (u_facts hfc hkC (u_lays hts hin hk) hi).1
  have hcf : m.cls = cf := by
    obtain ⟨_, _, c', _, _, _, -, -, hf', -, -, -, hown2, -⟩ := Cond.laysFinal_spec hlay
    have e1 : c' = cf := by have := hi.symm.trans hf'; simp at this; exact this.1.symm
    rw [hdecl] at hown2
    rw [← e1]; exact Option.some.inj (hown.symm.trans hown2)
  have h6 := u_fits hfc hkC hkind (Or.inr hlay) hi hd hn hfit
  refine W.putFinK hexec hb hown hlink hi hst hcf hin2 (by rw [q2]; exact h6) q1 q3 (by rw [hsl]; exact k2_hasslot (q4 k hk)) rfl rfl hdg fun H' e1 e2 e3 => ?_
  rw [hsl] at e1 ⊢
  exact kk H' _ ⟨_, hc, t_OB.to (V := updV (vp_V fs) k v) ⟨_, e1, q2, q3, t_set q4 hap hk v⟩ (fun j _ => vp_updV_set hl v j)⟩ e3 (hS0.put e2 e3 hA)
end NEWW
/-- which cells a maker may change: those of a kind, its own, new ones -/
def mA (G : th_G) (h0 sz : Nat) : Nat → Prop := fun q => th_A G q ∨ q = h0 ∨ sz ≤ q
abbrev QM (E : Nat → Nat) (D : va_G) (Gi : th_G) (h0 : Nat) (k : th_K) (sz : Nat) : Array Value → State → Outcome → State → Prop := va_Qv (fun G' : th_G => gle Gi G' ∧ G' h0 = some k ∧ ∀ (r : Nat) (k' : th_K), G' r = some k' → Gi r = some k' ∨ r = h0 ∨ sz ≤ r) (fun G' => th_P E D G') (mA Gi h0 sz)
abbrev QN (E : Nat → Nat) (D : va_G) (Gi : th_G) (h0 : Nat) (sz : Nat) : Array Value → State → Outcome → State → Prop := va_Qv (fun G' : th_G => gle Gi G' ∧ (∃ im, G' h0 = some (15, im)) ∧ ∀ (r : Nat) (k' : th_K), G' r = some k' → Gi r = some k' ∨ r = h0 ∨ sz ≤ r) (fun G' => th_P E D G') (mA Gi h0 sz)
theorem mA_new {Gi G : th_G} {h0 sz : Nat} {k : th_K} (hAG : ∀ (r : Nat) (k' : th_K), G r = some k' → mA Gi h0 sz r) (hle : gle Gi G) {r : Nat} {k' : th_K} (h : gx G h0 k r = some k') : Gi r = some k' ∨ r = h0 ∨ sz ≤ r := by
  by_cases hq : r = h0
  · exact Or.inr (Or.inl hq)
  · rw [gx_ne hq] at h
    rcases hAG r k' h with ⟨k2, h2⟩ | h2 | h2
    · cases (hle r k2 h2).symm.trans h
      exact Or.inl h2
    · exact Or.inr (Or.inl h2)
    · exact Or.inr (Or.inr h2)
/-- the arrays of laws and of states can be made -/
def th_AO (U : State) : Prop := va_AO "NineRiver$Law" U ∧ va_AO "NineRiver$State" U
theorem th_AO.moved {u U : State} (hvm : u.vm.Alike U.vm) (h : th_AO u) : th_AO U := ⟨h.1.moved hvm, h.2.moved hvm⟩
theorem th_blindM {E : Nat → Nat} {D : va_G} {G : th_G} {av : List Value} {sz : Nat} {q : Nat × va_E} : FrameBlind (va_Pc av (fun U => U.heap.size = sz ∧ th_P E D G U ∧ va_at D vwCl q U.heap ∧ th_AO U)) := fun a U g mk z => ⟨z.1, z.2.1, ⟨z.2.2.1.1, th_N.same (u := U) rfl z.2.2.1.2.1, va_K.moved (u := U) (U := U.calling g mk a) (Vm.Alike.refl U.vm) z.2.2.1.2.2⟩, z.2.2.2.1, z.2.2.2.2.moved (U := U.calling g mk a) (Vm.Alike.refl U.vm)⟩
section MAKE
variable {p : Program} {l : Launch} {e : Env} {R : Room} {s : State} {m : MethodId} {args : Array Value} {below : List Frame} {meth : Method} {c : Code} {H : Heap} {locs : List Loc} {cells slots : Nat} {Q : State → Prop}
variable {cc : ByteArray} {pc nL : Nat} {ls : Array Slot} {rest st0 As : List Value} {H0 : Heap} {D : va_G} {E : Nat → Nat} {G : th_G} {b : Nat} {A0 : Nat → Prop}
variable {own host : String} {index n maxL ci mc ms : Nat} {y : MethodName} {bytes : ByteArray} {cw : Cond} {rr : Room} {k : th_K} {fs : List Value}
def th_mk (p : Program) (l : Launch) (e : Env) (R : Room) (s : State) (m : MethodId) (args : Array Value) (below : List Frame) (meth : Method) (c : Code) (Q : State → Prop) (E : Nat → Nat) (D : va_G) (G : th_G) (A0 : Nat → Prop) (H0 H : Heap) (b : Nat) (k : th_K) (cells slots : Nat) (f : JFrame) : Prop :=
  ∀ (G' : th_G) (H1 : Heap) (locs1 : List Loc), gle G G' → G' b = some k → (∀ (r : Nat) (k' : th_K), G' r = some k' → A0 r) → (∀ r : Nat, r < H.size → G r = none → r ≠ b → G' r = none) → (∀ r : Nat, r < H.size → G r = none → r ≠ b → H1[r]? = H[r]?) → th_I (okC E) D G' [] H1 → va_S A0 H0 H1 locs1 → W p l e R s m args below meth c H1 locs1 cells slots Q f
theorem th_mkOf (hnb : G b = none) (hbs : H0.size ≤ b) (hA : ∀ q : Nat, H0.size ≤ q → A0 q) (hAG : ∀ (r : Nat) (k' : th_K), G r = some k' → A0 r) (hS : va_S A0 H0 H locs) : ∀ q, mA G b H.size q → A0 q := fun q h => by
  rcases h with ⟨k', h⟩ | h | h
  · exact hAG q k' h
  · rw [h]; exact hA b hbs
  · exact hA q (Nat.le_trans hS.1 h)
theorem th_cI (F : CallFix p m c cc nL s args (tb cw) own) (hM : Met l y (tb (.code y bytes maxL none)) rr (va_Pc (.ref b :: As) (fun U => U.heap.size = H.size ∧ th_P E D G U ∧ va_at D vwCl (b, .inr (ci, fs)) U.heap ∧ th_AO U)) (QM E D G b k H.size) mc ms (mA G b H.size))
    (h1 : Cond.methodLink own index y ∈ TB) (h2 : Cond.instanceMethod y ∈ TB) (h4 : Cond.initialized y.cls ∈ TB) (h5 : Cond.code y bytes maxL none ∈ TB)
    (hd : rr.cells = mc ∧ rr.slots = ms ∧ y.name = "<init>" ∧ y.cls ≠ "java/lang/invoke/MethodHandle" ∧ y.cls ≠ "java/lang/invoke/VarHandle" ∧ (parseMethodDescriptor y.desc).map (fun d => d.parameters.length) = some n) (hR : rr.frames + 1 ≤ R.frames ∧ 8 + (maxL + 11) + rr.locals ≤ R.locals)
    (hI : th_I (okC E) D G [] H) (hN : th_N s) (hAO : th_AO s) (hK : va_K D vwCl (th_tys E) s) (hOb : va_at D vwCl (b, .inr (ci, fs)) H) (hnb : G b = none) (hbs : H0.size ≤ b) (hS : va_S A0 H0 H locs) (hA : ∀ q : Nat, H0.size ≤ q → A0 q) (hAG : ∀ (r : Nat) (k' : th_K), G r = some k' → A0 r)
    (hn : As.length = n) (hsize : ls.size = nL) (hst : st0 = As.reverse ++ .ref b :: rest) (hrm : (rest.map fun v => v.category).sum ≤ 8) (hdg : decode cc pc = .ok (.invokespecial index, 3)) (hcs : cells + mc ≤ R.cells ∧ slots + ms ≤ R.slots)
    (kk : th_mk p l e R s m args below meth c Q E D G A0 H0 H b k (cells + mc) (slots + ms) (F0 m (pc + 3) ls rest)) : W p l e R s m args below meth c H locs cells slots Q (F0 m pc ls st0) := by
  obtain ⟨g1, g2, g3, g4⟩ := hd
  have hF := th_mkOf hnb hbs hA hAG hS
  exact va_callv (va_runI (As := As) (rest := rest) F hM (cwI n F.2.2.2.2 (tb_G h5) rfl g1 g2 (F.2.2.2.2 _ (tb_c h4)) (F.2.2.2.2 _ (tb_c h1)) (F.2.2.2.2 _ (tb_c h2)) g3 g4 hR) ⟨th_blindM, fun U hU hW => ⟨rfl, by rw [hU], ⟨by rw [hU]; exact hI, hN.warm hW, va_K.moved hW.alike hK⟩, by rw [hU]; exact hOb, hAO.moved hW.alike⟩⟩ rfl hn hsize hst (lv_room hrm) hdg hcs) hS (fun q _ h => hF q h) hF (fun G' t H1 locs1 ht hvm hw hB hz hk hS1 => kk G' H1 locs1 hw.1 hw.2.1 (fun r k' h => by
      rcases hw.2.2 r k' h with h | h | h
      · exact hAG r k' h
      · rw [h]; exact hA b hbs
      · exact hA r (Nat.le_trans hS.1 h)) (fun r hr h0 hne => by
      cases h : G' r with
      | none => rfl
      | some k' =>
        rcases hw.2.2 r k' h with h | h | h
        · rw [h0] at h; cases h
        · exact absurd h hne
        · omega) (fun r hr h0 hne => hk r hr (fun z => by
        rcases z with ⟨k', z⟩ | z | z
        · rw [h0] at z; cases z
        · exact hne z
        · omega)) (by rw [← ht]; exact hB.1) hS1)
theorem th_cIN (F : CallFix p m c cc nL s args (tb cw) own) (hM : Met l y (tb (.code y bytes maxL none)) rr (va_Pc (.ref b :: As) (fun U => U.heap.size = H.size ∧ th_P E D G U ∧ va_at D vwCl (b, .inr (ci, fs)) U.heap ∧ th_AO U)) (QM E D G b k H.size) mc ms (mA G b H.size))
    (h1 : Cond.methodLinkNest own index y host ∈ lw_tbl) (h2 : Cond.instanceMethod y ∈ TB) (h4 : Cond.initialized y.cls ∈ TB) (h5 : Cond.code y bytes maxL none ∈ TB)
    (hd : rr.cells = mc ∧ rr.slots = ms ∧ y.name = "<init>" ∧ y.cls ≠ "java/lang/invoke/MethodHandle" ∧ y.cls ≠ "java/lang/invoke/VarHandle" ∧ (parseMethodDescriptor y.desc).map (fun d => d.parameters.length) = some n) (hR : rr.frames + 1 ≤ R.frames ∧ 8 + (maxL + 11) + rr.locals ≤ R.locals)
    (hI : th_I (okC E) D G [] H) (hN : th_N s) (hAO : th_AO s) (hK : va_K D vwCl (th_tys E) s) (hOb : va_at D vwCl (b, .inr (ci, fs)) H) (hnb : G b = none) (hbs : H0.size ≤ b) (hS : va_S A0 H0 H locs) (hA : ∀ q : Nat, H0.size ≤ q → A0 q) (hAG : ∀ (r : Nat) (k' : th_K), G r = some k' → A0 r)
    (hn : As.length = n) (hsize : ls.size = nL) (hst : st0 = As.reverse ++ .ref b :: rest) (hrm : (rest.map fun v => v.category).sum ≤ 8) (hdg : decode cc pc = .ok (.invokespecial index, 3)) (hcs : cells + mc ≤ R.cells ∧ slots + ms ≤ R.slots)
    (kk : th_mk p l e R s m args below meth c Q E D G A0 H0 H b k (cells + mc) (slots + ms) (F0 m (pc + 3) ls rest)) : W p l e R s m args below meth c H locs cells slots Q (F0 m pc ls st0) := by
  obtain ⟨g1, g2, g3, g4⟩ := hd
  have hF := th_mkOf hnb hbs hA hAG hS
  exact va_callv (va_runIN (As := As) (rest := rest) F hM ⟨va_cnB n F.2.2.2.2 (tb_G h5) rfl g1 g2 (hN.2 _ _ _ _ h1) (F.2.2.2.2 _ (tb_c h4)) g4 hR, g3, F.2.2.2.2 _ (tb_c h2)⟩ ⟨th_blindM, fun U hU hW => ⟨rfl, by rw [hU], ⟨by rw [hU]; exact hI, hN.warm hW, va_K.moved hW.alike hK⟩, by rw [hU]; exact hOb, hAO.moved hW.alike⟩⟩ rfl hn hsize hst (lv_room hrm) hdg hcs) hS (fun q _ h => hF q h) hF (fun G' t H1 locs1 ht hvm hw hB hz hk hS1 => kk G' H1 locs1 hw.1 hw.2.1 (fun r k' h => by
      rcases hw.2.2 r k' h with h | h | h
      · exact hAG r k' h
      · rw [h]; exact hA b hbs
      · exact hA r (Nat.le_trans hS.1 h)) (fun r hr h0 hne => by
      cases h : G' r with
      | none => rfl
      | some k' =>
        rcases hw.2.2 r k' h with h | h | h
        · rw [h0] at h; cases h
        · exact absurd h hne
        · omega) (fun r hr h0 hne => hk r hr (fun z => by
        rcases z with ⟨k', z⟩ | z | z
        · rw [h0] at z; cases z
        · exact hne z
        · omega)) (by rw [← ht]; exact hB.1) hS1)
end MAKE
