/-! ===== numbers within bounds ===== -/
def rg (x : Int32) (a b : Int) : Prop := a ≤ x.toInt ∧ x.toInt ≤ b
theorem rg_any (x : Int32) : rg x (-2147483648) 2147483647 := ⟨by have := Int32.le_toInt x; omega, by have := Int32.toInt_lt x; omega⟩
theorem rg_weak {x : Int32} {a b : Int} (a' b' : Int) (h : rg x a b) (h1 : a' ≤ a) (h2 : b ≤ b') : rg x a' b' := ⟨Int.le_trans h1 h.1, Int.le_trans h.2 h2⟩
theorem rg_c {x : Int32} (a : Int) (h : x.toInt = a) : rg x a a := ⟨by rw [h]; exact Int.le_refl a, by rw [h]; exact Int.le_refl a⟩
theorem rg_e {x y : Int32} {a b : Int} (e : x = y) (h : rg y a b) : rg x a b := by rw [e]; exact h
theorem rg_bm {i : Int} (h1 : -2147483648 ≤ i) (h2 : i ≤ 2147483647) : i.bmod (2 ^ 32) = i := Int.bmod_eq_of_le (by omega) (by omega)
theorem rg_addE {x y : Int32} {a b c d : Int} (hx : rg x a b) (hy : rg y c d) (h1 : -2147483648 ≤ a + c) (h2 : b + d ≤ 2147483647) : (x + y).toInt = x.toInt + y.toInt := by
  obtain ⟨p, q⟩ := hx
  obtain ⟨r, s⟩ := hy
  rw [Int32.toInt_add]
  exact rg_bm (by omega) (by omega)
theorem rg_add {x y z : Int32} {a b c d : Int} (a' b' : Int) (e : z = x + y) (hx : rg x a b) (hy : rg y c d) (h1 : -2147483648 ≤ a + c) (h2 : b + d ≤ 2147483647) (h3 : a' ≤ a + c) (h4 : b + d ≤ b') : rg z a' b' := by
  have h := rg_addE hx hy h1 h2
  obtain ⟨p, q⟩ := hx
  obtain ⟨r, s⟩ := hy
  subst e
  exact ⟨by omega, by omega⟩
theorem rg_subE {x y : Int32} {a b c d : Int} (hx : rg x a b) (hy : rg y c d) (h1 : -2147483648 ≤ a - d) (h2 : b - c ≤ 2147483647) : (x - y).toInt = x.toInt - y.toInt := by
  obtain ⟨p, q⟩ := hx
  obtain ⟨r, s⟩ := hy
  rw [Int32.toInt_sub]
  exact rg_bm (by omega) (by omega)
theorem rg_sub {x y z : Int32} {a b c d : Int} (a' b' : Int) (e : z = x - y) (hx : rg x a b) (hy : rg y c d) (h1 : -2147483648 ≤ a - d) (h2 : b - c ≤ 2147483647) (h3 : a' ≤ a - d) (h4 : b - c ≤ b') : rg z a' b' := by
  have h := rg_subE hx hy h1 h2
  obtain ⟨p, q⟩ := hx
  obtain ⟨r, s⟩ := hy
  subst e
  exact ⟨by omega, by omega⟩
theorem rg_mulE {x y : Int32} {a b c d : Int} (hx : rg x a b) (hy : rg y c d) (h0 : 0 ≤ a) (h0' : 0 ≤ c) (h2 : b * d ≤ 2147483647) : (x * y).toInt = x.toInt * y.toInt ∧ a * c ≤ x.toInt * y.toInt ∧ x.toInt * y.toInt ≤ b * d := by
  obtain ⟨p, q⟩ := hx
  obtain ⟨r, s⟩ := hy
  have k1 : a * c ≤ x.toInt * y.toInt := Int.mul_le_mul p r h0' (Int.le_trans h0 p)
  have k2 : x.toInt * y.toInt ≤ b * d := Int.mul_le_mul q s (Int.le_trans h0' r) (Int.le_trans (Int.le_trans h0 p) q)
  have k3 : 0 ≤ a * c := Int.mul_nonneg h0 h0'
  refine ⟨?_, k1, k2⟩
  rw [Int32.toInt_mul]
  exact rg_bm (by omega) (by omega)
theorem rg_mul {x y z : Int32} {a b c d : Int} (a' b' : Int) (e : z = x * y) (hx : rg x a b) (hy : rg y c d) (h0 : 0 ≤ a) (h0' : 0 ≤ c) (h2 : b * d ≤ 2147483647) (h3 : a' ≤ a * c) (h4 : b * d ≤ b') : rg z a' b' := by
  obtain ⟨k, k1, k2⟩ := rg_mulE hx hy h0 h0' h2
  subst e
  exact ⟨by omega, by omega⟩
theorem rg_in {x : Int32} {b : Int} {n : Nat} {a : Int} (h : rg x a b) (h0 : 0 ≤ a) (hn : b < (n : Int)) : vp_in x n := vp_in_iff.mpr ⟨Int.le_trans h0 h.1, Int.lt_of_le_of_lt h.2 hn⟩
theorem rg_nI {n : Nat} (h : n < 2147483648) : rg (nI n) n n := ⟨by rw [nI_toInt (by omega)]; exact Int.le_refl _, by rw [nI_toInt (by omega)]; exact Int.le_refl _⟩
-- what a branch says
theorem rg_ltl {x y : Int32} {a b c d : Int} (b' : Int) (hx : rg x a b) (hy : rg y c d) (h : x < y) (e : d ≤ b' + 1) : rg x a b' := ⟨hx.1, by have := Int32.lt_iff_toInt_lt.mp h; have := hy.2; omega⟩
theorem rg_ltr {x y : Int32} {a b c d : Int} (c' : Int) (hx : rg x a b) (hy : rg y c d) (h : x < y) (e : c' ≤ a + 1) : rg y c' d := ⟨by have := Int32.lt_iff_toInt_lt.mp h; have := hx.1; omega, hy.2⟩
theorem rg_lel {x y : Int32} {a b c d : Int} (b' : Int) (hx : rg x a b) (hy : rg y c d) (h : x ≤ y) (e : d ≤ b') : rg x a b' := ⟨hx.1, by have := Int32.le_iff_toInt_le.mp h; have := hy.2; omega⟩
theorem rg_ler {x y : Int32} {a b c d : Int} (c' : Int) (hx : rg x a b) (hy : rg y c d) (h : x ≤ y) (e : c' ≤ a) : rg y c' d := ⟨by have := Int32.le_iff_toInt_le.mp h; have := hx.1; omega, hy.2⟩
theorem rg_nlt {x y : Int32} (h : ¬ x < y) : y ≤ x := Int32.le_iff_toInt_le.mpr (by have := mt Int32.lt_iff_toInt_lt.mpr h; omega)
theorem rg_nle {x y : Int32} (h : ¬ x ≤ y) : y < x := Int32.lt_iff_toInt_lt.mpr (by have := mt Int32.le_iff_toInt_le.mpr h; omega)
theorem rg_eql {x y : Int32} {c d : Int} (hy : rg y c d) (h : x = y) : rg x c d := by rw [h]; exact hy
theorem rg_eqr {x y : Int32} {a b : Int} (hx : rg x a b) (h : x = y) : rg y a b := by rw [← h]; exact hx
theorem rg_nel {x y : Int32} {a b : Int} (a' : Int) (hx : rg x a b) (hy : rg y a a) (h : ¬ x = y) (e : a' ≤ a + 1) : rg x a' b := by
  refine ⟨?_, hx.2⟩
  have h1 : x.toInt ≠ y.toInt := fun z => h (Int32.toInt_inj.mp z)
  have := hx.1; have := hy.1; have := hy.2
  omega
theorem rg_neu {x y : Int32} {a b : Int} (b' : Int) (hx : rg x a b) (hy : rg y b b) (h : ¬ x = y) (e : b ≤ b' + 1) : rg x a b' := by
  refine ⟨hx.1, ?_⟩
  have h1 : x.toInt ≠ y.toInt := fun z => h (Int32.toInt_inj.mp z)
  have := hx.2; have := hy.1; have := hy.2
  omega
theorem rg_no {x : Int32} {a b : Int} (h : rg x a b) (e : b < a) {P : Prop} : P := absurd (Int.le_trans h.1 h.2) (by omega)
/-! ===== typed heaps: every cell of a set of addresses keeps what its kind says ===== -/
abbrev th_K : Type := Nat × Nat
abbrev th_G : Type := Nat → Option th_K
def th_I (ok : th_G → Nat → th_K → va_E → Prop) (D : va_G) (G : th_G) (X : List Nat) (H : Heap) : Prop := ∀ (a : Nat) (k : th_K), G a = some k → a ∉ X → ∃ e : va_E, va_at D vwCl (a, e) H ∧ ok G a k e
def th_A (G : th_G) : Nat → Prop := fun q => ∃ k, G q = some k
section TH
variable {ok : th_G → Nat → th_K → va_E → Prop} {D : va_G} {G : th_G} {X : List Nat} {H H1 : Heap} {a b : Nat} {k : th_K} {e0 : va_E}
theorem th_one {cl : List vw_C} {q : Nat × va_E} (h : va_at D cl q H) : va_P D cl [q] H := fun i r hr => by
  cases i with
  | zero => cases hr; exact h
  | succ i => simp at hr
theorem th_I.kept (h : th_I ok D G X H) (hq : ∀ q, q ∉ X → H1[q]? = H[q]?) : th_I ok D G X H1 := fun b k hb hx => by
  obtain ⟨e, h1, h2⟩ := h b k hb hx
  exact ⟨e, h1.kept (hq b hx), h2⟩
theorem th_I.put (h : th_I ok D G X H) (ha : G a = some k) (he : va_at D vwCl (a, e0) H1) (hok : ok G a k e0) (oq : ∀ q : Nat, q ≠ a → H1[q]? = H[q]?) : th_I ok D G X H1 := fun b k' hb hx => by
  by_cases hab : b = a
  · subst hab
    cases ha.symm.trans hb
    exact ⟨e0, he, hok⟩
  · obtain ⟨e, h1, h2⟩ := h b k' hb hx
    exact ⟨e, h1.kept (oq b hab), h2⟩
theorem th_I.weak (h : th_I ok D G X H) : th_I ok D G (a :: X) H := fun b k hb hx => h b k hb (fun z => hx (List.mem_cons_of_mem _ z))
theorem th_I.close (h : th_I ok D G [a] H) (ha : G a = some k) (he : va_at D vwCl (a, e0) H) (hok : ok G a k e0) : th_I ok D G [] H := fun b k' hb _ => by
  by_cases hab : b = a
  · subst hab
    cases ha.symm.trans hb
    exact ⟨e0, he, hok⟩
  · exact h b k' hb (fun z => hab (List.mem_singleton.mp z))
theorem th_I.moved (h : th_I ok D G [a] H) (oq : ∀ q : Nat, q ≠ a → H1[q]? = H[q]?) : th_I ok D G [a] H1 := h.kept (fun q hq => oq q (fun z => hq (List.mem_singleton.mpr z)))
theorem th_ne {k' : th_K} (ha : G a = some k) (hb : G b = some k') (hn : k.1 ≠ k'.1) : b ∉ [a] := fun z => by
  cases List.mem_singleton.mp z
  cases ha.symm.trans hb
  exact hn rfl
end TH
/-! ===== rows of the machine over typed heaps ===== -/
section THW
variable {p : Program} {l : Launch} {e : Env} {R : Room} {s : State} {m : MethodId} {args : Array Value} {below : List Frame} {meth : Method} {c : Code} {H : Heap} {locs : List Loc} {cells slots : Nat} {Q : State → Prop}
variable {cc : ByteArray} {pc : Nat} {ls : Array Slot} {rest : List Value} {A : Nat → Prop} {H0 : Heap} {D : va_G} {tys : List (ClassId × FieldType)} {a : Nat}
theorem th_get (hexec : p.tables.exec = Jvm.exec) (hb : c.code = cc) {own ref C : String} {T : u_T} {N ci index : Nat} {Ts : List Cond} (hts : ∀ w ∈ Ts, w.before args s = true) (hin : ∀ w ∈ u_ws C T N, w ∈ Ts) (hown : s.vm.findClass own = some m.cls) (hK : va_K D vwCl tys s) {fs : List Value} (hO : va_at D vwCl (a, .inr (ci, fs)) H) (hc : vwCl[ci]? = some (C, T, N)) (k : Nat) (hk : k < N) (hlink : (Cond.fieldLink own index ref (T k).2.1 (T k).2.2.1).before args s = true) (hsame : (T k).1 = ref) {v : Value} (hv : fs[k]? = some v) (hdg : decode cc pc = .ok (.getfield index, 3))
    (kk : W p l e R s m args below meth c H locs cells slots Q (F0 m (pc + 3) ls (v :: rest))) : W p l e R s m args below meth c H locs cells slots Q (F0 m pc ls (.ref a :: rest)) :=
  va_get (D := D) (ci := ci) (v := v) (C := C) (T := T) (N := N) hexec hb hts hin hown hK (th_one hO) 0 rfl hc k hk hlink (fun _ h9 => by rw [← hsame]; exact h9) hv hdg kk
theorem th_put (hexec : p.tables.exec = Jvm.exec) (hb : c.code = cc) {own ref C : String} {T : u_T} {N ci index : Nat} {Ts : List Cond} (hts : ∀ w ∈ Ts, w.before args s = true) (hin : ∀ w ∈ u_ws C T N, w ∈ Ts) (ty0 : Nat → FieldType) (hty : ∀ k, k < N → parseFieldDescriptor (T k).2.2.1 = some (ty0 k)) (hnm : ∀ a, a < N → ∀ b, b < N → a ≠ b → (T a).2.1 ≠ (T b).2.1) (hown : s.vm.findClass own = some m.cls) (hK : va_K D vwCl tys s) {fs : List Value} (hO : va_at D vwCl (a, .inr (ci, fs)) H) (hS0 : va_S A H0 H locs) (hA : A a) (hc : vwCl[ci]? = some (C, T, N)) (k : Nat) (hk : k < N) (hlink : (Cond.fieldLink own index ref (T k).2.1 (T k).2.2.1).before args s = true) (hsame : (T k).1 = ref) (hfin : (T k).2.2.2 = false) {ty : FieldType} {v : Value} (hd : parseFieldDescriptor (T k).2.2.1 = some ty) (hn : narrow ty v = v) (hfit : fits ty v = true) (hl : k < fs.length)
    (hdg : decode cc pc = .ok (.putfield index, 3)) (kk : ∀ (H1 : Heap) (locs1 : List Loc), va_at D vwCl (a, .inr (ci, fs.set k v)) H1 → (∀ q : Nat, q ≠ a → H1[q]? = H[q]?) → va_S A H0 H1 locs1 → W p l e R s m args below meth c H1 locs1 cells slots Q (F0 m (pc + 3) ls rest)) : W p l e R s m args below meth c H locs cells slots Q (F0 m pc ls (v :: .ref a :: rest)) := by
  have hap := va_apart (own := own) hts hin ty0 hty hnm hK hc
  obtain ⟨r, h1, cell, q1, q2, q3, q4⟩ := hO
  have hr : r = (C, T, N) := Option.some.inj (h1.symm.trans hc)
  subst hr
  obtain ⟨hS, hfc, kC, hkC, hkind⟩ := hK.1 ci _ hc
  obtain ⟨cf, kf, fi, f, hi, hsl⟩ := hS k hk
  have hlay := hts _ (hin _ (u_in_lay hk))
  unfold u_lay at hlay
  rw [if_neg (by rw [hfin]; decide)] at hlay
  have hst := (u_facts hfc hkC (u_lays hts hin hk) hi).1
  have h6 := u_store hfc hkC hkind hlay hi hd hn hfit
  refine W.putK hexec hb (f := f) ⟨hown, hlink, ⟨_, _, _, by rw [← hsame]; exact hi⟩, hst⟩ (by rw [q2]; exact h6) q1 q3 (by rw [hsl]; exact k2_hasslot (q4 k hk)) rfl rfl hdg fun H' e1 e2 e3 => ?_
  rw [hsl] at e1 ⊢
  exact kk H' _ ⟨_, hc, t_OB.to (V := updV (vp_V fs) k v) ⟨_, e1, q2, q3, t_set q4 hap hk v⟩ (fun j _ => vp_updV_set hl v j)⟩ e3 (hS0.put e2 e3 hA)
theorem th_iald (hexec : p.tables.exec = Jvm.exec) (hb : c.code = cc) (hK : va_K D vwCl tys s) {cA : ClassId} {n : Nat} {f : Nat → Int32} (hO : va_at D vwCl (a, .inl (cA, n, .inl f)) H) (t0 : Nat) (ht : tys[t0]? = some (cA, .int)) {i : Int32} (hin : vp_in i n) (hdg : decode cc pc = .ok (.iaload, 1))
    (kk : ∀ x : Int32, x = f i.toNatClampNeg → W p l e R s m args below meth c H locs cells slots Q (F0 m (pc + 1) ls (.int x :: rest))) : W p l e R s m args below meth c H locs cells slots Q (F0 m pc ls (.int i :: .ref a :: rest)) :=
  va_iald hexec hb hK (th_one hO) 0 t0 rfl ht hin hdg (kk _ rfl)
theorem th_iast (hexec : p.tables.exec = Jvm.exec) (hb : c.code = cc) (hK : va_K D vwCl tys s) {cA : ClassId} {n : Nat} {f : Nat → Int32} (hO : va_at D vwCl (a, .inl (cA, n, .inl f)) H) (t0 : Nat) (ht : tys[t0]? = some (cA, .int)) (hS : va_S A H0 H locs) (hA : A a) {i : Int32} {x : Int32} (hin : vp_in i n) (hdg : decode cc pc = .ok (.iastore, 1))
    (kk : ∀ (H1 : Heap) (locs1 : List Loc), va_at D vwCl (a, .inl (cA, n, .inl (upd f i.toNatClampNeg x))) H1 → (∀ q : Nat, q ≠ a → H1[q]? = H[q]?) → va_S A H0 H1 locs1 → W p l e R s m args below meth c H1 locs1 cells slots Q (F0 m (pc + 1) ls rest)) : W p l e R s m args below meth c H locs cells slots Q (F0 m pc ls (.int x :: .int i :: .ref a :: rest)) := by
  have h0 : H[a]? = some (vp_cell cA (n, .inl f)) := hO
  refine W.iast hexec hb h0 ((hK.2 t0 _ ht).1 n (fun j => .int (f j))) (fun q => by cases q) (by show ¬ (i < 0 ∨ (arrV _ _ _).slots.size ≤ _); rw [arrV_size]; exact hin) rfl rfl hdg fun H1 e z oq => ?_
  refine kk H1 _ ?_ oq (hS.put z oq hA)
  show H1[a]? = some (vp_cell _ _)
  rw [e]
  rw [vp_cell_i, vp_cell_i, arrV_store]
  congr 2
  funext q
  by_cases hq : q = i.toNatClampNeg
  · subst hq
    simp [updV, upd]
  · simp [updV, upd, hq]
theorem th_last (hexec : p.tables.exec = Jvm.exec) (hb : c.code = cc) (hK : va_K D vwCl tys s) {cA : ClassId} {n : Nat} {f : Nat → Int64} (hO : va_at D vwCl (a, .inl (cA, n, .inr (.inl f))) H) (t0 : Nat) (ht : tys[t0]? = some (cA, .long)) (hS : va_S A H0 H locs) (hA : A a) {i : Int32} {x : Int64} (hin : vp_in i n) (hdg : decode cc pc = .ok (.lastore, 1))
    (kk : ∀ (H1 : Heap) (locs1 : List Loc), va_at D vwCl (a, .inl (cA, n, .inr (.inl (vp_updL f i.toNatClampNeg x)))) H1 → (∀ q : Nat, q ≠ a → H1[q]? = H[q]?) → va_S A H0 H1 locs1 → W p l e R s m args below meth c H1 locs1 cells slots Q (F0 m (pc + 1) ls rest)) : W p l e R s m args below meth c H locs cells slots Q (F0 m pc ls (.long x :: .int i :: .ref a :: rest)) := by
  have h0 : H[a]? = some (vp_cell cA (n, .inr (.inl f))) := hO
  refine W.last hexec hb h0 ((hK.2 t0 _ ht).1 n (fun j => .long (f j))) (fun q => by cases q) (by show ¬ (i < 0 ∨ (arrV _ _ _).slots.size ≤ _); rw [arrV_size]; exact hin) rfl rfl hdg fun H1 e z oq => ?_
  refine kk H1 _ ?_ oq (hS.put z oq hA)
  show H1[a]? = some (vp_cell _ _)
  rw [e]
  rw [vp_cell_l, vp_cell_l, arrV_store]
  congr 2
  funext q
  by_cases hq : q = i.toNatClampNeg
  · subst hq
    simp [updV, vp_updL]
  · simp [updV, vp_updL, hq]
theorem th_nn (z : Int32) (hz : ¬ z < 0) : z.toInt = (z.toNatClampNeg : Int) := by
  have h := mt Int32.lt_iff_toInt_lt.mpr hz
  have h0 : (0 : Int32).toInt = 0 := by decide
  rw [h0] at h
  show z.toInt = ((z.toInt.toNat : Nat) : Int)
  omega
/-- arraycopy of ints, of one cell or two: nothing but the one written changes -/
theorem th_copyi (hexec : p.tables.exec = Jvm.exec) (hb : c.code = cc) (hml : c.maxLocals = ls.size) {own : String} {index : Nat} (hown : s.vm.findClass own = some m.cls) (hlink : (Cond.methodLink own index arraycopyName).before args s = true) (hnat : (Cond.native arraycopyName).before args s = true) (hstat : (Cond.static arraycopyName).before args s = true) (hini : (Cond.initialized "java/lang/System").before args s = true)
    (hK : va_K D vwCl tys s) {a0 : Nat} {cA : ClassId} {n0 n1 : Nat} {f g : Nat → Int32} (hO0 : va_at D vwCl (a0, .inl (cA, n0, .inl f)) H) (hO : va_at D vwCl (a, .inl (cA, n1, .inl g)) H) (t0 : Nat) (ht : tys[t0]? = some (cA, .int)) (hS : va_S A H0 H locs) (hA : A a)
    {sp dp n : Int32} (h1 : ¬ sp < 0) (h2 : ¬ dp < 0) (h3 : ¬ n < 0) (h4 : sp.toInt + n.toInt ≤ (n0 : Int)) (h5 : dp.toInt + n.toInt ≤ (n1 : Int))
    (hframes : 1 ≤ R.frames) (hlocals : (rest.map fun v => v.category).sum + (nativeFrameWords "java/lang/System" "arraycopy" 5 + 11) ≤ R.locals) (hdg : decode cc pc = .ok (.invokestatic index, 3))
    (kk : ∀ (H1 : Heap) (locs1 : List Loc) (f1 : Nat → Int32), va_at D vwCl (a, .inl (cA, n1, .inl f1)) H1 → (∀ q : Nat, q ≠ a → H1[q]? = H[q]?) → va_S A H0 H1 locs1 → W p l e R s m args below meth c H1 locs1 cells slots Q (F0 m (pc + 3) ls rest)) : W p l e R s m args below meth c H locs cells slots Q (F0 m pc ls (.int n :: .int dp :: .ref a :: .int sp :: .ref a0 :: rest)) := by
  have e1 := th_nn sp h1
  have e2 := th_nn dp h2
  have e3 := th_nn n h3
  intro T hT X
  have hc0 : H[a0]? = some (vp_cell cA (n0, .inl f)) := hO0
  have hc1 : H[a]? = some (vp_cell cA (n1, .inl g)) := hO
  obtain ⟨-, k0, hk0, cm0, hkk0⟩ := (hK.2 t0 _ ht).1 n0 (fun j => .int (f j))
  obtain ⟨-, k1, hk1, cm1, hkk1⟩ := (hK.2 t0 _ ht).1 n1 (fun j => .int (g j))
  obtain ⟨vm', X', step⟩ := X.arraycopy hexec hown hlink hnat hstat hini (src := a0) (dst := a) (cs := vp_cell cA (n0, .inl f)) (cd := vp_cell cA (n1, .inl g)) (srcPos := sp) (destPos := dp) (n := n) (by rw [hT]; exact hc0) (by rw [hT]; exact hc1)
    (fun _ h => by cases h) (fun _ h => by cases h) (fun h => by cases h) (fun h => by cases h) hk0 hk1 hkk0 hkk1 (by simp [refKind]) h1 h2 h3
    (by show ¬ _ > ((arrV cA n0 (fun j => .int (f j))).slots.size : Int); rw [arrV_size]; omega)
    (by show ¬ _ > ((arrV cA n1 (fun j => .int (g j))).slots.size : Int); rw [arrV_size]; omega)
    (fun vm₁ _ i hi => by
      have e : (vp_cell cA (n0, .inl f)).slots.getD (sp.toNatClampNeg + i) .null = .int (f (sp.toNatClampNeg + i)) := by
        show (arrV cA n0 (fun j => .int (f j))).slots.getD _ _ = _
        rw [Array.getD_eq_getD_getElem?, arrV_read _ _ (by omega)]
        rfl
      rw [e]
      exact ⟨rfl, trivial⟩)
    (g := F0 m pc ls (.int n :: .int dp :: .ref a :: .int sp :: .ref a0 :: rest)) rfl (by rw [hml]) (rest := rest) rfl (by rw [hb]; exact hdg) hframes (by show 2 * 0 + _ + _ ≤ _; omega)
  have ec : copied (vp_cell cA (n0, .inl f)) (vp_cell cA (n1, .inl g)) sp dp n = vp_cell cA (n1, .inl (va_cpy f g sp.toNatClampNeg dp.toNatClampNeg n.toNatClampNeg)) := va_copied (fun z => .int z) cA cA f g (by omega)
  rw [ec] at X' step
  have hl : a < H.size := (Array.getElem?_eq_some_iff.mp hc1).1
  have hheap : ((T.setVm vm').setCell a (vp_cell cA (n1, .inl (va_cpy f g sp.toNatClampNeg dp.toNatClampNeg n.toNatClampNeg)))).heap = H.setIfInBounds a (vp_cell cA (n1, .inl (va_cpy f g sp.toNatClampNeg dp.toNatClampNeg n.toNatClampNeg))) := by rw [← hT]; rfl
  have oq : ∀ q : Nat, q ≠ a → (H.setIfInBounds a (vp_cell cA (n1, .inl (va_cpy f g sp.toNatClampNeg dp.toNatClampNeg n.toNatClampNeg))))[q]? = H[q]? := fun q hq => by simp [Array.getElem?_setIfInBounds, Ne.symm hq]
  obtain ⟨t, a1, b1⟩ := kk _ _ (va_cpy f g sp.toNatClampNeg dp.toNatClampNeg n.toNatClampNeg) (show (H.setIfInBounds a _)[a]? = some _ by simp [Array.getElem?_setIfInBounds, hl]) oq ⟨by simp; exact hS.1, fun q g1 g2 => by
      rw [oq q (fun e => g2 (by rw [e]; exact hA))]
      exact hS.2.1 q g1 g2, fun q hq => by
      rcases List.mem_append.mp hq with h | h
      · exact hS.2.2 q h
      · obtain ⟨z, -, hz⟩ := List.mem_map.mp h
        rw [← hz]
        exact hA⟩ _ hheap X'
  exact ⟨t, step t a1, b1⟩
/-- a reference put into an array of references -/
theorem th_aast (hexec : p.tables.exec = Jvm.exec) (hb : c.code = cc) (hK : va_K D vwCl tys s) {cA : ClassId} {n v ci : Nat} {rr : vw_C} {vs : List Value} {f : Nat → Option Nat} (hO : va_at D vwCl (a, .inl (cA, n, .inr (.inr (.inr (.inr f))))) H) (t0 : Nat) (ht : tys[t0]? = some (cA, .object rr.1)) (hV : va_at D vwCl (v, .inr (ci, vs)) H) (hc : vwCl[ci]? = some rr) (hS : va_S A H0 H locs) (hA : A a) {i : Int32} (hin : vp_in i n) (hdg : decode cc pc = .ok (.aastore, 1))
    (kk : ∀ (H1 : Heap) (locs1 : List Loc), va_at D vwCl (a, .inl (cA, n, .inr (.inr (.inr (.inr (va_up f i.toNatClampNeg (some v))))))) H1 → (∀ q : Nat, q ≠ a → H1[q]? = H[q]?) → va_S A H0 H1 locs1 → W p l e R s m args below meth c H1 locs1 cells slots Q (F0 m (pc + 1) ls rest)) : W p l e R s m args below meth c H locs cells slots Q (F0 m pc ls (.ref v :: .int i :: .ref a :: rest)) := by
  have hlt : i.toNatClampNeg < n := Nat.not_le.mp fun q => hin (Or.inr q)
  have h0 : ¬ i < 0 := fun q => hin (Or.inl q)
  have hcell : H[a]? = some (vp_cell cA (n, .inr (.inr (.inr (.inr f))))) := hO
  obtain ⟨r', hr', cellV, g1, g2, g3, -⟩ := hV
  have hcls := (hK.1 ci rr hc).2
  obtain ⟨kA, comp, k1, k2, k3, -⟩ := (hK.2 t0 _ ht).2
  have hcomp : comp = D.1 ci := Option.some.inj (k3.symm.trans hcls.1)
  subst hcomp
  obtain ⟨kC, hkC, -⟩ := hcls.2
  refine W.aast hexec hb hcell (fun q h => by cases h) (fun h => by cases h) k1 k2 rfl hkC ⟨h0, by show _ < (arrV _ _ _).slots.size; rw [arrV_size]; exact hlt⟩ g1 (fun q h => by rw [g3] at h; cases h) (by rw [g2]; exact hkC) (by rw [g2]; exact va_assign hcls) rfl rfl hdg fun H1 e z oq => ?_
  refine kk H1 _ ?_ oq (hS.put z oq hA)
  show H1[a]? = some (vp_cell _ _)
  rw [e]
  rw [vp_cell_q, vp_cell_q, arrV_store]
  congr 2
  funext q
  by_cases hq : q = i.toNatClampNeg
  · subst hq
    simp [updV, va_up, va_rf]
  · simp [updV, va_up, hq]
theorem th_aastN (hexec : p.tables.exec = Jvm.exec) (hb : c.code = cc) (hK : va_K D vwCl tys s) {cA : ClassId} {n : Nat} {C : String} {f : Nat → Option Nat} (hO : va_at D vwCl (a, .inl (cA, n, .inr (.inr (.inr (.inr f))))) H) (t0 : Nat) (ht : tys[t0]? = some (cA, .object C)) (hS : va_S A H0 H locs) (hA : A a) {i : Int32} (hin : vp_in i n) (hdg : decode cc pc = .ok (.aastore, 1))
    (kk : ∀ (H1 : Heap) (locs1 : List Loc), va_at D vwCl (a, .inl (cA, n, .inr (.inr (.inr (.inr (va_up f i.toNatClampNeg none)))))) H1 → (∀ q : Nat, q ≠ a → H1[q]? = H[q]?) → va_S A H0 H1 locs1 → W p l e R s m args below meth c H1 locs1 cells slots Q (F0 m (pc + 1) ls rest)) : W p l e R s m args below meth c H locs cells slots Q (F0 m pc ls (.null :: .int i :: .ref a :: rest)) := by
  have hcell : H[a]? = some (vp_cell cA (n, .inr (.inr (.inr (.inr f))))) := hO
  refine va_WaastN (C := C) hexec hb hcell ((hK.2 t0 _ ht).1 n (fun j => va_rf (f j))) (fun h => by cases h) (by show ¬ (i < 0 ∨ (arrV _ _ _).slots.size ≤ _); rw [arrV_size]; exact hin) rfl rfl hdg fun H1 e z oq => ?_
  refine kk H1 _ ?_ oq (hS.put z oq hA)
  show H1[a]? = some (vp_cell _ _)
  rw [e]
  rw [vp_cell_q, vp_cell_q, arrV_store]
  congr 2
  funext q
  by_cases hq : q = i.toNatClampNeg
  · subst hq
    simp [updV, va_up, va_rf]
  · simp [updV, va_up, hq]
theorem th_aretq {Qc : Array Value → State → Outcome → State → Prop} {free : Addr → Prop} {r : Option Nat} {C : String} (hexec : p.tables.exec = Jvm.exec) (hb : c.code = cc) (hr : meth.sig.returnType = some (.object C)) (hq : ∀ t : State, t.heap = H → s.WarmedH t.vm → Qc args s (.returned (some (va_rf r))) t) (hf : ∀ q ∈ locs, free q.base) (hdg : decode cc pc = .ok (.areturn, 1)) (hlocks : meth.locks = false) : W p l e R s m args below meth c H locs cells slots (MQ below Qc args s cells slots free) (F0 m pc ls [va_rf r]) :=
  W.aret hexec hb hr (Or.inl ⟨C, rfl⟩) (by cases r with | none => exact Or.inl rfl | some q => exact Or.inr ⟨q, rfl⟩) hq hf hdg hlocks
end THW
section IV
variable {x y z : Int32} {X Y : Int}
theorem iv_lt (hx : x.toInt = X) (hy : y.toInt = Y) (h : x < y) : X < Y := by have := Int32.lt_iff_toInt_lt.mp h; omega
theorem iv_le (hx : x.toInt = X) (hy : y.toInt = Y) (h : x ≤ y) : X ≤ Y := by have := Int32.le_iff_toInt_le.mp h; omega
theorem iv_nlt (hx : x.toInt = X) (hy : y.toInt = Y) (h : ¬ x < y) : Y ≤ X := by have := mt Int32.lt_iff_toInt_lt.mpr h; omega
theorem iv_nle (hx : x.toInt = X) (hy : y.toInt = Y) (h : ¬ x ≤ y) : Y < X := by have := mt Int32.le_iff_toInt_le.mpr h; omega
theorem iv_eq (hx : x.toInt = X) (hy : y.toInt = Y) (h : x = y) : X = Y := by subst h; omega
theorem iv_ne (hx : x.toInt = X) (hy : y.toInt = Y) (h : ¬ x = y) : X ≠ Y := fun q => h (Int32.toInt_inj.mp (by omega))
theorem iv_add (hx : x.toInt = X) (hy : y.toInt = Y) (e : z = x + y) (h1 : -2147483648 ≤ X + Y) (h2 : X + Y ≤ 2147483647) : z.toInt = X + Y := by
  rw [e, Int32.toInt_add, hx, hy]
  exact rg_bm h1 h2
theorem iv_sub (hx : x.toInt = X) (hy : y.toInt = Y) (e : z = x - y) (h1 : -2147483648 ≤ X - Y) (h2 : X - Y ≤ 2147483647) : z.toInt = X - Y := by
  rw [e, Int32.toInt_sub, hx, hy]
  exact rg_bm h1 h2
theorem iv_mul (hx : x.toInt = X) (hy : y.toInt = Y) (e : z = x * y) (h1 : -2147483648 ≤ X * Y) (h2 : X * Y ≤ 2147483647) : z.toInt = X * Y := by
  rw [e, Int32.toInt_mul, hx, hy]
  exact rg_bm h1 h2
theorem iv_in {n : Nat} (hx : x.toInt = X) (h1 : 0 ≤ X) (h2 : X < (n : Int)) : vp_in x n := vp_in_iff.mpr ⟨by omega, by omega⟩
theorem iv_lo (x : Int32) : -2147483648 ≤ x.toInt := (rg_any x).1
theorem iv_hi (x : Int32) : x.toInt ≤ 2147483647 := (rg_any x).2
end IV
theorem iv_max {x y z : Int32} (e : z = if x < y then y else x) : x.toInt ≤ z.toInt ∧ y.toInt ≤ z.toInt ∧ (z.toInt = x.toInt ∨ z.toInt = y.toInt) := by
  by_cases h : x < y
  · rw [if_pos h] at e
    subst e
    have := iv_lt rfl rfl h
    exact ⟨by omega, by omega, Or.inr rfl⟩
  · rw [if_neg h] at e
    subst e
    have := iv_nlt rfl rfl h
    exact ⟨by omega, by omega, Or.inl rfl⟩
theorem iv_min {x y z : Int32} (e : z = if y < x then y else x) : z.toInt ≤ x.toInt ∧ z.toInt ≤ y.toInt ∧ (z.toInt = x.toInt ∨ z.toInt = y.toInt) := by
  by_cases h : y < x
  · rw [if_pos h] at e
    subst e
    have := iv_lt rfl rfl h
    exact ⟨by omega, by omega, Or.inr rfl⟩
  · rw [if_neg h] at e
    subst e
    have := iv_nlt rfl rfl h
    exact ⟨by omega, by omega, Or.inl rfl⟩
theorem th_cl {x : Int32} {X : Int} {n : Nat} (hx : x.toInt = X) (h1 : 0 ≤ X) (h2 : X < (n : Int)) : x.toNatClampNeg < n := Nat.not_le.mp fun q => iv_in hx h1 h2 (Or.inr q)
theorem iv_andr {x m z : Int32} {M : Int} (e : z = x &&& m) (hm : m.toInt = M) (h0 : 0 ≤ M) : 0 ≤ z.toInt ∧ z.toInt ≤ M := by
  have h1 : (x &&& m).toBitVec.toNat ≤ m.toBitVec.toNat := by
    rw [Int32.toBitVec_and, BitVec.toNat_and]
    exact Nat.and_le_right
  have h2 : m.toBitVec.toInt = M := hm
  have h3 : z.toInt = (x &&& m).toBitVec.toInt := by rw [e]; rfl
  rw [BitVec.toInt_eq_toNat_cond] at h2 h3
  have h4 := m.toBitVec.isLt
  split at h2 <;> split at h3 <;> omega
theorem iv_andl {x m z : Int32} {M : Int} (e : z = m &&& x) (hm : m.toInt = M) (h0 : 0 ≤ M) : 0 ≤ z.toInt ∧ z.toInt ≤ M := by
  have h1 : (m &&& x).toBitVec.toNat ≤ m.toBitVec.toNat := by
    rw [Int32.toBitVec_and, BitVec.toNat_and]
    exact Nat.and_le_left
  have h2 : m.toBitVec.toInt = M := hm
  have h3 : z.toInt = (m &&& x).toBitVec.toInt := by rw [e]; rfl
  rw [BitVec.toInt_eq_toNat_cond] at h2 h3
  have h4 := m.toBitVec.isLt
  split at h2 <;> split at h3 <;> omega
theorem iv_nat {x : Int32} {X : Int} (hx : x.toInt = X) (h0 : 0 ≤ X) : ∃ j : Nat, j < 2 ^ 31 ∧ x = nI j ∧ X = (j : Int) := by
  obtain ⟨j, hj, e⟩ := nI_of (x := x) (fun h => by have := iv_lt (Y := 0) hx (by decide) h; omega)
  exact ⟨j, hj, e, by rw [← hx, e, nI_toInt hj]⟩
theorem iv_remp {x y z : Int32} {X Y : Int} (hx : x.toInt = X) (hy : y.toInt = Y) (e : z = x - x / y * y) (h : 0 < Y) (h0 : 0 ≤ X) : z.toInt = X % Y := by
  obtain ⟨j, hj, rfl, rfl⟩ := iv_nat hx h0
  obtain ⟨d, hd, rfl, rfl⟩ := iv_nat hy (Int.le_of_lt h)
  have hd0 : 0 < d := by omega
  rw [e, pk_rem hj hd0 hd, nI_toInt (Nat.lt_of_le_of_lt (Nat.mod_le _ _) hj)]
  exact Int.natCast_emod j d
theorem iv_divp {x y z : Int32} {X Y : Int} (hx : x.toInt = X) (hy : y.toInt = Y) (e : z = x / y) (h : 0 < Y) (h0 : 0 ≤ X) : z.toInt = X / Y := by
  obtain ⟨j, hj, rfl, rfl⟩ := iv_nat hx h0
  obtain ⟨d, hd, rfl, rfl⟩ := iv_nat hy (Int.le_of_lt h)
  have hd0 : 0 < d := by omega
  rw [e, pk_div hj hd0 hd, nI_toInt (Nat.lt_of_le_of_lt (Nat.div_le_self _ _) hj)]
  exact Int.natCast_ediv j d
theorem iv_cmp {x y : Int64} {z : Int32} (e : z = lg_cmp x y) : (z.toInt = 1 ∧ y < x) ∨ (z.toInt = 0 ∧ x = y) ∨ (z.toInt = -1 ∧ ¬ y < x ∧ ¬ x = y) := by
  by_cases h1 : y < x
  · have e1 : lg_cmp x y = 1 := by simp [lg_cmp, h1]
    exact Or.inl ⟨by rw [e, e1]; decide, h1⟩
  · by_cases h2 : x = y
    · have e1 : lg_cmp x y = 0 := by subst h2; simp [lg_cmp]
      exact Or.inr (Or.inl ⟨by rw [e, e1]; decide, h2⟩)
    · have e1 : lg_cmp x y = -1 := by simp [lg_cmp, h1, h2]
      exact Or.inr (Or.inr ⟨by rw [e, e1]; decide, h1, h2⟩)
theorem iv_cmp0 {x y : Int64} {z : Int32} (e : z = lg_cmp x y) (hx : x = 0) (hy : y = 0) : z.toInt = 0 := by
  subst hx; subst hy; subst e
  decide
