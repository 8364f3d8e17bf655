theorem rd_at {f : Nat → Int32} {x i : Int32} {p : Nat} (e : x = f i.toNatClampNeg) (hi : i.toInt = (p : Int)) : x.toInt = (f p).toInt := by
  have : i.toNatClampNeg = p := by show i.toInt.toNat = p; omega
  rw [e, this]
theorem i32_1 {r : Int32} (h : r.toInt = 1) : r = 1 := Int32.toInt_inj.mp (by rw [h]; decide)
theorem i32_0 {r : Int32} (h : r.toInt = 0) : r = 0 := Int32.toInt_inj.mp (by rw [h]; decide)
theorem pd_dp1 {f : List Nat} : pd_dp (1 :: f) = pd_dp f := by first | (simp [pd_dp]; done) | (show 0 + pd_dp f = _; omega)
theorem pd_dp2 {f : List Nat} : pd_dp (2 :: f) = pd_dp f := by first | (simp [pd_dp]; done) | (show 0 + pd_dp f = _; omega)
theorem pd_dp3 {f : List Nat} : pd_dp (3 :: f) = pd_dp f + 1 := by first | (simp [pd_dp, Nat.add_comm]; done) | (show 1 + pd_dp f = _; omega)
theorem pd_dp4 {f : List Nat} : pd_dp (4 :: f) = pd_dp f + 1 := by first | (simp [pd_dp, Nat.add_comm]; done) | (show 1 + pd_dp f = _; omega)
/-! ===== the reference's reading, exactly ===== -/
def YV (va : Nat → Int32) (j : Nat) : Bool := decide ((va j).toInt ≤ 1000)
theorem YV_t {va : Nat → Int32} {j : Nat} : YV va j = true ↔ (va j).toInt ≤ 1000 := by unfold YV; exact decide_eq_true_iff
noncomputable abbrev RR (cd va : Nat → Int32) (TT : Nat) (c : pd_C) (p : Nat) : Nat × Bool := pd_R (rC cd TT) (YV va) TT c p
def IV (cd va pl : Nat → Int32) (TT : Nat) (XX : Nat × Bool) (c : pd_C) (p : Nat) (b : Int32) : Prop := (b.toInt = -1 ∧ RR cd va TT c p = XX) ∨ (b.toInt ≠ -1 ∧ XX.2 = false ∧ b.toInt = (pl XX.1).toInt)
section IVR
variable {cd va pl : Nat → Int32} {TT p p' n L : Nat} {XX : Nat × Bool} {c c' : pd_C} {b b2 : Int32} {f : List Nat}
theorem IV.go (h : IV cd va pl TT XX c p b) (hs : b.toInt = -1 → RR cd va TT c p = RR cd va TT c' p') : IV cd va pl TT XX c' p' b := by
  rcases h with ⟨a, h⟩ | h
  · exact Or.inl ⟨a, (hs a).symm.trans h⟩
  · exact Or.inr h
theorem IV.bad (h : IV cd va pl TT XX c p b) (hb : b.toInt ≠ -1) : IV cd va pl TT XX c' p' b := by
  rcases h with ⟨a, _⟩ | h
  · exact absurd a hb
  · exact Or.inr h
theorem IV.flt (h : IV cd va pl TT XX c p b) (hf : b.toInt = -1 → RR cd va TT c p = (p, false)) (hb : b2.toInt ≠ -1) (hd : (b.toInt = -1 ∧ b2.toInt = (pl p).toInt) ∨ (b.toInt ≠ -1 ∧ b2 = b)) : IV cd va pl TT XX c' p' b2 := by
  rcases h with ⟨a, h⟩ | ⟨a, h⟩
  · rcases hd with ⟨_, d⟩ | ⟨d, _⟩
    · have e := (hf a).symm.trans h
      exact Or.inr ⟨hb, by rw [← e], by rw [← e]; exact d⟩
    · exact absurd a d
  · rcases hd with ⟨d, _⟩ | ⟨_, d⟩
    · exact absurd d a
    · rw [d]; exact Or.inr ⟨a, h⟩
/-- what a must leaves behind -/
def MU (cd pl : Nat → Int32) (TT : Nat) (x : Int) (p : Nat) (b : Int32) (p2 : Nat) (b2 : Int32) : Prop := (b2.toInt = -1 ∧ b.toInt = -1 ∧ rC cd TT p = x ∧ p2 = p + 1) ∨ (b2.toInt ≠ -1 ∧ ((b.toInt = -1 ∧ rC cd TT p ≠ x ∧ b2.toInt = (pl p).toInt) ∨ (b.toInt ≠ -1 ∧ b2 = b)))
theorem MU.i {x : Int} {p2 : Nat} (h : MU cd pl TT x p b p2 b2) : b2.toInt = -1 → b.toInt = -1 ∧ rC cd TT p = x ∧ p2 = p + 1 := fun e => by
  rcases h with ⟨_, h⟩ | ⟨h, _⟩
  · exact h
  · exact absurd e h
theorem IV.must {x : Int} {p2 : Nat} (h : IV cd va pl TT XX c p b) (hm : MU cd pl TT x p b p2 b2) (hy : b.toInt = -1 → rC cd TT p = x → RR cd va TT c p = RR cd va TT c' (p + 1)) (hn : b.toInt = -1 → rC cd TT p ≠ x → RR cd va TT c p = (p, false)) : IV cd va pl TT XX c' p2 b2 := by
  rcases hm with ⟨e, a, d, q⟩ | ⟨e, hd⟩
  · rw [q]
    have h9 := h.go (fun z => hy z d)
    rcases h9 with ⟨z, h9⟩ | ⟨z, _⟩
    · exact Or.inl ⟨e, h9⟩
    · exact absurd a z
  · rcases hd with ⟨a, d, q⟩ | ⟨a, q⟩
    · exact h.flt (fun z => hn z d) e (Or.inl ⟨a, q⟩)
    · rw [q]; exact h.bad a
theorem rC_le {j : Nat} (h : rC cd TT j ≠ 0) : j < TT := rC_lt h
-- the steps, as the reference's codes say them
theorem st_lf (h1 : p < TT) (h2 : (rC cd TT p = 50 ∧ (va p).toInt ≤ 1000) ∨ (9 ≤ rC cd TT p ∧ rC cd TT p ≤ 17)) (hL : L < 50) : RR cd va TT (1, f, n, L) p = RR cd va TT (2, f, n, L + 1) (p + 1) := pd_E_lf h1 (h2.imp (fun z => ⟨z.1, YV_t.mpr z.2⟩) id) hL
theorem st_lf50 (h2 : (rC cd TT p = 50 ∧ (va p).toInt ≤ 1000) ∨ (9 ≤ rC cd TT p ∧ rC cd TT p ≤ 17)) (hL : L = 50) : RR cd va TT (1, f, n, L) p = (p, false) := pd_E_no (fun _ h => by omega) (fun _ _ => by omega)
theorem st_E_no (h1 : rC cd TT p = 191 → 8 ≤ pd_dp f) (h2 : ¬ ((rC cd TT p = 50 ∧ (va p).toInt ≤ 1000) ∨ (9 ≤ rC cd TT p ∧ rC cd TT p ≤ 17))) : RR cd va TT (1, f, n, L) p = (p, false) := pd_E_no (fun _ => h1) (fun _ h => absurd (h.imp (fun z => ⟨z.1, YV_t.mp z.2⟩) id) h2)
end IVR
def RX (E : Nat → Nat) (D : va_G) (G : th_G) (h0 : Nat) (ff cd va pl : Nat → Int32) (TT pp : Nat) (bb : Int32) (LL : Nat) (H : Heap) : Prop := RD E D G h0 ff cd TT pp bb H ∧ ga E D G h0 13 (0, 401) va H ∧ ga E D G h0 14 (6, 401) pl H ∧ (∀ j : Nat, j < 401 → 0 ≤ (pl j).toInt ∧ (pl j).toInt ≤ 400) ∧ (∃ z, gf D h0 17 z H ∧ z.toInt = (LL : Int)) ∧ LL ≤ 51 ∧ (bb.toInt = -1 → LL ≤ 50)
theorem tp_at {E : Nat → Nat} {f : Nat → Int32} {i x : Int32} {p : Nat} (h : ∀ j : Nat, j < 400 → tp_s (f j).toInt (tB E j)) (e : x = f i.toNatClampNeg) (hi : i.toInt = (p : Int)) (hp : p < 400) : (x.toInt = (tB E p : Int) ∧ tB E p < 128) ∨ (x.toInt = (tB E p : Int) - 256 ∧ 128 ≤ tB E p ∧ tB E p ≤ 255) := by
  rw [rd_at e hi]
  exact h p hp
def tk_O (k : Nat) : Nat := [0, 6, 12, 18, 23, 26, 29, 33, 37, 42, 47, 51, 58, 65, 71, 79, 84, 89].getD k 89
theorem wd_T : ∀ k : Nat, k < 17 → tk_O (k + 1) = tk_O k + tk_wl k + 1 ∧ tk_O k + tk_wl k < 89 ∧ 1 ≤ tk_wl k ∧ tk_wl k ≤ 7 ∧ tk_F.getD (tk_O k + tk_wl k) 0 = 32 ∧ ∀ x : Nat, x < tk_wl k → tk_F.getD (tk_O k + x) 0 = tk_wc k x ∧ 97 ≤ tk_wc k x ∧ tk_wc k x ≤ 122 := by decide +kernel
theorem wd_O17 : tk_O 17 = 89 := rfl
theorem wd_at {f : Nat → Int32} {i x : Int32} {p : Nat} (h : ∀ j : Nat, j < 89 → (f j).toInt = ((tk_F.getD j 0 : Nat) : Int)) (e : x = f i.toNatClampNeg) (hi : i.toInt = (p : Int)) (hp : p < 89) : x.toInt = ((tk_F.getD p 0 : Nat) : Int) := by
  rw [rd_at e hi]
  exact h p hp
theorem wd_e18 {k n : Nat} (hk : k < 17) (hn : n ≤ tk_wl k) : (n < tk_wl k ∧ 97 ≤ tk_F.getD (tk_O k + n) 0) ∨ (n = tk_wl k ∧ tk_F.getD (tk_O k + n) 0 = 32) := by
  obtain ⟨_, _, _, _, h5, h6⟩ := wd_T k hk
  by_cases e : n = tk_wl k
  · exact Or.inr ⟨e, by rw [e]; exact h5⟩
  · have h7 := h6 n (by omega)
    exact Or.inl ⟨by omega, by rw [h7.1]; exact h7.2.1⟩
def WM_ (B : Nat → Nat) (i e k n : Nat) (same : Int) : Prop := (same = 1 ∧ e = i + tk_wl k ∧ ∀ x : Nat, x < n → B (i + x) = tk_wc k x) ∨ (same = 0 ∧ ¬ tk_m B i e k)
theorem WM_.ini {B : Nat → Nat} {i e k : Nat} (h : e = i + tk_wl k) : WM_ B i e k 0 1 := Or.inl ⟨rfl, h, fun _ z => absurd z (Nat.not_lt_zero _)⟩
theorem WM_.no {B : Nat → Nat} {i e k n : Nat} (h : e ≠ i + tk_wl k) : WM_ B i e k n 0 := Or.inr ⟨rfl, fun z => h z.1⟩
theorem WM_.yes {B : Nat → Nat} {i e k n : Nat} {s : Int} (h : WM_ B i e k n s) (hs : s ≠ 0) (hb : B (i + n) = tk_wc k n) : WM_ B i e k (n + 1) 1 := by
  rcases h with ⟨a, b, c⟩ | ⟨a, _⟩
  · refine Or.inl ⟨rfl, b, fun x hx => ?_⟩
    by_cases q : x = n
    · rw [q]; exact hb
    · exact c x (by omega)
  · exact absurd a hs
theorem WM_.dif {B : Nat → Nat} {i e k n : Nat} (hn : n < tk_wl k) (hb : B (i + n) ≠ tk_wc k n) : WM_ B i e k (n + 1) 0 := Or.inr ⟨rfl, fun z => hb (z.2 n hn)⟩
theorem WM_.len {B : Nat → Nat} {i e k n : Nat} {s : Int} (h : WM_ B i e k n s) (hs : s ≠ 0) : e = i + tk_wl k := by
  rcases h with ⟨_, b, _⟩ | ⟨a, _⟩
  · exact b
  · exact absurd a hs
theorem WM_.done {B : Nat → Nat} {i e k n : Nat} {s : Int} (h : WM_ B i e k n s) (hs : s ≠ 0) (hn : tk_wl k ≤ n) : tk_m B i e k := by
  rcases h with ⟨_, b, c⟩ | ⟨a, _⟩
  · exact ⟨b, fun x hx => c x (by omega)⟩
  · exact absurd a hs
theorem WM_.not {B : Nat → Nat} {i e k n : Nat} {s : Int} (h : WM_ B i e k n s) (hs : s = 0) : ¬ tk_m B i e k := by
  rcases h with ⟨a, _⟩ | ⟨_, b⟩
  · omega
  · exact b
theorem tk_nx {B : Nat → Nat} {i e k : Nat} (h : ∀ k' : Nat, k' < k → ¬ tk_m B i e k') (h2 : ¬ tk_m B i e k) : ∀ k' : Nat, k' < k + 1 → ¬ tk_m B i e k' := fun k' z => by
  by_cases q : k' = k
  · rw [q]; exact h2
  · exact h k' (by omega)
theorem up_ne {f : Nat → Int32} {i v : Int32} {t j : Nat} (hi : i.toInt = (t : Int)) (hj : j ≠ t) : upd f i.toNatClampNeg v j = f j := by
  have : i.toNatClampNeg = t := by show i.toInt.toNat = t; omega
  rw [this, pk_un hj]
theorem up_at {f : Nat → Int32} {i v : Int32} {t : Nat} (hi : i.toInt = (t : Int)) : upd f i.toNatClampNeg v t = v := by
  have : i.toNatClampNeg = t := by show i.toInt.toNat = t; omega
  rw [this, pk_us]
theorem tk_I.upd {B : Nat → Nat} {N k t : Nat} {P Z P' Z' : Nat → Int} {Y Y' : Nat → Bool} (h : tk_I B N P Z Y k t) (ho : ∀ j, j ≠ t → P' j = P j ∧ Z' j = Z j ∧ Y' j = Y j) : tk_I B N P' Z' Y' k t := by
  obtain ⟨h1, h2, h3, h4⟩ := h
  refine ⟨h1, h2, h3, fun i hi s => ?_⟩
  have hl := tk_less hi s
  obtain ⟨a, b, c⟩ := ho (tk_c B i) (by omega)
  rw [a, b, c]
  exact h4 i hi s
theorem tk_I.le {B : Nat → Nat} {N k t : Nat} {P Z : Nat → Int} {Y : Nat → Bool} (h : tk_I B N P Z Y k t) : t ≤ k ∧ k ≤ N := ⟨by rw [h.1]; exact tk_le k, h.2.1⟩
abbrev TI_ (E : Nat → Nat) (N : Nat) (pl cd va : Nat → Int32) (k t : Nat) : Prop := tk_I (tB E) N (fun j => (pl j).toInt) (fun j => (cd j).toInt) (YV va) k t
theorem YV_ne {f : Nat → Int32} {i v : Int32} {t j : Nat} (hi : i.toInt = (t : Int)) (hj : j ≠ t) : YV (upd f i.toNatClampNeg v) j = YV f j := by
  unfold YV
  rw [up_ne hi hj]
/-- the value so far of a number -/
def VI (E : Nat → Nat) (N k e i : Nat) (v : Int) : Prop := 0 ≤ v ∧ v ≤ 10000009 ∧ (tk_dg (tB E k) → tk_rd (tB E) N k e ∧ ((v = (tk_v (tB E) k (i - k) : Int)) ∨ (1000000 < v ∧ 1000000 < tk_v (tB E) k (i - k))))
theorem VI.ini {E : Nat → Nat} {N k e : Nat} (h : tk_dg (tB E k) → tk_rd (tB E) N k e) : VI E N k e k 0 := ⟨by omega, by omega, fun z => ⟨h z, Or.inl (by rw [Nat.sub_self]; rfl)⟩⟩
theorem VI.big {E : Nat → Nat} {N k e i : Nat} {v : Int} (h : VI E N k e i v) (hi : k ≤ i) (hv : 1000000 < v) : VI E N k e (i + 1) v := by
  obtain ⟨a, b, c⟩ := h
  refine ⟨a, b, fun z => ⟨(c z).1, Or.inr ⟨hv, ?_⟩⟩⟩
  rw [tk_v1 hi]
  rcases (c z).2 with c | ⟨_, c⟩ <;> omega
theorem VI.add {E : Nat → Nat} {N k e i : Nat} {v d : Int} (h : VI E N k e i v) (hi : k ≤ i) (hie : i < e) (hv : v ≤ 1000000) (hd : d = (tB E i : Int)) (hg : tk_dg (tB E k)) : VI E N k e (i + 1) (10 * v + d - 48) := by
  obtain ⟨a, b, c⟩ := h
  obtain ⟨c1, c2⟩ := c hg
  have g := c1.2.2.1 i hi hie
  unfold tk_dg at g
  refine ⟨by omega, by omega, fun _ => ⟨c1, ?_⟩⟩
  rw [tk_v1 hi]
  rcases c2 with c2 | ⟨c2, _⟩
  · exact Or.inl (by omega)
  · omega
theorem VI.y {E : Nat → Nat} {N k e i t : Nat} {va : Nat → Int32} (h : VI E N k e i (va t).toInt) (hi : tk_dg (tB E k) → i = e) : tk_y (tB E) N k (YV va t) := fun z => by
  obtain ⟨c1, c2⟩ := h.2.2 z
  refine ⟨e, c1, ?_⟩
  rw [hi z] at c2
  rw [YV_t]
  rcases c2 with c2 | c2 <;> omega
theorem wd_O {k : Nat} (h : k ≤ 17) : (k < 17 ∧ tk_O k < 89) ∨ (k = 17 ∧ tk_O k = 89) := by
  by_cases e : k = 17
  · exact Or.inr ⟨e, by rw [e]; rfl⟩
  · have := wd_T k (by omega)
    exact Or.inl ⟨by omega, by omega⟩
theorem and255_all : ∀ n : Fin 256, ((Int32.ofInt (if n.val < 128 then (n.val : Int) else (n.val : Int) - 256)) &&& 255).toInt = (n.val : Int) := by decide +kernel
theorem and255 {x z : Int32} {n : Nat} (h : (x.toInt = (n : Int) ∧ n < 128) ∨ (x.toInt = (n : Int) - 256 ∧ 128 ≤ n ∧ n ≤ 255)) (e : z = x &&& 255) : z.toInt = (n : Int) := by
  have hn : n < 256 := by omega
  have q := and255_all ⟨n, hn⟩
  have hx : x = Int32.ofInt (if n < 128 then (n : Int) else (n : Int) - 256) := by
    rw [← Int32.ofInt_toInt x]
    congr 1
    rcases h with ⟨a, b⟩ | ⟨a, b, c⟩
    · rw [if_pos b]; exact a
    · rw [if_neg (by omega)]; exact a
  rw [e, hx]
  exact q
theorem pd_F_le {Z : Nat → Int} {Y : Nat → Bool} {T : Nat} : ∀ (n : Nat) (c : pd_C) (p : Nat), (pd_F Z Y T n c p).1 ≤ p + n
  | 0, _, _ => Nat.le_refl _
  | n + 1, c, p => by
    show (match pd_S (Z p) (Y p) c with | some c' => pd_F Z Y T n c' (p + 1) | none => (p, false)).1 ≤ p + (n + 1)
    cases pd_S (Z p) (Y p) c with
    | none => exact Nat.le_add_right _ _
    | some c' => have := pd_F_le (Z := Z) (Y := Y) (T := T) n c' (p + 1); show (pd_F Z Y T n c' (p + 1)).1 ≤ _; omega
theorem pd_R_le {Z : Nat → Int} {Y : Nat → Bool} {T p : Nat} {c : pd_C} (hp : p ≤ T) : (pd_R Z Y T c p).1 ≤ T := by
  have := pd_F_le (Z := Z) (Y := Y) (T := T) (T - p) c p
  show (pd_F Z Y T (T - p) c p).1 ≤ T
  omega
theorem IV.no {cd va pl : Nat → Int32} {TT p : Nat} {XX : Nat × Bool} {c : pd_C} {b : Int32} (h : IV cd va pl TT XX c p b) (hb : b.toInt ≠ -1) : XX.2 = false ∧ b.toInt = (pl XX.1).toInt := by
  rcases h with ⟨a, _⟩ | ⟨_, h⟩
  · exact absurd a hb
  · exact h
theorem IV.yes {cd va pl : Nat → Int32} {TT p : Nat} {XX : Nat × Bool} {c : pd_C} {b : Int32} (h : IV cd va pl TT XX c p b) (hb : b.toInt = -1) : RR cd va TT c p = XX := by
  rcases h with ⟨_, h⟩ | ⟨a, _⟩
  · exact h
  · exact absurd hb a
theorem RR_cd {cd va : Nat → Int32} {TT p : Nat} {XX : Nat × Bool} {c : pd_C} (h : RR cd va TT c p = XX) : pd_R (fun j => (cd j).toInt) (YV va) TT c p = XX := (pd_R_same (fun j hj => ⟨by show (cd j).toInt = rC cd TT j; unfold rC; rw [if_pos hj], fun _ => rfl⟩)).trans h
theorem ga_E {E E' : Nat → Nat} {D : va_G} {G : th_G} {H : Heap} {M k : Nat} {kd : th_K} {f : Nat → Int32} (h : E' 0 = E 0) (x : ga E D G M k kd f H) : ga E' D G M k kd f H := by
  obtain ⟨q, a, b, c⟩ := x
  exact ⟨q, a, b, by rw [h]; exact c⟩
theorem LD_E {E E' : Nat → Nat} {D : va_G} {G : th_G} {H : Heap} {h0 : Nat} {ff : Nat → Int32} (h : E' 0 = E 0) (x : LD E D G h0 ff H) : LD E' D G h0 ff H := by
  obtain ⟨cd, TT, a, b, c, d⟩ := x
  exact ⟨cd, TT, a, ga_E h b, ga_E h c, d⟩
/-! ===== what a text comes to: whether it is a law, and the place at which its reading ends ===== -/
def OUTR (B : Nat → Nat) (N : Nat) (ok : Bool) (f : Int) : Prop := ∃ (TT q : Nat) (PP ZZ : Nat → Int) (YY : Nat → Bool), tk_I B N PP ZZ YY N TT ∧ PP TT = (N : Int) ∧ q ≤ TT ∧ pd_R ZZ YY TT (0, [], 0, 0) 0 = (q, ok) ∧ f = PP q
theorem OUTR_fun {B : Nat → Nat} {N : Nat} {ok ok' : Bool} {f f' : Int} (h : OUTR B N ok f) (h' : OUTR B N ok' f') : ok = ok' ∧ f = f' := by
  obtain ⟨TT, q, PP, ZZ, YY, a, b, c, d, e⟩ := h
  obtain ⟨TT', q', PP', ZZ', YY', a', b', c', d', e'⟩ := h'
  obtain ⟨hT, hs⟩ := tk_same a a'
  subst hT
  have hR := pd_R_same (T := TT') (c := (0, [], 0, 0)) (p := 0) (fun j hj => ⟨(hs j hj).2.1, (hs j hj).2.2⟩)
  have h9 := d'.symm.trans (hR.trans d)
  have hq : q' = q := congrArg Prod.fst h9
  have ho : ok' = ok := congrArg Prod.snd h9
  refine ⟨ho.symm, ?_⟩
  rw [e, e', hq]
  by_cases z : q < TT'
  · exact ((hs q z).1).symm
  · rw [show q = TT' by omega, b, b']
theorem OUTR_cg {B B' : Nat → Nat} {N : Nat} {ok : Bool} {f : Int} (hB : ∀ j : Nat, j < N → B' j = B j) (h : OUTR B N ok f) : OUTR B' N ok f := by
  obtain ⟨TT, q, PP, ZZ, YY, a, b, c, d, e⟩ := h
  exact ⟨TT, q, PP, ZZ, YY, tk_cg hB a, b, c, d, e⟩
/-! ===== what law() comes to ===== -/
theorem OUTR_nn {B : Nat → Nat} {N : Nat} {ok : Bool} {f : Int} (h : OUTR B N ok f) : 0 ≤ f := by
  obtain ⟨TT, q, PP, ZZ, YY, a, b, c, d, e⟩ := h
  rw [e]
  by_cases hq : q = TT
  · rw [hq, b]
    omega
  · obtain ⟨hT, _, _, hP⟩ := a
    obtain ⟨i, hi, hs, hc⟩ := tk_onto (B := B) N q (by omega)
    have h9 := (hP i hi hs).1
    rw [hc] at h9
    omega
noncomputable def lwo (B : Nat → Nat) (N : Nat) : Bool × Int := @dite (Bool × Int) (∃ p : Bool × Int, OUTR B N p.1 p.2) (Classical.propDecidable _) (fun h => Classical.choose h) (fun _ => (false, 0))
theorem lwo_eq {B : Nat → Nat} {N : Nat} {ok : Bool} {f : Int} (h : OUTR B N ok f) : lwo B N = (ok, f) := by
  have h1 : ∃ p : Bool × Int, OUTR B N p.1 p.2 := ⟨(ok, f), h⟩
  have h2 : lwo B N = Classical.choose h1 := dif_pos h1
  rw [h2]
  obtain ⟨a, b⟩ := OUTR_fun (Classical.choose_spec h1) h
  exact Prod.ext a b
theorem lwo_cg {B B' : Nat → Nat} {N : Nat} (hB : ∀ j : Nat, j < N → B' j = B j) : lwo B' N = lwo B N := by
  by_cases h : ∃ p : Bool × Int, OUTR B N p.1 p.2
  · obtain ⟨p, h⟩ := h
    rw [lwo_eq (ok := p.1) (f := p.2) h, lwo_eq (ok := p.1) (f := p.2) (OUTR_cg hB h)]
  · have h' : ¬ ∃ p : Bool × Int, OUTR B' N p.1 p.2 := fun ⟨p, z⟩ => h ⟨p, OUTR_cg (fun j hj => (hB j hj).symm) z⟩
    unfold lwo
    rw [dif_neg h', dif_neg h]
def lwF (o : Bool × Int) : Nat := if o.1 then 0 else (o.2 + 1).toNat
def lwR (c : Nat) (o : Bool × Int) : Int := if 48 ≤ c then -5 else if o.1 then ((c / 8 : Nat) : Int) else -6
noncomputable def mL (E : Nat → Nat) (z fs ss : Nat) (B : Nat → Nat) : Nat → Nat := eu (eu (eu E z 0) fs (if 48 ≤ E ss then E fs else lwF (lwo B (E z)))) ss (if 48 ≤ E ss then E ss else if (lwo B (E z)).1 then E ss + 8 else E ss)
section ML
variable {E : Nat → Nat} {z fs ss : Nat} {B : Nat → Nat} {f : Int}
theorem mL_full (h : 48 ≤ E ss) (h1 : fs ≠ z) (h2 : ss ≠ z) (h3 : ss ≠ fs) : mL E z fs ss B = eu E z 0 := by
  unfold mL
  rw [if_pos h, if_pos h, eu_id (E := eu E z 0) (by rw [eu_ne h1]), eu_id (by rw [eu_ne h2])]
theorem mL_no (h : E ss < 48) (hO : OUTR B (E z) false f) (h2 : ss ≠ z) (h3 : ss ≠ fs) : mL E z fs ss B = eu (eu E z 0) fs (f + 1).toNat := by
  unfold mL
  rw [lwo_eq hO, if_neg (by omega), if_neg (by omega)]
  show eu (eu (eu E z 0) fs (f + 1).toNat) ss (E ss) = _
  exact eu_id (by rw [eu_ne h3, eu_ne h2])
theorem mL_yes (h : E ss < 48) (hO : OUTR B (E z) true f) : mL E z fs ss B = eu (eu (eu E z 0) fs 0) ss (E ss + 8) := by
  unfold mL
  rw [lwo_eq hO, if_neg (by omega), if_neg (by omega)]
  rfl
theorem lwR_full {c : Nat} {o : Bool × Int} (h : 48 ≤ c) : lwR c o = -5 := if_pos h
theorem lwR_no {c N : Nat} (h : c < 48) (hO : OUTR B N false f) : lwR c (lwo B N) = -6 := by
  rw [lwo_eq hO]
  exact if_neg (by omega)
theorem lwR_yes {c N : Nat} (h : c < 48) (hO : OUTR B N true f) : lwR c (lwo B N) = ((c / 8 : Nat) : Int) := by
  rw [lwo_eq hO]
  exact if_neg (by omega)
theorem mL_ne {k : Nat} (h1 : k ≠ z) (h2 : k ≠ fs) (h3 : k ≠ ss) : mL E z fs ss B k = E k := by
  unfold mL
  rw [eu_ne h3, eu_ne h2, eu_ne h1]
theorem mL_z (h1 : z ≠ fs) (h2 : z ≠ ss) : mL E z fs ss B z = 0 := by
  unfold mL
  rw [eu_ne h2, eu_ne h1, eu_at]
theorem mL_cg {E' : Nat → Nat} {z' fs' ss' : Nat} {B' : Nat → Nat} (hz : E' z' = E z) (hf : E' fs' = E fs) (hs : E' ss' = E ss) (hB : ∀ j : Nat, j < E z → B' j = B j) (h3 : ss ≠ fs) (h3' : ss' ≠ fs') : mL E' z' fs' ss' B' fs' = mL E z fs ss B fs ∧ mL E' z' fs' ss' B' ss' = mL E z fs ss B ss := by
  have e := lwo_cg hB
  unfold mL
  rw [eu_ne (Ne.symm h3'), eu_at, eu_ne (Ne.symm h3), eu_at, eu_at, eu_at, hz, hf, hs, e]
  exact ⟨rfl, rfl⟩
end ML
