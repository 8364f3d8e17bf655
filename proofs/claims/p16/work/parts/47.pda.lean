/-! ===== a text read, one token a step: what both readers do ===== -/
-- frames: 0 a clause's sum, 1 a comparison's left sum, 2 its right sum, 3 a [, 4 a (, 5 a clause's test
-- modes: 0 a clause is to come, 1 a part is to come, 2 a part has been, 3 a plain test is to come, 4 one has been, 5 a clause has been
abbrev pd_C : Type := Nat × List Nat × Nat × Nat
def pd_dp : List Nat → Nat
  | [] => 0
  | a :: r => (if a = 3 ∨ a = 4 then 1 else 0) + pd_dp r
def pd_lf (z : Int) (y : Bool) : Prop := (z = 50 ∧ y = true) ∨ (9 ≤ z ∧ z ≤ 17)
def pd_op (z : Int) : Prop := z = 143 ∨ z = 145 ∨ z = 142 ∨ z = 147 ∨ z = 137
noncomputable def pd_if {α : Type} (P : Prop) (a b : α) : α := @ite α P (Classical.propDecidable P) a b
theorem pd_ift {α : Type} {P : Prop} {a b : α} (h : P) : pd_if P a b = a := if_pos h
theorem pd_iff {α : Type} {P : Prop} {a b : α} (h : ¬ P) : pd_if P a b = b := if_neg h
noncomputable def pd_E (z : Int) (y : Bool) (f : List Nat) (n L : Nat) : Option pd_C := pd_if (z = 191) (pd_if (pd_dp f < 8) (some (1, 3 :: f, n, L)) none) (pd_if (pd_lf z y) (pd_if (L < 50) (some (2, f, n, L + 1)) none) none)
noncomputable def pd_D (z : Int) (f : List Nat) (n L : Nat) : Option pd_C := match f with
  | 5 :: r => pd_if (z = 6 ∨ z = 7) (some (3, 5 :: r, n, L)) (pd_if (z = 159) (some (0, r, n, L)) none)
  | 4 :: r => pd_if (z = 6 ∨ z = 7) (some (3, 4 :: r, n, L)) (pd_if (z = 141) (some (4, r, n, L)) none)
  | 0 :: r => pd_if (z = 5) (some (3, 5 :: r, n, L)) (pd_if (z = 159) (some (0, r, n, L)) none)
  | _ => none
noncomputable def pd_A (z : Int) (f : List Nat) (n L : Nat) : Option pd_C := pd_if (pd_op z) (some (1, f, n, L)) (match f with
  | 3 :: r => pd_if (z = 193) (some (2, r, n, L)) none
  | 1 :: r => pd_if (z = 160 ∨ z = 161 ∨ z = 162) (some (1, 2 :: r, n, L)) none
  | 2 :: r => pd_D z r n L
  | 0 :: r => pd_D z (0 :: r) n L
  | _ => none)
noncomputable def pd_Q (z : Int) (y : Bool) (f : List Nat) (n L : Nat) : Option pd_C := pd_if (z = 8) (some (3, f, n, L)) (pd_if (z = 140) (pd_if (pd_dp f < 8) (some (3, 4 :: f, n, L)) none) (pd_E z y (1 :: f) n L))
noncomputable def pd_H (z : Int) (n L : Nat) : Option pd_C := pd_if (n < 12) (pd_if (z = 1 ∨ z = 2 ∨ z = 3) (some (1, [0], n + 1, L)) (pd_if (z = 4) (some (4, [0], n + 1, L)) none)) none
noncomputable def pd_S (z : Int) (y : Bool) (c : pd_C) : Option pd_C := match c with
  | (0, _, n, L) => pd_H z n L
  | (1, f, n, L) => pd_E z y f n L
  | (2, f, n, L) => pd_A z f n L
  | (3, f, n, L) => pd_Q z y f n L
  | (4, f, n, L) => pd_D z f n L
  | (5, _, n, L) => pd_if (z = 159) (some (0, [], n, L)) none
  | _ => none
def pd_okD (f : List Nat) : Bool := match f with
  | [5] => true
  | [0] => true
  | _ => false
def pd_ok (c : pd_C) : Bool := match c with
  | (2, 2 :: f, _, _) => pd_okD f
  | (2, 0 :: f, _, _) => pd_okD (0 :: f)
  | (4, f, _, _) => pd_okD f
  | (5, _, _, _) => true
  | _ => false
noncomputable def pd_F (Z : Nat → Int) (Y : Nat → Bool) (T : Nat) : Nat → pd_C → Nat → Nat × Bool
  | 0, c, p => (p, pd_ok c)
  | k + 1, c, p => match pd_S (Z p) (Y p) c with
    | some c' => pd_F Z Y T k c' (p + 1)
    | none => (p, false)
noncomputable def pd_R (Z : Nat → Int) (Y : Nat → Bool) (T : Nat) (c : pd_C) (p : Nat) : Nat × Bool := pd_F Z Y T (T - p) c p
section PDR
variable {Z : Nat → Int} {Y : Nat → Bool} {T p n L : Nat} {c c' : pd_C} {f : List Nat}
theorem pd_R_go (hp : p < T) (h : pd_S (Z p) (Y p) c = some c') : pd_R Z Y T c p = pd_R Z Y T c' (p + 1) := by
  obtain ⟨k, hk⟩ : ∃ k, T - p = k + 1 := ⟨T - p - 1, by omega⟩
  have e : T - (p + 1) = k := by omega
  show pd_F Z Y T (T - p) c p = pd_F Z Y T (T - (p + 1)) c' (p + 1)
  rw [hk, e]
  show (match pd_S (Z p) (Y p) c with | some c' => pd_F Z Y T k c' (p + 1) | none => (p, false)) = _
  rw [h] <;> rfl
theorem pd_R_end (hp : T ≤ p) : pd_R Z Y T c p = (p, pd_ok c) := by
  show pd_F Z Y T (T - p) c p = _
  rw [show T - p = 0 by omega]
  rfl
theorem pd_R_no (h : p < T → pd_S (Z p) (Y p) c = none) (ho : pd_ok c = false) : pd_R Z Y T c p = (p, false) := by
  by_cases hp : p < T
  · obtain ⟨k, hk⟩ : ∃ k, T - p = k + 1 := ⟨T - p - 1, by omega⟩
    show pd_F Z Y T (T - p) c p = _
    rw [hk]
    show (match pd_S (Z p) (Y p) c with | some c' => pd_F Z Y T k c' (p + 1) | none => (p, false)) = _
    rw [h hp] <;> rfl
  · rw [pd_R_end (by omega), ho]
theorem pd_R_eq (h : p < T → pd_S (Z p) (Y p) c = pd_S (Z p) (Y p) c') (ho : pd_ok c = pd_ok c') : pd_R Z Y T c p = pd_R Z Y T c' p := by
  by_cases hp : p < T
  · obtain ⟨k, hk⟩ : ∃ k, T - p = k + 1 := ⟨T - p - 1, by omega⟩
    show pd_F Z Y T (T - p) c p = pd_F Z Y T (T - p) c' p
    rw [hk]
    show (match pd_S (Z p) (Y p) c with | some c' => pd_F Z Y T k c' (p + 1) | none => (p, false)) = (match pd_S (Z p) (Y p) c' with | some c' => pd_F Z Y T k c' (p + 1) | none => (p, false))
    rw [h hp]
  · rw [pd_R_end (by omega), pd_R_end (by omega), ho]
-- a part is to come
theorem pd_E_br (hp : p < T) (hz : Z p = 191) (hd : pd_dp f < 8) : pd_R Z Y T (1, f, n, L) p = pd_R Z Y T (1, 3 :: f, n, L) (p + 1) :=
  pd_R_go hp (by show pd_E _ _ _ _ _ = _; unfold pd_E; rw [pd_ift hz, pd_ift hd])
theorem pd_E_lf (hp : p < T) (hz : pd_lf (Z p) (Y p)) (hL : L < 50) : pd_R Z Y T (1, f, n, L) p = pd_R Z Y T (2, f, n, L + 1) (p + 1) :=
  pd_R_go hp (by
    have h0 : Z p ≠ 191 := by rcases hz with h | h <;> omega
    show pd_E _ _ _ _ _ = _; unfold pd_E; rw [pd_iff h0, pd_ift hz, pd_ift hL])
theorem pd_E_n {z : Int} {y : Bool} (h1 : z = 191 → 8 ≤ pd_dp f) (h2 : pd_lf z y → 50 ≤ L) : pd_E z y f n L = none := by
  unfold pd_E
  by_cases a : z = 191
  · have := h1 a
    rw [pd_ift a, pd_iff (by omega)]
  · rw [pd_iff a]
    by_cases b : pd_lf z y
    · have := h2 b
      rw [pd_ift b, pd_iff (by omega)]
    · rw [pd_iff b]
theorem pd_E_no (h1 : p < T → Z p = 191 → 8 ≤ pd_dp f) (h2 : p < T → pd_lf (Z p) (Y p) → 50 ≤ L) : pd_R Z Y T (1, f, n, L) p = (p, false) :=
  pd_R_no (fun hp => pd_E_n (h1 hp) (h2 hp)) rfl
-- a part has been
theorem pd_A_op (hp : p < T) (hz : pd_op (Z p)) : pd_R Z Y T (2, f, n, L) p = pd_R Z Y T (1, f, n, L) (p + 1) :=
  pd_R_go hp (by show pd_A _ _ _ _ = _; unfold pd_A; rw [pd_ift hz])
theorem pd_A_br (hp : p < T) (hz : Z p = 193) : pd_R Z Y T (2, 3 :: f, n, L) p = pd_R Z Y T (2, f, n, L) (p + 1) :=
  pd_R_go hp (by show pd_A _ _ _ _ = _; unfold pd_A; rw [pd_iff (fun h => by unfold pd_op at h; omega)]; show pd_if _ _ _ = _; rw [pd_ift hz])
theorem pd_A_brno (h : p < T → ¬ pd_op (Z p) ∧ Z p ≠ 193) : pd_R Z Y T (2, 3 :: f, n, L) p = (p, false) :=
  pd_R_no (fun hp => by show pd_A _ _ _ _ = _; unfold pd_A; rw [pd_iff (h hp).1]; show pd_if _ _ _ = _; rw [pd_iff (h hp).2]) rfl
theorem pd_A_cm (hp : p < T) (hz : Z p = 160 ∨ Z p = 161 ∨ Z p = 162) : pd_R Z Y T (2, 1 :: f, n, L) p = pd_R Z Y T (1, 2 :: f, n, L) (p + 1) :=
  pd_R_go hp (by show pd_A _ _ _ _ = _; unfold pd_A; rw [pd_iff (fun h => by unfold pd_op at h; omega)]; show pd_if _ _ _ = _; rw [pd_ift hz])
theorem pd_A_cmno (h : p < T → ¬ pd_op (Z p) ∧ ¬ (Z p = 160 ∨ Z p = 161 ∨ Z p = 162)) : pd_R Z Y T (2, 1 :: f, n, L) p = (p, false) :=
  pd_R_no (fun hp => by show pd_A _ _ _ _ = _; unfold pd_A; rw [pd_iff (h hp).1]; show pd_if _ _ _ = _; rw [pd_iff (h hp).2]) rfl
theorem pd_A_rt (h : p < T → ¬ pd_op (Z p)) : pd_R Z Y T (2, 2 :: f, n, L) p = pd_R Z Y T (4, f, n, L) p :=
  pd_R_eq (fun hp => by show pd_A _ _ _ _ = pd_D _ _ _ _; unfold pd_A; exact pd_iff (h hp)) rfl
theorem pd_A_s (h : p < T → ¬ pd_op (Z p)) : pd_R Z Y T (2, 0 :: f, n, L) p = pd_R Z Y T (4, 0 :: f, n, L) p :=
  pd_R_eq (fun hp => by show pd_A (Z p) (0 :: f) n L = pd_D (Z p) (0 :: f) n L; unfold pd_A; exact pd_iff (h hp)) rfl
-- a plain test is to come
theorem pd_Q_nt (hp : p < T) (hz : Z p = 8) : pd_R Z Y T (3, f, n, L) p = pd_R Z Y T (3, f, n, L) (p + 1) :=
  pd_R_go hp (by show pd_Q _ _ _ _ _ = _; unfold pd_Q; rw [pd_ift hz])
theorem pd_Q_br (hp : p < T) (hz : Z p = 140) (hd : pd_dp f < 8) : pd_R Z Y T (3, f, n, L) p = pd_R Z Y T (3, 4 :: f, n, L) (p + 1) :=
  pd_R_go hp (by show pd_Q _ _ _ _ _ = _; unfold pd_Q; rw [pd_iff (by omega), pd_ift hz, pd_ift hd])
theorem pd_Q_brno (hz : p < T → Z p = 140) (hd : 8 ≤ pd_dp f) : pd_R Z Y T (3, f, n, L) p = (p, false) :=
  pd_R_no (fun hp => by have := hz hp; show pd_Q _ _ _ _ _ = _; unfold pd_Q; rw [pd_iff (by omega), pd_ift (hz hp), pd_iff (by omega)]) rfl
theorem pd_Q_E (h : p < T → Z p ≠ 8 ∧ Z p ≠ 140) : pd_R Z Y T (3, f, n, L) p = pd_R Z Y T (1, 1 :: f, n, L) p :=
  pd_R_eq (fun hp => by show pd_Q _ _ _ _ _ = pd_E _ _ _ _ _; unfold pd_Q; rw [pd_iff (h hp).1, pd_iff (h hp).2]) rfl
-- one has been
theorem pd_D_an {t : Nat} (hp : p < T) (ht : t = 4 ∨ t = 5) (hz : Z p = 6 ∨ Z p = 7) : pd_R Z Y T (4, t :: f, n, L) p = pd_R Z Y T (3, t :: f, n, L) (p + 1) :=
  pd_R_go hp (by
    show pd_D _ _ _ _ = _
    rcases ht with rfl | rfl
    · show pd_if _ _ _ = _; rw [pd_ift hz]
    · show pd_if _ _ _ = _; rw [pd_ift hz])
theorem pd_D_cl (hp : p < T) (hz : Z p = 141) : pd_R Z Y T (4, 4 :: f, n, L) p = pd_R Z Y T (4, f, n, L) (p + 1) :=
  pd_R_go hp (by show pd_if _ _ _ = _; rw [pd_iff (by omega), pd_ift hz])
theorem pd_D_clno (h : p < T → Z p ≠ 6 ∧ Z p ≠ 7 ∧ Z p ≠ 141) : pd_R Z Y T (4, 4 :: f, n, L) p = (p, false) :=
  pd_R_no (fun hp => by have := h hp; show pd_if _ _ _ = _; rw [pd_iff (by omega), pd_iff (by omega)]) rfl
theorem pd_D_if (hp : p < T) (hz : Z p = 5) : pd_R Z Y T (4, [0], n, L) p = pd_R Z Y T (3, [5], n, L) (p + 1) :=
  pd_R_go hp (by show pd_if _ _ _ = _; rw [pd_ift hz])
theorem pd_D_c5 (h : p < T → Z p ≠ 6 ∧ Z p ≠ 7) : pd_R Z Y T (4, [5], n, L) p = pd_R Z Y T (5, [], n, L) p :=
  pd_R_eq (fun hp => by have := h hp; show pd_if _ _ _ = pd_if _ _ _; rw [pd_iff (by omega)]) rfl
theorem pd_D_c0 (h : p < T → Z p ≠ 5) : pd_R Z Y T (4, [0], n, L) p = pd_R Z Y T (5, [], n, L) p :=
  pd_R_eq (fun hp => by have := h hp; show pd_if _ _ _ = pd_if _ _ _; rw [pd_iff (by omega)]) rfl
-- a clause has been
theorem pd_C_se (hp : p < T) (hz : Z p = 159) : pd_R Z Y T (5, [], n, L) p = pd_R Z Y T (0, [], n, L) (p + 1) :=
  pd_R_go hp (by show pd_if _ _ _ = _; rw [pd_ift hz])
theorem pd_C_no (hp : p < T) (hz : Z p ≠ 159) : pd_R Z Y T (5, [], n, L) p = (p, false) := by
  obtain ⟨k, hk⟩ : ∃ k, T - p = k + 1 := ⟨T - p - 1, by omega⟩
  show pd_F Z Y T (T - p) _ p = _
  rw [hk]
  show (match pd_if _ _ _ with | some c' => pd_F Z Y T k c' (p + 1) | none => (p, false)) = _
  rw [pd_iff hz] <;> rfl
theorem pd_C_end (hp : T ≤ p) : pd_R Z Y T (5, [], n, L) p = (p, true) := pd_R_end hp
-- a clause is to come
theorem pd_H_sm (hp : p < T) (hn : n < 12) (hz : Z p = 1 ∨ Z p = 2 ∨ Z p = 3) : pd_R Z Y T (0, [], n, L) p = pd_R Z Y T (1, [0], n + 1, L) (p + 1) :=
  pd_R_go hp (by show pd_H _ _ _ = _; unfold pd_H; rw [pd_ift hn, pd_ift hz])
theorem pd_H_ba (hp : p < T) (hn : n < 12) (hz : Z p = 4) : pd_R Z Y T (0, [], n, L) p = pd_R Z Y T (4, [0], n + 1, L) (p + 1) :=
  pd_R_go hp (by show pd_H _ _ _ = _; unfold pd_H; rw [pd_ift hn, pd_iff (by omega), pd_ift hz])
theorem pd_H_no (h : p < T → n < 12 → ¬ (1 ≤ Z p ∧ Z p ≤ 4)) : pd_R Z Y T (0, [], n, L) p = (p, false) :=
  pd_R_no (fun hp => by
    show pd_H _ _ _ = _
    unfold pd_H
    by_cases hn : n < 12
    · have := h hp hn
      rw [pd_ift hn, pd_iff (by omega), pd_iff (by omega)]
    · rw [pd_iff hn]) rfl
/-- two readings of one text come to one end -/
theorem pd_R_same {Z' : Nat → Int} {Y' : Nat → Bool} (h : ∀ j, j < T → Z' j = Z j ∧ (Z j = 50 → Y' j = Y j)) : pd_R Z' Y' T c p = pd_R Z Y T c p := by
  have hS : ∀ (j : Nat) (c : pd_C), j < T → pd_S (Z' j) (Y' j) c = pd_S (Z j) (Y j) c := fun j c hj => by
    obtain ⟨e1, e2⟩ := h j hj
    rw [e1]
    have hl : pd_lf (Z j) (Y' j) = pd_lf (Z j) (Y j) := propext (by
      unfold pd_lf
      constructor
      · rintro (⟨a, b⟩ | a)
        · exact Or.inl ⟨a, by rw [← e2 a]; exact b⟩
        · exact Or.inr a
      · rintro (⟨a, b⟩ | a)
        · exact Or.inl ⟨a, by rw [e2 a]; exact b⟩
        · exact Or.inr a)
    have hE : ∀ f n L, pd_E (Z j) (Y' j) f n L = pd_E (Z j) (Y j) f n L := fun f n L => by unfold pd_E; rw [hl]
    have hQ : ∀ f n L, pd_Q (Z j) (Y' j) f n L = pd_Q (Z j) (Y j) f n L := fun f n L => by unfold pd_Q; rw [hE]
    obtain ⟨m, f, n, L⟩ := c
    match m with
    | 0 => rfl
    | 1 => exact hE f n L
    | 2 => rfl
    | 3 => exact hQ f n L
    | 4 => rfl
    | 5 => rfl
    | k + 6 => rfl
  have hF : ∀ (k : Nat) (c : pd_C) (p : Nat), p + k ≤ T → pd_F Z' Y' T k c p = pd_F Z Y T k c p := by
    intro k
    induction k with
    | zero => intro c p _; rfl
    | succ k ih =>
      intro c p hp
      show (match pd_S (Z' p) (Y' p) c with | some c' => pd_F Z' Y' T k c' (p + 1) | none => (p, false)) = (match pd_S (Z p) (Y p) c with | some c' => pd_F Z Y T k c' (p + 1) | none => (p, false))
      rw [hS p c (by omega)]
      cases pd_S (Z p) (Y p) c with
      | none => rfl
      | some c' => exact ih c' (p + 1) (by omega)
  unfold pd_R
  by_cases hp : p ≤ T
  · exact hF _ _ _ (by omega)
  · rw [show T - p = 0 by omega]; rfl
end PDR
/-! ===== a text split into tokens ===== -/
def tk_lt (b : Nat) : Prop := 97 ≤ b ∧ b ≤ 122
def tk_dg (b : Nat) : Prop := 48 ≤ b ∧ b ≤ 57
def tk_ct (B : Nat → Nat) (i : Nat) : Prop := 0 < i ∧ ((tk_lt (B (i - 1)) ∧ tk_lt (B i)) ∨ (tk_dg (B (i - 1)) ∧ tk_dg (B i)))
def tk_st (B : Nat → Nat) (i : Nat) : Prop := B i ≠ 32 ∧ ¬ tk_ct B i
noncomputable def tk_c (B : Nat → Nat) : Nat → Nat
  | 0 => 0
  | i + 1 => tk_c B i + pd_if (tk_st B i) 1 0
-- the words, as bytes
def tk_T : List (List Nat) := [[102, 108, 111, 119, 115], [99, 111, 115, 116, 115], [116, 111, 108, 108, 115], [98, 97, 114, 115], [105, 102], [111, 114], [97, 110, 100], [110, 111, 116], [99, 101, 108, 108], [104, 111, 117, 114], [100, 97, 121], [115, 116, 114, 105, 107, 101], [112, 117, 109, 112, 101, 100], [109, 105, 108, 108, 115], [110, 97, 116, 117, 114, 97, 108], [100, 111, 119, 110], [121, 101, 97, 114]]
def tk_wl (k : Nat) : Nat := (tk_T.getD k []).length
def tk_wc (k x : Nat) : Nat := (tk_T.getD k []).getD x 32
def tk_m (B : Nat → Nat) (i e k : Nat) : Prop := e = i + tk_wl k ∧ ∀ x, x < tk_wl k → B (i + x) = tk_wc k x
def tk_w (B : Nat → Nat) (i e w : Nat) : Prop := (∃ k, k < 17 ∧ tk_m B i e k ∧ (∀ k', k' < k → ¬ tk_m B i e k') ∧ w = k + 1) ∨ ((∀ k, k < 17 → ¬ tk_m B i e k) ∧ w = 0)
def tk_v (B : Nat → Nat) (i : Nat) : Nat → Nat
  | 0 => 0
  | n + 1 => tk_v B i n * 10 + (B (i + n) - 48)
def tk_rl (B : Nat → Nat) (N i e : Nat) : Prop := i < e ∧ e ≤ N ∧ (∀ j, i ≤ j → j < e → tk_lt (B j)) ∧ (e = N ∨ ¬ tk_lt (B e))
def tk_rd (B : Nat → Nat) (N i e : Nat) : Prop := i < e ∧ e ≤ N ∧ (∀ j, i ≤ j → j < e → tk_dg (B j)) ∧ (e = N ∨ ¬ tk_dg (B e))
def tk_z (B : Nat → Nat) (N i : Nat) (z : Int) : Prop := (tk_lt (B i) ∧ ∃ e w : Nat, tk_rl B N i e ∧ tk_w B i e w ∧ z = (w : Int)) ∨ (tk_dg (B i) ∧ z = 50) ∨ (¬ tk_lt (B i) ∧ ¬ tk_dg (B i) ∧ z = 100 + (B i : Int))
def tk_y (B : Nat → Nat) (N i : Nat) (y : Bool) : Prop := tk_dg (B i) → ∃ e : Nat, tk_rd B N i e ∧ (y = true ↔ tk_v B i (e - i) ≤ 1000)
def tk_I (B : Nat → Nat) (N : Nat) (P Z : Nat → Int) (Y : Nat → Bool) (k t : Nat) : Prop := t = tk_c B k ∧ k ≤ N ∧ (k = N ∨ ¬ tk_ct B k) ∧ ∀ i, i < k → tk_st B i → P (tk_c B i) = (i : Int) ∧ tk_z B N i (Z (tk_c B i)) ∧ tk_y B N i (Y (tk_c B i))
section TKR
variable {B : Nat → Nat} {N i j k e t T : Nat} {P Z P' Z' : Nat → Int} {Y Y' : Nat → Bool} {z z' : Int}
theorem tk_c1 (h : tk_st B i) : tk_c B (i + 1) = tk_c B i + 1 := by
  show tk_c B i + pd_if (tk_st B i) 1 0 = _
  rw [pd_ift h]
theorem tk_c0 (h : ¬ tk_st B i) : tk_c B (i + 1) = tk_c B i := by
  show tk_c B i + pd_if (tk_st B i) 1 0 = _
  rw [pd_iff h] <;> rfl
theorem tk_up : ∀ d : Nat, tk_c B i ≤ tk_c B (i + d)
  | 0 => Nat.le_refl _
  | d + 1 => by
    have h := tk_up d
    by_cases s : tk_st B (i + d)
    · have := tk_c1 s; rw [show i + (d + 1) = i + d + 1 by omega]; omega
    · have := tk_c0 s; rw [show i + (d + 1) = i + d + 1 by omega]; omega
theorem tk_mono (h : i ≤ k) : tk_c B i ≤ tk_c B k := by
  obtain ⟨d, rfl⟩ : ∃ d, k = i + d := ⟨k - i, by omega⟩
  exact tk_up d
theorem tk_less (h : i < k) (hs : tk_st B i) : tk_c B i < tk_c B k := by
  have h1 := tk_mono (B := B) (show i + 1 ≤ k by omega)
  have h2 := tk_c1 hs
  omega
theorem tk_le : ∀ n : Nat, tk_c B n ≤ n
  | 0 => Nat.le_refl _
  | n + 1 => by
    have h := tk_le n
    by_cases s : tk_st B n
    · have := tk_c1 s; omega
    · have := tk_c0 s; omega
theorem tk_onto : ∀ n t : Nat, t < tk_c B n → ∃ i, i < n ∧ tk_st B i ∧ tk_c B i = t
  | 0, t, h => absurd h (Nat.not_lt_zero _)
  | n + 1, t, h => by
    by_cases s : tk_st B n
    · have h1 := tk_c1 s
      by_cases e : t = tk_c B n
      · exact ⟨n, by omega, s, e.symm⟩
      · obtain ⟨i, a, b, c⟩ := tk_onto n t (by omega)
        exact ⟨i, by omega, b, c⟩
    · have h1 := tk_c0 s
      obtain ⟨i, a, b, c⟩ := tk_onto n t (by omega)
      exact ⟨i, by omega, b, c⟩
theorem tk_flat (hc : ∀ j, k < j → j < e → tk_ct B j) (hs : tk_st B k) : ∀ d : Nat, k + 1 + d ≤ e → tk_c B (k + 1 + d) = tk_c B k + 1
  | 0, _ => tk_c1 hs
  | d + 1, h => by
    have h1 := tk_flat hc hs d (by omega)
    have h2 : ¬ tk_st B (k + 1 + d) := fun s => s.2 (hc _ (by omega) (by omega))
    rw [show k + 1 + (d + 1) = k + 1 + d + 1 by omega, tk_c0 h2, h1]
theorem tk_run (hc : ∀ j, k < j → j < e → tk_ct B j) (hs : tk_st B k) (he : k < e) : tk_c B e = tk_c B k + 1 := by
  have h := tk_flat hc hs (e - (k + 1)) (by omega)
  rw [show k + 1 + (e - (k + 1)) = e by omega] at h
  exact h
theorem tk_rl_ct (h : tk_rl B N k e) : (∀ j, k < j → j < e → tk_ct B j) ∧ (e = N ∨ ¬ tk_ct B e) := by
  obtain ⟨h1, h2, h3, h4⟩ := h
  refine ⟨fun j a b => ⟨by omega, Or.inl ⟨h3 _ (by omega) (by omega), h3 _ (by omega) b⟩⟩, ?_⟩
  rcases h4 with h4 | h4
  · exact Or.inl h4
  · refine Or.inr fun z => ?_
    have h5 := h3 (e - 1) (by omega) (by omega)
    rcases z.2 with ⟨_, z⟩ | ⟨z, _⟩
    · exact h4 z
    · unfold tk_lt at h5; unfold tk_dg at z; omega
theorem tk_rd_ct (h : tk_rd B N k e) : (∀ j, k < j → j < e → tk_ct B j) ∧ (e = N ∨ ¬ tk_ct B e) := by
  obtain ⟨h1, h2, h3, h4⟩ := h
  refine ⟨fun j a b => ⟨by omega, Or.inr ⟨h3 _ (by omega) (by omega), h3 _ (by omega) b⟩⟩, ?_⟩
  rcases h4 with h4 | h4
  · exact Or.inl h4
  · refine Or.inr fun z => ?_
    have h5 := h3 (e - 1) (by omega) (by omega)
    rcases z.2 with ⟨z, _⟩ | ⟨_, z⟩
    · unfold tk_dg at h5; unfold tk_lt at z; omega
    · exact h4 z
theorem tk_ot_ct (h1 : ¬ tk_lt (B k)) (h2 : ¬ tk_dg (B k)) : (∀ j, k < j → j < k + 1 → tk_ct B j) ∧ (k + 1 = N ∨ ¬ tk_ct B (k + 1)) := by
  refine ⟨fun j a b => absurd b (by omega), Or.inr fun z => ?_⟩
  have e : k + 1 - 1 = k := by omega
  rcases z.2 with ⟨z, _⟩ | ⟨z, _⟩
  · rw [e] at z; exact h1 z
  · rw [e] at z; exact h2 z
theorem tk_I.ini : tk_I B N P Z Y 0 0 := ⟨rfl, Nat.zero_le _, Or.inr fun z => absurd z.1 (Nat.lt_irrefl _), fun i h => absurd h (Nat.not_lt_zero _)⟩
theorem tk_I.sp (h : tk_I B N P Z Y k t) (hk : k < N) (hb : B k = 32) : tk_I B N P Z Y (k + 1) t := by
  obtain ⟨h1, h2, h3, h4⟩ := h
  have hs : ¬ tk_st B k := fun s => s.1 hb
  refine ⟨by rw [tk_c0 hs]; exact h1, by omega, (tk_ot_ct (N := N) (by unfold tk_lt; omega) (by unfold tk_dg; omega)).2, fun i hi s => ?_⟩
  by_cases e : i = k
  · rw [e] at s; exact absurd s hs
  · exact h4 i (by omega) s
theorem tk_I.tok (h : tk_I B N P Z Y k t) (hk : k < N) (hb : B k ≠ 32) (he : k < e) (heN : e ≤ N) (hc : (∀ j, k < j → j < e → tk_ct B j) ∧ (e = N ∨ ¬ tk_ct B e)) (ho : ∀ j, j ≠ t → P' j = P j ∧ Z' j = Z j ∧ Y' j = Y j) (h5 : P' t = (k : Int)) (h6 : tk_z B N k (Z' t)) (h7 : tk_y B N k (Y' t)) : tk_I B N P' Z' Y' e (t + 1) := by
  obtain ⟨h1, h2, h3, h4⟩ := h
  have hs : tk_st B k := by
    refine ⟨hb, ?_⟩
    rcases h3 with h3 | h3
    · omega
    · exact h3
  refine ⟨by rw [tk_run hc.1 hs he, h1], heN, hc.2, fun i hi s => ?_⟩
  by_cases e1 : i < k
  · have hl := tk_less e1 s
    obtain ⟨a, b, c⟩ := ho (tk_c B i) (by omega)
    rw [a, b, c]
    exact h4 i e1 s
  · by_cases e2 : i = k
    · rw [e2, ← h1]; exact ⟨h5, h6, h7⟩
    · exact absurd (hc.1 i (by omega) hi) s.2
theorem tk_w_fun {w w' : Nat} (h : tk_w B i e w) (h' : tk_w B i e w') : w = w' := by
  rcases h with ⟨k, a, b, c, d⟩ | ⟨a, d⟩ <;> rcases h' with ⟨k', a', b', c', d'⟩ | ⟨a', d'⟩
  · rcases Nat.lt_trichotomy k k' with q | q | q
    · exact absurd b (c' k q)
    · omega
    · exact absurd b' (c k' q)
  · exact absurd b (a' k a)
  · exact absurd b' (a k' a')
  · omega
theorem tk_rl_fun {e' : Nat} (h : tk_rl B N i e) (h' : tk_rl B N i e') : e = e' := by
  obtain ⟨a, b, c, d⟩ := h
  obtain ⟨a', b', c', d'⟩ := h'
  rcases Nat.lt_trichotomy e e' with q | q | q
  · rcases d with d | d
    · omega
    · exact absurd (c' e (by omega) q) d
  · exact q
  · rcases d' with d' | d'
    · omega
    · exact absurd (c e' (by omega) q) d'
theorem tk_rd_fun {e' : Nat} (h : tk_rd B N i e) (h' : tk_rd B N i e') : e = e' := by
  obtain ⟨a, b, c, d⟩ := h
  obtain ⟨a', b', c', d'⟩ := h'
  rcases Nat.lt_trichotomy e e' with q | q | q
  · rcases d with d | d
    · omega
    · exact absurd (c' e (by omega) q) d
  · exact q
  · rcases d' with d' | d'
    · omega
    · exact absurd (c e' (by omega) q) d'
theorem tk_z_fun (h : tk_z B N i z) (h' : tk_z B N i z') : z = z' := by
  rcases h with ⟨a, e, w, b, c, d⟩ | ⟨a, d⟩ | ⟨a, b, d⟩ <;> rcases h' with ⟨a', e', w', b', c', d'⟩ | ⟨a', d'⟩ | ⟨a', b', d'⟩
  · obtain rfl := tk_rl_fun b b'
    obtain rfl := tk_w_fun c c'
    omega
  · unfold tk_lt at a; unfold tk_dg at a'; omega
  · exact absurd a a'
  · unfold tk_lt at a'; unfold tk_dg at a; omega
  · omega
  · exact absurd a b'
  · exact absurd a' a
  · exact absurd a' b
  · omega
theorem tk_z50 (h : tk_z B N i 50) : tk_dg (B i) := by
  rcases h with ⟨a, e, w, b, c, d⟩ | ⟨a, d⟩ | ⟨a, b, d⟩
  · rcases c with ⟨k, a, _, _, c⟩ | ⟨_, c⟩ <;> omega
  · exact a
  · omega
theorem tk_same {T' : Nat} (h : tk_I B N P Z Y N T) (h' : tk_I B N P' Z' Y' N T') : T' = T ∧ ∀ j, j < T → P' j = P j ∧ Z' j = Z j ∧ (Z j = 50 → Y' j = Y j) := by
  refine ⟨h'.1.trans h.1.symm, fun j hj => ?_⟩
  rw [h.1] at hj
  obtain ⟨i, hi, hs, rfl⟩ := tk_onto N j hj
  obtain ⟨a, b, c⟩ := h.2.2.2 i hi hs
  obtain ⟨a', b', c'⟩ := h'.2.2.2 i hi hs
  refine ⟨a'.trans a.symm, tk_z_fun b' b, fun z => ?_⟩
  rw [z] at b
  have hd := tk_z50 b
  obtain ⟨e, r1, r2⟩ := c hd
  obtain ⟨e', r1', r2'⟩ := c' hd
  obtain rfl := tk_rd_fun r1 r1'
  cases hy : Y (tk_c B i) with
  | true => exact r2'.mpr (r2.mp hy)
  | false =>
    cases hy' : Y' (tk_c B i) with
    | false => rfl
    | true => rw [r2.mpr (r2'.mp hy')] at hy; cases hy
theorem tk_v1 (h : i ≤ e) : tk_v B i (e + 1 - i) = tk_v B i (e - i) * 10 + (B e - 48) := by
  rw [show e + 1 - i = (e - i) + 1 by omega]
  show tk_v B i (e - i) * 10 + (B (i + (e - i)) - 48) = _
  rw [show i + (e - i) = e by omega]
theorem tk_z_lt (h1 : tk_rl B N i e) {w : Nat} (h2 : tk_w B i e w) : tk_z B N i (w : Int) := Or.inl ⟨h1.2.2.1 i (Nat.le_refl _) h1.1, e, w, h1, h2, rfl⟩
end TKR
theorem tk_cg {B B' : Nat → Nat} {N T : Nat} {P Z : Nat → Int} {Y : Nat → Bool} (hB : ∀ j : Nat, j < N → B' j = B j) (h : tk_I B N P Z Y N T) : tk_I B' N P Z Y N T := by
  have hct : ∀ j : Nat, j < N → (tk_ct B' j ↔ tk_ct B j) := fun j hj => by
    unfold tk_ct
    rw [hB j hj]
    by_cases z : 0 < j
    · rw [hB (j - 1) (by omega)]
    · constructor <;> intro h <;> exact absurd h.1 z
  have hst : ∀ j : Nat, j < N → (tk_st B' j ↔ tk_st B j) := fun j hj => by
    unfold tk_st
    rw [hB j hj, hct j hj]
  have hc : ∀ n : Nat, n ≤ N → tk_c B' n = tk_c B n := by
    intro n
    induction n with
    | zero => intro _; rfl
    | succ n ih =>
      intro hn
      by_cases s : tk_st B n
      · rw [tk_c1 s, tk_c1 ((hst n (by omega)).mpr s), ih (by omega)]
      · rw [tk_c0 s, tk_c0 (fun z => s ((hst n (by omega)).mp z)), ih (by omega)]
  obtain ⟨h1, h2, h3, h4⟩ := h
  refine ⟨by rw [hc N (Nat.le_refl _)]; exact h1, h2, Or.inl rfl, fun i hi s => ?_⟩
  obtain ⟨a, b, c⟩ := h4 i hi ((hst i hi).mp s)
  rw [hc i (by omega)]
  have hv : ∀ n : Nat, i + n ≤ N → tk_v B' i n = tk_v B i n := by
    intro n
    induction n with
    | zero => intro _; rfl
    | succ n ih =>
      intro hn
      show tk_v B' i n * 10 + (B' (i + n) - 48) = tk_v B i n * 10 + (B (i + n) - 48)
      rw [ih (by omega), hB (i + n) (by omega)]
  refine ⟨a, ?_, ?_⟩
  · rcases b with ⟨q, e, w, r, t, u⟩ | ⟨q, u⟩ | ⟨q, r, u⟩
    · obtain ⟨r1, r2, r3, r4⟩ := r
      have hm : ∀ k : Nat, tk_m B' i e k ↔ tk_m B i e k := fun k => by
        unfold tk_m
        constructor
        · rintro ⟨x, y⟩; exact ⟨x, fun z hz => by rw [← hB (i + z) (by omega)]; exact y z hz⟩
        · rintro ⟨x, y⟩; exact ⟨x, fun z hz => by rw [hB (i + z) (by omega)]; exact y z hz⟩
      refine Or.inl ⟨by rw [hB i hi]; exact q, e, w, ⟨r1, r2, fun j x y => by rw [hB j (by omega)]; exact r3 j x y, ?_⟩, ?_, u⟩
      · by_cases z : e = N
        · exact Or.inl z
        · rw [hB e (by omega)]; exact r4
      · rcases t with ⟨k, k1, k2, k3, k4⟩ | ⟨k1, k2⟩
        · exact Or.inl ⟨k, k1, (hm k).mpr k2, fun k' hk' z => k3 k' hk' ((hm k').mp z), k4⟩
        · exact Or.inr ⟨fun k hk z => k1 k hk ((hm k).mp z), k2⟩
    · exact Or.inr (Or.inl ⟨by rw [hB i hi]; exact q, u⟩)
    · exact Or.inr (Or.inr ⟨by rw [hB i hi]; exact q, by rw [hB i hi]; exact r, by rw [hB i hi]; exact u⟩)
  · intro z
    rw [hB i hi] at z
    obtain ⟨e, ⟨r1, r2, r3, r4⟩, y⟩ := c z
    refine ⟨e, ⟨r1, r2, fun j x y => by rw [hB j (by omega)]; exact r3 j x y, ?_⟩, ?_⟩
    · by_cases z : e = N
      · exact Or.inl z
      · rw [hB e (by omega)]; exact r4
    · rw [hv (e - i) (by omega)]; exact y
