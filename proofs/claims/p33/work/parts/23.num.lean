/-! more of numbers -/
theorem iv_shT : ∀ j : Nat, j < 1024 → ((nI j) <<< ((1 : Int32) &&& 31)).toInt = 2 * (j : Int) := by decide +kernel
theorem iv_sh1 {x z : Int32} {X : Int} (hx : x.toInt = X) (e : z = x <<< ((1 : Int32) &&& 31)) (h0 : 0 ≤ X) (h1 : X < 1024) : z.toInt = 2 * X := by
  obtain ⟨j, hj, rfl, rfl⟩ := iv_nat hx h0
  rw [e]
  exact iv_shT j (by omega)
theorem iv_xor {x y z : Int32} {X Y : Int} (hx : x.toInt = X) (hy : y.toInt = Y) (e : z = x ^^^ y) (h0 : 0 ≤ X) (h1 : X < 1024) (h2 : 0 ≤ Y) (h3 : Y < 1024) : 0 ≤ z.toInt ∧ z.toInt ≤ 1023 := by
  obtain ⟨a, ha, rfl, rfl⟩ := iv_nat hx h0
  obtain ⟨b, hb, rfl, rfl⟩ := iv_nat hy h2
  have hz : z.toBitVec.toNat = a ^^^ b := by
    rw [e, Int32.toBitVec_xor, BitVec.toNat_xor, pk_tn (by omega), pk_tn (by omega)]
  have hl : a ^^^ b < 2 ^ 10 := Nat.xor_lt_two_pow (by omega) (by omega)
  have h4 : z.toInt = z.toBitVec.toInt := rfl
  rw [BitVec.toInt_eq_toNat_cond, hz] at h4
  split at h4 <;> omega
