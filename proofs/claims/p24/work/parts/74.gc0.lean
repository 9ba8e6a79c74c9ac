/-! ===== gc0 ===== -/

/-- the greatest common divisor of two numbers that are not below 0 -/
def gN (x y : Int) : Int := ((Nat.gcd x.toNat y.toNat : Nat) : Int)
theorem gN_0 {x : Int} (h : 0 ≤ x) : gN x 0 = x := by
  unfold gN
  show ((Nat.gcd x.toNat 0 : Nat) : Int) = x
  rw [Nat.gcd_zero_right]; exact Int.toNat_of_nonneg h
theorem gN_pos {x y : Int} (h : 0 < y) : 1 ≤ gN x y := by
  unfold gN
  have q : 0 < Nat.gcd x.toNat y.toNat := Nat.gcd_pos_of_pos_right _ (by omega)
  omega
theorem gN_step {x y : Int} (hx : 0 ≤ x) (hy : 0 < y) : gN y (x % y) = gN x y := by
  unfold gN
  have e : (x % y).toNat = x.toNat % y.toNat := by
    have h1 : ((x.toNat % y.toNat : Nat) : Int) = x % y := by
      rw [Int.natCast_emod, Int.toNat_of_nonneg hx, Int.toNat_of_nonneg (Int.le_of_lt hy)]
    omega
  rw [e, Nat.gcd_comm y.toNat, ← Nat.gcd_rec, Nat.gcd_comm]
theorem l_remp {a b c : Int64} {x y : Int} (h : c = a - a / b * b) (ha : a.toInt = x) (hb : b.toInt = y) (h0 : 0 ≤ x) (h1 : 0 < y) : c.toInt = x % y := by
  have hx := Int64.toInt_lt a
  rw [ha] at hx
  have q0 : 0 ≤ x / y := Int.ediv_nonneg h0 (Int.le_of_lt h1)
  have q1 : x / y ≤ x := Int.ediv_le_self y h0
  have e : (a / b).toInt = x / y := by
    rw [Int64.toInt_div, ha, hb, Int.tdiv_eq_ediv_of_nonneg h0, Int.bmod_def]; omega
  have e1 : x % y + y * (x / y) = x := Int.emod_add_mul_ediv x y
  have e2 : 0 ≤ x % y := Int.emod_nonneg x (by omega)
  have e4 : 0 ≤ y * (x / y) := Int.mul_nonneg (Int.le_of_lt h1) q0
  have mm : (a / b * b).toInt = y * (x / y) := by
    rw [Int64.toInt_mul, e, hb, Int.mul_comm, Int.bmod_def]; omega
  rw [h, Int64.toInt_sub, ha, mm, Int.bmod_def]; omega
theorem l_divp {a b c : Int64} {x y : Int} (h : c = a / b) (ha : a.toInt = x) (hb : b.toInt = y) (h0 : 0 ≤ x) (h1 : 0 < y) : c.toInt = x / y := by
  have hx := Int64.toInt_lt a
  rw [ha] at hx
  have q0 : 0 ≤ x / y := Int.ediv_nonneg h0 (Int.le_of_lt h1)
  have q1 : x / y ≤ x := Int.ediv_le_self y h0
  rw [h, Int64.toInt_div, ha, hb, Int.tdiv_eq_ediv_of_nonneg h0, Int.bmod_def]; omega
/-- how far a hundred steps reach: the product of both is halved at each step but the first -/
def gQ (k x y : Int) : Prop := (k = 0 ∧ y ≤ 281474976710656) ∨ (1 ≤ k ∧ y < x ∧ x.toNat * y.toNat * 2 ^ k.toNat ≤ 2 ^ 97)
theorem gQ_step {k x y : Int} (hk : 0 ≤ k) (hx : 0 ≤ x) (hy : 0 < y) (h : gQ k x y) : gQ (k + 1) y (x % y) := by
  have m0 : 0 ≤ x % y := Int.emod_nonneg x (by omega)
  have m1 : x % y < y := Int.emod_lt_of_pos x hy
  have ek : (k + 1).toNat = k.toNat + 1 := by omega
  refine Or.inr ⟨by omega, m1, ?_⟩
  rw [ek, Nat.pow_succ]
  rcases h with ⟨h1, h2⟩ | ⟨h1, h2, h3⟩
  · have e0 : k.toNat = 0 := by omega
    rw [e0]
    have q : y.toNat * (x % y).toNat ≤ 281474976710656 * 281474976710656 := Nat.mul_le_mul (by omega) (by omega)
    show y.toNat * (x % y).toNat * (1 * 2) ≤ 2 ^ 97
    have : (2 : Nat) ^ 97 = 281474976710656 * 281474976710656 * 2 := by decide
    omega
  · have d : x % y + y * (x / y) = x := Int.emod_add_mul_ediv x y
    have d1 : 1 ≤ x / y := by
      have : 1 * y ≤ x := by omega
      exact (Int.le_ediv_iff_mul_le hy).mpr this
    have d2 : y ≤ y * (x / y) := by
      have := Int.mul_le_mul_of_nonneg_left d1 (Int.le_of_lt hy)
      omega
    have h4 : 2 * (x % y).toNat ≤ x.toNat := by omega
    have q : y.toNat * (2 * (x % y).toNat) ≤ y.toNat * x.toNat := Nat.mul_le_mul_left _ h4
    have q2 : y.toNat * (2 * (x % y).toNat) * 2 ^ k.toNat ≤ y.toNat * x.toNat * 2 ^ k.toNat := Nat.mul_le_mul_right _ q
    have e1 : y.toNat * (x % y).toNat * (2 ^ k.toNat * 2) = y.toNat * (2 * (x % y).toNat) * 2 ^ k.toNat := by
      rw [Nat.mul_comm (2 ^ k.toNat) 2, ← Nat.mul_assoc, Nat.mul_assoc y.toNat, Nat.mul_comm ((x % y).toNat) 2]
    rw [e1]
    rw [Nat.mul_comm x.toNat] at h3
    exact Nat.le_trans q2 h3
theorem gQ_end {k x y : Int} (hk : 100 ≤ k) (hy : 0 ≤ y) (h : gQ k x y) : y = 0 := by
  rcases h with ⟨h1, h2⟩ | ⟨h1, h2, h3⟩
  · omega
  · by_cases e : y = 0
    · exact e
    · exfalso
      have p : 1 ≤ x.toNat * y.toNat := Nat.mul_pos (by omega) (by omega)
      have q : (2 : Nat) ^ 100 ≤ 2 ^ k.toNat := Nat.pow_le_pow_right (by decide) (by omega)
      have r : 1 * 2 ^ 100 ≤ x.toNat * y.toNat * 2 ^ k.toNat := Nat.mul_le_mul p q
      have s : (2 : Nat) ^ 97 < 1 * 2 ^ 100 := by decide
      exact absurd (Nat.le_trans r h3) (Nat.not_le.mpr s)
