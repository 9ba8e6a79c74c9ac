/-! ===== sz0 ===== -/

/-- sums and sums of squares -/
def sI (f : Nat → Int) : Nat → Int
  | 0 => 0
  | n + 1 => sI f n + f n
def qI (f : Nat → Int) : Nat → Int
  | 0 => 0
  | n + 1 => qI f n + f n * f n
theorem sI_s {f : Nat → Int} {k k' x : Int} (hk : 0 ≤ k) (h : k' = k + 1) (hx : x = f k.toNat) : sI f k'.toNat = sI f k.toNat + x := by
  have e : k'.toNat = k.toNat + 1 := by omega
  rw [e, hx]; rfl
theorem qI_s {f : Nat → Int} {k k' x : Int} (hk : 0 ≤ k) (h : k' = k + 1) (hx : x = f k.toNat) : qI f k'.toNat = qI f k.toNat + x * x := by
  have e : k'.toNat = k.toNat + 1 := by omega
  rw [e, hx]; rfl
theorem sI_cg {f g : Nat → Int} : ∀ n : Nat, (∀ j : Nat, j < n → f j = g j) → sI f n = sI g n ∧ qI f n = qI g n
  | 0, _ => ⟨rfl, rfl⟩
  | n + 1, h => by
    have q := sI_cg n (fun j hj => h j (Nat.lt_succ_of_lt hj))
    have z := h n (Nat.lt_succ_self n)
    constructor
    · show sI f n + f n = sI g n + g n
      rw [q.1, z]
    · show qI f n + f n * f n = qI g n + g n * g n
      rw [q.2, z]
theorem sI_b {f : Nat → Int} : ∀ n : Nat, (∀ j : Nat, j < n → 0 ≤ f j ∧ f j ≤ 1998) → 0 ≤ sI f n ∧ sI f n ≤ 1998 * (n : Int) ∧ 0 ≤ qI f n ∧ qI f n ≤ 3992004 * (n : Int)
  | 0, _ => ⟨Int.le_refl _, Int.le_refl _, Int.le_refl _, Int.le_refl _⟩
  | n + 1, h => by
    obtain ⟨q1, q2, q3, q4⟩ := sI_b n (fun j hj => h j (Nat.lt_succ_of_lt hj))
    have z := h n (Nat.lt_succ_self n)
    have m := mul_b z.1 z.2 z.1 z.2 (by decide) (by decide)
    have e1 : sI f (n + 1) = sI f n + f n := rfl
    have e2 : qI f (n + 1) = qI f n + f n * f n := rfl
    rw [e1, e2]
    exact ⟨by omega, by omega, by omega, by omega⟩
theorem cs1 {f : Nat → Int} (v : Int) : ∀ n : Nat, 0 ≤ qI f n - 2 * (v * sI f n) + (n : Int) * (v * v)
  | 0 => by
    have e1 : qI f 0 = 0 := rfl
    have e2 : sI f 0 = 0 := rfl
    rw [e1, e2]; simp
  | n + 1 => by
    have q := cs1 (f := f) v n
    have e1 : sI f (n + 1) = sI f n + f n := rfl
    have e2 : qI f (n + 1) = qI f n + f n * f n := rfl
    have sq : 0 ≤ (f n - v) * (f n - v) := by
      rcases Int.le_total 0 (f n - v) with h | h
      · exact Int.mul_nonneg h h
      · exact Int.mul_nonneg_of_nonpos_of_nonpos h h
    have e3 : (f n - v) * (f n - v) = f n * f n - 2 * (v * f n) + v * v := by grind
    have e4 : ((n + 1 : Nat) : Int) * (v * v) = (n : Int) * (v * v) + v * v := by
      rw [Int.natCast_succ, Int.add_mul, Int.one_mul]
    rw [e1, e2, e4, Int.mul_add v]
    omega
theorem cs {f : Nat → Int} : ∀ n : Nat, 0 ≤ (n : Int) * qI f n - sI f n * sI f n
  | 0 => by
    have e2 : sI f 0 = 0 := rfl
    rw [e2]; simp
  | n + 1 => by
    have q := cs (f := f) n
    have r := cs1 (f := f) (f n) n
    have e1 : sI f (n + 1) = sI f n + f n := rfl
    have e2 : qI f (n + 1) = qI f n + f n * f n := rfl
    have e3 : ((n + 1 : Nat) : Int) * (qI f n + f n * f n) - (sI f n + f n) * (sI f n + f n) = ((n : Int) * qI f n - sI f n * sI f n) + (qI f n - 2 * (f n * sI f n) + (n : Int) * (f n * f n)) := by
      rw [Int.natCast_succ]; grind
    rw [e1, e2, e3]
    omega

/-- what size answers of the sums -/
def szF (S Q n w : Int) : Int := if w < 2 then (if w % 2 = 0 then S / gN S n else n / gN S n) else (if w % 2 = 0 then (n * Q - S * S) / gN (n * Q - S * S) (n * n) else (n * n) / gN (n * Q - S * S) (n * n))
theorem l2i_iz {a : Int64} {c : Int32} {x : Int} (h : a.toInt32 = c) (ha : a.toInt = x) (h0 : -2147483648 ≤ x) (h1 : x < 2147483648) : c.toInt = x := by
  rw [← h, Int64.toInt_toInt32, ha, Int.bmod_def]; omega
theorem div_iz {x y : Int} (h0 : 0 ≤ x) (hy : 1 ≤ y) : 0 ≤ x / y ∧ x / y ≤ x := ⟨Int.ediv_nonneg h0 (by omega), Int.ediv_le_self y h0⟩
