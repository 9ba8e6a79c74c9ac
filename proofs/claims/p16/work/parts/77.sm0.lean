/-! ===== sm0 ===== -/

/-- sums and numbers of those that count -/
noncomputable def smL (c : Nat → Prop) (w : Nat → Int32) : Nat → Int64
  | 0 => 0
  | n + 1 => @ite Int64 (c n) (Classical.propDecidable _) (smL c w n + (w n).toInt64) (smL c w n)
noncomputable def smC (c : Nat → Prop) : Nat → Int32
  | 0 => 0
  | n + 1 => @ite Int32 (c n) (Classical.propDecidable _) (smC c n + 1) (smC c n)
theorem smL_y {c : Nat → Prop} {w : Nat → Int32} {n n' : Nat} (h : n' = n + 1) (hc : c n) : smL c w n' = smL c w n + (w n).toInt64 := by
  rw [h]; exact if_pos hc
theorem smL_n {c : Nat → Prop} {w : Nat → Int32} {n n' : Nat} (h : n' = n + 1) (hc : ¬ c n) : smL c w n' = smL c w n := by
  rw [h]; exact if_neg hc
theorem smC_y {c : Nat → Prop} {n n' : Nat} (h : n' = n + 1) (hc : c n) : smC c n' = smC c n + 1 := by
  rw [h]; exact if_pos hc
theorem smC_n {c : Nat → Prop} {n n' : Nat} (h : n' = n + 1) (hc : ¬ c n) : smC c n' = smC c n := by
  rw [h]; exact if_neg hc
theorem smL_cg {c c' : Nat → Prop} {w w' : Nat → Int32} : ∀ n : Nat, (∀ j : Nat, j < n → (c j ↔ c' j) ∧ w j = w' j) → smL c w n = smL c' w' n
  | 0, _ => rfl
  | n + 1, h => by
    have q := h n (Nat.lt_succ_self n)
    have r := smL_cg n (fun j hj => h j (Nat.lt_succ_of_lt hj))
    by_cases e : c n
    · rw [smL_y rfl e, smL_y rfl (q.1.mp e), r, q.2]
    · rw [smL_n rfl e, smL_n rfl (fun z => e (q.1.mpr z)), r]
theorem smC_cg {c c' : Nat → Prop} : ∀ n : Nat, (∀ j : Nat, j < n → (c j ↔ c' j)) → smC c n = smC c' n
  | 0, _ => rfl
  | n + 1, h => by
    have q := h n (Nat.lt_succ_self n)
    have r := smC_cg n (fun j hj => h j (Nat.lt_succ_of_lt hj))
    by_cases e : c n
    · rw [smC_y rfl e, smC_y rfl (q.mp e), r]
    · rw [smC_n rfl e, smC_n rfl (fun z => e (q.mpr z)), r]
/-- what the sums may be -/
theorem smL_b {c : Nat → Prop} {w : Nat → Int32} {lo hi : Int} (h0 : 0 ≤ lo) (h1 : lo ≤ hi) (h2 : hi ≤ 9999) : ∀ n : Nat, n ≤ 60 → (∀ j : Nat, j < n → lo ≤ (w j).toInt ∧ (w j).toInt ≤ hi) → lo * (smC c n).toInt ≤ (smL c w n).toInt ∧ (smL c w n).toInt ≤ hi * (smC c n).toInt ∧ 0 ≤ (smC c n).toInt ∧ (smC c n).toInt ≤ (n : Int)
  | 0, _, _ => by
    have e1 : (smL c w 0).toInt = 0 := by show (0 : Int64).toInt = 0; decide
    have e2 : (smC c 0).toInt = 0 := by show (0 : Int32).toInt = 0; decide
    rw [e1, e2]; exact ⟨by omega, by omega, by omega, by omega⟩
  | n + 1, hn, h => by
    obtain ⟨q1, q2, q3, q4⟩ := smL_b (c := c) h0 h1 h2 n (by omega) (fun j hj => h j (by omega))
    have z := h n (by omega)
    by_cases e : c n
    · have a1 : (smC c (n + 1)).toInt = (smC c n).toInt + 1 := by
        rw [smC_y rfl e]; exact z_add rfl rfl (by decide : (1 : Int32).toInt = 1) (by omega) (by omega)
      have m0 : hi * (smC c n).toInt ≤ 9999 * 60 := Int.mul_le_mul h2 (by omega) q3 (by decide)
      have m1 : 0 ≤ lo * (smC c n).toInt := Int.mul_nonneg h0 q3
      have a2 : (smL c w (n + 1)).toInt = (smL c w n).toInt + (w n).toInt := by
        rw [smL_y rfl e]; exact l_add rfl rfl (Int32.toInt_toInt64 _) (by omega) (by omega)
      rw [a1, a2, Int.mul_add, Int.mul_add]
      exact ⟨by omega, by omega, by omega, by omega⟩
    · rw [smL_n rfl e, smC_n rfl e]; exact ⟨q1, q2, q3, by omega⟩
