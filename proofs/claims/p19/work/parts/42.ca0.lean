/-! ===== ca0 ===== -/

/-- sums of natural numbers, numbers of those that hold -/
def ns (f : Nat → Nat) : Nat → Nat
  | 0 => 0
  | n + 1 => ns f n + f n
noncomputable def b01 (p : Prop) : Nat := @ite Nat p (Classical.propDecidable _) 1 0
theorem b01_y {p : Prop} (h : p) : b01 p = 1 := if_pos h
theorem b01_n {p : Prop} (h : ¬ p) : b01 p = 0 := if_neg h
theorem b01_cg {p q : Prop} (h : p ↔ q) : b01 p = b01 q := by rw [propext h]
theorem ns_s {f : Nat → Nat} {n n' : Nat} (h : n' = n + 1) : ns f n' = ns f n + f n := by rw [h]; rfl
theorem ns_cg {f g : Nat → Nat} : ∀ n : Nat, (∀ j : Nat, j < n → f j = g j) → ns f n = ns g n
  | 0, _ => rfl
  | n + 1, h => by
    show ns f n + f n = ns g n + g n
    rw [ns_cg n (fun j hj => h j (Nat.lt_succ_of_lt hj)), h n (Nat.lt_succ_self n)]
theorem ns_0 : ∀ n : Nat, ns (fun _ => 0) n = 0
  | 0 => rfl
  | n + 1 => by show ns (fun _ => 0) n + 0 = 0; rw [ns_0 n]
theorem ns_add {f g : Nat → Nat} : ∀ n : Nat, ns (fun j => f j + g j) n = ns f n + ns g n
  | 0 => rfl
  | n + 1 => by
    show ns (fun j => f j + g j) n + (f n + g n) = (ns f n + f n) + (ns g n + g n)
    rw [ns_add n]; omega
theorem ns_swap {f : Nat → Nat → Nat} {m : Nat} : ∀ n : Nat, ns (fun i => ns (fun j => f i j) m) n = ns (fun j => ns (fun i => f i j) n) m
  | 0 => (ns_0 m).symm
  | n + 1 => by
    show ns (fun i => ns (fun j => f i j) m) n + ns (fun j => f n j) m = ns (fun j => ns (fun i => f i j) n + f n j) m
    rw [ns_swap n, ns_add]
theorem ns_cut {f : Nat → Nat} {t : Nat} : ∀ n : Nat, t ≤ n → (∀ j : Nat, t ≤ j → j < n → f j = 0) → ns f n = ns f t
  | 0, h, _ => by rw [Nat.le_zero.mp h]
  | n + 1, h, z => by
    by_cases e : t = n + 1
    · rw [e]
    · show ns f n + f n = ns f t
      rw [ns_cut n (by omega) (fun j h1 h2 => z j h1 (by omega)), z n (by omega) (by omega)]; rfl
/-- those below n that hold, in their order -/
noncomputable def lsP (c : Nat → Prop) : Nat → List Nat
  | 0 => []
  | n + 1 => @ite (List Nat) (c n) (Classical.propDecidable _) (lsP c n ++ [n]) (lsP c n)
theorem lsP_y {c : Nat → Prop} {n n' : Nat} (h : n' = n + 1) (hc : c n) : lsP c n' = lsP c n ++ [n] := by rw [h]; exact if_pos hc
theorem lsP_n {c : Nat → Prop} {n n' : Nat} (h : n' = n + 1) (hc : ¬ c n) : lsP c n' = lsP c n := by rw [h]; exact if_neg hc
theorem lsP_cg {c d : Nat → Prop} : ∀ n : Nat, (∀ j : Nat, j < n → (c j ↔ d j)) → lsP c n = lsP d n
  | 0, _ => rfl
  | n + 1, h => by
    have q := lsP_cg n (fun j hj => h j (Nat.lt_succ_of_lt hj))
    by_cases e : c n
    · rw [lsP_y rfl e, lsP_y rfl ((h n (Nat.lt_succ_self n)).mp e), q]
    · rw [lsP_n rfl e, lsP_n rfl (fun z => e ((h n (Nat.lt_succ_self n)).mpr z)), q]
/-- the k-th of them -/
noncomputable def atP (c : Nat → Prop) (n k : Nat) : Nat := (lsP c n).getD k 0
theorem getD_l {l : List Nat} {x k : Nat} (h : k < l.length) : (l ++ [x]).getD k 0 = l.getD k 0 := by
  rw [List.getD_eq_getElem?_getD, List.getD_eq_getElem?_getD, List.getElem?_append_left h]
theorem getD_e {l : List Nat} {x k : Nat} (h : k = l.length) : (l ++ [x]).getD k 0 = x := by
  rw [List.getD_eq_getElem?_getD, List.getElem?_append_right (by omega), h, Nat.sub_self]; rfl
theorem lsP_len {c : Nat → Prop} : ∀ n : Nat, (lsP c n).length ≤ n
  | 0 => Nat.le_refl _
  | n + 1 => by
    have q := lsP_len (c := c) n
    by_cases e : c n
    · rw [lsP_y rfl e, List.length_append]; show (lsP c n).length + 1 ≤ n + 1; omega
    · rw [lsP_n rfl e]; omega
theorem lsP_mono {c : Nat → Prop} {m : Nat} : ∀ n : Nat, m ≤ n → (lsP c m).length ≤ (lsP c n).length
  | 0, h => by rw [Nat.le_zero.mp h]; exact Nat.le_refl _
  | n + 1, h => by
    by_cases e : m = n + 1
    · rw [e]; exact Nat.le_refl _
    · have q := lsP_mono (c := c) n (by omega : m ≤ n)
      by_cases z : c n
      · rw [lsP_y rfl z, List.length_append]; exact Nat.le_trans q (Nat.le_add_right _ _)
      · rw [lsP_n rfl z]; exact q
theorem lsP_full {c : Nat → Prop} {m : Nat} : ∀ n : Nat, m ≤ n → (lsP c n).length ≤ (lsP c m).length → lsP c n = lsP c m
  | 0, h, _ => by rw [Nat.le_zero.mp h]
  | n + 1, h, l => by
    by_cases e : m = n + 1
    · rw [e]
    · by_cases z : c n
      · have q := lsP_mono (c := c) n (by omega : m ≤ n)
        rw [lsP_y rfl z, List.length_append] at l
        exact absurd l (by show ¬ (lsP c n).length + 1 ≤ _; omega)
      · rw [lsP_n rfl z] at l ⊢
        exact lsP_full n (by omega) l
theorem lsP_sm {c : Nat → Prop} : ∀ n : Nat, n ≤ 60 → (smC c n).toInt = ((lsP c n).length : Int)
  | 0, _ => by show (0 : Int32).toInt = 0; decide
  | n + 1, h => by
    have q := lsP_sm (c := c) n (by omega)
    have r := lsP_len (c := c) n
    by_cases e : c n
    · rw [smC_y rfl e, lsP_y rfl e, List.length_append, z_add rfl q (by decide : (1 : Int32).toInt = 1) (by omega) (by omega)]; rfl
    · rw [smC_n rfl e, lsP_n rfl e]; exact q
/-- a sum over the listing is a sum over all that hold -/
theorem ns_ls {c : Nat → Prop} {g : Nat → Nat} : ∀ n : Nat, ns (fun k => g (atP c n k)) (lsP c n).length = ns (fun s => b01 (c s) * g s) n
  | 0 => rfl
  | n + 1 => by
    have q := ns_ls (c := c) (g := g) n
    show _ = ns (fun s => b01 (c s) * g s) n + b01 (c n) * g n
    by_cases e : c n
    · have a1 : (lsP c (n + 1)).length = (lsP c n).length + 1 := by rw [lsP_y rfl e, List.length_append]; rfl
      rw [ns_s a1, b01_y e, Nat.one_mul, ← q]
      have a2 : atP c (n + 1) (lsP c n).length = n := by unfold atP; rw [lsP_y rfl e]; exact getD_e rfl
      rw [a2]
      refine congrArg (· + g n) (ns_cg _ (fun j hj => ?_))
      have a3 : atP c (n + 1) j = atP c n j := by unfold atP; rw [lsP_y rfl e]; exact getD_l hj
      rw [a3]
    · rw [b01_n e, Nat.zero_mul, ← q]
      have a1 : lsP c (n + 1) = lsP c n := lsP_n rfl e
      unfold atP; rw [a1]; rfl
theorem atP_lt {c : Nat → Prop} : ∀ n k : Nat, k < (lsP c n).length → atP c n k < n ∧ c (atP c n k)
  | 0, k, h => absurd h (Nat.not_lt_zero k)
  | n + 1, k, h => by
    by_cases e : c n
    · rw [lsP_y rfl e, List.length_append] at h
      have h2 : k < (lsP c n).length + 1 := h
      by_cases z : k = (lsP c n).length
      · have a2 : atP c (n + 1) k = n := by unfold atP; rw [lsP_y rfl e]; exact getD_e z
        rw [a2]; exact ⟨Nat.lt_succ_self n, e⟩
      · have a3 : atP c (n + 1) k = atP c n k := by unfold atP; rw [lsP_y rfl e]; exact getD_l (by omega)
        have q := atP_lt (c := c) n k (by omega)
        rw [a3]; exact ⟨by omega, q.2⟩
    · have a3 : atP c (n + 1) k = atP c n k := by unfold atP; rw [lsP_n rfl e]
      rw [lsP_n rfl e] at h
      have q := atP_lt (c := c) n k h
      rw [a3]; exact ⟨by omega, q.2⟩
theorem atP_up {c : Nat → Prop} : ∀ n i j : Nat, i < j → j < (lsP c n).length → atP c n i < atP c n j
  | 0, i, j, _, h => absurd h (Nat.not_lt_zero j)
  | n + 1, i, j, hi, h => by
    by_cases e : c n
    · rw [lsP_y rfl e, List.length_append] at h
      have h2 : j < (lsP c n).length + 1 := h
      have a3 : ∀ k : Nat, k < (lsP c n).length → atP c (n + 1) k = atP c n k := fun k hk => by unfold atP; rw [lsP_y rfl e]; exact getD_l hk
      rw [a3 i (by omega)]
      by_cases z : j = (lsP c n).length
      · have a2 : atP c (n + 1) j = n := by unfold atP; rw [lsP_y rfl e]; exact getD_e z
        rw [a2]; exact (atP_lt n i (by omega)).1
      · rw [a3 j (by omega)]; exact atP_up n i j hi (by omega)
    · have a3 : ∀ k : Nat, atP c (n + 1) k = atP c n k := fun k => by unfold atP; rw [lsP_n rfl e]
      rw [lsP_n rfl e] at h
      rw [a3, a3]; exact atP_up n i j hi h
/-- pairs: by places of the listing, and by all below n -/
noncomputable def prX (D : Nat → Nat → Prop) (f : Nat → Nat) (m i : Nat) : Nat := ns (fun j => b01 (i < j ∧ D (f i) (f j))) m
noncomputable def prY (c : Nat → Prop) (D : Nat → Nat → Prop) (t s : Nat) : Nat := b01 (c t ∧ c s ∧ D t s)
theorem pr_xy {c : Nat → Prop} {D E : Nat → Nat → Prop} {n : Nat} (h : ∀ s t : Nat, D s t ↔ E t s) : ns (prX D (atP c n) (lsP c n).length) (lsP c n).length = ns (fun t => ns (prY c E t) t) n := by
  have h1 : ns (prX D (atP c n) (lsP c n).length) (lsP c n).length = ns (fun i => ns (fun j => b01 (atP c n i < atP c n j ∧ D (atP c n i) (atP c n j))) (lsP c n).length) (lsP c n).length := by
    refine ns_cg _ (fun i hi => ns_cg _ (fun j hj => b01_cg ⟨fun z => ⟨atP_up n i j z.1 hj, z.2⟩, fun z => ⟨?_, z.2⟩⟩))
    rcases Nat.lt_trichotomy i j with q | q | q
    · exact q
    · exact absurd z.1 (by rw [q]; exact Nat.lt_irrefl _)
    · exact absurd z.1 (Nat.not_lt.mpr (Nat.le_of_lt (atP_up n j i q hi)))
  rw [h1, ns_ls (g := fun s => ns (fun j => b01 (s < atP c n j ∧ D s (atP c n j))) (lsP c n).length)]
  have h2 : ns (fun s => b01 (c s) * ns (fun j => b01 (s < atP c n j ∧ D s (atP c n j))) (lsP c n).length) n = ns (fun s => ns (fun t => b01 (c s) * (b01 (c t) * b01 (s < t ∧ D s t))) n) n := by
    refine ns_cg _ (fun s _ => ?_)
    rw [ns_ls (g := fun t => b01 (s < t ∧ D s t))]
    by_cases e : c s
    · rw [b01_y e, Nat.one_mul]; exact ns_cg _ (fun t _ => (Nat.one_mul _).symm)
    · rw [b01_n e, Nat.zero_mul]; exact (ns_0 n).symm.trans (ns_cg _ (fun t _ => (Nat.zero_mul _).symm))
  rw [h2, ns_swap]
  refine ns_cg _ (fun t ht => ?_)
  rw [ns_cut (t := t) n (by omega) (fun s h3 _ => by rw [b01_n (p := s < t ∧ D s t) (fun z => by omega), Nat.mul_zero, Nat.mul_zero])]
  refine ns_cg _ (fun s hs => ?_)
  unfold prY
  by_cases e : c s
  · by_cases e2 : c t
    · rw [b01_y e, b01_y e2, Nat.one_mul, Nat.one_mul]; exact b01_cg ⟨fun z => ⟨e2, e, (h s t).mp z.2⟩, fun z => ⟨hs, (h s t).mpr z.2.2⟩⟩
    · rw [b01_n e2, Nat.zero_mul, Nat.mul_zero, b01_n (fun z => e2 z.1)]
  · rw [b01_n e, Nat.zero_mul, b01_n (fun z => e z.2.1)]
/-- the difference told from either side -/
theorem absL_neg (x : Int64) : absL (-x) = absL x := by
  by_cases e : x.toInt = -9223372036854775808
  · have q : x = Int64.minValue := Int64.toInt_inj.mp (e.trans (by decide))
    rw [q]; decide
  · have b1 := Int64.le_toInt x
    have b2 := Int64.toInt_lt x
    have n1 : (-x).toInt = -x.toInt := by rw [Int64.toInt_neg, Int.bmod_def]; omega
    have z0 : (0 : Int64).toInt = 0 := rfl
    by_cases p : 0 < x.toInt
    · have p1 : 0 < x := Int64.lt_iff_toInt_lt.mpr (by omega)
      have p2 : ¬ 0 < -x := fun z => by have := Int64.lt_iff_toInt_lt.mp z; omega
      unfold absL; rw [if_pos p1, if_neg p2, Int64.neg_neg]
    · have p1 : ¬ 0 < x := fun z => p (by have := Int64.lt_iff_toInt_lt.mp z; omega)
      by_cases p0 : x.toInt = 0
      · have q : x = 0 := Int64.toInt_inj.mp (p0.trans z0.symm)
        rw [q]; decide
      · have p2 : 0 < -x := Int64.lt_iff_toInt_lt.mpr (by omega)
        unfold absL; rw [if_neg p1, if_pos p2]
theorem difL_sym {a b d k : Int64} {p : Int32} : difL a b d k p ↔ difL d k a b p := by
  unfold difL
  have e1 : absL (a * k - d * b) = absL (d * b - a * k) := by
    have : a * k - d * b = -(d * b - a * k) := by rw [Int64.neg_sub]
    rw [this, absL_neg]
  have e2 : p.toInt64 * b * k = p.toInt64 * k * b := by rw [Int64.mul_assoc, Int64.mul_comm b k, ← Int64.mul_assoc]
  rw [e1, e2]
/-- a number of a word's arithmetic -/
def oN (n : Nat) : Int32 := Int32.ofNat n
theorem oN_s {a b : Int32} {n : Nat} (h : a = oN n) (e : b = a + 1) : b = oN (n + 1) := by
  rw [e, h]; unfold oN; rw [Int32.ofNat_add]; rfl
theorem oN_0 {a b : Int32} {n : Nat} (h : a = oN n) (e : b = a + 0) : b = oN n := by rw [e, h]; exact Int32.add_zero _
theorem smC_dn {c : Nat → Prop} {ob ol : Nat → Int32} {b l : Int32} : ∀ n : Nat, n ≤ 60 → (∀ j : Nat, j < n → c j → (ob j).toInt = b.toInt ∧ (ol j).toInt = l.toInt) → 0 ≤ (smC c n).toInt ∧ (smC c n).toInt ≤ ((cn0 ob ol b l n : Nat) : Int) ∧ (smC c n).toInt ≤ (n : Int)
  | 0, _, _ => by
    have e2 : (smC c 0).toInt = 0 := by show (0 : Int32).toInt = 0; decide
    rw [e2]; exact ⟨by omega, by omega, by omega⟩
  | n + 1, hn, h => by
    obtain ⟨q1, q2, q3⟩ := smC_dn n (by omega) (fun j hj => h j (by omega))
    have z := h n (by omega)
    have k : cn0 ob ol b l (n + 1) = cn0 ob ol b l n + (if (ob n).toInt = b.toInt ∧ (ol n).toInt = l.toInt then 1 else 0) := rfl
    by_cases e : c n
    · have a1 : (smC c (n + 1)).toInt = (smC c n).toInt + 1 := by
        rw [smC_y rfl e]; exact z_add rfl rfl (by decide : (1 : Int32).toInt = 1) (by omega) (by omega)
      rw [if_pos (z e)] at k
      rw [a1, k]; exact ⟨by omega, by omega, by omega⟩
    · rw [smC_n rfl e, k]
      refine ⟨q1, ?_, by omega⟩
      split <;> omega

/-- numbers of those that hold, and hold something else, or don't -/
theorem lsP_sp {c p : Nat → Prop} : ∀ n : Nat, (lsP c n).length = (lsP (fun s => c s ∧ p s) n).length + (lsP (fun s => c s ∧ ¬ p s) n).length
  | 0 => rfl
  | n + 1 => by
    have q := lsP_sp (c := c) (p := p) n
    by_cases e : c n
    · by_cases z : p n
      · rw [lsP_y (c := c) rfl e, lsP_y (c := fun s => c s ∧ p s) rfl ⟨e, z⟩, lsP_n (c := fun s => c s ∧ ¬ p s) rfl (fun y => y.2 z), List.length_append, List.length_append, q]
        have hL : ([n] : List Nat).length = 1 := rfl
        omega
      · rw [lsP_y (c := c) rfl e, lsP_n (c := fun s => c s ∧ p s) rfl (fun y => z y.2), lsP_y (c := fun s => c s ∧ ¬ p s) rfl ⟨e, z⟩, List.length_append, List.length_append, q]
        have hL : ([n] : List Nat).length = 1 := rfl
        omega
    · rw [lsP_n (c := c) rfl e, lsP_n (c := fun s => c s ∧ p s) rfl (fun y => e y.1), lsP_n (c := fun s => c s ∧ ¬ p s) rfl (fun y => e y.1), q]
theorem lsP_or {a b w : Nat → Prop} (hd : ∀ s : Nat, ¬ (a s ∧ b s)) : ∀ n : Nat, (lsP (fun s => (a s ∨ b s) ∧ w s) n).length = (lsP (fun s => a s ∧ w s) n).length + (lsP (fun s => b s ∧ w s) n).length
  | 0 => rfl
  | n + 1 => by
    have q := lsP_or (w := w) hd n
    have hn := hd n
    by_cases z : w n
    · by_cases e : a n
      · have e2 : ¬ b n := fun y => hn ⟨e, y⟩
        rw [lsP_y (c := fun s => (a s ∨ b s) ∧ w s) rfl ⟨Or.inl e, z⟩, lsP_y (c := fun s => a s ∧ w s) rfl ⟨e, z⟩, lsP_n (c := fun s => b s ∧ w s) rfl (fun y => e2 y.1), List.length_append, List.length_append, q]
        have hL : ([n] : List Nat).length = 1 := rfl
        omega
      · by_cases e2 : b n
        · rw [lsP_y (c := fun s => (a s ∨ b s) ∧ w s) rfl ⟨Or.inr e2, z⟩, lsP_n (c := fun s => a s ∧ w s) rfl (fun y => e y.1), lsP_y (c := fun s => b s ∧ w s) rfl ⟨e2, z⟩, List.length_append, List.length_append, q]
          have hL : ([n] : List Nat).length = 1 := rfl
          omega
        · rw [lsP_n (c := fun s => (a s ∨ b s) ∧ w s) rfl (fun y => y.1.elim e e2), lsP_n (c := fun s => a s ∧ w s) rfl (fun y => e y.1), lsP_n (c := fun s => b s ∧ w s) rfl (fun y => e2 y.1), q]
    · rw [lsP_n (c := fun s => (a s ∨ b s) ∧ w s) rfl (fun y => z y.2), lsP_n (c := fun s => a s ∧ w s) rfl (fun y => z y.2), lsP_n (c := fun s => b s ∧ w s) rfl (fun y => z y.2), q]
theorem smC_sp {c p : Nat → Prop} {n : Nat} (hn : n ≤ 60) : (smC c n).toInt = (smC (fun s => c s ∧ p s) n).toInt + (smC (fun s => c s ∧ ¬ p s) n).toInt := by
  rw [lsP_sm n hn, lsP_sm n hn, lsP_sm n hn, lsP_sp (c := c) (p := p) n]; exact Int.natCast_add _ _
theorem smC_or {a b w : Nat → Prop} {n : Nat} (hd : ∀ s : Nat, ¬ (a s ∧ b s)) (hn : n ≤ 60) : (smC (fun s => (a s ∨ b s) ∧ w s) n).toInt = (smC (fun s => a s ∧ w s) n).toInt + (smC (fun s => b s ∧ w s) n).toInt := by
  rw [lsP_sm n hn, lsP_sm n hn, lsP_sm n hn, lsP_or (w := w) hd n]; exact Int.natCast_add _ _
/-- sums without some -/
noncomputable def caL (P W : Nat → Prop) (w : Nat → Int32) (n : Nat) : Int64 := smL (fun s => P s ∧ ¬ W s) w n
noncomputable def caC (P W : Nat → Prop) (n : Nat) : Int32 := smC (fun s => P s ∧ ¬ W s) n
theorem caL_y {P W : Nat → Prop} {w : Nat → Int32} {n n' : Nat} (h : n' = n + 1) (hc : P n ∧ ¬ W n) : caL P W w n' = caL P W w n + (w n).toInt64 := smL_y (c := fun s => P s ∧ ¬ W s) h hc
theorem caL_n {P W : Nat → Prop} {w : Nat → Int32} {n n' : Nat} (h : n' = n + 1) (hc : ¬ (P n ∧ ¬ W n)) : caL P W w n' = caL P W w n := smL_n (c := fun s => P s ∧ ¬ W s) h hc
theorem caC_y {P W : Nat → Prop} {n n' : Nat} (h : n' = n + 1) (hc : P n ∧ ¬ W n) : caC P W n' = caC P W n + 1 := smC_y (c := fun s => P s ∧ ¬ W s) h hc
theorem caC_n {P W : Nat → Prop} {n n' : Nat} (h : n' = n + 1) (hc : ¬ (P n ∧ ¬ W n)) : caC P W n' = caC P W n := smC_n (c := fun s => P s ∧ ¬ W s) h hc
theorem caL_0 {P W : Nat → Prop} {w : Nat → Int32} {n : Nat} (h : ∀ s : Nat, s < n → ¬ W s) : caL P W w n = smL P w n := smL_cg n (fun j hj => ⟨⟨fun z => z.1, fun z => ⟨z, h j hj⟩⟩, rfl⟩)
theorem caC_0 {P W : Nat → Prop} {n : Nat} (h : ∀ s : Nat, s < n → ¬ W s) : caC P W n = smC P n := smC_cg n (fun j hj => ⟨fun z => z.1, fun z => ⟨z, h j hj⟩⟩)
theorem caL_cg {P Q W V : Nat → Prop} {w v : Nat → Int32} {n : Nat} (h : ∀ s : Nat, s < n → (P s ↔ Q s)) (hw : ∀ s : Nat, s < n → P s → (W s ↔ V s)) (hv : ∀ s : Nat, s < n → w s = v s) : caL P W w n = caL Q V v n :=
  smL_cg n (fun j hj => ⟨⟨fun z => ⟨(h j hj).mp z.1, fun y => z.2 ((hw j hj z.1).mpr y)⟩, fun z => ⟨(h j hj).mpr z.1, fun y => z.2 ((hw j hj ((h j hj).mpr z.1)).mp y)⟩⟩, hv j hj⟩)
theorem caC_cg {P Q W V : Nat → Prop} {n : Nat} (h : ∀ s : Nat, s < n → (P s ↔ Q s)) (hw : ∀ s : Nat, s < n → P s → (W s ↔ V s)) : caC P W n = caC Q V n :=
  smC_cg n (fun j hj => ⟨fun z => ⟨(h j hj).mp z.1, fun y => z.2 ((hw j hj z.1).mpr y)⟩, fun z => ⟨(h j hj).mpr z.1, fun y => z.2 ((hw j hj ((h j hj).mpr z.1)).mp y)⟩⟩)
theorem caI_cg {P Q W V : Nat → Prop} {n : Nat} (h : ∀ s : Nat, s < n → (P s ↔ Q s)) (hw : ∀ s : Nat, s < n → P s → (W s ↔ V s)) : smC (fun s => P s ∧ W s) n = smC (fun s => Q s ∧ V s) n :=
  smC_cg n (fun j hj => ⟨fun z => ⟨(h j hj).mp z.1, (hw j hj z.1).mp z.2⟩, fun z => ⟨(h j hj).mpr z.1, (hw j hj ((h j hj).mpr z.1)).mpr z.2⟩⟩)
/-- two looks part; without some they don't -/
def PaR (P0 P1 : Nat → Prop) (ra dr : Nat → Int32) (n : Nat) (p : Int32) : Prop := 0 < (smC P0 n).toInt ∧ 0 < (smC P1 n).toInt ∧ difL (smL P0 dr n) (smL P0 ra n) (smL P1 dr n) (smL P1 ra n) p
def DpR (P0 P1 W : Nat → Prop) (ra dr : Nat → Int32) (n : Nat) (p : Int32) : Prop := 0 < (caC P0 W n).toInt ∧ 0 < (caC P1 W n).toInt ∧ difL (caL P0 W dr n) (caL P0 W ra n) (caL P1 W dr n) (caL P1 W ra n) p
def AgR (P0 P1 W : Nat → Prop) (ra dr : Nat → Int32) (n : Nat) (few : Int) (p : Int32) : Prop := few ≤ (smC (fun s => P0 s ∧ W s) n).toInt + (smC (fun s => P1 s ∧ W s) n).toInt ∧ 0 < (caC P0 W n).toInt ∧ 0 < (caC P1 W n).toInt ∧ ¬ difL (caL P0 W dr n) (caL P0 W ra n) (caL P1 W dr n) (caL P1 W ra n) p
theorem DpR_0 {P0 P1 W : Nat → Prop} {ra dr : Nat → Int32} {n : Nat} {p : Int32} (h : ∀ s : Nat, s < n → ¬ W s) : DpR P0 P1 W ra dr n p ↔ PaR P0 P1 ra dr n p := by
  unfold DpR PaR
  rw [caC_0 h, caC_0 h, caL_0 h, caL_0 h, caL_0 h, caL_0 h]
theorem PaR_cg {P0 P1 Q0 Q1 : Nat → Prop} {ra dr rb db : Nat → Int32} {n : Nat} {p : Int32} (h0 : ∀ s : Nat, s < n → (P0 s ↔ Q0 s)) (h1 : ∀ s : Nat, s < n → (P1 s ↔ Q1 s)) (hr : ∀ s : Nat, s < n → ra s = rb s) (hd : ∀ s : Nat, s < n → dr s = db s) : PaR P0 P1 ra dr n p ↔ PaR Q0 Q1 rb db n p := by
  unfold PaR
  rw [smC_cg n h0, smC_cg n h1, smL_cg n (fun j hj => ⟨h0 j hj, hd j hj⟩), smL_cg n (fun j hj => ⟨h0 j hj, hr j hj⟩), smL_cg n (fun j hj => ⟨h1 j hj, hd j hj⟩), smL_cg n (fun j hj => ⟨h1 j hj, hr j hj⟩)]
theorem AgR_cg {P0 P1 Q0 Q1 W V : Nat → Prop} {ra dr rb db : Nat → Int32} {n : Nat} {few : Int} {p : Int32} (h0 : ∀ s : Nat, s < n → (P0 s ↔ Q0 s)) (h1 : ∀ s : Nat, s < n → (P1 s ↔ Q1 s)) (hw : ∀ s : Nat, s < n → (W s ↔ V s)) (hr : ∀ s : Nat, s < n → ra s = rb s) (hd : ∀ s : Nat, s < n → dr s = db s) : AgR P0 P1 W ra dr n few p ↔ AgR Q0 Q1 V rb db n few p := by
  have w0 : ∀ s : Nat, s < n → P0 s → (W s ↔ V s) := fun s hs _ => hw s hs
  have w1 : ∀ s : Nat, s < n → P1 s → (W s ↔ V s) := fun s hs _ => hw s hs
  unfold AgR
  rw [caI_cg h0 w0, caI_cg h1 w1, caC_cg h0 w0, caC_cg h1 w1, caL_cg h0 w0 hd, caL_cg h0 w0 hr, caL_cg h1 w1 hd, caL_cg h1 w1 hr]
/-- as the class finds it -/
theorem Ag_cl {P0 P1 W : Nat → Prop} {ra dr : Nat → Int32} {n : Nat} {few out : Int} {p : Int32} {A0 A1 : Nat → Int64} {A2 : Nat → Int32} (hn : n ≤ 60) (hd : ∀ s : Nat, ¬ (P0 s ∧ P1 s)) (h0 : A0 0 = caL P0 W ra n ∧ A1 0 = caL P0 W dr n ∧ A2 0 = caC P0 W n) (h1 : A0 1 = caL P1 W ra n ∧ A1 1 = caL P1 W dr n ∧ A2 1 = caC P1 W n) (ho : out = (smC (fun s => (P0 s ∨ P1 s) ∧ W s) n).toInt) : (few ≤ out ∧ 0 < (A2 0).toInt ∧ 0 < (A2 1).toInt ∧ ¬ difL (A1 0) (A0 0) (A1 1) (A0 1) p) ↔ AgR P0 P1 W ra dr n few p := by
  unfold AgR
  rw [ho, smC_or hd hn, h0.1, h0.2.1, h0.2.2, h1.1, h1.2.1, h1.2.2]
/-- as the reference does -/
theorem Ag_rf {P0 P1 W W0 : Nat → Prop} {ra dr : Nat → Int32} {n : Nat} {few a0 a1 l0 l1 tk : Int} {p : Int32} (hn : n ≤ 60) (hw : ∀ s : Nat, s < n → ¬ W0 s) (h1 : a0 = (caC P0 W0 n).toInt) (h2 : a1 = (caC P1 W0 n).toInt) (h3 : l0 = (caC P0 W n).toInt) (h4 : l1 = (caC P1 W n).toInt) (ht : tk = a0 - l0 + a1 - l1) : (few ≤ tk ∧ 0 < l0 ∧ 0 < l1 ∧ ¬ difL (caL P0 W dr n) (caL P0 W ra n) (caL P1 W dr n) (caL P1 W ra n) p) ↔ AgR P0 P1 W ra dr n few p := by
  rw [caC_0 hw, smC_sp (p := W) hn] at h1 h2
  have e : tk = (smC (fun s => P0 s ∧ W s) n).toInt + (smC (fun s => P1 s ∧ W s) n).toInt := by
    have z3 : l0 = (smC (fun s => P0 s ∧ ¬ W s) n).toInt := h3
    have z4 : l1 = (smC (fun s => P1 s ∧ ¬ W s) n).toInt := h4
    omega
  unfold AgR
  rw [e, h3, h4]
/-- the i-th of a listing, or how many, as it is asked -/
def CuR (Q : Nat → Prop) (T : Nat) (i r : Int) : Prop := (i = -1 ∧ r = ((lsP Q T).length : Int)) ∨ (i ≠ -1 ∧ (0 ≤ i ∧ i < ((lsP Q T).length : Int)) ∧ r = ((atP Q T i.toNat : Nat) : Int)) ∨ (i ≠ -1 ∧ ¬ (0 ≤ i ∧ i < ((lsP Q T).length : Int)) ∧ r = -1)
theorem lsP_at {Q : Nat → Prop} {k : Nat} (hQ : Q k) : ∀ T : Nat, k < T → atP Q T (lsP Q k).length = k ∧ (lsP Q k).length < (lsP Q T).length
  | 0, h => absurd h (Nat.not_lt_zero k)
  | T + 1, h => by
    by_cases e : k = T
    · rw [e] at hQ ⊢
      have a1 : lsP Q (T + 1) = lsP Q T ++ [T] := lsP_y rfl hQ
      have hL : ([T] : List Nat).length = 1 := rfl
      unfold atP
      rw [a1, getD_e rfl, List.length_append]
      exact ⟨rfl, by omega⟩
    · have q := lsP_at hQ T (by omega)
      by_cases z : Q T
      · have a1 : lsP Q (T + 1) = lsP Q T ++ [T] := lsP_y rfl z
        unfold atP at q ⊢
        rw [a1, getD_l q.2, List.length_append]
        exact ⟨q.1, Nat.lt_of_lt_of_le q.2 (Nat.le_add_right _ _)⟩
      · have a1 : lsP Q (T + 1) = lsP Q T := lsP_n rfl z
        unfold atP at q ⊢
        rw [a1]; exact q
theorem Cu_hit {Q : Nat → Prop} {T k : Nat} {i r : Int} (hk : k < T) (hQ : Q k) (hi : i = ((lsP Q k).length : Int)) (hr : r = (k : Int)) : CuR Q T i r := by
  have q := lsP_at hQ T hk
  have e : i.toNat = (lsP Q k).length := by omega
  refine Or.inr (Or.inl ⟨by omega, ⟨by omega, by omega⟩, ?_⟩)
  rw [e, q.1]; exact hr
theorem lsP_cut {c : Nat → Prop} {m n : Nat} (h : m ≤ n) (hc : ∀ j : Nat, m ≤ j → j < n → ¬ c j) : lsP c n = lsP c m := by
  obtain ⟨k, rfl⟩ : ∃ k : Nat, n = m + k := ⟨n - m, by omega⟩
  clear h
  induction k with
  | zero => rfl
  | succ k ih =>
    rw [lsP_n (n := m + k) (n' := m + (k + 1)) rfl (hc (m + k) (by omega) (by omega))]
    exact ih (fun j h1 h2 => hc j h1 (by omega))
/-- a listing kept in a row: one more, or none -/
def LsA (Q : Nat → Prop) (T : Nat) (n : Int) (f : Nat → Int32) : Prop := n = ((lsP Q T).length : Int) ∧ ∀ j : Nat, j < (lsP Q T).length → (f j).toInt = ((atP Q T j : Nat) : Int)
theorem LsA_0 {Q : Nat → Prop} {n : Int} {f : Nat → Int32} (h : n = 0) : LsA Q 0 n f := ⟨h, fun j hj => absurd hj (Nat.not_lt_zero j)⟩
theorem LsA_y {Q : Nat → Prop} {T T' : Nat} {n n' : Int} {f f' : Nat → Int32} (hT : T' = T + 1) (h : LsA Q T n f) (hQ : Q T) (hn : n' = n + 1) (hf : (f' n.toNat).toInt = (T : Int)) (ho : ∀ j : Nat, j ≠ n.toNat → f' j = f j) : LsA Q T' n' f' := by
  have a1 : lsP Q T' = lsP Q T ++ [T] := lsP_y hT hQ
  have a2 : (lsP Q T').length = (lsP Q T).length + 1 := by rw [a1, List.length_append]; rfl
  have h1 := h.1
  have a3 : n.toNat = (lsP Q T).length := by omega
  refine ⟨by omega, fun j hj => ?_⟩
  unfold atP
  rw [a1]
  by_cases z : j = (lsP Q T).length
  · rw [getD_e z, z, ← a3]; exact hf
  · rw [getD_l (by omega), ho j (by omega)]; exact h.2 j (by omega)
theorem LsA_n {Q : Nat → Prop} {T T' : Nat} {n n' : Int} {f f' : Nat → Int32} (hT : T' = T + 1) (h : LsA Q T n f) (hQ : ¬ Q T) (hn : n' = n) (ho : ∀ j : Nat, f' j = f j) : LsA Q T' n' f' := by
  have a1 : lsP Q T' = lsP Q T := lsP_n hT hQ
  unfold LsA atP
  rw [a1, hn]
  exact ⟨h.1, fun j hj => by rw [ho j]; exact h.2 j hj⟩
theorem LsA_cut {Q : Nat → Prop} {T T' : Nat} {n : Int} {f : Nat → Int32} (h : LsA Q T n f) (hT : T ≤ T') (hc : ∀ j : Nat, T ≤ j → j < T' → ¬ Q j) : LsA Q T' n f := by
  unfold LsA atP
  rw [lsP_cut hT hc]; exact h
theorem CuR_un {P Q : Nat → Prop} {T : Nat} {i r s : Int} (h : ∀ j : Nat, j < T → (P j ↔ Q j)) (h1 : CuR P T i r) (h2 : CuR Q T i s) : r = s := by
  unfold CuR atP at h1 h2
  rw [lsP_cg T h] at h1
  rcases h1 with ⟨a1, a2⟩ | ⟨a1, a2, a3⟩ | ⟨a1, a2, a3⟩
  · rcases h2 with ⟨b1, b2⟩ | ⟨b1, -⟩ | ⟨b1, -⟩
    · rw [a2, b2]
    · exact absurd a1 b1
    · exact absurd a1 b1
  · rcases h2 with ⟨b1, -⟩ | ⟨b1, b2, b3⟩ | ⟨b1, b2, b3⟩
    · exact absurd b1 a1
    · rw [a3, b3]
    · exact absurd a2 b2
  · rcases h2 with ⟨b1, -⟩ | ⟨b1, b2, b3⟩ | ⟨b1, b2, b3⟩
    · exact absurd b1 a1
    · exact absurd b2 a2
    · rw [a3, b3]
/-- what a code leaves out -/
def owX (rw_ : Nat → Int32) (c : Int) (s : Nat) : Prop := (c < 10 ∧ (rw_ (9 * s + 5)).toInt = c) ∨ (10 ≤ c ∧ c < 100 ∧ (rw_ (9 * s + 6)).toInt = c - 10) ∨ (100 ≤ c ∧ (s : Int) = c - 100)
def owY (ov ha : Nat → Int32) (o h t : Int) (s : Nat) : Prop := (ov s).toInt = o ∨ (ha s).toInt = h ∨ (s : Int) = t
theorem owX_5 {rw_ : Nat → Int32} {c : Int} (h : c < 10) (s : Nat) : (rw_ (9 * s + 5)).toInt = c ↔ owX rw_ c s := by
  unfold owX
  constructor <;> intro z <;> omega
theorem owX_6 {rw_ : Nat → Int32} {c v : Int} (h : 10 ≤ c ∧ c < 100) (hv : v = c - 10) (s : Nat) : (rw_ (9 * s + 6)).toInt = v ↔ owX rw_ c s := by
  unfold owX
  constructor <;> intro z <;> omega
theorem owX_9 {rw_ : Nat → Int32} {c v : Int} (h : 100 ≤ c) (hv : v = c - 100) (s : Nat) : (s : Int) = v ↔ owX rw_ c s := by
  unfold owX
  constructor <;> intro z <;> omega
def caF (c : Int) : Int := if c < 100 then 2 else 1
def CaX (rw_ : Nat → Int32) (b d : Int) (n : Nat) (p : Int32) (c : Int) : Prop := (c < 4 ∨ (10 ≤ c ∧ c < 18) ∨ (100 ≤ c ∧ (cxP rw_ b d 0 (c.toNat - 100) ∨ cxP rw_ b d 1 (c.toNat - 100)))) ∧ AgR (cxP rw_ b d 0) (cxP rw_ b d 1) (owX rw_ c) (fun s => rw_ (9 * s + 3)) (fun s => rw_ (9 * s + 4)) n (caF c) p
def CaY (ob ol dy lo ra dr ov ha : Nat → Int32) (b d : Int) (n : Nat) (p : Int32) (c : Int) : Prop := (c < 4 ∧ AgR (cyP ob ol dy lo b d 0) (cyP ob ol dy lo b d 1) (owY ov ha c (-1) (-1)) ra dr n 2 p) ∨ ((10 ≤ c ∧ c < 18) ∧ AgR (cyP ob ol dy lo b d 0) (cyP ob ol dy lo b d 1) (owY ov ha (-1) (c - 10) (-1)) ra dr n 2 p) ∨ (100 ≤ c ∧ (cyP ob ol dy lo b d 0 (c.toNat - 100) ∨ cyP ob ol dy lo b d 1 (c.toNat - 100)) ∧ AgR (cyP ob ol dy lo b d 0) (cyP ob ol dy lo b d 1) (owY ov ha (-1) (-1) (c - 100)) ra dr n 1 p)
def SuX (rw_ : Nat → Int32) (b d c : Int) : Prop := c < 4 ∨ (10 ≤ c ∧ c < 18) ∨ (100 ≤ c ∧ (cxP rw_ b d 0 (c.toNat - 100) ∨ cxP rw_ b d 1 (c.toNat - 100)))
theorem cxP_d {rw_ : Nat → Int32} {b d : Int} (s : Nat) : ¬ (cxP rw_ b d 0 s ∧ cxP rw_ b d 1 s) := fun h => by
  have h1 : (rw_ (9 * s + 1)).toInt = 0 := h.1.2.1
  have h2 : (rw_ (9 * s + 1)).toInt = 1 := h.2.2.1
  omega
theorem Ca_xy {n : Int} {rw_ ob ol sc ra dr ov ha dy lo : Nat → Int32} (h : RoE n rw_ ob ol sc ra dr ov ha dy lo) (hl : ∀ j : Nat, -1 ≤ (lo j).toInt) (ho : ∀ j : Nat, 0 ≤ (ov j).toInt) (hh : ∀ j : Nat, 0 ≤ (ha j).toInt) (b d : Int) (p : Int32) {c : Nat} (hc : (c : Int) < 100 + n) : CaX rw_ b d n.toNat p (c : Int) ↔ CaY ob ol dy lo ra dr ov ha b d n.toNat p (c : Int) := by
  have h0 : ∀ l : Int, ∀ s : Nat, s < n.toNat → (cxP rw_ b d l s ↔ cyP ob ol dy lo b d l s) := fun l s hs => RoE_c h hl b d l (by omega)
  have hr : ∀ s : Nat, s < n.toNat → rw_ (9 * s + 3) = ra s := fun s hs => (h s (by omega)).2.2.2.1
  have hd : ∀ s : Nat, s < n.toNat → rw_ (9 * s + 4) = dr s := fun s hs => (h s (by omega)).2.2.2.2.1
  have h5 : ∀ s : Nat, s < n.toNat → rw_ (9 * s + 5) = ov s := fun s hs => (h s (by omega)).2.2.2.2.2.1
  have h6 : ∀ s : Nat, s < n.toNat → rw_ (9 * s + 6) = ha s := fun s hs => (h s (by omega)).2.2.2.2.2.2.1
  have ag : ∀ (V : Nat → Prop) (few : Int), (∀ s : Nat, s < n.toNat → (owX rw_ (c : Int) s ↔ V s)) → (AgR (cxP rw_ b d 0) (cxP rw_ b d 1) (owX rw_ (c : Int)) (fun s => rw_ (9 * s + 3)) (fun s => rw_ (9 * s + 4)) n.toNat few p ↔ AgR (cyP ob ol dy lo b d 0) (cyP ob ol dy lo b d 1) V ra dr n.toNat few p) := fun V few hw => AgR_cg (h0 0) (h0 1) hw hr hd
  have g1 : (c : Int) < 10 → (AgR (cxP rw_ b d 0) (cxP rw_ b d 1) (owX rw_ (c : Int)) (fun s => rw_ (9 * s + 3)) (fun s => rw_ (9 * s + 4)) n.toNat 2 p ↔ AgR (cyP ob ol dy lo b d 0) (cyP ob ol dy lo b d 1) (owY ov ha (c : Int) (-1) (-1)) ra dr n.toNat 2 p) := fun z => ag _ 2 (fun s hs => by
    have e5 := congrArg Int32.toInt (h5 s hs)
    have e7 := hh s
    unfold owX owY
    constructor <;> intro z9 <;> omega)
  have g2 : 10 ≤ (c : Int) → (c : Int) < 100 → (AgR (cxP rw_ b d 0) (cxP rw_ b d 1) (owX rw_ (c : Int)) (fun s => rw_ (9 * s + 3)) (fun s => rw_ (9 * s + 4)) n.toNat 2 p ↔ AgR (cyP ob ol dy lo b d 0) (cyP ob ol dy lo b d 1) (owY ov ha (-1) ((c : Int) - 10) (-1)) ra dr n.toNat 2 p) := fun z z2 => ag _ 2 (fun s hs => by
    have e6 := congrArg Int32.toInt (h6 s hs)
    have e7 := ho s
    unfold owX owY
    constructor <;> intro z9 <;> omega)
  have g3 : 100 ≤ (c : Int) → (AgR (cxP rw_ b d 0) (cxP rw_ b d 1) (owX rw_ (c : Int)) (fun s => rw_ (9 * s + 3)) (fun s => rw_ (9 * s + 4)) n.toNat 1 p ↔ AgR (cyP ob ol dy lo b d 0) (cyP ob ol dy lo b d 1) (owY ov ha (-1) (-1) ((c : Int) - 100)) ra dr n.toNat 1 p) := fun z => ag _ 1 (fun s hs => by
    have e7 := ho s
    have e8 := hh s
    unfold owX owY
    constructor <;> intro z9 <;> omega)
  have f2 : (c : Int) < 100 → caF (c : Int) = 2 := fun z => if_pos z
  have f1 : 100 ≤ (c : Int) → caF (c : Int) = 1 := fun z => if_neg (by omega)
  constructor
  · rintro ⟨s1 | s2 | s3, k⟩
    · rw [f2 (by omega)] at k; exact Or.inl ⟨s1, (g1 (by omega)).mp k⟩
    · rw [f2 (by omega)] at k; exact Or.inr (Or.inl ⟨s2, (g2 (by omega) (by omega)).mp k⟩)
    · rw [f1 s3.1] at k
      refine Or.inr (Or.inr ⟨s3.1, ?_, (g3 s3.1).mp k⟩)
      have hs : (c : Int).toNat - 100 < n.toNat := by omega
      exact s3.2.elim (fun z => Or.inl ((h0 0 _ hs).mp z)) (fun z => Or.inr ((h0 1 _ hs).mp z))
  · rintro (⟨s1, k⟩ | ⟨s2, k⟩ | ⟨s3, s4, k⟩)
    · refine ⟨Or.inl s1, ?_⟩
      rw [f2 (by omega)]; exact (g1 (by omega)).mpr k
    · refine ⟨Or.inr (Or.inl s2), ?_⟩
      rw [f2 (by omega)]; exact (g2 (by omega) (by omega)).mpr k
    · have hs : (c : Int).toNat - 100 < n.toNat := by omega
      refine ⟨Or.inr (Or.inr ⟨s3, s4.elim (fun z => Or.inl ((h0 0 _ hs).mpr z)) (fun z => Or.inr ((h0 1 _ hs).mpr z))⟩), ?_⟩
      rw [f1 s3]; exact (g3 s3).mpr k
/-! ===== od2 ===== -/
set_option maxHeartbeats 4000000 in
set_option maxRecDepth 100000 in
/-- X2_lookAt -/
theorem c_X2_lookAt_w (l : Launch) (dC : Nat → ClassId) (dI : Nat → Nat → Nat) (sz : Nat) (h : Nat) (g : Nat → Nat → Nat) (ca : Nat → Nat → ClassId) (iv : Nat → Nat → Int32) (lv : Nat → Nat → Int64) (fa : Nat → Nat → Nat → Int32) (la : Nat → Nat → Nat → Int64) (hI : IX iv fa) (a : Int32) (b : Int32) (d : Int32) : Met l yX2_lookAt (wc yX2_lookAt cX2_lookAt 4 none) ({ frames := 0, cells := 0, slots := 0, locals := 0 } : Room) (pW (dC, dI) classes (WX h g ca iv lv fa la) (TX ca) sz [.ref (g 11 6), .int a, .int b, .int d]) (va_Qv (fun (u : SS) => ∃ (ni_2_3 : Int32) (ni_2_4 : Int32) (ni_2_5 : Int32), ((ni_2_3).toInt = a.toInt) ∧ ((ni_2_4).toInt = b.toInt) ∧ ((ni_2_5).toInt = d.toInt) ∧ u = ((u2 (u2 (u2 iv 2 3 ni_2_3) 2 4 ni_2_4) 2 5 ni_2_5), lv, fa, la)) (bX (dC, dI) h g ca (va_A (WX h g ca iv lv fa la) sz)) (va_A (WX h g ca iv lv fa la) sz)) 0 0 (va_A (WX h g ca iv lv fa la) sz) := by
  refine Met.ofW (cc := cX2_lookAt) (maxL := 4) (ret := none) (by decide) rfl ?_
  intro p e s m args below meth c s₁ B hml hv
  obtain ⟨rfl, hsz, hP, hK, hD0⟩ := hv
  have hx := B.exec
  have hb := B.bytes
  have hr := B.returns
  have ht := tb_tl (atoms_spec (ws := wc yX2_lookAt cX2_lookAt 4 none) B.pre)
  have hown : s.vm.findClass RX2 = some m.cls := findClass_of_methodNamed B.named
  have hlocks := B.notSynchronized
  subst hsz
  have hD := hD0.self (sz := s.heap.size)
  generalize hAe : va_A (WX h g ca iv lv fa la) s.heap.size = A at hD ⊢
  have hA : ∀ q : Nat, s.heap.size ≤ q → A q := fun q h => by rw [← hAe]; exact Or.inr h
  have hS : va_S A s.heap s.heap [] := va_S.rf
  have hl := lv_entry [.ref (g 11 6), .int a, .int b, .int d] (n := 4) (Nat.le_of_ble_eq_true rfl)
  rw [lg_entry_eq]
  generalize (lg_sl [.ref (g 11 6), .int a, .int b, .int d] ++ List.replicate (4 - (lg_sl [.ref (g 11 6), .int a, .int b, .int d]).length) Slot.unset).toArray = ls at hl ⊢
  have hl : lv_has ls 4 [(0, .ref (g 11 6)), (1, .int a), (2, .int b), (3, .int d)] := hl
  refine lv_aload_n hx hb dX2_lookAt_0 rfl (lv_at hl 0 rfl) ?_
  refine lv_iload_n hx hb dX2_lookAt_1 rfl (lv_at hl 1 rfl) ?_
  refine pX_2_3 (v := a) hx hb ht hown hK hP hD hS m_307 dX2_lookAt_2 (fun H locs hP hD hS => ?_)
  refine lv_aload_n hx hb dX2_lookAt_5 rfl (lv_at hl 0 rfl) ?_
  refine lv_iload_n hx hb dX2_lookAt_6 rfl (lv_at hl 2 rfl) ?_
  refine pX_2_4 (v := b) hx hb ht hown hK hP hD hS m_308 dX2_lookAt_7 (fun H locs hP hD hS => ?_)
  refine lv_aload_n hx hb dX2_lookAt_10 rfl (lv_at hl 0 rfl) ?_
  refine lv_iload_n hx hb dX2_lookAt_11 rfl (lv_at hl 3 rfl) ?_
  refine pX_2_5 (v := d) hx hb ht hown hK hP hD hS m_309 dX2_lookAt_12 (fun H locs hP hD hS => ?_)
  have hP9 : va_P (dC, dI) classes (WX h g ca (u2 (u2 (u2 iv 2 3 a) 2 4 b) 2 5 d) lv fa la) H := hP
  have hD9 : va_D A (WX h g ca (u2 (u2 (u2 iv 2 3 a) 2 4 b) 2 5 d) lv fa la) := hD
  exact W.vret hx hb hr (fun t ht9 hW => ⟨⟨((u2 (u2 (u2 iv 2 3 a) 2 4 b) 2 5 d), lv, fa, la), rfl, ⟨a, b, d, (show (a : Int32).toInt = (a).toInt from by omega), (show (b : Int32).toInt = (b).toInt from by omega), (show (d : Int32).toInt = (d).toInt from by omega), rfl⟩, by rw [ht9]; exact hP9, hD9⟩, hS.F ht9⟩) hS.2.2 dX2_lookAt_15
set_option maxHeartbeats 4000000 in
set_option maxRecDepth 100000 in
/-- X7_put -/
theorem c_X7_put_s20 (l : Launch) (dC : Nat → ClassId) (dI : Nat → Nat → Nat) (sz : Nat) (h : Nat) (g : Nat → Nat → Nat) (ca : Nat → Nat → ClassId) (iv : Nat → Nat → Int32) (lv : Nat → Nat → Int64) (fa : Nat → Nat → Nat → Int32) (la : Nat → Nat → Nat → Int64) (hI : IX iv fa) (a : Int32) (b : Int32) (d : Int32) (h_a : 0 ≤ a.toInt ∧ a.toInt ≤ 2) : Met l yX7_put (wc yX7_put cX7_put 4 none) ({ frames := 0, cells := 0, slots := 0, locals := 0 } : Room) (pW (dC, dI) classes (WX h g ca iv lv fa la) (TX ca) sz [.ref (g 2 1), .int a, .int b, .int d]) (va_Qv (fun (u : SS) => ∃ (na_20_2 : Nat → Int32) (nb_20_0 : Nat → Int64) (nb_20_1 : Nat → Int64), (∀ j : Nat, j ≠ a.toNatClampNeg → nb_20_0 j = (la 20 0) j) ∧ (∀ j : Nat, j ≠ a.toNatClampNeg → nb_20_1 j = (la 20 1) j) ∧ (∀ j : Nat, j ≠ a.toNatClampNeg → na_20_2 j = (fa 20 2) j) ∧ (nb_20_0 a.toNatClampNeg = (la 20 0) a.toNatClampNeg + (b).toInt64) ∧ (nb_20_1 a.toNatClampNeg = (la 20 1) a.toNatClampNeg + (d).toInt64) ∧ (na_20_2 a.toNatClampNeg = (fa 20 2) a.toNatClampNeg + 1) ∧ u = (iv, lv, (u2 fa 20 2 na_20_2), (u2 (u2 la 20 0 nb_20_0) 20 1 nb_20_1))) (bX (dC, dI) h g ca (va_A (WX h g ca iv lv fa la) sz)) (va_A (WX h g ca iv lv fa la) sz)) 0 0 (va_A (WX h g ca iv lv fa la) sz) := by
  refine Met.ofW (cc := cX7_put) (maxL := 4) (ret := none) (by decide) rfl ?_
  intro p e s m args below meth c s₁ B hml hv
  obtain ⟨rfl, hsz, hP, hK, hD0⟩ := hv
  have hx := B.exec
  have hb := B.bytes
  have hr := B.returns
  have ht := tb_tl (atoms_spec (ws := wc yX7_put cX7_put 4 none) B.pre)
  have hown : s.vm.findClass RX7 = some m.cls := findClass_of_methodNamed B.named
  have hlocks := B.notSynchronized
  subst hsz
  have hD := hD0.self (sz := s.heap.size)
  generalize hAe : va_A (WX h g ca iv lv fa la) s.heap.size = A at hD ⊢
  have hA : ∀ q : Nat, s.heap.size ≤ q → A q := fun q h => by rw [← hAe]; exact Or.inr h
  have hS : va_S A s.heap s.heap [] := va_S.rf
  have hl := lv_entry [.ref (g 2 1), .int a, .int b, .int d] (n := 4) (Nat.le_of_ble_eq_true rfl)
  rw [lg_entry_eq]
  generalize (lg_sl [.ref (g 2 1), .int a, .int b, .int d] ++ List.replicate (4 - (lg_sl [.ref (g 2 1), .int a, .int b, .int d]).length) Slot.unset).toArray = ls at hl ⊢
  have hl : lv_has ls 4 [(0, .ref (g 2 1)), (1, .int a), (2, .int b), (3, .int d)] := hl
  refine lv_aload_n hx hb dX7_put_0 rfl (lv_at hl 0 rfl) ?_
  refine gX_20_0 hx hb ht hown hK hP m_261 dX7_put_1 ?_
  refine lv_iload_n hx hb dX7_put_4 rfl (lv_at hl 1 rfl) ?_
  refine lv_dup2_11 hx hb dX7_put_5 rfl rfl ?_
  refine lX_20_0 hx hb hK hP (f := (la 20 0)) rfl (vp_in_iff.mpr ⟨by omega, by omega⟩) dX7_put_6 ?_
  refine lv_topl (fun w1 ew1 => ?_)
  refine lv_iload_n hx hb dX7_put_7 rfl (lv_at hl 2 rfl) ?_
  refine lv_i2l (v := (b.toInt64)) hx hb dX7_put_8 rfl ?_
  refine lv_ladd hx hb dX7_put_9 ?_
  refine lv_topl (fun w2 ew2 => ?_)
  refine tX_20_0 hx hb hK hP hD hS (f0 := (la 20 0)) rfl (i := a) (x := w2) (vp_in_iff.mpr ⟨by omega, by omega⟩) dX7_put_10 (fun f3 ef3 H locs hP hD hS => ?_)
  refine lv_aload_n hx hb dX7_put_11 rfl (lv_at hl 0 rfl) ?_
  refine gX_20_1 hx hb ht hown hK hP m_264 dX7_put_12 ?_
  refine lv_iload_n hx hb dX7_put_15 rfl (lv_at hl 1 rfl) ?_
  refine lv_dup2_11 hx hb dX7_put_16 rfl rfl ?_
  refine lX_20_1 hx hb hK hP (f := (la 20 1)) rfl (vp_in_iff.mpr ⟨by omega, by omega⟩) dX7_put_17 ?_
  refine lv_topl (fun w4 ew4 => ?_)
  refine lv_iload_n hx hb dX7_put_18 rfl (lv_at hl 3 rfl) ?_
  refine lv_i2l (v := (d.toInt64)) hx hb dX7_put_19 rfl ?_
  refine lv_ladd hx hb dX7_put_20 ?_
  refine lv_topl (fun w5 ew5 => ?_)
  refine tX_20_1 hx hb hK hP hD hS (f0 := (la 20 1)) rfl (i := a) (x := w5) (vp_in_iff.mpr ⟨by omega, by omega⟩) dX7_put_21 (fun f6 ef6 H locs hP hD hS => ?_)
  refine lv_aload_n hx hb dX7_put_22 rfl (lv_at hl 0 rfl) ?_
  refine gX_20_2 hx hb ht hown hK hP m_267 dX7_put_23 ?_
  refine lv_iload_n hx hb dX7_put_26 rfl (lv_at hl 1 rfl) ?_
  refine lv_dup2_11 hx hb dX7_put_27 rfl rfl ?_
  refine lX_20_2 hx hb hK hP (f := (fa 20 2)) rfl (vp_in_iff.mpr ⟨by omega, by omega⟩) dX7_put_28 ?_
  refine lv_topi (fun v7 ev7 => ?_)
  refine lv_iconst (v := 1) hx hb dX7_put_29 (by decide) ?_
  refine lv_iadd hx hb dX7_put_30 ?_
  refine lv_topi (fun v8 ev8 => ?_)
  refine tX_20_2 hx hb hK hP hD hS (f0 := (fa 20 2)) rfl (i := a) (x := v8) (vp_in_iff.mpr ⟨by omega, by omega⟩) dX7_put_31 (fun f9 ef9 H locs hP hD hS => ?_)
  have hf9 : ∀ j, inb (bA 20 2 j) (f9 j) := fun j => full_i _
  have hP9 : va_P (dC, dI) classes (WX h g ca iv lv (u2 fa 20 2 f9) (u2 (u2 la 20 0 f3) 20 1 f6)) H := hP
  have hD9 : va_D A (WX h g ca iv lv (u2 fa 20 2 f9) (u2 (u2 la 20 0 f3) 20 1 f6)) := hD
  exact W.vret hx hb hr (fun t ht9 hW => ⟨⟨(iv, lv, (u2 fa 20 2 f9), (u2 (u2 la 20 0 f3) 20 1 f6)), rfl, ⟨f9, f3, f6, (show ∀ j : Nat, j ≠ a.toNatClampNeg → f3 j = (la 20 0) j from fun j hj => by rw [ef3, updL_ne hj]), (show ∀ j : Nat, j ≠ a.toNatClampNeg → f6 j = (la 20 1) j from fun j hj => by rw [ef6, updL_ne hj]), (show ∀ j : Nat, j ≠ a.toNatClampNeg → f9 j = (fa 20 2) j from fun j hj => by rw [ef9, upd_ne hj]), (show f3 a.toNatClampNeg = (la 20 0) a.toNatClampNeg + (b).toInt64 from (by rw [ef3, updL_eq, ew2, ew1])), (show f6 a.toNatClampNeg = (la 20 1) a.toNatClampNeg + (d).toInt64 from (by rw [ef6, updL_eq, ew5, ew4])), (show f9 a.toNatClampNeg = (fa 20 2) a.toNatClampNeg + 1 from (by rw [ef9, upd_eq, ev8, ev7])), rfl⟩, by rw [ht9]; exact hP9, hD9⟩, hS.F ht9⟩) hS.2.2 dX7_put_32
set_option maxHeartbeats 4000000 in
set_option maxRecDepth 100000 in
/-- X7_clear -/
theorem c_X7_clear_s20 (l : Launch) (dC : Nat → ClassId) (dI : Nat → Nat → Nat) (sz : Nat) (h : Nat) (g : Nat → Nat → Nat) (ca : Nat → Nat → ClassId) (iv : Nat → Nat → Int32) (lv : Nat → Nat → Int64) (fa : Nat → Nat → Nat → Int32) (la : Nat → Nat → Nat → Int64) (hI : IX iv fa) : Met l yX7_clear (wc yX7_clear cX7_clear 2 none) ({ frames := 0, cells := 0, slots := 0, locals := 0 } : Room) (pW (dC, dI) classes (WX h g ca iv lv fa la) (TX ca) sz [.ref (g 2 1)]) (va_Qv (fun (u : SS) => ∃ (na_20_2 : Nat → Int32) (nb_20_0 : Nat → Int64) (nb_20_1 : Nat → Int64), (∀ j : Nat, j < 3 → nb_20_0 j = 0 ∧ nb_20_1 j = 0 ∧ na_20_2 j = 0) ∧ u = (iv, lv, (u2 fa 20 2 na_20_2), (u2 (u2 la 20 0 nb_20_0) 20 1 nb_20_1))) (bX (dC, dI) h g ca (va_A (WX h g ca iv lv fa la) sz)) (va_A (WX h g ca iv lv fa la) sz)) 0 0 (va_A (WX h g ca iv lv fa la) sz) := by
  refine Met.ofW (cc := cX7_clear) (maxL := 2) (ret := none) (by decide) rfl ?_
  intro p e s m args below meth c s₁ B hml hv
  obtain ⟨rfl, hsz, hP, hK, hD0⟩ := hv
  have hx := B.exec
  have hb := B.bytes
  have hr := B.returns
  have ht := tb_tl (atoms_spec (ws := wc yX7_clear cX7_clear 2 none) B.pre)
  have hown : s.vm.findClass RX7 = some m.cls := findClass_of_methodNamed B.named
  have hlocks := B.notSynchronized
  subst hsz
  have hD := hD0.self (sz := s.heap.size)
  generalize hAe : va_A (WX h g ca iv lv fa la) s.heap.size = A at hD ⊢
  have hA : ∀ q : Nat, s.heap.size ≤ q → A q := fun q h => by rw [← hAe]; exact Or.inr h
  have hS : va_S A s.heap s.heap [] := va_S.rf
  have hl := lv_entry [.ref (g 2 1)] (n := 2) (Nat.le_of_ble_eq_true rfl)
  rw [lg_entry_eq]
  generalize (lg_sl [.ref (g 2 1)] ++ List.replicate (2 - (lg_sl [.ref (g 2 1)]).length) Slot.unset).toArray = ls at hl ⊢
  have hl : lv_has ls 2 [(0, .ref (g 2 1))] := hl
  refine lv_iconst (v := 0) hx hb dX7_clear_0 (by decide) ?_
  refine lv_istore_n (lv' := [(1, .int 0), (0, .ref (g 2 1))]) hx hb dX7_clear_1 rfl hl (by decide) rfl (fun ls hl => ?_)
  refine lv_iload_n hx hb dX7_clear_2 rfl (lv_at hl 0 rfl) ?_
  refine lv_iconst (v := 3) hx hb dX7_clear_3 (by decide) ?_
  refine lv_icmp_ge (tgt := 34) hx hb dX7_clear_4 (by decide) (fun c1 => ?_) (fun c1 => ?_)
  · exact absurd c1 (by decide)
  · skip
    refine lv_aload_n hx hb dX7_clear_7 rfl (lv_at hl 1 rfl) ?_
    refine gX_20_0 hx hb ht hown hK hP m_261 dX7_clear_8 ?_
    refine lv_iload_n hx hb dX7_clear_11 rfl (lv_at hl 0 rfl) ?_
    refine lv_lconst (v := 0) hx hb dX7_clear_12 (by decide) ?_
    refine tX_20_0 hx hb hK hP hD hS (f0 := (la 20 0)) rfl (i := 0) (x := 0) (vp_in_iff.mpr (by decide)) dX7_clear_13 (fun f2 ef2 H locs hP hD hS => ?_)
    refine lv_aload_n hx hb dX7_clear_14 rfl (lv_at hl 1 rfl) ?_
    refine gX_20_1 hx hb ht hown hK hP m_264 dX7_clear_15 ?_
    refine lv_iload_n hx hb dX7_clear_18 rfl (lv_at hl 0 rfl) ?_
    refine lv_lconst (v := 0) hx hb dX7_clear_19 (by decide) ?_
    refine tX_20_1 hx hb hK hP hD hS (f0 := (la 20 1)) rfl (i := 0) (x := 0) (vp_in_iff.mpr (by decide)) dX7_clear_20 (fun f3 ef3 H locs hP hD hS => ?_)
    refine lv_aload_n hx hb dX7_clear_21 rfl (lv_at hl 1 rfl) ?_
    refine gX_20_2 hx hb ht hown hK hP m_267 dX7_clear_22 ?_
    refine lv_iload_n hx hb dX7_clear_25 rfl (lv_at hl 0 rfl) ?_
    refine lv_iconst (v := 0) hx hb dX7_clear_26 (by decide) ?_
    refine tX_20_2 hx hb hK hP hD hS (f0 := (fa 20 2)) rfl (i := 0) (x := 0) (vp_in_iff.mpr (by decide)) dX7_clear_27 (fun f4 ef4 H locs hP hD hS => ?_)
    have hf4 : ∀ j, inb (bA 20 2 j) (f4 j) := fun j => full_i _
    refine lv_iinc (v := 1) (lv' := [(1, .int 1), (0, .ref (g 2 1))]) hx hb dX7_clear_28 hl (k := 0) rfl (by decide) (by decide) rfl (fun ls hl => ?_)
    refine lv_goto (tgt := 2) hx hb dX7_clear_31 (by decide) ?_
    refine lv_iload_n hx hb dX7_clear_2 rfl (lv_at hl 0 rfl) ?_
    refine lv_iconst (v := 3) hx hb dX7_clear_3 (by decide) ?_
    refine lv_icmp_ge (tgt := 34) hx hb dX7_clear_4 (by decide) (fun c5 => ?_) (fun c5 => ?_)
    · exact absurd c5 (by decide)
    · skip
      refine lv_aload_n hx hb dX7_clear_7 rfl (lv_at hl 1 rfl) ?_
      refine gX_20_0 hx hb ht hown hK hP m_261 dX7_clear_8 ?_
      refine lv_iload_n hx hb dX7_clear_11 rfl (lv_at hl 0 rfl) ?_
      refine lv_lconst (v := 0) hx hb dX7_clear_12 (by decide) ?_
      refine tX_20_0 hx hb hK hP hD hS (f0 := f2) rfl (i := 1) (x := 0) (vp_in_iff.mpr (by decide)) dX7_clear_13 (fun f6 ef6 H locs hP hD hS => ?_)
      have hP : va_P (dC, dI) classes (WX h g ca iv lv (u2 fa 20 2 f4) (u2 (u2 la 20 0 f6) 20 1 f3)) H := hP
      have hD : va_D A (WX h g ca iv lv (u2 fa 20 2 f4) (u2 (u2 la 20 0 f6) 20 1 f3)) := hD
      refine lv_aload_n hx hb dX7_clear_14 rfl (lv_at hl 1 rfl) ?_
      refine gX_20_1 hx hb ht hown hK hP m_264 dX7_clear_15 ?_
      refine lv_iload_n hx hb dX7_clear_18 rfl (lv_at hl 0 rfl) ?_
      refine lv_lconst (v := 0) hx hb dX7_clear_19 (by decide) ?_
      refine tX_20_1 hx hb hK hP hD hS (f0 := f3) rfl (i := 1) (x := 0) (vp_in_iff.mpr (by decide)) dX7_clear_20 (fun f7 ef7 H locs hP hD hS => ?_)
      have hP : va_P (dC, dI) classes (WX h g ca iv lv (u2 fa 20 2 f4) (u2 (u2 la 20 0 f6) 20 1 f7)) H := hP
      have hD : va_D A (WX h g ca iv lv (u2 fa 20 2 f4) (u2 (u2 la 20 0 f6) 20 1 f7)) := hD
      refine lv_aload_n hx hb dX7_clear_21 rfl (lv_at hl 1 rfl) ?_
      refine gX_20_2 hx hb ht hown hK hP m_267 dX7_clear_22 ?_
      refine lv_iload_n hx hb dX7_clear_25 rfl (lv_at hl 0 rfl) ?_
      refine lv_iconst (v := 0) hx hb dX7_clear_26 (by decide) ?_
      refine tX_20_2 hx hb hK hP hD hS (f0 := f4) rfl (i := 1) (x := 0) (vp_in_iff.mpr (by decide)) dX7_clear_27 (fun f8 ef8 H locs hP hD hS => ?_)
      have hf8 : ∀ j, inb (bA 20 2 j) (f8 j) := fun j => full_i _
      have hP : va_P (dC, dI) classes (WX h g ca iv lv (u2 fa 20 2 f8) (u2 (u2 la 20 0 f6) 20 1 f7)) H := hP
      have hD : va_D A (WX h g ca iv lv (u2 fa 20 2 f8) (u2 (u2 la 20 0 f6) 20 1 f7)) := hD
      refine lv_iinc (v := 2) (lv' := [(1, .int 2), (0, .ref (g 2 1))]) hx hb dX7_clear_28 hl (k := 0) rfl (by decide) (by decide) rfl (fun ls hl => ?_)
      refine lv_goto (tgt := 2) hx hb dX7_clear_31 (by decide) ?_
      refine lv_iload_n hx hb dX7_clear_2 rfl (lv_at hl 0 rfl) ?_
      refine lv_iconst (v := 3) hx hb dX7_clear_3 (by decide) ?_
      refine lv_icmp_ge (tgt := 34) hx hb dX7_clear_4 (by decide) (fun c9 => ?_) (fun c9 => ?_)
      · exact absurd c9 (by decide)
      · skip
        refine lv_aload_n hx hb dX7_clear_7 rfl (lv_at hl 1 rfl) ?_
        refine gX_20_0 hx hb ht hown hK hP m_261 dX7_clear_8 ?_
        refine lv_iload_n hx hb dX7_clear_11 rfl (lv_at hl 0 rfl) ?_
        refine lv_lconst (v := 0) hx hb dX7_clear_12 (by decide) ?_
        refine tX_20_0 hx hb hK hP hD hS (f0 := f6) rfl (i := 2) (x := 0) (vp_in_iff.mpr (by decide)) dX7_clear_13 (fun f10 ef10 H locs hP hD hS => ?_)
        have hP : va_P (dC, dI) classes (WX h g ca iv lv (u2 fa 20 2 f8) (u2 (u2 la 20 0 f10) 20 1 f7)) H := hP
        have hD : va_D A (WX h g ca iv lv (u2 fa 20 2 f8) (u2 (u2 la 20 0 f10) 20 1 f7)) := hD
        refine lv_aload_n hx hb dX7_clear_14 rfl (lv_at hl 1 rfl) ?_
        refine gX_20_1 hx hb ht hown hK hP m_264 dX7_clear_15 ?_
        refine lv_iload_n hx hb dX7_clear_18 rfl (lv_at hl 0 rfl) ?_
        refine lv_lconst (v := 0) hx hb dX7_clear_19 (by decide) ?_
        refine tX_20_1 hx hb hK hP hD hS (f0 := f7) rfl (i := 2) (x := 0) (vp_in_iff.mpr (by decide)) dX7_clear_20 (fun f11 ef11 H locs hP hD hS => ?_)
        have hP : va_P (dC, dI) classes (WX h g ca iv lv (u2 fa 20 2 f8) (u2 (u2 la 20 0 f10) 20 1 f11)) H := hP
        have hD : va_D A (WX h g ca iv lv (u2 fa 20 2 f8) (u2 (u2 la 20 0 f10) 20 1 f11)) := hD
        refine lv_aload_n hx hb dX7_clear_21 rfl (lv_at hl 1 rfl) ?_
        refine gX_20_2 hx hb ht hown hK hP m_267 dX7_clear_22 ?_
        refine lv_iload_n hx hb dX7_clear_25 rfl (lv_at hl 0 rfl) ?_
        refine lv_iconst (v := 0) hx hb dX7_clear_26 (by decide) ?_
        refine tX_20_2 hx hb hK hP hD hS (f0 := f8) rfl (i := 2) (x := 0) (vp_in_iff.mpr (by decide)) dX7_clear_27 (fun f12 ef12 H locs hP hD hS => ?_)
        have hf12 : ∀ j, inb (bA 20 2 j) (f12 j) := fun j => full_i _
        have hP : va_P (dC, dI) classes (WX h g ca iv lv (u2 fa 20 2 f12) (u2 (u2 la 20 0 f10) 20 1 f11)) H := hP
        have hD : va_D A (WX h g ca iv lv (u2 fa 20 2 f12) (u2 (u2 la 20 0 f10) 20 1 f11)) := hD
        refine lv_iinc (v := 3) (lv' := [(1, .int 3), (0, .ref (g 2 1))]) hx hb dX7_clear_28 hl (k := 0) rfl (by decide) (by decide) rfl (fun ls hl => ?_)
        refine lv_goto (tgt := 2) hx hb dX7_clear_31 (by decide) ?_
        refine lv_iload_n hx hb dX7_clear_2 rfl (lv_at hl 0 rfl) ?_
        refine lv_iconst (v := 3) hx hb dX7_clear_3 (by decide) ?_
        refine lv_icmp_ge (tgt := 34) hx hb dX7_clear_4 (by decide) (fun c13 => ?_) (fun c13 => ?_)
        · skip
          have hP9 : va_P (dC, dI) classes (WX h g ca iv lv (u2 fa 20 2 f12) (u2 (u2 la 20 0 f10) 20 1 f11)) H := hP
          have hD9 : va_D A (WX h g ca iv lv (u2 fa 20 2 f12) (u2 (u2 la 20 0 f10) 20 1 f11)) := hD
          exact W.vret hx hb hr (fun t ht9 hW => ⟨⟨(iv, lv, (u2 fa 20 2 f12), (u2 (u2 la 20 0 f10) 20 1 f11)), rfl, ⟨f12, f10, f11, (show ∀ j : Nat, j < 3 → f10 j = 0 ∧ f11 j = 0 ∧ f12 j = 0 from (fun j hj => by
                rcases (by omega : j = 0 ∨ j = 1 ∨ j = 2) with rfl | rfl | rfl
                · exact ⟨(by rw [ef10, ef6, ef2]; rfl), (by rw [ef11, ef7, ef3]; rfl), (by rw [ef12, ef8, ef4]; rfl)⟩
                · exact ⟨(by rw [ef10, ef6, ef2]; rfl), (by rw [ef11, ef7, ef3]; rfl), (by rw [ef12, ef8, ef4]; rfl)⟩
                · exact ⟨(by rw [ef10, ef6, ef2]; rfl), (by rw [ef11, ef7, ef3]; rfl), (by rw [ef12, ef8, ef4]; rfl)⟩)), rfl⟩, by rw [ht9]; exact hP9, hD9⟩, hS.F ht9⟩) hS.2.2 dX7_clear_34
        · exact absurd c13 (by decide)
set_option maxHeartbeats 4000000 in
set_option maxRecDepth 100000 in
/-- X7_differ -/
theorem c_X7_differ_f20 (l : Launch) (dC : Nat → ClassId) (dI : Nat → Nat → Nat) (h : Nat) (g : Nat → Nat → Nat) (ca : Nat → Nat → ClassId) (iv : Nat → Nat → Int32) (lv : Nat → Nat → Int64) (fa : Nat → Nat → Nat → Int32) (la : Nat → Nat → Nat → Int64) (hI : IX iv fa) (d : Int32) : Met l yX7_differ (wc yX7_differ cX7_differ 4 (some .boolean)) ({ frames := 1, cells := 0, slots := 0, locals := 40 } : Room) (pR (dC, dI) classes (WX h g ca iv lv fa la) (TX ca) [.ref (g 2 1), .int 0, .int 1, .int d]) (vp_Si (fun r => (0 ≤ r.toInt ∧ r.toInt ≤ 1) ∧ (((r.toInt = 1 ∧ difL ((la 20 1) 0) ((la 20 0) 0) ((la 20 1) 1) ((la 20 0) 1) d) ∨ (r.toInt = 0 ∧ ¬ difL ((la 20 1) 0) ((la 20 0) 0) ((la 20 1) 1) ((la 20 0) 1) d))))) 0 0 (fun _ => False) := by
  refine Met.ofW (cc := cX7_differ) (maxL := 4) (ret := (some .boolean)) (by decide) rfl ?_
  intro p e s m args below meth c s₁ B hml hv
  obtain ⟨rfl, hP, hK⟩ := hv
  have hx := B.exec
  have hb := B.bytes
  have hr := B.returns
  have ht := tb_tl (atoms_spec (ws := wc yX7_differ cX7_differ 4 (some .boolean)) B.pre)
  have hown : s.vm.findClass RX7 = some m.cls := findClass_of_methodNamed B.named
  have hlocks := B.notSynchronized
  have hl := lv_entry [.ref (g 2 1), .int 0, .int 1, .int d] (n := 4) (Nat.le_of_ble_eq_true rfl)
  rw [lg_entry_eq]
  generalize (lg_sl [.ref (g 2 1), .int 0, .int 1, .int d] ++ List.replicate (4 - (lg_sl [.ref (g 2 1), .int 0, .int 1, .int d]).length) Slot.unset).toArray = ls at hl ⊢
  have hl : lv_has ls 4 [(0, .ref (g 2 1)), (1, .int 0), (2, .int 1), (3, .int d)] := hl
  refine lv_ldc2 hx hb hown (ht _ m_630) dX7_differ_0 ?_
  refine lv_aload_n hx hb dX7_differ_3 rfl (lv_at hl 0 rfl) ?_
  refine gX_20_1 hx hb ht hown hK hP m_264 dX7_differ_4 ?_
  refine lv_iload_n hx hb dX7_differ_7 rfl (lv_at hl 1 rfl) ?_
  refine lX_20_1 hx hb hK hP (f := (la 20 1)) rfl (vp_in_iff.mpr (by decide)) dX7_differ_8 ?_
  refine lv_topl (fun w1 ew1 => ?_)
  refine lv_aload_n hx hb dX7_differ_9 rfl (lv_at hl 0 rfl) ?_
  refine gX_20_0 hx hb ht hown hK hP m_261 dX7_differ_10 ?_
  refine lv_iload_n hx hb dX7_differ_13 rfl (lv_at hl 2 rfl) ?_
  refine lX_20_0 hx hb hK hP (f := (la 20 0)) rfl (vp_in_iff.mpr (by decide)) dX7_differ_14 ?_
  refine lv_topl (fun w2 ew2 => ?_)
  refine lv_lmul hx hb dX7_differ_15 ?_
  refine lv_topl (fun w3 ew3 => ?_)
  refine lv_aload_n hx hb dX7_differ_16 rfl (lv_at hl 0 rfl) ?_
  refine gX_20_1 hx hb ht hown hK hP m_264 dX7_differ_17 ?_
  refine lv_iload_n hx hb dX7_differ_20 rfl (lv_at hl 2 rfl) ?_
  refine lX_20_1 hx hb hK hP (f := (la 20 1)) rfl (vp_in_iff.mpr (by decide)) dX7_differ_21 ?_
  refine lv_topl (fun w4 ew4 => ?_)
  refine lv_aload_n hx hb dX7_differ_22 rfl (lv_at hl 0 rfl) ?_
  refine gX_20_0 hx hb ht hown hK hP m_261 dX7_differ_23 ?_
  refine lv_iload_n hx hb dX7_differ_26 rfl (lv_at hl 1 rfl) ?_
  refine lX_20_0 hx hb hK hP (f := (la 20 0)) rfl (vp_in_iff.mpr (by decide)) dX7_differ_27 ?_
  refine lv_topl (fun w5 ew5 => ?_)
  refine lv_lmul hx hb dX7_differ_28 ?_
  refine lv_topl (fun w6 ew6 => ?_)
  refine lv_lsub hx hb dX7_differ_29 ?_
  refine lv_topl (fun w7 ew7 => ?_)
  refine va_mabs_long hx hb (hml.trans hl.1.symm) hown (ht _ m_631) (ht _ m_632) (ht _ m_90) (ht _ m_633) (Nat.le_of_ble_eq_true rfl) (Nat.le_of_ble_eq_true rfl) (Nat.le_of_ble_eq_true rfl) (Nat.le_of_ble_eq_true rfl) dX7_differ_30 ?_
  refine lv_topl (fun w8 ew8 => ?_)
  refine lv_lmul hx hb dX7_differ_33 ?_
  refine lv_topl (fun w9 ew9 => ?_)
  refine lv_iload_n hx hb dX7_differ_34 rfl (lv_at hl 3 rfl) ?_
  refine lv_i2l (v := (d.toInt64)) hx hb dX7_differ_35 rfl ?_
  refine lv_aload_n hx hb dX7_differ_36 rfl (lv_at hl 0 rfl) ?_
  refine gX_20_0 hx hb ht hown hK hP m_261 dX7_differ_37 ?_
  refine lv_iload_n hx hb dX7_differ_40 rfl (lv_at hl 1 rfl) ?_
  refine lX_20_0 hx hb hK hP (f := (la 20 0)) rfl (vp_in_iff.mpr (by decide)) dX7_differ_41 ?_
  refine lv_topl (fun w10 ew10 => ?_)
  refine lv_lmul hx hb dX7_differ_42 ?_
  refine lv_topl (fun w11 ew11 => ?_)
  refine lv_aload_n hx hb dX7_differ_43 rfl (lv_at hl 0 rfl) ?_
  refine gX_20_0 hx hb ht hown hK hP m_261 dX7_differ_44 ?_
  refine lv_iload_n hx hb dX7_differ_47 rfl (lv_at hl 2 rfl) ?_
  refine lX_20_0 hx hb hK hP (f := (la 20 0)) rfl (vp_in_iff.mpr (by decide)) dX7_differ_48 ?_
  refine lv_topl (fun w12 ew12 => ?_)
  refine lv_lmul hx hb dX7_differ_49 ?_
  refine lv_topl (fun w13 ew13 => ?_)
  refine W.lcmp hx hb dX7_differ_50 ?_
  refine lv_topi (fun v14 ev14 => ?_)
  refine lv_if_le (tgt := 58) hx hb dX7_differ_51 (by decide) (fun c15 => ?_) (fun c15 => ?_)
  · have fc15 := zc_ngt ev14 (rfl : (w9).toInt = _) (rfl : (w13).toInt = _) (Int32.not_lt.mpr c15)
    refine lv_iconst (v := 0) hx hb dX7_differ_58 (by decide) ?_
    have : (0 : Int32).toInt = 0 := (by decide)
    exact W.zret (v := 0) hx hb hr rfl (fun t ht9 hW => ⟨0, rfl, ⟨⟨by decide, by decide⟩, (show (((0 : Int32).toInt = 1 ∧ difL ((la 20 1) 0) ((la 20 0) 0) ((la 20 1) 1) ((la 20 0) 1) d) ∨ ((0 : Int32).toInt = 0 ∧ ¬ difL ((la 20 1) 0) ((la 20 0) 0) ((la 20 1) 1) ((la 20 0) 1) d)) from (by subst_vars; exact Or.inr ⟨by decide, fun q9 => (by have q8 := q9; unfold difL at q8; exact absurd fc15 (Int.not_le.mpr q8))⟩))⟩, ht9⟩) (fun q hq => by cases hq) dX7_differ_59
  · have fc15 := zc_gt ev14 (rfl : (w9).toInt = _) (rfl : (w13).toInt = _) (Int32.not_le.mp c15)
    refine lv_iconst (v := 1) hx hb dX7_differ_54 (by decide) ?_
    refine lv_goto (tgt := 59) hx hb dX7_differ_55 (by decide) ?_
    have : (1 : Int32).toInt = 1 := (by decide)
    exact W.zret (v := 1) hx hb hr rfl (fun t ht9 hW => ⟨1, rfl, ⟨⟨by decide, by decide⟩, (show (((1 : Int32).toInt = 1 ∧ difL ((la 20 1) 0) ((la 20 0) 0) ((la 20 1) 1) ((la 20 0) 1) d) ∨ ((1 : Int32).toInt = 0 ∧ ¬ difL ((la 20 1) 0) ((la 20 0) 0) ((la 20 1) 1) ((la 20 0) 1) d)) from (by subst_vars; exact Or.inl ⟨by decide, fc15⟩))⟩, ht9⟩) (fun q hq => by cases hq) dX7_differ_59
set_option maxHeartbeats 4000000 in
set_option maxRecDepth 100000 in
/-- X2_heap -/
theorem c_X2_heap_w (l : Launch) (dC : Nat → ClassId) (dI : Nat → Nat → Nat) (sz : Nat) (h : Nat) (g : Nat → Nat → Nat) (ca : Nat → Nat → ClassId) (iv : Nat → Nat → Int32) (lv : Nat → Nat → Int64) (fa : Nat → Nat → Nat → Int32) (la : Nat → Nat → Nat → Int64) (hI : IX iv fa) (a : Int32) (b : Int32) (h_a : 0 ≤ a.toInt ∧ a.toInt ≤ 2) (h_b : 0 ≤ b.toInt ∧ b.toInt ≤ 59) : Met l yX2_heap (wc yX2_heap cX2_heap 3 none) ({ frames := 1, cells := 0, slots := 0, locals := 23 } : Room) (pW (dC, dI) classes (WX h g ca iv lv fa la) (TX ca) sz [.ref (g 11 6), .int a, .int b]) (va_Qv (fun (u : SS) => ∃ (na_20_2 : Nat → Int32) (nb_20_0 : Nat → Int64) (nb_20_1 : Nat → Int64), (∀ j : Nat, j ≠ a.toNatClampNeg → nb_20_0 j = (la 20 0) j) ∧ (∀ j : Nat, j ≠ a.toNatClampNeg → nb_20_1 j = (la 20 1) j) ∧ (∀ j : Nat, j ≠ a.toNatClampNeg → na_20_2 j = (fa 20 2) j) ∧ (nb_20_0 a.toNatClampNeg = (la 20 0) a.toNatClampNeg + ((fa 10 0) (9 * (b.toInt).toNat + 3)).toInt64) ∧ (nb_20_1 a.toNatClampNeg = (la 20 1) a.toNatClampNeg + ((fa 10 0) (9 * (b.toInt).toNat + 4)).toInt64) ∧ (na_20_2 a.toNatClampNeg = (fa 20 2) a.toNatClampNeg + 1) ∧ u = (iv, lv, (u2 fa 20 2 na_20_2), (u2 (u2 la 20 0 nb_20_0) 20 1 nb_20_1))) (bX (dC, dI) h g ca (va_A (WX h g ca iv lv fa la) sz)) (va_A (WX h g ca iv lv fa la) sz)) 0 0 (va_A (WX h g ca iv lv fa la) sz) := by
  refine Met.ofW (cc := cX2_heap) (maxL := 3) (ret := none) (by decide) rfl ?_
  intro p e s m args below meth c s₁ B hml hv
  obtain ⟨rfl, hsz, hP, hK, hD0⟩ := hv
  have hx := B.exec
  have hb := B.bytes
  have hr := B.returns
  have ht := tb_tl (atoms_spec (ws := wc yX2_heap cX2_heap 3 none) B.pre)
  have hown : s.vm.findClass RX2 = some m.cls := findClass_of_methodNamed B.named
  have hlocks := B.notSynchronized
  subst hsz
  have hD := hD0.self (sz := s.heap.size)
  generalize hAe : va_A (WX h g ca iv lv fa la) s.heap.size = A at hD ⊢
  have hA : ∀ q : Nat, s.heap.size ≤ q → A q := fun q h => by rw [← hAe]; exact Or.inr h
  have hS : va_S A s.heap s.heap [] := va_S.rf
  have hl := lv_entry [.ref (g 11 6), .int a, .int b] (n := 3) (Nat.le_of_ble_eq_true rfl)
  rw [lg_entry_eq]
  generalize (lg_sl [.ref (g 11 6), .int a, .int b] ++ List.replicate (3 - (lg_sl [.ref (g 11 6), .int a, .int b]).length) Slot.unset).toArray = ls at hl ⊢
  have hl : lv_has ls 3 [(0, .ref (g 11 6)), (1, .int a), (2, .int b)] := hl
  refine lv_aload_n hx hb dX2_heap_0 rfl (lv_at hl 0 rfl) ?_
  refine gX_2_1 hx hb ht hown hK hP m_305 dX2_heap_1 ?_
  refine lv_iload_n hx hb dX2_heap_4 rfl (lv_at hl 1 rfl) ?_
  refine lv_aload_n hx hb dX2_heap_5 rfl (lv_at hl 0 rfl) ?_
  refine gX_2_0 hx hb ht hown hK hP m_304 dX2_heap_6 ?_
  refine lv_iload_n hx hb dX2_heap_9 rfl (lv_at hl 2 rfl) ?_
  refine lv_iconst (v := 3) hx hb dX2_heap_10 (by decide) ?_
  refine vp_callSi (W.runV (As := [.int b, .int 3]) (rest := [.int a, .ref (g 2 1)]) ⟨hx, hb, hml, hown, ht⟩ (c_X10_get_x3 l dC dI h g ca iv lv fa la hI b ⟨by omega, by omega⟩) (kV 2 ht m_889 m_486 m_487 m_78 m_488 rfl rfl hd_X10_get_v ⟨Nat.le_of_ble_eq_true rfl, Nat.le_of_ble_eq_true rfl⟩) (vR hP hK (rX_10 hK hP)) rfl rfl hl.1 rfl (lv_room (Nat.le_of_ble_eq_true rfl)) dX2_heap_11 ⟨Nat.le_of_ble_eq_true rfl, Nat.le_of_ble_eq_true rfl⟩) (fun r1 hr1 => ?_)
  obtain ⟨hr1, xr1_0⟩ := hr1
  have xr1_0 : (r1 : Int32).toInt = ((fa 10 0) (9 * ((b : Int32).toInt).toNat + 3)).toInt := xr1_0
  refine lv_aload_n hx hb dX2_heap_14 rfl (lv_at hl 0 rfl) ?_
  refine gX_2_0 hx hb ht hown hK hP m_304 dX2_heap_15 ?_
  refine lv_iload_n hx hb dX2_heap_18 rfl (lv_at hl 2 rfl) ?_
  refine lv_iconst (v := 4) hx hb dX2_heap_19 (by decide) ?_
  refine vp_callSi (W.runV (As := [.int b, .int 4]) (rest := [.int r1, .int a, .ref (g 2 1)]) ⟨hx, hb, hml, hown, ht⟩ (c_X10_get_x4 l dC dI h g ca iv lv fa la hI b ⟨by omega, by omega⟩) (kV 2 ht m_889 m_486 m_487 m_78 m_488 rfl rfl hd_X10_get_v ⟨Nat.le_of_ble_eq_true rfl, Nat.le_of_ble_eq_true rfl⟩) (vR hP hK (rX_10 hK hP)) rfl rfl hl.1 rfl (lv_room (Nat.le_of_ble_eq_true rfl)) dX2_heap_20 ⟨Nat.le_of_ble_eq_true rfl, Nat.le_of_ble_eq_true rfl⟩) (fun r2 hr2 => ?_)
  obtain ⟨hr2, xr2_0⟩ := hr2
  have xr2_0 : (r2 : Int32).toInt = ((fa 10 0) (9 * ((b : Int32).toInt).toNat + 4)).toInt := xr2_0
  have hFc := free_all hD hS hA
  refine va_callv (va_runV (As := [.int a, .int r1, .int r2]) (rest := []) ⟨hx, hb, hml, hown, ht⟩ (c_X7_put_s20 l dC dI s.heap.size h g ca iv lv fa la hI a r1 r2 ⟨by omega, by omega⟩) (kV 3 ht m_894 m_578 m_579 m_84 m_580 rfl rfl hd_X7_put_v ⟨Nat.le_of_ble_eq_true rfl, Nat.le_of_ble_eq_true rfl⟩) (vW hP hK hD (rX_20 hK hP)) rfl rfl hl.1 rfl (lv_room (Nat.le_of_ble_eq_true rfl)) dX2_heap_23 ⟨Nat.le_of_ble_eq_true rfl, Nat.le_of_ble_eq_true rfl⟩) hS (fun q _ h => hFc q h) hFc (fun u t H1 locs ht9 hvm hr3 hB hz1 hk1 hS => ?_)
  obtain ⟨n4, n5, n6, xr3_0, xr3_1, xr3_2, xr3_3, xr3_4, xr3_5, rfl⟩ := hr3
  have hn4 : ∀ j, inb (bA 20 2 j) (n4 j) := fun j => full_i _
  obtain ⟨hP, hD⟩ := hB
  rw [ht9] at hP
  generalize H1 = H at hP hS ⊢
  have hP : va_P (dC, dI) classes (WX h g ca iv lv (u2 fa 20 2 n4) (u2 (u2 la 20 0 n5) 20 1 n6)) H := hP
  have hD : va_D A (WX h g ca iv lv (u2 fa 20 2 n4) (u2 (u2 la 20 0 n5) 20 1 n6)) := (show va_D _ (WX h g ca iv lv (u2 fa 20 2 n4) (u2 (u2 la 20 0 n5) 20 1 n6)) from hD).weaken (fun _ _ _ h => hFc _ h)
  have xr3_0 : ∀ j : Nat, j ≠ (a : Int32).toNatClampNeg → n5 j = (la 20 0) j := xr3_0
  have xr3_1 : ∀ j : Nat, j ≠ (a : Int32).toNatClampNeg → n6 j = (la 20 1) j := xr3_1
  have xr3_2 : ∀ j : Nat, j ≠ (a : Int32).toNatClampNeg → n4 j = (fa 20 2) j := xr3_2
  have xr3_3 : n5 (a : Int32).toNatClampNeg = (la 20 0) (a : Int32).toNatClampNeg + ((r1 : Int32)).toInt64 := xr3_3
  have xr3_4 : n6 (a : Int32).toNatClampNeg = (la 20 1) (a : Int32).toNatClampNeg + ((r2 : Int32)).toInt64 := xr3_4
  have xr3_5 : n4 (a : Int32).toNatClampNeg = (fa 20 2) (a : Int32).toNatClampNeg + 1 := xr3_5
  have hP9 : va_P (dC, dI) classes (WX h g ca iv lv (u2 fa 20 2 n4) (u2 (u2 la 20 0 n5) 20 1 n6)) H := hP
  have hD9 : va_D A (WX h g ca iv lv (u2 fa 20 2 n4) (u2 (u2 la 20 0 n5) 20 1 n6)) := hD
  exact W.vret hx hb hr (fun t ht9 hW => ⟨⟨(iv, lv, (u2 fa 20 2 n4), (u2 (u2 la 20 0 n5) 20 1 n6)), rfl, ⟨n4, n5, n6, (show ∀ j : Nat, j ≠ a.toNatClampNeg → n5 j = (la 20 0) j from (fun j hj => xr3_0 j hj)), (show ∀ j : Nat, j ≠ a.toNatClampNeg → n6 j = (la 20 1) j from (fun j hj => xr3_1 j hj)), (show ∀ j : Nat, j ≠ a.toNatClampNeg → n4 j = (fa 20 2) j from (fun j hj => xr3_2 j hj)), (show n5 a.toNatClampNeg = (la 20 0) a.toNatClampNeg + ((fa 10 0) (9 * ((b).toInt).toNat + 3)).toInt64 from (by have h1 : (r1 : Int32) = fa 10 0 (9 * (b.toInt).toNat + 3) := Int32.toInt_inj.mp xr1_0; have h2 := xr3_3; rw [h1] at h2; exact h2)), (show n6 a.toNatClampNeg = (la 20 1) a.toNatClampNeg + ((fa 10 0) (9 * ((b).toInt).toNat + 4)).toInt64 from (by have h1 : (r2 : Int32) = fa 10 0 (9 * (b.toInt).toNat + 4) := Int32.toInt_inj.mp xr2_0; have h2 := xr3_4; rw [h1] at h2; exact h2)), (show n4 a.toNatClampNeg = (fa 20 2) a.toNatClampNeg + 1 from xr3_5), rfl⟩, by rw [ht9]; exact hP9, hD9⟩, hS.F ht9⟩) hS.2.2 dX2_heap_26
