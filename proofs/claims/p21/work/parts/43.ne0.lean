/-! ===== ne0 ===== -/

/-- sums of natural numbers, numbers of those that hold -/
def ns (f : Nat → Nat) : Nat → Nat
  | 0 => 0
  | n + 1 => ns f n + f n
noncomputable def b01 (p : Prop) : Nat := @ite Nat p (Classical.propDecidable _) 1 0
theorem b01_y {p : Prop} (h : p) : b01 p = 1 := if_pos h
theorem b01_n {p : Prop} (h : ¬ p) : b01 p = 0 := if_neg h
theorem b01_cg {p q : Prop} (h : p ↔ q) : b01 p = b01 q := by rw [propext h]
theorem ns_s {f : Nat → Nat} {n n' : Nat} (h : n' = n + 1) : ns f n' = ns f n + f n := by rw [h]; rfl
theorem ns_cg {f g : Nat → Nat} : ∀ n : Nat, (∀ j : Nat, j < n → f j = g j) → ns f n = ns g n
  | 0, _ => rfl
  | n + 1, h => by
    show ns f n + f n = ns g n + g n
    rw [ns_cg n (fun j hj => h j (Nat.lt_succ_of_lt hj)), h n (Nat.lt_succ_self n)]
theorem ns_0 : ∀ n : Nat, ns (fun _ => 0) n = 0
  | 0 => rfl
  | n + 1 => by show ns (fun _ => 0) n + 0 = 0; rw [ns_0 n]
theorem ns_add {f g : Nat → Nat} : ∀ n : Nat, ns (fun j => f j + g j) n = ns f n + ns g n
  | 0 => rfl
  | n + 1 => by
    show ns (fun j => f j + g j) n + (f n + g n) = (ns f n + f n) + (ns g n + g n)
    rw [ns_add n]; omega
theorem ns_swap {f : Nat → Nat → Nat} {m : Nat} : ∀ n : Nat, ns (fun i => ns (fun j => f i j) m) n = ns (fun j => ns (fun i => f i j) n) m
  | 0 => (ns_0 m).symm
  | n + 1 => by
    show ns (fun i => ns (fun j => f i j) m) n + ns (fun j => f n j) m = ns (fun j => ns (fun i => f i j) n + f n j) m
    rw [ns_swap n, ns_add]
theorem ns_cut {f : Nat → Nat} {t : Nat} : ∀ n : Nat, t ≤ n → (∀ j : Nat, t ≤ j → j < n → f j = 0) → ns f n = ns f t
  | 0, h, _ => by rw [Nat.le_zero.mp h]
  | n + 1, h, z => by
    by_cases e : t = n + 1
    · rw [e]
    · show ns f n + f n = ns f t
      rw [ns_cut n (by omega) (fun j h1 h2 => z j h1 (by omega)), z n (by omega) (by omega)]; rfl
/-- those below n that hold, in their order -/
noncomputable def lsP (c : Nat → Prop) : Nat → List Nat
  | 0 => []
  | n + 1 => @ite (List Nat) (c n) (Classical.propDecidable _) (lsP c n ++ [n]) (lsP c n)
theorem lsP_y {c : Nat → Prop} {n n' : Nat} (h : n' = n + 1) (hc : c n) : lsP c n' = lsP c n ++ [n] := by rw [h]; exact if_pos hc
theorem lsP_n {c : Nat → Prop} {n n' : Nat} (h : n' = n + 1) (hc : ¬ c n) : lsP c n' = lsP c n := by rw [h]; exact if_neg hc
theorem lsP_cg {c d : Nat → Prop} : ∀ n : Nat, (∀ j : Nat, j < n → (c j ↔ d j)) → lsP c n = lsP d n
  | 0, _ => rfl
  | n + 1, h => by
    have q := lsP_cg n (fun j hj => h j (Nat.lt_succ_of_lt hj))
    by_cases e : c n
    · rw [lsP_y rfl e, lsP_y rfl ((h n (Nat.lt_succ_self n)).mp e), q]
    · rw [lsP_n rfl e, lsP_n rfl (fun z => e ((h n (Nat.lt_succ_self n)).mpr z)), q]
/-- the k-th of them -/
noncomputable def atP (c : Nat → Prop) (n k : Nat) : Nat := (lsP c n).getD k 0
theorem getD_l {l : List Nat} {x k : Nat} (h : k < l.length) : (l ++ [x]).getD k 0 = l.getD k 0 := by
  rw [List.getD_eq_getElem?_getD, List.getD_eq_getElem?_getD, List.getElem?_append_left h]
theorem getD_e {l : List Nat} {x k : Nat} (h : k = l.length) : (l ++ [x]).getD k 0 = x := by
  rw [List.getD_eq_getElem?_getD, List.getElem?_append_right (by omega), h, Nat.sub_self]; rfl
theorem lsP_len {c : Nat → Prop} : ∀ n : Nat, (lsP c n).length ≤ n
  | 0 => Nat.le_refl _
  | n + 1 => by
    have q := lsP_len (c := c) n
    by_cases e : c n
    · rw [lsP_y rfl e, List.length_append]; show (lsP c n).length + 1 ≤ n + 1; omega
    · rw [lsP_n rfl e]; omega
theorem lsP_mono {c : Nat → Prop} {m : Nat} : ∀ n : Nat, m ≤ n → (lsP c m).length ≤ (lsP c n).length
  | 0, h => by rw [Nat.le_zero.mp h]; exact Nat.le_refl _
  | n + 1, h => by
    by_cases e : m = n + 1
    · rw [e]; exact Nat.le_refl _
    · have q := lsP_mono (c := c) n (by omega : m ≤ n)
      by_cases z : c n
      · rw [lsP_y rfl z, List.length_append]; exact Nat.le_trans q (Nat.le_add_right _ _)
      · rw [lsP_n rfl z]; exact q
theorem lsP_full {c : Nat → Prop} {m : Nat} : ∀ n : Nat, m ≤ n → (lsP c n).length ≤ (lsP c m).length → lsP c n = lsP c m
  | 0, h, _ => by rw [Nat.le_zero.mp h]
  | n + 1, h, l => by
    by_cases e : m = n + 1
    · rw [e]
    · by_cases z : c n
      · have q := lsP_mono (c := c) n (by omega : m ≤ n)
        rw [lsP_y rfl z, List.length_append] at l
        exact absurd l (by show ¬ (lsP c n).length + 1 ≤ _; omega)
      · rw [lsP_n rfl z] at l ⊢
        exact lsP_full n (by omega) l
theorem lsP_sm {c : Nat → Prop} : ∀ n : Nat, n ≤ 60 → (smC c n).toInt = ((lsP c n).length : Int)
  | 0, _ => by show (0 : Int32).toInt = 0; decide
  | n + 1, h => by
    have q := lsP_sm (c := c) n (by omega)
    have r := lsP_len (c := c) n
    by_cases e : c n
    · rw [smC_y rfl e, lsP_y rfl e, List.length_append, z_add rfl q (by decide : (1 : Int32).toInt = 1) (by omega) (by omega)]; rfl
    · rw [smC_n rfl e, lsP_n rfl e]; exact q
/-- a sum over the listing is a sum over all that hold -/
theorem ns_ls {c : Nat → Prop} {g : Nat → Nat} : ∀ n : Nat, ns (fun k => g (atP c n k)) (lsP c n).length = ns (fun s => b01 (c s) * g s) n
  | 0 => rfl
  | n + 1 => by
    have q := ns_ls (c := c) (g := g) n
    show _ = ns (fun s => b01 (c s) * g s) n + b01 (c n) * g n
    by_cases e : c n
    · have a1 : (lsP c (n + 1)).length = (lsP c n).length + 1 := by rw [lsP_y rfl e, List.length_append]; rfl
      rw [ns_s a1, b01_y e, Nat.one_mul, ← q]
      have a2 : atP c (n + 1) (lsP c n).length = n := by unfold atP; rw [lsP_y rfl e]; exact getD_e rfl
      rw [a2]
      refine congrArg (· + g n) (ns_cg _ (fun j hj => ?_))
      have a3 : atP c (n + 1) j = atP c n j := by unfold atP; rw [lsP_y rfl e]; exact getD_l hj
      rw [a3]
    · rw [b01_n e, Nat.zero_mul, ← q]
      have a1 : lsP c (n + 1) = lsP c n := lsP_n rfl e
      unfold atP; rw [a1]; rfl
theorem atP_lt {c : Nat → Prop} : ∀ n k : Nat, k < (lsP c n).length → atP c n k < n ∧ c (atP c n k)
  | 0, k, h => absurd h (Nat.not_lt_zero k)
  | n + 1, k, h => by
    by_cases e : c n
    · rw [lsP_y rfl e, List.length_append] at h
      have h2 : k < (lsP c n).length + 1 := h
      by_cases z : k = (lsP c n).length
      · have a2 : atP c (n + 1) k = n := by unfold atP; rw [lsP_y rfl e]; exact getD_e z
        rw [a2]; exact ⟨Nat.lt_succ_self n, e⟩
      · have a3 : atP c (n + 1) k = atP c n k := by unfold atP; rw [lsP_y rfl e]; exact getD_l (by omega)
        have q := atP_lt (c := c) n k (by omega)
        rw [a3]; exact ⟨by omega, q.2⟩
    · have a3 : atP c (n + 1) k = atP c n k := by unfold atP; rw [lsP_n rfl e]
      rw [lsP_n rfl e] at h
      have q := atP_lt (c := c) n k h
      rw [a3]; exact ⟨by omega, q.2⟩
theorem atP_up {c : Nat → Prop} : ∀ n i j : Nat, i < j → j < (lsP c n).length → atP c n i < atP c n j
  | 0, i, j, _, h => absurd h (Nat.not_lt_zero j)
  | n + 1, i, j, hi, h => by
    by_cases e : c n
    · rw [lsP_y rfl e, List.length_append] at h
      have h2 : j < (lsP c n).length + 1 := h
      have a3 : ∀ k : Nat, k < (lsP c n).length → atP c (n + 1) k = atP c n k := fun k hk => by unfold atP; rw [lsP_y rfl e]; exact getD_l hk
      rw [a3 i (by omega)]
      by_cases z : j = (lsP c n).length
      · have a2 : atP c (n + 1) j = n := by unfold atP; rw [lsP_y rfl e]; exact getD_e z
        rw [a2]; exact (atP_lt n i (by omega)).1
      · rw [a3 j (by omega)]; exact atP_up n i j hi (by omega)
    · have a3 : ∀ k : Nat, atP c (n + 1) k = atP c n k := fun k => by unfold atP; rw [lsP_n rfl e]
      rw [lsP_n rfl e] at h
      rw [a3, a3]; exact atP_up n i j hi h
/-- pairs: by places of the listing, and by all below n -/
noncomputable def prX (D : Nat → Nat → Prop) (f : Nat → Nat) (m i : Nat) : Nat := ns (fun j => b01 (i < j ∧ D (f i) (f j))) m
noncomputable def prY (c : Nat → Prop) (D : Nat → Nat → Prop) (t s : Nat) : Nat := b01 (c t ∧ c s ∧ D t s)
theorem pr_xy {c : Nat → Prop} {D E : Nat → Nat → Prop} {n : Nat} (h : ∀ s t : Nat, D s t ↔ E t s) : ns (prX D (atP c n) (lsP c n).length) (lsP c n).length = ns (fun t => ns (prY c E t) t) n := by
  have h1 : ns (prX D (atP c n) (lsP c n).length) (lsP c n).length = ns (fun i => ns (fun j => b01 (atP c n i < atP c n j ∧ D (atP c n i) (atP c n j))) (lsP c n).length) (lsP c n).length := by
    refine ns_cg _ (fun i hi => ns_cg _ (fun j hj => b01_cg ⟨fun z => ⟨atP_up n i j z.1 hj, z.2⟩, fun z => ⟨?_, z.2⟩⟩))
    rcases Nat.lt_trichotomy i j with q | q | q
    · exact q
    · exact absurd z.1 (by rw [q]; exact Nat.lt_irrefl _)
    · exact absurd z.1 (Nat.not_lt.mpr (Nat.le_of_lt (atP_up n j i q hi)))
  rw [h1, ns_ls (g := fun s => ns (fun j => b01 (s < atP c n j ∧ D s (atP c n j))) (lsP c n).length)]
  have h2 : ns (fun s => b01 (c s) * ns (fun j => b01 (s < atP c n j ∧ D s (atP c n j))) (lsP c n).length) n = ns (fun s => ns (fun t => b01 (c s) * (b01 (c t) * b01 (s < t ∧ D s t))) n) n := by
    refine ns_cg _ (fun s _ => ?_)
    rw [ns_ls (g := fun t => b01 (s < t ∧ D s t))]
    by_cases e : c s
    · rw [b01_y e, Nat.one_mul]; exact ns_cg _ (fun t _ => (Nat.one_mul _).symm)
    · rw [b01_n e, Nat.zero_mul]; exact (ns_0 n).symm.trans (ns_cg _ (fun t _ => (Nat.zero_mul _).symm))
  rw [h2, ns_swap]
  refine ns_cg _ (fun t ht => ?_)
  rw [ns_cut (t := t) n (by omega) (fun s h3 _ => by rw [b01_n (p := s < t ∧ D s t) (fun z => by omega), Nat.mul_zero, Nat.mul_zero])]
  refine ns_cg _ (fun s hs => ?_)
  unfold prY
  by_cases e : c s
  · by_cases e2 : c t
    · rw [b01_y e, b01_y e2, Nat.one_mul, Nat.one_mul]; exact b01_cg ⟨fun z => ⟨e2, e, (h s t).mp z.2⟩, fun z => ⟨hs, (h s t).mpr z.2.2⟩⟩
    · rw [b01_n e2, Nat.zero_mul, Nat.mul_zero, b01_n (fun z => e2 z.1)]
  · rw [b01_n e, Nat.zero_mul, b01_n (fun z => e z.2.1)]
/-- the difference told from either side -/
theorem absL_neg (x : Int64) : absL (-x) = absL x := by
  by_cases e : x.toInt = -9223372036854775808
  · have q : x = Int64.minValue := Int64.toInt_inj.mp (e.trans (by decide))
    rw [q]; decide
  · have b1 := Int64.le_toInt x
    have b2 := Int64.toInt_lt x
    have n1 : (-x).toInt = -x.toInt := by rw [Int64.toInt_neg, Int.bmod_def]; omega
    have z0 : (0 : Int64).toInt = 0 := rfl
    by_cases p : 0 < x.toInt
    · have p1 : 0 < x := Int64.lt_iff_toInt_lt.mpr (by omega)
      have p2 : ¬ 0 < -x := fun z => by have := Int64.lt_iff_toInt_lt.mp z; omega
      unfold absL; rw [if_pos p1, if_neg p2, Int64.neg_neg]
    · have p1 : ¬ 0 < x := fun z => p (by have := Int64.lt_iff_toInt_lt.mp z; omega)
      by_cases p0 : x.toInt = 0
      · have q : x = 0 := Int64.toInt_inj.mp (p0.trans z0.symm)
        rw [q]; decide
      · have p2 : 0 < -x := Int64.lt_iff_toInt_lt.mpr (by omega)
        unfold absL; rw [if_neg p1, if_pos p2]
theorem difL_sym {a b d k : Int64} {p : Int32} : difL a b d k p ↔ difL d k a b p := by
  unfold difL
  have e1 : absL (a * k - d * b) = absL (d * b - a * k) := by
    have : a * k - d * b = -(d * b - a * k) := by rw [Int64.neg_sub]
    rw [this, absL_neg]
  have e2 : p.toInt64 * b * k = p.toInt64 * k * b := by rw [Int64.mul_assoc, Int64.mul_comm b k, ← Int64.mul_assoc]
  rw [e1, e2]
/-- a number of a word's arithmetic -/
def oN (n : Nat) : Int32 := Int32.ofNat n
theorem oN_s {a b : Int32} {n : Nat} (h : a = oN n) (e : b = a + 1) : b = oN (n + 1) := by
  rw [e, h]; unfold oN; rw [Int32.ofNat_add]; rfl
theorem oN_0 {a b : Int32} {n : Nat} (h : a = oN n) (e : b = a + 0) : b = oN n := by rw [e, h]; exact Int32.add_zero _
theorem smC_dn {c : Nat → Prop} {ob ol : Nat → Int32} {b l : Int32} : ∀ n : Nat, n ≤ 60 → (∀ j : Nat, j < n → c j → (ob j).toInt = b.toInt ∧ (ol j).toInt = l.toInt) → 0 ≤ (smC c n).toInt ∧ (smC c n).toInt ≤ ((cn0 ob ol b l n : Nat) : Int) ∧ (smC c n).toInt ≤ (n : Int)
  | 0, _, _ => by
    have e2 : (smC c 0).toInt = 0 := by show (0 : Int32).toInt = 0; decide
    rw [e2]; exact ⟨by omega, by omega, by omega⟩
  | n + 1, hn, h => by
    obtain ⟨q1, q2, q3⟩ := smC_dn n (by omega) (fun j hj => h j (by omega))
    have z := h n (by omega)
    have k : cn0 ob ol b l (n + 1) = cn0 ob ol b l n + (if (ob n).toInt = b.toInt ∧ (ol n).toInt = l.toInt then 1 else 0) := rfl
    by_cases e : c n
    · have a1 : (smC c (n + 1)).toInt = (smC c n).toInt + 1 := by
        rw [smC_y rfl e]; exact z_add rfl rfl (by decide : (1 : Int32).toInt = 1) (by omega) (by omega)
      rw [if_pos (z e)] at k
      rw [a1, k]; exact ⟨by omega, by omega, by omega⟩
    · rw [smC_n rfl e, k]
      refine ⟨q1, ?_, by omega⟩
      split <;> omega

/-- all ways to take m of the r from the k-th on: what is told of the two sums -/
def nT (G : Int64 → Int64 → Nat) (x y : Nat → Int64) : Nat → Nat → Nat → Int64 → Int64 → Nat
  | 0, _, m, a, b => if m = 0 then G a b else 0
  | _ + 1, _, 0, a, b => G a b
  | r + 1, k, m + 1, a, b => nT G x y r (k + 1) m (a + x k) (b + y k) + nT G x y r (k + 1) (m + 1) a b
theorem nT_m0 {G : Int64 → Int64 → Nat} {x y : Nat → Int64} {k : Nat} {a b : Int64} : ∀ r : Nat, nT G x y r k 0 a b = G a b
  | 0 => if_pos rfl
  | _ + 1 => rfl
theorem nT_s {G : Int64 → Int64 → Nat} {x y : Nat → Int64} {r r' k m m' : Nat} {a b : Int64} (hr : r' = r + 1) (hm : m' = m + 1) : nT G x y r' k m' a b = nT G x y r (k + 1) m (a + x k) (b + y k) + nT G x y r (k + 1) m' a b := by
  rw [hr, hm]; rfl
theorem nT_0 {G : Int64 → Int64 → Nat} {x y : Nat → Int64} : ∀ (r k m : Nat) (a b : Int64), r < m → nT G x y r k m a b = 0
  | 0, _, m, _, _, h => if_neg (by omega)
  | _ + 1, _, 0, _, _, h => absurd h (Nat.not_lt_zero _)
  | r + 1, k, m + 1, a, b, h => by
    show nT G x y r (k + 1) m (a + x k) (b + y k) + nT G x y r (k + 1) (m + 1) a b = 0
    rw [nT_0 r (k + 1) m _ _ (by omega), nT_0 r (k + 1) (m + 1) _ _ (by omega)]
theorem nT_cg {G : Int64 → Int64 → Nat} {x y x' y' : Nat → Int64} : ∀ (r k m : Nat) (a b : Int64), (∀ j : Nat, k ≤ j → j < k + r → x j = x' j ∧ y j = y' j) → nT G x y r k m a b = nT G x' y' r k m a b
  | 0, _, _, _, _, _ => rfl
  | _ + 1, _, 0, _, _, _ => rfl
  | r + 1, k, m + 1, a, b, h => by
    show nT G x y r (k + 1) m (a + x k) (b + y k) + nT G x y r (k + 1) (m + 1) a b = nT G x' y' r (k + 1) m (a + x' k) (b + y' k) + nT G x' y' r (k + 1) (m + 1) a b
    have z := h k (Nat.le_refl _) (by omega)
    have h2 : ∀ j : Nat, k + 1 ≤ j → j < k + 1 + r → x j = x' j ∧ y j = y' j := fun j h1 h2 => h j (by omega) (by omega)
    rw [z.1, z.2, nT_cg r (k + 1) m _ _ h2, nT_cg r (k + 1) (m + 1) a b h2]
def nO : Int64 → Int64 → Nat := fun _ _ => 1
noncomputable def nF (D R : Int64) (p : Int32) : Int64 → Int64 → Nat := fun a b => b01 (difL D R a b p)
noncomputable def nFy (D R : Int64) (p : Int32) : Int64 → Int64 → Nat := fun a b => b01 (difL a b D R p)
theorem nF_y {D R : Int64} {p : Int32} : nF D R p = nFy D R p := funext (fun _ => funext (fun _ => b01_cg difL_sym))
/-- bits of a set: how many, and the sums over them -/
def pp : Nat → Nat → Nat
  | _, 0 => 0
  | t, r + 1 => t % 2 + pp (t / 2) r
def acW (x : Nat → Int64) : Nat → Nat → Int64 → Nat → Int64
  | _, _, a, 0 => a
  | k, t, a, r + 1 => acW x (k + 1) (t / 2) (if t % 2 = 1 then a + x k else a) r
def bsm (x : Nat → Int64) (s : Nat) : Nat → Int64
  | 0 => 0
  | k + 1 => if s / 2 ^ k % 2 = 1 then bsm x s k + x k else bsm x s k
theorem ns_hd {f : Nat → Nat} : ∀ n : Nat, ns f (n + 1) = f 0 + ns (fun j => f (j + 1)) n
  | 0 => by show 0 + f 0 = f 0 + 0; omega
  | n + 1 => by
    have q := ns_hd (f := f) n
    show ns f (n + 1) + f (n + 1) = f 0 + (ns (fun j => f (j + 1)) n + f (n + 1))
    rw [q]; omega
theorem ns_two {f : Nat → Nat} : ∀ n : Nat, ns f (n * 2) = ns (fun t => f (2 * t) + f (2 * t + 1)) n
  | 0 => rfl
  | n + 1 => by
    have q := ns_two (f := f) n
    have e : (n + 1) * 2 = n * 2 + 1 + 1 := by omega
    rw [e, ns_s (n := n * 2 + 1) rfl, ns_s (n := n * 2) rfl, q, Nat.mul_comm n 2]
    show _ = ns (fun t => f (2 * t) + f (2 * t + 1)) n + (f (2 * n) + f (2 * n + 1))
    exact Nat.add_assoc _ _ _
theorem pp_0 : ∀ r : Nat, pp 0 r = 0
  | 0 => rfl
  | r + 1 => by
    have q := pp_0 r
    show 0 % 2 + pp (0 / 2) r = 0
    have e : (0 : Nat) / 2 = 0 := rfl
    rw [e]; omega
theorem pp_cut : ∀ n r t : Nat, t < 2 ^ n → n ≤ r → pp t r = pp t n
  | 0, r, t, h, _ => by
    have h3 : t < 1 := h
    have e : t = 0 := by omega
    rw [e]; exact pp_0 r
  | _ + 1, 0, _, _, h => absurd h (Nat.not_succ_le_zero _)
  | n + 1, r + 1, t, h, h2 => by
    have h3 : t < 2 ^ n * 2 := h
    have h4 : t / 2 < 2 ^ n := by omega
    show t % 2 + pp (t / 2) r = t % 2 + pp (t / 2) n
    rw [pp_cut n r (t / 2) h4 (by omega)]
theorem pp_ns : ∀ r t : Nat, ns (fun j => t / 2 ^ j % 2) r = pp t r
  | 0, _ => rfl
  | r + 1, t => by
    have q := pp_ns r (t / 2)
    have e : ns (fun j => t / 2 ^ (j + 1) % 2) r = ns (fun j => t / 2 / 2 ^ j % 2) r := ns_cg r (fun j _ => by
      show t / 2 ^ (j + 1) % 2 = t / 2 / 2 ^ j % 2
      rw [Nat.div_div_eq_div_mul, Nat.pow_succ, Nat.mul_comm])
    rw [ns_hd]
    show t / 2 ^ 0 % 2 + ns (fun j => t / 2 ^ (j + 1) % 2) r = t % 2 + pp (t / 2) r
    rw [e, q, Nat.pow_zero, Nat.div_one]
theorem acW_b {x : Nat → Int64} : ∀ r k s : Nat, acW x k (s / 2 ^ k) (bsm x s k) r = bsm x s (k + r)
  | 0, _, _ => rfl
  | r + 1, k, s => by
    have q := acW_b (x := x) r (k + 1) s
    have e : s / 2 ^ k / 2 = s / 2 ^ (k + 1) := by rw [Nat.div_div_eq_div_mul, Nat.pow_succ]
    show acW x (k + 1) (s / 2 ^ k / 2) (if s / 2 ^ k % 2 = 1 then bsm x s k + x k else bsm x s k) r = bsm x s (k + (r + 1))
    rw [e, show k + (r + 1) = k + 1 + r from by omega]
    exact q
theorem nT_bits {G : Int64 → Int64 → Nat} {x y : Nat → Int64} : ∀ (r k m : Nat) (a b : Int64), ns (fun t => if pp t r = m then G (acW x k t a r) (acW y k t b r) else 0) (2 ^ r) = nT G x y r k m a b
  | 0, k, m, a, b => by
    rw [Nat.pow_zero]
    show 0 + (if 0 = m then G a b else 0) = (if m = 0 then G a b else 0)
    by_cases e : m = 0
    · rw [if_pos e.symm, if_pos e, Nat.zero_add]
    · rw [if_neg (fun z => e z.symm), if_neg e]
  | r + 1, k, m, a, b => by
    have e1 : ∀ t : Nat, pp (2 * t) (r + 1) = pp t r := fun t => by
      show 2 * t % 2 + pp (2 * t / 2) r = pp t r
      rw [show 2 * t % 2 = 0 from by omega, show 2 * t / 2 = t from by omega, Nat.zero_add]
    have e2 : ∀ t : Nat, pp (2 * t + 1) (r + 1) = pp t r + 1 := fun t => by
      show (2 * t + 1) % 2 + pp ((2 * t + 1) / 2) r = pp t r + 1
      rw [show (2 * t + 1) % 2 = 1 from by omega, show (2 * t + 1) / 2 = t from by omega]
      exact Nat.add_comm _ _
    have e3 : ∀ (w : Nat → Int64) (t : Nat) (c : Int64), acW w k (2 * t) c (r + 1) = acW w (k + 1) t c r := fun w t c => by
      show acW w (k + 1) (2 * t / 2) (if 2 * t % 2 = 1 then c + w k else c) r = acW w (k + 1) t c r
      rw [show 2 * t / 2 = t from by omega, if_neg (by omega)]
    have e4 : ∀ (w : Nat → Int64) (t : Nat) (c : Int64), acW w k (2 * t + 1) c (r + 1) = acW w (k + 1) t (c + w k) r := fun w t c => by
      show acW w (k + 1) ((2 * t + 1) / 2) (if (2 * t + 1) % 2 = 1 then c + w k else c) r = acW w (k + 1) t (c + w k) r
      rw [show (2 * t + 1) / 2 = t from by omega, if_pos (by omega)]
    have h0 : ns (fun t => (if pp (2 * t) (r + 1) = m then G (acW x k (2 * t) a (r + 1)) (acW y k (2 * t) b (r + 1)) else 0) + (if pp (2 * t + 1) (r + 1) = m then G (acW x k (2 * t + 1) a (r + 1)) (acW y k (2 * t + 1) b (r + 1)) else 0)) (2 ^ r) = ns (fun t => if pp t r = m then G (acW x (k + 1) t a r) (acW y (k + 1) t b r) else 0) (2 ^ r) + ns (fun t => if pp t r + 1 = m then G (acW x (k + 1) t (a + x k) r) (acW y (k + 1) t (b + y k) r) else 0) (2 ^ r) := by
      refine Eq.trans (ns_cg _ (fun t _ => ?_)) (ns_add (2 ^ r))
      show (if pp (2 * t) (r + 1) = m then G (acW x k (2 * t) a (r + 1)) (acW y k (2 * t) b (r + 1)) else 0) + (if pp (2 * t + 1) (r + 1) = m then G (acW x k (2 * t + 1) a (r + 1)) (acW y k (2 * t + 1) b (r + 1)) else 0) = (if pp t r = m then G (acW x (k + 1) t a r) (acW y (k + 1) t b r) else 0) + (if pp t r + 1 = m then G (acW x (k + 1) t (a + x k) r) (acW y (k + 1) t (b + y k) r) else 0)
      rw [e1, e2, e3, e3, e4, e4]
    rw [Nat.pow_succ, ns_two]
    refine Eq.trans h0 ?_
    cases m with
    | zero =>
      have z : ns (fun t => if pp t r + 1 = 0 then G (acW x (k + 1) t (a + x k) r) (acW y (k + 1) t (b + y k) r) else 0) (2 ^ r) = 0 := (ns_cg _ (fun t _ => if_neg (Nat.succ_ne_zero _))).trans (ns_0 _)
      rw [nT_bits r (k + 1) 0 a b, z, nT_m0 r]
      exact Nat.add_zero _
    | succ m =>
      have z : ns (fun t => if pp t r + 1 = m + 1 then G (acW x (k + 1) t (a + x k) r) (acW y (k + 1) t (b + y k) r) else 0) (2 ^ r) = ns (fun t => if pp t r = m then G (acW x (k + 1) t (a + x k) r) (acW y (k + 1) t (b + y k) r) else 0) (2 ^ r) := ns_cg _ (fun t _ => by
        show (if pp t r + 1 = m + 1 then G (acW x (k + 1) t (a + x k) r) (acW y (k + 1) t (b + y k) r) else 0) = (if pp t r = m then G (acW x (k + 1) t (a + x k) r) (acW y (k + 1) t (b + y k) r) else 0)
        by_cases e : pp t r = m
        · rw [if_pos e, if_pos (by omega)]
        · rw [if_neg e, if_neg (by omega)])
      rw [z, nT_bits r (k + 1) (m + 1) a b, nT_bits r (k + 1) m (a + x k) (b + y k)]
      exact Nat.add_comm _ _
def yF (G : Int64 → Int64 → Nat) (x y : Nat → Int64) (n m : Nat) (s : Nat) : Nat := if pp s 16 = m then G (bsm x s n) (bsm y s n) else 0
theorem yF_y {G : Int64 → Int64 → Nat} {x y : Nat → Int64} {n m s : Nat} (h : pp s 16 = m) : yF G x y n m s = G (bsm x s n) (bsm y s n) := if_pos h
theorem yF_n {G : Int64 → Int64 → Nat} {x y : Nat → Int64} {n m s : Nat} (h : pp s 16 ≠ m) : yF G x y n m s = 0 := if_neg h
theorem ne_xy {G : Int64 → Int64 → Nat} {x y : Nat → Int64} {n m : Nat} (hn : n ≤ 16) : ns (yF G x y n m) (2 ^ n) = nT G x y n 0 m 0 0 := by
  rw [← nT_bits]
  refine ns_cg _ (fun s hs => ?_)
  have ac : ∀ w : Nat → Int64, acW w 0 s 0 n = bsm w s n := fun w => by
    have q := acW_b (x := w) n 0 s
    rw [Nat.pow_zero, Nat.div_one, Nat.zero_add] at q
    exact q
  show (if pp s 16 = m then G (bsm x s n) (bsm y s n) else 0) = (if pp s n = m then G (acW x 0 s 0 n) (acW y 0 s 0 n) else 0)
  rw [pp_cut n 16 s hs hn, ac, ac]
/-- what is enough, on both sides -/
def enX (x y : Nat → Int64) (n : Nat) (D R : Int64) (p risk : Int32) (z : Nat) : Prop := ((100 : Int32) * oN (nT (nF D R p) x y n 0 z 0 0)).toInt ≤ (risk * oN (nT nO x y n 0 z 0 0)).toInt
def enY (x y : Nat → Int64) (n : Nat) (D R : Int64) (p risk : Int32) (z : Nat) : Prop := ((100 : Int32) * oN (ns (yF (nFy D R p) x y n z) (2 ^ n))).toInt ≤ (risk * oN (ns (yF nO x y n z) (2 ^ n))).toInt
theorem en_xy {x y : Nat → Int64} {n : Nat} {D R : Int64} {p risk : Int32} {z : Nat} (hn : n ≤ 16) : enX x y n D R p risk z ↔ enY x y n D R p risk z := by
  unfold enX enY
  rw [ne_xy hn, ne_xy hn, nF_y]
theorem enX_cg {x y x' y' : Nat → Int64} {n : Nat} {D R : Int64} {p risk : Int32} {z : Nat} (h : ∀ j : Nat, j < n → x j = x' j ∧ y j = y' j) : enX x y n D R p risk z ↔ enX x' y' n D R p risk z := by
  unfold enX
  rw [nT_cg (x' := x') (y' := y') n 0 z 0 0 (fun j _ hj => h j (by omega)), nT_cg (G := nO) (x' := x') (y' := y') n 0 z 0 0 (fun j _ hj => h j (by omega))]
def NeR (en : Nat → Prop) (n : Nat) (r : Int) : Prop := (∃ z : Nat, 2 ≤ z ∧ z ≤ n ∧ en z ∧ (∀ w : Nat, 2 ≤ w → w < z → ¬ en w) ∧ r = (z : Int)) ∨ ((∀ w : Nat, 2 ≤ w → w ≤ n → ¬ en w) ∧ r = -1)
theorem NeR_un {en en' : Nat → Prop} {n : Nat} {r s : Int} (h : ∀ z : Nat, en z ↔ en' z) (h1 : NeR en n r) (h2 : NeR en' n s) : r = s := by
  rcases h1 with ⟨z, a1, a2, a3, a4, a5⟩ | ⟨a1, a2⟩
  · rcases h2 with ⟨w, b1, b2, b3, b4, b5⟩ | ⟨b1, b2⟩
    · rcases Nat.lt_trichotomy z w with q | q | q
      · exact absurd ((h z).mp a3) (b4 z a1 q)
      · rw [a5, b5, q]
      · exact absurd ((h w).mpr b3) (a4 w b1 q)
    · exact absurd ((h z).mp a3) (b1 z a1 a2)
  · rcases h2 with ⟨w, b1, b2, b3, b4, b5⟩ | ⟨b1, b2⟩
    · exact absurd ((h w).mpr b3) (a1 w b1 b2)
    · rw [a2, b2]
/-- sums over the listing -/
def lsI (f : Nat → Int64) : Nat → Int64
  | 0 => 0
  | n + 1 => lsI f n + f n
theorem lsI_s {f : Nat → Int64} {n n' : Nat} (h : n' = n + 1) : lsI f n' = lsI f n + f n := by rw [h]; rfl
theorem lsI_cg {f g : Nat → Int64} : ∀ n : Nat, (∀ j : Nat, j < n → f j = g j) → lsI f n = lsI g n
  | 0, _ => rfl
  | n + 1, h => by
    show lsI f n + f n = lsI g n + g n
    rw [lsI_cg n (fun j hj => h j (Nat.lt_succ_of_lt hj)), h n (Nat.lt_succ_self n)]
theorem ls_sm {c : Nat → Prop} {w : Nat → Int32} : ∀ n : Nat, lsI (fun k => (w (atP c n k)).toInt64) (lsP c n).length = smL c w n
  | 0 => rfl
  | n + 1 => by
    have q := ls_sm (c := c) (w := w) n
    by_cases e : c n
    · have a1 : (lsP c (n + 1)).length = (lsP c n).length + 1 := by rw [lsP_y rfl e, List.length_append]; rfl
      have a2 : atP c (n + 1) (lsP c n).length = n := by unfold atP; rw [lsP_y rfl e]; exact getD_e rfl
      rw [lsI_s a1, smL_y rfl e, ← q, a2]
      refine congrArg (· + (w n).toInt64) (lsI_cg _ (fun j hj => ?_))
      have a3 : atP c (n + 1) j = atP c n j := by unfold atP; rw [lsP_y rfl e]; exact getD_l hj
      show (w (atP c (n + 1) j)).toInt64 = (w (atP c n j)).toInt64
      rw [a3]
    · have a1 : lsP c (n + 1) = lsP c n := lsP_n rfl e
      rw [smL_n rfl e, ← q]
      unfold atP; rw [a1]
/-- a bit as the machine asks for it -/
theorem sr_t : ∀ j : Fin 16, (((Int32.ofNat j.val) &&& 31).toBitVec.smod 32).toNat = j.val := by decide +kernel
theorem sr_n {a k : Int32} {K : Nat} (hk : k.toInt = (K : Int)) (hK : K < 16) : (a >>> (k &&& 31)).toInt = a.toInt / ((2 ^ K : Nat) : Int) := by
  have e : k = Int32.ofNat K := Int32.toInt_inj.mp (by rw [Int32.toInt_ofNat_of_lt (by omega)]; exact hk)
  have t : (((Int32.ofNat K) &&& 31).toBitVec.smod 32).toNat = K := sr_t ⟨K, hK⟩
  rw [← Int32.toInt_toBitVec (a >>> (k &&& 31)), Int32.toBitVec_shiftRight, BitVec.toInt_sshiftRight', e, t, Int.shiftRight_eq_div_pow, Int32.toInt_toBitVec]
theorem an_1 {v : Int32} (h : 0 ≤ v.toInt) : (v &&& 1).toInt = ((v.toInt.toNat % 2 : Nat) : Int) := by
  have hv := v.toBitVec.isLt
  have q : (v &&& 1).toBitVec.toNat = v.toBitVec.toNat % 2 := by
    rw [Int32.toBitVec_and, BitVec.toNat_and]; exact Nat.and_one_is_mod _
  have c := BitVec.toInt_eq_toNat_cond v.toBitVec
  rw [Int32.toInt_toBitVec] at c
  have e : v.toInt.toNat = v.toBitVec.toNat := by
    rw [c] at h ⊢
    split at h
    · next z => rw [if_pos z]; rfl
    · omega
  rw [e, ← Int32.toInt_toBitVec (v &&& 1), BitVec.toInt_eq_toNat_of_lt (by rw [q]; omega), q]
theorem bt_n {a k v1 v2 : Int32} (h1 : v1 = a >>> (k &&& 31)) (h2 : v2 = v1 &&& 1) (ha : 0 ≤ a.toInt) (hk : 0 ≤ k.toInt ∧ k.toInt < 16) : v2.toInt = ((a.toInt.toNat / 2 ^ k.toInt.toNat % 2 : Nat) : Int) := by
  have e1 : v1.toInt = a.toInt / ((2 ^ k.toInt.toNat : Nat) : Int) := by rw [h1]; exact sr_n (by omega) (by omega)
  have p : 0 < 2 ^ k.toInt.toNat := Nat.pow_pos (by decide)
  obtain ⟨A, hA⟩ : ∃ A : Nat, a.toInt = (A : Int) := ⟨a.toInt.toNat, (Int.toNat_of_nonneg ha).symm⟩
  have e2 : v1.toInt = ((A / 2 ^ k.toInt.toNat : Nat) : Int) := by rw [e1, hA]; rfl
  have e0 : 0 ≤ v1.toInt := by rw [e2]; exact Int.natCast_nonneg _
  have e3 := an_1 (v := v1) e0
  rw [h2, e3, e2, hA]
  rfl
theorem bt_m {b d v : Int32} {t : Nat} (h : v = b * d) (hb : b.toInt = ((t % 2 : Nat) : Int)) : (t % 2 = 1 → v = d) ∧ (t % 2 ≠ 1 → v = 0) := by
  refine ⟨fun z => ?_, fun z => ?_⟩
  · have e : b = 1 := Int32.toInt_inj.mp (by rw [hb, z]; decide)
    rw [h, e, Int32.one_mul]
  · have z0 : t % 2 = 0 := by omega
    have e : b = 0 := Int32.toInt_inj.mp (by rw [hb, z0]; decide)
    rw [h, e, Int32.zero_mul]
theorem bsm_st {x : Nat → Int64} {s k k' : Nat} {b d v : Int32} {w w' : Int64} (hk : k' = k + 1) (hw : w = bsm x s k) (hv : v = b * d) (hb : b.toInt = ((s / 2 ^ k % 2 : Nat) : Int)) (hd : x k = d.toInt64) (h : w' = w + v.toInt64) : w' = bsm x s k' := by
  have m := bt_m hv hb
  rw [hk]
  show w' = (if s / 2 ^ k % 2 = 1 then bsm x s k + x k else bsm x s k)
  by_cases z : s / 2 ^ k % 2 = 1
  · rw [if_pos z, h, hw, m.1 z, hd]
  · rw [if_neg z, h, hw, m.2 z]; exact Int64.add_zero _
/-- two to a power, as the machine makes it -/
theorem sl_t : ∀ j : Fin 13, ((1 : Int32) <<< (Int32.ofNat j.val &&& 31)).toInt = ((2 ^ j.val : Nat) : Int) := by decide +kernel
def tw2 (n : Nat) : Nat := 2 ^ n
theorem sl_n {k v : Int32} (h : v = 1 <<< (k &&& 31)) (hk : 0 ≤ k.toInt ∧ k.toInt ≤ 12) : v.toInt = ((tw2 k.toInt.toNat : Nat) : Int) := by
  have e : k = Int32.ofNat k.toInt.toNat := Int32.toInt_inj.mp (by rw [Int32.toInt_ofNat_of_lt (by omega)]; omega)
  have t : ((1 : Int32) <<< (Int32.ofNat k.toInt.toNat &&& 31)).toInt = ((2 ^ k.toInt.toNat : Nat) : Int) := sl_t ⟨k.toInt.toNat, by omega⟩
  rw [← e] at t
  rw [h]; exact t
theorem Tk_st {G : Int64 → Int64 → Nat} {x y : Nat → Int64} {r r' k m m' w c : Nat} {a b : Int64} (hr : r = r' + 1) (hm : m = m' + 1) (h : w + nT G x y r k m a b = c) : w + nT G x y r' (k + 1) m' (a + x k) (b + y k) + nT G x y r' (k + 1) m a b = c := by
  rw [nT_s hr hm] at h
  omega
theorem NeR_cg {en en' : Nat → Prop} {n : Nat} {r : Int} (h : ∀ z : Nat, en z ↔ en' z) (h1 : NeR en n r) : NeR en' n r := by
  rcases h1 with ⟨z, a1, a2, a3, a4, a5⟩ | ⟨a1, a2⟩
  · exact Or.inl ⟨z, a1, a2, (h z).mp a3, fun w h1 h2 q => a4 w h1 h2 ((h w).mpr q), a5⟩
  · exact Or.inr ⟨fun w h1 h2 q => a1 w h1 h2 ((h w).mpr q), a2⟩
/-- a listing kept in a row: one more, or none -/
def LsA (Q : Nat → Prop) (T : Nat) (n : Int) (f : Nat → Int32) : Prop := n = ((lsP Q T).length : Int) ∧ ∀ j : Nat, j < (lsP Q T).length → (f j).toInt = ((atP Q T j : Nat) : Int)
theorem LsA_0 {Q : Nat → Prop} {n : Int} {f : Nat → Int32} (h : n = 0) : LsA Q 0 n f := ⟨h, fun j hj => absurd hj (Nat.not_lt_zero j)⟩
theorem LsA_y {Q : Nat → Prop} {T T' : Nat} {n n' : Int} {f f' : Nat → Int32} (hT : T' = T + 1) (h : LsA Q T n f) (hQ : Q T) (hn : n' = n + 1) (hf : (f' n.toNat).toInt = (T : Int)) (ho : ∀ j : Nat, j ≠ n.toNat → f' j = f j) : LsA Q T' n' f' := by
  have a1 : lsP Q T' = lsP Q T ++ [T] := lsP_y hT hQ
  have a2 : (lsP Q T').length = (lsP Q T).length + 1 := by rw [a1, List.length_append]; rfl
  have h1 := h.1
  have a3 : n.toNat = (lsP Q T).length := by omega
  refine ⟨by omega, fun j hj => ?_⟩
  unfold atP
  rw [a1]
  by_cases z : j = (lsP Q T).length
  · rw [getD_e z, z, ← a3]; exact hf
  · rw [getD_l (by omega), ho j (by omega)]; exact h.2 j (by omega)
theorem LsA_n {Q : Nat → Prop} {T T' : Nat} {n n' : Int} {f f' : Nat → Int32} (hT : T' = T + 1) (h : LsA Q T n f) (hQ : ¬ Q T) (hn : n' = n) (ho : ∀ j : Nat, f' j = f j) : LsA Q T' n' f' := by
  have a1 : lsP Q T' = lsP Q T := lsP_n hT hQ
  unfold LsA atP
  rw [a1, hn]
  exact ⟨h.1, fun j hj => by rw [ho j]; exact h.2 j hj⟩
/-- what is enough of a bale, on both sides -/
def neX (rw_ : Nat → Int32) (b d : Int) (n : Nat) (p risk : Int32) : Nat → Prop := enX (fun k => (rw_ (9 * atP (cxP rw_ b d 0) n k + 4)).toInt64) (fun k => (rw_ (9 * atP (cxP rw_ b d 0) n k + 3)).toInt64) (lsP (cxP rw_ b d 0) n).length (smL (cxP rw_ b d 0) (fun s => rw_ (9 * s + 4)) n) (smL (cxP rw_ b d 0) (fun s => rw_ (9 * s + 3)) n) p risk
def neY (ob ol dy lo ra dr : Nat → Int32) (b d : Int) (n : Nat) (p risk : Int32) : Nat → Prop := enX (fun k => (dr (atP (cyP ob ol dy lo b d 0) n k)).toInt64) (fun k => (ra (atP (cyP ob ol dy lo b d 0) n k)).toInt64) (lsP (cyP ob ol dy lo b d 0) n).length (smL (cyP ob ol dy lo b d 0) dr n) (smL (cyP ob ol dy lo b d 0) ra n) p risk
theorem ne_cl {rw_ f : Nat → Int32} {b d : Int} {n : Nat} {p risk : Int32} (hf : ∀ k : Nat, k < (lsP (cxP rw_ b d 0) n).length → (f k).toInt = ((atP (cxP rw_ b d 0) n k : Nat) : Int)) (z : Nat) : enX (fun q => (rw_ (9 * (f q).toInt.toNat + 4)).toInt64) (fun q => (rw_ (9 * (f q).toInt.toNat + 3)).toInt64) (lsP (cxP rw_ b d 0) n).length (lsI (fun q => (rw_ (9 * (f q).toInt.toNat + 4)).toInt64) (lsP (cxP rw_ b d 0) n).length) (lsI (fun q => (rw_ (9 * (f q).toInt.toNat + 3)).toInt64) (lsP (cxP rw_ b d 0) n).length) p risk z ↔ neX rw_ b d n p risk z := by
  have e : ∀ c j : Nat, j < (lsP (cxP rw_ b d 0) n).length → (rw_ (9 * (f j).toInt.toNat + c)).toInt64 = (rw_ (9 * atP (cxP rw_ b d 0) n j + c)).toInt64 := fun c j hj => by
    rw [show (f j).toInt.toNat = atP (cxP rw_ b d 0) n j from by have q := hf j hj; omega]
  have h4 : lsI (fun q => (rw_ (9 * (f q).toInt.toNat + 4)).toInt64) (lsP (cxP rw_ b d 0) n).length = smL (cxP rw_ b d 0) (fun s => rw_ (9 * s + 4)) n := (lsI_cg _ (fun j hj => e 4 j hj)).trans (ls_sm (c := cxP rw_ b d 0) (w := fun s => rw_ (9 * s + 4)) n)
  have h3 : lsI (fun q => (rw_ (9 * (f q).toInt.toNat + 3)).toInt64) (lsP (cxP rw_ b d 0) n).length = smL (cxP rw_ b d 0) (fun s => rw_ (9 * s + 3)) n := (lsI_cg _ (fun j hj => e 3 j hj)).trans (ls_sm (c := cxP rw_ b d 0) (w := fun s => rw_ (9 * s + 3)) n)
  rw [h4, h3]
  exact enX_cg (fun j hj => ⟨e 4 j hj, e 3 j hj⟩)
theorem ne_rf {ob ol dy lo ra dr f : Nat → Int32} {b d : Int} {n : Nat} {p risk : Int32} (hl : (lsP (cyP ob ol dy lo b d 0) n).length ≤ 16) (hf : ∀ k : Nat, k < (lsP (cyP ob ol dy lo b d 0) n).length → (f k).toInt = ((atP (cyP ob ol dy lo b d 0) n k : Nat) : Int)) (z : Nat) : enY (fun q => (dr (f q).toInt.toNat).toInt64) (fun q => (ra (f q).toInt.toNat).toInt64) (lsP (cyP ob ol dy lo b d 0) n).length (smL (cyP ob ol dy lo b d 0) dr n) (smL (cyP ob ol dy lo b d 0) ra n) p risk z ↔ neY ob ol dy lo ra dr b d n p risk z := by
  have e : ∀ (w : Nat → Int32) (j : Nat), j < (lsP (cyP ob ol dy lo b d 0) n).length → (w (f j).toInt.toNat).toInt64 = (w (atP (cyP ob ol dy lo b d 0) n j)).toInt64 := fun w j hj => by
    rw [show (f j).toInt.toNat = atP (cyP ob ol dy lo b d 0) n j from by have q := hf j hj; omega]
  exact (en_xy hl).symm.trans (enX_cg (fun j hj => ⟨e dr j hj, e ra j hj⟩))
theorem ne_un {n : Int} {rw_ ob ol sc ra dr ov ha dy lo : Nat → Int32} (h : RoE n rw_ ob ol sc ra dr ov ha dy lo) (hl : ∀ j : Nat, -1 ≤ (lo j).toInt) (b d : Int) (p risk : Int32) : (lsP (cxP rw_ b d 0) n.toNat).length = (lsP (cyP ob ol dy lo b d 0) n.toNat).length ∧ ∀ z : Nat, neX rw_ b d n.toNat p risk z ↔ neY ob ol dy lo ra dr b d n.toNat p risk z := by
  have hc : ∀ s : Nat, s < n.toNat → (cxP rw_ b d 0 s ↔ cyP ob ol dy lo b d 0 s) := fun s hs => RoE_c h hl b d 0 (by omega)
  have hL : lsP (cxP rw_ b d 0) n.toNat = lsP (cyP ob ol dy lo b d 0) n.toNat := lsP_cg _ hc
  have h4 : smL (cxP rw_ b d 0) (fun s => rw_ (9 * s + 4)) n.toNat = smL (cyP ob ol dy lo b d 0) dr n.toNat := smL_cg _ (fun j hj => ⟨hc j hj, (h j (by omega)).2.2.2.2.1⟩)
  have h3 : smL (cxP rw_ b d 0) (fun s => rw_ (9 * s + 3)) n.toNat = smL (cyP ob ol dy lo b d 0) ra n.toNat := smL_cg _ (fun j hj => ⟨hc j hj, (h j (by omega)).2.2.2.1⟩)
  refine ⟨by rw [hL], fun z => ?_⟩
  unfold neX neY
  rw [h4, h3, hL]
  refine enX_cg (fun j hj => ?_)
  have q := atP_lt (c := cyP ob ol dy lo b d 0) n.toNat j hj
  have a : atP (cxP rw_ b d 0) n.toNat j = atP (cyP ob ol dy lo b d 0) n.toNat j := by unfold atP; rw [hL]
  have hq := h (atP (cyP ob ol dy lo b d 0) n.toNat j) (by omega)
  show (rw_ (9 * atP (cxP rw_ b d 0) n.toNat j + 4)).toInt64 = _ ∧ (rw_ (9 * atP (cxP rw_ b d 0) n.toNat j + 3)).toInt64 = _
  rw [a, hq.2.2.2.2.1, hq.2.2.2.1]
  exact ⟨rfl, rfl⟩
/-! ===== od1 ===== -/
set_option maxHeartbeats 4000000 in
set_option maxRecDepth 100000 in
/-- X2_listLook -/
theorem c_X2_listLook_w (l : Launch) (dC : Nat → ClassId) (dI : Nat → Nat → Nat) (sz : Nat) (h : Nat) (g : Nat → Nat → Nat) (ca : Nat → Nat → ClassId) (iv : Nat → Nat → Int32) (lv : Nat → Nat → Int64) (fa : Nat → Nat → Nat → Int32) (la : Nat → Nat → Nat → Int64) (hI : IX iv fa) (a : Int32) (hJL : ∀ b l : Int32, cn0 (fun s => fa 10 0 (9 * s + 0)) (fun s => fa 10 0 (9 * s + 1)) b l (iv 10 1).toInt.toNat ≤ 12) : Met l yX2_listLook (wc yX2_listLook cX2_listLook 4 (some .int)) ({ frames := 2, cells := 0, slots := 0, locals := 45 } : Room) (pW (dC, dI) classes (WX h g ca iv lv fa la) (TX ca) sz [.ref (g 11 6), .int a]) (va_Qi (fun r (u : SS) => ∃ (na_2_2 : Nat → Int32), (∀ j, inb (bA 2 2 j) (na_2_2 j)) ∧ (r.toInt = ((lsP (cxP (fa 10 0) (iv 2 3).toInt (iv 2 4).toInt a.toInt) ((iv 10 1).toInt).toNat).length : Int)) ∧ (∀ k : Nat, k < (lsP (cxP (fa 10 0) (iv 2 3).toInt (iv 2 4).toInt a.toInt) ((iv 10 1).toInt).toNat).length → (na_2_2 k).toInt = ((atP (cxP (fa 10 0) (iv 2 3).toInt (iv 2 4).toInt a.toInt) ((iv 10 1).toInt).toNat k : Nat) : Int)) ∧ (0 ≤ r.toInt ∧ r.toInt ≤ 12) ∧ u = (iv, lv, (u2 fa 2 2 na_2_2), la)) (bX (dC, dI) h g ca (va_A (WX h g ca iv lv fa la) sz)) (va_A (WX h g ca iv lv fa la) sz)) 0 0 (va_A (WX h g ca iv lv fa la) sz) := by
  refine Met.ofW (cc := cX2_listLook) (maxL := 4) (ret := (some .int)) (by decide) rfl ?_
  intro p e s m args below meth c s₁ B hml hv
  obtain ⟨rfl, hsz, hP, hK, hD0⟩ := hv
  have hx := B.exec
  have hb := B.bytes
  have hr := B.returns
  have ht := tb_tl (atoms_spec (ws := wc yX2_listLook cX2_listLook 4 (some .int)) B.pre)
  have hown : s.vm.findClass RX2 = some m.cls := findClass_of_methodNamed B.named
  have hlocks := B.notSynchronized
  subst hsz
  have hD := hD0.self (sz := s.heap.size)
  generalize hAe : va_A (WX h g ca iv lv fa la) s.heap.size = A at hD ⊢
  have hA : ∀ q : Nat, s.heap.size ≤ q → A q := fun q h => by rw [← hAe]; exact Or.inr h
  have hS : va_S A s.heap s.heap [] := va_S.rf
  have hl := lv_entry [.ref (g 11 6), .int a] (n := 4) (Nat.le_of_ble_eq_true rfl)
  rw [lg_entry_eq]
  generalize (lg_sl [.ref (g 11 6), .int a] ++ List.replicate (4 - (lg_sl [.ref (g 11 6), .int a]).length) Slot.unset).toArray = ls at hl ⊢
  have hl : lv_has ls 4 [(0, .ref (g 11 6)), (1, .int a)] := hl
  refine lv_iconst (v := 0) hx hb dX2_listLook_0 (by decide) ?_
  refine lv_istore_n (lv' := [(2, .int 0), (0, .ref (g 11 6)), (1, .int a)]) hx hb dX2_listLook_1 rfl hl (by decide) rfl (fun ls hl => ?_)
  refine lv_iconst (v := 0) hx hb dX2_listLook_2 (by decide) ?_
  refine lv_istore_n (lv' := [(3, .int 0), (2, .int 0), (0, .ref (g 11 6)), (1, .int a)]) hx hb dX2_listLook_3 rfl hl (by decide) rfl (fun ls hl => ?_)
  have i_10_1 : 0 ≤ (iv 10 1).toInt ∧ (iv 10 1).toInt ≤ 60 := hI.1 10 1
  have lp266 : ∀ (nn266 : Nat) (x265_3 : Int32) (x265_2 : Int32) (w265_a_2_2 : Nat → Int32), 0 ≤ x265_3.toInt ∧ x265_3.toInt ≤ 60 → 0 ≤ x265_2.toInt ∧ x265_2.toInt ≤ 12 → (∀ j, inb (bA 2 2 j) (w265_a_2_2 j)) → ((x265_2 : Int32).toInt = ((lsP (cxP (fa 10 0) ((iv 2 3) : Int32).toInt ((iv 2 4) : Int32).toInt (a).toInt) ((x265_3 : Int32).toInt).toNat).length : Int)) → (∀ k : Nat, k < (lsP (cxP (fa 10 0) ((iv 2 3) : Int32).toInt ((iv 2 4) : Int32).toInt (a).toInt) ((x265_3 : Int32).toInt).toNat).length → (w265_a_2_2 k).toInt = ((atP (cxP (fa 10 0) ((iv 2 3) : Int32).toInt ((iv 2 4) : Int32).toInt (a).toInt) ((x265_3 : Int32).toInt).toNat k : Nat) : Int)) → (x265_3 : Int32).toInt ≤ ((iv 10 1) : Int32).toInt → 60 - x265_3.toInt < (nn266 : Int) → ∀ (H : Heap) (locs : List Loc), ∀ (ls : Array Slot), va_P (dC, dI) classes (WX h g ca iv lv (u2 fa 2 2 w265_a_2_2) la) H → va_D A (WX h g ca iv lv (u2 fa 2 2 w265_a_2_2) la) → va_S A s.heap H locs → lv_has ls 4 [(3, .int x265_3), (2, .int x265_2), (0, .ref (g 11 6)), (1, .int a)] → W p l e ({ frames := 2, cells := 0, slots := 0, locals := 45 } : Room) s m ([.ref (g 11 6), .int a] : List Value).toArray below meth c H locs 0 0 (MQ below (va_Qi (fun r (u : SS) => ∃ (na_2_2 : Nat → Int32), (∀ j, inb (bA 2 2 j) (na_2_2 j)) ∧ (r.toInt = ((lsP (cxP (fa 10 0) (iv 2 3).toInt (iv 2 4).toInt a.toInt) ((iv 10 1).toInt).toNat).length : Int)) ∧ (∀ k : Nat, k < (lsP (cxP (fa 10 0) (iv 2 3).toInt (iv 2 4).toInt a.toInt) ((iv 10 1).toInt).toNat).length → (na_2_2 k).toInt = ((atP (cxP (fa 10 0) (iv 2 3).toInt (iv 2 4).toInt a.toInt) ((iv 10 1).toInt).toNat k : Nat) : Int)) ∧ (0 ≤ r.toInt ∧ r.toInt ≤ 12) ∧ u = (iv, lv, (u2 fa 2 2 na_2_2), la)) (bX (dC, dI) h g ca A) A) ([.ref (g 11 6), .int a] : List Value).toArray s 0 0 A) (F0 m 4 ls []) := by
    intro nn266
    induction nn266 with
    | zero => intro x265_3 x265_2 w265_a_2_2 hx265_3 hx265_2 hw265_a_2_2 hq266_0 hq266_1 hq266_2 hm266; exfalso; omega
    | succ nn266 ih266 =>
      intro x265_3 x265_2 w265_a_2_2 hx265_3 hx265_2 hw265_a_2_2 hq266_0 hq266_1 hq266_2 hm266 H locs ls hP hD hS hl
      refine lv_iload_n hx hb dX2_listLook_4 rfl (lv_at hl 0 rfl) ?_
      refine lv_aload_n hx hb dX2_listLook_5 rfl (lv_at hl 2 rfl) ?_
      refine gX_2_0 hx hb ht hown hK hP m_304 dX2_listLook_6 ?_
      refine gX_10_1 hx hb ht hown hK hP m_115 (v := (iv 10 1)) rfl dX2_listLook_9 ?_
      refine lv_icmp_ge (tgt := 71) hx hb dX2_listLook_12 (by decide) (fun c267 => ?_) (fun c267 => ?_)
      · have fc267 := z_le (rfl : ((iv 10 1)).toInt = _) (rfl : (x265_3).toInt = _) c267
        refine lv_iload_n hx hb dX2_listLook_71 rfl (lv_at hl 1 rfl) ?_
        have hP9 : va_P (dC, dI) classes (WX h g ca iv lv (u2 fa 2 2 w265_a_2_2) la) H := hP
        have hD9 : va_D A (WX h g ca iv lv (u2 fa 2 2 w265_a_2_2) la) := hD
        exact W.iret (v := x265_2) hx hb hr (fun t ht9 hW => ⟨⟨x265_2, (iv, lv, (u2 fa 2 2 w265_a_2_2), la), rfl, ⟨w265_a_2_2, hw265_a_2_2, (show (x265_2 : Int32).toInt = ((lsP (cxP (fa 10 0) ((iv 2 3) : Int32).toInt ((iv 2 4) : Int32).toInt (a).toInt) (((iv 10 1) : Int32).toInt).toNat).length : Int) from (by
              have hb9 : 0 ≤ (iv 10 1).toInt ∧ (iv 10 1).toInt ≤ 60 := hI.1 10 1
              have hq9 := hq266_0
              have hE9 : lsP (cxP (fa 10 0) (iv 2 3).toInt (iv 2 4).toInt a.toInt) ((iv 10 1).toInt).toNat = lsP (cxP (fa 10 0) (iv 2 3).toInt (iv 2 4).toInt a.toInt) ((x265_3 : Int32).toInt).toNat := by
                by_cases z9 : ((x265_3 : Int32).toInt).toNat = ((iv 10 1).toInt).toNat
                · rw [z9]
                · have h1 := smC_dn (c := (cxP (fa 10 0) (iv 2 3).toInt (iv 2 4).toInt a.toInt)) (ob := fun s => fa 10 0 (9 * s + 0)) (ol := fun s => fa 10 0 (9 * s + 1)) (b := iv 2 3) (l := a) ((iv 10 1).toInt).toNat (by omega) (fun j _ h => ⟨h.1, h.2.1⟩)
                  have h2 := lsP_sm (c := (cxP (fa 10 0) (iv 2 3).toInt (iv 2 4).toInt a.toInt)) ((iv 10 1).toInt).toNat (by omega)
                  have h3 := hJL (iv 2 3) a
                  exact lsP_full ((iv 10 1).toInt).toNat (by omega) (by omega)
              rw [hE9]; exact hq9)), (show ∀ k : Nat, k < (lsP (cxP (fa 10 0) ((iv 2 3) : Int32).toInt ((iv 2 4) : Int32).toInt (a).toInt) (((iv 10 1) : Int32).toInt).toNat).length → (w265_a_2_2 k).toInt = ((atP (cxP (fa 10 0) ((iv 2 3) : Int32).toInt ((iv 2 4) : Int32).toInt (a).toInt) (((iv 10 1) : Int32).toInt).toNat k : Nat) : Int) from (fun k hk => by
              have hb9 : 0 ≤ (iv 10 1).toInt ∧ (iv 10 1).toInt ≤ 60 := hI.1 10 1
              have hq9 := hq266_0
              have hE9 : lsP (cxP (fa 10 0) (iv 2 3).toInt (iv 2 4).toInt a.toInt) ((iv 10 1).toInt).toNat = lsP (cxP (fa 10 0) (iv 2 3).toInt (iv 2 4).toInt a.toInt) ((x265_3 : Int32).toInt).toNat := by
                by_cases z9 : ((x265_3 : Int32).toInt).toNat = ((iv 10 1).toInt).toNat
                · rw [z9]
                · have h1 := smC_dn (c := (cxP (fa 10 0) (iv 2 3).toInt (iv 2 4).toInt a.toInt)) (ob := fun s => fa 10 0 (9 * s + 0)) (ol := fun s => fa 10 0 (9 * s + 1)) (b := iv 2 3) (l := a) ((iv 10 1).toInt).toNat (by omega) (fun j _ h => ⟨h.1, h.2.1⟩)
                  have h2 := lsP_sm (c := (cxP (fa 10 0) (iv 2 3).toInt (iv 2 4).toInt a.toInt)) ((iv 10 1).toInt).toNat (by omega)
                  have h3 := hJL (iv 2 3) a
                  exact lsP_full ((iv 10 1).toInt).toNat (by omega) (by omega)
              rw [hE9] at hk
              unfold atP; rw [hE9]; exact hq266_1 k hk)), ⟨by omega, by omega⟩, rfl⟩, by rw [ht9]; exact hP9, hD9⟩, hS.F ht9⟩) hS.2.2 dX2_listLook_72
      · have fc267 := z_nle (rfl : ((iv 10 1)).toInt = _) (rfl : (x265_3).toInt = _) c267
        refine lv_iload_n hx hb dX2_listLook_15 rfl (lv_at hl 1 rfl) ?_
        refine lv_aload_n hx hb dX2_listLook_16 rfl (lv_at hl 2 rfl) ?_
        refine gX_2_2 hx hb ht hown hK hP m_306 dX2_listLook_17 ?_
        refine va_alen (D := (dC, dI)) (v := 12) hx hb hK hP 32 19 rfl rfl rfl dX2_listLook_20 ?_
        refine lv_icmp_ge (tgt := 71) hx hb dX2_listLook_21 (by decide) (fun c268 => ?_) (fun c268 => ?_)
        · have fc268 := z_le (by decide : (12 : Int32).toInt = 12) (rfl : (x265_2).toInt = _) c268
          refine lv_iload_n hx hb dX2_listLook_71 rfl (lv_at hl 1 rfl) ?_
          have hP9 : va_P (dC, dI) classes (WX h g ca iv lv (u2 fa 2 2 w265_a_2_2) la) H := hP
          have hD9 : va_D A (WX h g ca iv lv (u2 fa 2 2 w265_a_2_2) la) := hD
          exact W.iret (v := x265_2) hx hb hr (fun t ht9 hW => ⟨⟨x265_2, (iv, lv, (u2 fa 2 2 w265_a_2_2), la), rfl, ⟨w265_a_2_2, hw265_a_2_2, (show (x265_2 : Int32).toInt = ((lsP (cxP (fa 10 0) ((iv 2 3) : Int32).toInt ((iv 2 4) : Int32).toInt (a).toInt) (((iv 10 1) : Int32).toInt).toNat).length : Int) from (by
                have hb9 : 0 ≤ (iv 10 1).toInt ∧ (iv 10 1).toInt ≤ 60 := hI.1 10 1
                have hq9 := hq266_0
                have hE9 : lsP (cxP (fa 10 0) (iv 2 3).toInt (iv 2 4).toInt a.toInt) ((iv 10 1).toInt).toNat = lsP (cxP (fa 10 0) (iv 2 3).toInt (iv 2 4).toInt a.toInt) ((x265_3 : Int32).toInt).toNat := by
                  by_cases z9 : ((x265_3 : Int32).toInt).toNat = ((iv 10 1).toInt).toNat
                  · rw [z9]
                  · have h1 := smC_dn (c := (cxP (fa 10 0) (iv 2 3).toInt (iv 2 4).toInt a.toInt)) (ob := fun s => fa 10 0 (9 * s + 0)) (ol := fun s => fa 10 0 (9 * s + 1)) (b := iv 2 3) (l := a) ((iv 10 1).toInt).toNat (by omega) (fun j _ h => ⟨h.1, h.2.1⟩)
                    have h2 := lsP_sm (c := (cxP (fa 10 0) (iv 2 3).toInt (iv 2 4).toInt a.toInt)) ((iv 10 1).toInt).toNat (by omega)
                    have h3 := hJL (iv 2 3) a
                    exact lsP_full ((iv 10 1).toInt).toNat (by omega) (by omega)
                rw [hE9]; exact hq9)), (show ∀ k : Nat, k < (lsP (cxP (fa 10 0) ((iv 2 3) : Int32).toInt ((iv 2 4) : Int32).toInt (a).toInt) (((iv 10 1) : Int32).toInt).toNat).length → (w265_a_2_2 k).toInt = ((atP (cxP (fa 10 0) ((iv 2 3) : Int32).toInt ((iv 2 4) : Int32).toInt (a).toInt) (((iv 10 1) : Int32).toInt).toNat k : Nat) : Int) from (fun k hk => by
                have hb9 : 0 ≤ (iv 10 1).toInt ∧ (iv 10 1).toInt ≤ 60 := hI.1 10 1
                have hq9 := hq266_0
                have hE9 : lsP (cxP (fa 10 0) (iv 2 3).toInt (iv 2 4).toInt a.toInt) ((iv 10 1).toInt).toNat = lsP (cxP (fa 10 0) (iv 2 3).toInt (iv 2 4).toInt a.toInt) ((x265_3 : Int32).toInt).toNat := by
                  by_cases z9 : ((x265_3 : Int32).toInt).toNat = ((iv 10 1).toInt).toNat
                  · rw [z9]
                  · have h1 := smC_dn (c := (cxP (fa 10 0) (iv 2 3).toInt (iv 2 4).toInt a.toInt)) (ob := fun s => fa 10 0 (9 * s + 0)) (ol := fun s => fa 10 0 (9 * s + 1)) (b := iv 2 3) (l := a) ((iv 10 1).toInt).toNat (by omega) (fun j _ h => ⟨h.1, h.2.1⟩)
                    have h2 := lsP_sm (c := (cxP (fa 10 0) (iv 2 3).toInt (iv 2 4).toInt a.toInt)) ((iv 10 1).toInt).toNat (by omega)
                    have h3 := hJL (iv 2 3) a
                    exact lsP_full ((iv 10 1).toInt).toNat (by omega) (by omega)
                rw [hE9] at hk
                unfold atP; rw [hE9]; exact hq266_1 k hk)), ⟨by omega, by omega⟩, rfl⟩, by rw [ht9]; exact hP9, hD9⟩, hS.F ht9⟩) hS.2.2 dX2_listLook_72
        · have fc268 := z_nle (by decide : (12 : Int32).toInt = 12) (rfl : (x265_2).toInt = _) c268
          refine lv_aload_n hx hb dX2_listLook_24 rfl (lv_at hl 2 rfl) ?_
          refine gX_2_0 hx hb ht hown hK hP m_304 dX2_listLook_25 ?_
          refine lv_iload_n hx hb dX2_listLook_28 rfl (lv_at hl 0 rfl) ?_
          refine lv_aload_n hx hb dX2_listLook_29 rfl (lv_at hl 2 rfl) ?_
          refine gX_2_3 hx hb ht hown hK hP m_307 (v := (iv 2 3)) rfl dX2_listLook_30 ?_
          refine lv_iload_n hx hb dX2_listLook_33 rfl (lv_at hl 3 rfl) ?_
          refine vp_callSi (W.runV (As := [.int x265_3, .int (iv 2 3), .int a]) (rest := []) ⟨hx, hb, hml, hown, ht⟩ (c_X10_isOf_x l dC dI h g ca iv lv (u2 fa 2 2 w265_a_2_2) la (IX_a (c := 2) (k := 2) hI hw265_a_2_2) x265_3 (iv 2 3) a ⟨by omega, by omega⟩) (kV 3 ht m_887 m_482 m_483 m_78 m_484 rfl rfl hd_X10_isOf_v ⟨Nat.le_of_ble_eq_true rfl, Nat.le_of_ble_eq_true rfl⟩) (vR hP hK (rX_10 hK hP)) rfl rfl hl.1 rfl (lv_room (Nat.le_of_ble_eq_true rfl)) dX2_listLook_34 ⟨Nat.le_of_ble_eq_true rfl, Nat.le_of_ble_eq_true rfl⟩) (fun r269 hr269 => ?_)
          obtain ⟨hr269, xr269_0⟩ := hr269
          have xr269_0 : (((r269 : Int32).toInt = 1 ∧ ((fa 10 0) (9 * ((x265_3 : Int32).toInt).toNat + 0)).toInt = ((iv 2 3) : Int32).toInt ∧ ((fa 10 0) (9 * ((x265_3 : Int32).toInt).toNat + 1)).toInt = (a : Int32).toInt) ∨ ((r269 : Int32).toInt = 0 ∧ ¬ (((fa 10 0) (9 * ((x265_3 : Int32).toInt).toNat + 0)).toInt = ((iv 2 3) : Int32).toInt ∧ ((fa 10 0) (9 * ((x265_3 : Int32).toInt).toNat + 1)).toInt = (a : Int32).toInt))) := xr269_0
          refine lv_if_eq (tgt := 65) hx hb dX2_listLook_37 (by decide) (fun c270 => ?_) (fun c270 => ?_)
          · have fc270 := z_eq (rfl : (r269).toInt = _) (by decide : (0 : Int32).toInt = 0) c270
            obtain ⟨v271, ev271⟩ : ∃ y : Int32, y = x265_3 + 1 := ⟨_, rfl⟩
            have tv271 := z_add ev271 rfl (by decide : (1 : Int32).toInt = 1) (by omega) (by omega)
            refine lv_iinc (v := v271) (lv' := [(3, .int v271), (2, .int x265_2), (0, .ref (g 11 6)), (1, .int a)]) hx hb dX2_listLook_65 hl (k := 0) rfl (by rw [ev271]; rfl) (by decide) rfl (fun ls hl => ?_)
            refine lv_goto (tgt := 4) hx hb dX2_listLook_68 (by decide) ?_
            exact ih266 v271 x265_2 w265_a_2_2 ⟨by omega, by omega⟩ ⟨by omega, by omega⟩ hw265_a_2_2 (show (x265_2 : Int32).toInt = ((lsP (cxP (fa 10 0) ((iv 2 3) : Int32).toInt ((iv 2 4) : Int32).toInt (a).toInt) ((v271 : Int32).toInt).toNat).length : Int) from (by
                  have hs9 : ((v271 : Int32).toInt).toNat = ((x265_3 : Int32).toInt).toNat + 1 := by omega
                  have hq9 := hq266_0
                  have y9_0 := xr269_0
                  have hc9 : ¬ ((fa 10 0 (9 * ((x265_3 : Int32).toInt).toNat + 0)).toInt = (iv 2 3).toInt ∧ (fa 10 0 (9 * ((x265_3 : Int32).toInt).toNat + 1)).toInt = a.toInt ∧ (fa 10 0 (9 * ((x265_3 : Int32).toInt).toNat + 7)).toInt ≤ (iv 2 4).toInt ∧ ((fa 10 0 (9 * ((x265_3 : Int32).toInt).toNat + 8)).toInt = -1 ∨ (iv 2 4).toInt < (fa 10 0 (9 * ((x265_3 : Int32).toInt).toNat + 8)).toInt)) := by omega
                  rw [lsP_n hs9 hc9]; exact hq9)) (show ∀ k : Nat, k < (lsP (cxP (fa 10 0) ((iv 2 3) : Int32).toInt ((iv 2 4) : Int32).toInt (a).toInt) ((v271 : Int32).toInt).toNat).length → (w265_a_2_2 k).toInt = ((atP (cxP (fa 10 0) ((iv 2 3) : Int32).toInt ((iv 2 4) : Int32).toInt (a).toInt) ((v271 : Int32).toInt).toNat k : Nat) : Int) from (fun k hk => by
                  have hs9 : ((v271 : Int32).toInt).toNat = ((x265_3 : Int32).toInt).toNat + 1 := by omega
                  have hq9 := hq266_0
                  have y9_0 := xr269_0
                  have hc9 : ¬ ((fa 10 0 (9 * ((x265_3 : Int32).toInt).toNat + 0)).toInt = (iv 2 3).toInt ∧ (fa 10 0 (9 * ((x265_3 : Int32).toInt).toNat + 1)).toInt = a.toInt ∧ (fa 10 0 (9 * ((x265_3 : Int32).toInt).toNat + 7)).toInt ≤ (iv 2 4).toInt ∧ ((fa 10 0 (9 * ((x265_3 : Int32).toInt).toNat + 8)).toInt = -1 ∨ (iv 2 4).toInt < (fa 10 0 (9 * ((x265_3 : Int32).toInt).toNat + 8)).toInt)) := by omega
                  rw [lsP_n hs9 hc9] at hk
                  unfold atP; rw [lsP_n hs9 hc9]; exact hq266_1 k hk)) (show (v271 : Int32).toInt ≤ ((iv 10 1) : Int32).toInt from by omega) (by omega) _ _ ls hP hD hS (lv_sub hl [0, 1, 2, 3] rfl)
          · have fc270 := z_ne (rfl : (r269).toInt = _) (by decide : (0 : Int32).toInt = 0) c270
            refine lv_aload_n hx hb dX2_listLook_40 rfl (lv_at hl 2 rfl) ?_
            refine gX_2_0 hx hb ht hown hK hP m_304 dX2_listLook_41 ?_
            refine lv_iload_n hx hb dX2_listLook_44 rfl (lv_at hl 0 rfl) ?_
            refine lv_aload_n hx hb dX2_listLook_45 rfl (lv_at hl 2 rfl) ?_
            refine gX_2_4 hx hb ht hown hK hP m_308 (v := (iv 2 4)) rfl dX2_listLook_46 ?_
            refine vp_callSi (W.runV (As := [.int x265_3, .int (iv 2 4)]) (rest := []) ⟨hx, hb, hml, hown, ht⟩ (c_X10_counts_x l dC dI h g ca iv lv (u2 fa 2 2 w265_a_2_2) la (IX_a (c := 2) (k := 2) hI hw265_a_2_2) x265_3 (iv 2 4) ⟨by omega, by omega⟩) (kV 2 ht m_888 m_574 m_575 m_78 m_576 rfl rfl hd_X10_counts_v ⟨Nat.le_of_ble_eq_true rfl, Nat.le_of_ble_eq_true rfl⟩) (vR hP hK (rX_10 hK hP)) rfl rfl hl.1 rfl (lv_room (Nat.le_of_ble_eq_true rfl)) dX2_listLook_49 ⟨Nat.le_of_ble_eq_true rfl, Nat.le_of_ble_eq_true rfl⟩) (fun r272 hr272 => ?_)
            obtain ⟨hr272, xr272_0⟩ := hr272
            have xr272_0 : (((r272 : Int32).toInt = 1 ∧ ((fa 10 0) (9 * ((x265_3 : Int32).toInt).toNat + 7)).toInt ≤ ((iv 2 4) : Int32).toInt ∧ (((fa 10 0) (9 * ((x265_3 : Int32).toInt).toNat + 8)).toInt = -1 ∨ ((iv 2 4) : Int32).toInt < ((fa 10 0) (9 * ((x265_3 : Int32).toInt).toNat + 8)).toInt)) ∨ ((r272 : Int32).toInt = 0 ∧ ¬ (((fa 10 0) (9 * ((x265_3 : Int32).toInt).toNat + 7)).toInt ≤ ((iv 2 4) : Int32).toInt ∧ (((fa 10 0) (9 * ((x265_3 : Int32).toInt).toNat + 8)).toInt = -1 ∨ ((iv 2 4) : Int32).toInt < ((fa 10 0) (9 * ((x265_3 : Int32).toInt).toNat + 8)).toInt)))) := xr272_0
            refine lv_if_eq (tgt := 65) hx hb dX2_listLook_52 (by decide) (fun c273 => ?_) (fun c273 => ?_)
            · have fc273 := z_eq (rfl : (r272).toInt = _) (by decide : (0 : Int32).toInt = 0) c273
              obtain ⟨v274, ev274⟩ : ∃ y : Int32, y = x265_3 + 1 := ⟨_, rfl⟩
              have tv274 := z_add ev274 rfl (by decide : (1 : Int32).toInt = 1) (by omega) (by omega)
              refine lv_iinc (v := v274) (lv' := [(3, .int v274), (2, .int x265_2), (0, .ref (g 11 6)), (1, .int a)]) hx hb dX2_listLook_65 hl (k := 0) rfl (by rw [ev274]; rfl) (by decide) rfl (fun ls hl => ?_)
              refine lv_goto (tgt := 4) hx hb dX2_listLook_68 (by decide) ?_
              exact ih266 v274 x265_2 w265_a_2_2 ⟨by omega, by omega⟩ ⟨by omega, by omega⟩ hw265_a_2_2 (show (x265_2 : Int32).toInt = ((lsP (cxP (fa 10 0) ((iv 2 3) : Int32).toInt ((iv 2 4) : Int32).toInt (a).toInt) ((v274 : Int32).toInt).toNat).length : Int) from (by
                    have hs9 : ((v274 : Int32).toInt).toNat = ((x265_3 : Int32).toInt).toNat + 1 := by omega
                    have hq9 := hq266_0
                    have y9_0 := xr269_0
                    have y9_1 := xr272_0
                    have hc9 : ¬ ((fa 10 0 (9 * ((x265_3 : Int32).toInt).toNat + 0)).toInt = (iv 2 3).toInt ∧ (fa 10 0 (9 * ((x265_3 : Int32).toInt).toNat + 1)).toInt = a.toInt ∧ (fa 10 0 (9 * ((x265_3 : Int32).toInt).toNat + 7)).toInt ≤ (iv 2 4).toInt ∧ ((fa 10 0 (9 * ((x265_3 : Int32).toInt).toNat + 8)).toInt = -1 ∨ (iv 2 4).toInt < (fa 10 0 (9 * ((x265_3 : Int32).toInt).toNat + 8)).toInt)) := by omega
                    rw [lsP_n hs9 hc9]; exact hq9)) (show ∀ k : Nat, k < (lsP (cxP (fa 10 0) ((iv 2 3) : Int32).toInt ((iv 2 4) : Int32).toInt (a).toInt) ((v274 : Int32).toInt).toNat).length → (w265_a_2_2 k).toInt = ((atP (cxP (fa 10 0) ((iv 2 3) : Int32).toInt ((iv 2 4) : Int32).toInt (a).toInt) ((v274 : Int32).toInt).toNat k : Nat) : Int) from (fun k hk => by
                    have hs9 : ((v274 : Int32).toInt).toNat = ((x265_3 : Int32).toInt).toNat + 1 := by omega
                    have hq9 := hq266_0
                    have y9_0 := xr269_0
                    have y9_1 := xr272_0
                    have hc9 : ¬ ((fa 10 0 (9 * ((x265_3 : Int32).toInt).toNat + 0)).toInt = (iv 2 3).toInt ∧ (fa 10 0 (9 * ((x265_3 : Int32).toInt).toNat + 1)).toInt = a.toInt ∧ (fa 10 0 (9 * ((x265_3 : Int32).toInt).toNat + 7)).toInt ≤ (iv 2 4).toInt ∧ ((fa 10 0 (9 * ((x265_3 : Int32).toInt).toNat + 8)).toInt = -1 ∨ (iv 2 4).toInt < (fa 10 0 (9 * ((x265_3 : Int32).toInt).toNat + 8)).toInt)) := by omega
                    rw [lsP_n hs9 hc9] at hk
                    unfold atP; rw [lsP_n hs9 hc9]; exact hq266_1 k hk)) (show (v274 : Int32).toInt ≤ ((iv 10 1) : Int32).toInt from by omega) (by omega) _ _ ls hP hD hS (lv_sub hl [0, 1, 2, 3] rfl)
            · have fc273 := z_ne (rfl : (r272).toInt = _) (by decide : (0 : Int32).toInt = 0) c273
              refine lv_aload_n hx hb dX2_listLook_55 rfl (lv_at hl 2 rfl) ?_
              refine gX_2_2 hx hb ht hown hK hP m_306 dX2_listLook_56 ?_
              refine lv_iload_n hx hb dX2_listLook_59 rfl (lv_at hl 1 rfl) ?_
              refine lv_iload_n hx hb dX2_listLook_60 rfl (lv_at hl 0 rfl) ?_
              refine tX_2_2 hx hb hK hP hD hS (f0 := w265_a_2_2) rfl (i := x265_2) (x := x265_3) (vp_in_iff.mpr ⟨by omega, by omega⟩) dX2_listLook_61 (fun f275 ef275 H locs hP hD hS => ?_)
              have hf275 : ∀ j, inb (bA 2 2 j) (f275 j) := by rw [ef275]; exact upd_b (b := bA 2 2) hw265_a_2_2 (show inb (0, 59) x265_3 from ⟨by omega, by omega⟩)
              have hP : va_P (dC, dI) classes (WX h g ca iv lv (u2 fa 2 2 f275) la) H := hP
              have hD : va_D A (WX h g ca iv lv (u2 fa 2 2 f275) la) := hD
              obtain ⟨v276, ev276⟩ : ∃ y : Int32, y = x265_2 + 1 := ⟨_, rfl⟩
              have tv276 := z_add ev276 rfl (by decide : (1 : Int32).toInt = 1) (by omega) (by omega)
              refine lv_iinc (v := v276) (lv' := [(2, .int v276), (3, .int x265_3), (0, .ref (g 11 6)), (1, .int a)]) hx hb dX2_listLook_62 hl (k := 1) rfl (by rw [ev276]; rfl) (by decide) rfl (fun ls hl => ?_)
              obtain ⟨v277, ev277⟩ : ∃ y : Int32, y = x265_3 + 1 := ⟨_, rfl⟩
              have tv277 := z_add ev277 rfl (by decide : (1 : Int32).toInt = 1) (by omega) (by omega)
              refine lv_iinc (v := v277) (lv' := [(3, .int v277), (2, .int v276), (0, .ref (g 11 6)), (1, .int a)]) hx hb dX2_listLook_65 hl (k := 1) rfl (by rw [ev277]; rfl) (by decide) rfl (fun ls hl => ?_)
              refine lv_goto (tgt := 4) hx hb dX2_listLook_68 (by decide) ?_
              exact ih266 v277 v276 f275 ⟨by omega, by omega⟩ ⟨by omega, by omega⟩ hf275 (show (v276 : Int32).toInt = ((lsP (cxP (fa 10 0) ((iv 2 3) : Int32).toInt ((iv 2 4) : Int32).toInt (a).toInt) ((v277 : Int32).toInt).toNat).length : Int) from (by
                    have hs9 : ((v277 : Int32).toInt).toNat = ((x265_3 : Int32).toInt).toNat + 1 := by omega
                    have hq9 := hq266_0
                    have y9_0 := xr269_0
                    have y9_1 := xr272_0
                    have hc9 : (fa 10 0 (9 * ((x265_3 : Int32).toInt).toNat + 0)).toInt = (iv 2 3).toInt ∧ (fa 10 0 (9 * ((x265_3 : Int32).toInt).toNat + 1)).toInt = a.toInt ∧ (fa 10 0 (9 * ((x265_3 : Int32).toInt).toNat + 7)).toInt ≤ (iv 2 4).toInt ∧ ((fa 10 0 (9 * ((x265_3 : Int32).toInt).toNat + 8)).toInt = -1 ∨ (iv 2 4).toInt < (fa 10 0 (9 * ((x265_3 : Int32).toInt).toNat + 8)).toInt) := ⟨by omega, by omega, by omega, by omega⟩
                    rw [lsP_y hs9 hc9, List.length_append]
                    show (v276 : Int32).toInt = (((lsP (cxP (fa 10 0) (iv 2 3).toInt (iv 2 4).toInt a.toInt) ((x265_3 : Int32).toInt).toNat).length + 1 : Nat) : Int)
                    omega)) (show ∀ k : Nat, k < (lsP (cxP (fa 10 0) ((iv 2 3) : Int32).toInt ((iv 2 4) : Int32).toInt (a).toInt) ((v277 : Int32).toInt).toNat).length → (f275 k).toInt = ((atP (cxP (fa 10 0) ((iv 2 3) : Int32).toInt ((iv 2 4) : Int32).toInt (a).toInt) ((v277 : Int32).toInt).toNat k : Nat) : Int) from (fun k hk => by
                    have hs9 : ((v277 : Int32).toInt).toNat = ((x265_3 : Int32).toInt).toNat + 1 := by omega
                    have hq9 := hq266_0
                    have y9_0 := xr269_0
                    have y9_1 := xr272_0
                    have hc9 : (fa 10 0 (9 * ((x265_3 : Int32).toInt).toNat + 0)).toInt = (iv 2 3).toInt ∧ (fa 10 0 (9 * ((x265_3 : Int32).toInt).toNat + 1)).toInt = a.toInt ∧ (fa 10 0 (9 * ((x265_3 : Int32).toInt).toNat + 7)).toInt ≤ (iv 2 4).toInt ∧ ((fa 10 0 (9 * ((x265_3 : Int32).toInt).toNat + 8)).toInt = -1 ∨ (iv 2 4).toInt < (fa 10 0 (9 * ((x265_3 : Int32).toInt).toNat + 8)).toInt) := ⟨by omega, by omega, by omega, by omega⟩
                    have hx9 : (x265_2 : Int32).toNatClampNeg = (lsP (cxP (fa 10 0) (iv 2 3).toInt (iv 2 4).toInt a.toInt) ((x265_3 : Int32).toInt).toNat).length := by show (x265_2 : Int32).toInt.toNat = _; omega
                    rw [lsP_y hs9 hc9, List.length_append] at hk
                    have hk2 : k < (lsP (cxP (fa 10 0) (iv 2 3).toInt (iv 2 4).toInt a.toInt) ((x265_3 : Int32).toInt).toNat).length + 1 := hk
                    unfold atP; rw [lsP_y hs9 hc9]
                    by_cases z : k = (lsP (cxP (fa 10 0) (iv 2 3).toInt (iv 2 4).toInt a.toInt) ((x265_3 : Int32).toInt).toNat).length
                    · rw [getD_e z, ef275, show k = (x265_2 : Int32).toNatClampNeg from by rw [hx9]; exact z, upd_eq]; show (x265_3 : Int32).toInt = ((((x265_3 : Int32).toInt).toNat : Nat) : Int); omega
                    · rw [getD_l (by omega), ef275, upd_ne (by rw [hx9]; exact z)]; exact hq266_1 k (by omega))) (show (v277 : Int32).toInt ≤ ((iv 10 1) : Int32).toInt from by omega) (by omega) _ _ ls hP hD hS (lv_sub hl [0, 1, 2, 3] rfl)
  have : (0 : Int32).toInt = 0 := (by decide)
  have i_10_1 : 0 ≤ (iv 10 1).toInt ∧ (iv 10 1).toInt ≤ 60 := hI.1 10 1
  exact lp266 61 0 0 (fa 2 2) ⟨by decide, by decide⟩ ⟨by decide, by decide⟩ (hI.2 2 2) (show (0 : Int32).toInt = ((lsP (cxP (fa 10 0) ((iv 2 3) : Int32).toInt ((iv 2 4) : Int32).toInt (a).toInt) ((0 : Int32).toInt).toNat).length : Int) from (by have hz : ((0 : Int32).toInt).toNat = 0 := (by decide); rw [hz]; exact (by decide : (0 : Int32).toInt = 0))) (show ∀ k : Nat, k < (lsP (cxP (fa 10 0) ((iv 2 3) : Int32).toInt ((iv 2 4) : Int32).toInt (a).toInt) ((0 : Int32).toInt).toNat).length → ((fa 2 2) k).toInt = ((atP (cxP (fa 10 0) ((iv 2 3) : Int32).toInt ((iv 2 4) : Int32).toInt (a).toInt) ((0 : Int32).toInt).toNat k : Nat) : Int) from (fun k hk => by have hz : ((0 : Int32).toInt).toNat = 0 := (by decide); rw [hz] at hk; exact absurd hk (Nat.not_lt_zero k))) (show (0 : Int32).toInt ≤ ((iv 10 1) : Int32).toInt from by omega) (by first | decide | omega) _ _ ls hP hD hS (lv_sub hl [0, 1, 2, 3] rfl)
set_option maxHeartbeats 4000000 in
set_option maxRecDepth 100000 in
/-- X2_lookAt -/
theorem c_X2_lookAt_w (l : Launch) (dC : Nat → ClassId) (dI : Nat → Nat → Nat) (sz : Nat) (h : Nat) (g : Nat → Nat → Nat) (ca : Nat → Nat → ClassId) (iv : Nat → Nat → Int32) (lv : Nat → Nat → Int64) (fa : Nat → Nat → Nat → Int32) (la : Nat → Nat → Nat → Int64) (hI : IX iv fa) (a : Int32) (b : Int32) (d : Int32) : Met l yX2_lookAt (wc yX2_lookAt cX2_lookAt 4 none) ({ frames := 0, cells := 0, slots := 0, locals := 0 } : Room) (pW (dC, dI) classes (WX h g ca iv lv fa la) (TX ca) sz [.ref (g 11 6), .int a, .int b, .int d]) (va_Qv (fun (u : SS) => ∃ (ni_2_3 : Int32) (ni_2_4 : Int32) (ni_2_5 : Int32), ((ni_2_3).toInt = a.toInt) ∧ ((ni_2_4).toInt = b.toInt) ∧ ((ni_2_5).toInt = d.toInt) ∧ u = ((u2 (u2 (u2 iv 2 3 ni_2_3) 2 4 ni_2_4) 2 5 ni_2_5), lv, fa, la)) (bX (dC, dI) h g ca (va_A (WX h g ca iv lv fa la) sz)) (va_A (WX h g ca iv lv fa la) sz)) 0 0 (va_A (WX h g ca iv lv fa la) sz) := by
  refine Met.ofW (cc := cX2_lookAt) (maxL := 4) (ret := none) (by decide) rfl ?_
  intro p e s m args below meth c s₁ B hml hv
  obtain ⟨rfl, hsz, hP, hK, hD0⟩ := hv
  have hx := B.exec
  have hb := B.bytes
  have hr := B.returns
  have ht := tb_tl (atoms_spec (ws := wc yX2_lookAt cX2_lookAt 4 none) B.pre)
  have hown : s.vm.findClass RX2 = some m.cls := findClass_of_methodNamed B.named
  have hlocks := B.notSynchronized
  subst hsz
  have hD := hD0.self (sz := s.heap.size)
  generalize hAe : va_A (WX h g ca iv lv fa la) s.heap.size = A at hD ⊢
  have hA : ∀ q : Nat, s.heap.size ≤ q → A q := fun q h => by rw [← hAe]; exact Or.inr h
  have hS : va_S A s.heap s.heap [] := va_S.rf
  have hl := lv_entry [.ref (g 11 6), .int a, .int b, .int d] (n := 4) (Nat.le_of_ble_eq_true rfl)
  rw [lg_entry_eq]
  generalize (lg_sl [.ref (g 11 6), .int a, .int b, .int d] ++ List.replicate (4 - (lg_sl [.ref (g 11 6), .int a, .int b, .int d]).length) Slot.unset).toArray = ls at hl ⊢
  have hl : lv_has ls 4 [(0, .ref (g 11 6)), (1, .int a), (2, .int b), (3, .int d)] := hl
  refine lv_aload_n hx hb dX2_lookAt_0 rfl (lv_at hl 0 rfl) ?_
  refine lv_iload_n hx hb dX2_lookAt_1 rfl (lv_at hl 1 rfl) ?_
  refine pX_2_3 (v := a) hx hb ht hown hK hP hD hS m_307 dX2_lookAt_2 (fun H locs hP hD hS => ?_)
  refine lv_aload_n hx hb dX2_lookAt_5 rfl (lv_at hl 0 rfl) ?_
  refine lv_iload_n hx hb dX2_lookAt_6 rfl (lv_at hl 2 rfl) ?_
  refine pX_2_4 (v := b) hx hb ht hown hK hP hD hS m_308 dX2_lookAt_7 (fun H locs hP hD hS => ?_)
  refine lv_aload_n hx hb dX2_lookAt_10 rfl (lv_at hl 0 rfl) ?_
  refine lv_iload_n hx hb dX2_lookAt_11 rfl (lv_at hl 3 rfl) ?_
  refine pX_2_5 (v := d) hx hb ht hown hK hP hD hS m_309 dX2_lookAt_12 (fun H locs hP hD hS => ?_)
  have hP9 : va_P (dC, dI) classes (WX h g ca (u2 (u2 (u2 iv 2 3 a) 2 4 b) 2 5 d) lv fa la) H := hP
  have hD9 : va_D A (WX h g ca (u2 (u2 (u2 iv 2 3 a) 2 4 b) 2 5 d) lv fa la) := hD
  exact W.vret hx hb hr (fun t ht9 hW => ⟨⟨((u2 (u2 (u2 iv 2 3 a) 2 4 b) 2 5 d), lv, fa, la), rfl, ⟨a, b, d, (show (a : Int32).toInt = (a).toInt from by omega), (show (b : Int32).toInt = (b).toInt from by omega), (show (d : Int32).toInt = (d).toInt from by omega), rfl⟩, by rw [ht9]; exact hP9, hD9⟩, hS.F ht9⟩) hS.2.2 dX2_lookAt_15
