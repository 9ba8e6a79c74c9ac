/-! ===== od0 ===== -/

/-- sums of natural numbers, numbers of those that hold -/
def ns (f : Nat → Nat) : Nat → Nat
  | 0 => 0
  | n + 1 => ns f n + f n
noncomputable def b01 (p : Prop) : Nat := @ite Nat p (Classical.propDecidable _) 1 0
theorem b01_y {p : Prop} (h : p) : b01 p = 1 := if_pos h
theorem b01_n {p : Prop} (h : ¬ p) : b01 p = 0 := if_neg h
theorem b01_cg {p q : Prop} (h : p ↔ q) : b01 p = b01 q := by rw [propext h]
theorem ns_s {f : Nat → Nat} {n n' : Nat} (h : n' = n + 1) : ns f n' = ns f n + f n := by rw [h]; rfl
theorem ns_cg {f g : Nat → Nat} : ∀ n : Nat, (∀ j : Nat, j < n → f j = g j) → ns f n = ns g n
  | 0, _ => rfl
  | n + 1, h => by
    show ns f n + f n = ns g n + g n
    rw [ns_cg n (fun j hj => h j (Nat.lt_succ_of_lt hj)), h n (Nat.lt_succ_self n)]
theorem ns_0 : ∀ n : Nat, ns (fun _ => 0) n = 0
  | 0 => rfl
  | n + 1 => by show ns (fun _ => 0) n + 0 = 0; rw [ns_0 n]
theorem ns_add {f g : Nat → Nat} : ∀ n : Nat, ns (fun j => f j + g j) n = ns f n + ns g n
  | 0 => rfl
  | n + 1 => by
    show ns (fun j => f j + g j) n + (f n + g n) = (ns f n + f n) + (ns g n + g n)
    rw [ns_add n]; omega
theorem ns_swap {f : Nat → Nat → Nat} {m : Nat} : ∀ n : Nat, ns (fun i => ns (fun j => f i j) m) n = ns (fun j => ns (fun i => f i j) n) m
  | 0 => (ns_0 m).symm
  | n + 1 => by
    show ns (fun i => ns (fun j => f i j) m) n + ns (fun j => f n j) m = ns (fun j => ns (fun i => f i j) n + f n j) m
    rw [ns_swap n, ns_add]
theorem ns_cut {f : Nat → Nat} {t : Nat} : ∀ n : Nat, t ≤ n → (∀ j : Nat, t ≤ j → j < n → f j = 0) → ns f n = ns f t
  | 0, h, _ => by rw [Nat.le_zero.mp h]
  | n + 1, h, z => by
    by_cases e : t = n + 1
    · rw [e]
    · show ns f n + f n = ns f t
      rw [ns_cut n (by omega) (fun j h1 h2 => z j h1 (by omega)), z n (by omega) (by omega)]; rfl
/-- those below n that hold, in their order -/
noncomputable def lsP (c : Nat → Prop) : Nat → List Nat
  | 0 => []
  | n + 1 => @ite (List Nat) (c n) (Classical.propDecidable _) (lsP c n ++ [n]) (lsP c n)
theorem lsP_y {c : Nat → Prop} {n n' : Nat} (h : n' = n + 1) (hc : c n) : lsP c n' = lsP c n ++ [n] := by rw [h]; exact if_pos hc
theorem lsP_n {c : Nat → Prop} {n n' : Nat} (h : n' = n + 1) (hc : ¬ c n) : lsP c n' = lsP c n := by rw [h]; exact if_neg hc
theorem lsP_cg {c d : Nat → Prop} : ∀ n : Nat, (∀ j : Nat, j < n → (c j ↔ d j)) → lsP c n = lsP d n
  | 0, _ => rfl
  | n + 1, h => by
    have q := lsP_cg n (fun j hj => h j (Nat.lt_succ_of_lt hj))
    by_cases e : c n
    · rw [lsP_y rfl e, lsP_y rfl ((h n (Nat.lt_succ_self n)).mp e), q]
    · rw [lsP_n rfl e, lsP_n rfl (fun z => e ((h n (Nat.lt_succ_self n)).mpr z)), q]
/-- the k-th of them -/
noncomputable def atP (c : Nat → Prop) (n k : Nat) : Nat := (lsP c n).getD k 0
theorem getD_l {l : List Nat} {x k : Nat} (h : k < l.length) : (l ++ [x]).getD k 0 = l.getD k 0 := by
  rw [List.getD_eq_getElem?_getD, List.getD_eq_getElem?_getD, List.getElem?_append_left h]
theorem getD_e {l : List Nat} {x k : Nat} (h : k = l.length) : (l ++ [x]).getD k 0 = x := by
  rw [List.getD_eq_getElem?_getD, List.getElem?_append_right (by omega), h, Nat.sub_self]; rfl
theorem lsP_len {c : Nat → Prop} : ∀ n : Nat, (lsP c n).length ≤ n
  | 0 => Nat.le_refl _
  | n + 1 => by
    have q := lsP_len (c := c) n
    by_cases e : c n
    · rw [lsP_y rfl e, List.length_append]; show (lsP c n).length + 1 ≤ n + 1; omega
    · rw [lsP_n rfl e]; omega
theorem lsP_mono {c : Nat → Prop} {m : Nat} : ∀ n : Nat, m ≤ n → (lsP c m).length ≤ (lsP c n).length
  | 0, h => by rw [Nat.le_zero.mp h]; exact Nat.le_refl _
  | n + 1, h => by
    by_cases e : m = n + 1
    · rw [e]; exact Nat.le_refl _
    · have q := lsP_mono (c := c) n (by omega : m ≤ n)
      by_cases z : c n
      · rw [lsP_y rfl z, List.length_append]; exact Nat.le_trans q (Nat.le_add_right _ _)
      · rw [lsP_n rfl z]; exact q
theorem lsP_full {c : Nat → Prop} {m : Nat} : ∀ n : Nat, m ≤ n → (lsP c n).length ≤ (lsP c m).length → lsP c n = lsP c m
  | 0, h, _ => by rw [Nat.le_zero.mp h]
  | n + 1, h, l => by
    by_cases e : m = n + 1
    · rw [e]
    · by_cases z : c n
      · have q := lsP_mono (c := c) n (by omega : m ≤ n)
        rw [lsP_y rfl z, List.length_append] at l
        exact absurd l (by show ¬ (lsP c n).length + 1 ≤ _; omega)
      · rw [lsP_n rfl z] at l ⊢
        exact lsP_full n (by omega) l
theorem lsP_sm {c : Nat → Prop} : ∀ n : Nat, n ≤ 60 → (smC c n).toInt = ((lsP c n).length : Int)
  | 0, _ => by show (0 : Int32).toInt = 0; decide
  | n + 1, h => by
    have q := lsP_sm (c := c) n (by omega)
    have r := lsP_len (c := c) n
    by_cases e : c n
    · rw [smC_y rfl e, lsP_y rfl e, List.length_append, z_add rfl q (by decide : (1 : Int32).toInt = 1) (by omega) (by omega)]; rfl
    · rw [smC_n rfl e, lsP_n rfl e]; exact q
/-- a sum over the listing is a sum over all that hold -/
theorem ns_ls {c : Nat → Prop} {g : Nat → Nat} : ∀ n : Nat, ns (fun k => g (atP c n k)) (lsP c n).length = ns (fun s => b01 (c s) * g s) n
  | 0 => rfl
  | n + 1 => by
    have q := ns_ls (c := c) (g := g) n
    show _ = ns (fun s => b01 (c s) * g s) n + b01 (c n) * g n
    by_cases e : c n
    · have a1 : (lsP c (n + 1)).length = (lsP c n).length + 1 := by rw [lsP_y rfl e, List.length_append]; rfl
      rw [ns_s a1, b01_y e, Nat.one_mul, ← q]
      have a2 : atP c (n + 1) (lsP c n).length = n := by unfold atP; rw [lsP_y rfl e]; exact getD_e rfl
      rw [a2]
      refine congrArg (· + g n) (ns_cg _ (fun j hj => ?_))
      have a3 : atP c (n + 1) j = atP c n j := by unfold atP; rw [lsP_y rfl e]; exact getD_l hj
      rw [a3]
    · rw [b01_n e, Nat.zero_mul, ← q]
      have a1 : lsP c (n + 1) = lsP c n := lsP_n rfl e
      unfold atP; rw [a1]; rfl
theorem atP_lt {c : Nat → Prop} : ∀ n k : Nat, k < (lsP c n).length → atP c n k < n ∧ c (atP c n k)
  | 0, k, h => absurd h (Nat.not_lt_zero k)
  | n + 1, k, h => by
    by_cases e : c n
    · rw [lsP_y rfl e, List.length_append] at h
      have h2 : k < (lsP c n).length + 1 := h
      by_cases z : k = (lsP c n).length
      · have a2 : atP c (n + 1) k = n := by unfold atP; rw [lsP_y rfl e]; exact getD_e z
        rw [a2]; exact ⟨Nat.lt_succ_self n, e⟩
      · have a3 : atP c (n + 1) k = atP c n k := by unfold atP; rw [lsP_y rfl e]; exact getD_l (by omega)
        have q := atP_lt (c := c) n k (by omega)
        rw [a3]; exact ⟨by omega, q.2⟩
    · have a3 : atP c (n + 1) k = atP c n k := by unfold atP; rw [lsP_n rfl e]
      rw [lsP_n rfl e] at h
      have q := atP_lt (c := c) n k h
      rw [a3]; exact ⟨by omega, q.2⟩
theorem atP_up {c : Nat → Prop} : ∀ n i j : Nat, i < j → j < (lsP c n).length → atP c n i < atP c n j
  | 0, i, j, _, h => absurd h (Nat.not_lt_zero j)
  | n + 1, i, j, hi, h => by
    by_cases e : c n
    · rw [lsP_y rfl e, List.length_append] at h
      have h2 : j < (lsP c n).length + 1 := h
      have a3 : ∀ k : Nat, k < (lsP c n).length → atP c (n + 1) k = atP c n k := fun k hk => by unfold atP; rw [lsP_y rfl e]; exact getD_l hk
      rw [a3 i (by omega)]
      by_cases z : j = (lsP c n).length
      · have a2 : atP c (n + 1) j = n := by unfold atP; rw [lsP_y rfl e]; exact getD_e z
        rw [a2]; exact (atP_lt n i (by omega)).1
      · rw [a3 j (by omega)]; exact atP_up n i j hi (by omega)
    · have a3 : ∀ k : Nat, atP c (n + 1) k = atP c n k := fun k => by unfold atP; rw [lsP_n rfl e]
      rw [lsP_n rfl e] at h
      rw [a3, a3]; exact atP_up n i j hi h
/-- pairs: by places of the listing, and by all below n -/
noncomputable def prX (D : Nat → Nat → Prop) (f : Nat → Nat) (m i : Nat) : Nat := ns (fun j => b01 (i < j ∧ D (f i) (f j))) m
noncomputable def prY (c : Nat → Prop) (D : Nat → Nat → Prop) (t s : Nat) : Nat := b01 (c t ∧ c s ∧ D t s)
theorem pr_xy {c : Nat → Prop} {D E : Nat → Nat → Prop} {n : Nat} (h : ∀ s t : Nat, D s t ↔ E t s) : ns (prX D (atP c n) (lsP c n).length) (lsP c n).length = ns (fun t => ns (prY c E t) t) n := by
  have h1 : ns (prX D (atP c n) (lsP c n).length) (lsP c n).length = ns (fun i => ns (fun j => b01 (atP c n i < atP c n j ∧ D (atP c n i) (atP c n j))) (lsP c n).length) (lsP c n).length := by
    refine ns_cg _ (fun i hi => ns_cg _ (fun j hj => b01_cg ⟨fun z => ⟨atP_up n i j z.1 hj, z.2⟩, fun z => ⟨?_, z.2⟩⟩))
    rcases Nat.lt_trichotomy i j with q | q | q
    · exact q
    · exact absurd z.1 (by rw [q]; exact Nat.lt_irrefl _)
    · exact absurd z.1 (Nat.not_lt.mpr (Nat.le_of_lt (atP_up n j i q hi)))
  rw [h1, ns_ls (g := fun s => ns (fun j => b01 (s < atP c n j ∧ D s (atP c n j))) (lsP c n).length)]
  have h2 : ns (fun s => b01 (c s) * ns (fun j => b01 (s < atP c n j ∧ D s (atP c n j))) (lsP c n).length) n = ns (fun s => ns (fun t => b01 (c s) * (b01 (c t) * b01 (s < t ∧ D s t))) n) n := by
    refine ns_cg _ (fun s _ => ?_)
    rw [ns_ls (g := fun t => b01 (s < t ∧ D s t))]
    by_cases e : c s
    · rw [b01_y e, Nat.one_mul]; exact ns_cg _ (fun t _ => (Nat.one_mul _).symm)
    · rw [b01_n e, Nat.zero_mul]; exact (ns_0 n).symm.trans (ns_cg _ (fun t _ => (Nat.zero_mul _).symm))
  rw [h2, ns_swap]
  refine ns_cg _ (fun t ht => ?_)
  rw [ns_cut (t := t) n (by omega) (fun s h3 _ => by rw [b01_n (p := s < t ∧ D s t) (fun z => by omega), Nat.mul_zero, Nat.mul_zero])]
  refine ns_cg _ (fun s hs => ?_)
  unfold prY
  by_cases e : c s
  · by_cases e2 : c t
    · rw [b01_y e, b01_y e2, Nat.one_mul, Nat.one_mul]; exact b01_cg ⟨fun z => ⟨e2, e, (h s t).mp z.2⟩, fun z => ⟨hs, (h s t).mpr z.2.2⟩⟩
    · rw [b01_n e2, Nat.zero_mul, Nat.mul_zero, b01_n (fun z => e2 z.1)]
  · rw [b01_n e, Nat.zero_mul, b01_n (fun z => e z.2.1)]
/-- the difference told from either side -/
theorem absL_neg (x : Int64) : absL (-x) = absL x := by
  by_cases e : x.toInt = -9223372036854775808
  · have q : x = Int64.minValue := Int64.toInt_inj.mp (e.trans (by decide))
    rw [q]; decide
  · have b1 := Int64.le_toInt x
    have b2 := Int64.toInt_lt x
    have n1 : (-x).toInt = -x.toInt := by rw [Int64.toInt_neg, Int.bmod_def]; omega
    have z0 : (0 : Int64).toInt = 0 := rfl
    by_cases p : 0 < x.toInt
    · have p1 : 0 < x := Int64.lt_iff_toInt_lt.mpr (by omega)
      have p2 : ¬ 0 < -x := fun z => by have := Int64.lt_iff_toInt_lt.mp z; omega
      unfold absL; rw [if_pos p1, if_neg p2, Int64.neg_neg]
    · have p1 : ¬ 0 < x := fun z => p (by have := Int64.lt_iff_toInt_lt.mp z; omega)
      by_cases p0 : x.toInt = 0
      · have q : x = 0 := Int64.toInt_inj.mp (p0.trans z0.symm)
        rw [q]; decide
      · have p2 : 0 < -x := Int64.lt_iff_toInt_lt.mpr (by omega)
        unfold absL; rw [if_neg p1, if_pos p2]
theorem difL_sym {a b d k : Int64} {p : Int32} : difL a b d k p ↔ difL d k a b p := by
  unfold difL
  have e1 : absL (a * k - d * b) = absL (d * b - a * k) := by
    have : a * k - d * b = -(d * b - a * k) := by rw [Int64.neg_sub]
    rw [this, absL_neg]
  have e2 : p.toInt64 * b * k = p.toInt64 * k * b := by rw [Int64.mul_assoc, Int64.mul_comm b k, ← Int64.mul_assoc]
  rw [e1, e2]
/-- a number of a word's arithmetic -/
def oN (n : Nat) : Int32 := Int32.ofNat n
theorem oN_s {a b : Int32} {n : Nat} (h : a = oN n) (e : b = a + 1) : b = oN (n + 1) := by
  rw [e, h]; unfold oN; rw [Int32.ofNat_add]; rfl
theorem oN_0 {a b : Int32} {n : Nat} (h : a = oN n) (e : b = a + 0) : b = oN n := by rw [e, h]; exact Int32.add_zero _
theorem smC_dn {c : Nat → Prop} {ob ol : Nat → Int32} {b l : Int32} : ∀ n : Nat, n ≤ 60 → (∀ j : Nat, j < n → c j → (ob j).toInt = b.toInt ∧ (ol j).toInt = l.toInt) → 0 ≤ (smC c n).toInt ∧ (smC c n).toInt ≤ ((cn0 ob ol b l n : Nat) : Int) ∧ (smC c n).toInt ≤ (n : Int)
  | 0, _, _ => by
    have e2 : (smC c 0).toInt = 0 := by show (0 : Int32).toInt = 0; decide
    rw [e2]; exact ⟨by omega, by omega, by omega⟩
  | n + 1, hn, h => by
    obtain ⟨q1, q2, q3⟩ := smC_dn n (by omega) (fun j hj => h j (by omega))
    have z := h n (by omega)
    have k : cn0 ob ol b l (n + 1) = cn0 ob ol b l n + (if (ob n).toInt = b.toInt ∧ (ol n).toInt = l.toInt then 1 else 0) := rfl
    by_cases e : c n
    · have a1 : (smC c (n + 1)).toInt = (smC c n).toInt + 1 := by
        rw [smC_y rfl e]; exact z_add rfl rfl (by decide : (1 : Int32).toInt = 1) (by omega) (by omega)
      rw [if_pos (z e)] at k
      rw [a1, k]; exact ⟨by omega, by omega, by omega⟩
    · rw [smC_n rfl e, k]
      refine ⟨q1, ?_, by omega⟩
      split <;> omega

theorem ns_1 {f : Nat → Nat} {n n' : Nat} (h : n' = n + 1) (hf : f n = 1) : ns f n' = ns f n + 1 := by rw [ns_s h, hf]
theorem ns_o {f : Nat → Nat} {n n' : Nat} (h : n' = n + 1) (hf : f n = 0) : ns f n' = ns f n := by rw [ns_s h, hf]; rfl
/-- two skeins by themselves, on both sides -/
def dX (rw_ : Nat → Int32) (p : Int32) : Nat → Nat → Prop := fun s t => difL ((rw_ (9 * s + 4)).toInt64) ((rw_ (9 * s + 3)).toInt64) ((rw_ (9 * t + 4)).toInt64) ((rw_ (9 * t + 3)).toInt64) p
def dY (ra dr : Nat → Int32) (p : Int32) : Nat → Nat → Prop := fun t s => difL ((dr t).toInt64) ((ra t).toInt64) ((dr s).toInt64) ((ra s).toInt64) p
noncomputable def odX (rw_ : Nat → Int32) (b d l : Int) (n : Nat) (p : Int32) : Nat := ns (prX (dX rw_ p) (atP (cxP rw_ b d l) n) (lsP (cxP rw_ b d l) n).length) (lsP (cxP rw_ b d l) n).length
noncomputable def odY (ob ol dy lo ra dr : Nat → Int32) (b d l : Int) (n : Nat) (p : Int32) : Nat := ns (fun t => ns (prY (cyP ob ol dy lo b d l) (dY ra dr p) t) t) n
theorem od_xy {n : Int} {rw_ ob ol sc ra dr ov ha dy lo : Nat → Int32} (h : RoE n rw_ ob ol sc ra dr ov ha dy lo) (hl : ∀ j : Nat, -1 ≤ (lo j).toInt) (b d l : Int) (p : Int32) : odX rw_ b d l n.toNat p = odY ob ol dy lo ra dr b d l n.toNat p := by
  unfold odX odY
  rw [pr_xy (E := fun t s => dX rw_ p s t) (fun _ _ => Iff.rfl)]
  refine ns_cg _ (fun t ht => ns_cg _ (fun s hs => ?_))
  have h1 := h t (by omega)
  have h2 := h s (by omega)
  show b01 (cxP rw_ b d l t ∧ cxP rw_ b d l s ∧ difL ((rw_ (9 * s + 4)).toInt64) ((rw_ (9 * s + 3)).toInt64) ((rw_ (9 * t + 4)).toInt64) ((rw_ (9 * t + 3)).toInt64) p) = b01 (cyP ob ol dy lo b d l t ∧ cyP ob ol dy lo b d l s ∧ difL ((dr t).toInt64) ((ra t).toInt64) ((dr s).toInt64) ((ra s).toInt64) p)
  rw [h1.2.2.2.1, h1.2.2.2.2.1, h2.2.2.2.1, h2.2.2.2.2.1]
  exact b01_cg ⟨fun z => ⟨(RoE_c h hl b d l (by omega)).mp z.1, (RoE_c h hl b d l (by omega)).mp z.2.1, difL_sym.mp z.2.2⟩, fun z => ⟨(RoE_c h hl b d l (by omega)).mpr z.1, (RoE_c h hl b d l (by omega)).mpr z.2.1, difL_sym.mp z.2.2⟩⟩
/-! ===== od1 ===== -/
set_option maxHeartbeats 4000000 in
set_option maxRecDepth 100000 in
/-- X2_listLook -/
theorem c_X2_listLook_w (l : Launch) (dC : Nat → ClassId) (dI : Nat → Nat → Nat) (sz : Nat) (h : Nat) (g : Nat → Nat → Nat) (ca : Nat → Nat → ClassId) (iv : Nat → Nat → Int32) (lv : Nat → Nat → Int64) (fa : Nat → Nat → Nat → Int32) (la : Nat → Nat → Nat → Int64) (hI : IX iv fa) (a : Int32) (hJL : ∀ b l : Int32, cn0 (fun s => fa 10 0 (9 * s + 0)) (fun s => fa 10 0 (9 * s + 1)) b l (iv 10 1).toInt.toNat ≤ 12) : Met l yX2_listLook (wc yX2_listLook cX2_listLook 4 (some .int)) ({ frames := 2, cells := 0, slots := 0, locals := 45 } : Room) (pW (dC, dI) classes (WX h g ca iv lv fa la) (TX ca) sz [.ref (g 11 6), .int a]) (va_Qi (fun r (u : SS) => ∃ (na_2_2 : Nat → Int32), (∀ j, inb (bA 2 2 j) (na_2_2 j)) ∧ (r.toInt = ((lsP (cxP (fa 10 0) (iv 2 3).toInt (iv 2 4).toInt a.toInt) ((iv 10 1).toInt).toNat).length : Int)) ∧ (∀ k : Nat, k < (lsP (cxP (fa 10 0) (iv 2 3).toInt (iv 2 4).toInt a.toInt) ((iv 10 1).toInt).toNat).length → (na_2_2 k).toInt = ((atP (cxP (fa 10 0) (iv 2 3).toInt (iv 2 4).toInt a.toInt) ((iv 10 1).toInt).toNat k : Nat) : Int)) ∧ (0 ≤ r.toInt ∧ r.toInt ≤ 12) ∧ u = (iv, lv, (u2 fa 2 2 na_2_2), la)) (bX (dC, dI) h g ca (va_A (WX h g ca iv lv fa la) sz)) (va_A (WX h g ca iv lv fa la) sz)) 0 0 (va_A (WX h g ca iv lv fa la) sz) := by
  refine Met.ofW (cc := cX2_listLook) (maxL := 4) (ret := (some .int)) (by decide) rfl ?_
  intro p e s m args below meth c s₁ B hml hv
  obtain ⟨rfl, hsz, hP, hK, hD0⟩ := hv
  have hx := B.exec
  have hb := B.bytes
  have hr := B.returns
  have ht := tb_tl (atoms_spec (ws := wc yX2_listLook cX2_listLook 4 (some .int)) B.pre)
  have hown : s.vm.findClass RX2 = some m.cls := findClass_of_methodNamed B.named
  have hlocks := B.notSynchronized
  subst hsz
  have hD := hD0.self (sz := s.heap.size)
  generalize hAe : va_A (WX h g ca iv lv fa la) s.heap.size = A at hD ⊢
  have hA : ∀ q : Nat, s.heap.size ≤ q → A q := fun q h => by rw [← hAe]; exact Or.inr h
  have hS : va_S A s.heap s.heap [] := va_S.rf
  have hl := lv_entry [.ref (g 11 6), .int a] (n := 4) (Nat.le_of_ble_eq_true rfl)
  rw [lg_entry_eq]
  generalize (lg_sl [.ref (g 11 6), .int a] ++ List.replicate (4 - (lg_sl [.ref (g 11 6), .int a]).length) Slot.unset).toArray = ls at hl ⊢
  have hl : lv_has ls 4 [(0, .ref (g 11 6)), (1, .int a)] := hl
  refine lv_iconst (v := 0) hx hb dX2_listLook_0 (by decide) ?_
  refine lv_istore_n (lv' := [(2, .int 0), (0, .ref (g 11 6)), (1, .int a)]) hx hb dX2_listLook_1 rfl hl (by decide) rfl (fun ls hl => ?_)
  refine lv_iconst (v := 0) hx hb dX2_listLook_2 (by decide) ?_
  refine lv_istore_n (lv' := [(3, .int 0), (2, .int 0), (0, .ref (g 11 6)), (1, .int a)]) hx hb dX2_listLook_3 rfl hl (by decide) rfl (fun ls hl => ?_)
  have i_10_1 : 0 ≤ (iv 10 1).toInt ∧ (iv 10 1).toInt ≤ 60 := hI.1 10 1
  have lp266 : ∀ (nn266 : Nat) (x265_3 : Int32) (x265_2 : Int32) (w265_a_2_2 : Nat → Int32), 0 ≤ x265_3.toInt ∧ x265_3.toInt ≤ 60 → 0 ≤ x265_2.toInt ∧ x265_2.toInt ≤ 12 → (∀ j, inb (bA 2 2 j) (w265_a_2_2 j)) → ((x265_2 : Int32).toInt = ((lsP (cxP (fa 10 0) ((iv 2 3) : Int32).toInt ((iv 2 4) : Int32).toInt (a).toInt) ((x265_3 : Int32).toInt).toNat).length : Int)) → (∀ k : Nat, k < (lsP (cxP (fa 10 0) ((iv 2 3) : Int32).toInt ((iv 2 4) : Int32).toInt (a).toInt) ((x265_3 : Int32).toInt).toNat).length → (w265_a_2_2 k).toInt = ((atP (cxP (fa 10 0) ((iv 2 3) : Int32).toInt ((iv 2 4) : Int32).toInt (a).toInt) ((x265_3 : Int32).toInt).toNat k : Nat) : Int)) → (x265_3 : Int32).toInt ≤ ((iv 10 1) : Int32).toInt → 60 - x265_3.toInt < (nn266 : Int) → ∀ (H : Heap) (locs : List Loc), ∀ (ls : Array Slot), va_P (dC, dI) classes (WX h g ca iv lv (u2 fa 2 2 w265_a_2_2) la) H → va_D A (WX h g ca iv lv (u2 fa 2 2 w265_a_2_2) la) → va_S A s.heap H locs → lv_has ls 4 [(3, .int x265_3), (2, .int x265_2), (0, .ref (g 11 6)), (1, .int a)] → W p l e ({ frames := 2, cells := 0, slots := 0, locals := 45 } : Room) s m ([.ref (g 11 6), .int a] : List Value).toArray below meth c H locs 0 0 (MQ below (va_Qi (fun r (u : SS) => ∃ (na_2_2 : Nat → Int32), (∀ j, inb (bA 2 2 j) (na_2_2 j)) ∧ (r.toInt = ((lsP (cxP (fa 10 0) (iv 2 3).toInt (iv 2 4).toInt a.toInt) ((iv 10 1).toInt).toNat).length : Int)) ∧ (∀ k : Nat, k < (lsP (cxP (fa 10 0) (iv 2 3).toInt (iv 2 4).toInt a.toInt) ((iv 10 1).toInt).toNat).length → (na_2_2 k).toInt = ((atP (cxP (fa 10 0) (iv 2 3).toInt (iv 2 4).toInt a.toInt) ((iv 10 1).toInt).toNat k : Nat) : Int)) ∧ (0 ≤ r.toInt ∧ r.toInt ≤ 12) ∧ u = (iv, lv, (u2 fa 2 2 na_2_2), la)) (bX (dC, dI) h g ca A) A) ([.ref (g 11 6), .int a] : List Value).toArray s 0 0 A) (F0 m 4 ls []) := by
    intro nn266
    induction nn266 with
    | zero => intro x265_3 x265_2 w265_a_2_2 hx265_3 hx265_2 hw265_a_2_2 hq266_0 hq266_1 hq266_2 hm266; exfalso; omega
    | succ nn266 ih266 =>
      intro x265_3 x265_2 w265_a_2_2 hx265_3 hx265_2 hw265_a_2_2 hq266_0 hq266_1 hq266_2 hm266 H locs ls hP hD hS hl
      refine lv_iload_n hx hb dX2_listLook_4 rfl (lv_at hl 0 rfl) ?_
      refine lv_aload_n hx hb dX2_listLook_5 rfl (lv_at hl 2 rfl) ?_
      refine gX_2_0 hx hb ht hown hK hP m_304 dX2_listLook_6 ?_
      refine gX_10_1 hx hb ht hown hK hP m_115 (v := (iv 10 1)) rfl dX2_listLook_9 ?_
      refine lv_icmp_ge (tgt := 71) hx hb dX2_listLook_12 (by decide) (fun c267 => ?_) (fun c267 => ?_)
      · have fc267 := z_le (rfl : ((iv 10 1)).toInt = _) (rfl : (x265_3).toInt = _) c267
        refine lv_iload_n hx hb dX2_listLook_71 rfl (lv_at hl 1 rfl) ?_
        have hP9 : va_P (dC, dI) classes (WX h g ca iv lv (u2 fa 2 2 w265_a_2_2) la) H := hP
        have hD9 : va_D A (WX h g ca iv lv (u2 fa 2 2 w265_a_2_2) la) := hD
        exact W.iret (v := x265_2) hx hb hr (fun t ht9 hW => ⟨⟨x265_2, (iv, lv, (u2 fa 2 2 w265_a_2_2), la), rfl, ⟨w265_a_2_2, hw265_a_2_2, (show (x265_2 : Int32).toInt = ((lsP (cxP (fa 10 0) ((iv 2 3) : Int32).toInt ((iv 2 4) : Int32).toInt (a).toInt) (((iv 10 1) : Int32).toInt).toNat).length : Int) from (by
              have hb9 : 0 ≤ (iv 10 1).toInt ∧ (iv 10 1).toInt ≤ 60 := hI.1 10 1
              have hq9 := hq266_0
              have hE9 : lsP (cxP (fa 10 0) (iv 2 3).toInt (iv 2 4).toInt a.toInt) ((iv 10 1).toInt).toNat = lsP (cxP (fa 10 0) (iv 2 3).toInt (iv 2 4).toInt a.toInt) ((x265_3 : Int32).toInt).toNat := by
                by_cases z9 : ((x265_3 : Int32).toInt).toNat = ((iv 10 1).toInt).toNat
                · rw [z9]
                · have h1 := smC_dn (c := (cxP (fa 10 0) (iv 2 3).toInt (iv 2 4).toInt a.toInt)) (ob := fun s => fa 10 0 (9 * s + 0)) (ol := fun s => fa 10 0 (9 * s + 1)) (b := iv 2 3) (l := a) ((iv 10 1).toInt).toNat (by omega) (fun j _ h => ⟨h.1, h.2.1⟩)
                  have h2 := lsP_sm (c := (cxP (fa 10 0) (iv 2 3).toInt (iv 2 4).toInt a.toInt)) ((iv 10 1).toInt).toNat (by omega)
                  have h3 := hJL (iv 2 3) a
                  exact lsP_full ((iv 10 1).toInt).toNat (by omega) (by omega)
              rw [hE9]; exact hq9)), (show ∀ k : Nat, k < (lsP (cxP (fa 10 0) ((iv 2 3) : Int32).toInt ((iv 2 4) : Int32).toInt (a).toInt) (((iv 10 1) : Int32).toInt).toNat).length → (w265_a_2_2 k).toInt = ((atP (cxP (fa 10 0) ((iv 2 3) : Int32).toInt ((iv 2 4) : Int32).toInt (a).toInt) (((iv 10 1) : Int32).toInt).toNat k : Nat) : Int) from (fun k hk => by
              have hb9 : 0 ≤ (iv 10 1).toInt ∧ (iv 10 1).toInt ≤ 60 := hI.1 10 1
              have hq9 := hq266_0
              have hE9 : lsP (cxP (fa 10 0) (iv 2 3).toInt (iv 2 4).toInt a.toInt) ((iv 10 1).toInt).toNat = lsP (cxP (fa 10 0) (iv 2 3).toInt (iv 2 4).toInt a.toInt) ((x265_3 : Int32).toInt).toNat := by
                by_cases z9 : ((x265_3 : Int32).toInt).toNat = ((iv 10 1).toInt).toNat
                · rw [z9]
                · have h1 := smC_dn (c := (cxP (fa 10 0) (iv 2 3).toInt (iv 2 4).toInt a.toInt)) (ob := fun s => fa 10 0 (9 * s + 0)) (ol := fun s => fa 10 0 (9 * s + 1)) (b := iv 2 3) (l := a) ((iv 10 1).toInt).toNat (by omega) (fun j _ h => ⟨h.1, h.2.1⟩)
                  have h2 := lsP_sm (c := (cxP (fa 10 0) (iv 2 3).toInt (iv 2 4).toInt a.toInt)) ((iv 10 1).toInt).toNat (by omega)
                  have h3 := hJL (iv 2 3) a
                  exact lsP_full ((iv 10 1).toInt).toNat (by omega) (by omega)
              rw [hE9] at hk
              unfold atP; rw [hE9]; exact hq266_1 k hk)), ⟨by omega, by omega⟩, rfl⟩, by rw [ht9]; exact hP9, hD9⟩, hS.F ht9⟩) hS.2.2 dX2_listLook_72
      · have fc267 := z_nle (rfl : ((iv 10 1)).toInt = _) (rfl : (x265_3).toInt = _) c267
        refine lv_iload_n hx hb dX2_listLook_15 rfl (lv_at hl 1 rfl) ?_
        refine lv_aload_n hx hb dX2_listLook_16 rfl (lv_at hl 2 rfl) ?_
        refine gX_2_2 hx hb ht hown hK hP m_306 dX2_listLook_17 ?_
        refine va_alen (D := (dC, dI)) (v := 12) hx hb hK hP 32 19 rfl rfl rfl dX2_listLook_20 ?_
        refine lv_icmp_ge (tgt := 71) hx hb dX2_listLook_21 (by decide) (fun c268 => ?_) (fun c268 => ?_)
        · have fc268 := z_le (by decide : (12 : Int32).toInt = 12) (rfl : (x265_2).toInt = _) c268
          refine lv_iload_n hx hb dX2_listLook_71 rfl (lv_at hl 1 rfl) ?_
          have hP9 : va_P (dC, dI) classes (WX h g ca iv lv (u2 fa 2 2 w265_a_2_2) la) H := hP
          have hD9 : va_D A (WX h g ca iv lv (u2 fa 2 2 w265_a_2_2) la) := hD
          exact W.iret (v := x265_2) hx hb hr (fun t ht9 hW => ⟨⟨x265_2, (iv, lv, (u2 fa 2 2 w265_a_2_2), la), rfl, ⟨w265_a_2_2, hw265_a_2_2, (show (x265_2 : Int32).toInt = ((lsP (cxP (fa 10 0) ((iv 2 3) : Int32).toInt ((iv 2 4) : Int32).toInt (a).toInt) (((iv 10 1) : Int32).toInt).toNat).length : Int) from (by
                have hb9 : 0 ≤ (iv 10 1).toInt ∧ (iv 10 1).toInt ≤ 60 := hI.1 10 1
                have hq9 := hq266_0
                have hE9 : lsP (cxP (fa 10 0) (iv 2 3).toInt (iv 2 4).toInt a.toInt) ((iv 10 1).toInt).toNat = lsP (cxP (fa 10 0) (iv 2 3).toInt (iv 2 4).toInt a.toInt) ((x265_3 : Int32).toInt).toNat := by
                  by_cases z9 : ((x265_3 : Int32).toInt).toNat = ((iv 10 1).toInt).toNat
                  · rw [z9]
                  · have h1 := smC_dn (c := (cxP (fa 10 0) (iv 2 3).toInt (iv 2 4).toInt a.toInt)) (ob := fun s => fa 10 0 (9 * s + 0)) (ol := fun s => fa 10 0 (9 * s + 1)) (b := iv 2 3) (l := a) ((iv 10 1).toInt).toNat (by omega) (fun j _ h => ⟨h.1, h.2.1⟩)
                    have h2 := lsP_sm (c := (cxP (fa 10 0) (iv 2 3).toInt (iv 2 4).toInt a.toInt)) ((iv 10 1).toInt).toNat (by omega)
                    have h3 := hJL (iv 2 3) a
                    exact lsP_full ((iv 10 1).toInt).toNat (by omega) (by omega)
                rw [hE9]; exact hq9)), (show ∀ k : Nat, k < (lsP (cxP (fa 10 0) ((iv 2 3) : Int32).toInt ((iv 2 4) : Int32).toInt (a).toInt) (((iv 10 1) : Int32).toInt).toNat).length → (w265_a_2_2 k).toInt = ((atP (cxP (fa 10 0) ((iv 2 3) : Int32).toInt ((iv 2 4) : Int32).toInt (a).toInt) (((iv 10 1) : Int32).toInt).toNat k : Nat) : Int) from (fun k hk => by
                have hb9 : 0 ≤ (iv 10 1).toInt ∧ (iv 10 1).toInt ≤ 60 := hI.1 10 1
                have hq9 := hq266_0
                have hE9 : lsP (cxP (fa 10 0) (iv 2 3).toInt (iv 2 4).toInt a.toInt) ((iv 10 1).toInt).toNat = lsP (cxP (fa 10 0) (iv 2 3).toInt (iv 2 4).toInt a.toInt) ((x265_3 : Int32).toInt).toNat := by
                  by_cases z9 : ((x265_3 : Int32).toInt).toNat = ((iv 10 1).toInt).toNat
                  · rw [z9]
                  · have h1 := smC_dn (c := (cxP (fa 10 0) (iv 2 3).toInt (iv 2 4).toInt a.toInt)) (ob := fun s => fa 10 0 (9 * s + 0)) (ol := fun s => fa 10 0 (9 * s + 1)) (b := iv 2 3) (l := a) ((iv 10 1).toInt).toNat (by omega) (fun j _ h => ⟨h.1, h.2.1⟩)
                    have h2 := lsP_sm (c := (cxP (fa 10 0) (iv 2 3).toInt (iv 2 4).toInt a.toInt)) ((iv 10 1).toInt).toNat (by omega)
                    have h3 := hJL (iv 2 3) a
                    exact lsP_full ((iv 10 1).toInt).toNat (by omega) (by omega)
                rw [hE9] at hk
                unfold atP; rw [hE9]; exact hq266_1 k hk)), ⟨by omega, by omega⟩, rfl⟩, by rw [ht9]; exact hP9, hD9⟩, hS.F ht9⟩) hS.2.2 dX2_listLook_72
        · have fc268 := z_nle (by decide : (12 : Int32).toInt = 12) (rfl : (x265_2).toInt = _) c268
          refine lv_aload_n hx hb dX2_listLook_24 rfl (lv_at hl 2 rfl) ?_
          refine gX_2_0 hx hb ht hown hK hP m_304 dX2_listLook_25 ?_
          refine lv_iload_n hx hb dX2_listLook_28 rfl (lv_at hl 0 rfl) ?_
          refine lv_aload_n hx hb dX2_listLook_29 rfl (lv_at hl 2 rfl) ?_
          refine gX_2_3 hx hb ht hown hK hP m_307 (v := (iv 2 3)) rfl dX2_listLook_30 ?_
          refine lv_iload_n hx hb dX2_listLook_33 rfl (lv_at hl 3 rfl) ?_
          refine vp_callSi (W.runV (As := [.int x265_3, .int (iv 2 3), .int a]) (rest := []) ⟨hx, hb, hml, hown, ht⟩ (c_X10_isOf_x l dC dI h g ca iv lv (u2 fa 2 2 w265_a_2_2) la (IX_a (c := 2) (k := 2) hI hw265_a_2_2) x265_3 (iv 2 3) a ⟨by omega, by omega⟩) (kV 3 ht m_887 m_482 m_483 m_78 m_484 rfl rfl hd_X10_isOf_v ⟨Nat.le_of_ble_eq_true rfl, Nat.le_of_ble_eq_true rfl⟩) (vR hP hK (rX_10 hK hP)) rfl rfl hl.1 rfl (lv_room (Nat.le_of_ble_eq_true rfl)) dX2_listLook_34 ⟨Nat.le_of_ble_eq_true rfl, Nat.le_of_ble_eq_true rfl⟩) (fun r269 hr269 => ?_)
          obtain ⟨hr269, xr269_0⟩ := hr269
          have xr269_0 : (((r269 : Int32).toInt = 1 ∧ ((fa 10 0) (9 * ((x265_3 : Int32).toInt).toNat + 0)).toInt = ((iv 2 3) : Int32).toInt ∧ ((fa 10 0) (9 * ((x265_3 : Int32).toInt).toNat + 1)).toInt = (a : Int32).toInt) ∨ ((r269 : Int32).toInt = 0 ∧ ¬ (((fa 10 0) (9 * ((x265_3 : Int32).toInt).toNat + 0)).toInt = ((iv 2 3) : Int32).toInt ∧ ((fa 10 0) (9 * ((x265_3 : Int32).toInt).toNat + 1)).toInt = (a : Int32).toInt))) := xr269_0
          refine lv_if_eq (tgt := 65) hx hb dX2_listLook_37 (by decide) (fun c270 => ?_) (fun c270 => ?_)
          · have fc270 := z_eq (rfl : (r269).toInt = _) (by decide : (0 : Int32).toInt = 0) c270
            obtain ⟨v271, ev271⟩ : ∃ y : Int32, y = x265_3 + 1 := ⟨_, rfl⟩
            have tv271 := z_add ev271 rfl (by decide : (1 : Int32).toInt = 1) (by omega) (by omega)
            refine lv_iinc (v := v271) (lv' := [(3, .int v271), (2, .int x265_2), (0, .ref (g 11 6)), (1, .int a)]) hx hb dX2_listLook_65 hl (k := 0) rfl (by rw [ev271]; rfl) (by decide) rfl (fun ls hl => ?_)
            refine lv_goto (tgt := 4) hx hb dX2_listLook_68 (by decide) ?_
            exact ih266 v271 x265_2 w265_a_2_2 ⟨by omega, by omega⟩ ⟨by omega, by omega⟩ hw265_a_2_2 (show (x265_2 : Int32).toInt = ((lsP (cxP (fa 10 0) ((iv 2 3) : Int32).toInt ((iv 2 4) : Int32).toInt (a).toInt) ((v271 : Int32).toInt).toNat).length : Int) from (by
                  have hs9 : ((v271 : Int32).toInt).toNat = ((x265_3 : Int32).toInt).toNat + 1 := by omega
                  have hq9 := hq266_0
                  have y9_0 := xr269_0
                  have hc9 : ¬ ((fa 10 0 (9 * ((x265_3 : Int32).toInt).toNat + 0)).toInt = (iv 2 3).toInt ∧ (fa 10 0 (9 * ((x265_3 : Int32).toInt).toNat + 1)).toInt = a.toInt ∧ (fa 10 0 (9 * ((x265_3 : Int32).toInt).toNat + 7)).toInt ≤ (iv 2 4).toInt ∧ ((fa 10 0 (9 * ((x265_3 : Int32).toInt).toNat + 8)).toInt = -1 ∨ (iv 2 4).toInt < (fa 10 0 (9 * ((x265_3 : Int32).toInt).toNat + 8)).toInt)) := by omega
                  rw [lsP_n hs9 hc9]; exact hq9)) (show ∀ k : Nat, k < (lsP (cxP (fa 10 0) ((iv 2 3) : Int32).toInt ((iv 2 4) : Int32).toInt (a).toInt) ((v271 : Int32).toInt).toNat).length → (w265_a_2_2 k).toInt = ((atP (cxP (fa 10 0) ((iv 2 3) : Int32).toInt ((iv 2 4) : Int32).toInt (a).toInt) ((v271 : Int32).toInt).toNat k : Nat) : Int) from (fun k hk => by
                  have hs9 : ((v271 : Int32).toInt).toNat = ((x265_3 : Int32).toInt).toNat + 1 := by omega
                  have hq9 := hq266_0
                  have y9_0 := xr269_0
                  have hc9 : ¬ ((fa 10 0 (9 * ((x265_3 : Int32).toInt).toNat + 0)).toInt = (iv 2 3).toInt ∧ (fa 10 0 (9 * ((x265_3 : Int32).toInt).toNat + 1)).toInt = a.toInt ∧ (fa 10 0 (9 * ((x265_3 : Int32).toInt).toNat + 7)).toInt ≤ (iv 2 4).toInt ∧ ((fa 10 0 (9 * ((x265_3 : Int32).toInt).toNat + 8)).toInt = -1 ∨ (iv 2 4).toInt < (fa 10 0 (9 * ((x265_3 : Int32).toInt).toNat + 8)).toInt)) := by omega
                  rw [lsP_n hs9 hc9] at hk
                  unfold atP; rw [lsP_n hs9 hc9]; exact hq266_1 k hk)) (show (v271 : Int32).toInt ≤ ((iv 10 1) : Int32).toInt from by omega) (by omega) _ _ ls hP hD hS (lv_sub hl [0, 1, 2, 3] rfl)
          · have fc270 := z_ne (rfl : (r269).toInt = _) (by decide : (0 : Int32).toInt = 0) c270
            refine lv_aload_n hx hb dX2_listLook_40 rfl (lv_at hl 2 rfl) ?_
            refine gX_2_0 hx hb ht hown hK hP m_304 dX2_listLook_41 ?_
            refine lv_iload_n hx hb dX2_listLook_44 rfl (lv_at hl 0 rfl) ?_
            refine lv_aload_n hx hb dX2_listLook_45 rfl (lv_at hl 2 rfl) ?_
            refine gX_2_4 hx hb ht hown hK hP m_308 (v := (iv 2 4)) rfl dX2_listLook_46 ?_
            refine vp_callSi (W.runV (As := [.int x265_3, .int (iv 2 4)]) (rest := []) ⟨hx, hb, hml, hown, ht⟩ (c_X10_counts_x l dC dI h g ca iv lv (u2 fa 2 2 w265_a_2_2) la (IX_a (c := 2) (k := 2) hI hw265_a_2_2) x265_3 (iv 2 4) ⟨by omega, by omega⟩) (kV 2 ht m_888 m_574 m_575 m_78 m_576 rfl rfl hd_X10_counts_v ⟨Nat.le_of_ble_eq_true rfl, Nat.le_of_ble_eq_true rfl⟩) (vR hP hK (rX_10 hK hP)) rfl rfl hl.1 rfl (lv_room (Nat.le_of_ble_eq_true rfl)) dX2_listLook_49 ⟨Nat.le_of_ble_eq_true rfl, Nat.le_of_ble_eq_true rfl⟩) (fun r272 hr272 => ?_)
            obtain ⟨hr272, xr272_0⟩ := hr272
            have xr272_0 : (((r272 : Int32).toInt = 1 ∧ ((fa 10 0) (9 * ((x265_3 : Int32).toInt).toNat + 7)).toInt ≤ ((iv 2 4) : Int32).toInt ∧ (((fa 10 0) (9 * ((x265_3 : Int32).toInt).toNat + 8)).toInt = -1 ∨ ((iv 2 4) : Int32).toInt < ((fa 10 0) (9 * ((x265_3 : Int32).toInt).toNat + 8)).toInt)) ∨ ((r272 : Int32).toInt = 0 ∧ ¬ (((fa 10 0) (9 * ((x265_3 : Int32).toInt).toNat + 7)).toInt ≤ ((iv 2 4) : Int32).toInt ∧ (((fa 10 0) (9 * ((x265_3 : Int32).toInt).toNat + 8)).toInt = -1 ∨ ((iv 2 4) : Int32).toInt < ((fa 10 0) (9 * ((x265_3 : Int32).toInt).toNat + 8)).toInt)))) := xr272_0
            refine lv_if_eq (tgt := 65) hx hb dX2_listLook_52 (by decide) (fun c273 => ?_) (fun c273 => ?_)
            · have fc273 := z_eq (rfl : (r272).toInt = _) (by decide : (0 : Int32).toInt = 0) c273
              obtain ⟨v274, ev274⟩ : ∃ y : Int32, y = x265_3 + 1 := ⟨_, rfl⟩
              have tv274 := z_add ev274 rfl (by decide : (1 : Int32).toInt = 1) (by omega) (by omega)
              refine lv_iinc (v := v274) (lv' := [(3, .int v274), (2, .int x265_2), (0, .ref (g 11 6)), (1, .int a)]) hx hb dX2_listLook_65 hl (k := 0) rfl (by rw [ev274]; rfl) (by decide) rfl (fun ls hl => ?_)
              refine lv_goto (tgt := 4) hx hb dX2_listLook_68 (by decide) ?_
              exact ih266 v274 x265_2 w265_a_2_2 ⟨by omega, by omega⟩ ⟨by omega, by omega⟩ hw265_a_2_2 (show (x265_2 : Int32).toInt = ((lsP (cxP (fa 10 0) ((iv 2 3) : Int32).toInt ((iv 2 4) : Int32).toInt (a).toInt) ((v274 : Int32).toInt).toNat).length : Int) from (by
                    have hs9 : ((v274 : Int32).toInt).toNat = ((x265_3 : Int32).toInt).toNat + 1 := by omega
                    have hq9 := hq266_0
                    have y9_0 := xr269_0
                    have y9_1 := xr272_0
                    have hc9 : ¬ ((fa 10 0 (9 * ((x265_3 : Int32).toInt).toNat + 0)).toInt = (iv 2 3).toInt ∧ (fa 10 0 (9 * ((x265_3 : Int32).toInt).toNat + 1)).toInt = a.toInt ∧ (fa 10 0 (9 * ((x265_3 : Int32).toInt).toNat + 7)).toInt ≤ (iv 2 4).toInt ∧ ((fa 10 0 (9 * ((x265_3 : Int32).toInt).toNat + 8)).toInt = -1 ∨ (iv 2 4).toInt < (fa 10 0 (9 * ((x265_3 : Int32).toInt).toNat + 8)).toInt)) := by omega
                    rw [lsP_n hs9 hc9]; exact hq9)) (show ∀ k : Nat, k < (lsP (cxP (fa 10 0) ((iv 2 3) : Int32).toInt ((iv 2 4) : Int32).toInt (a).toInt) ((v274 : Int32).toInt).toNat).length → (w265_a_2_2 k).toInt = ((atP (cxP (fa 10 0) ((iv 2 3) : Int32).toInt ((iv 2 4) : Int32).toInt (a).toInt) ((v274 : Int32).toInt).toNat k : Nat) : Int) from (fun k hk => by
                    have hs9 : ((v274 : Int32).toInt).toNat = ((x265_3 : Int32).toInt).toNat + 1 := by omega
                    have hq9 := hq266_0
                    have y9_0 := xr269_0
                    have y9_1 := xr272_0
                    have hc9 : ¬ ((fa 10 0 (9 * ((x265_3 : Int32).toInt).toNat + 0)).toInt = (iv 2 3).toInt ∧ (fa 10 0 (9 * ((x265_3 : Int32).toInt).toNat + 1)).toInt = a.toInt ∧ (fa 10 0 (9 * ((x265_3 : Int32).toInt).toNat + 7)).toInt ≤ (iv 2 4).toInt ∧ ((fa 10 0 (9 * ((x265_3 : Int32).toInt).toNat + 8)).toInt = -1 ∨ (iv 2 4).toInt < (fa 10 0 (9 * ((x265_3 : Int32).toInt).toNat + 8)).toInt)) := by omega
                    rw [lsP_n hs9 hc9] at hk
                    unfold atP; rw [lsP_n hs9 hc9]; exact hq266_1 k hk)) (show (v274 : Int32).toInt ≤ ((iv 10 1) : Int32).toInt from by omega) (by omega) _ _ ls hP hD hS (lv_sub hl [0, 1, 2, 3] rfl)
            · have fc273 := z_ne (rfl : (r272).toInt = _) (by decide : (0 : Int32).toInt = 0) c273
              refine lv_aload_n hx hb dX2_listLook_55 rfl (lv_at hl 2 rfl) ?_
              refine gX_2_2 hx hb ht hown hK hP m_306 dX2_listLook_56 ?_
              refine lv_iload_n hx hb dX2_listLook_59 rfl (lv_at hl 1 rfl) ?_
              refine lv_iload_n hx hb dX2_listLook_60 rfl (lv_at hl 0 rfl) ?_
              refine tX_2_2 hx hb hK hP hD hS (f0 := w265_a_2_2) rfl (i := x265_2) (x := x265_3) (vp_in_iff.mpr ⟨by omega, by omega⟩) dX2_listLook_61 (fun f275 ef275 H locs hP hD hS => ?_)
              have hf275 : ∀ j, inb (bA 2 2 j) (f275 j) := by rw [ef275]; exact upd_b (b := bA 2 2) hw265_a_2_2 (show inb (0, 59) x265_3 from ⟨by omega, by omega⟩)
              have hP : va_P (dC, dI) classes (WX h g ca iv lv (u2 fa 2 2 f275) la) H := hP
              have hD : va_D A (WX h g ca iv lv (u2 fa 2 2 f275) la) := hD
              obtain ⟨v276, ev276⟩ : ∃ y : Int32, y = x265_2 + 1 := ⟨_, rfl⟩
              have tv276 := z_add ev276 rfl (by decide : (1 : Int32).toInt = 1) (by omega) (by omega)
              refine lv_iinc (v := v276) (lv' := [(2, .int v276), (3, .int x265_3), (0, .ref (g 11 6)), (1, .int a)]) hx hb dX2_listLook_62 hl (k := 1) rfl (by rw [ev276]; rfl) (by decide) rfl (fun ls hl => ?_)
              obtain ⟨v277, ev277⟩ : ∃ y : Int32, y = x265_3 + 1 := ⟨_, rfl⟩
              have tv277 := z_add ev277 rfl (by decide : (1 : Int32).toInt = 1) (by omega) (by omega)
              refine lv_iinc (v := v277) (lv' := [(3, .int v277), (2, .int v276), (0, .ref (g 11 6)), (1, .int a)]) hx hb dX2_listLook_65 hl (k := 1) rfl (by rw [ev277]; rfl) (by decide) rfl (fun ls hl => ?_)
              refine lv_goto (tgt := 4) hx hb dX2_listLook_68 (by decide) ?_
              exact ih266 v277 v276 f275 ⟨by omega, by omega⟩ ⟨by omega, by omega⟩ hf275 (show (v276 : Int32).toInt = ((lsP (cxP (fa 10 0) ((iv 2 3) : Int32).toInt ((iv 2 4) : Int32).toInt (a).toInt) ((v277 : Int32).toInt).toNat).length : Int) from (by
                    have hs9 : ((v277 : Int32).toInt).toNat = ((x265_3 : Int32).toInt).toNat + 1 := by omega
                    have hq9 := hq266_0
                    have y9_0 := xr269_0
                    have y9_1 := xr272_0
                    have hc9 : (fa 10 0 (9 * ((x265_3 : Int32).toInt).toNat + 0)).toInt = (iv 2 3).toInt ∧ (fa 10 0 (9 * ((x265_3 : Int32).toInt).toNat + 1)).toInt = a.toInt ∧ (fa 10 0 (9 * ((x265_3 : Int32).toInt).toNat + 7)).toInt ≤ (iv 2 4).toInt ∧ ((fa 10 0 (9 * ((x265_3 : Int32).toInt).toNat + 8)).toInt = -1 ∨ (iv 2 4).toInt < (fa 10 0 (9 * ((x265_3 : Int32).toInt).toNat + 8)).toInt) := ⟨by omega, by omega, by omega, by omega⟩
                    rw [lsP_y hs9 hc9, List.length_append]
                    show (v276 : Int32).toInt = (((lsP (cxP (fa 10 0) (iv 2 3).toInt (iv 2 4).toInt a.toInt) ((x265_3 : Int32).toInt).toNat).length + 1 : Nat) : Int)
                    omega)) (show ∀ k : Nat, k < (lsP (cxP (fa 10 0) ((iv 2 3) : Int32).toInt ((iv 2 4) : Int32).toInt (a).toInt) ((v277 : Int32).toInt).toNat).length → (f275 k).toInt = ((atP (cxP (fa 10 0) ((iv 2 3) : Int32).toInt ((iv 2 4) : Int32).toInt (a).toInt) ((v277 : Int32).toInt).toNat k : Nat) : Int) from (fun k hk => by
                    have hs9 : ((v277 : Int32).toInt).toNat = ((x265_3 : Int32).toInt).toNat + 1 := by omega
                    have hq9 := hq266_0
                    have y9_0 := xr269_0
                    have y9_1 := xr272_0
                    have hc9 : (fa 10 0 (9 * ((x265_3 : Int32).toInt).toNat + 0)).toInt = (iv 2 3).toInt ∧ (fa 10 0 (9 * ((x265_3 : Int32).toInt).toNat + 1)).toInt = a.toInt ∧ (fa 10 0 (9 * ((x265_3 : Int32).toInt).toNat + 7)).toInt ≤ (iv 2 4).toInt ∧ ((fa 10 0 (9 * ((x265_3 : Int32).toInt).toNat + 8)).toInt = -1 ∨ (iv 2 4).toInt < (fa 10 0 (9 * ((x265_3 : Int32).toInt).toNat + 8)).toInt) := ⟨by omega, by omega, by omega, by omega⟩
                    have hx9 : (x265_2 : Int32).toNatClampNeg = (lsP (cxP (fa 10 0) (iv 2 3).toInt (iv 2 4).toInt a.toInt) ((x265_3 : Int32).toInt).toNat).length := by show (x265_2 : Int32).toInt.toNat = _; omega
                    rw [lsP_y hs9 hc9, List.length_append] at hk
                    have hk2 : k < (lsP (cxP (fa 10 0) (iv 2 3).toInt (iv 2 4).toInt a.toInt) ((x265_3 : Int32).toInt).toNat).length + 1 := hk
                    unfold atP; rw [lsP_y hs9 hc9]
                    by_cases z : k = (lsP (cxP (fa 10 0) (iv 2 3).toInt (iv 2 4).toInt a.toInt) ((x265_3 : Int32).toInt).toNat).length
                    · rw [getD_e z, ef275, show k = (x265_2 : Int32).toNatClampNeg from by rw [hx9]; exact z, upd_eq]; show (x265_3 : Int32).toInt = ((((x265_3 : Int32).toInt).toNat : Nat) : Int); omega
                    · rw [getD_l (by omega), ef275, upd_ne (by rw [hx9]; exact z)]; exact hq266_1 k (by omega))) (show (v277 : Int32).toInt ≤ ((iv 10 1) : Int32).toInt from by omega) (by omega) _ _ ls hP hD hS (lv_sub hl [0, 1, 2, 3] rfl)
  have : (0 : Int32).toInt = 0 := (by decide)
  have i_10_1 : 0 ≤ (iv 10 1).toInt ∧ (iv 10 1).toInt ≤ 60 := hI.1 10 1
  exact lp266 61 0 0 (fa 2 2) ⟨by decide, by decide⟩ ⟨by decide, by decide⟩ (hI.2 2 2) (show (0 : Int32).toInt = ((lsP (cxP (fa 10 0) ((iv 2 3) : Int32).toInt ((iv 2 4) : Int32).toInt (a).toInt) ((0 : Int32).toInt).toNat).length : Int) from (by have hz : ((0 : Int32).toInt).toNat = 0 := (by decide); rw [hz]; exact (by decide : (0 : Int32).toInt = 0))) (show ∀ k : Nat, k < (lsP (cxP (fa 10 0) ((iv 2 3) : Int32).toInt ((iv 2 4) : Int32).toInt (a).toInt) ((0 : Int32).toInt).toNat).length → ((fa 2 2) k).toInt = ((atP (cxP (fa 10 0) ((iv 2 3) : Int32).toInt ((iv 2 4) : Int32).toInt (a).toInt) ((0 : Int32).toInt).toNat k : Nat) : Int) from (fun k hk => by have hz : ((0 : Int32).toInt).toNat = 0 := (by decide); rw [hz] at hk; exact absurd hk (Nat.not_lt_zero k))) (show (0 : Int32).toInt ≤ ((iv 10 1) : Int32).toInt from by omega) (by first | decide | omega) _ _ ls hP hD hS (lv_sub hl [0, 1, 2, 3] rfl)
set_option maxHeartbeats 4000000 in
set_option maxRecDepth 100000 in
/-- X2_lookAt -/
theorem c_X2_lookAt_w (l : Launch) (dC : Nat → ClassId) (dI : Nat → Nat → Nat) (sz : Nat) (h : Nat) (g : Nat → Nat → Nat) (ca : Nat → Nat → ClassId) (iv : Nat → Nat → Int32) (lv : Nat → Nat → Int64) (fa : Nat → Nat → Nat → Int32) (la : Nat → Nat → Nat → Int64) (hI : IX iv fa) (a : Int32) (b : Int32) (d : Int32) : Met l yX2_lookAt (wc yX2_lookAt cX2_lookAt 4 none) ({ frames := 0, cells := 0, slots := 0, locals := 0 } : Room) (pW (dC, dI) classes (WX h g ca iv lv fa la) (TX ca) sz [.ref (g 11 6), .int a, .int b, .int d]) (va_Qv (fun (u : SS) => ∃ (ni_2_3 : Int32) (ni_2_4 : Int32) (ni_2_5 : Int32), ((ni_2_3).toInt = a.toInt) ∧ ((ni_2_4).toInt = b.toInt) ∧ ((ni_2_5).toInt = d.toInt) ∧ u = ((u2 (u2 (u2 iv 2 3 ni_2_3) 2 4 ni_2_4) 2 5 ni_2_5), lv, fa, la)) (bX (dC, dI) h g ca (va_A (WX h g ca iv lv fa la) sz)) (va_A (WX h g ca iv lv fa la) sz)) 0 0 (va_A (WX h g ca iv lv fa la) sz) := by
  refine Met.ofW (cc := cX2_lookAt) (maxL := 4) (ret := none) (by decide) rfl ?_
  intro p e s m args below meth c s₁ B hml hv
  obtain ⟨rfl, hsz, hP, hK, hD0⟩ := hv
  have hx := B.exec
  have hb := B.bytes
  have hr := B.returns
  have ht := tb_tl (atoms_spec (ws := wc yX2_lookAt cX2_lookAt 4 none) B.pre)
  have hown : s.vm.findClass RX2 = some m.cls := findClass_of_methodNamed B.named
  have hlocks := B.notSynchronized
  subst hsz
  have hD := hD0.self (sz := s.heap.size)
  generalize hAe : va_A (WX h g ca iv lv fa la) s.heap.size = A at hD ⊢
  have hA : ∀ q : Nat, s.heap.size ≤ q → A q := fun q h => by rw [← hAe]; exact Or.inr h
  have hS : va_S A s.heap s.heap [] := va_S.rf
  have hl := lv_entry [.ref (g 11 6), .int a, .int b, .int d] (n := 4) (Nat.le_of_ble_eq_true rfl)
  rw [lg_entry_eq]
  generalize (lg_sl [.ref (g 11 6), .int a, .int b, .int d] ++ List.replicate (4 - (lg_sl [.ref (g 11 6), .int a, .int b, .int d]).length) Slot.unset).toArray = ls at hl ⊢
  have hl : lv_has ls 4 [(0, .ref (g 11 6)), (1, .int a), (2, .int b), (3, .int d)] := hl
  refine lv_aload_n hx hb dX2_lookAt_0 rfl (lv_at hl 0 rfl) ?_
  refine lv_iload_n hx hb dX2_lookAt_1 rfl (lv_at hl 1 rfl) ?_
  refine pX_2_3 (v := a) hx hb ht hown hK hP hD hS m_307 dX2_lookAt_2 (fun H locs hP hD hS => ?_)
  refine lv_aload_n hx hb dX2_lookAt_5 rfl (lv_at hl 0 rfl) ?_
  refine lv_iload_n hx hb dX2_lookAt_6 rfl (lv_at hl 2 rfl) ?_
  refine pX_2_4 (v := b) hx hb ht hown hK hP hD hS m_308 dX2_lookAt_7 (fun H locs hP hD hS => ?_)
  refine lv_aload_n hx hb dX2_lookAt_10 rfl (lv_at hl 0 rfl) ?_
  refine lv_iload_n hx hb dX2_lookAt_11 rfl (lv_at hl 3 rfl) ?_
  refine pX_2_5 (v := d) hx hb ht hown hK hP hD hS m_309 dX2_lookAt_12 (fun H locs hP hD hS => ?_)
  have hP9 : va_P (dC, dI) classes (WX h g ca (u2 (u2 (u2 iv 2 3 a) 2 4 b) 2 5 d) lv fa la) H := hP
  have hD9 : va_D A (WX h g ca (u2 (u2 (u2 iv 2 3 a) 2 4 b) 2 5 d) lv fa la) := hD
  exact W.vret hx hb hr (fun t ht9 hW => ⟨⟨((u2 (u2 (u2 iv 2 3 a) 2 4 b) 2 5 d), lv, fa, la), rfl, ⟨a, b, d, (show (a : Int32).toInt = (a).toInt from by omega), (show (b : Int32).toInt = (b).toInt from by omega), (show (d : Int32).toInt = (d).toInt from by omega), rfl⟩, by rw [ht9]; exact hP9, hD9⟩, hS.F ht9⟩) hS.2.2 dX2_lookAt_15
