/-! ===== or0 ===== -/

/-- the k-th figure of a way of n loads among mm ovens -/
def wyD (mm n w k : Nat) : Nat := w / mm ^ (n - 1 - k) % mm
/-- when an oven is done, by the first loads -/
def wyE (d : Nat → Nat) (mi : Nat → Int32) (o : Nat) : Nat → Int32
  | 0 => 0
  | k + 1 => if d k = o then wyE d mi o k + mi k else wyE d mi o k
/-- when the last is done -/
def wyL (d : Nat → Nat) (mi : Nat → Int32) : Nat → Int
  | 0 => 0
  | k + 1 => if wyL d mi k ≤ (wyE d mi (d k) (k + 1)).toInt then (wyE d mi (d k) (k + 1)).toInt else wyL d mi k
/-- the first of the best of some ways side by side -/
def wyS (L : Nat → Int) (a : Nat) (b : Int × Nat) : Nat → Int × Nat
  | 0 => b
  | n + 1 => if L (a + n) < (wyS L a b n).1 then (L (a + n), a + n) else wyS L a b n
def wyF (mm n : Nat) (mi : Nat → Int32) (x : Nat) : Int := wyL (wyD mm n x) mi n
theorem wyE_cg {d d' : Nat → Nat} {mi mi' : Nat → Int32} {o : Nat} : ∀ k : Nat, (∀ j : Nat, j < k → d j = d' j ∧ mi j = mi' j) → wyE d mi o k = wyE d' mi' o k
  | 0, _ => rfl
  | k + 1, h => by
    have q := wyE_cg (o := o) k (fun j hj => h j (Nat.lt_succ_of_lt hj))
    have z := h k (Nat.lt_succ_self k)
    show (if d k = o then wyE d mi o k + mi k else wyE d mi o k) = (if d' k = o then wyE d' mi' o k + mi' k else wyE d' mi' o k)
    rw [q, z.1, z.2]
theorem wyL_cg {d d' : Nat → Nat} {mi mi' : Nat → Int32} : ∀ k : Nat, (∀ j : Nat, j < k → d j = d' j ∧ mi j = mi' j) → wyL d mi k = wyL d' mi' k
  | 0, _ => rfl
  | k + 1, h => by
    have q := wyL_cg k (fun j hj => h j (Nat.lt_succ_of_lt hj))
    have z := h k (Nat.lt_succ_self k)
    have e := wyE_cg (o := d k) (k + 1) h
    show (if wyL d mi k ≤ (wyE d mi (d k) (k + 1)).toInt then (wyE d mi (d k) (k + 1)).toInt else wyL d mi k) = (if wyL d' mi' k ≤ (wyE d' mi' (d' k) (k + 1)).toInt then (wyE d' mi' (d' k) (k + 1)).toInt else wyL d' mi' k)
    rw [← z.1, e, q]
theorem wyL_up {d : Nat → Nat} {mi : Nat → Int32} (k : Nat) : wyL d mi k ≤ wyL d mi (k + 1) := by
  show _ ≤ (if wyL d mi k ≤ (wyE d mi (d k) (k + 1)).toInt then (wyE d mi (d k) (k + 1)).toInt else wyL d mi k)
  split
  · assumption
  · exact Int.le_refl _
theorem wyL_mono {d : Nat → Nat} {mi : Nat → Int32} {k : Nat} : ∀ n : Nat, k ≤ n → wyL d mi k ≤ wyL d mi n
  | 0, h => by rw [Nat.le_zero.mp h]; exact Int.le_refl _
  | n + 1, h => by
    by_cases e : k = n + 1
    · rw [e]; exact Int.le_refl _
    · exact Int.le_trans (wyL_mono n (by omega)) (wyL_up n)
theorem wyS_s {L : Nat → Int} {a : Nat} {b : Int × Nat} {n n' : Nat} (h : n' = n + 1) : wyS L a b n' = if L (a + n) < (wyS L a b n).1 then (L (a + n), a + n) else wyS L a b n := by rw [h]; rfl
theorem wyS_y {L : Nat → Int} {a : Nat} {b : Int × Nat} {n n' : Nat} (h : n' = n + 1) (hc : L (a + n) < (wyS L a b n).1) : wyS L a b n' = (L (a + n), a + n) := by rw [wyS_s h, if_pos hc]
theorem wyS_n {L : Nat → Int} {a : Nat} {b : Int × Nat} {n n' : Nat} (h : n' = n + 1) (hc : ¬ L (a + n) < (wyS L a b n).1) : wyS L a b n' = wyS L a b n := by rw [wyS_s h, if_neg hc]
theorem wyS_add {L : Nat → Int} {a : Nat} {b : Int × Nat} {n : Nat} : ∀ k : Nat, wyS L a b (n + k) = wyS L (a + n) (wyS L a b n) k
  | 0 => rfl
  | k + 1 => by
    have q := wyS_add (L := L) (a := a) (b := b) (n := n) k
    have e : a + (n + k) = a + n + k := (Nat.add_assoc a n k).symm
    rw [wyS_s (L := L) (a := a) (b := b) (n := n + k) (n' := n + (k + 1)) rfl, wyS_s (L := L) (a := a + n) (b := wyS L a b n) (n := k) (n' := k + 1) rfl, q, e]
theorem wyS_le {L : Nat → Int} {a : Nat} {b : Int × Nat} : ∀ n : Nat, (wyS L a b n).1 ≤ b.1
  | 0 => Int.le_refl _
  | n + 1 => by
    have q := wyS_le (L := L) (a := a) (b := b) n
    by_cases h : L (a + n) < (wyS L a b n).1
    · rw [wyS_y rfl h]; exact Int.le_trans (Int.le_of_lt h) q
    · rw [wyS_n rfl h]; exact q
theorem wyS_skip {L : Nat → Int} {a : Nat} {b : Int × Nat} : ∀ n : Nat, (∀ j : Nat, j < n → b.1 ≤ L (a + j)) → wyS L a b n = b
  | 0, _ => rfl
  | n + 1, h => by
    have q := wyS_skip n (fun j hj => h j (Nat.lt_succ_of_lt hj))
    rw [wyS_n rfl (by rw [q]; exact Int.not_lt.mpr (h n (Nat.lt_succ_self n))), q]
theorem wyS_cg {L L' : Nat → Int} {a : Nat} {b : Int × Nat} (h : ∀ x : Nat, L x = L' x) (n : Nat) : wyS L a b n = wyS L' a b n := by
  rw [show L = L' from funext h]
theorem wyD_lo {mm n x0 x d j : Nat} (hm : 0 < mm) (hd : mm ^ d ∣ x0) (h1 : x0 ≤ x) (h2 : x < x0 + mm ^ d) (hj : j + d < n) : wyD mm n x j = wyD mm n x0 j := by
  obtain ⟨q, rfl⟩ := hd
  have hp : 0 < mm ^ d := Nat.pow_pos hm
  obtain ⟨r, hr⟩ : ∃ r : Nat, n - 1 - j = d + r := ⟨n - 1 - j - d, by omega⟩
  have a1 : x / mm ^ d = q := Nat.div_eq_of_lt_le (by rw [Nat.mul_comm]; exact h1) (by rw [Nat.add_mul, Nat.one_mul, Nat.mul_comm q]; exact h2)
  have a2 : mm ^ d * q / mm ^ d = q := Nat.mul_div_cancel_left q hp
  have a3 : x / (mm ^ d * mm ^ r) = q / mm ^ r := by rw [← Nat.div_div_eq_div_mul, a1]
  have a4 : mm ^ d * q / (mm ^ d * mm ^ r) = q / mm ^ r := by rw [← Nat.div_div_eq_div_mul, a2]
  show x / mm ^ (n - 1 - j) % mm = mm ^ d * q / mm ^ (n - 1 - j) % mm
  rw [hr, Nat.pow_add, a3, a4]
theorem wyD_hi {mm n x0 x d o k : Nat} (hm : 0 < mm) (hd : mm ^ (d + 1) ∣ x0) (ho : o < mm) (h1 : x0 + o * mm ^ d ≤ x) (h2 : x < x0 + (o + 1) * mm ^ d) (hk : n - 1 - k = d) : wyD mm n x k = o := by
  obtain ⟨q, rfl⟩ := hd
  have e : mm ^ (d + 1) * q = mm * q * mm ^ d := by rw [Nat.pow_succ, Nat.mul_assoc, Nat.mul_comm]
  rw [e] at h1 h2
  have a1 : x / mm ^ d = mm * q + o := Nat.div_eq_of_lt_le (by rw [Nat.add_mul]; exact h1) (by rw [Nat.add_assoc, Nat.add_mul (mm * q) (o + 1)]; exact h2)
  show x / mm ^ (n - 1 - k) % mm = o
  rw [hk, a1, Nat.mul_add_mod, Nat.mod_eq_of_lt ho]
/-- the class stands at load k: x0 is the first way that begins so -/
def OrP (n mm : Nat) (mi tr en : Nat → Int32) (k x0 : Nat) (q : Int) : Prop := k ≤ n ∧ (0 < mm ∧ mm ≤ 3) ∧ mm ^ (n - k) ∣ x0 ∧ (∀ j : Nat, j < k → (tr j).toInt = ((wyD mm n x0 j : Nat) : Int)) ∧ (∀ o : Nat, o < 3 → en o = wyE (wyD mm n x0) mi o k) ∧ q = wyL (wyD mm n x0) mi k
def OrB (n mm : Nat) (be : Nat → Int32) (e : Int) (bw : Nat) : Prop := e < 1000000 → ∀ j : Nat, j < n → (be j).toInt = ((wyD mm n bw j : Nat) : Int)
def OrQ (n mm : Nat) (mi : Nat → Int32) (x0 bw : Nat) (e0 : Int) (T : Nat) (e : Int) (be : Nat → Int32) : Prop := e = (wyS (wyF mm n mi) x0 (e0, bw) T).1 ∧ OrB n mm be e (wyS (wyF mm n mi) x0 (e0, bw) T).2
def OrR (n mm : Nat) (mi : Nat → Int32) (e : Int) (be : Nat → Int32) : Prop := OrQ n mm mi 0 0 1000000 (mm ^ n) e be
theorem Or_q0 {n mm : Nat} {mi be : Nat → Int32} {x0 bw : Nat} {e0 : Int} (h : OrB n mm be e0 bw) : OrQ n mm mi x0 bw e0 0 e0 be := ⟨rfl, h⟩
theorem Or_qs {n mm : Nat} {mi tr en be : Nat → Int32} {k x0 bw : Nat} {q e0 : Int} (h : OrP n mm mi tr en k x0 q) (hb : OrB n mm be e0 bw) (hq : e0 ≤ q) : OrQ n mm mi x0 bw e0 (mm ^ (n - k)) e0 be := by
  obtain ⟨h1, ⟨h2, -⟩, h3, h4, h5, h6⟩ := h
  have z : wyS (wyF mm n mi) x0 (e0, bw) (mm ^ (n - k)) = (e0, bw) := by
    refine wyS_skip _ (fun j hj => ?_)
    have a1 : wyL (wyD mm n (x0 + j)) mi k = wyL (wyD mm n x0) mi k := wyL_cg k (fun i hi => ⟨wyD_lo h2 h3 (Nat.le_add_right _ _) (Nat.add_lt_add_left hj x0) (by omega), rfl⟩)
    have a2 : wyL (wyD mm n (x0 + j)) mi k ≤ wyL (wyD mm n (x0 + j)) mi n := wyL_mono n h1
    show e0 ≤ wyL (wyD mm n (x0 + j)) mi n
    omega
  unfold OrQ
  rw [z]; exact ⟨rfl, hb⟩
theorem Or_ql {n mm : Nat} {mi tr en be : Nat → Int32} {k x0 bw : Nat} {q e0 : Int} (h : OrP n mm mi tr en k x0 q) (hk : n ≤ k) (hq : q < e0) (hbe : ∀ j : Nat, j < n → be j = tr j) : OrQ n mm mi x0 bw e0 (mm ^ (n - k)) q be := by
  obtain ⟨h1, ⟨h2, -⟩, h3, h4, h5, h6⟩ := h
  have ek : k = n := Nat.le_antisymm h1 hk
  have e2 : mm ^ (n - k) = 0 + 1 := by rw [show n - k = 0 from by omega, Nat.pow_zero]
  have e3 : wyF mm n mi (x0 + 0) = q := by rw [h6, ek]; rfl
  have z : wyS (wyF mm n mi) x0 (e0, bw) (mm ^ (n - k)) = (q, x0) := by
    rw [wyS_y (n := 0) e2 (by rw [e3]; exact hq), e3]; rfl
  unfold OrQ
  rw [z]
  exact ⟨rfl, fun _ j hj => by rw [hbe j hj]; exact h4 j (by omega)⟩
theorem Or_pw {n mm k : Nat} (hk : k < n) : mm * mm ^ (n - (k + 1)) = mm ^ (n - k) := by
  have e : n - k = n - (k + 1) + 1 := by omega
  rw [e, Nat.pow_succ]; exact Nat.mul_comm _ _
theorem Or_dn {n mm : Nat} {mi tr en tr' en' : Nat → Int32} {k x0 o : Nat} {q q' : Int} (h : OrP n mm mi tr en k x0 q) (hk : k < n) (ho : o < mm) (t1 : ∀ j : Nat, j < k → tr' j = tr j) (t2 : (tr' k).toInt = (o : Int)) (e1 : ∀ j : Nat, j < 3 → j ≠ o → en' j = en j) (e2 : en' o = en o + mi k) (q1 : q ≤ q') (q2 : (en' o).toInt ≤ q') (q3 : q' = q ∨ q' = (en' o).toInt) : OrP n mm mi tr' en' (k + 1) (x0 + o * mm ^ (n - (k + 1))) q' := by
  obtain ⟨h1, ⟨h2, h2'⟩, h3, h4, h5, h6⟩ := h
  obtain ⟨d, hd⟩ : ∃ d : Nat, d = n - (k + 1) := ⟨_, rfl⟩
  rw [show n - k = d + 1 from by omega] at h3
  rw [← hd]
  have hp : 0 < mm ^ d := Nat.pow_pos h2
  have ha : o * mm ^ d < mm ^ (d + 1) := by rw [Nat.pow_succ, Nat.mul_comm o]; exact (Nat.mul_lt_mul_left hp).mpr ho
  have hb : x0 + o * mm ^ d < x0 + (o + 1) * mm ^ d := by rw [Nat.add_mul, Nat.one_mul]; omega
  have hx : ∀ j : Nat, j < k → wyD mm n (x0 + o * mm ^ d) j = wyD mm n x0 j := fun j hj => wyD_lo h2 h3 (Nat.le_add_right _ _) (Nat.add_lt_add_left ha x0) (by omega)
  have hy : wyD mm n (x0 + o * mm ^ d) k = o := wyD_hi h2 h3 ho (Nat.le_refl _) hb (by omega)
  have hE : ∀ i : Nat, i < 3 → en' i = wyE (wyD mm n (x0 + o * mm ^ d)) mi i (k + 1) := by
    intro i hi
    have c : wyE (wyD mm n (x0 + o * mm ^ d)) mi i k = wyE (wyD mm n x0) mi i k := wyE_cg k (fun j hj => ⟨hx j hj, rfl⟩)
    show en' i = (if wyD mm n (x0 + o * mm ^ d) k = i then wyE (wyD mm n (x0 + o * mm ^ d)) mi i k + mi k else wyE (wyD mm n (x0 + o * mm ^ d)) mi i k)
    rw [hy, c, ← h5 i hi]
    by_cases e : o = i
    · rw [if_pos e, ← e]; exact e2
    · rw [if_neg e]; exact e1 i hi (fun z => e z.symm)
  refine ⟨by omega, ⟨h2, h2'⟩, ?_, ?_, hE, ?_⟩
  · show mm ^ (n - (k + 1)) ∣ x0 + o * mm ^ d
    rw [← hd]
    exact Nat.dvd_add (Nat.dvd_trans ⟨mm, Nat.pow_succ ..⟩ h3) ⟨o, Nat.mul_comm _ _⟩
  · intro j hj
    by_cases e : j = k
    · rw [e, t2, hy]
    · rw [t1 j (by omega), h4 j (by omega), hx j (by omega)]
  · have c : wyL (wyD mm n (x0 + o * mm ^ d)) mi k = q := by rw [h6]; exact wyL_cg k (fun j hj => ⟨hx j hj, rfl⟩)
    have c2 : wyE (wyD mm n (x0 + o * mm ^ d)) mi (wyD mm n (x0 + o * mm ^ d) k) (k + 1) = en' o := by rw [hy]; exact (hE o (by omega)).symm
    show q' = (if wyL (wyD mm n (x0 + o * mm ^ d)) mi k ≤ (wyE (wyD mm n (x0 + o * mm ^ d)) mi (wyD mm n (x0 + o * mm ^ d) k) (k + 1)).toInt then (wyE (wyD mm n (x0 + o * mm ^ d)) mi (wyD mm n (x0 + o * mm ^ d) k) (k + 1)).toInt else wyL (wyD mm n (x0 + o * mm ^ d)) mi k)
    rw [c, c2]
    by_cases z : q ≤ (en' o).toInt
    · rw [if_pos z]; omega
    · rw [if_neg z]; omega
theorem Or_st {n mm : Nat} {mi be be' : Nat → Int32} {x0 bw o o' P : Nat} {e0 e e' : Int} (ho : o' = o + 1) (h : OrQ n mm mi x0 bw e0 (o * P) e be) (h' : OrQ n mm mi (x0 + o * P) (wyS (wyF mm n mi) x0 (e0, bw) (o * P)).2 e P e' be') : OrQ n mm mi x0 bw e0 (o' * P) e' be' := by
  have z : (e, (wyS (wyF mm n mi) x0 (e0, bw) (o * P)).2) = wyS (wyF mm n mi) x0 (e0, bw) (o * P) := by rw [h.1]
  unfold OrQ at h' ⊢
  rw [ho, Nat.add_mul, Nat.one_mul, wyS_add, ← z]; exact h'
theorem Or_p0 {n mm : Nat} {mi tr en : Nat → Int32} {q : Int} (hm : 0 < mm ∧ mm ≤ 3) (he : ∀ o : Nat, o < 3 → en o = 0) (hq : q = 0) : OrP n mm mi tr en 0 0 q :=
  ⟨Nat.zero_le _, hm, ⟨0, (Nat.mul_zero _).symm⟩, fun j hj => absurd hj (Nat.not_lt_zero j), fun o ho => he o ho, hq⟩
theorem Or_cpy {f k : Nat → Int32} {z n j : Nat} (hz : z = 0) (hj : j < n) : va_cpy f k z z n j = f j := by
  show (if z ≤ j ∧ j < z + n then f (z + (j - z)) else k j) = f j
  rw [hz, if_pos ⟨Nat.zero_le _, by omega⟩, Nat.zero_add, Nat.sub_zero]
/-- minutes are few -/
theorem wyE_b {d : Nat → Nat} {mi : Nat → Int32} {o : Nat} : ∀ k : Nat, k ≤ 8 → (∀ j : Nat, j < k → 0 ≤ (mi j).toInt ∧ (mi j).toInt ≤ 999) → 0 ≤ (wyE d mi o k).toInt ∧ (wyE d mi o k).toInt ≤ 999 * (k : Int)
  | 0, _, _ => by show 0 ≤ (0 : Int32).toInt ∧ (0 : Int32).toInt ≤ _; rw [show (0 : Int32).toInt = 0 from by decide]; omega
  | k + 1, hk, h => by
    have q := wyE_b (d := d) (o := o) k (by omega) (fun j hj => h j (by omega))
    have z := h k (by omega)
    show 0 ≤ (if d k = o then wyE d mi o k + mi k else wyE d mi o k).toInt ∧ (if d k = o then wyE d mi o k + mi k else wyE d mi o k).toInt ≤ _
    by_cases e : d k = o
    · rw [if_pos e, z_add rfl rfl rfl (by omega) (by omega)]; omega
    · rw [if_neg e]; omega
theorem wyL_b {d : Nat → Nat} {mi : Nat → Int32} : ∀ k : Nat, k ≤ 8 → (∀ j : Nat, j < k → 0 ≤ (mi j).toInt ∧ (mi j).toInt ≤ 999) → wyL d mi k ≤ 999 * (k : Int)
  | 0, _, _ => by show (0 : Int) ≤ _; omega
  | k + 1, hk, h => by
    have q := wyL_b (d := d) k (by omega) (fun j hj => h j (by omega))
    have z := wyE_b (d := d) (o := d k) (k + 1) hk h
    show (if wyL d mi k ≤ (wyE d mi (d k) (k + 1)).toInt then (wyE d mi (d k) (k + 1)).toInt else wyL d mi k) ≤ _
    by_cases e : wyL d mi k ≤ (wyE d mi (d k) (k + 1)).toInt
    · rw [if_pos e]; omega
    · rw [if_neg e]; omega
def wyM (n : Nat) (mi : Nat → Int32) : Prop := ∀ j : Nat, j < n → 0 ≤ (mi j).toInt ∧ (mi j).toInt ≤ 999
theorem wyF_b {mm n : Nat} {mi : Nat → Int32} {x : Nat} (hn : n ≤ 8) (h : wyM n mi) : wyF mm n mi x < 1000000 := by
  have z : wyF mm n mi x ≤ 999 * (n : Int) := wyL_b n hn h
  omega
theorem bs_lt {F : Nat → Int} {T : Nat} (hF : F 0 < 1000000) (hT : 1 ≤ T) : (wyS F 0 (1000000, 0) T).1 < 1000000 := by
  obtain ⟨t, rfl⟩ : ∃ t : Nat, T = 1 + t := ⟨T - 1, by omega⟩
  rw [wyS_add]
  have e : wyS F 0 (1000000, 0) 1 = (F (0 + 0), 0 + 0) := wyS_y (n := 0) rfl hF
  have z := wyS_le (L := F) (a := 0 + 1) (b := wyS F 0 (1000000, 0) 1) t
  rw [e] at z ⊢
  exact Int.lt_of_le_of_lt z hF
theorem bs_cg {mm n : Nat} {mi mi' : Nat → Int32} (h : ∀ j : Nat, j < n → mi j = mi' j) : wyS (wyF mm n mi) 0 (1000000, 0) (mm ^ n) = wyS (wyF mm n mi') 0 (1000000, 0) (mm ^ n) :=
  wyS_cg (fun x => wyL_cg n (fun j hj => ⟨rfl, h j hj⟩)) _
/-- the reference's figure of a way -/
theorem wyD_of {w mm k r v1 v2 : Int32} {n e : Nat} (hw : 0 ≤ w.toInt) (hm : 1 ≤ mm.toInt) (h1 : v1 = w / r) (h2 : v2 = v1 - v1 / mm * mm) (hr : r.toInt = ((mm.toInt.toNat ^ e : Nat) : Int)) (he : n - 1 - k.toInt.toNat = e) : v2.toInt = ((wyD mm.toInt.toNat n w.toInt.toNat k.toInt.toNat : Nat) : Int) := by
  have hp : 0 < mm.toInt.toNat ^ e := Nat.pow_pos (by omega)
  obtain ⟨T, hT⟩ : ∃ T : Nat, T = mm.toInt.toNat ^ e := ⟨_, rfl⟩
  rw [← hT] at hp hr
  have a := z_divp h1 rfl hr hw (by omega)
  have a0 : 0 ≤ v1.toInt := by rw [a]; exact Int.ediv_nonneg hw (by omega)
  have b := z_remp h2 rfl rfl a0 (by omega)
  obtain ⟨W, hW⟩ : ∃ W : Nat, w.toInt = (W : Int) := ⟨w.toInt.toNat, (Int.toNat_of_nonneg hw).symm⟩
  obtain ⟨M, hM⟩ : ∃ M : Nat, mm.toInt = (M : Int) := ⟨mm.toInt.toNat, (Int.toNat_of_nonneg (by omega)).symm⟩
  show v2.toInt = ((w.toInt.toNat / mm.toInt.toNat ^ (n - 1 - k.toInt.toNat) % mm.toInt.toNat : Nat) : Int)
  rw [he, ← hT, b, a, hW, hM]
  first | rfl | simp [Int.natCast_emod, Int.natCast_ediv]
theorem wy_pw {a b c : Int32} {k k' : Nat} (h : c = a * b) (ha : a.toInt = ((b.toInt.toNat ^ k : Nat) : Int)) (hb : 1 ≤ b.toInt ∧ b.toInt ≤ 3) (hk' : k' = k + 1) (hk : k' ≤ 8) : c.toInt = ((b.toInt.toNat ^ k' : Nat) : Int) ∧ 1 ≤ c.toInt ∧ c.toInt ≤ 6561 := by
  have hp : 0 < b.toInt.toNat ^ k' := Nat.pow_pos (by omega)
  have hu : b.toInt.toNat ^ k' ≤ 6561 := Nat.le_trans (Nat.pow_le_pow_left (by omega : b.toInt.toNat ≤ 3) k') (Nat.le_trans (Nat.pow_le_pow_right (by decide) hk) (by decide))
  have e : ((b.toInt.toNat ^ k : Nat) : Int) * b.toInt = ((b.toInt.toNat ^ k' : Nat) : Int) := by
    obtain ⟨M, hM⟩ : ∃ M : Nat, b.toInt = (M : Int) := ⟨b.toInt.toNat, (Int.toNat_of_nonneg (by omega)).symm⟩
    rw [hk', hM, Nat.pow_succ]; rfl
  obtain ⟨T, hT⟩ : ∃ T : Nat, T = b.toInt.toNat ^ k' := ⟨_, rfl⟩
  rw [← hT] at hp hu e ⊢
  have z := z_mul h ha rfl (by rw [e]; omega) (by rw [e]; omega)
  rw [e] at z
  exact ⟨z, by omega, by omega⟩
theorem wyE_st {d : Nat → Nat} {mi w f : Nat → Int32} {k k' r : Nat} (hk : k' = k + 1) (hq : ∀ o : Nat, o < 3 → w o = wyE d mi o k) (hd : d k = r) (h1 : f r = w r + mi k) (h2 : ∀ j : Nat, j ≠ r → f j = w j) : ∀ o : Nat, o < 3 → f o = wyE d mi o k' := by
  intro o ho
  rw [hk]
  show f o = (if d k = o then wyE d mi o k + mi k else wyE d mi o k)
  rw [hd, ← hq o ho]
  by_cases e : r = o
  · rw [if_pos e, ← e]; exact h1
  · rw [if_neg e]; exact h2 o (fun z => e z.symm)
theorem wyL_st {d : Nat → Nat} {mi : Nat → Int32} {k k' : Nat} {la e la' : Int} (hk : k' = k + 1) (hq : la = wyL d mi k) (he : e = (wyE d mi (d k) k').toInt) (hl : (la < e ∧ la' = e) ∨ (e ≤ la ∧ la' = la)) : la' = wyL d mi k' := by
  rw [hk] at he ⊢
  show la' = (if wyL d mi k ≤ (wyE d mi (d k) (k + 1)).toInt then (wyE d mi (d k) (k + 1)).toInt else wyL d mi k)
  rw [← he, ← hq]
  by_cases z : la ≤ e
  · rw [if_pos z]; omega
  · rw [if_neg z]; omega
def wyA (F : Nat → Int) (w : Nat) (bw be : Int) : Prop := (w = 0 ∧ bw = -1) ∨ (1 ≤ w ∧ be = (wyS F 0 (1000000, 0) w).1 ∧ bw = (((wyS F 0 (1000000, 0) w).2 : Nat) : Int))
theorem wyA_st {F : Nat → Int} {w w' : Nat} {bw be bw' be' la : Int} (hs : w' = w + 1) (hA : wyA F w bw be) (hb : F 0 < 1000000) (hl : la = F w) (hc : ((bw < 0 ∨ la < be) ∧ be' = la ∧ bw' = (w : Int)) ∨ (¬ bw < 0 ∧ ¬ la < be ∧ be' = be ∧ bw' = bw)) : wyA F w' bw' be' := by
  refine Or.inr ⟨by omega, ?_⟩
  rcases hA with ⟨z1, z2⟩ | ⟨z1, z2, z3⟩
  · rcases hc with ⟨-, c2, c3⟩ | ⟨c1, -, -, -⟩
    · rw [z1] at hs hl c3
      rw [wyS_y (n := 0) hs hb]
      exact ⟨c2.trans hl, c3⟩
    · exact absurd (by omega : bw < 0) c1
  · have e : 0 + w = w := Nat.zero_add w
    rcases hc with ⟨c1, c2, c3⟩ | ⟨c1, c4, c2, c3⟩
    · have hlt : F (0 + w) < (wyS F 0 (1000000, 0) w).1 := by rw [e, ← hl, ← z2]; exact c1.resolve_left (by omega)
      rw [wyS_y hs hlt, e]
      exact ⟨c2.trans hl, c3⟩
    · have hge : ¬ F (0 + w) < (wyS F 0 (1000000, 0) w).1 := by rw [e, ← hl, ← z2]; exact c4
      rw [wyS_n hs hge]
      exact ⟨c2.trans z2, c3.trans z3⟩
theorem wyA_end {F : Nat → Int} {w T : Nat} {bw be : Int} (h : wyA F w bw be) (hw : w = T) (hT : 1 ≤ T) : be = (wyS F 0 (1000000, 0) T).1 ∧ bw = (((wyS F 0 (1000000, 0) T).2 : Nat) : Int) := by
  rcases h with ⟨z1, -⟩ | ⟨-, z2, z3⟩
  · omega
  · rw [← hw]; exact ⟨z2, z3⟩
