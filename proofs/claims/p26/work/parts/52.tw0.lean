/-! ===== tw0 ===== -/

/-- how many of the first n are of a kind -/
def ct (c : Int → Bool) (f : Nat → Int) : Nat → Nat
  | 0 => 0
  | n + 1 => ct c f n + (if c (f n) = true then 1 else 0)
theorem ct_cg {c : Int → Bool} {f g : Nat → Int} : ∀ n : Nat, (∀ j : Nat, j < n → f j = g j) → ct c f n = ct c g n
  | 0, _ => rfl
  | n + 1, h => by
    show ct c f n + _ = ct c g n + _
    rw [ct_cg n (fun j hj => h j (Nat.lt_succ_of_lt hj)), h n (Nat.lt_succ_self n)]
theorem ct_le {c : Int → Bool} {f : Nat → Int} : ∀ n : Nat, ct c f n ≤ n
  | 0 => Nat.le_refl _
  | n + 1 => by
    have := ct_le (c := c) (f := f) n
    show ct c f n + (if c (f n) = true then 1 else 0) ≤ n + 1
    split <;> omega
theorem ct_mono {c : Int → Bool} {f : Nat → Int} {m : Nat} : ∀ n : Nat, m ≤ n → ct c f m ≤ ct c f n
  | 0, h => by rw [Nat.le_zero.mp h]; exact Nat.le_refl _
  | n + 1, h => by
    by_cases e : m = n + 1
    · rw [e]; exact Nat.le_refl _
    · exact Nat.le_trans (ct_mono n (by omega)) (Nat.le_add_right _ _)
theorem ct_imp {c d : Int → Bool} {f : Nat → Int} (h : ∀ x : Int, c x = true → d x = true) : ∀ n : Nat, ct c f n ≤ ct d f n
  | 0 => Nat.le_refl _
  | n + 1 => by
    have q := ct_imp (f := f) h n
    show ct c f n + (if c (f n) = true then 1 else 0) ≤ ct d f n + (if d (f n) = true then 1 else 0)
    by_cases e : c (f n) = true
    · rw [if_pos e, if_pos (h _ e)]; omega
    · rw [if_neg e]; omega
/-- none of a kind from m on -/
theorem ct_none {c : Int → Bool} {f : Nat → Int} {m : Nat} : ∀ n : Nat, m ≤ n → (∀ j : Nat, m ≤ j → j < n → ¬ c (f j) = true) → ct c f n = ct c f m
  | 0, h, _ => by rw [Nat.le_zero.mp h]
  | n + 1, h, q => by
    by_cases e : m = n + 1
    · rw [e]
    · show ct c f n + (if c (f n) = true then 1 else 0) = _
      rw [if_neg (q n (by omega) (by omega)), ct_none n (by omega) (fun j h1 h2 => q j h1 (by omega))]; rfl
/-- all of a kind -/
theorem ct_all {c : Int → Bool} {f : Nat → Int} : ∀ n : Nat, (∀ j : Nat, j < n → c (f j) = true) → ct c f n = n
  | 0, _ => rfl
  | n + 1, q => by
    show ct c f n + (if c (f n) = true then 1 else 0) = _
    rw [if_pos (q n (by omega)), ct_all n (fun j h => q j (by omega))]
def lt_ (v x : Int) : Bool := decide (x < v)
def eq_ (v x : Int) : Bool := decide (x = v)
def le_ (v x : Int) : Bool := decide (x ≤ v)
theorem ct_sum {v : Int} {f : Nat → Int} : ∀ n : Nat, ct (le_ v) f n = ct (lt_ v) f n + ct (eq_ v) f n
  | 0 => rfl
  | n + 1 => by
    have q := ct_sum (v := v) (f := f) n
    show ct (le_ v) f n + (if decide (f n ≤ v) = true then 1 else 0) = ct (lt_ v) f n + (if decide (f n < v) = true then 1 else 0) + (ct (eq_ v) f n + (if decide (f n = v) = true then 1 else 0))
    rcases Int.lt_trichotomy (f n) v with h | h | h
    · rw [if_pos (decide_eq_true (by omega)), if_pos (decide_eq_true h), if_neg (by rw [decide_eq_true_eq]; omega)]; omega
    · rw [if_pos (decide_eq_true (by omega)), if_neg (by rw [decide_eq_true_eq]; omega), if_pos (decide_eq_true h)]; omega
    · rw [if_neg (by rw [decide_eq_true_eq]; omega), if_neg (by rw [decide_eq_true_eq]; omega), if_neg (by rw [decide_eq_true_eq]; omega)]; omega
/-- the t-th of a kind -/
theorem ct_at {v : Int} {f : Nat → Int} {t : Nat} : ∀ n : Nat, t < ct (eq_ v) f n → ∃ i : Nat, i < n ∧ f i = v ∧ ct (eq_ v) f i = t
  | 0, h => absurd h (Nat.not_lt_zero t)
  | n + 1, h => by
    by_cases e : t < ct (eq_ v) f n
    · obtain ⟨i, h1, h2⟩ := ct_at n e
      exact ⟨i, by omega, h2⟩
    · have h : t < ct (eq_ v) f n + (if decide (f n = v) = true then 1 else 0) := h
      by_cases q : f n = v
      · rw [if_pos (decide_eq_true q)] at h
        exact ⟨n, by omega, q, by omega⟩
      · rw [if_neg (by rw [decide_eq_true_eq]; exact q)] at h
        omega
/-- how many stand ahead of the i-th, of value v -/
def rk (f : Nat → Int) (v : Int) (i : Nat) : Nat → Nat
  | 0 => 0
  | n + 1 => rk f v i n + (if f n < v ∨ (f n = v ∧ n < i) then 1 else 0)
theorem rk_y {f : Nat → Int} {v : Int} {i n n' : Nat} (h : n' = n + 1) (hc : f n < v ∨ (f n = v ∧ n < i)) : rk f v i n' = rk f v i n + 1 := by
  rw [h]; show rk f v i n + (if _ then 1 else 0) = _; rw [if_pos hc]
theorem rk_n {f : Nat → Int} {v : Int} {i n n' : Nat} (h : n' = n + 1) (hc : ¬ (f n < v ∨ (f n = v ∧ n < i))) : rk f v i n' = rk f v i n := by
  rw [h]; show rk f v i n + (if _ then 1 else 0) = _; rw [if_neg hc]; rfl
theorem rk_ct {f : Nat → Int} {v : Int} {i : Nat} : ∀ n : Nat, rk f v i n = ct (lt_ v) f n + ct (eq_ v) f (min i n)
  | 0 => by rw [Nat.min_zero]; rfl
  | n + 1 => by
    have q := rk_ct (f := f) (v := v) (i := i) n
    have l1 : ct (lt_ v) f (n + 1) = ct (lt_ v) f n + (if decide (f n < v) = true then 1 else 0) := rfl
    by_cases hi : n < i
    · have m1 : min i (n + 1) = n + 1 := by omega
      have m2 : min i n = n := by omega
      have l2 : ct (eq_ v) f (n + 1) = ct (eq_ v) f n + (if decide (f n = v) = true then 1 else 0) := rfl
      rw [m2] at q
      rw [m1, l1, l2]
      rcases Int.lt_trichotomy (f n) v with h | h | h
      · rw [rk_y rfl (Or.inl h), if_pos (decide_eq_true h), if_neg (by rw [decide_eq_true_eq]; omega)]; omega
      · rw [rk_y rfl (Or.inr ⟨h, hi⟩), if_neg (by rw [decide_eq_true_eq]; omega), if_pos (decide_eq_true h)]; omega
      · rw [rk_n rfl (by omega), if_neg (by rw [decide_eq_true_eq]; omega), if_neg (by rw [decide_eq_true_eq]; omega)]; omega
    · have m1 : min i (n + 1) = i := by omega
      have m2 : min i n = i := by omega
      rw [m2] at q
      rw [m1, l1]
      by_cases h : f n < v
      · rw [rk_y rfl (Or.inl h), if_pos (decide_eq_true h)]; omega
      · rw [rk_n rfl (by omega), if_neg (by rw [decide_eq_true_eq]; omega)]; omega
/-- a value is set into its place in a row that rises -/
def Ins (f g : Nat → Int32) (s n : Nat) (a : Int) : Prop := ∃ p : Nat, p ≤ n ∧ (∀ j : Nat, j < p → g (s + j) = f (s + j)) ∧ (g (s + p)).toInt = a ∧ (∀ j : Nat, p ≤ j → j < n → g (s + j + 1) = f (s + j) ∧ a < (f (s + j)).toInt) ∧ (p = 0 ∨ (f (s + p - 1)).toInt ≤ a) ∧ (∀ j : Nat, (j < s ∨ s + n < j) → g j = f j)
theorem Ins_ct {f g : Nat → Int32} {s n : Nat} {a : Int} (h : Ins f g s n a) (c : Int → Bool) : ct c (fun i => (g (s + i)).toInt) (n + 1) = ct c (fun i => (f (s + i)).toInt) n + (if c a = true then 1 else 0) := by
  obtain ⟨p, h1, h2, h3, h4, -, -⟩ := h
  have q : ∀ k : Nat, p ≤ k → k ≤ n → ct c (fun i => (g (s + i)).toInt) (k + 1) = ct c (fun i => (f (s + i)).toInt) k + (if c a = true then 1 else 0) := by
    intro k
    induction k with
    | zero =>
      intro hp _
      have e : p = 0 := by omega
      subst e
      show 0 + (if c ((g (s + 0)).toInt) = true then 1 else 0) = 0 + _
      rw [h3]
    | succ k ih =>
      intro hp hk
      by_cases e : p = k + 1
      · subst e
        show ct c (fun i => (g (s + i)).toInt) (k + 1) + (if c ((g (s + (k + 1))).toInt) = true then 1 else 0) = _
        rw [h3, ct_cg (k + 1) (fun j hj => by show (g (s + j)).toInt = (f (s + j)).toInt; rw [h2 j hj])]
      · have r := ih (by omega) (by omega)
        have z := (h4 k (by omega) (by omega)).1
        show ct c (fun i => (g (s + i)).toInt) (k + 1) + (if c ((g (s + (k + 1))).toInt) = true then 1 else 0) = ct c (fun i => (f (s + i)).toInt) k + (if c ((f (s + k)).toInt) = true then 1 else 0) + _
        rw [r, show s + (k + 1) = s + k + 1 from rfl, z]; omega
  exact q n h1 (Nat.le_refl n)
theorem Ins_up {f g : Nat → Int32} {s n : Nat} {a : Int} (h : Ins f g s n a) (hs : ∀ i : Nat, i + 1 < n → (f (s + i)).toInt ≤ (f (s + (i + 1))).toInt) : ∀ i : Nat, i + 1 < n + 1 → (g (s + i)).toInt ≤ (g (s + (i + 1))).toInt := by
  obtain ⟨p, h1, h2, h3, h4, h5, -⟩ := h
  intro i hi
  by_cases c1 : i + 1 < p
  · rw [h2 i (by omega), h2 (i + 1) c1]; exact hs i (by omega)
  · by_cases c2 : i + 1 = p
    · have z : (f (s + p - 1)).toInt ≤ a := by omega
      rw [c2, h3, h2 i (by omega), show s + i = s + p - 1 from by omega]; exact z
    · have z := h4 i (by omega) (by omega)
      rw [show s + (i + 1) = s + i + 1 from rfl, z.1]
      by_cases c3 : i = p
      · rw [c3, h3]; rw [c3] at z; omega
      · have y := (h4 (i - 1) (by omega) (by omega)).1
        rw [show s + (i - 1) + 1 = s + i from by omega] at y
        rw [y]
        have w := hs (i - 1) (by omega)
        rw [show s + (i - 1 + 1) = s + i from by omega] at w
        exact w
/-- the middle one is the same -/
theorem tw_un {X M : Nat → Int} {n : Nat} {r : Int} (hn : 0 < n) (hs : ∀ i : Nat, i + 1 < n → X i ≤ X (i + 1)) (hc : ∀ c : Int → Bool, ct c X n = ct c M n) (h : (∃ i : Nat, i < n ∧ r = M i ∧ rk M (M i) i n = (n - 1) / 2) ∨ (r = -1 ∧ ∀ i : Nat, i < n → rk M (M i) i n ≠ (n - 1) / 2)) : r = X ((n - 1) / 2) := by
  obtain ⟨m, hm⟩ : ∃ m : Nat, m = (n - 1) / 2 := ⟨_, rfl⟩
  have hmn : m < n := by omega
  rw [← hm] at h ⊢
  have up : ∀ k i : Nat, i + k < n → X i ≤ X (i + k) := by
    intro k
    induction k with
    | zero => intro i _; exact Int.le_refl _
    | succ k ih =>
      intro i hi
      have a := ih i (by omega)
      have b := hs (i + k) (by omega)
      rw [show i + k + 1 = i + (k + 1) from rfl] at b
      omega
  have A1 : ct (lt_ (X m)) X n ≤ m := by
    rw [ct_none (m := m) n (by omega) (fun j h1 h2 => by
      have := up (j - m) m (by omega)
      rw [show m + (j - m) = j from by omega] at this
      show ¬ decide (X j < X m) = true
      rw [decide_eq_true_eq]; omega)]
    exact ct_le m
  have A2 : m < ct (le_ (X m)) X n := by
    have q := ct_all (c := le_ (X m)) (f := X) (m + 1) (fun j hj => by
      have := up (m - j) j (by omega)
      rw [show j + (m - j) = m from by omega] at this
      exact decide_eq_true this)
    have z := ct_mono (c := le_ (X m)) (f := X) (m := m + 1) n (by omega)
    omega
  have S := ct_sum (v := X m) (f := M) n
  rw [hc] at A1 A2
  rcases h with ⟨i, hi, hr, hk⟩ | ⟨-, hk⟩
  · rw [rk_ct, Nat.min_eq_left (by omega)] at hk
    have B : ct (eq_ (M i)) M i + 1 ≤ ct (eq_ (M i)) M n := by
      have e : ct (eq_ (M i)) M (i + 1) = ct (eq_ (M i)) M i + (if decide (M i = M i) = true then 1 else 0) := rfl
      rw [if_pos (decide_eq_true rfl)] at e
      have z := ct_mono (c := eq_ (M i)) (f := M) (m := i + 1) n (by omega)
      omega
    have S2 := ct_sum (v := M i) (f := M) n
    rcases Int.lt_trichotomy (M i) (X m) with q | q | q
    · have z := ct_imp (c := le_ (M i)) (d := lt_ (X m)) (f := M) (fun x hx => decide_eq_true (by have := of_decide_eq_true hx; omega)) n
      omega
    · omega
    · have z := ct_imp (c := le_ (X m)) (d := lt_ (M i)) (f := M) (fun x hx => decide_eq_true (by have := of_decide_eq_true hx; omega)) n
      omega
  · obtain ⟨i, h1, h2, h3⟩ := ct_at (v := X m) (f := M) (t := m - ct (lt_ (X m)) M n) n (by omega)
    exfalso
    apply hk i h1
    rw [rk_ct, Nat.min_eq_left (by omega), h2, h3]; omega
/-- both sides' turns: as many of each kind, and the class's in rising order -/
def TwE (cx fx fy : Nat → Int32) : Prop := ∀ b : Nat, b < 10 → (∀ c : Int → Bool, ct c (fun i => (fx (8 * b + i)).toInt) ((cx b).toInt).toNat = ct c (fun i => (fy (8 * b + i)).toInt) ((cx b).toInt).toNat) ∧ (∀ i : Nat, i + 1 < ((cx b).toInt).toNat → (fx (8 * b + i)).toInt ≤ (fx (8 * b + (i + 1))).toInt)
theorem TwE_add {cx cx' fx gx fy gy : Nat → Int32} {b : Nat} {a : Int32} (hT : TwE cx fx fy) (hc : ∀ j : Nat, (cx j).toInt ≤ 8) (hI : Ins fx gx (8 * b) ((cx b).toInt).toNat a.toInt) (hn : 0 ≤ (cx b).toInt ∧ (cx b).toInt ≤ 7) (hy : ∀ j : Nat, j ≠ 8 * b + ((cx b).toInt).toNat → gy j = fy j) (hy2 : gy (8 * b + ((cx b).toInt).toNat) = a) (h1 : (cx' b).toInt = (cx b).toInt + 1) (h2 : ∀ j : Nat, j ≠ b → cx' j = cx j) : TwE cx' gx gy := by
  intro b' hb'
  by_cases e : b' = b
  · subst e
    have en : ((cx' b').toInt).toNat = ((cx b').toInt).toNat + 1 := by omega
    rw [en]
    refine ⟨fun c => ?_, Ins_up hI (hT b' hb').2⟩
    rw [Ins_ct hI c, (hT b' hb').1 c]
    show _ = ct c (fun i => (gy (8 * b' + i)).toInt) ((cx b').toInt).toNat + (if c ((gy (8 * b' + ((cx b').toInt).toNat)).toInt) = true then 1 else 0)
    rw [hy2, ct_cg _ (fun j hj => by show (fy (8 * b' + j)).toInt = (gy (8 * b' + j)).toInt; rw [hy (8 * b' + j) (by omega)])]
  · have q := hc b'
    have q1 := hc b
    obtain ⟨p, -, -, -, -, -, h6⟩ := hI
    rw [h2 b' e]
    have ex : ∀ i : Nat, i < ((cx b').toInt).toNat → gx (8 * b' + i) = fx (8 * b' + i) := fun i hi => h6 _ (by omega)
    have ey : ∀ i : Nat, i < ((cx b').toInt).toNat → gy (8 * b' + i) = fy (8 * b' + i) := fun i hi => hy _ (by omega)
    refine ⟨fun c => ?_, fun i hi => ?_⟩
    · rw [ct_cg _ (fun j hj => by show (gx (8 * b' + j)).toInt = (fx (8 * b' + j)).toInt; rw [ex j hj]), (hT b' hb').1 c]
      exact ct_cg _ (fun j hj => by show (fy (8 * b' + j)).toInt = (gy (8 * b' + j)).toInt; rw [ey j hj])
    · rw [ex i (by omega), ex (i + 1) hi]; exact (hT b' hb').2 i hi
