/-! ===== bk0 ===== -/

/-- a clause of rule r' strikes rule r -/
def St (cl : Nat → Int32) (P : Nat → Prop) (v : Nat → Int32) (r' r : Nat) : Prop := ∃ j : Nat, 12 * r' ≤ j ∧ (j : Int) < 12 * (r' : Int) + (cl r').toInt ∧ P j ∧ (v j).toInt = (r : Int)
/-- which rules count on a day -/
def OnR (n : Int) (on : Nat → Prop) (dy : Nat → Int32) (st : Nat → Nat → Prop) (D : Int) : Prop := ∀ r : Nat, (r : Int) < n → (on r ↔ (dy r).toInt ≤ D ∧ ¬ ∃ r' : Nat, r < r' ∧ (r' : Int) < n ∧ on r' ∧ st r' r)
theorem OnR_un {n : Int} {on on' : Nat → Prop} {dy dy' : Nat → Int32} {st st' : Nat → Nat → Prop} {D : Int} (hd : ∀ r : Nat, (r : Int) < n → dy r = dy' r) (hs : ∀ r' r : Nat, (r' : Int) < n → (r : Int) < n → (st r' r ↔ st' r' r)) (h : OnR n on dy st D) (k : OnR n on' dy' st' D) : ∀ r : Nat, (r : Int) < n → (on r ↔ on' r) := by
  have q : ∀ m r : Nat, n ≤ (r : Int) + (m : Int) → (r : Int) < n → (on r ↔ on' r) := by
    intro m
    induction m with
    | zero => intro r h1 h2; exfalso; omega
    | succ m ih =>
      intro r h1 h2
      have e : (∃ r' : Nat, r < r' ∧ (r' : Int) < n ∧ on r' ∧ st r' r) ↔ (∃ r' : Nat, r < r' ∧ (r' : Int) < n ∧ on' r' ∧ st' r' r) := by
        constructor
        · rintro ⟨r', a, b, c, d⟩
          exact ⟨r', a, b, (ih r' (by omega) b).mp c, (hs r' r b h2).mp d⟩
        · rintro ⟨r', a, b, c, d⟩
          exact ⟨r', a, b, (ih r' (by omega) b).mpr c, (hs r' r b h2).mpr d⟩
      rw [h r h2, k r h2, hd r h2, e]
  intro r hr
  exact q n.toNat r (by omega) hr
/-- downwards, one more rule -/
theorem OnR_step {n D : Int} {g g' dy : Nat → Int32} {st : Nat → Nat → Prop} {k : Nat} (h : ∀ r : Nat, k < r → (r : Int) < n → ((g r).toInt = 1 ↔ (dy r).toInt ≤ D ∧ ¬ ∃ r' : Nat, r < r' ∧ (r' : Int) < n ∧ (g r').toInt = 1 ∧ st r' r)) (hn : ∀ j : Nat, j ≠ k → g' j = g j) (hk : (g' k).toInt = 1 ↔ (dy k).toInt ≤ D ∧ ¬ ∃ r' : Nat, k < r' ∧ (r' : Int) < n ∧ (g r').toInt = 1 ∧ st r' k) : ∀ r : Nat, k ≤ r → (r : Int) < n → ((g' r).toInt = 1 ↔ (dy r).toInt ≤ D ∧ ¬ ∃ r' : Nat, r < r' ∧ (r' : Int) < n ∧ (g' r').toInt = 1 ∧ st r' r) := by
  intro r h1 h2
  have e : (∃ r' : Nat, r < r' ∧ (r' : Int) < n ∧ (g' r').toInt = 1 ∧ st r' r) ↔ (∃ r' : Nat, r < r' ∧ (r' : Int) < n ∧ (g r').toInt = 1 ∧ st r' r) := by
    constructor
    · rintro ⟨r', a, b, c, d⟩
      rw [hn r' (by omega)] at c
      exact ⟨r', a, b, c, d⟩
    · rintro ⟨r', a, b, c, d⟩
      rw [← hn r' (by omega)] at c
      exact ⟨r', a, b, c, d⟩
  rw [e]
  by_cases q : r = k
  · rw [q]; exact hk
  · rw [hn r q]; exact h r (by omega) h2
/-- the last of some places that is of a kind -/
def La (lo hi b : Int) (m : Nat → Prop) (R : Int) : Prop := (R = -1 ∧ ∀ j : Nat, lo ≤ (j : Int) → (j : Int) < hi → ¬ m j) ∨ ∃ j : Nat, lo ≤ (j : Int) ∧ (j : Int) < hi ∧ R = (j : Int) - b ∧ m j ∧ ∀ j' : Nat, j < j' → (j' : Int) < hi → ¬ m j'
theorem La_0 {lo b : Int} {m : Nat → Prop} : La lo lo b m (-1) := Or.inl ⟨rfl, fun j h1 h2 => absurd h1 (by omega)⟩
theorem La_y {lo hi hi' b R : Int} {m : Nat → Prop} {c : Nat} (h0 : lo ≤ hi) (hc : (c : Int) = hi) (h1 : hi' = hi + 1) (hm : m c) (hR : R = (c : Int) - b) : La lo hi' b m R := Or.inr ⟨c, by omega, by omega, hR, hm, fun j h2 h3 => absurd h2 (by omega)⟩
theorem La_n {lo hi hi' b R : Int} {m : Nat → Prop} {c : Nat} (hc : (c : Int) = hi) (h1 : hi' = hi + 1) (hm : ¬ m c) (h : La lo hi b m R) : La lo hi' b m R := by
  rcases h with ⟨a, q⟩ | ⟨j, a1, a2, a3, a4, a5⟩
  · refine Or.inl ⟨a, fun j h2 h3 => ?_⟩
    by_cases e : j = c
    · rw [e]; exact hm
    · exact q j h2 (by omega)
  · refine Or.inr ⟨j, a1, by omega, a3, a4, fun j' h2 h3 => ?_⟩
    by_cases e : j' = c
    · rw [e]; exact hm
    · exact a5 j' h2 (by omega)
/-- the clause that tells: of the rules below n that count, by days, then numbers; s its rule's day -/
def BestS (n : Nat) (on : Nat → Prop) (dy cl : Nat → Int32) (m : Nat → Prop) (val : Nat → Int) (d v s : Int) : Prop :=
  ((∀ r j : Nat, r < n → on r → 12 * r ≤ j → (j : Int) < 12 * (r : Int) + (cl r).toInt → ¬ m j) ∧ v = d ∧ s = -1) ∨
  ∃ r j : Nat, r < n ∧ on r ∧ 12 * r ≤ j ∧ (j : Int) < 12 * (r : Int) + (cl r).toInt ∧ m j ∧ v = val j ∧ s = (dy r).toInt ∧ (∀ j' : Nat, j < j' → (j' : Int) < 12 * (r : Int) + (cl r).toInt → ¬ m j') ∧ (∀ r' j' : Nat, r' < n → on r' → 12 * r' ≤ j' → (j' : Int) < 12 * (r' : Int) + (cl r').toInt → m j' → (dy r').toInt < (dy r).toInt ∨ ((dy r').toInt = (dy r).toInt ∧ r' ≤ r))
theorem BestS_0 {on : Nat → Prop} {dy cl : Nat → Int32} {m : Nat → Prop} {val : Nat → Int} {d : Int} : BestS 0 on dy cl m val d d (-1) := Or.inl ⟨fun r j h => absurd h (Nat.not_lt_zero r), rfl, rfl⟩
theorem BestS_n {n n' : Nat} {on : Nat → Prop} {dy cl : Nat → Int32} {m : Nat → Prop} {val : Nat → Int} {d v s : Int} (hn : n' = n + 1) (hq : ∀ j : Nat, on n → 12 * n ≤ j → (j : Int) < 12 * (n : Int) + (cl n).toInt → ¬ m j) (h : BestS n on dy cl m val d v s) : BestS n' on dy cl m val d v s := by
  subst hn
  rcases h with ⟨a, b, c⟩ | ⟨r, j, a1, a2, a3, a4, a5, a6, a7, a8, a9⟩
  · refine Or.inl ⟨fun r j h1 h2 h3 h4 => ?_, b, c⟩
    by_cases e : r = n
    · subst e; exact hq j h2 h3 h4
    · exact a r j (by omega) h2 h3 h4
  · refine Or.inr ⟨r, j, by omega, a2, a3, a4, a5, a6, a7, a8, fun r' j' h1 h2 h3 h4 h5 => ?_⟩
    by_cases e : r' = n
    · subst e; exact absurd h5 (hq j' h2 h3 h4)
    · exact a9 r' j' (by omega) h2 h3 h4 h5
theorem BestS_o {n n' : Nat} {on : Nat → Prop} {dy cl : Nat → Int32} {m : Nat → Prop} {val : Nat → Int} {d v s : Int} (hn : n' = n + 1) (h0 : 0 ≤ (dy n).toInt) (hs : (dy n).toInt < s) (h : BestS n on dy cl m val d v s) : BestS n' on dy cl m val d v s := by
  subst hn
  rcases h with ⟨a, b, c⟩ | ⟨r, j, a1, a2, a3, a4, a5, a6, a7, a8, a9⟩
  · omega
  · refine Or.inr ⟨r, j, by omega, a2, a3, a4, a5, a6, a7, a8, fun r' j' h1 h2 h3 h4 h5 => ?_⟩
    by_cases e : r' = n
    · subst e; exact Or.inl (by omega)
    · exact a9 r' j' (by omega) h2 h3 h4 h5
theorem BestS_y {n n' : Nat} {on : Nat → Prop} {dy cl : Nat → Int32} {m : Nat → Prop} {val : Nat → Int} {d v v' s s' : Int} {j : Nat} (hn : n' = n + 1) (ho : on n) (h1 : 12 * n ≤ j) (h2 : (j : Int) < 12 * (n : Int) + (cl n).toInt) (hm : m j) (hl : ∀ j' : Nat, j < j' → (j' : Int) < 12 * (n : Int) + (cl n).toInt → ¬ m j') (hs : s ≤ (dy n).toInt) (hv : v' = val j) (hs' : s' = (dy n).toInt) (h : BestS n on dy cl m val d v s) : BestS n' on dy cl m val d v' s' := by
  subst hn
  refine Or.inr ⟨n, j, by omega, ho, h1, h2, hm, hv, hs', hl, fun r' j' g1 g2 g3 g4 g5 => ?_⟩
  by_cases e : r' = n
  · subst e; exact Or.inr ⟨rfl, Nat.le_refl _⟩
  · rcases h with ⟨a, b, c⟩ | ⟨r, k, a1, a2, a3, a4, a5, a6, a7, a8, a9⟩
    · exact absurd g5 (a r' j' (by omega) g2 g3 g4)
    · have := a9 r' j' (by omega) g2 g3 g4 g5
      rcases this with z | ⟨z1, z2⟩
      · exact Or.inl (by omega)
      · by_cases y : (dy r').toInt < (dy n).toInt
        · exact Or.inl y
        · exact Or.inr ⟨by omega, by omega⟩
theorem BestS_un {n : Nat} {on on' : Nat → Prop} {dy dy' cl cl' : Nat → Int32} {m m' : Nat → Prop} {val val' : Nat → Int} {d v v' s s' : Int} (hon : ∀ r : Nat, r < n → (on r ↔ on' r)) (hd : ∀ r : Nat, r < n → dy r = dy' r ∧ cl r = cl' r) (hm : ∀ r j : Nat, r < n → 12 * r ≤ j → (j : Int) < 12 * (r : Int) + (cl r).toInt → (m j ↔ m' j) ∧ (m j → val j = val' j)) (hc : ∀ r : Nat, r < n → (cl r).toInt ≤ 12) (h : BestS n on dy cl m val d v s) (k : BestS n on' dy' cl' m' val' d v' s') : v = v' := by
  rcases h with ⟨a, b, c⟩ | ⟨r, j, a1, a2, a3, a4, a5, a6, a7, a8, a9⟩
  · rcases k with ⟨a', b', c'⟩ | ⟨r', j', c1, c2, c3, c4, c5, c6, c7, c8, c9⟩
    · rw [b, b']
    · rw [← (hd r' c1).2] at c4
      exact absurd ((hm r' j' c1 c3 c4).1.mpr c5) (a r' j' c1 ((hon r' c1).mpr c2) c3 c4)
  · rcases k with ⟨a', b', c'⟩ | ⟨r', j', c1, c2, c3, c4, c5, c6, c7, c8, c9⟩
    · have z := (hm r j a1 a3 a4).1.mp a5
      rw [(hd r a1).2] at a4
      exact absurd z (a' r j a1 ((hon r a1).mp a2) a3 a4)
    · have c4' : (j' : Int) < 12 * (r' : Int) + (cl r').toInt := by rw [(hd r' c1).2]; exact c4
      have a4' : (j : Int) < 12 * (r : Int) + (cl' r).toInt := by rw [← (hd r a1).2]; exact a4
      have m1 := (hm r' j' c1 c3 c4').1.mpr c5
      have m2 := (hm r j a1 a3 a4).1.mp a5
      have y1 := a9 r' j' c1 ((hon r' c1).mpr c2) c3 c4' m1
      have y2 := c9 r j a1 ((hon r a1).mp a2) a3 a4' m2
      rw [← (hd r a1).1, ← (hd r' c1).1] at y2
      have er : r = r' := by omega
      subst er
      have ej : j = j' := by
        rcases Nat.lt_trichotomy j j' with q | q | q
        · exact absurd m1 (a8 j' q c4')
        · exact q
        · exact absurd m2 (c8 j q a4')
      subst ej
      rw [a6, c6]; exact (hm r j a1 a3 a4).2 a5
/-- the reference's way: first all by days, then strikes from the last rule down -/
def Pa (n k : Int) (f dy : Nat → Int32) (st : Nat → Nat → Prop) (D : Int) : Prop := ∀ r : Nat, (r : Int) < n → ((f r).toInt = 1 ↔ (dy r).toInt ≤ D ∧ ¬ ∃ r' : Nat, r < r' ∧ k < (r' : Int) ∧ (r' : Int) < n ∧ (f r').toInt = 1 ∧ st r' r)
def Pb (n k : Int) (g f : Nat → Int32) (P : Nat → Prop) (v : Nat → Int32) (c : Int) : Prop := (∀ r : Nat, (r : Int) < n → ((f r).toInt = 1 ↔ (g r).toInt = 1 ∧ ¬ ((g k.toNat).toInt = 1 ∧ ∃ j : Nat, 12 * k ≤ (j : Int) ∧ (j : Int) < c ∧ P j ∧ (v j).toInt = (r : Int)))) ∧ (∀ r : Nat, k ≤ (r : Int) → f r = g r)
theorem Pa_0 {n D : Int} {f dy : Nat → Int32} {st : Nat → Nat → Prop} (h : ∀ r : Nat, (r : Int) < n → ((f r).toInt = 1 ↔ (dy r).toInt ≤ D)) : Pa n (n - 1) f dy st D := by
  intro r hr
  rw [h r hr]
  constructor
  · intro q
    refine ⟨q, ?_⟩
    rintro ⟨r', a, b, c, d⟩
    omega
  · exact fun q => q.1
theorem Pb_0 {n k : Int} {f : Nat → Int32} {P : Nat → Prop} {v : Nat → Int32} : Pb n k f f P v (12 * k) := by
  refine ⟨fun r hr => ⟨fun q => ⟨q, ?_⟩, fun q => q.1⟩, fun r hr => rfl⟩
  rintro ⟨a, j, b, c, d⟩
  omega
theorem Pb_n {n k c c' : Int} {g f : Nat → Int32} {P : Nat → Prop} {v : Nat → Int32} {j : Nat} (hj : (j : Int) = c) (hc : c' = c + 1) (hP : ¬ P j) (h : Pb n k g f P v c) : Pb n k g f P v c' := by
  refine ⟨fun r hr => ?_, h.2⟩
  rw [h.1 r hr]
  have e : (∃ j : Nat, 12 * k ≤ (j : Int) ∧ (j : Int) < c ∧ P j ∧ (v j).toInt = (r : Int)) ↔ (∃ j : Nat, 12 * k ≤ (j : Int) ∧ (j : Int) < c' ∧ P j ∧ (v j).toInt = (r : Int)) := by
    constructor
    · rintro ⟨i, a, b, d⟩
      exact ⟨i, a, by omega, d⟩
    · rintro ⟨i, a, b, d, d2⟩
      by_cases q : i = j
      · rw [q] at d; exact absurd d hP
      · exact ⟨i, a, by omega, d, d2⟩
  rw [e]
theorem Pb_y {n k c c' : Int} {g f f' : Nat → Int32} {P : Nat → Prop} {v : Nat → Int32} {j : Nat} (hj : (j : Int) = c) (hc : c' = c + 1) (h0 : 12 * k ≤ c) (hP : P j) (hk : (f k.toNat).toInt = 1) (hk0 : 0 ≤ k) (hv : 0 ≤ (v j).toInt ∧ (v j).toInt < k) (hf : ∀ r : Nat, r ≠ ((v j).toInt).toNat → f' r = f r) (hf0 : (f' ((v j).toInt).toNat).toInt = 0) (h : Pb n k g f P v c) : Pb n k g f' P v c' := by
  have hgk : (g k.toNat).toInt = 1 := by rw [← h.2 k.toNat (by omega)]; exact hk
  refine ⟨fun r hr => ?_, fun r hr => by rw [hf r (by omega)]; exact h.2 r hr⟩
  by_cases q : r = ((v j).toInt).toNat
  · constructor
    · intro z; rw [q] at z; omega
    · intro z
      exact absurd ⟨hgk, j, by omega, by omega, hP, by omega⟩ z.2
  · rw [hf r q, h.1 r hr]
    have e : (∃ j : Nat, 12 * k ≤ (j : Int) ∧ (j : Int) < c ∧ P j ∧ (v j).toInt = (r : Int)) ↔ (∃ j : Nat, 12 * k ≤ (j : Int) ∧ (j : Int) < c' ∧ P j ∧ (v j).toInt = (r : Int)) := by
      constructor
      · rintro ⟨i, a, b, d⟩
        exact ⟨i, a, by omega, d⟩
      · rintro ⟨i, a, b, d, d2⟩
        by_cases z : i = j
        · rw [z] at d2; omega
        · exact ⟨i, a, by omega, d, d2⟩
    rw [e]
theorem Pb_end {n k k' c D : Int} {g f dy cl : Nat → Int32} {P : Nat → Prop} {v : Nat → Int32} (hk0 : 0 ≤ k) (hkn : k < n) (hk' : k' = k - 1) (hdown : ∀ j : Nat, 12 * k ≤ (j : Int) → (j : Int) < 12 * k + (cl k.toNat).toInt → P j → (v j).toInt < k) (hc : c = 12 * k + (cl k.toNat).toInt ∨ ¬ (f k.toNat).toInt = 1) (hA : Pa n k g dy (St cl P v) D) (hB : Pb n k g f P v c) : Pa n k' f dy (St cl P v) D := by
  have hfk : f k.toNat = g k.toNat := hB.2 k.toNat (by omega)
  have hkk : ((k.toNat : Nat) : Int) = k := Int.toNat_of_nonneg hk0
  intro r hr
  rw [hB.1 r hr, hA r hr]
  have e : ((g k.toNat).toInt = 1 ∧ ∃ j : Nat, 12 * k ≤ (j : Int) ∧ (j : Int) < c ∧ P j ∧ (v j).toInt = (r : Int)) ↔ ((g k.toNat).toInt = 1 ∧ St cl P v k.toNat r) := by
    constructor
    · rintro ⟨a, j, b, d, e1, e2⟩
      rcases hc with hc | hc
      · exact ⟨a, j, by omega, by omega, e1, e2⟩
      · rw [hfk] at hc; exact absurd a hc
    · rintro ⟨a, j, b, d, e1, e2⟩
      rcases hc with hc | hc
      · exact ⟨a, j, by omega, by omega, e1, e2⟩
      · rw [hfk] at hc; exact absurd a hc
  rw [e]
  constructor
  · rintro ⟨⟨a, b⟩, d⟩
    refine ⟨a, ?_⟩
    rintro ⟨r', z1, z2, z3, z4, z5⟩
    by_cases q : (r' : Int) = k
    · have q2 : r' = k.toNat := by omega
      rw [q2] at z4 z5
      rw [hfk] at z4
      exact d ⟨z4, z5⟩
    · rw [hB.2 r' (by omega)] at z4
      exact b ⟨r', z1, by omega, z3, z4, z5⟩
  · rintro ⟨a, b⟩
    refine ⟨⟨a, ?_⟩, ?_⟩
    · rintro ⟨r', z1, z2, z3, z4, z5⟩
      rw [← hB.2 r' (by omega)] at z4
      exact b ⟨r', z1, by omega, z3, z4, z5⟩
    · rintro ⟨z4, z5⟩
      have z6 := z5
      obtain ⟨j, y1, y2, y3, y4⟩ := z6
      have := hdown j (by omega) (by omega) y3
      rw [← hfk] at z4
      exact b ⟨k.toNat, by omega, by omega, by omega, z4, z5⟩
theorem Pa_end {n k D : Int} {f dy : Nat → Int32} {st : Nat → Nat → Prop} (hk : k < 0) (h : Pa n k f dy st D) : OnR n (fun r => (f r).toInt = 1) dy st D := by
  intro r hr
  show (f r).toInt = 1 ↔ _
  rw [h r hr]
  constructor
  · rintro ⟨a, b⟩
    refine ⟨a, ?_⟩
    rintro ⟨r', z1, z2, z3, z4⟩
    exact b ⟨r', z1, by omega, z2, z3, z4⟩
  · rintro ⟨a, b⟩
    refine ⟨a, ?_⟩
    rintro ⟨r', z1, z2, z3, z4, z5⟩
    exact b ⟨r', z1, z3, z4, z5⟩
/-- the reference's order: the rules below k that count, by days, then numbers -/
def OrK (k : Int) (on : Nat → Prop) (dy o : Nat → Int32) (c : Int) : Prop := (∀ t : Nat, (t : Int) < c → 0 ≤ (o t).toInt ∧ (o t).toInt < k ∧ on ((o t).toInt).toNat) ∧ (∀ r : Nat, (r : Int) < k → on r → ∃ t : Nat, (t : Int) < c ∧ (o t).toInt = (r : Int)) ∧ (∀ t u : Nat, t < u → (u : Int) < c → (dy ((o t).toInt).toNat).toInt < (dy ((o u).toInt).toNat).toInt ∨ ((dy ((o t).toInt).toNat).toInt = (dy ((o u).toInt).toNat).toInt ∧ (o t).toInt < (o u).toInt))
def Shf (dy g f : Nat → Int32) (d i c : Int) : Prop := (∀ t : Nat, (t : Int) < i → f t = g t) ∧ (∀ t : Nat, i ≤ (t : Int) → (t : Int) < c → f (t + 1) = g t ∧ d < (dy ((g t).toInt).toNat).toInt)
theorem OrK_0 {on : Nat → Prop} {dy o : Nat → Int32} : OrK 0 on dy o 0 := ⟨fun t h => absurd h (by omega), fun r h => absurd h (by omega), fun t u h1 h2 => absurd h2 (by omega)⟩
theorem OrK_n {k k' c : Int} {on : Nat → Prop} {dy o : Nat → Int32} (hk : k' = k + 1) (h0 : 0 ≤ k) (hn : ¬ on k.toNat) (h : OrK k on dy o c) : OrK k' on dy o c := by
  refine ⟨fun t ht => ?_, fun r hr ho => ?_, h.2.2⟩
  · have q := h.1 t ht
    exact ⟨q.1, by omega, q.2.2⟩
  · by_cases e : (r : Int) = k
    · rw [show r = k.toNat from by omega] at ho; exact absurd ho hn
    · exact h.2.1 r (by omega) ho
theorem Shf_0 {dy g : Nat → Int32} {d c : Int} : Shf dy g g d c c := ⟨fun t h => rfl, fun t h1 h2 => absurd h1 (by omega)⟩
theorem Shf_s {dy g f f' : Nat → Int32} {d i i' c : Int} (h0 : 0 < i) (hi : i' = i - 1) (hic : i ≤ c) (hd : d < (dy ((f i'.toNat).toInt).toNat).toInt) (hf : ∀ t : Nat, t ≠ i.toNat → f' t = f t) (hf2 : f' i.toNat = f i'.toNat) (h : Shf dy g f d i c) : Shf dy g f' d i' c := by
  refine ⟨fun t ht => ?_, fun t h1 h2 => ?_⟩
  · rw [hf t (by omega)]; exact h.1 t (by omega)
  · by_cases e : (t : Int) = i'
    · have e2 : t + 1 = i.toNat := by omega
      have e3 : i'.toNat = t := by omega
      have e4 : f t = g t := h.1 t (by omega)
      rw [e3, e4] at hd
      rw [e2, hf2, e3]; exact ⟨e4, hd⟩
    · have q := h.2 t (by omega) h2
      rw [hf (t + 1) (by omega)]; exact q
theorem OrK_y {k k' i c c' : Int} {on : Nat → Prop} {dy g f f' : Nat → Int32} (hk : k' = k + 1) (h0 : 0 ≤ k) (hc : c' = c + 1) (hi : 0 ≤ i) (hic : i ≤ c) (ho : on k.toNat) (hf : ∀ t : Nat, t ≠ i.toNat → f' t = f t) (hf2 : (f' i.toNat).toInt = k) (hl : i = 0 ∨ (dy ((f (i - 1).toNat).toInt).toNat).toInt ≤ (dy k.toNat).toInt) (hS : Shf dy g f (dy k.toNat).toInt i c) (h : OrK k on dy g c) : OrK k' on dy f' c' := by
  obtain ⟨h1, h2, h3⟩ := h
  have lo : ∀ t : Nat, (t : Int) < i → f' t = g t := fun t ht => by rw [hf t (by omega)]; exact hS.1 t ht
  have up : ∀ t : Nat, i < (t : Int) → (t : Int) < c' → f' t = g (t - 1) ∧ (dy k.toNat).toInt < (dy ((g (t - 1)).toInt).toNat).toInt := by
    intro t ht1 ht2
    have q := hS.2 (t - 1) (by omega) (by omega)
    rw [show t - 1 + 1 = t from by omega] at q
    rw [hf t (by omega)]; exact q
  have at_ : ∀ t : Nat, (t : Int) = i → (f' t).toInt = k := fun t ht => by rw [show t = i.toNat from by omega]; exact hf2
  have le : ∀ t : Nat, (t : Int) < i → (dy ((g t).toInt).toNat).toInt ≤ (dy k.toNat).toInt := by
    intro t ht
    have hl2 : (dy ((f (i - 1).toNat).toInt).toNat).toInt ≤ (dy k.toNat).toInt := by omega
    rw [hS.1 (i - 1).toNat (by omega)] at hl2
    by_cases e : t = (i - 1).toNat
    · rw [e]; exact hl2
    · have := h3 t (i - 1).toNat (by omega) (by omega)
      omega
  refine ⟨fun t ht => ?_, fun r hr hor => ?_, fun t u htu hu => ?_⟩
  · by_cases a : (t : Int) < i
    · rw [lo t a]; have q := h1 t (by omega); exact ⟨q.1, by omega, q.2.2⟩
    · by_cases b : (t : Int) = i
      · rw [at_ t b]; exact ⟨h0, by omega, ho⟩
      · rw [(up t (by omega) ht).1]; have q := h1 (t - 1) (by omega); exact ⟨q.1, by omega, q.2.2⟩
  · by_cases e : (r : Int) = k
    · exact ⟨i.toNat, by omega, by rw [hf2, e]⟩
    · obtain ⟨t, ht, et⟩ := h2 r (by omega) hor
      by_cases a : (t : Int) < i
      · exact ⟨t, by omega, by rw [lo t a]; exact et⟩
      · refine ⟨t + 1, by omega, ?_⟩
        rw [(up (t + 1) (by omega) (by omega)).1]; exact et
  · by_cases a : (u : Int) < i
    · rw [lo t (by omega), lo u a]; exact h3 t u htu (by omega)
    · by_cases b : (u : Int) = i
      · rw [at_ u b, lo t (by omega)]
        have q := h1 t (by omega)
        have z := le t (by omega)
        omega
      · have y := up u (by omega) hu
        rw [y.1]
        by_cases c1 : (t : Int) < i
        · rw [lo t c1]; exact h3 t (u - 1) (by omega) (by omega)
        · by_cases c2 : (t : Int) = i
          · rw [at_ t c2]; exact Or.inl y.2
          · rw [(up t (by omega) (by omega)).1]; exact h3 (t - 1) (u - 1) (by omega) (by omega)
/-- the reference's search: the last clause of its order that is of a kind -/
def inC (cl o : Nat → Int32) (t j : Nat) : Prop := 12 * (o t).toInt ≤ (j : Int) ∧ (j : Int) < 12 * (o t).toInt + (cl ((o t).toInt).toNat).toInt
def SqO (cl o : Nat → Int32) (m : Nat → Prop) (val : Nat → Int) (d i v : Int) : Prop := ((∀ t j : Nat, (t : Int) < i → inC cl o t j → ¬ m j) ∧ v = d) ∨ ∃ t j : Nat, (t : Int) < i ∧ inC cl o t j ∧ m j ∧ v = val j ∧ (∀ j' : Nat, j < j' → inC cl o t j' → ¬ m j') ∧ (∀ t' j' : Nat, t < t' → (t' : Int) < i → inC cl o t' j' → ¬ m j')
def SqI (cl o : Nat → Int32) (m : Nat → Prop) (val : Nat → Int) (d i lo c v : Int) : Prop := ((∀ j : Nat, lo ≤ (j : Int) → (j : Int) < c → ¬ m j) ∧ SqO cl o m val d i v) ∨ ∃ j : Nat, lo ≤ (j : Int) ∧ (j : Int) < c ∧ m j ∧ v = val j ∧ ∀ j' : Nat, j < j' → (j' : Int) < c → ¬ m j'
theorem SqO_0 {cl o : Nat → Int32} {m : Nat → Prop} {val : Nat → Int} {d : Int} : SqO cl o m val d 0 d := Or.inl ⟨fun t j h => absurd h (by omega), rfl⟩
theorem SqI_0 {cl o : Nat → Int32} {m : Nat → Prop} {val : Nat → Int} {d i lo v : Int} (h : SqO cl o m val d i v) : SqI cl o m val d i lo lo v := Or.inl ⟨fun j h1 h2 => absurd h1 (by omega), h⟩
theorem SqI_y {cl o : Nat → Int32} {m : Nat → Prop} {val : Nat → Int} {d i lo c c' v : Int} {j : Nat} (hj : (j : Int) = c) (h0 : lo ≤ c) (hc : c' = c + 1) (hm : m j) (hv : v = val j) : SqI cl o m val d i lo c' v := Or.inr ⟨j, by omega, by omega, hm, hv, fun j' h1 h2 => absurd h1 (by omega)⟩
theorem SqI_n {cl o : Nat → Int32} {m : Nat → Prop} {val : Nat → Int} {d i lo c c' v : Int} {j : Nat} (hj : (j : Int) = c) (hc : c' = c + 1) (hm : ¬ m j) (h : SqI cl o m val d i lo c v) : SqI cl o m val d i lo c' v := by
  rcases h with ⟨a, b⟩ | ⟨k, a1, a2, a3, a4, a5⟩
  · refine Or.inl ⟨fun k h1 h2 => ?_, b⟩
    by_cases e : k = j
    · rw [e]; exact hm
    · exact a k h1 (by omega)
  · refine Or.inr ⟨k, a1, by omega, a3, a4, fun k' h1 h2 => ?_⟩
    by_cases e : k' = j
    · rw [e]; exact hm
    · exact a5 k' h1 (by omega)
theorem SqI_end {cl o : Nat → Int32} {m : Nat → Prop} {val : Nat → Int} {d i i' lo c v : Int} (h0 : 0 ≤ i) (hi : i' = i + 1) (hlo : lo = 12 * (o i.toNat).toInt) (hc : c = 12 * (o i.toNat).toInt + (cl ((o i.toNat).toInt).toNat).toInt) (h : SqI cl o m val d i lo c v) : SqO cl o m val d i' v := by
  rcases h with ⟨a, b⟩ | ⟨k, a1, a2, a3, a4, a5⟩
  · have no : ∀ t j : Nat, (t : Int) = i → inC cl o t j → ¬ m j := by
      intro t j ht hj
      rw [show t = i.toNat from by omega] at hj
      exact a j (by rw [hlo]; exact hj.1) (by rw [hc]; exact hj.2)
    rcases b with ⟨b1, b2⟩ | ⟨t, j, b1, b2, b3, b4, b5, b6⟩
    · refine Or.inl ⟨fun t j h1 h2 => ?_, b2⟩
      by_cases e : (t : Int) = i
      · exact no t j e h2
      · exact b1 t j (by omega) h2
    · refine Or.inr ⟨t, j, by omega, b2, b3, b4, b5, fun t' j' h1 h2 h3 => ?_⟩
      by_cases e : (t' : Int) = i
      · exact no t' j' e h3
      · exact b6 t' j' h1 (by omega) h3
  · refine Or.inr ⟨i.toNat, k, by omega, ⟨by omega, by omega⟩, a3, a4, fun j' h1 h2 => a5 j' h1 (by have := h2.2; omega), fun t' j' h1 h2 => absurd h2 (by omega)⟩
theorem SqO_Best {n c d v : Int} {on : Nat → Prop} {dy cl o : Nat → Int32} {m : Nat → Prop} {val : Nat → Int} (hn : 0 ≤ n) (hO : OrK n on dy o c) (h : SqO cl o m val d c v) : ∃ s : Int, BestS n.toNat on dy cl m val d v s := by
  obtain ⟨o1, o2, o3⟩ := hO
  rcases h with ⟨a, b⟩ | ⟨t, j, a1, a2, a3, a4, a5, a6⟩
  · refine ⟨-1, Or.inl ⟨fun r j h1 h2 h3 h4 => ?_, b, rfl⟩⟩
    obtain ⟨t, ht, et⟩ := o2 r (by omega) h2
    exact a t j ht ⟨by omega, by rw [et, Int.toNat_natCast]; exact h4⟩
  · have q := o1 t a1
    have et : (((o t).toInt.toNat : Nat) : Int) = (o t).toInt := Int.toNat_of_nonneg q.1
    have a22 := a2.2
    have a21 := a2.1
    refine ⟨(dy ((o t).toInt).toNat).toInt, Or.inr ⟨((o t).toInt).toNat, j, by omega, q.2.2, by omega, by omega, a3, a4, rfl, fun j' h1 h2 => a5 j' h1 ⟨by omega, by omega⟩, fun r' j' h1 h2 h3 h4 h5 => ?_⟩⟩
    obtain ⟨u, hu, eu⟩ := o2 r' (by omega) h2
    have er : ((o u).toInt).toNat = r' := by rw [eu]; exact Int.toNat_natCast r'
    rcases Nat.lt_trichotomy u t with z | z | z
    · have y := o3 u t z a1
      rw [er] at y
      omega
    · rw [← z, er]; exact Or.inr ⟨rfl, Nat.le_refl _⟩
    · exact absurd h5 (a6 u j' z hu ⟨by omega, by rw [er, eu]; exact h4⟩)
