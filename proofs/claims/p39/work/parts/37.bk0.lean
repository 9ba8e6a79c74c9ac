/-! ===== bk0 ===== -/

/-- a clause of rule r' strikes rule r -/
def St (cl : Nat → Int32) (P : Nat → Prop) (v : Nat → Int32) (r' r : Nat) : Prop := ∃ j : Nat, 12 * r' ≤ j ∧ (j : Int) < 12 * (r' : Int) + (cl r').toInt ∧ P j ∧ (v j).toInt = (r : Int)
/-- which rules count on a day -/
def OnR (n : Int) (on : Nat → Prop) (dy : Nat → Int32) (st : Nat → Nat → Prop) (D : Int) : Prop := ∀ r : Nat, (r : Int) < n → (on r ↔ (dy r).toInt ≤ D ∧ ¬ ∃ r' : Nat, r < r' ∧ (r' : Int) < n ∧ on r' ∧ st r' r)
theorem OnR_un {n : Int} {on on' : Nat → Prop} {dy dy' : Nat → Int32} {st st' : Nat → Nat → Prop} {D : Int} (hd : ∀ r : Nat, (r : Int) < n → dy r = dy' r) (hs : ∀ r' r : Nat, (r' : Int) < n → (r : Int) < n → (st r' r ↔ st' r' r)) (h : OnR n on dy st D) (k : OnR n on' dy' st' D) : ∀ r : Nat, (r : Int) < n → (on r ↔ on' r) := by
  have q : ∀ m r : Nat, n ≤ (r : Int) + (m : Int) → (r : Int) < n → (on r ↔ on' r) := by
    intro m
    induction m with
    | zero => intro r h1 h2; exfalso; omega
    | succ m ih =>
      intro r h1 h2
      have e : (∃ r' : Nat, r < r' ∧ (r' : Int) < n ∧ on r' ∧ st r' r) ↔ (∃ r' : Nat, r < r' ∧ (r' : Int) < n ∧ on' r' ∧ st' r' r) := by
        constructor
        · rintro ⟨r', a, b, c, d⟩
          exact ⟨r', a, b, (ih r' (by omega) b).mp c, (hs r' r b h2).mp d⟩
        · rintro ⟨r', a, b, c, d⟩
          exact ⟨r', a, b, (ih r' (by omega) b).mpr c, (hs r' r b h2).mpr d⟩
      rw [h r h2, k r h2, hd r h2, e]
  intro r hr
  exact q n.toNat r (by omega) hr
/-- downwards, one more rule -/
theorem OnR_step {n D : Int} {g g' dy : Nat → Int32} {st : Nat → Nat → Prop} {k : Nat} (h : ∀ r : Nat, k < r → (r : Int) < n → ((g r).toInt = 1 ↔ (dy r).toInt ≤ D ∧ ¬ ∃ r' : Nat, r < r' ∧ (r' : Int) < n ∧ (g r').toInt = 1 ∧ st r' r)) (hn : ∀ j : Nat, j ≠ k → g' j = g j) (hk : (g' k).toInt = 1 ↔ (dy k).toInt ≤ D ∧ ¬ ∃ r' : Nat, k < r' ∧ (r' : Int) < n ∧ (g r').toInt = 1 ∧ st r' k) : ∀ r : Nat, k ≤ r → (r : Int) < n → ((g' r).toInt = 1 ↔ (dy r).toInt ≤ D ∧ ¬ ∃ r' : Nat, r < r' ∧ (r' : Int) < n ∧ (g' r').toInt = 1 ∧ st r' r) := by
  intro r h1 h2
  have e : (∃ r' : Nat, r < r' ∧ (r' : Int) < n ∧ (g' r').toInt = 1 ∧ st r' r) ↔ (∃ r' : Nat, r < r' ∧ (r' : Int) < n ∧ (g r').toInt = 1 ∧ st r' r) := by
    constructor
    · rintro ⟨r', a, b, c, d⟩
      rw [hn r' (by omega)] at c
      exact ⟨r', a, b, c, d⟩
    · rintro ⟨r', a, b, c, d⟩
      rw [← hn r' (by omega)] at c
      exact ⟨r', a, b, c, d⟩
  rw [e]
  by_cases q : r = k
  · rw [q]; exact hk
  · rw [hn r q]; exact h r (by omega) h2
/-- the last of some places that is of a kind -/
def La (lo hi b : Int) (m : Nat → Prop) (R : Int) : Prop := (R = -1 ∧ ∀ j : Nat, lo ≤ (j : Int) → (j : Int) < hi → ¬ m j) ∨ ∃ j : Nat, lo ≤ (j : Int) ∧ (j : Int) < hi ∧ R = (j : Int) - b ∧ m j ∧ ∀ j' : Nat, j < j' → (j' : Int) < hi → ¬ m j'
theorem La_0 {lo b : Int} {m : Nat → Prop} : La lo lo b m (-1) := Or.inl ⟨rfl, fun j h1 h2 => absurd h1 (by omega)⟩
theorem La_y {lo hi hi' b R : Int} {m : Nat → Prop} {c : Nat} (h0 : lo ≤ hi) (hc : (c : Int) = hi) (h1 : hi' = hi + 1) (hm : m c) (hR : R = (c : Int) - b) : La lo hi' b m R := Or.inr ⟨c, by omega, by omega, hR, hm, fun j h2 h3 => absurd h2 (by omega)⟩
theorem La_n {lo hi hi' b R : Int} {m : Nat → Prop} {c : Nat} (hc : (c : Int) = hi) (h1 : hi' = hi + 1) (hm : ¬ m c) (h : La lo hi b m R) : La lo hi' b m R := by
  rcases h with ⟨a, q⟩ | ⟨j, a1, a2, a3, a4, a5⟩
  · refine Or.inl ⟨a, fun j h2 h3 => ?_⟩
    by_cases e : j = c
    · rw [e]; exact hm
    · exact q j h2 (by omega)
  · refine Or.inr ⟨j, a1, by omega, a3, a4, fun j' h2 h3 => ?_⟩
    by_cases e : j' = c
    · rw [e]; exact hm
    · exact a5 j' h2 (by omega)
/-- the clause that tells: of the rules below n that count, by days, then numbers; s its rule's day -/
def BestS (n : Nat) (on : Nat → Prop) (dy cl : Nat → Int32) (m : Nat → Prop) (val : Nat → Int) (d v s : Int) : Prop :=
  ((∀ r j : Nat, r < n → on r → 12 * r ≤ j → (j : Int) < 12 * (r : Int) + (cl r).toInt → ¬ m j) ∧ v = d ∧ s = -1) ∨
  ∃ r j : Nat, r < n ∧ on r ∧ 12 * r ≤ j ∧ (j : Int) < 12 * (r : Int) + (cl r).toInt ∧ m j ∧ v = val j ∧ s = (dy r).toInt ∧ (∀ j' : Nat, j < j' → (j' : Int) < 12 * (r : Int) + (cl r).toInt → ¬ m j') ∧ (∀ r' j' : Nat, r' < n → on r' → 12 * r' ≤ j' → (j' : Int) < 12 * (r' : Int) + (cl r').toInt → m j' → (dy r').toInt < (dy r).toInt ∨ ((dy r').toInt = (dy r).toInt ∧ r' ≤ r))
theorem BestS_0 {on : Nat → Prop} {dy cl : Nat → Int32} {m : Nat → Prop} {val : Nat → Int} {d : Int} : BestS 0 on dy cl m val d d (-1) := Or.inl ⟨fun r j h => absurd h (Nat.not_lt_zero r), rfl, rfl⟩
theorem BestS_n {n n' : Nat} {on : Nat → Prop} {dy cl : Nat → Int32} {m : Nat → Prop} {val : Nat → Int} {d v s : Int} (hn : n' = n + 1) (hq : ∀ j : Nat, on n → 12 * n ≤ j → (j : Int) < 12 * (n : Int) + (cl n).toInt → ¬ m j) (h : BestS n on dy cl m val d v s) : BestS n' on dy cl m val d v s := by
  subst hn
  rcases h with ⟨a, b, c⟩ | ⟨r, j, a1, a2, a3, a4, a5, a6, a7, a8, a9⟩
  · refine Or.inl ⟨fun r j h1 h2 h3 h4 => ?_, b, c⟩
    by_cases e : r = n
    · subst e; exact hq j h2 h3 h4
    · exact a r j (by omega) h2 h3 h4
  · refine Or.inr ⟨r, j, by omega, a2, a3, a4, a5, a6, a7, a8, fun r' j' h1 h2 h3 h4 h5 => ?_⟩
    by_cases e : r' = n
    · subst e; exact absurd h5 (hq j' h2 h3 h4)
    · exact a9 r' j' (by omega) h2 h3 h4 h5
theorem BestS_o {n n' : Nat} {on : Nat → Prop} {dy cl : Nat → Int32} {m : Nat → Prop} {val : Nat → Int} {d v s : Int} (hn : n' = n + 1) (h0 : 0 ≤ (dy n).toInt) (hs : (dy n).toInt < s) (h : BestS n on dy cl m val d v s) : BestS n' on dy cl m val d v s := by
  subst hn
  rcases h with ⟨a, b, c⟩ | ⟨r, j, a1, a2, a3, a4, a5, a6, a7, a8, a9⟩
  · omega
  · refine Or.inr ⟨r, j, by omega, a2, a3, a4, a5, a6, a7, a8, fun r' j' h1 h2 h3 h4 h5 => ?_⟩
    by_cases e : r' = n
    · subst e; exact Or.inl (by omega)
    · exact a9 r' j' (by omega) h2 h3 h4 h5
theorem BestS_y {n n' : Nat} {on : Nat → Prop} {dy cl : Nat → Int32} {m : Nat → Prop} {val : Nat → Int} {d v v' s s' : Int} {j : Nat} (hn : n' = n + 1) (ho : on n) (h1 : 12 * n ≤ j) (h2 : (j : Int) < 12 * (n : Int) + (cl n).toInt) (hm : m j) (hl : ∀ j' : Nat, j < j' → (j' : Int) < 12 * (n : Int) + (cl n).toInt → ¬ m j') (hs : s ≤ (dy n).toInt) (hv : v' = val j) (hs' : s' = (dy n).toInt) (h : BestS n on dy cl m val d v s) : BestS n' on dy cl m val d v' s' := by
  subst hn
  refine Or.inr ⟨n, j, by omega, ho, h1, h2, hm, hv, hs', hl, fun r' j' g1 g2 g3 g4 g5 => ?_⟩
  by_cases e : r' = n
  · subst e; exact Or.inr ⟨rfl, Nat.le_refl _⟩
  · rcases h with ⟨a, b, c⟩ | ⟨r, k, a1, a2, a3, a4, a5, a6, a7, a8, a9⟩
    · exact absurd g5 (a r' j' (by omega) g2 g3 g4)
    · have := a9 r' j' (by omega) g2 g3 g4 g5
      rcases this with z | ⟨z1, z2⟩
      · exact Or.inl (by omega)
      · by_cases y : (dy r').toInt < (dy n).toInt
        · exact Or.inl y
        · exact Or.inr ⟨by omega, by omega⟩
theorem BestS_un {n : Nat} {on on' : Nat → Prop} {dy dy' cl cl' : Nat → Int32} {m m' : Nat → Prop} {val val' : Nat → Int} {d v v' s s' : Int} (hon : ∀ r : Nat, r < n → (on r ↔ on' r)) (hd : ∀ r : Nat, r < n → dy r = dy' r ∧ cl r = cl' r) (hm : ∀ r j : Nat, r < n → 12 * r ≤ j → (j : Int) < 12 * (r : Int) + (cl r).toInt → (m j ↔ m' j) ∧ (m j → val j = val' j)) (hc : ∀ r : Nat, r < n → (cl r).toInt ≤ 12) (h : BestS n on dy cl m val d v s) (k : BestS n on' dy' cl' m' val' d v' s') : v = v' := by
  rcases h with ⟨a, b, c⟩ | ⟨r, j, a1, a2, a3, a4, a5, a6, a7, a8, a9⟩
  · rcases k with ⟨a', b', c'⟩ | ⟨r', j', c1, c2, c3, c4, c5, c6, c7, c8, c9⟩
    · rw [b, b']
    · rw [← (hd r' c1).2] at c4
      exact absurd ((hm r' j' c1 c3 c4).1.mpr c5) (a r' j' c1 ((hon r' c1).mpr c2) c3 c4)
  · rcases k with ⟨a', b', c'⟩ | ⟨r', j', c1, c2, c3, c4, c5, c6, c7, c8, c9⟩
    · have z := (hm r j a1 a3 a4).1.mp a5
      rw [(hd r a1).2] at a4
      exact absurd z (a' r j a1 ((hon r a1).mp a2) a3 a4)
    · have c4' : (j' : Int) < 12 * (r' : Int) + (cl r').toInt := by rw [(hd r' c1).2]; exact c4
      have a4' : (j : Int) < 12 * (r : Int) + (cl' r).toInt := by rw [← (hd r a1).2]; exact a4
      have m1 := (hm r' j' c1 c3 c4').1.mpr c5
      have m2 := (hm r j a1 a3 a4).1.mp a5
      have y1 := a9 r' j' c1 ((hon r' c1).mpr c2) c3 c4' m1
      have y2 := c9 r j a1 ((hon r a1).mp a2) a3 a4' m2
      rw [← (hd r a1).1, ← (hd r' c1).1] at y2
      have er : r = r' := by omega
      subst er
      have ej : j = j' := by
        rcases Nat.lt_trichotomy j j' with q | q | q
        · exact absurd m1 (a8 j' q c4')
        · exact q
        · exact absurd m2 (c8 j q a4')
      subst ej
      rw [a6, c6]; exact (hm r j a1 a3 a4).2 a5
/-- the reference's way: first all by days, then strikes from the last rule down -/
def Pa (n k : Int) (f dy : Nat → Int32) (st : Nat → Nat → Prop) (D : Int) : Prop := ∀ r : Nat, (r : Int) < n → ((f r).toInt = 1 ↔ (dy r).toInt ≤ D ∧ ¬ ∃ r' : Nat, r < r' ∧ k < (r' : Int) ∧ (r' : Int) < n ∧ (f r').toInt = 1 ∧ st r' r)
def Pb (n k : Int) (g f : Nat → Int32) (P : Nat → Prop) (v : Nat → Int32) (c : Int) : Prop := (∀ r : Nat, (r : Int) < n → ((f r).toInt = 1 ↔ (g r).toInt = 1 ∧ ¬ ((g k.toNat).toInt = 1 ∧ ∃ j : Nat, 12 * k ≤ (j : Int) ∧ (j : Int) < c ∧ P j ∧ (v j).toInt = (r : Int)))) ∧ (∀ r : Nat, k ≤ (r : Int) → f r = g r)
theorem Pa_0 {n D : Int} {f dy : Nat → Int32} {st : Nat → Nat → Prop} (h : ∀ r : Nat, (r : Int) < n → ((f r).toInt = 1 ↔ (dy r).toInt ≤ D)) : Pa n (n - 1) f dy st D := by
  intro r hr
  rw [h r hr]
  constructor
  · intro q
    refine ⟨q, ?_⟩
    rintro ⟨r', a, b, c, d⟩
    omega
  · exact fun q => q.1
theorem Pb_0 {n k : Int} {f : Nat → Int32} {P : Nat → Prop} {v : Nat → Int32} : Pb n k f f P v (12 * k) := by
  refine ⟨fun r hr => ⟨fun q => ⟨q, ?_⟩, fun q => q.1⟩, fun r hr => rfl⟩
  rintro ⟨a, j, b, c, d⟩
  omega
theorem Pb_n {n k c c' : Int} {g f : Nat → Int32} {P : Nat → Prop} {v : Nat → Int32} {j : Nat} (hj : (j : Int) = c) (hc : c' = c + 1) (hP : ¬ P j) (h : Pb n k g f P v c) : Pb n k g f P v c' := by
  refine ⟨fun r hr => ?_, h.2⟩
  rw [h.1 r hr]
  have e : (∃ j : Nat, 12 * k ≤ (j : Int) ∧ (j : Int) < c ∧ P j ∧ (v j).toInt = (r : Int)) ↔ (∃ j : Nat, 12 * k ≤ (j : Int) ∧ (j : Int) < c' ∧ P j ∧ (v j).toInt = (r : Int)) := by
    constructor
    · rintro ⟨i, a, b, d⟩
      exact ⟨i, a, by omega, d⟩
    · rintro ⟨i, a, b, d, d2⟩
      by_cases q : i = j
      · rw [q] at d; exact absurd d hP
      · exact ⟨i, a, by omega, d, d2⟩
  rw [e]
theorem Pb_y {n k c c' : Int} {g f f' : Nat → Int32} {P : Nat → Prop} {v : Nat → Int32} {j : Nat} (hj : (j : Int) = c) (hc : c' = c + 1) (h0 : 12 * k ≤ c) (hP : P j) (hk : (f k.toNat).toInt = 1) (hk0 : 0 ≤ k) (hv : 0 ≤ (v j).toInt ∧ (v j).toInt < k) (hf : ∀ r : Nat, r ≠ ((v j).toInt).toNat → f' r = f r) (hf0 : (f' ((v j).toInt).toNat).toInt = 0) (h : Pb n k g f P v c) : Pb n k g f' P v c' := by
  have hgk : (g k.toNat).toInt = 1 := by rw [← h.2 k.toNat (by omega)]; exact hk
  refine ⟨fun r hr => ?_, fun r hr => by rw [hf r (by omega)]; exact h.2 r hr⟩
  by_cases q : r = ((v j).toInt).toNat
  · constructor
    · intro z; rw [q] at z; omega
    · intro z
      exact absurd ⟨hgk, j, by omega, by omega, hP, by omega⟩ z.2
  · rw [hf r q, h.1 r hr]
    have e : (∃ j : Nat, 12 * k ≤ (j : Int) ∧ (j : Int) < c ∧ P j ∧ (v j).toInt = (r : Int)) ↔ (∃ j : Nat, 12 * k ≤ (j : Int) ∧ (j : Int) < c' ∧ P j ∧ (v j).toInt = (r : Int)) := by
      constructor
      · rintro ⟨i, a, b, d⟩
        exact ⟨i, a, by omega, d⟩
      · rintro ⟨i, a, b, d, d2⟩
        by_cases z : i = j
        · rw [z] at d2; omega
        · exact ⟨i, a, by omega, d, d2⟩
    rw [e]
theorem Pb_end {n k k' c D : Int} {g f dy cl : Nat → Int32} {P : Nat → Prop} {v : Nat → Int32} (hk0 : 0 ≤ k) (hkn : k < n) (hk' : k' = k - 1) (hdown : ∀ j : Nat, 12 * k ≤ (j : Int) → (j : Int) < 12 * k + (cl k.toNat).toInt → P j → (v j).toInt < k) (hc : c = 12 * k + (cl k.toNat).toInt ∨ ¬ (f k.toNat).toInt = 1) (hA : Pa n k g dy (St cl P v) D) (hB : Pb n k g f P v c) : Pa n k' f dy (St cl P v) D := by
  have hfk : f k.toNat = g k.toNat := hB.2 k.toNat (by omega)
  have hkk : ((k.toNat : Nat) : Int) = k := Int.toNat_of_nonneg hk0
  intro r hr
  rw [hB.1 r hr, hA r hr]
  have e : ((g k.toNat).toInt = 1 ∧ ∃ j : Nat, 12 * k ≤ (j : Int) ∧ (j : Int) < c ∧ P j ∧ (v j).toInt = (r : Int)) ↔ ((g k.toNat).toInt = 1 ∧ St cl P v k.toNat r) := by
    constructor
    · rintro ⟨a, j, b, d, e1, e2⟩
      rcases hc with hc | hc
      · exact ⟨a, j, by omega, by omega, e1, e2⟩
      · rw [hfk] at hc; exact absurd a hc
    · rintro ⟨a, j, b, d, e1, e2⟩
      rcases hc with hc | hc
      · exact ⟨a, j, by omega, by omega, e1, e2⟩
      · rw [hfk] at hc; exact absurd a hc
  rw [e]
  constructor
  · rintro ⟨⟨a, b⟩, d⟩
    refine ⟨a, ?_⟩
    rintro ⟨r', z1, z2, z3, z4, z5⟩
    by_cases q : (r' : Int) = k
    · have q2 : r' = k.toNat := by omega
      rw [q2] at z4 z5
      rw [hfk] at z4
      exact d ⟨z4, z5⟩
    · rw [hB.2 r' (by omega)] at z4
      exact b ⟨r', z1, by omega, z3, z4, z5⟩
  · rintro ⟨a, b⟩
    refine ⟨⟨a, ?_⟩, ?_⟩
    · rintro ⟨r', z1, z2, z3, z4, z5⟩
      rw [← hB.2 r' (by omega)] at z4
      exact b ⟨r', z1, by omega, z3, z4, z5⟩
    · rintro ⟨z4, z5⟩
      have z6 := z5
      obtain ⟨j, y1, y2, y3, y4⟩ := z6
      have := hdown j (by omega) (by omega) y3
      rw [← hfk] at z4
      exact b ⟨k.toNat, by omega, by omega, by omega, z4, z5⟩
theorem Pa_end {n k D : Int} {f dy : Nat → Int32} {st : Nat → Nat → Prop} (hk : k < 0) (h : Pa n k f dy st D) : OnR n (fun r => (f r).toInt = 1) dy st D := by
  intro r hr
  show (f r).toInt = 1 ↔ _
  rw [h r hr]
  constructor
  · rintro ⟨a, b⟩
    refine ⟨a, ?_⟩
    rintro ⟨r', z1, z2, z3, z4⟩
    exact b ⟨r', z1, by omega, z2, z3, z4⟩
  · rintro ⟨a, b⟩
    refine ⟨a, ?_⟩
    rintro ⟨r', z1, z2, z3, z4, z5⟩
    exact b ⟨r', z1, z3, z4, z5⟩
/-- the reference's order: the rules below k that count, by days, then numbers -/
def OrK (k : Int) (on : Nat → Prop) (dy o : Nat → Int32) (c : Int) : Prop := (∀ t : Nat, (t : Int) < c → 0 ≤ (o t).toInt ∧ (o t).toInt < k ∧ on ((o t).toInt).toNat) ∧ (∀ r : Nat, (r : Int) < k → on r → ∃ t : Nat, (t : Int) < c ∧ (o t).toInt = (r : Int)) ∧ (∀ t u : Nat, t < u → (u : Int) < c → (dy ((o t).toInt).toNat).toInt < (dy ((o u).toInt).toNat).toInt ∨ ((dy ((o t).toInt).toNat).toInt = (dy ((o u).toInt).toNat).toInt ∧ (o t).toInt < (o u).toInt))
def Shf (dy g f : Nat → Int32) (d i c : Int) : Prop := (∀ t : Nat, (t : Int) < i → f t = g t) ∧ (∀ t : Nat, i ≤ (t : Int) → (t : Int) < c → f (t + 1) = g t ∧ d < (dy ((g t).toInt).toNat).toInt)
theorem OrK_0 {on : Nat → Prop} {dy o : Nat → Int32} : OrK 0 on dy o 0 := ⟨fun t h => absurd h (by omega), fun r h => absurd h (by omega), fun t u h1 h2 => absurd h2 (by omega)⟩
theorem OrK_n {k k' c : Int} {on : Nat → Prop} {dy o : Nat → Int32} (hk : k' = k + 1) (h0 : 0 ≤ k) (hn : ¬ on k.toNat) (h : OrK k on dy o c) : OrK k' on dy o c := by
  refine ⟨fun t ht => ?_, fun r hr ho => ?_, h.2.2⟩
  · have q := h.1 t ht
    exact ⟨q.1, by omega, q.2.2⟩
  · by_cases e : (r : Int) = k
    · rw [show r = k.toNat from by omega] at ho; exact absurd ho hn
    · exact h.2.1 r (by omega) ho
theorem Shf_0 {dy g : Nat → Int32} {d c : Int} : Shf dy g g d c c := ⟨fun t h => rfl, fun t h1 h2 => absurd h1 (by omega)⟩
theorem Shf_s {dy g f f' : Nat → Int32} {d i i' c : Int} (h0 : 0 < i) (hi : i' = i - 1) (hic : i ≤ c) (hd : d < (dy ((f i'.toNat).toInt).toNat).toInt) (hf : ∀ t : Nat, t ≠ i.toNat → f' t = f t) (hf2 : f' i.toNat = f i'.toNat) (h : Shf dy g f d i c) : Shf dy g f' d i' c := by
  refine ⟨fun t ht => ?_, fun t h1 h2 => ?_⟩
  · rw [hf t (by omega)]; exact h.1 t (by omega)
  · by_cases e : (t : Int) = i'
    · have e2 : t + 1 = i.toNat := by omega
      have e3 : i'.toNat = t := by omega
      have e4 : f t = g t := h.1 t (by omega)
      rw [e3, e4] at hd
      rw [e2, hf2, e3]; exact ⟨e4, hd⟩
    · have q := h.2 t (by omega) h2
      rw [hf (t + 1) (by omega)]; exact q
theorem OrK_y {k k' i c c' : Int} {on : Nat → Prop} {dy g f f' : Nat → Int32} (hk : k' = k + 1) (h0 : 0 ≤ k) (hc : c' = c + 1) (hi : 0 ≤ i) (hic : i ≤ c) (ho : on k.toNat) (hf : ∀ t : Nat, t ≠ i.toNat → f' t = f t) (hf2 : (f' i.toNat).toInt = k) (hl : i = 0 ∨ (dy ((f (i - 1).toNat).toInt).toNat).toInt ≤ (dy k.toNat).toInt) (hS : Shf dy g f (dy k.toNat).toInt i c) (h : OrK k on dy g c) : OrK k' on dy f' c' := by
  obtain ⟨h1, h2, h3⟩ := h
  have lo : ∀ t : Nat, (t : Int) < i → f' t = g t := fun t ht => by rw [hf t (by omega)]; exact hS.1 t ht
  have up : ∀ t : Nat, i < (t : Int) → (t : Int) < c' → f' t = g (t - 1) ∧ (dy k.toNat).toInt < (dy ((g (t - 1)).toInt).toNat).toInt := by
    intro t ht1 ht2
    have q := hS.2 (t - 1) (by omega) (by omega)
    rw [show t - 1 + 1 = t from by omega] at q
    rw [hf t (by omega)]; exact q
  have at_ : ∀ t : Nat, (t : Int) = i → (f' t).toInt = k := fun t ht => by rw [show t = i.toNat from by omega]; exact hf2
  have le : ∀ t : Nat, (t : Int) < i → (dy ((g t).toInt).toNat).toInt ≤ (dy k.toNat).toInt := by
    intro t ht
    have hl2 : (dy ((f (i - 1).toNat).toInt).toNat).toInt ≤ (dy k.toNat).toInt := by omega
    rw [hS.1 (i - 1).toNat (by omega)] at hl2
    by_cases e : t = (i - 1).toNat
    · rw [e]; exact hl2
    · have := h3 t (i - 1).toNat (by omega) (by omega)
      omega
  refine ⟨fun t ht => ?_, fun r hr hor => ?_, fun t u htu hu => ?_⟩
  · by_cases a : (t : Int) < i
    · rw [lo t a]; have q := h1 t (by omega); exact ⟨q.1, by omega, q.2.2⟩
    · by_cases b : (t : Int) = i
      · rw [at_ t b]; exact ⟨h0, by omega, ho⟩
      · rw [(up t (by omega) ht).1]; have q := h1 (t - 1) (by omega); exact ⟨q.1, by omega, q.2.2⟩
  · by_cases e : (r : Int) = k
    · exact ⟨i.toNat, by omega, by rw [hf2, e]⟩
    · obtain ⟨t, ht, et⟩ := h2 r (by omega) hor
      by_cases a : (t : Int) < i
      · exact ⟨t, by omega, by rw [lo t a]; exact et⟩
      · refine ⟨t + 1, by omega, ?_⟩
        rw [(up (t + 1) (by omega) (by omega)).1]; exact et
  · by_cases a : (u : Int) < i
    · rw [lo t (by omega), lo u a]; exact h3 t u htu (by omega)
    · by_cases b : (u : Int) = i
      · rw [at_ u b, lo t (by omega)]
        have q := h1 t (by omega)
        have z := le t (by omega)
        omega
      · have y := up u (by omega) hu
        rw [y.1]
        by_cases c1 : (t : Int) < i
        · rw [lo t c1]; exact h3 t (u - 1) (by omega) (by omega)
        · by_cases c2 : (t : Int) = i
          · rw [at_ t c2]; exact Or.inl y.2
          · rw [(up t (by omega) (by omega)).1]; exact h3 (t - 1) (u - 1) (by omega) (by omega)
/-- the reference's search: the last clause of its order that is of a kind -/
def inC (cl o : Nat → Int32) (t j : Nat) : Prop := 12 * (o t).toInt ≤ (j : Int) ∧ (j : Int) < 12 * (o t).toInt + (cl ((o t).toInt).toNat).toInt
def SqO (cl o : Nat → Int32) (m : Nat → Prop) (val : Nat → Int) (d i v : Int) : Prop := ((∀ t j : Nat, (t : Int) < i → inC cl o t j → ¬ m j) ∧ v = d) ∨ ∃ t j : Nat, (t : Int) < i ∧ inC cl o t j ∧ m j ∧ v = val j ∧ (∀ j' : Nat, j < j' → inC cl o t j' → ¬ m j') ∧ (∀ t' j' : Nat, t < t' → (t' : Int) < i → inC cl o t' j' → ¬ m j')
def SqI (cl o : Nat → Int32) (m : Nat → Prop) (val : Nat → Int) (d i lo c v : Int) : Prop := ((∀ j : Nat, lo ≤ (j : Int) → (j : Int) < c → ¬ m j) ∧ SqO cl o m val d i v) ∨ ∃ j : Nat, lo ≤ (j : Int) ∧ (j : Int) < c ∧ m j ∧ v = val j ∧ ∀ j' : Nat, j < j' → (j' : Int) < c → ¬ m j'
theorem SqO_0 {cl o : Nat → Int32} {m : Nat → Prop} {val : Nat → Int} {d : Int} : SqO cl o m val d 0 d := Or.inl ⟨fun t j h => absurd h (by omega), rfl⟩
theorem SqI_0 {cl o : Nat → Int32} {m : Nat → Prop} {val : Nat → Int} {d i lo v : Int} (h : SqO cl o m val d i v) : SqI cl o m val d i lo lo v := Or.inl ⟨fun j h1 h2 => absurd h1 (by omega), h⟩
theorem SqI_y {cl o : Nat → Int32} {m : Nat → Prop} {val : Nat → Int} {d i lo c c' v : Int} {j : Nat} (hj : (j : Int) = c) (h0 : lo ≤ c) (hc : c' = c + 1) (hm : m j) (hv : v = val j) : SqI cl o m val d i lo c' v := Or.inr ⟨j, by omega, by omega, hm, hv, fun j' h1 h2 => absurd h1 (by omega)⟩
theorem SqI_n {cl o : Nat → Int32} {m : Nat → Prop} {val : Nat → Int} {d i lo c c' v : Int} {j : Nat} (hj : (j : Int) = c) (hc : c' = c + 1) (hm : ¬ m j) (h : SqI cl o m val d i lo c v) : SqI cl o m val d i lo c' v := by
  rcases h with ⟨a, b⟩ | ⟨k, a1, a2, a3, a4, a5⟩
  · refine Or.inl ⟨fun k h1 h2 => ?_, b⟩
    by_cases e : k = j
    · rw [e]; exact hm
    · exact a k h1 (by omega)
  · refine Or.inr ⟨k, a1, by omega, a3, a4, fun k' h1 h2 => ?_⟩
    by_cases e : k' = j
    · rw [e]; exact hm
    · exact a5 k' h1 (by omega)
theorem SqI_end {cl o : Nat → Int32} {m : Nat → Prop} {val : Nat → Int} {d i i' lo c v : Int} (h0 : 0 ≤ i) (hi : i' = i + 1) (hlo : lo = 12 * (o i.toNat).toInt) (hc : c = 12 * (o i.toNat).toInt + (cl ((o i.toNat).toInt).toNat).toInt) (h : SqI cl o m val d i lo c v) : SqO cl o m val d i' v := by
  rcases h with ⟨a, b⟩ | ⟨k, a1, a2, a3, a4, a5⟩
  · have no : ∀ t j : Nat, (t : Int) = i → inC cl o t j → ¬ m j := by
      intro t j ht hj
      rw [show t = i.toNat from by omega] at hj
      exact a j (by rw [hlo]; exact hj.1) (by rw [hc]; exact hj.2)
    rcases b with ⟨b1, b2⟩ | ⟨t, j, b1, b2, b3, b4, b5, b6⟩
    · refine Or.inl ⟨fun t j h1 h2 => ?_, b2⟩
      by_cases e : (t : Int) = i
      · exact no t j e h2
      · exact b1 t j (by omega) h2
    · refine Or.inr ⟨t, j, by omega, b2, b3, b4, b5, fun t' j' h1 h2 h3 => ?_⟩
      by_cases e : (t' : Int) = i
      · exact no t' j' e h3
      · exact b6 t' j' h1 (by omega) h3
  · refine Or.inr ⟨i.toNat, k, by omega, ⟨by omega, by omega⟩, a3, a4, fun j' h1 h2 => a5 j' h1 (by have := h2.2; omega), fun t' j' h1 h2 => absurd h2 (by omega)⟩
theorem SqO_Best {n c d v : Int} {on : Nat → Prop} {dy cl o : Nat → Int32} {m : Nat → Prop} {val : Nat → Int} (hn : 0 ≤ n) (hO : OrK n on dy o c) (h : SqO cl o m val d c v) : ∃ s : Int, BestS n.toNat on dy cl m val d v s := by
  obtain ⟨o1, o2, o3⟩ := hO
  rcases h with ⟨a, b⟩ | ⟨t, j, a1, a2, a3, a4, a5, a6⟩
  · refine ⟨-1, Or.inl ⟨fun r j h1 h2 h3 h4 => ?_, b, rfl⟩⟩
    obtain ⟨t, ht, et⟩ := o2 r (by omega) h2
    exact a t j ht ⟨by omega, by rw [et, Int.toNat_natCast]; exact h4⟩
  · have q := o1 t a1
    have et : (((o t).toInt.toNat : Nat) : Int) = (o t).toInt := Int.toNat_of_nonneg q.1
    have a22 := a2.2
    have a21 := a2.1
    refine ⟨(dy ((o t).toInt).toNat).toInt, Or.inr ⟨((o t).toInt).toNat, j, by omega, q.2.2, by omega, by omega, a3, a4, rfl, fun j' h1 h2 => a5 j' h1 ⟨by omega, by omega⟩, fun r' j' h1 h2 h3 h4 h5 => ?_⟩⟩
    obtain ⟨u, hu, eu⟩ := o2 r' (by omega) h2
    have er : ((o u).toInt).toNat = r' := by rw [eu]; exact Int.toNat_natCast r'
    rcases Nat.lt_trichotomy u t with z | z | z
    · have y := o3 u t z a1
      rw [er] at y
      omega
    · rw [← z, er]; exact Or.inr ⟨rfl, Nat.le_refl _⟩
    · exact absurd h5 (a6 u j' z hu ⟨by omega, by rw [er, eu]; exact h4⟩)
/-! ===== bk1 ===== -/

/-- what a clause may say -/
def gcl (R kd v1 v2 : Int) : Prop := 0 ≤ kd ∧ kd ≤ 7 ∧ (kd ≤ 4 → loN kd ≤ v1 ∧ v1 ≤ hiN kd) ∧ (kd = 5 → 0 ≤ v1 ∧ v1 ≤ 2) ∧ (kd = 6 → 0 ≤ v1 ∧ v1 < v2 ∧ v2 ≤ 9999) ∧ (kd = 7 → 0 ≤ v1 ∧ v1 < R)
theorem Num_g {t : Nat → Int} {n lo hi a f p v b : Int} (h : Num t n lo hi a f p v b) (hf : f = 0) : lo ≤ v ∧ v ≤ hi := by
  obtain ⟨s, e, -, -, h3⟩ := h
  rcases h3 with ⟨-, a2, -⟩ | ⟨-, -, a3, -⟩ | ⟨-, a2, -, a4, -⟩
  · omega
  · omega
  · rw [a4]; exact a2.2
theorem LetR_g {t : Nat → Int} {n a p b kd v1 : Int} (h : LetR t n a 0 p b kd v1) : 0 ≤ kd ∧ kd ≤ 4 ∧ loN kd ≤ v1 ∧ v1 ≤ hiN kd := by
  obtain ⟨s, e, -, -, h3⟩ := h
  have hb := kwN_b t s e
  rcases h3 with ⟨-, a2, -⟩ | ⟨a1, f1, p1, b1, hn, h3⟩
  · omega
  · rcases h3 with ⟨c1, c2, -⟩ | ⟨c1, c2, -⟩
    · omega
    · have g := Num_g hn c1
      rw [← c2] at g hb a1
      exact ⟨a1, hb.2, g⟩
theorem ClR_g {t : Nat → Int} {n R s c p b kd v1 v2 : Int} {wd : Nat → Int} (h : ClR t n R s c 0 p b kd v1 v2 wd) : gcl R kd v1 v2 := by
  obtain ⟨e, -, h3⟩ := h
  rcases h3 with ⟨-, a2, -⟩ | ⟨-, -, a3, -⟩ | ⟨-, -, a3⟩ | ⟨-, -, a3⟩ | ⟨-, -, a3⟩ | ⟨-, -, a3⟩
  · omega
  · omega
  · have g := LetR_g a3
    exact ⟨g.1, by omega, fun _ => g.2.2, fun z => by omega, fun z => by omega, fun z => by omega⟩
  · obtain ⟨s2, e2, -, -, h4⟩ := a3
    have hb := kwW_b t s2 e2
    rcases h4 with ⟨-, a2, -⟩ | ⟨a1, a2, a4, -⟩
    · omega
    · exact ⟨by omega, by omega, fun z => by omega, fun z => ⟨by omega, by omega⟩, fun z => by omega, fun z => by omega⟩
  · obtain ⟨s2, e2, -, -, h4⟩ := a3
    rcases h4 with ⟨-, a2, -⟩ | ⟨-, a2, -⟩ | ⟨-, -, f1, p1, b1, hn, h4⟩
    · omega
    · omega
    · rcases h4 with ⟨c1, c2, -⟩ | ⟨c1, s3, e3, -, -, h4⟩
      · omega
      · rcases h4 with ⟨-, a2, -⟩ | ⟨-, f2, p2, b2, hm, h4⟩
        · omega
        · rcases h4 with ⟨d1, d2, -⟩ | ⟨d1, d2, -⟩
          · omega
          · have g1 := Num_g hn c1
            have g2 := Num_g hm d1
            exact ⟨by omega, by omega, fun z => by omega, fun z => by omega, fun z => ⟨by omega, by omega, by omega⟩, fun z => by omega⟩
  · obtain ⟨f1, p1, b1, hn, h4⟩ := a3
    rcases h4 with ⟨c1, c2, -⟩ | ⟨c1, -, c2, -⟩ | ⟨c1, c2, c3, -⟩
    · omega
    · omega
    · have g1 := Num_g hn c1
      exact ⟨by omega, by omega, fun z => by omega, fun z => by omega, fun z => by omega, fun z => ⟨by omega, by omega⟩⟩
theorem Pf_g {t : Nat → Int} {n R : Int} {kd v1 v2 : Nat → Int} {wd : Nat → Nat → Int} : ∀ (c : Nat) (a : Int), Pf t n R kd v1 v2 wd c a → ∀ i : Nat, i < c → gcl R (kd i) (v1 i) (v2 i)
  | 0, _, _ => fun i hi => absurd hi (Nat.not_lt_zero i)
  | c + 1, b, h => fun i hi => by
    obtain ⟨a, s, p, h1, h2, h3, h4⟩ := h
    by_cases e : i = c
    · rw [e]; exact ClR_g h4
    · exact Pf_g c a h1 i (by omega)
theorem Out_g {t : Nat → Int} {n R f p : Int} {kd v1 v2 : Nat → Int} {wd : Nat → Nat → Int} {c : Nat} (h : Out t n R f p c kd v1 v2 wd) : ∀ i : Nat, i < c → gcl R (kd i) (v1 i) (v2 i) := by
  obtain ⟨a, s, h1, -⟩ := h
  exact Pf_g c a h1
/-- the reference's kind as the class has it -/
def kdM (k n : Int32) : Int := if k.toInt = 0 then n.toInt else k.toInt + 4
def gk (k n : Int32) : Prop := (k.toInt = 0 ∧ 0 ≤ n.toInt ∧ n.toInt ≤ 4) ∨ (1 ≤ k.toInt ∧ k.toInt ≤ 3)
/-- a clause is the same on both sides -/
def ClE (r : Int) (kx fx sx : Int32) (lx : Nat → Int32) (ky ny fy sy wy : Int32) (ly : Nat → Int32) : Prop := kx.toInt = kdM ky ny ∧ fx = fy ∧ (kx.toInt = 6 → sx = sy ∧ ∀ q : Nat, q < 8 → (lx q).toInt = if (q : Int) < wy.toInt then (ly q).toInt else 0) ∧ gcl r kx.toInt fx.toInt sx.toInt ∧ gk ky ny
theorem ClE_k {r : Int} {kx fx sx : Int32} {lx : Nat → Int32} {ky ny fy sy wy : Int32} {ly : Nat → Int32} (h : ClE r kx fx sx lx ky ny fy sy wy ly) : (ky.toInt = 0 ∧ kx.toInt = ny.toInt ∧ 0 ≤ ny.toInt ∧ ny.toInt ≤ 4) ∨ (1 ≤ ky.toInt ∧ ky.toInt ≤ 3 ∧ kx.toInt = ky.toInt + 4) := by
  obtain ⟨h1, -, -, -, h5⟩ := h
  unfold kdM at h1
  rcases h5 with ⟨a, b, c⟩ | ⟨a, b⟩
  · rw [if_pos a] at h1; exact Or.inl ⟨a, h1, b, c⟩
  · rw [if_neg (by omega)] at h1; exact Or.inr ⟨a, b, h1⟩
/-- both books are the same -/
def BkE (n : Int) (dx cx kx fx sx lx dy cy ky ny fy sy wy ly : Nat → Int32) : Prop := ∀ r : Nat, (r : Int) < n → dx r = dy r ∧ cx r = cy r ∧ 0 ≤ (dx r).toInt ∧ (dx r).toInt ≤ 3000 ∧ ∀ j : Nat, 12 * r ≤ j → (j : Int) < 12 * (r : Int) + (cx r).toInt → ClE r (kx j) (fx j) (sx j) (fun q => lx (8 * j + q)) (ky j) (ny j) (fy j) (sy j) (wy j) (fun q => ly (8 * j + q))
theorem BkE_add {n : Int} {dx cx kx fx sx lx dy cy ky ny fy sy wy ly dx' cx' kx' fx' sx' lx' dy' cy' ky' ny' fy' sy' wy' ly' : Nat → Int32} {t : Nat → Int} {N p p' : Int} {c c' : Nat} (h0 : 0 ≤ n) (h : BkE n dx cx kx fx sx lx dy cy ky ny fy sy wy ly) (hcx : ∀ j : Nat, (cx j).toInt ≤ 12)
    (x0 : ∀ j : Nat, j ≠ n.toNat → dx' j = dx j ∧ cx' j = cx j) (x1 : ∀ j : Nat, (j : Int) < 12 * n → kx' j = kx j ∧ fx' j = fx j ∧ sx' j = sx j) (x2 : ∀ j : Nat, (j : Int) < 96 * n → lx' j = lx j)
    (y0 : ∀ j : Nat, j ≠ n.toNat → dy' j = dy j ∧ cy' j = cy j) (y1 : ∀ j : Nat, (j : Int) < 12 * n → ky' j = ky j ∧ ny' j = ny j ∧ fy' j = fy j ∧ sy' j = sy j ∧ wy' j = wy j) (y2 : ∀ j : Nat, (j : Int) < 96 * n → ly' j = ly j)
    (hd : dx' n.toNat = dy' n.toNat) (hdb : 0 ≤ (dx' n.toNat).toInt ∧ (dx' n.toNat).toInt ≤ 3000) (hc : (cx' n.toNat).toInt = (c : Int)) (hc' : (cy' n.toNat).toInt = (c' : Int))
    (hg : ∀ j : Nat, 12 * n ≤ (j : Int) → (j : Int) < 12 * n + (c' : Int) → gk (ky' j) (ny' j))
    (hX : Out t N n 0 p c (fun i => (kx' (12 * n.toNat + i)).toInt) (fun i => (fx' (12 * n.toNat + i)).toInt) (fun i => (sx' (12 * n.toNat + i)).toInt) (fun i j => (lx' (8 * (12 * n.toNat + i) + j)).toInt))
    (hY : Out t N n 0 p' c' (fun i => if (ky' (12 * n.toNat + i)).toInt = 0 then (ny' (12 * n.toNat + i)).toInt else (ky' (12 * n.toNat + i)).toInt + 4) (fun i => (fy' (12 * n.toNat + i)).toInt) (fun i => (sy' (12 * n.toNat + i)).toInt) (fun i j => if (j : Int) < (wy' (12 * n.toNat + i)).toInt then (ly' (8 * (12 * n.toNat + i) + j)).toInt else 0)) : BkE (n + 1) dx' cx' kx' fx' sx' lx' dy' cy' ky' ny' fy' sy' wy' ly' := by
  obtain ⟨u1, -, -, u4⟩ := Out_un hX hY
  have g := Out_g hX
  subst u1
  intro r hr
  by_cases e : (r : Int) = n
  · have er : r = n.toNat := by omega
    subst er
    refine ⟨hd, Int32.toInt_inj.mp (by omega), hdb.1, hdb.2, fun j h1 h2 => ?_⟩
    have ej : j = 12 * n.toNat + (j - 12 * n.toNat) := by omega
    have q := u4 (j - 12 * n.toNat) (by omega)
    have gq := g (j - 12 * n.toNat) (by omega)
    have q1 : (kx' (12 * n.toNat + (j - 12 * n.toNat))).toInt = kdM (ky' (12 * n.toNat + (j - 12 * n.toNat))) (ny' (12 * n.toNat + (j - 12 * n.toNat))) := q.1
    have q2 : (fx' (12 * n.toNat + (j - 12 * n.toNat))).toInt = (fy' (12 * n.toNat + (j - 12 * n.toNat))).toInt := q.2.1
    have q3 : (kx' (12 * n.toNat + (j - 12 * n.toNat))).toInt = 6 → (sx' (12 * n.toNat + (j - 12 * n.toNat))).toInt = (sy' (12 * n.toNat + (j - 12 * n.toNat))).toInt ∧ ∀ z : Nat, z < 8 → (lx' (8 * (12 * n.toNat + (j - 12 * n.toNat)) + z)).toInt = if (z : Int) < (wy' (12 * n.toNat + (j - 12 * n.toNat))).toInt then (ly' (8 * (12 * n.toNat + (j - 12 * n.toNat)) + z)).toInt else 0 := q.2.2
    have gq : gcl n (kx' (12 * n.toNat + (j - 12 * n.toNat))).toInt (fx' (12 * n.toNat + (j - 12 * n.toNat))).toInt (sx' (12 * n.toNat + (j - 12 * n.toNat))).toInt := gq
    rw [← ej] at q1 q2 q3 gq
    rw [e]
    exact ⟨q1, Int32.toInt_inj.mp q2, fun z => ⟨Int32.toInt_inj.mp (q3 z).1, (q3 z).2⟩, gq, hg j (by omega) (by omega)⟩
  · have en : r ≠ n.toNat := by omega
    have q := h r (by omega)
    have w := hcx r
    rw [(x0 r en).1, (x0 r en).2, (y0 r en).1, (y0 r en).2]
    refine ⟨q.1, q.2.1, q.2.2.1, q.2.2.2.1, fun j h1 h2 => ?_⟩
    have z := q.2.2.2.2 j h1 h2
    have a1 := x1 j (by omega)
    have b1 := y1 j (by omega)
    rw [a1.1, a1.2.1, a1.2.2, b1.1, b1.2.1, b1.2.2.1, b1.2.2.2.1, b1.2.2.2.2]
    obtain ⟨z1, z2, z3, z4⟩ := z
    refine ⟨z1, z2, fun k => ⟨(z3 k).1, fun i hi => ?_⟩, z4⟩
    show (lx' (8 * j + i)).toInt = if (i : Int) < (wy j).toInt then (ly' (8 * j + i)).toInt else 0
    rw [x2 (8 * j + i) (by omega), y2 (8 * j + i) (by omega)]
    exact (z3 k).2 i hi
theorem BkE_keep {n : Int} {dx cx kx fx sx lx dy cy ky ny fy sy wy ly dx' cx' kx' fx' sx' lx' dy' cy' ky' ny' fy' sy' wy' ly' : Nat → Int32} (h0 : 0 ≤ n) (h : BkE n dx cx kx fx sx lx dy cy ky ny fy sy wy ly) (hcx : ∀ j : Nat, (cx j).toInt ≤ 12)
    (x0 : ∀ j : Nat, j ≠ n.toNat → dx' j = dx j ∧ cx' j = cx j) (y0 : ∀ j : Nat, j ≠ n.toNat → dy' j = dy j ∧ cy' j = cy j) (x1 : ∀ j : Nat, (j : Int) < 12 * n → kx' j = kx j ∧ fx' j = fx j ∧ sx' j = sx j) (x2 : ∀ j : Nat, (j : Int) < 96 * n → lx' j = lx j) (y1 : ∀ j : Nat, (j : Int) < 12 * n → ky' j = ky j ∧ ny' j = ny j ∧ fy' j = fy j ∧ sy' j = sy j ∧ wy' j = wy j) (y2 : ∀ j : Nat, (j : Int) < 96 * n → ly' j = ly j) : BkE n dx' cx' kx' fx' sx' lx' dy' cy' ky' ny' fy' sy' wy' ly' := by
  intro r hr
  have q := h r hr
  have w := hcx r
  have en : r ≠ n.toNat := by omega
  rw [(x0 r en).1, (x0 r en).2, (y0 r en).1, (y0 r en).2]
  refine ⟨q.1, q.2.1, q.2.2.1, q.2.2.2.1, fun j h1 h2 => ?_⟩
  have z := q.2.2.2.2 j h1 h2
  have a1 := x1 j (by omega)
  have b1 := y1 j (by omega)
  rw [a1.1, a1.2.1, a1.2.2, b1.1, b1.2.1, b1.2.2.1, b1.2.2.2.1, b1.2.2.2.2]
  obtain ⟨z1, z2, z3, z4⟩ := z
  refine ⟨z1, z2, fun k => ⟨(z3 k).1, fun i hi => ?_⟩, z4⟩
  show (lx' (8 * j + i)).toInt = if (i : Int) < (wy j).toInt then (ly' (8 * j + i)).toInt else 0
  rw [x2 (8 * j + i) (by omega), y2 (8 * j + i) (by omega)]
  exact (z3 k).2 i hi
/-- what holds at first -/
def aF (x : Int) : Int := if x = 0 then 110 else if x = 1 then 3 else if x = 2 then 5 else if x = 3 then 2 else if x = 4 then 10 else 0
theorem tab_af {r : Int32} (h : 0 ≤ r.toInt ∧ r.toInt ≤ 5) : (C_AF r.toNatClampNeg).toInt = aF r.toInt := by
  rcases (by omega : r.toInt = 0 ∨ r.toInt = 1 ∨ r.toInt = 2 ∨ r.toInt = 3 ∨ r.toInt = 4 ∨ r.toInt = 5) with q | q | q | q | q | q
  · rw [show r = 0 from z_of (by decide) q]; decide
  · rw [show r = 1 from z_of (by decide) q]; decide
  · rw [show r = 2 from z_of (by decide) q]; decide
  · rw [show r = 3 from z_of (by decide) q]; decide
  · rw [show r = 4 from z_of (by decide) q]; decide
  · rw [show r = 5 from z_of (by decide) q]; decide
/-- which clauses tell of a name, on both sides -/
def mX (k : Nat → Int32) (a : Int) : Nat → Prop := fun j => (k j).toInt = a
def mY (k n : Nat → Int32) (a : Int) : Nat → Prop := fun j => (a = 5 ∧ (k j).toInt = 1) ∨ (a ≠ 5 ∧ (k j).toInt = 0 ∧ (n j).toInt = a)
def vI (f : Nat → Int32) : Nat → Int := fun j => (f j).toInt
/-- what holds of a name on a day, on both sides -/
def FoX (n : Int) (d c k f : Nat → Int32) (a D v : Int) : Prop := ∃ (on : Nat → Prop) (s : Int), OnR n on d (St c (mX k 7) f) D ∧ BestS n.toNat on d c (mX k a) (vI f) (aF a) v s
def FoY (n : Int) (d c k m f : Nat → Int32) (a D v : Int) : Prop := ∃ (on : Nat → Prop) (s : Int), OnR n on d (St c (mX k 3) f) D ∧ BestS n.toNat on d c (mY k m a) (vI f) (aF a) v s
theorem Bk_on {n D : Int} {dx cx kx fx sx lx dy cy ky ny fy sy wy ly : Nat → Int32} {on on' : Nat → Prop} (h : BkE n dx cx kx fx sx lx dy cy ky ny fy sy wy ly) (x : OnR n on dx (St cx (mX kx 7) fx) D) (y : OnR n on' dy (St cy (mX ky 3) fy) D) : ∀ r : Nat, (r : Int) < n → (on r ↔ on' r) := by
  refine OnR_un (fun r hr => (h r hr).1) (fun r' r h1 h2 => ?_) x y
  have q := h r' h1
  constructor
  · rintro ⟨j, a, b, c, d⟩
    have z := q.2.2.2.2 j a b
    have k := ClE_k z
    have c : (kx j).toInt = 7 := c
    refine ⟨j, a, by rw [← q.2.1]; exact b, (show (ky j).toInt = 3 from by omega), by rw [← z.2.1]; exact d⟩
  · rintro ⟨j, a, b, c, d⟩
    rw [← q.2.1] at b
    have z := q.2.2.2.2 j a b
    have k := ClE_k z
    have c : (ky j).toInt = 3 := c
    exact ⟨j, a, b, (show (kx j).toInt = 7 from by omega), by rw [z.2.1]; exact d⟩
theorem Bk_force {n D a v w : Int} {dx cx kx fx sx lx dy cy ky ny fy sy wy ly : Nat → Int32} (h : BkE n dx cx kx fx sx lx dy cy ky ny fy sy wy ly) (hc : ∀ j : Nat, (cx j).toInt ≤ 12) (ha : 0 ≤ a ∧ a ≤ 5) (x : FoX n dx cx kx fx a D v) (y : FoY n dy cy ky ny fy a D w) : v = w := by
  obtain ⟨on, s, x1, x2⟩ := x
  obtain ⟨on', s', y1, y2⟩ := y
  refine BestS_un (fun r hr => Bk_on h x1 y1 r (by omega)) (fun r hr => ⟨(h r (by omega)).1, (h r (by omega)).2.1⟩) (fun r j hr h1 h2 => ?_) (fun r hr => hc r) x2 y2
  have z := (h r (by omega)).2.2.2.2 j h1 h2
  have k := ClE_k z
  refine ⟨?_, fun _ => congrArg Int32.toInt z.2.1⟩
  show (kx j).toInt = a ↔ ((a = 5 ∧ (ky j).toInt = 1) ∨ (a ≠ 5 ∧ (ky j).toInt = 0 ∧ (ny j).toInt = a))
  omega
/-- what it may be -/
def fLo (a : Int) : Int := if a = 1 ∨ a = 3 then 1 else 0
def fHi (a : Int) : Int := if a = 0 then 300 else if a = 1 then 9 else if a = 2 then 200 else if a = 3 then 2 else if a = 4 then 999 else 2
theorem FoX_b {n D a v : Int} {dx cx kx fx sx lx dy cy ky ny fy sy wy ly : Nat → Int32} (h : BkE n dx cx kx fx sx lx dy cy ky ny fy sy wy ly) (ha : 0 ≤ a ∧ a ≤ 5) (x : FoX n dx cx kx fx a D v) : fLo a ≤ v ∧ v ≤ fHi a := by
  obtain ⟨on, s, x1, x2⟩ := x
  rcases x2 with ⟨-, b, -⟩ | ⟨r, j, a1, a2, a3, a4, a5, a6, -⟩
  · rw [b]
    rcases (by omega : a = 0 ∨ a = 1 ∨ a = 2 ∨ a = 3 ∨ a = 4 ∨ a = 5) with q | q | q | q | q | q <;> rw [q] <;> exact ⟨by decide, by decide⟩
  · have z := (h r (by omega)).2.2.2.2 j a3 a4
    have g := z.2.2.2.1
    have a5 : (kx j).toInt = a := a5
    have a6 : v = (fx j).toInt := a6
    obtain ⟨g1, g2, g3, g4, -, -⟩ := g
    rw [a5] at g3 g4
    rw [← a6] at g3 g4
    rcases (by omega : a = 0 ∨ a = 1 ∨ a = 2 ∨ a = 3 ∨ a = 4 ∨ a = 5) with q | q | q | q | q | q
    · rw [q] at g3 ⊢; exact g3 (by decide)
    · rw [q] at g3 ⊢; exact g3 (by decide)
    · rw [q] at g3 ⊢; exact g3 (by decide)
    · rw [q] at g3 ⊢; exact g3 (by decide)
    · rw [q] at g3 ⊢; exact g3 (by decide)
    · rw [q] at g4 ⊢; exact g4 rfl
theorem bk_K {n : Int} {dx cx kx fx sx lx dy cy ky ny fy sy wy ly : Nat → Int32} (h : BkE n dx cx kx fx sx lx dy cy ky ny fy sy wy ly) : ∀ k j : Nat, (k : Int) < n → 12 * k ≤ j → (j : Int) < 12 * (k : Int) + (cy k).toInt → (ky j).toInt = 3 → 0 ≤ (fy j).toInt ∧ (fy j).toInt < (k : Int) := by
  intro k j h1 h2 h3 h4
  have q := h k h1
  rw [← q.2.1] at h3
  have z := q.2.2.2.2 j h2 h3
  have c := ClE_k z
  have g := z.2.2.2.1.2.2.2.2.2 (by omega)
  rw [z.2.1] at g
  exact g
