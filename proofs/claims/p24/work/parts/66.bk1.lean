/-! ===== bk1 ===== -/

/-- what a clause may say -/
def gcl (R kd v1 v2 : Int) : Prop := 0 ≤ kd ∧ kd ≤ 7 ∧ (kd ≤ 4 → loN kd ≤ v1 ∧ v1 ≤ hiN kd) ∧ (kd = 5 → 0 ≤ v1 ∧ v1 ≤ 2) ∧ (kd = 6 → 0 ≤ v1 ∧ v1 < v2 ∧ v2 ≤ 9999) ∧ (kd = 7 → 0 ≤ v1 ∧ v1 < R)
theorem Num_g {t : Nat → Int} {n lo hi a f p v b : Int} (h : Num t n lo hi a f p v b) (hf : f = 0) : lo ≤ v ∧ v ≤ hi := by
  obtain ⟨s, e, -, -, h3⟩ := h
  rcases h3 with ⟨-, a2, -⟩ | ⟨-, -, a3, -⟩ | ⟨-, a2, -, a4, -⟩
  · omega
  · omega
  · rw [a4]; exact a2.2
theorem LetR_g {t : Nat → Int} {n a p b kd v1 : Int} (h : LetR t n a 0 p b kd v1) : 0 ≤ kd ∧ kd ≤ 4 ∧ loN kd ≤ v1 ∧ v1 ≤ hiN kd := by
  obtain ⟨s, e, -, -, h3⟩ := h
  have hb := kwN_b t s e
  rcases h3 with ⟨-, a2, -⟩ | ⟨a1, f1, p1, b1, hn, h3⟩
  · omega
  · rcases h3 with ⟨c1, c2, -⟩ | ⟨c1, c2, -⟩
    · omega
    · have g := Num_g hn c1
      rw [← c2] at g hb a1
      exact ⟨a1, hb.2, g⟩
theorem ClR_g {t : Nat → Int} {n R s c p b kd v1 v2 : Int} {wd : Nat → Int} (h : ClR t n R s c 0 p b kd v1 v2 wd) : gcl R kd v1 v2 := by
  obtain ⟨e, -, h3⟩ := h
  rcases h3 with ⟨-, a2, -⟩ | ⟨-, -, a3, -⟩ | ⟨-, -, a3⟩ | ⟨-, -, a3⟩ | ⟨-, -, a3⟩ | ⟨-, -, a3⟩
  · omega
  · omega
  · have g := LetR_g a3
    exact ⟨g.1, by omega, fun _ => g.2.2, fun z => by omega, fun z => by omega, fun z => by omega⟩
  · obtain ⟨s2, e2, -, -, h4⟩ := a3
    have hb := kwW_b t s2 e2
    rcases h4 with ⟨-, a2, -⟩ | ⟨a1, a2, a4, -⟩
    · omega
    · exact ⟨by omega, by omega, fun z => by omega, fun z => ⟨by omega, by omega⟩, fun z => by omega, fun z => by omega⟩
  · obtain ⟨s2, e2, -, -, h4⟩ := a3
    rcases h4 with ⟨-, a2, -⟩ | ⟨-, a2, -⟩ | ⟨-, -, f1, p1, b1, hn, h4⟩
    · omega
    · omega
    · rcases h4 with ⟨c1, c2, -⟩ | ⟨c1, s3, e3, -, -, h4⟩
      · omega
      · rcases h4 with ⟨-, a2, -⟩ | ⟨-, f2, p2, b2, hm, h4⟩
        · omega
        · rcases h4 with ⟨d1, d2, -⟩ | ⟨d1, d2, -⟩
          · omega
          · have g1 := Num_g hn c1
            have g2 := Num_g hm d1
            exact ⟨by omega, by omega, fun z => by omega, fun z => by omega, fun z => ⟨by omega, by omega, by omega⟩, fun z => by omega⟩
  · obtain ⟨f1, p1, b1, hn, h4⟩ := a3
    rcases h4 with ⟨c1, c2, -⟩ | ⟨c1, -, c2, -⟩ | ⟨c1, c2, c3, -⟩
    · omega
    · omega
    · have g1 := Num_g hn c1
      exact ⟨by omega, by omega, fun z => by omega, fun z => by omega, fun z => by omega, fun z => ⟨by omega, by omega⟩⟩
theorem Pf_g {t : Nat → Int} {n R : Int} {kd v1 v2 : Nat → Int} {wd : Nat → Nat → Int} : ∀ (c : Nat) (a : Int), Pf t n R kd v1 v2 wd c a → ∀ i : Nat, i < c → gcl R (kd i) (v1 i) (v2 i)
  | 0, _, _ => fun i hi => absurd hi (Nat.not_lt_zero i)
  | c + 1, b, h => fun i hi => by
    obtain ⟨a, s, p, h1, h2, h3, h4⟩ := h
    by_cases e : i = c
    · rw [e]; exact ClR_g h4
    · exact Pf_g c a h1 i (by omega)
theorem Out_g {t : Nat → Int} {n R f p : Int} {kd v1 v2 : Nat → Int} {wd : Nat → Nat → Int} {c : Nat} (h : Out t n R f p c kd v1 v2 wd) : ∀ i : Nat, i < c → gcl R (kd i) (v1 i) (v2 i) := by
  obtain ⟨a, s, h1, -⟩ := h
  exact Pf_g c a h1
/-- the reference's kind as the class has it -/
def kdM (k n : Int32) : Int := if k.toInt = 0 then n.toInt else k.toInt + 4
def gk (k n : Int32) : Prop := (k.toInt = 0 ∧ 0 ≤ n.toInt ∧ n.toInt ≤ 4) ∨ (1 ≤ k.toInt ∧ k.toInt ≤ 3)
/-- a clause is the same on both sides -/
def ClE (r : Int) (kx fx sx : Int32) (lx : Nat → Int32) (ky ny fy sy wy : Int32) (ly : Nat → Int32) : Prop := kx.toInt = kdM ky ny ∧ fx = fy ∧ (kx.toInt = 6 → sx = sy ∧ ∀ q : Nat, q < 8 → (lx q).toInt = if (q : Int) < wy.toInt then (ly q).toInt else 0) ∧ gcl r kx.toInt fx.toInt sx.toInt ∧ gk ky ny
theorem ClE_k {r : Int} {kx fx sx : Int32} {lx : Nat → Int32} {ky ny fy sy wy : Int32} {ly : Nat → Int32} (h : ClE r kx fx sx lx ky ny fy sy wy ly) : (ky.toInt = 0 ∧ kx.toInt = ny.toInt ∧ 0 ≤ ny.toInt ∧ ny.toInt ≤ 4) ∨ (1 ≤ ky.toInt ∧ ky.toInt ≤ 3 ∧ kx.toInt = ky.toInt + 4) := by
  obtain ⟨h1, -, -, -, h5⟩ := h
  unfold kdM at h1
  rcases h5 with ⟨a, b, c⟩ | ⟨a, b⟩
  · rw [if_pos a] at h1; exact Or.inl ⟨a, h1, b, c⟩
  · rw [if_neg (by omega)] at h1; exact Or.inr ⟨a, b, h1⟩
/-- both books are the same -/
def BkE (n : Int) (dx cx kx fx sx lx dy cy ky ny fy sy wy ly : Nat → Int32) : Prop := ∀ r : Nat, (r : Int) < n → dx r = dy r ∧ cx r = cy r ∧ 0 ≤ (dx r).toInt ∧ (dx r).toInt ≤ 3000 ∧ ∀ j : Nat, 12 * r ≤ j → (j : Int) < 12 * (r : Int) + (cx r).toInt → ClE r (kx j) (fx j) (sx j) (fun q => lx (8 * j + q)) (ky j) (ny j) (fy j) (sy j) (wy j) (fun q => ly (8 * j + q))
theorem BkE_add {n : Int} {dx cx kx fx sx lx dy cy ky ny fy sy wy ly dx' cx' kx' fx' sx' lx' dy' cy' ky' ny' fy' sy' wy' ly' : Nat → Int32} {t : Nat → Int} {N p p' : Int} {c c' : Nat} (h0 : 0 ≤ n) (h : BkE n dx cx kx fx sx lx dy cy ky ny fy sy wy ly) (hcx : ∀ j : Nat, (cx j).toInt ≤ 12)
    (x0 : ∀ j : Nat, j ≠ n.toNat → dx' j = dx j ∧ cx' j = cx j) (x1 : ∀ j : Nat, (j : Int) < 12 * n → kx' j = kx j ∧ fx' j = fx j ∧ sx' j = sx j) (x2 : ∀ j : Nat, (j : Int) < 96 * n → lx' j = lx j)
    (y0 : ∀ j : Nat, j ≠ n.toNat → dy' j = dy j ∧ cy' j = cy j) (y1 : ∀ j : Nat, (j : Int) < 12 * n → ky' j = ky j ∧ ny' j = ny j ∧ fy' j = fy j ∧ sy' j = sy j ∧ wy' j = wy j) (y2 : ∀ j : Nat, (j : Int) < 96 * n → ly' j = ly j)
    (hd : dx' n.toNat = dy' n.toNat) (hdb : 0 ≤ (dx' n.toNat).toInt ∧ (dx' n.toNat).toInt ≤ 3000) (hc : (cx' n.toNat).toInt = (c : Int)) (hc' : (cy' n.toNat).toInt = (c' : Int))
    (hg : ∀ j : Nat, 12 * n ≤ (j : Int) → (j : Int) < 12 * n + (c' : Int) → gk (ky' j) (ny' j))
    (hX : Out t N n 0 p c (fun i => (kx' (12 * n.toNat + i)).toInt) (fun i => (fx' (12 * n.toNat + i)).toInt) (fun i => (sx' (12 * n.toNat + i)).toInt) (fun i j => (lx' (8 * (12 * n.toNat + i) + j)).toInt))
    (hY : Out t N n 0 p' c' (fun i => if (ky' (12 * n.toNat + i)).toInt = 0 then (ny' (12 * n.toNat + i)).toInt else (ky' (12 * n.toNat + i)).toInt + 4) (fun i => (fy' (12 * n.toNat + i)).toInt) (fun i => (sy' (12 * n.toNat + i)).toInt) (fun i j => if (j : Int) < (wy' (12 * n.toNat + i)).toInt then (ly' (8 * (12 * n.toNat + i) + j)).toInt else 0)) : BkE (n + 1) dx' cx' kx' fx' sx' lx' dy' cy' ky' ny' fy' sy' wy' ly' := by
  obtain ⟨u1, -, -, u4⟩ := Out_un hX hY
  have g := Out_g hX
  subst u1
  intro r hr
  by_cases e : (r : Int) = n
  · have er : r = n.toNat := by omega
    subst er
    refine ⟨hd, Int32.toInt_inj.mp (by omega), hdb.1, hdb.2, fun j h1 h2 => ?_⟩
    have ej : j = 12 * n.toNat + (j - 12 * n.toNat) := by omega
    have q := u4 (j - 12 * n.toNat) (by omega)
    have gq := g (j - 12 * n.toNat) (by omega)
    have q1 : (kx' (12 * n.toNat + (j - 12 * n.toNat))).toInt = kdM (ky' (12 * n.toNat + (j - 12 * n.toNat))) (ny' (12 * n.toNat + (j - 12 * n.toNat))) := q.1
    have q2 : (fx' (12 * n.toNat + (j - 12 * n.toNat))).toInt = (fy' (12 * n.toNat + (j - 12 * n.toNat))).toInt := q.2.1
    have q3 : (kx' (12 * n.toNat + (j - 12 * n.toNat))).toInt = 6 → (sx' (12 * n.toNat + (j - 12 * n.toNat))).toInt = (sy' (12 * n.toNat + (j - 12 * n.toNat))).toInt ∧ ∀ z : Nat, z < 8 → (lx' (8 * (12 * n.toNat + (j - 12 * n.toNat)) + z)).toInt = if (z : Int) < (wy' (12 * n.toNat + (j - 12 * n.toNat))).toInt then (ly' (8 * (12 * n.toNat + (j - 12 * n.toNat)) + z)).toInt else 0 := q.2.2
    have gq : gcl n (kx' (12 * n.toNat + (j - 12 * n.toNat))).toInt (fx' (12 * n.toNat + (j - 12 * n.toNat))).toInt (sx' (12 * n.toNat + (j - 12 * n.toNat))).toInt := gq
    rw [← ej] at q1 q2 q3 gq
    rw [e]
    exact ⟨q1, Int32.toInt_inj.mp q2, fun z => ⟨Int32.toInt_inj.mp (q3 z).1, (q3 z).2⟩, gq, hg j (by omega) (by omega)⟩
  · have en : r ≠ n.toNat := by omega
    have q := h r (by omega)
    have w := hcx r
    rw [(x0 r en).1, (x0 r en).2, (y0 r en).1, (y0 r en).2]
    refine ⟨q.1, q.2.1, q.2.2.1, q.2.2.2.1, fun j h1 h2 => ?_⟩
    have z := q.2.2.2.2 j h1 h2
    have a1 := x1 j (by omega)
    have b1 := y1 j (by omega)
    rw [a1.1, a1.2.1, a1.2.2, b1.1, b1.2.1, b1.2.2.1, b1.2.2.2.1, b1.2.2.2.2]
    obtain ⟨z1, z2, z3, z4⟩ := z
    refine ⟨z1, z2, fun k => ⟨(z3 k).1, fun i hi => ?_⟩, z4⟩
    show (lx' (8 * j + i)).toInt = if (i : Int) < (wy j).toInt then (ly' (8 * j + i)).toInt else 0
    rw [x2 (8 * j + i) (by omega), y2 (8 * j + i) (by omega)]
    exact (z3 k).2 i hi
theorem BkE_keep {n : Int} {dx cx kx fx sx lx dy cy ky ny fy sy wy ly dx' cx' kx' fx' sx' lx' dy' cy' ky' ny' fy' sy' wy' ly' : Nat → Int32} (h0 : 0 ≤ n) (h : BkE n dx cx kx fx sx lx dy cy ky ny fy sy wy ly) (hcx : ∀ j : Nat, (cx j).toInt ≤ 12)
    (x0 : ∀ j : Nat, j ≠ n.toNat → dx' j = dx j ∧ cx' j = cx j) (y0 : ∀ j : Nat, j ≠ n.toNat → dy' j = dy j ∧ cy' j = cy j) (x1 : ∀ j : Nat, (j : Int) < 12 * n → kx' j = kx j ∧ fx' j = fx j ∧ sx' j = sx j) (x2 : ∀ j : Nat, (j : Int) < 96 * n → lx' j = lx j) (y1 : ∀ j : Nat, (j : Int) < 12 * n → ky' j = ky j ∧ ny' j = ny j ∧ fy' j = fy j ∧ sy' j = sy j ∧ wy' j = wy j) (y2 : ∀ j : Nat, (j : Int) < 96 * n → ly' j = ly j) : BkE n dx' cx' kx' fx' sx' lx' dy' cy' ky' ny' fy' sy' wy' ly' := by
  intro r hr
  have q := h r hr
  have w := hcx r
  have en : r ≠ n.toNat := by omega
  rw [(x0 r en).1, (x0 r en).2, (y0 r en).1, (y0 r en).2]
  refine ⟨q.1, q.2.1, q.2.2.1, q.2.2.2.1, fun j h1 h2 => ?_⟩
  have z := q.2.2.2.2 j h1 h2
  have a1 := x1 j (by omega)
  have b1 := y1 j (by omega)
  rw [a1.1, a1.2.1, a1.2.2, b1.1, b1.2.1, b1.2.2.1, b1.2.2.2.1, b1.2.2.2.2]
  obtain ⟨z1, z2, z3, z4⟩ := z
  refine ⟨z1, z2, fun k => ⟨(z3 k).1, fun i hi => ?_⟩, z4⟩
  show (lx' (8 * j + i)).toInt = if (i : Int) < (wy j).toInt then (ly' (8 * j + i)).toInt else 0
  rw [x2 (8 * j + i) (by omega), y2 (8 * j + i) (by omega)]
  exact (z3 k).2 i hi
/-- what holds at first -/
def aF (x : Int) : Int := if x = 0 then 110 else if x = 1 then 3 else if x = 2 then 5 else if x = 3 then 2 else if x = 4 then 10 else 0
theorem tab_af {r : Int32} (h : 0 ≤ r.toInt ∧ r.toInt ≤ 5) : (C_AF r.toNatClampNeg).toInt = aF r.toInt := by
  rcases (by omega : r.toInt = 0 ∨ r.toInt = 1 ∨ r.toInt = 2 ∨ r.toInt = 3 ∨ r.toInt = 4 ∨ r.toInt = 5) with q | q | q | q | q | q
  · rw [show r = 0 from z_of (by decide) q]; decide
  · rw [show r = 1 from z_of (by decide) q]; decide
  · rw [show r = 2 from z_of (by decide) q]; decide
  · rw [show r = 3 from z_of (by decide) q]; decide
  · rw [show r = 4 from z_of (by decide) q]; decide
  · rw [show r = 5 from z_of (by decide) q]; decide
/-- which clauses tell of a name, on both sides -/
def mX (k : Nat → Int32) (a : Int) : Nat → Prop := fun j => (k j).toInt = a
def mY (k n : Nat → Int32) (a : Int) : Nat → Prop := fun j => (a = 5 ∧ (k j).toInt = 1) ∨ (a ≠ 5 ∧ (k j).toInt = 0 ∧ (n j).toInt = a)
def vI (f : Nat → Int32) : Nat → Int := fun j => (f j).toInt
/-- what holds of a name on a day, on both sides -/
def FoX (n : Int) (d c k f : Nat → Int32) (a D v : Int) : Prop := ∃ (on : Nat → Prop) (s : Int), OnR n on d (St c (mX k 7) f) D ∧ BestS n.toNat on d c (mX k a) (vI f) (aF a) v s
def FoY (n : Int) (d c k m f : Nat → Int32) (a D v : Int) : Prop := ∃ (on : Nat → Prop) (s : Int), OnR n on d (St c (mX k 3) f) D ∧ BestS n.toNat on d c (mY k m a) (vI f) (aF a) v s
theorem Bk_on {n D : Int} {dx cx kx fx sx lx dy cy ky ny fy sy wy ly : Nat → Int32} {on on' : Nat → Prop} (h : BkE n dx cx kx fx sx lx dy cy ky ny fy sy wy ly) (x : OnR n on dx (St cx (mX kx 7) fx) D) (y : OnR n on' dy (St cy (mX ky 3) fy) D) : ∀ r : Nat, (r : Int) < n → (on r ↔ on' r) := by
  refine OnR_un (fun r hr => (h r hr).1) (fun r' r h1 h2 => ?_) x y
  have q := h r' h1
  constructor
  · rintro ⟨j, a, b, c, d⟩
    have z := q.2.2.2.2 j a b
    have k := ClE_k z
    have c : (kx j).toInt = 7 := c
    refine ⟨j, a, by rw [← q.2.1]; exact b, (show (ky j).toInt = 3 from by omega), by rw [← z.2.1]; exact d⟩
  · rintro ⟨j, a, b, c, d⟩
    rw [← q.2.1] at b
    have z := q.2.2.2.2 j a b
    have k := ClE_k z
    have c : (ky j).toInt = 3 := c
    exact ⟨j, a, b, (show (kx j).toInt = 7 from by omega), by rw [z.2.1]; exact d⟩
theorem Bk_force {n D a v w : Int} {dx cx kx fx sx lx dy cy ky ny fy sy wy ly : Nat → Int32} (h : BkE n dx cx kx fx sx lx dy cy ky ny fy sy wy ly) (hc : ∀ j : Nat, (cx j).toInt ≤ 12) (ha : 0 ≤ a ∧ a ≤ 5) (x : FoX n dx cx kx fx a D v) (y : FoY n dy cy ky ny fy a D w) : v = w := by
  obtain ⟨on, s, x1, x2⟩ := x
  obtain ⟨on', s', y1, y2⟩ := y
  refine BestS_un (fun r hr => Bk_on h x1 y1 r (by omega)) (fun r hr => ⟨(h r (by omega)).1, (h r (by omega)).2.1⟩) (fun r j hr h1 h2 => ?_) (fun r hr => hc r) x2 y2
  have z := (h r (by omega)).2.2.2.2 j h1 h2
  have k := ClE_k z
  refine ⟨?_, fun _ => congrArg Int32.toInt z.2.1⟩
  show (kx j).toInt = a ↔ ((a = 5 ∧ (ky j).toInt = 1) ∨ (a ≠ 5 ∧ (ky j).toInt = 0 ∧ (ny j).toInt = a))
  omega
/-- what it may be -/
def fLo (a : Int) : Int := if a = 1 ∨ a = 3 then 1 else 0
def fHi (a : Int) : Int := if a = 0 then 300 else if a = 1 then 9 else if a = 2 then 200 else if a = 3 then 2 else if a = 4 then 999 else 2
theorem FoX_b {n D a v : Int} {dx cx kx fx sx lx dy cy ky ny fy sy wy ly : Nat → Int32} (h : BkE n dx cx kx fx sx lx dy cy ky ny fy sy wy ly) (ha : 0 ≤ a ∧ a ≤ 5) (x : FoX n dx cx kx fx a D v) : fLo a ≤ v ∧ v ≤ fHi a := by
  obtain ⟨on, s, x1, x2⟩ := x
  rcases x2 with ⟨-, b, -⟩ | ⟨r, j, a1, a2, a3, a4, a5, a6, -⟩
  · rw [b]
    rcases (by omega : a = 0 ∨ a = 1 ∨ a = 2 ∨ a = 3 ∨ a = 4 ∨ a = 5) with q | q | q | q | q | q <;> rw [q] <;> exact ⟨by decide, by decide⟩
  · have z := (h r (by omega)).2.2.2.2 j a3 a4
    have g := z.2.2.2.1
    have a5 : (kx j).toInt = a := a5
    have a6 : v = (fx j).toInt := a6
    obtain ⟨g1, g2, g3, g4, -, -⟩ := g
    rw [a5] at g3 g4
    rw [← a6] at g3 g4
    rcases (by omega : a = 0 ∨ a = 1 ∨ a = 2 ∨ a = 3 ∨ a = 4 ∨ a = 5) with q | q | q | q | q | q
    · rw [q] at g3 ⊢; exact g3 (by decide)
    · rw [q] at g3 ⊢; exact g3 (by decide)
    · rw [q] at g3 ⊢; exact g3 (by decide)
    · rw [q] at g3 ⊢; exact g3 (by decide)
    · rw [q] at g3 ⊢; exact g3 (by decide)
    · rw [q] at g4 ⊢; exact g4 rfl
theorem bk_K {n : Int} {dx cx kx fx sx lx dy cy ky ny fy sy wy ly : Nat → Int32} (h : BkE n dx cx kx fx sx lx dy cy ky ny fy sy wy ly) : ∀ k j : Nat, (k : Int) < n → 12 * k ≤ j → (j : Int) < 12 * (k : Int) + (cy k).toInt → (ky j).toInt = 3 → 0 ≤ (fy j).toInt ∧ (fy j).toInt < (k : Int) := by
  intro k j h1 h2 h3 h4
  have q := h k h1
  rw [← q.2.1] at h3
  have z := q.2.2.2.2 j h2 h3
  have c := ClE_k z
  have g := z.2.2.2.1.2.2.2.2.2 (by omega)
  rw [z.2.1] at g
  exact g
