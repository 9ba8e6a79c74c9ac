/-! ===== ho0 ===== -/

/-- a bit of a set, as both sides ask for it -/
def bt (o k : Int32) : Int32 := (o >>> (k &&& 31)) &&& 1
/-- how many bits a number below 4096 has -/
def pcI (x : Int) : Int := x % 2 + x / 2 % 2 + x / 4 % 2 + x / 8 % 2 + x / 16 % 2 + x / 32 % 2 + x / 64 % 2 + x / 128 % 2 + x / 256 % 2 + x / 512 % 2 + x / 1024 % 2 + x / 2048 % 2
theorem of_nat {a : Int32} (h : 0 ≤ a.toInt) : a = Int32.ofNat a.toInt.toNat := by
  apply Int32.toInt_inj.mp
  have h1 := Int32.toInt_lt a
  rw [Int32.toInt_ofNat_of_lt (by omega)]; omega
def bc1 (a : Int32) : Int32 := a - ((a.toUInt32 >>> ((1 : Int32).toUInt32 &&& Int32.toUInt32 31)).toInt32 &&& 1431655765)
def bc2 (a : Int32) : Int32 := (a &&& 858993459) + ((a.toUInt32 >>> ((2 : Int32).toUInt32 &&& Int32.toUInt32 31)).toInt32 &&& 858993459)
def bc3 (a : Int32) : Int32 := (a + (a.toUInt32 >>> ((4 : Int32).toUInt32 &&& Int32.toUInt32 31)).toInt32) &&& 252645135
def bc4 (a : Int32) : Int32 := a + (a.toUInt32 >>> ((8 : Int32).toUInt32 &&& Int32.toUInt32 31)).toInt32
def bc5 (a : Int32) : Int32 := (a + (a.toUInt32 >>> ((16 : Int32).toUInt32 &&& Int32.toUInt32 31)).toInt32) &&& 63
theorem bc_tab : ∀ n : Fin 256, (bc5 (bc4 (bc3 (bc2 (bc1 (Int32.ofNat n.val)))))).toInt = pcI (n.val : Int) := by decide +kernel
theorem bc_a {a : Int32} (h : 0 ≤ a.toInt ∧ a.toInt ≤ 255) : (bc5 (bc4 (bc3 (bc2 (bc1 a))))).toInt = pcI a.toInt := by
  have q := bc_tab ⟨a.toInt.toNat, by omega⟩
  rw [← of_nat h.1] at q
  rw [q]
  show pcI ((a.toInt.toNat : Nat) : Int) = _
  rw [Int.toNat_of_nonneg h.1]
def on_ (a : Int32) : Int32 := (((((((((((((((bt a 0 + bt a 1) + bt a 2) + bt a 3) + bt a 4) + bt a 5) + bt a 6) + bt a 7) + bt a 8) + bt a 9) + bt a 10) + bt a 11) + bt a 12) + bt a 13) + bt a 14) + bt a 15)
theorem on_tab : ∀ n : Fin 256, (on_ (Int32.ofNat n.val)).toInt = pcI (n.val : Int) := by decide +kernel
theorem on_a {a : Int32} (h : 0 ≤ a.toInt ∧ a.toInt ≤ 255) : (on_ a).toInt = pcI a.toInt := by
  have q := on_tab ⟨a.toInt.toNat, by omega⟩
  rw [← of_nat h.1] at q
  rw [q]
  show pcI ((a.toInt.toNat : Nat) : Int) = _
  rw [Int.toNat_of_nonneg h.1]
/-- two to a power, as both sides make it -/
theorem sh_tab : ∀ n : Fin 9, ((1 : Int32) <<< (Int32.ofNat n.val &&& 31)).toInt = 2 ^ n.val := by decide +kernel
theorem sh_a {a : Int32} (h : 0 ≤ a.toInt ∧ a.toInt ≤ 8) : ((1 : Int32) <<< (a &&& 31)).toInt = 2 ^ a.toInt.toNat := by
  have q := sh_tab ⟨a.toInt.toNat, by omega⟩
  rw [← of_nat h.1] at q
  exact q
theorem p2_b {n : Nat} (h : n ≤ 8) : (1 : Int) ≤ 2 ^ n ∧ (2 : Int) ^ n ≤ 256 := by
  have q : ∀ m : Fin 9, (1 : Int) ≤ 2 ^ m.val ∧ (2 : Int) ^ m.val ≤ 256 := by decide
  exact q ⟨n, by omega⟩
/-- the k-th is not left out -/
def cr (o : Int) (k : Nat) : Prop := (bt (Int32.ofInt o) (Int32.ofNat k)).toInt = 0
/-- the greatest (least) of those that are not left out, or the bound -/
def Mx (f : Nat → Int32) (o : Int) (n : Nat) (c r : Int) : Prop := c ≤ r ∧ (∀ k : Nat, k < n → cr o k → (f k).toInt ≤ r) ∧ (r = c ∨ ∃ k : Nat, k < n ∧ cr o k ∧ r = (f k).toInt)
def Mn (f : Nat → Int32) (o : Int) (n : Nat) (c r : Int) : Prop := r ≤ c ∧ (∀ k : Nat, k < n → cr o k → r ≤ (f k).toInt) ∧ (r = c ∨ ∃ k : Nat, k < n ∧ cr o k ∧ r = (f k).toInt)
theorem Mx_0 (f : Nat → Int32) (o c : Int) : Mx f o 0 c c := ⟨Int.le_refl _, fun k h => absurd h (Nat.not_lt_zero k), Or.inl rfl⟩
theorem Mn_0 (f : Nat → Int32) (o c : Int) : Mn f o 0 c c := ⟨Int.le_refl _, fun k h => absurd h (Nat.not_lt_zero k), Or.inl rfl⟩
theorem Mx_n {f : Nat → Int32} {o c r : Int} {n n' : Nat} (hn : n' = n + 1) (hb : ¬ cr o n) (h : Mx f o n c r) : Mx f o n' c r := by
  obtain ⟨h1, h2, h3⟩ := h
  refine ⟨h1, fun k hk hc => ?_, h3.imp id (fun ⟨k, a, b⟩ => ⟨k, by omega, b⟩)⟩
  by_cases e : k = n
  · rw [e] at hc; exact absurd hc hb
  · exact h2 k (by omega) hc
theorem Mn_n {f : Nat → Int32} {o c r : Int} {n n' : Nat} (hn : n' = n + 1) (hb : ¬ cr o n) (h : Mn f o n c r) : Mn f o n' c r := by
  obtain ⟨h1, h2, h3⟩ := h
  refine ⟨h1, fun k hk hc => ?_, h3.imp id (fun ⟨k, a, b⟩ => ⟨k, by omega, b⟩)⟩
  by_cases e : k = n
  · rw [e] at hc; exact absurd hc hb
  · exact h2 k (by omega) hc
theorem Mx_y {f : Nat → Int32} {o c r r' : Int} {n n' : Nat} (hn : n' = n + 1) (hb : cr o n) (h : Mx f o n c r) (h1 : r ≤ r') (h2 : (f n).toInt ≤ r') (h3 : r' = r ∨ r' = (f n).toInt) : Mx f o n' c r' := by
  obtain ⟨g1, g2, g3⟩ := h
  refine ⟨by omega, fun k hk hc => ?_, ?_⟩
  · by_cases e : k = n
    · rw [e]; exact h2
    · have := g2 k (by omega) hc
      omega
  · rcases h3 with e | e
    · rw [e]; exact g3.imp id (fun ⟨k, a, b⟩ => ⟨k, by omega, b⟩)
    · exact Or.inr ⟨n, by omega, hb, e⟩
theorem Mn_y {f : Nat → Int32} {o c r r' : Int} {n n' : Nat} (hn : n' = n + 1) (hb : cr o n) (h : Mn f o n c r) (h1 : r' ≤ r) (h2 : r' ≤ (f n).toInt) (h3 : r' = r ∨ r' = (f n).toInt) : Mn f o n' c r' := by
  obtain ⟨g1, g2, g3⟩ := h
  refine ⟨by omega, fun k hk hc => ?_, ?_⟩
  · by_cases e : k = n
    · rw [e]; exact h2
    · have := g2 k (by omega) hc
      omega
  · rcases h3 with e | e
    · rw [e]; exact g3.imp id (fun ⟨k, a, b⟩ => ⟨k, by omega, b⟩)
    · exact Or.inr ⟨n, by omega, hb, e⟩
/-- the rows are spans, and small -/
def Sp (lo hi : Nat → Int32) (n : Nat) : Prop := ∀ k : Nat, k < n → (lo k).toInt ≤ (hi k).toInt ∧ -10000 ≤ (lo k).toInt ∧ (lo k).toInt ≤ 10000 ∧ -10000 ≤ (hi k).toInt ∧ (hi k).toInt ≤ 10000
/-- there is some difference -/
def Fe (lo hi : Nat → Int32) (n : Nat) (o : Int) : Prop := ∀ a b : Nat, a < n → b < n → cr o a → cr o b → (lo a).toInt ≤ (hi b).toInt
theorem Fe_iff {lo hi : Nat → Int32} {n : Nat} {o c r s : Int} (hs : Sp lo hi n) (hc : 10000 ≤ c) (h : Mx lo o n (-c) r) (k : Mn hi o n c s) : r ≤ s ↔ Fe lo hi n o := by
  obtain ⟨h1, h2, h3⟩ := h
  obtain ⟨k1, k2, k3⟩ := k
  constructor
  · intro q a b ha hb ca cb
    have := h2 a ha ca
    have := k2 b hb cb
    omega
  · intro q
    rcases h3 with e | ⟨a, ha, ca, ea⟩
    · rcases k3 with e2 | ⟨b, hb, cb, eb⟩
      · omega
      · have := hs b hb
        omega
    · have := hs a ha
      rcases k3 with e2 | ⟨b, hb, cb, eb⟩
      · omega
      · have := q a b ha hb ca cb
        omega
/-- with one that is not left out the bound doesn't tell -/
theorem Mx_un {f g : Nat → Int32} {o c d r s : Int} {n k : Nat} (hf : ∀ j : Nat, j < n → f j = g j) (hk : k < n) (hc : cr o k) (h1 : c < (f k).toInt) (h2 : d < (g k).toInt) (h : Mx f o n c r) (q : Mx g o n d s) : r = s := by
  obtain ⟨a1, a2, a3⟩ := h
  obtain ⟨b1, b2, b3⟩ := q
  have z1 := a2 k hk hc
  have z2 := b2 k hk hc
  rcases a3 with e | ⟨i, hi, ci, ei⟩
  · omega
  · rcases b3 with e | ⟨j, hj, cj, ej⟩
    · omega
    · have y1 := a2 j hj cj
      have y2 := b2 i hi ci
      rw [← hf i hi] at y2
      rw [← hf j hj] at ej
      omega
theorem Mn_un {f g : Nat → Int32} {o c d r s : Int} {n k : Nat} (hf : ∀ j : Nat, j < n → f j = g j) (hk : k < n) (hc : cr o k) (h1 : (f k).toInt < c) (h2 : (g k).toInt < d) (h : Mn f o n c r) (q : Mn g o n d s) : r = s := by
  obtain ⟨a1, a2, a3⟩ := h
  obtain ⟨b1, b2, b3⟩ := q
  have z1 := a2 k hk hc
  have z2 := b2 k hk hc
  rcases a3 with e | ⟨i, hi, ci, ei⟩
  · omega
  · rcases b3 with e | ⟨j, hj, cj, ej⟩
    · omega
    · have y1 := a2 j hj cj
      have y2 := b2 i hi ci
      rw [← hf i hi] at y2
      rw [← hf j hj] at ej
      omega
/-- the set that is left out -/
def Lo (lo hi : Nat → Int32) (n : Nat) (b : Int) : Prop := 0 ≤ b ∧ b < 2 ^ n ∧ Fe lo hi n b ∧ ∀ o : Int, 0 ≤ o → o < 2 ^ n → Fe lo hi n o → pcI b < pcI o ∨ (pcI b = pcI o ∧ b ≤ o)
theorem Lo_un {lo hi : Nat → Int32} {n : Nat} {b c : Int} (h : Lo lo hi n b) (k : Lo lo hi n c) : b = c := by
  obtain ⟨h1, h2, h3, h4⟩ := h
  obtain ⟨k1, k2, k3, k4⟩ := k
  have := h4 c k1 k2 k3
  have := k4 b h1 h2 h3
  omega
theorem Fe_cg {lo hi lo' hi' : Nat → Int32} {n : Nat} {o : Int} (h : ∀ k : Nat, k < n → lo k = lo' k ∧ hi k = hi' k) (q : Fe lo hi n o) : Fe lo' hi' n o := by
  intro a b ha hb ca cb
  rw [← (h a ha).1, ← (h b hb).2]; exact q a b ha hb ca cb
theorem Lo_cg {lo hi lo' hi' : Nat → Int32} {n : Nat} {b : Int} (h : ∀ k : Nat, k < n → lo k = lo' k ∧ hi k = hi' k) (q : Lo lo hi n b) : Lo lo' hi' n b :=
  ⟨q.1, q.2.1, Fe_cg h q.2.2.1, fun o h1 h2 h3 => q.2.2.2 o h1 h2 (Fe_cg (fun k hk => ⟨(h k hk).1.symm, (h k hk).2.symm⟩) h3)⟩
/-- all are left out: nothing is asked -/
theorem al_tab : ∀ n : Fin 9, ∀ k : Fin 8, k.val < n.val → (bt (Int32.ofInt (2 ^ n.val - 1)) (Int32.ofNat k.val)).toInt = 1 := by decide +kernel
theorem Fe_all {lo hi : Nat → Int32} {n : Nat} (hn : n ≤ 8) : Fe lo hi n (2 ^ n - 1) := by
  intro a b ha hb ca cb
  have q := al_tab ⟨n, by omega⟩ ⟨a, by omega⟩ ha
  have c : (bt (Int32.ofInt (2 ^ n - 1)) (Int32.ofNat a)).toInt = 0 := ca
  have q : (bt (Int32.ofInt (2 ^ n - 1)) (Int32.ofNat a)).toInt = 1 := q
  omega
/-- all but the first -/
theorem a1_tab : ∀ n : Fin 9, 0 < n.val → pcI (2 ^ n.val - 2) < pcI (2 ^ n.val - 1) ∧ ∀ k : Fin 8, k.val < n.val → 0 < k.val → (bt (Int32.ofInt (2 ^ n.val - 2)) (Int32.ofNat k.val)).toInt = 1 := by decide +kernel
theorem cl_tab : ∀ n : Fin 9, ∀ o : Fin 256, o.val + 1 < 2 ^ n.val → ∃ k : Fin 8, k.val < n.val ∧ (bt (Int32.ofInt (o.val : Int)) (Int32.ofNat k.val)).toInt = 0 := by decide +kernel
/-- some bale is not left out -/
theorem Lo_cl {lo hi : Nat → Int32} {n : Nat} {b : Int} (hn : 0 < n) (h8 : n ≤ 8) (hs : Sp lo hi n) (h : Lo lo hi n b) : ∃ k : Nat, k < n ∧ cr b k := by
  obtain ⟨h1, h2, h3, h4⟩ := h
  have p := p2_b h8
  have q := a1_tab ⟨n, by omega⟩ hn
  have q1 : pcI (2 ^ n - 2) < pcI (2 ^ n - 1) := q.1
  have e : b ≠ 2 ^ n - 1 := by
    intro e
    have two : (2 : Int) ≤ 2 ^ n := by
      have z : ∀ m : Fin 9, 0 < m.val → (2 : Int) ≤ 2 ^ m.val := by decide
      exact z ⟨n, by omega⟩ hn
    have f : Fe lo hi n (2 ^ n - 2) := by
      intro x y hx hy cx cy
      have ex : x = 0 := by
        by_cases z : x = 0
        · exact z
        · have w := q.2 ⟨x, by omega⟩ hx (by show 0 < x; omega)
          have w : (bt (Int32.ofInt (2 ^ n - 2)) (Int32.ofNat x)).toInt = 1 := w
          have v : (bt (Int32.ofInt (2 ^ n - 2)) (Int32.ofNat x)).toInt = 0 := cx
          omega
      have ey : y = 0 := by
        by_cases z : y = 0
        · exact z
        · have w := q.2 ⟨y, by omega⟩ hy (by show 0 < y; omega)
          have w : (bt (Int32.ofInt (2 ^ n - 2)) (Int32.ofNat y)).toInt = 1 := w
          have v : (bt (Int32.ofInt (2 ^ n - 2)) (Int32.ofNat y)).toInt = 0 := cy
          omega
      rw [ex, ey]; exact (hs 0 hn).1
    have z := h4 (2 ^ n - 2) (by omega) (by omega) f
    rw [e] at z
    omega
  have c := cl_tab ⟨n, by omega⟩ ⟨b.toNat, by omega⟩ (by
    show b.toNat + 1 < 2 ^ n
    have z : ((2 ^ n : Nat) : Int) = (2 : Int) ^ n := by
      have y : ∀ m : Fin 9, ((2 ^ m.val : Nat) : Int) = (2 : Int) ^ m.val := by decide
      exact y ⟨n, by omega⟩
    omega)
  obtain ⟨k, k1, k2⟩ := c
  refine ⟨k.val, k1, ?_⟩
  have k2 : (bt (Int32.ofInt ((b.toNat : Nat) : Int)) (Int32.ofNat k.val)).toInt = 0 := k2
  rw [Int.toNat_of_nonneg h1] at k2
  exact k2
/-- the bit that was asked for -/
theorem cr_of {o k v : Int32} (h : v = bt o k) (hk : 0 ≤ k.toInt) : v.toInt = 0 ↔ cr o.toInt k.toInt.toNat := by
  unfold cr
  rw [Int32.ofInt_toInt, ← of_nat hk, h]
