/-! ===== rd0 ===== -/
def w_let (t : Nat → Int) (s e : Int) : Prop := e - s = 3 ∧ t (s.toNat + 0) = 108 ∧ t (s.toNat + 1) = 101 ∧ t (s.toNat + 2) = 116
def w_take (t : Nat → Int) (s e : Int) : Prop := e - s = 4 ∧ t (s.toNat + 0) = 116 ∧ t (s.toNat + 1) = 97 ∧ t (s.toNat + 2) = 107 ∧ t (s.toNat + 3) = 101
def w_name (t : Nat → Int) (s e : Int) : Prop := e - s = 4 ∧ t (s.toNat + 0) = 110 ∧ t (s.toNat + 1) = 97 ∧ t (s.toNat + 2) = 109 ∧ t (s.toNat + 3) = 101
def w_strike (t : Nat → Int) (s e : Int) : Prop := e - s = 6 ∧ t (s.toNat + 0) = 115 ∧ t (s.toNat + 1) = 116 ∧ t (s.toNat + 2) = 114 ∧ t (s.toNat + 3) = 105 ∧ t (s.toNat + 4) = 107 ∧ t (s.toNat + 5) = 101
def w_water (t : Nat → Int) (s e : Int) : Prop := e - s = 5 ∧ t (s.toNat + 0) = 119 ∧ t (s.toNat + 1) = 97 ∧ t (s.toNat + 2) = 116 ∧ t (s.toNat + 3) = 101 ∧ t (s.toNat + 4) = 114
def w_skeins (t : Nat → Int) (s e : Int) : Prop := e - s = 6 ∧ t (s.toNat + 0) = 115 ∧ t (s.toNat + 1) = 107 ∧ t (s.toNat + 2) = 101 ∧ t (s.toNat + 3) = 105 ∧ t (s.toNat + 4) = 110 ∧ t (s.toNat + 5) = 115
def w_part (t : Nat → Int) (s e : Int) : Prop := e - s = 4 ∧ t (s.toNat + 0) = 112 ∧ t (s.toNat + 1) = 97 ∧ t (s.toNat + 2) = 114 ∧ t (s.toNat + 3) = 116
def w_looks (t : Nat → Int) (s e : Int) : Prop := e - s = 5 ∧ t (s.toNat + 0) = 108 ∧ t (s.toNat + 1) = 111 ∧ t (s.toNat + 2) = 111 ∧ t (s.toNat + 3) = 107 ∧ t (s.toNat + 4) = 115
def w_fee (t : Nat → Int) (s e : Int) : Prop := e - s = 3 ∧ t (s.toNat + 0) = 102 ∧ t (s.toNat + 1) = 101 ∧ t (s.toNat + 2) = 101
def w_mean (t : Nat → Int) (s e : Int) : Prop := e - s = 4 ∧ t (s.toNat + 0) = 109 ∧ t (s.toNat + 1) = 101 ∧ t (s.toNat + 2) = 97 ∧ t (s.toNat + 3) = 110
def w_least (t : Nat → Int) (s e : Int) : Prop := e - s = 5 ∧ t (s.toNat + 0) = 108 ∧ t (s.toNat + 1) = 101 ∧ t (s.toNat + 2) = 97 ∧ t (s.toNat + 3) = 115 ∧ t (s.toNat + 4) = 116
def w_middle (t : Nat → Int) (s e : Int) : Prop := e - s = 6 ∧ t (s.toNat + 0) = 109 ∧ t (s.toNat + 1) = 105 ∧ t (s.toNat + 2) = 100 ∧ t (s.toNat + 3) = 100 ∧ t (s.toNat + 4) = 108 ∧ t (s.toNat + 5) = 101
def w_to (t : Nat → Int) (s e : Int) : Prop := e - s = 2 ∧ t (s.toNat + 0) = 116 ∧ t (s.toNat + 1) = 111
noncomputable def kwK (t : Nat → Int) (s e : Int) : Int := @ite Int (w_let t s e) (Classical.propDecidable _) 0 (@ite Int (w_take t s e) (Classical.propDecidable _) 1 (@ite Int (w_name t s e) (Classical.propDecidable _) 2 (@ite Int (w_strike t s e) (Classical.propDecidable _) 3 (-1))))
theorem kwK_b (t : Nat → Int) (s e : Int) : -1 ≤ kwK t s e ∧ kwK t s e ≤ 3 := by
  unfold kwK
  split
  · exact ⟨by decide, by decide⟩
  · skip
    split
    · exact ⟨by decide, by decide⟩
    · skip
      split
      · exact ⟨by decide, by decide⟩
      · skip
        split
        · exact ⟨by decide, by decide⟩
        · exact ⟨by decide, by decide⟩
noncomputable def kwN (t : Nat → Int) (s e : Int) : Int := @ite Int (w_water t s e) (Classical.propDecidable _) 0 (@ite Int (w_skeins t s e) (Classical.propDecidable _) 1 (@ite Int (w_part t s e) (Classical.propDecidable _) 2 (@ite Int (w_looks t s e) (Classical.propDecidable _) 3 (@ite Int (w_fee t s e) (Classical.propDecidable _) 4 (-1)))))
theorem kwN_b (t : Nat → Int) (s e : Int) : -1 ≤ kwN t s e ∧ kwN t s e ≤ 4 := by
  unfold kwN
  split
  · exact ⟨by decide, by decide⟩
  · skip
    split
    · exact ⟨by decide, by decide⟩
    · skip
      split
      · exact ⟨by decide, by decide⟩
      · skip
        split
        · exact ⟨by decide, by decide⟩
        · skip
          split
          · exact ⟨by decide, by decide⟩
          · exact ⟨by decide, by decide⟩
noncomputable def kwW (t : Nat → Int) (s e : Int) : Int := @ite Int (w_mean t s e) (Classical.propDecidable _) 0 (@ite Int (w_least t s e) (Classical.propDecidable _) 1 (@ite Int (w_middle t s e) (Classical.propDecidable _) 2 (-1)))
theorem kwW_b (t : Nat → Int) (s e : Int) : -1 ≤ kwW t s e ∧ kwW t s e ≤ 2 := by
  unfold kwW
  split
  · exact ⟨by decide, by decide⟩
  · skip
    split
    · exact ⟨by decide, by decide⟩
    · skip
      split
      · exact ⟨by decide, by decide⟩
      · exact ⟨by decide, by decide⟩

/-- blanks are passed over, from a to b -/
def Sk (t : Nat → Int) (n a b : Int) : Prop := a ≤ b ∧ (∀ j : Nat, a ≤ (j : Int) → (j : Int) < b → (j : Int) < n ∧ t j = 32) ∧ ¬ (b < n ∧ t b.toNat = 32)
/-- a run of signs in bounds, from a to b -/
def Rn (t : Nat → Int) (n lo hi a b : Int) : Prop := a ≤ b ∧ (∀ j : Nat, a ≤ (j : Int) → (j : Int) < b → (j : Int) < n ∧ lo ≤ t j ∧ t j ≤ hi) ∧ ¬ (b < n ∧ lo ≤ t b.toNat ∧ t b.toNat ≤ hi)
theorem Sk_un {t : Nat → Int} {n a b b' : Int} (h0 : 0 ≤ a) (h : Sk t n a b) (k : Sk t n a b') : b = b' := by
  obtain ⟨h1, h2, h3⟩ := h
  obtain ⟨k1, k2, k3⟩ := k
  by_cases q : b < b'
  · have z := k2 b.toNat (by omega) (by omega)
    exact absurd (⟨by omega, z.2⟩ : b < n ∧ t b.toNat = 32) h3
  · by_cases q' : b' < b
    · have z := h2 b'.toNat (by omega) (by omega)
      exact absurd (⟨by omega, z.2⟩ : b' < n ∧ t b'.toNat = 32) k3
    · omega
theorem Rn_un {t : Nat → Int} {n lo hi a b b' : Int} (h0 : 0 ≤ a) (h : Rn t n lo hi a b) (k : Rn t n lo hi a b') : b = b' := by
  obtain ⟨h1, h2, h3⟩ := h
  obtain ⟨k1, k2, k3⟩ := k
  by_cases q : b < b'
  · have z := k2 b.toNat (by omega) (by omega)
    exact absurd (⟨by omega, z.2⟩ : b < n ∧ lo ≤ t b.toNat ∧ t b.toNat ≤ hi) h3
  · by_cases q' : b' < b
    · have z := h2 b'.toNat (by omega) (by omega)
      exact absurd (⟨by omega, z.2⟩ : b' < n ∧ lo ≤ t b'.toNat ∧ t b'.toNat ≤ hi) k3
    · omega
theorem Sk_id {t : Nat → Int} {n a b : Int} (h : Sk t n a b) : Sk t n b b := ⟨Int.le_refl _, fun j h1 h2 => absurd h1 (by omega), h.2.2⟩
/-- what a run of figures is worth -/
def dv (t : Nat → Int) (s : Nat) : Nat → Int
  | 0 => 0
  | k + 1 => 10 * dv t s k + (t (s + k) - 48)
theorem dv_b {t : Nat → Int} {s : Nat} : ∀ k : Nat, (∀ j : Nat, j < k → 48 ≤ t (s + j) ∧ t (s + j) ≤ 57) → 0 ≤ dv t s k ∧ (k ≤ 0 → dv t s k ≤ 0) ∧ (k ≤ 1 → dv t s k ≤ 9) ∧ (k ≤ 2 → dv t s k ≤ 99) ∧ (k ≤ 3 → dv t s k ≤ 999) ∧ (k ≤ 4 → dv t s k ≤ 9999)
  | 0, _ => by
    have e : dv t s 0 = 0 := rfl
    rw [e]; exact ⟨by decide, fun _ => by decide, fun _ => by decide, fun _ => by decide, fun _ => by decide, fun _ => by decide⟩
  | k + 1, h => by
    have q := dv_b k (fun j hj => h j (by omega))
    have z := h k (by omega)
    have e : dv t s (k + 1) = 10 * dv t s k + (t (s + k) - 48) := rfl
    rw [e]
    exact ⟨by omega, fun _ => by omega, fun _ => by omega, fun _ => by omega, fun _ => by omega, fun _ => by omega⟩
/-- of a run of figures -/
theorem dv_r {t : Nat → Int} {n s e k : Int} (h0 : 0 ≤ s) (h : ∀ j : Nat, s ≤ (j : Int) → (j : Int) < e → (j : Int) < n ∧ 48 ≤ t j ∧ t j ≤ 57) (hk : s ≤ k) (hk2 : k ≤ e) : 0 ≤ dv t s.toNat (k - s).toNat ∧ (k - s ≤ 0 → dv t s.toNat (k - s).toNat ≤ 0) ∧ (k - s ≤ 1 → dv t s.toNat (k - s).toNat ≤ 9) ∧ (k - s ≤ 2 → dv t s.toNat (k - s).toNat ≤ 99) ∧ (k - s ≤ 3 → dv t s.toNat (k - s).toNat ≤ 999) ∧ (k - s ≤ 4 → dv t s.toNat (k - s).toNat ≤ 9999) := by
  have q := dv_b (t := t) (s := s.toNat) (k - s).toNat (fun j hj => (h (s.toNat + j) (by omega) (by omega)).2)
  exact ⟨q.1, fun h => q.2.1 (by omega), fun h => q.2.2.1 (by omega), fun h => q.2.2.2.1 (by omega), fun h => q.2.2.2.2.1 (by omega), fun h => q.2.2.2.2.2 (by omega)⟩
theorem dv_s {t : Nat → Int} {s k k' x : Int} (h0 : 0 ≤ s) (hk : s ≤ k) (h1 : k' = k + 1) (hx : x = t k.toNat) : dv t s.toNat (k' - s).toNat = 10 * dv t s.toNat (k - s).toNat + (x - 48) := by
  have e : (k' - s).toNat = (k - s).toNat + 1 := by omega
  have e2 : s.toNat + (k - s).toNat = k.toNat := by omega
  rw [e, hx]
  show 10 * dv t s.toNat (k - s).toNat + (t (s.toNat + (k - s).toNat) - 48) = _
  rw [e2]
/-- a number in bounds is read at a: f is the fault (0: none), p its place, v the number, b the place behind it -/
def Num (t : Nat → Int) (n lo hi a f p v b : Int) : Prop := ∃ s e : Int, Sk t n a s ∧ Rn t n 48 57 s e ∧ ((e = s ∧ f = 1 ∧ p = s) ∨ (s < e ∧ ¬ (e - s ≤ 4 ∧ lo ≤ dv t s.toNat (e - s).toNat ∧ dv t s.toNat (e - s).toNat ≤ hi) ∧ f = 2 ∧ p = s) ∨ (s < e ∧ (e - s ≤ 4 ∧ lo ≤ dv t s.toNat (e - s).toNat ∧ dv t s.toNat (e - s).toNat ≤ hi) ∧ f = 0 ∧ v = dv t s.toNat (e - s).toNat ∧ b = e))
theorem Num_un {t : Nat → Int} {n lo hi a f p v b f' p' v' b' : Int} (h0 : 0 ≤ a) (h : Num t n lo hi a f p v b) (k : Num t n lo hi a f' p' v' b') : f = f' ∧ (f = 0 ∨ p = p') ∧ (f ≠ 0 ∨ (v = v' ∧ b = b' ∧ a ≤ b)) := by
  obtain ⟨s, e, h1, h2, h3⟩ := h
  obtain ⟨s', e', k1, k2, k3⟩ := k
  have es := Sk_un h0 h1 k1
  subst es
  have hs := h1.1
  have ee := Rn_un (by omega) h2 k2
  subst ee
  have he := h2.1
  rcases h3 with ⟨a1, a2, a3⟩ | ⟨a1, a2, a3, a4⟩ | ⟨a1, a2, a3, a4, a5⟩
  · rcases k3 with ⟨c1, c2, c3⟩ | ⟨c1, c2, c3, c4⟩ | ⟨c1, c2, c3, c4, c5⟩
    · exact ⟨by omega, Or.inr (by omega), Or.inl (by omega)⟩
    · omega
    · omega
  · rcases k3 with ⟨c1, c2, c3⟩ | ⟨c1, c2, c3, c4⟩ | ⟨c1, c2, c3, c4, c5⟩
    · omega
    · exact ⟨by omega, Or.inr (by omega), Or.inl (by omega)⟩
    · exact absurd c2 a2
  · rcases k3 with ⟨c1, c2, c3⟩ | ⟨c1, c2, c3, c4⟩ | ⟨c1, c2, c3, c4, c5⟩
    · omega
    · exact absurd a2 c2
    · exact ⟨by omega, Or.inl (by omega), Or.inr ⟨by omega, by omega, by omega⟩⟩
/-- a number is the same where the blanks before it are passed over first -/
theorem Num_sk {t : Nat → Int} {n lo hi a s f p v b : Int} (h0 : 0 ≤ a) (hs : Sk t n a s) (h : Num t n lo hi s f p v b) : Num t n lo hi a f p v b := by
  obtain ⟨s', e, h1, h2, h3⟩ := h
  have es := Sk_un (by have := hs.1; omega) (Sk_id hs) h1
  subst es
  exact ⟨s, e, hs, h2, h3⟩
/-- a semicolon is read at a -/
def StpR (t : Nat → Int) (n a f p b : Int) : Prop := ∃ s : Int, Sk t n a s ∧ ((¬ (s < n ∧ t s.toNat = 59) ∧ f = 1 ∧ p = s) ∨ ((s < n ∧ t s.toNat = 59) ∧ f = 0 ∧ b = s + 1))
theorem StpR_un {t : Nat → Int} {n a f p b f' p' b' : Int} (h0 : 0 ≤ a) (h : StpR t n a f p b) (k : StpR t n a f' p' b') : f = f' ∧ (f = 0 ∨ p = p') ∧ (f ≠ 0 ∨ (b = b' ∧ a ≤ b)) := by
  obtain ⟨s, h1, h3⟩ := h
  obtain ⟨s', k1, k3⟩ := k
  have es := Sk_un h0 h1 k1
  subst es
  have hs := h1.1
  rcases h3 with ⟨a1, a2, a3⟩ | ⟨a1, a2, a3⟩
  · rcases k3 with ⟨c1, c2, c3⟩ | ⟨c1, c2, c3⟩
    · exact ⟨by omega, Or.inr (by omega), Or.inl (by omega)⟩
    · exact absurd c1 a1
  · rcases k3 with ⟨c1, c2, c3⟩ | ⟨c1, c2, c3⟩
    · exact absurd a1 c1
    · exact ⟨by omega, Or.inl (by omega), Or.inr ⟨by omega, by omega⟩⟩
def loN (r : Int) : Int := if r = 1 ∨ r = 3 then 1 else 0
def hiN (r : Int) : Int := if r = 0 then 300 else if r = 1 then 9 else if r = 2 then 200 else if r = 3 then 2 else 999
/-- the four clauses, each behind its first word, at a; kd, v1, v2, wd: what it says where it is good -/
def LetR (t : Nat → Int) (n a f p b kd v1 : Int) : Prop := ∃ s e : Int, Sk t n a s ∧ Rn t n 97 122 s e ∧ ((kwN t s e = -1 ∧ f = 1 ∧ p = s) ∨ (0 ≤ kwN t s e ∧ ∃ f1 p1 b1 : Int, Num t n (loN (kwN t s e)) (hiN (kwN t s e)) e f1 p1 v1 b1 ∧ ((f1 ≠ 0 ∧ f = f1 ∧ p = p1) ∨ (f1 = 0 ∧ kd = kwN t s e ∧ StpR t n b1 f p b))))
def TakR (t : Nat → Int) (n a f p b kd v1 : Int) : Prop := ∃ s e : Int, Sk t n a s ∧ Rn t n 97 122 s e ∧ ((kwW t s e = -1 ∧ f = 1 ∧ p = s) ∨ (0 ≤ kwW t s e ∧ kd = 5 ∧ v1 = kwW t s e ∧ StpR t n e f p b))
def StrR (t : Nat → Int) (n R a f p b kd v1 : Int) : Prop := ∃ f1 p1 b1 : Int, Num t n 0 9999 a f1 p1 v1 b1 ∧ ((f1 ≠ 0 ∧ f = f1 ∧ p = p1) ∨ (f1 = 0 ∧ R ≤ v1 ∧ f = 3 ∧ Sk t n a p) ∨ (f1 = 0 ∧ v1 < R ∧ kd = 7 ∧ StpR t n b1 f p b))
def NamR (t : Nat → Int) (n a f p b kd v1 v2 : Int) (wd : Nat → Int) : Prop := ∃ s e : Int, Sk t n a s ∧ Rn t n 97 122 s e ∧ ((e = s ∧ f = 1 ∧ p = s) ∨ (8 < e - s ∧ f = 4 ∧ p = s) ∨ ((s < e ∧ e - s ≤ 8) ∧ (∀ j : Nat, j < 8 → ((j : Int) < e - s → wd j = t (s.toNat + j)) ∧ (e - s ≤ (j : Int) → wd j = 0)) ∧ ∃ f1 p1 b1 : Int, Num t n 0 9999 e f1 p1 v1 b1 ∧ ((f1 ≠ 0 ∧ f = f1 ∧ p = p1) ∨ (f1 = 0 ∧ ∃ s2 e2 : Int, Sk t n b1 s2 ∧ Rn t n 97 122 s2 e2 ∧ ((¬ w_to t s2 e2 ∧ f = 1 ∧ p = s2) ∨ (w_to t s2 e2 ∧ ∃ f2 p2 b2 : Int, Num t n (v1 + 1) 9999 e2 f2 p2 v2 b2 ∧ ((f2 ≠ 0 ∧ f = f2 ∧ p = p2) ∨ (f2 = 0 ∧ kd = 6 ∧ StpR t n b2 f p b))))))))
theorem LetR_un {t : Nat → Int} {n a f p b kd v1 f' p' b' kd' v1' : Int} (h0 : 0 ≤ a) (h : LetR t n a f p b kd v1) (k : LetR t n a f' p' b' kd' v1') : f = f' ∧ (f = 0 ∨ p = p') ∧ (f ≠ 0 ∨ (b = b' ∧ a ≤ b ∧ kd = kd' ∧ v1 = v1' ∧ 0 ≤ kd ∧ kd ≤ 4)) := by
  obtain ⟨s, e, h1, h2, h3⟩ := h
  obtain ⟨s', e', k1, k2, k3⟩ := k
  have es := Sk_un h0 h1 k1
  subst es
  have hs := h1.1
  have ee := Rn_un (by omega) h2 k2
  subst ee
  have he := h2.1
  have hb := kwN_b t s e
  rcases h3 with ⟨a1, a2, a3⟩ | ⟨a1, f1, p1, b1, hn, h3⟩
  · rcases k3 with ⟨c1, c2, c3⟩ | ⟨c1, -⟩
    · exact ⟨by omega, Or.inr (by omega), Or.inl (by omega)⟩
    · omega
  · rcases k3 with ⟨c1, c2, c3⟩ | ⟨c1, f1', p1', b1', kn, k3⟩
    · omega
    · have u := Num_un (by omega) hn kn
      rcases h3 with ⟨a1, a2, a3⟩ | ⟨a1, a2, a3⟩
      · rcases k3 with ⟨c1, c2, c3⟩ | ⟨c1, c2, c3⟩
        · exact ⟨by omega, Or.inr (by omega), Or.inl (by omega)⟩
        · omega
      · rcases k3 with ⟨c1, c2, c3⟩ | ⟨c1, c2, c3⟩
        · omega
        · obtain ⟨u1, u2, u3⟩ := u.2.2.resolve_left (by omega)
          rw [← u2] at c3
          have w := StpR_un (by omega) a3 c3
          exact ⟨w.1, w.2.1, w.2.2.imp id (fun q => ⟨q.1, by omega, by omega, u1, by omega, by omega⟩)⟩
theorem TakR_un {t : Nat → Int} {n a f p b kd v1 f' p' b' kd' v1' : Int} (h0 : 0 ≤ a) (h : TakR t n a f p b kd v1) (k : TakR t n a f' p' b' kd' v1') : f = f' ∧ (f = 0 ∨ p = p') ∧ (f ≠ 0 ∨ (b = b' ∧ a ≤ b ∧ kd = kd' ∧ v1 = v1' ∧ kd = 5)) := by
  obtain ⟨s, e, h1, h2, h3⟩ := h
  obtain ⟨s', e', k1, k2, k3⟩ := k
  have es := Sk_un h0 h1 k1
  subst es
  have hs := h1.1
  have ee := Rn_un (by omega) h2 k2
  subst ee
  have he := h2.1
  rcases h3 with ⟨a1, a2, a3⟩ | ⟨a1, a2, a3, a4⟩
  · rcases k3 with ⟨c1, c2, c3⟩ | ⟨c1, c2, c3, c4⟩
    · exact ⟨by omega, Or.inr (by omega), Or.inl (by omega)⟩
    · omega
  · rcases k3 with ⟨c1, c2, c3⟩ | ⟨c1, c2, c3, c4⟩
    · omega
    · have w := StpR_un (by omega) a4 c4
      exact ⟨w.1, w.2.1, w.2.2.imp id (fun q => ⟨q.1, by omega, by omega, by omega, a2⟩)⟩
theorem StrR_un {t : Nat → Int} {n R a f p b kd v1 f' p' b' kd' v1' : Int} (h0 : 0 ≤ a) (h : StrR t n R a f p b kd v1) (k : StrR t n R a f' p' b' kd' v1') : f = f' ∧ (f = 0 ∨ p = p') ∧ (f ≠ 0 ∨ (b = b' ∧ a ≤ b ∧ kd = kd' ∧ v1 = v1' ∧ kd = 7)) := by
  obtain ⟨f1, p1, b1, hn, h3⟩ := h
  obtain ⟨f1', p1', b1', kn, k3⟩ := k
  have u := Num_un h0 hn kn
  rcases h3 with ⟨a1, a2, a3⟩ | ⟨a1, a2, a3, a4⟩ | ⟨a1, a2, a3, a4⟩
  · rcases k3 with ⟨c1, c2, c3⟩ | ⟨c1, c2, c3, c4⟩ | ⟨c1, c2, c3, c4⟩
    · exact ⟨by omega, Or.inr (by omega), Or.inl (by omega)⟩
    · omega
    · omega
  · rcases k3 with ⟨c1, c2, c3⟩ | ⟨c1, c2, c3, c4⟩ | ⟨c1, c2, c3, c4⟩
    · omega
    · exact ⟨by omega, Or.inr (Sk_un h0 a4 c4), Or.inl (by omega)⟩
    · have := u.2.2.resolve_left (by omega)
      omega
  · rcases k3 with ⟨c1, c2, c3⟩ | ⟨c1, c2, c3, c4⟩ | ⟨c1, c2, c3, c4⟩
    · omega
    · have := u.2.2.resolve_left (by omega)
      omega
    · obtain ⟨u1, u2, u3⟩ := u.2.2.resolve_left (by omega)
      rw [← u2] at c4
      have w := StpR_un (by omega) a4 c4
      exact ⟨w.1, w.2.1, w.2.2.imp id (fun q => ⟨q.1, by omega, by omega, u1, a3⟩)⟩
theorem NamR_un {t : Nat → Int} {n a f p b kd v1 v2 f' p' b' kd' v1' v2' : Int} {wd wd' : Nat → Int} (h0 : 0 ≤ a) (h : NamR t n a f p b kd v1 v2 wd) (k : NamR t n a f' p' b' kd' v1' v2' wd') : f = f' ∧ (f = 0 ∨ p = p') ∧ (f ≠ 0 ∨ (b = b' ∧ a ≤ b ∧ kd = kd' ∧ v1 = v1' ∧ v2 = v2' ∧ (∀ j : Nat, j < 8 → wd j = wd' j) ∧ kd = 6)) := by
  obtain ⟨s, e, h1, h2, h3⟩ := h
  obtain ⟨s', e', k1, k2, k3⟩ := k
  have es := Sk_un h0 h1 k1
  subst es
  have hs := h1.1
  have ee := Rn_un (by omega) h2 k2
  subst ee
  have he := h2.1
  rcases h3 with ⟨a1, a2, a3⟩ | ⟨a1, a2, a3⟩ | ⟨a1, a2, f1, p1, b1, hn, h3⟩
  · rcases k3 with ⟨c1, c2, c3⟩ | ⟨c1, c2, c3⟩ | ⟨c1, -⟩
    · exact ⟨by omega, Or.inr (by omega), Or.inl (by omega)⟩
    · omega
    · omega
  · rcases k3 with ⟨c1, c2, c3⟩ | ⟨c1, c2, c3⟩ | ⟨c1, -⟩
    · omega
    · exact ⟨by omega, Or.inr (by omega), Or.inl (by omega)⟩
    · omega
  · rcases k3 with ⟨c1, c2, c3⟩ | ⟨c1, c2, c3⟩ | ⟨c1, c2, f1', p1', b1', kn, k3⟩
    · omega
    · omega
    · have u := Num_un (by omega) hn kn
      have hw : ∀ j : Nat, j < 8 → wd j = wd' j := by
        intro j hj
        by_cases q : (j : Int) < e - s
        · rw [(a2 j hj).1 q, (c2 j hj).1 q]
        · rw [(a2 j hj).2 (by omega), (c2 j hj).2 (by omega)]
      rcases h3 with ⟨a1, a2, a3⟩ | ⟨a1, s2, e2, g1, g2, h3⟩
      · rcases k3 with ⟨c1, c2, c3⟩ | ⟨c1, -⟩
        · exact ⟨by omega, Or.inr (by omega), Or.inl (by omega)⟩
        · omega
      · rcases k3 with ⟨c1, c2, c3⟩ | ⟨c1, s2', e2', l1, l2, k3⟩
        · omega
        · obtain ⟨u1, u2, u3⟩ := u.2.2.resolve_left (by omega)
          subst u1
          subst u2
          have es := Sk_un (by omega) g1 l1
          subst es
          have hs2 := g1.1
          have ee := Rn_un (by omega) g2 l2
          subst ee
          have he2 := g2.1
          rcases h3 with ⟨a1, a2, a3⟩ | ⟨a1, f2, p2, b2, hm, h3⟩
          · rcases k3 with ⟨c1, c2, c3⟩ | ⟨c1, -⟩
            · exact ⟨by omega, Or.inr (by omega), Or.inl (by omega)⟩
            · exact absurd c1 a1
          · rcases k3 with ⟨c1, c2, c3⟩ | ⟨c1, f2', p2', b2', km, k3⟩
            · exact absurd a1 c1
            · have u := Num_un (by omega) hm km
              rcases h3 with ⟨a1, a2, a3⟩ | ⟨a1, a2, a3⟩
              · rcases k3 with ⟨c1, c2, c3⟩ | ⟨c1, c2, c3⟩
                · exact ⟨by omega, Or.inr (by omega), Or.inl (by omega)⟩
                · omega
              · rcases k3 with ⟨c1, c2, c3⟩ | ⟨c1, c2, c3⟩
                · omega
                · obtain ⟨u1, u2, u3⟩ := u.2.2.resolve_left (by omega)
                  rw [← u2] at c3
                  have w := StpR_un (by omega) a3 c3
                  exact ⟨w.1, w.2.1, w.2.2.imp id (fun q => ⟨q.1, by omega, by omega, rfl, u1, hw, a2⟩)⟩
/-- a clause at s, where a word may begin; c clauses stand before it, R rules -/
def ClR (t : Nat → Int) (n R s c f p b kd v1 v2 : Int) (wd : Nat → Int) : Prop := ∃ e : Int, Rn t n 97 122 s e ∧ ((kwK t s e = -1 ∧ f = 1 ∧ p = s) ∨ (0 ≤ kwK t s e ∧ 12 ≤ c ∧ f = 5 ∧ p = s) ∨ (kwK t s e = 0 ∧ c < 12 ∧ LetR t n e f p b kd v1) ∨ (kwK t s e = 1 ∧ c < 12 ∧ TakR t n e f p b kd v1) ∨ (kwK t s e = 2 ∧ c < 12 ∧ NamR t n e f p b kd v1 v2 wd) ∨ (kwK t s e = 3 ∧ c < 12 ∧ StrR t n R e f p b kd v1))
theorem ClR_un {t : Nat → Int} {n R s c f p b kd v1 v2 f' p' b' kd' v1' v2' : Int} {wd wd' : Nat → Int} (h0 : 0 ≤ s) (h : ClR t n R s c f p b kd v1 v2 wd) (k : ClR t n R s c f' p' b' kd' v1' v2' wd') : f = f' ∧ (f = 0 ∨ p = p') ∧ (f ≠ 0 ∨ (b = b' ∧ 0 ≤ b ∧ c < 12 ∧ kd = kd' ∧ v1 = v1' ∧ (kd = 6 → v2 = v2' ∧ ∀ j : Nat, j < 8 → wd j = wd' j))) := by
  obtain ⟨e, h2, h3⟩ := h
  obtain ⟨e', k2, k3⟩ := k
  have ee := Rn_un h0 h2 k2
  subst ee
  have he := h2.1
  rcases h3 with ⟨a1, a2, a3⟩ | ⟨a1, a2, a3, a4⟩ | ⟨a1, a2, a3⟩ | ⟨a1, a2, a3⟩ | ⟨a1, a2, a3⟩ | ⟨a1, a2, a3⟩
  · rcases k3 with ⟨c1, c2, c3⟩ | ⟨c1, -⟩ | ⟨c1, -⟩ | ⟨c1, -⟩ | ⟨c1, -⟩ | ⟨c1, -⟩
    · exact ⟨by omega, Or.inr (by omega), Or.inl (by omega)⟩
    · omega
    · omega
    · omega
    · omega
    · omega
  · rcases k3 with ⟨c1, -⟩ | ⟨c1, c2, c3, c4⟩ | ⟨c1, c2, -⟩ | ⟨c1, c2, -⟩ | ⟨c1, c2, -⟩ | ⟨c1, c2, -⟩
    · omega
    · exact ⟨by omega, Or.inr (by omega), Or.inl (by omega)⟩
    · omega
    · omega
    · omega
    · omega
  · rcases k3 with ⟨c1, -⟩ | ⟨c1, c2, -⟩ | ⟨c1, c2, c3⟩ | ⟨c1, -⟩ | ⟨c1, -⟩ | ⟨c1, -⟩
    · omega
    · omega
    · have w := LetR_un (by omega) a3 c3
      exact ⟨w.1, w.2.1, w.2.2.imp id (fun q => ⟨q.1, by omega, a2, q.2.2.1, q.2.2.2.1, fun z => by omega⟩)⟩
    · omega
    · omega
    · omega
  · rcases k3 with ⟨c1, -⟩ | ⟨c1, c2, -⟩ | ⟨c1, -⟩ | ⟨c1, c2, c3⟩ | ⟨c1, -⟩ | ⟨c1, -⟩
    · omega
    · omega
    · omega
    · have w := TakR_un (by omega) a3 c3
      exact ⟨w.1, w.2.1, w.2.2.imp id (fun q => ⟨q.1, by omega, a2, q.2.2.1, q.2.2.2.1, fun z => by omega⟩)⟩
    · omega
    · omega
  · rcases k3 with ⟨c1, -⟩ | ⟨c1, c2, -⟩ | ⟨c1, -⟩ | ⟨c1, -⟩ | ⟨c1, c2, c3⟩ | ⟨c1, -⟩
    · omega
    · omega
    · omega
    · omega
    · have w := NamR_un (by omega) a3 c3
      exact ⟨w.1, w.2.1, w.2.2.imp id (fun q => ⟨q.1, by omega, a2, q.2.2.1, q.2.2.2.1, fun z => ⟨q.2.2.2.2.1, q.2.2.2.2.2.1⟩⟩)⟩
    · omega
  · rcases k3 with ⟨c1, -⟩ | ⟨c1, c2, -⟩ | ⟨c1, -⟩ | ⟨c1, -⟩ | ⟨c1, -⟩ | ⟨c1, c2, c3⟩
    · omega
    · omega
    · omega
    · omega
    · omega
    · have w := StrR_un (by omega) a3 c3
      exact ⟨w.1, w.2.1, w.2.2.imp id (fun q => ⟨q.1, by omega, a2, q.2.2.1, q.2.2.2.1, fun z => by omega⟩)⟩
theorem NamR_cg {t : Nat → Int} {n a f p b kd v1 v2 : Int} {wd wd' : Nat → Int} (hw : ∀ j : Nat, j < 8 → wd j = wd' j) (h : NamR t n a f p b kd v1 v2 wd) : NamR t n a f p b kd v1 v2 wd' := by
  obtain ⟨s, e, h1, h2, h3⟩ := h
  refine ⟨s, e, h1, h2, ?_⟩
  rcases h3 with h3 | h3 | ⟨a1, a2, a3⟩
  · exact Or.inl h3
  · exact Or.inr (Or.inl h3)
  · exact Or.inr (Or.inr ⟨a1, fun j hj => by rw [← hw j hj]; exact a2 j hj, a3⟩)
theorem ClR_cg {t : Nat → Int} {n R s c f p b kd v1 v2 : Int} {wd wd' : Nat → Int} (hw : ∀ j : Nat, j < 8 → wd j = wd' j) (h : ClR t n R s c f p b kd v1 v2 wd) : ClR t n R s c f p b kd v1 v2 wd' := by
  obtain ⟨e, h2, h3⟩ := h
  refine ⟨e, h2, ?_⟩
  rcases h3 with h3 | h3 | h3 | h3 | ⟨a1, a2, a3⟩ | h3
  · exact Or.inl h3
  · exact Or.inr (Or.inl h3)
  · exact Or.inr (Or.inr (Or.inl h3))
  · exact Or.inr (Or.inr (Or.inr (Or.inl h3)))
  · exact Or.inr (Or.inr (Or.inr (Or.inr (Or.inl ⟨a1, a2, NamR_cg hw a3⟩))))
  · exact Or.inr (Or.inr (Or.inr (Or.inr (Or.inr h3))))
/-- so many clauses are good, and a is the place behind them -/
def Pf (t : Nat → Int) (n R : Int) (kd v1 v2 : Nat → Int) (wd : Nat → Nat → Int) : Nat → Int → Prop
  | 0, a => a = 0
  | c + 1, b => ∃ a s p : Int, Pf t n R kd v1 v2 wd c a ∧ Sk t n a s ∧ s < n ∧ ClR t n R s (c : Int) 0 p b (kd c) (v1 c) (v2 c) (wd c)
theorem Pf_S {t : Nat → Int} {n R : Int} {kd v1 v2 : Nat → Int} {wd : Nat → Nat → Int} {c : Nat} {a s p b : Int} (h1 : Pf t n R kd v1 v2 wd c a) (h2 : Sk t n a s) (h3 : s < n) (h4 : ClR t n R s (c : Int) 0 p b (kd c) (v1 c) (v2 c) (wd c)) : Pf t n R kd v1 v2 wd (c + 1) b := ⟨a, s, p, h1, h2, h3, h4⟩
theorem Pf_cg {t : Nat → Int} {n R : Int} {kd v1 v2 kd' v1' v2' : Nat → Int} {wd wd' : Nat → Nat → Int} : ∀ (c : Nat) (a : Int), (∀ i : Nat, i < c → kd i = kd' i ∧ v1 i = v1' i ∧ v2 i = v2' i ∧ ∀ j : Nat, j < 8 → wd i j = wd' i j) → Pf t n R kd v1 v2 wd c a → Pf t n R kd' v1' v2' wd' c a
  | 0, a, _, h => h
  | c + 1, b, hq, h => by
    obtain ⟨a, s, p, h1, h2, h3, h4⟩ := h
    have q := hq c (Nat.lt_succ_self c)
    rw [q.1, q.2.1, q.2.2.1] at h4
    exact ⟨a, s, p, Pf_cg c a (fun i hi => hq i (Nat.lt_succ_of_lt hi)) h1, h2, h3, ClR_cg q.2.2.2 h4⟩
theorem Pf_un {t : Nat → Int} {n R : Int} {kd v1 v2 kd' v1' v2' : Nat → Int} {wd wd' : Nat → Nat → Int} : ∀ (c : Nat) (a a' : Int), Pf t n R kd v1 v2 wd c a → Pf t n R kd' v1' v2' wd' c a' → a = a' ∧ 0 ≤ a ∧ ∀ i : Nat, i < c → kd i = kd' i ∧ v1 i = v1' i ∧ (kd i = 6 → v2 i = v2' i ∧ ∀ j : Nat, j < 8 → wd i j = wd' i j)
  | 0, a, a', h, k => by
    have h : a = 0 := h
    have k : a' = 0 := k
    exact ⟨by omega, by omega, fun i hi => absurd hi (Nat.not_lt_zero i)⟩
  | c + 1, b, b', h, k => by
    obtain ⟨a, s, p, h1, h2, h3, h4⟩ := h
    obtain ⟨a', s', p', k1, k2, k3, k4⟩ := k
    obtain ⟨ea, ha, hd⟩ := Pf_un c a a' h1 k1
    subst ea
    have es := Sk_un ha h2 k2
    subst es
    have hs := h2.1
    have w := ClR_un (by omega) h4 k4
    obtain ⟨w1, w2, w3, w4, w5, w6⟩ := w.2.2.resolve_left (fun q => q rfl)
    refine ⟨w1, w2, fun i hi => ?_⟩
    by_cases e : i = c
    · rw [e]; exact ⟨w4, w5, w6⟩
    · exact hd i (by omega)
/-- a longer reading begins with a shorter one -/
theorem Pf_le {t : Nat → Int} {n R : Int} {kd v1 v2 : Nat → Int} {wd : Nat → Nat → Int} {c : Nat} : ∀ (d : Nat) (b : Int), c < d → Pf t n R kd v1 v2 wd d b → ∃ b' : Int, Pf t n R kd v1 v2 wd (c + 1) b'
  | 0, _, h, _ => absurd h (Nat.not_lt_zero c)
  | d + 1, b, h, k => by
    by_cases e : c = d
    · rw [e]; exact ⟨b, k⟩
    · obtain ⟨a, s, p, h1, -⟩ := k
      exact Pf_le d a (by omega) h1
/-- the whole text: f its fault (0: none), p the fault's place, c how many clauses are good before that -/
def Out (t : Nat → Int) (n R f p : Int) (c : Nat) (kd v1 v2 : Nat → Int) (wd : Nat → Nat → Int) : Prop := ∃ a s : Int, Pf t n R kd v1 v2 wd c a ∧ Sk t n a s ∧ ((n ≤ s ∧ f = 0) ∨ (s < n ∧ f ≠ 0 ∧ ∃ (b k x y : Int) (w : Nat → Int), ClR t n R s (c : Int) f p b k x y w))
theorem Out_no {t : Nat → Int} {n R f p : Int} {kd v1 v2 kd' v1' v2' : Nat → Int} {wd wd' : Nat → Nat → Int} {c d : Nat} {b : Int} (h : Out t n R f p c kd v1 v2 wd) (k : Pf t n R kd' v1' v2' wd' d b) (hc : c < d) : False := by
  obtain ⟨b', a', s', p', k1, k2, k3, k4⟩ := Pf_le d b hc k
  obtain ⟨a, s, h1, h2, h3⟩ := h
  obtain ⟨ea, ha, -⟩ := Pf_un c a a' h1 k1
  subst ea
  have es := Sk_un ha h2 k2
  subst es
  rcases h3 with ⟨a1, -⟩ | ⟨a1, a2, b9, k9, x9, y9, w9, a3⟩
  · omega
  · have hs := h2.1
    exact a2 (ClR_un (by omega) a3 k4).1
theorem Out_un {t : Nat → Int} {n R f p f' p' : Int} {kd v1 v2 kd' v1' v2' : Nat → Int} {wd wd' : Nat → Nat → Int} {c c' : Nat} (h : Out t n R f p c kd v1 v2 wd) (k : Out t n R f' p' c' kd' v1' v2' wd') : c = c' ∧ f = f' ∧ (f = 0 ∨ p = p') ∧ ∀ i : Nat, i < c → kd i = kd' i ∧ v1 i = v1' i ∧ (kd i = 6 → v2 i = v2' i ∧ ∀ j : Nat, j < 8 → wd i j = wd' i j) := by
  have hcc : c = c' := by
    have h9 := h
    have k9 := k
    obtain ⟨a, s, h1, -⟩ := h9
    obtain ⟨a', s', k1, -⟩ := k9
    rcases Nat.lt_trichotomy c c' with q | q | q
    · exact (Out_no h k1 q).elim
    · exact q
    · exact (Out_no k h1 q).elim
  subst hcc
  obtain ⟨a, s, h1, h2, h3⟩ := h
  obtain ⟨a', s', k1, k2, k3⟩ := k
  obtain ⟨ea, ha, hd⟩ := Pf_un c a a' h1 k1
  subst ea
  have es := Sk_un ha h2 k2
  subst es
  have hs := h2.1
  refine ⟨rfl, ?_, ?_, hd⟩
  · rcases h3 with ⟨a1, a2⟩ | ⟨a1, a2, b9, k9, x9, y9, w9, a3⟩
    · rcases k3 with ⟨c1, c2⟩ | ⟨c1, -⟩
      · omega
      · omega
    · rcases k3 with ⟨c1, c2⟩ | ⟨c1, c2, b8, k8, x8, y8, w8, c3⟩
      · omega
      · exact (ClR_un (by omega) a3 c3).1
  · rcases h3 with ⟨a1, a2⟩ | ⟨a1, a2, b9, k9, x9, y9, w9, a3⟩
    · exact Or.inl a2
    · rcases k3 with ⟨c1, c2⟩ | ⟨c1, c2, b8, k8, x8, y8, w8, c3⟩
      · omega
      · exact (ClR_un (by omega) a3 c3).2.1

theorem nar_byte_id {x : Int32} (h : -128 ≤ x.toInt ∧ x.toInt ≤ 127) : vp_nar .byte x = x := by
  have e : x.toInt8.toInt32 = x := by
    apply Int32.toInt_inj.mp
    rw [Int8.toInt_toInt32, Int32.toInt_toInt8, Int.bmod_def]; omega
  exact e
theorem tab_lo {r : Int32} (h : 0 ≤ r.toInt ∧ r.toInt ≤ 4) : (C_LN r.toNatClampNeg).toInt = loN r.toInt := by
  rcases (by omega : r.toInt = 0 ∨ r.toInt = 1 ∨ r.toInt = 2 ∨ r.toInt = 3 ∨ r.toInt = 4) with q | q | q | q | q
  · rw [show r = 0 from z_of (by decide) q]; decide
  · rw [show r = 1 from z_of (by decide) q]; decide
  · rw [show r = 2 from z_of (by decide) q]; decide
  · rw [show r = 3 from z_of (by decide) q]; decide
  · rw [show r = 4 from z_of (by decide) q]; decide
theorem tab_hi {r : Int32} (h : 0 ≤ r.toInt ∧ r.toInt ≤ 4) : (C_MN r.toNatClampNeg).toInt = hiN r.toInt := by
  rcases (by omega : r.toInt = 0 ∨ r.toInt = 1 ∨ r.toInt = 2 ∨ r.toInt = 3 ∨ r.toInt = 4) with q | q | q | q | q
  · rw [show r = 0 from z_of (by decide) q]; decide
  · rw [show r = 1 from z_of (by decide) q]; decide
  · rw [show r = 2 from z_of (by decide) q]; decide
  · rw [show r = 3 from z_of (by decide) q]; decide
  · rw [show r = 4 from z_of (by decide) q]; decide
theorem loN_b (r : Int) : 0 ≤ loN r ∧ loN r ≤ 1 := by
  unfold loN; split
  · exact ⟨by decide, by decide⟩
  · exact ⟨by decide, by decide⟩
