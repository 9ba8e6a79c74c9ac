/-! ===== rd0 ===== -/
def w_let (t : Nat → Int) (s e : Int) : Prop := e - s = 3 ∧ t (s.toNat + 0) = 108 ∧ t (s.toNat + 1) = 101 ∧ t (s.toNat + 2) = 116
def w_take (t : Nat → Int) (s e : Int) : Prop := e - s = 4 ∧ t (s.toNat + 0) = 116 ∧ t (s.toNat + 1) = 97 ∧ t (s.toNat + 2) = 107 ∧ t (s.toNat + 3) = 101
def w_name (t : Nat → Int) (s e : Int) : Prop := e - s = 4 ∧ t (s.toNat + 0) = 110 ∧ t (s.toNat + 1) = 97 ∧ t (s.toNat + 2) = 109 ∧ t (s.toNat + 3) = 101
def w_strike (t : Nat → Int) (s e : Int) : Prop := e - s = 6 ∧ t (s.toNat + 0) = 115 ∧ t (s.toNat + 1) = 116 ∧ t (s.toNat + 2) = 114 ∧ t (s.toNat + 3) = 105 ∧ t (s.toNat + 4) = 107 ∧ t (s.toNat + 5) = 101
def w_water (t : Nat → Int) (s e : Int) : Prop := e - s = 5 ∧ t (s.toNat + 0) = 119 ∧ t (s.toNat + 1) = 97 ∧ t (s.toNat + 2) = 116 ∧ t (s.toNat + 3) = 101 ∧ t (s.toNat + 4) = 114
def w_skeins (t : Nat → Int) (s e : Int) : Prop := e - s = 6 ∧ t (s.toNat + 0) = 115 ∧ t (s.toNat + 1) = 107 ∧ t (s.toNat + 2) = 101 ∧ t (s.toNat + 3) = 105 ∧ t (s.toNat + 4) = 110 ∧ t (s.toNat + 5) = 115
def w_part (t : Nat → Int) (s e : Int) : Prop := e - s = 4 ∧ t (s.toNat + 0) = 112 ∧ t (s.toNat + 1) = 97 ∧ t (s.toNat + 2) = 114 ∧ t (s.toNat + 3) = 116
def w_looks (t : Nat → Int) (s e : Int) : Prop := e - s = 5 ∧ t (s.toNat + 0) = 108 ∧ t (s.toNat + 1) = 111 ∧ t (s.toNat + 2) = 111 ∧ t (s.toNat + 3) = 107 ∧ t (s.toNat + 4) = 115
def w_fee (t : Nat → Int) (s e : Int) : Prop := e - s = 3 ∧ t (s.toNat + 0) = 102 ∧ t (s.toNat + 1) = 101 ∧ t (s.toNat + 2) = 101
def w_mean (t : Nat → Int) (s e : Int) : Prop := e - s = 4 ∧ t (s.toNat + 0) = 109 ∧ t (s.toNat + 1) = 101 ∧ t (s.toNat + 2) = 97 ∧ t (s.toNat + 3) = 110
def w_least (t : Nat → Int) (s e : Int) : Prop := e - s = 5 ∧ t (s.toNat + 0) = 108 ∧ t (s.toNat + 1) = 101 ∧ t (s.toNat + 2) = 97 ∧ t (s.toNat + 3) = 115 ∧ t (s.toNat + 4) = 116
def w_middle (t : Nat → Int) (s e : Int) : Prop := e - s = 6 ∧ t (s.toNat + 0) = 109 ∧ t (s.toNat + 1) = 105 ∧ t (s.toNat + 2) = 100 ∧ t (s.toNat + 3) = 100 ∧ t (s.toNat + 4) = 108 ∧ t (s.toNat + 5) = 101
def w_to (t : Nat → Int) (s e : Int) : Prop := e - s = 2 ∧ t (s.toNat + 0) = 116 ∧ t (s.toNat + 1) = 111
noncomputable def kwK (t : Nat → Int) (s e : Int) : Int := @ite Int (w_let t s e) (Classical.propDecidable _) 0 (@ite Int (w_take t s e) (Classical.propDecidable _) 1 (@ite Int (w_name t s e) (Classical.propDecidable _) 2 (@ite Int (w_strike t s e) (Classical.propDecidable _) 3 (-1))))
theorem kwK_b (t : Nat → Int) (s e : Int) : -1 ≤ kwK t s e ∧ kwK t s e ≤ 3 := by
  unfold kwK
  split
  · exact ⟨by decide, by decide⟩
  · skip
    split
    · exact ⟨by decide, by decide⟩
    · skip
      split
      · exact ⟨by decide, by decide⟩
      · skip
        split
        · exact ⟨by decide, by decide⟩
        · exact ⟨by decide, by decide⟩
noncomputable def kwN (t : Nat → Int) (s e : Int) : Int := @ite Int (w_water t s e) (Classical.propDecidable _) 0 (@ite Int (w_skeins t s e) (Classical.propDecidable _) 1 (@ite Int (w_part t s e) (Classical.propDecidable _) 2 (@ite Int (w_looks t s e) (Classical.propDecidable _) 3 (@ite Int (w_fee t s e) (Classical.propDecidable _) 4 (-1)))))
theorem kwN_b (t : Nat → Int) (s e : Int) : -1 ≤ kwN t s e ∧ kwN t s e ≤ 4 := by
  unfold kwN
  split
  · exact ⟨by decide, by decide⟩
  · skip
    split
    · exact ⟨by decide, by decide⟩
    · skip
      split
      · exact ⟨by decide, by decide⟩
      · skip
        split
        · exact ⟨by decide, by decide⟩
        · skip
          split
          · exact ⟨by decide, by decide⟩
          · exact ⟨by decide, by decide⟩
noncomputable def kwW (t : Nat → Int) (s e : Int) : Int := @ite Int (w_mean t s e) (Classical.propDecidable _) 0 (@ite Int (w_least t s e) (Classical.propDecidable _) 1 (@ite Int (w_middle t s e) (Classical.propDecidable _) 2 (-1)))
theorem kwW_b (t : Nat → Int) (s e : Int) : -1 ≤ kwW t s e ∧ kwW t s e ≤ 2 := by
  unfold kwW
  split
  · exact ⟨by decide, by decide⟩
  · skip
    split
    · exact ⟨by decide, by decide⟩
    · skip
      split
      · exact ⟨by decide, by decide⟩
      · exact ⟨by decide, by decide⟩

/-- blanks are passed over, from a to b -/
def Sk (t : Nat → Int) (n a b : Int) : Prop := a ≤ b ∧ (∀ j : Nat, a ≤ (j : Int) → (j : Int) < b → (j : Int) < n ∧ t j = 32) ∧ ¬ (b < n ∧ t b.toNat = 32)
/-- a run of signs in bounds, from a to b -/
def Rn (t : Nat → Int) (n lo hi a b : Int) : Prop := a ≤ b ∧ (∀ j : Nat, a ≤ (j : Int) → (j : Int) < b → (j : Int) < n ∧ lo ≤ t j ∧ t j ≤ hi) ∧ ¬ (b < n ∧ lo ≤ t b.toNat ∧ t b.toNat ≤ hi)
theorem Sk_un {t : Nat → Int} {n a b b' : Int} (h0 : 0 ≤ a) (h : Sk t n a b) (k : Sk t n a b') : b = b' := by
  obtain ⟨h1, h2, h3⟩ := h
  obtain ⟨k1, k2, k3⟩ := k
  by_cases q : b < b'
  · have z := k2 b.toNat (by omega) (by omega)
    exact absurd (⟨by omega, z.2⟩ : b < n ∧ t b.toNat = 32) h3
  · by_cases q' : b' < b
    · have z := h2 b'.toNat (by omega) (by omega)
      exact absurd (⟨by omega, z.2⟩ : b' < n ∧ t b'.toNat = 32) k3
    · omega
theorem Rn_un {t : Nat → Int} {n lo hi a b b' : Int} (h0 : 0 ≤ a) (h : Rn t n lo hi a b) (k : Rn t n lo hi a b') : b = b' := by
  obtain ⟨h1, h2, h3⟩ := h
  obtain ⟨k1, k2, k3⟩ := k
  by_cases q : b < b'
  · have z := k2 b.toNat (by omega) (by omega)
    exact absurd (⟨by omega, z.2⟩ : b < n ∧ lo ≤ t b.toNat ∧ t b.toNat ≤ hi) h3
  · by_cases q' : b' < b
    · have z := h2 b'.toNat (by omega) (by omega)
      exact absurd (⟨by omega, z.2⟩ : b' < n ∧ lo ≤ t b'.toNat ∧ t b'.toNat ≤ hi) k3
    · omega
theorem Sk_id {t : Nat → Int} {n a b : Int} (h : Sk t n a b) : Sk t n b b := ⟨Int.le_refl _, fun j h1 h2 => absurd h1 (by omega), h.2.2⟩
/-- what a run of figures is worth -/
def dv (t : Nat → Int) (s : Nat) : Nat → Int
  | 0 => 0
  | k + 1 => 10 * dv t s k + (t (s + k) - 48)
theorem dv_b {t : Nat → Int} {s : Nat} : ∀ k : Nat, (∀ j : Nat, j < k → 48 ≤ t (s + j) ∧ t (s + j) ≤ 57) → 0 ≤ dv t s k ∧ (k ≤ 0 → dv t s k ≤ 0) ∧ (k ≤ 1 → dv t s k ≤ 9) ∧ (k ≤ 2 → dv t s k ≤ 99) ∧ (k ≤ 3 → dv t s k ≤ 999) ∧ (k ≤ 4 → dv t s k ≤ 9999)
  | 0, _ => by
    have e : dv t s 0 = 0 := rfl
    rw [e]; exact ⟨by decide, fun _ => by decide, fun _ => by decide, fun _ => by decide, fun _ => by decide, fun _ => by decide⟩
  | k + 1, h => by
    have q := dv_b k (fun j hj => h j (by omega))
    have z := h k (by omega)
    have e : dv t s (k + 1) = 10 * dv t s k + (t (s + k) - 48) := rfl
    rw [e]
    exact ⟨by omega, fun _ => by omega, fun _ => by omega, fun _ => by omega, fun _ => by omega, fun _ => by omega⟩
/-- of a run of figures -/
theorem dv_r {t : Nat → Int} {n s e k : Int} (h0 : 0 ≤ s) (h : ∀ j : Nat, s ≤ (j : Int) → (j : Int) < e → (j : Int) < n ∧ 48 ≤ t j ∧ t j ≤ 57) (hk : s ≤ k) (hk2 : k ≤ e) : 0 ≤ dv t s.toNat (k - s).toNat ∧ (k - s ≤ 0 → dv t s.toNat (k - s).toNat ≤ 0) ∧ (k - s ≤ 1 → dv t s.toNat (k - s).toNat ≤ 9) ∧ (k - s ≤ 2 → dv t s.toNat (k - s).toNat ≤ 99) ∧ (k - s ≤ 3 → dv t s.toNat (k - s).toNat ≤ 999) ∧ (k - s ≤ 4 → dv t s.toNat (k - s).toNat ≤ 9999) := by
  have q := dv_b (t := t) (s := s.toNat) (k - s).toNat (fun j hj => (h (s.toNat + j) (by omega) (by omega)).2)
  exact ⟨q.1, fun h => q.2.1 (by omega), fun h => q.2.2.1 (by omega), fun h => q.2.2.2.1 (by omega), fun h => q.2.2.2.2.1 (by omega), fun h => q.2.2.2.2.2 (by omega)⟩
theorem dv_s {t : Nat → Int} {s k k' x : Int} (h0 : 0 ≤ s) (hk : s ≤ k) (h1 : k' = k + 1) (hx : x = t k.toNat) : dv t s.toNat (k' - s).toNat = 10 * dv t s.toNat (k - s).toNat + (x - 48) := by
  have e : (k' - s).toNat = (k - s).toNat + 1 := by omega
  have e2 : s.toNat + (k - s).toNat = k.toNat := by omega
  rw [e, hx]
  show 10 * dv t s.toNat (k - s).toNat + (t (s.toNat + (k - s).toNat) - 48) = _
  rw [e2]
/-- a number in bounds is read at a: f is the fault (0: none), p its place, v the number, b the place behind it -/
def Num (t : Nat → Int) (n lo hi a f p v b : Int) : Prop := ∃ s e : Int, Sk t n a s ∧ Rn t n 48 57 s e ∧ ((e = s ∧ f = 1 ∧ p = s) ∨ (s < e ∧ ¬ (e - s ≤ 4 ∧ lo ≤ dv t s.toNat (e - s).toNat ∧ dv t s.toNat (e - s).toNat ≤ hi) ∧ f = 2 ∧ p = s) ∨ (s < e ∧ (e - s ≤ 4 ∧ lo ≤ dv t s.toNat (e - s).toNat ∧ dv t s.toNat (e - s).toNat ≤ hi) ∧ f = 0 ∧ v = dv t s.toNat (e - s).toNat ∧ b = e))
theorem Num_un {t : Nat → Int} {n lo hi a f p v b f' p' v' b' : Int} (h0 : 0 ≤ a) (h : Num t n lo hi a f p v b) (k : Num t n lo hi a f' p' v' b') : f = f' ∧ (f = 0 ∨ p = p') ∧ (f ≠ 0 ∨ (v = v' ∧ b = b' ∧ a ≤ b)) := by
  obtain ⟨s, e, h1, h2, h3⟩ := h
  obtain ⟨s', e', k1, k2, k3⟩ := k
  have es := Sk_un h0 h1 k1
  subst es
  have hs := h1.1
  have ee := Rn_un (by omega) h2 k2
  subst ee
  have he := h2.1
  rcases h3 with ⟨a1, a2, a3⟩ | ⟨a1, a2, a3, a4⟩ | ⟨a1, a2, a3, a4, a5⟩
  · rcases k3 with ⟨c1, c2, c3⟩ | ⟨c1, c2, c3, c4⟩ | ⟨c1, c2, c3, c4, c5⟩
    · exact ⟨by omega, Or.inr (by omega), Or.inl (by omega)⟩
    · omega
    · omega
  · rcases k3 with ⟨c1, c2, c3⟩ | ⟨c1, c2, c3, c4⟩ | ⟨c1, c2, c3, c4, c5⟩
    · omega
    · exact ⟨by omega, Or.inr (by omega), Or.inl (by omega)⟩
    · exact absurd c2 a2
  · rcases k3 with ⟨c1, c2, c3⟩ | ⟨c1, c2, c3, c4⟩ | ⟨c1, c2, c3, c4, c5⟩
    · omega
    · exact absurd a2 c2
    · exact ⟨by omega, Or.inl (by omega), Or.inr ⟨by omega, by omega, by omega⟩⟩
/-- a number is the same where the blanks before it are passed over first -/
theorem Num_sk {t : Nat → Int} {n lo hi a s f p v b : Int} (h0 : 0 ≤ a) (hs : Sk t n a s) (h : Num t n lo hi s f p v b) : Num t n lo hi a f p v b := by
  obtain ⟨s', e, h1, h2, h3⟩ := h
  have es := Sk_un (by have := hs.1; omega) (Sk_id hs) h1
  subst es
  exact ⟨s, e, hs, h2, h3⟩
/-- a semicolon is read at a -/
def StpR (t : Nat → Int) (n a f p b : Int) : Prop := ∃ s : Int, Sk t n a s ∧ ((¬ (s < n ∧ t s.toNat = 59) ∧ f = 1 ∧ p = s) ∨ ((s < n ∧ t s.toNat = 59) ∧ f = 0 ∧ b = s + 1))
theorem StpR_un {t : Nat → Int} {n a f p b f' p' b' : Int} (h0 : 0 ≤ a) (h : StpR t n a f p b) (k : StpR t n a f' p' b') : f = f' ∧ (f = 0 ∨ p = p') ∧ (f ≠ 0 ∨ (b = b' ∧ a ≤ b)) := by
  obtain ⟨s, h1, h3⟩ := h
  obtain ⟨s', k1, k3⟩ := k
  have es := Sk_un h0 h1 k1
  subst es
  have hs := h1.1
  rcases h3 with ⟨a1, a2, a3⟩ | ⟨a1, a2, a3⟩
  · rcases k3 with ⟨c1, c2, c3⟩ | ⟨c1, c2, c3⟩
    · exact ⟨by omega, Or.inr (by omega), Or.inl (by omega)⟩
    · exact absurd c1 a1
  · rcases k3 with ⟨c1, c2, c3⟩ | ⟨c1, c2, c3⟩
    · exact absurd a1 c1
    · exact ⟨by omega, Or.inl (by omega), Or.inr ⟨by omega, by omega⟩⟩
def loN (r : Int) : Int := if r = 1 ∨ r = 3 then 1 else 0
def hiN (r : Int) : Int := if r = 0 then 300 else if r = 1 then 9 else if r = 2 then 200 else if r = 3 then 2 else 999
/-- the four clauses, each behind its first word, at a; kd, v1, v2, wd: what it says where it is good -/
def LetR (t : Nat → Int) (n a f p b kd v1 : Int) : Prop := ∃ s e : Int, Sk t n a s ∧ Rn t n 97 122 s e ∧ ((kwN t s e = -1 ∧ f = 1 ∧ p = s) ∨ (0 ≤ kwN t s e ∧ ∃ f1 p1 b1 : Int, Num t n (loN (kwN t s e)) (hiN (kwN t s e)) e f1 p1 v1 b1 ∧ ((f1 ≠ 0 ∧ f = f1 ∧ p = p1) ∨ (f1 = 0 ∧ kd = kwN t s e ∧ StpR t n b1 f p b))))
def TakR (t : Nat → Int) (n a f p b kd v1 : Int) : Prop := ∃ s e : Int, Sk t n a s ∧ Rn t n 97 122 s e ∧ ((kwW t s e = -1 ∧ f = 1 ∧ p = s) ∨ (0 ≤ kwW t s e ∧ kd = 5 ∧ v1 = kwW t s e ∧ StpR t n e f p b))
def StrR (t : Nat → Int) (n R a f p b kd v1 : Int) : Prop := ∃ f1 p1 b1 : Int, Num t n 0 9999 a f1 p1 v1 b1 ∧ ((f1 ≠ 0 ∧ f = f1 ∧ p = p1) ∨ (f1 = 0 ∧ R ≤ v1 ∧ f = 3 ∧ Sk t n a p) ∨ (f1 = 0 ∧ v1 < R ∧ kd = 7 ∧ StpR t n b1 f p b))
def NamR (t : Nat → Int) (n a f p b kd v1 v2 : Int) (wd : Nat → Int) : Prop := ∃ s e : Int, Sk t n a s ∧ Rn t n 97 122 s e ∧ ((e = s ∧ f = 1 ∧ p = s) ∨ (8 < e - s ∧ f = 4 ∧ p = s) ∨ ((s < e ∧ e - s ≤ 8) ∧ (∀ j : Nat, j < 8 → ((j : Int) < e - s → wd j = t (s.toNat + j)) ∧ (e - s ≤ (j : Int) → wd j = 0)) ∧ ∃ f1 p1 b1 : Int, Num t n 0 9999 e f1 p1 v1 b1 ∧ ((f1 ≠ 0 ∧ f = f1 ∧ p = p1) ∨ (f1 = 0 ∧ ∃ s2 e2 : Int, Sk t n b1 s2 ∧ Rn t n 97 122 s2 e2 ∧ ((¬ w_to t s2 e2 ∧ f = 1 ∧ p = s2) ∨ (w_to t s2 e2 ∧ ∃ f2 p2 b2 : Int, Num t n (v1 + 1) 9999 e2 f2 p2 v2 b2 ∧ ((f2 ≠ 0 ∧ f = f2 ∧ p = p2) ∨ (f2 = 0 ∧ kd = 6 ∧ StpR t n b2 f p b))))))))
theorem LetR_un {t : Nat → Int} {n a f p b kd v1 f' p' b' kd' v1' : Int} (h0 : 0 ≤ a) (h : LetR t n a f p b kd v1) (k : LetR t n a f' p' b' kd' v1') : f = f' ∧ (f = 0 ∨ p = p') ∧ (f ≠ 0 ∨ (b = b' ∧ a ≤ b ∧ kd = kd' ∧ v1 = v1' ∧ 0 ≤ kd ∧ kd ≤ 4)) := by
  obtain ⟨s, e, h1, h2, h3⟩ := h
  obtain ⟨s', e', k1, k2, k3⟩ := k
  have es := Sk_un h0 h1 k1
  subst es
  have hs := h1.1
  have ee := Rn_un (by omega) h2 k2
  subst ee
  have he := h2.1
  have hb := kwN_b t s e
  rcases h3 with ⟨a1, a2, a3⟩ | ⟨a1, f1, p1, b1, hn, h3⟩
  · rcases k3 with ⟨c1, c2, c3⟩ | ⟨c1, -⟩
    · exact ⟨by omega, Or.inr (by omega), Or.inl (by omega)⟩
    · omega
  · rcases k3 with ⟨c1, c2, c3⟩ | ⟨c1, f1', p1', b1', kn, k3⟩
    · omega
    · have u := Num_un (by omega) hn kn
      rcases h3 with ⟨a1, a2, a3⟩ | ⟨a1, a2, a3⟩
      · rcases k3 with ⟨c1, c2, c3⟩ | ⟨c1, c2, c3⟩
        · exact ⟨by omega, Or.inr (by omega), Or.inl (by omega)⟩
        · omega
      · rcases k3 with ⟨c1, c2, c3⟩ | ⟨c1, c2, c3⟩
        · omega
        · obtain ⟨u1, u2, u3⟩ := u.2.2.resolve_left (by omega)
          rw [← u2] at c3
          have w := StpR_un (by omega) a3 c3
          exact ⟨w.1, w.2.1, w.2.2.imp id (fun q => ⟨q.1, by omega, by omega, u1, by omega, by omega⟩)⟩
theorem TakR_un {t : Nat → Int} {n a f p b kd v1 f' p' b' kd' v1' : Int} (h0 : 0 ≤ a) (h : TakR t n a f p b kd v1) (k : TakR t n a f' p' b' kd' v1') : f = f' ∧ (f = 0 ∨ p = p') ∧ (f ≠ 0 ∨ (b = b' ∧ a ≤ b ∧ kd = kd' ∧ v1 = v1' ∧ kd = 5)) := by
  obtain ⟨s, e, h1, h2, h3⟩ := h
  obtain ⟨s', e', k1, k2, k3⟩ := k
  have es := Sk_un h0 h1 k1
  subst es
  have hs := h1.1
  have ee := Rn_un (by omega) h2 k2
  subst ee
  have he := h2.1
  rcases h3 with ⟨a1, a2, a3⟩ | ⟨a1, a2, a3, a4⟩
  · rcases k3 with ⟨c1, c2, c3⟩ | ⟨c1, c2, c3, c4⟩
    · exact ⟨by omega, Or.inr (by omega), Or.inl (by omega)⟩
    · omega
  · rcases k3 with ⟨c1, c2, c3⟩ | ⟨c1, c2, c3, c4⟩
    · omega
    · have w := StpR_un (by omega) a4 c4
      exact ⟨w.1, w.2.1, w.2.2.imp id (fun q => ⟨q.1, by omega, by omega, by omega, a2⟩)⟩
theorem StrR_un {t : Nat → Int} {n R a f p b kd v1 f' p' b' kd' v1' : Int} (h0 : 0 ≤ a) (h : StrR t n R a f p b kd v1) (k : StrR t n R a f' p' b' kd' v1') : f = f' ∧ (f = 0 ∨ p = p') ∧ (f ≠ 0 ∨ (b = b' ∧ a ≤ b ∧ kd = kd' ∧ v1 = v1' ∧ kd = 7)) := by
  obtain ⟨f1, p1, b1, hn, h3⟩ := h
  obtain ⟨f1', p1', b1', kn, k3⟩ := k
  have u := Num_un h0 hn kn
  rcases h3 with ⟨a1, a2, a3⟩ | ⟨a1, a2, a3, a4⟩ | ⟨a1, a2, a3, a4⟩
  · rcases k3 with ⟨c1, c2, c3⟩ | ⟨c1, c2, c3, c4⟩ | ⟨c1, c2, c3, c4⟩
    · exact ⟨by omega, Or.inr (by omega), Or.inl (by omega)⟩
    · omega
    · omega
  · rcases k3 with ⟨c1, c2, c3⟩ | ⟨c1, c2, c3, c4⟩ | ⟨c1, c2, c3, c4⟩
    · omega
    · exact ⟨by omega, Or.inr (Sk_un h0 a4 c4), Or.inl (by omega)⟩
    · have := u.2.2.resolve_left (by omega)
      omega
  · rcases k3 with ⟨c1, c2, c3⟩ | ⟨c1, c2, c3, c4⟩ | ⟨c1, c2, c3, c4⟩
    · omega
    · have := u.2.2.resolve_left (by omega)
      omega
    · obtain ⟨u1, u2, u3⟩ := u.2.2.resolve_left (by omega)
      rw [← u2] at c4
      have w := StpR_un (by omega) a4 c4
      exact ⟨w.1, w.2.1, w.2.2.imp id (fun q => ⟨q.1, by omega, by omega, u1, a3⟩)⟩
theorem NamR_un {t : Nat → Int} {n a f p b kd v1 v2 f' p' b' kd' v1' v2' : Int} {wd wd' : Nat → Int} (h0 : 0 ≤ a) (h : NamR t n a f p b kd v1 v2 wd) (k : NamR t n a f' p' b' kd' v1' v2' wd') : f = f' ∧ (f = 0 ∨ p = p') ∧ (f ≠ 0 ∨ (b = b' ∧ a ≤ b ∧ kd = kd' ∧ v1 = v1' ∧ v2 = v2' ∧ (∀ j : Nat, j < 8 → wd j = wd' j) ∧ kd = 6)) := by
  obtain ⟨s, e, h1, h2, h3⟩ := h
  obtain ⟨s', e', k1, k2, k3⟩ := k
  have es := Sk_un h0 h1 k1
  subst es
  have hs := h1.1
  have ee := Rn_un (by omega) h2 k2
  subst ee
  have he := h2.1
  rcases h3 with ⟨a1, a2, a3⟩ | ⟨a1, a2, a3⟩ | ⟨a1, a2, f1, p1, b1, hn, h3⟩
  · rcases k3 with ⟨c1, c2, c3⟩ | ⟨c1, c2, c3⟩ | ⟨c1, -⟩
    · exact ⟨by omega, Or.inr (by omega), Or.inl (by omega)⟩
    · omega
    · omega
  · rcases k3 with ⟨c1, c2, c3⟩ | ⟨c1, c2, c3⟩ | ⟨c1, -⟩
    · omega
    · exact ⟨by omega, Or.inr (by omega), Or.inl (by omega)⟩
    · omega
  · rcases k3 with ⟨c1, c2, c3⟩ | ⟨c1, c2, c3⟩ | ⟨c1, c2, f1', p1', b1', kn, k3⟩
    · omega
    · omega
    · have u := Num_un (by omega) hn kn
      have hw : ∀ j : Nat, j < 8 → wd j = wd' j := by
        intro j hj
        by_cases q : (j : Int) < e - s
        · rw [(a2 j hj).1 q, (c2 j hj).1 q]
        · rw [(a2 j hj).2 (by omega), (c2 j hj).2 (by omega)]
      rcases h3 with ⟨a1, a2, a3⟩ | ⟨a1, s2, e2, g1, g2, h3⟩
      · rcases k3 with ⟨c1, c2, c3⟩ | ⟨c1, -⟩
        · exact ⟨by omega, Or.inr (by omega), Or.inl (by omega)⟩
        · omega
      · rcases k3 with ⟨c1, c2, c3⟩ | ⟨c1, s2', e2', l1, l2, k3⟩
        · omega
        · obtain ⟨u1, u2, u3⟩ := u.2.2.resolve_left (by omega)
          subst u1
          subst u2
          have es := Sk_un (by omega) g1 l1
          subst es
          have hs2 := g1.1
          have ee := Rn_un (by omega) g2 l2
          subst ee
          have he2 := g2.1
          rcases h3 with ⟨a1, a2, a3⟩ | ⟨a1, f2, p2, b2, hm, h3⟩
          · rcases k3 with ⟨c1, c2, c3⟩ | ⟨c1, -⟩
            · exact ⟨by omega, Or.inr (by omega), Or.inl (by omega)⟩
            · exact absurd c1 a1
          · rcases k3 with ⟨c1, c2, c3⟩ | ⟨c1, f2', p2', b2', km, k3⟩
            · exact absurd a1 c1
            · have u := Num_un (by omega) hm km
              rcases h3 with ⟨a1, a2, a3⟩ | ⟨a1, a2, a3⟩
              · rcases k3 with ⟨c1, c2, c3⟩ | ⟨c1, c2, c3⟩
                · exact ⟨by omega, Or.inr (by omega), Or.inl (by omega)⟩
                · omega
              · rcases k3 with ⟨c1, c2, c3⟩ | ⟨c1, c2, c3⟩
                · omega
                · obtain ⟨u1, u2, u3⟩ := u.2.2.resolve_left (by omega)
                  rw [← u2] at c3
                  have w := StpR_un (by omega) a3 c3
                  exact ⟨w.1, w.2.1, w.2.2.imp id (fun q => ⟨q.1, by omega, by omega, rfl, u1, hw, a2⟩)⟩
/-- a clause at s, where a word may begin; c clauses stand before it, R rules -/
def ClR (t : Nat → Int) (n R s c f p b kd v1 v2 : Int) (wd : Nat → Int) : Prop := ∃ e : Int, Rn t n 97 122 s e ∧ ((kwK t s e = -1 ∧ f = 1 ∧ p = s) ∨ (0 ≤ kwK t s e ∧ 12 ≤ c ∧ f = 5 ∧ p = s) ∨ (kwK t s e = 0 ∧ c < 12 ∧ LetR t n e f p b kd v1) ∨ (kwK t s e = 1 ∧ c < 12 ∧ TakR t n e f p b kd v1) ∨ (kwK t s e = 2 ∧ c < 12 ∧ NamR t n e f p b kd v1 v2 wd) ∨ (kwK t s e = 3 ∧ c < 12 ∧ StrR t n R e f p b kd v1))
theorem ClR_un {t : Nat → Int} {n R s c f p b kd v1 v2 f' p' b' kd' v1' v2' : Int} {wd wd' : Nat → Int} (h0 : 0 ≤ s) (h : ClR t n R s c f p b kd v1 v2 wd) (k : ClR t n R s c f' p' b' kd' v1' v2' wd') : f = f' ∧ (f = 0 ∨ p = p') ∧ (f ≠ 0 ∨ (b = b' ∧ 0 ≤ b ∧ c < 12 ∧ kd = kd' ∧ v1 = v1' ∧ (kd = 6 → v2 = v2' ∧ ∀ j : Nat, j < 8 → wd j = wd' j))) := by
  obtain ⟨e, h2, h3⟩ := h
  obtain ⟨e', k2, k3⟩ := k
  have ee := Rn_un h0 h2 k2
  subst ee
  have he := h2.1
  rcases h3 with ⟨a1, a2, a3⟩ | ⟨a1, a2, a3, a4⟩ | ⟨a1, a2, a3⟩ | ⟨a1, a2, a3⟩ | ⟨a1, a2, a3⟩ | ⟨a1, a2, a3⟩
  · rcases k3 with ⟨c1, c2, c3⟩ | ⟨c1, -⟩ | ⟨c1, -⟩ | ⟨c1, -⟩ | ⟨c1, -⟩ | ⟨c1, -⟩
    · exact ⟨by omega, Or.inr (by omega), Or.inl (by omega)⟩
    · omega
    · omega
    · omega
    · omega
    · omega
  · rcases k3 with ⟨c1, -⟩ | ⟨c1, c2, c3, c4⟩ | ⟨c1, c2, -⟩ | ⟨c1, c2, -⟩ | ⟨c1, c2, -⟩ | ⟨c1, c2, -⟩
    · omega
    · exact ⟨by omega, Or.inr (by omega), Or.inl (by omega)⟩
    · omega
    · omega
    · omega
    · omega
  · rcases k3 with ⟨c1, -⟩ | ⟨c1, c2, -⟩ | ⟨c1, c2, c3⟩ | ⟨c1, -⟩ | ⟨c1, -⟩ | ⟨c1, -⟩
    · omega
    · omega
    · have w := LetR_un (by omega) a3 c3
      exact ⟨w.1, w.2.1, w.2.2.imp id (fun q => ⟨q.1, by omega, a2, q.2.2.1, q.2.2.2.1, fun z => by omega⟩)⟩
    · omega
    · omega
    · omega
  · rcases k3 with ⟨c1, -⟩ | ⟨c1, c2, -⟩ | ⟨c1, -⟩ | ⟨c1, c2, c3⟩ | ⟨c1, -⟩ | ⟨c1, -⟩
    · omega
    · omega
    · omega
    · have w := TakR_un (by omega) a3 c3
      exact ⟨w.1, w.2.1, w.2.2.imp id (fun q => ⟨q.1, by omega, a2, q.2.2.1, q.2.2.2.1, fun z => by omega⟩)⟩
    · omega
    · omega
  · rcases k3 with ⟨c1, -⟩ | ⟨c1, c2, -⟩ | ⟨c1, -⟩ | ⟨c1, -⟩ | ⟨c1, c2, c3⟩ | ⟨c1, -⟩
    · omega
    · omega
    · omega
    · omega
    · have w := NamR_un (by omega) a3 c3
      exact ⟨w.1, w.2.1, w.2.2.imp id (fun q => ⟨q.1, by omega, a2, q.2.2.1, q.2.2.2.1, fun z => ⟨q.2.2.2.2.1, q.2.2.2.2.2.1⟩⟩)⟩
    · omega
  · rcases k3 with ⟨c1, -⟩ | ⟨c1, c2, -⟩ | ⟨c1, -⟩ | ⟨c1, -⟩ | ⟨c1, -⟩ | ⟨c1, c2, c3⟩
    · omega
    · omega
    · omega
    · omega
    · omega
    · have w := StrR_un (by omega) a3 c3
      exact ⟨w.1, w.2.1, w.2.2.imp id (fun q => ⟨q.1, by omega, a2, q.2.2.1, q.2.2.2.1, fun z => by omega⟩)⟩
theorem NamR_cg {t : Nat → Int} {n a f p b kd v1 v2 : Int} {wd wd' : Nat → Int} (hw : ∀ j : Nat, j < 8 → wd j = wd' j) (h : NamR t n a f p b kd v1 v2 wd) : NamR t n a f p b kd v1 v2 wd' := by
  obtain ⟨s, e, h1, h2, h3⟩ := h
  refine ⟨s, e, h1, h2, ?_⟩
  rcases h3 with h3 | h3 | ⟨a1, a2, a3⟩
  · exact Or.inl h3
  · exact Or.inr (Or.inl h3)
  · exact Or.inr (Or.inr ⟨a1, fun j hj => by rw [← hw j hj]; exact a2 j hj, a3⟩)
theorem ClR_cg {t : Nat → Int} {n R s c f p b kd v1 v2 : Int} {wd wd' : Nat → Int} (hw : ∀ j : Nat, j < 8 → wd j = wd' j) (h : ClR t n R s c f p b kd v1 v2 wd) : ClR t n R s c f p b kd v1 v2 wd' := by
  obtain ⟨e, h2, h3⟩ := h
  refine ⟨e, h2, ?_⟩
  rcases h3 with h3 | h3 | h3 | h3 | ⟨a1, a2, a3⟩ | h3
  · exact Or.inl h3
  · exact Or.inr (Or.inl h3)
  · exact Or.inr (Or.inr (Or.inl h3))
  · exact Or.inr (Or.inr (Or.inr (Or.inl h3)))
  · exact Or.inr (Or.inr (Or.inr (Or.inr (Or.inl ⟨a1, a2, NamR_cg hw a3⟩))))
  · exact Or.inr (Or.inr (Or.inr (Or.inr (Or.inr h3))))
/-- so many clauses are good, and a is the place behind them -/
def Pf (t : Nat → Int) (n R : Int) (kd v1 v2 : Nat → Int) (wd : Nat → Nat → Int) : Nat → Int → Prop
  | 0, a => a = 0
  | c + 1, b => ∃ a s p : Int, Pf t n R kd v1 v2 wd c a ∧ Sk t n a s ∧ s < n ∧ ClR t n R s (c : Int) 0 p b (kd c) (v1 c) (v2 c) (wd c)
theorem Pf_S {t : Nat → Int} {n R : Int} {kd v1 v2 : Nat → Int} {wd : Nat → Nat → Int} {c : Nat} {a s p b : Int} (h1 : Pf t n R kd v1 v2 wd c a) (h2 : Sk t n a s) (h3 : s < n) (h4 : ClR t n R s (c : Int) 0 p b (kd c) (v1 c) (v2 c) (wd c)) : Pf t n R kd v1 v2 wd (c + 1) b := ⟨a, s, p, h1, h2, h3, h4⟩
theorem Pf_cg {t : Nat → Int} {n R : Int} {kd v1 v2 kd' v1' v2' : Nat → Int} {wd wd' : Nat → Nat → Int} : ∀ (c : Nat) (a : Int), (∀ i : Nat, i < c → kd i = kd' i ∧ v1 i = v1' i ∧ v2 i = v2' i ∧ ∀ j : Nat, j < 8 → wd i j = wd' i j) → Pf t n R kd v1 v2 wd c a → Pf t n R kd' v1' v2' wd' c a
  | 0, a, _, h => h
  | c + 1, b, hq, h => by
    obtain ⟨a, s, p, h1, h2, h3, h4⟩ := h
    have q := hq c (Nat.lt_succ_self c)
    rw [q.1, q.2.1, q.2.2.1] at h4
    exact ⟨a, s, p, Pf_cg c a (fun i hi => hq i (Nat.lt_succ_of_lt hi)) h1, h2, h3, ClR_cg q.2.2.2 h4⟩
theorem Pf_un {t : Nat → Int} {n R : Int} {kd v1 v2 kd' v1' v2' : Nat → Int} {wd wd' : Nat → Nat → Int} : ∀ (c : Nat) (a a' : Int), Pf t n R kd v1 v2 wd c a → Pf t n R kd' v1' v2' wd' c a' → a = a' ∧ 0 ≤ a ∧ ∀ i : Nat, i < c → kd i = kd' i ∧ v1 i = v1' i ∧ (kd i = 6 → v2 i = v2' i ∧ ∀ j : Nat, j < 8 → wd i j = wd' i j)
  | 0, a, a', h, k => by
    have h : a = 0 := h
    have k : a' = 0 := k
    exact ⟨by omega, by omega, fun i hi => absurd hi (Nat.not_lt_zero i)⟩
  | c + 1, b, b', h, k => by
    obtain ⟨a, s, p, h1, h2, h3, h4⟩ := h
    obtain ⟨a', s', p', k1, k2, k3, k4⟩ := k
    obtain ⟨ea, ha, hd⟩ := Pf_un c a a' h1 k1
    subst ea
    have es := Sk_un ha h2 k2
    subst es
    have hs := h2.1
    have w := ClR_un (by omega) h4 k4
    obtain ⟨w1, w2, w3, w4, w5, w6⟩ := w.2.2.resolve_left (fun q => q rfl)
    refine ⟨w1, w2, fun i hi => ?_⟩
    by_cases e : i = c
    · rw [e]; exact ⟨w4, w5, w6⟩
    · exact hd i (by omega)
/-- a longer reading begins with a shorter one -/
theorem Pf_le {t : Nat → Int} {n R : Int} {kd v1 v2 : Nat → Int} {wd : Nat → Nat → Int} {c : Nat} : ∀ (d : Nat) (b : Int), c < d → Pf t n R kd v1 v2 wd d b → ∃ b' : Int, Pf t n R kd v1 v2 wd (c + 1) b'
  | 0, _, h, _ => absurd h (Nat.not_lt_zero c)
  | d + 1, b, h, k => by
    by_cases e : c = d
    · rw [e]; exact ⟨b, k⟩
    · obtain ⟨a, s, p, h1, -⟩ := k
      exact Pf_le d a (by omega) h1
/-- the whole text: f its fault (0: none), p the fault's place, c how many clauses are good before that -/
def Out (t : Nat → Int) (n R f p : Int) (c : Nat) (kd v1 v2 : Nat → Int) (wd : Nat → Nat → Int) : Prop := ∃ a s : Int, Pf t n R kd v1 v2 wd c a ∧ Sk t n a s ∧ ((n ≤ s ∧ f = 0) ∨ (s < n ∧ f ≠ 0 ∧ ∃ (b k x y : Int) (w : Nat → Int), ClR t n R s (c : Int) f p b k x y w))
theorem Out_no {t : Nat → Int} {n R f p : Int} {kd v1 v2 kd' v1' v2' : Nat → Int} {wd wd' : Nat → Nat → Int} {c d : Nat} {b : Int} (h : Out t n R f p c kd v1 v2 wd) (k : Pf t n R kd' v1' v2' wd' d b) (hc : c < d) : False := by
  obtain ⟨b', a', s', p', k1, k2, k3, k4⟩ := Pf_le d b hc k
  obtain ⟨a, s, h1, h2, h3⟩ := h
  obtain ⟨ea, ha, -⟩ := Pf_un c a a' h1 k1
  subst ea
  have es := Sk_un ha h2 k2
  subst es
  rcases h3 with ⟨a1, -⟩ | ⟨a1, a2, b9, k9, x9, y9, w9, a3⟩
  · omega
  · have hs := h2.1
    exact a2 (ClR_un (by omega) a3 k4).1
theorem Out_un {t : Nat → Int} {n R f p f' p' : Int} {kd v1 v2 kd' v1' v2' : Nat → Int} {wd wd' : Nat → Nat → Int} {c c' : Nat} (h : Out t n R f p c kd v1 v2 wd) (k : Out t n R f' p' c' kd' v1' v2' wd') : c = c' ∧ f = f' ∧ (f = 0 ∨ p = p') ∧ ∀ i : Nat, i < c → kd i = kd' i ∧ v1 i = v1' i ∧ (kd i = 6 → v2 i = v2' i ∧ ∀ j : Nat, j < 8 → wd i j = wd' i j) := by
  have hcc : c = c' := by
    have h9 := h
    have k9 := k
    obtain ⟨a, s, h1, -⟩ := h9
    obtain ⟨a', s', k1, -⟩ := k9
    rcases Nat.lt_trichotomy c c' with q | q | q
    · exact (Out_no h k1 q).elim
    · exact q
    · exact (Out_no k h1 q).elim
  subst hcc
  obtain ⟨a, s, h1, h2, h3⟩ := h
  obtain ⟨a', s', k1, k2, k3⟩ := k
  obtain ⟨ea, ha, hd⟩ := Pf_un c a a' h1 k1
  subst ea
  have es := Sk_un ha h2 k2
  subst es
  have hs := h2.1
  refine ⟨rfl, ?_, ?_, hd⟩
  · rcases h3 with ⟨a1, a2⟩ | ⟨a1, a2, b9, k9, x9, y9, w9, a3⟩
    · rcases k3 with ⟨c1, c2⟩ | ⟨c1, -⟩
      · omega
      · omega
    · rcases k3 with ⟨c1, c2⟩ | ⟨c1, c2, b8, k8, x8, y8, w8, c3⟩
      · omega
      · exact (ClR_un (by omega) a3 c3).1
  · rcases h3 with ⟨a1, a2⟩ | ⟨a1, a2, b9, k9, x9, y9, w9, a3⟩
    · exact Or.inl a2
    · rcases k3 with ⟨c1, c2⟩ | ⟨c1, c2, b8, k8, x8, y8, w8, c3⟩
      · omega
      · exact (ClR_un (by omega) a3 c3).2.1

theorem nar_byte_id {x : Int32} (h : -128 ≤ x.toInt ∧ x.toInt ≤ 127) : vp_nar .byte x = x := by
  have e : x.toInt8.toInt32 = x := by
    apply Int32.toInt_inj.mp
    rw [Int8.toInt_toInt32, Int32.toInt_toInt8, Int.bmod_def]; omega
  exact e
theorem tab_lo {r : Int32} (h : 0 ≤ r.toInt ∧ r.toInt ≤ 4) : (C_LN r.toNatClampNeg).toInt = loN r.toInt := by
  rcases (by omega : r.toInt = 0 ∨ r.toInt = 1 ∨ r.toInt = 2 ∨ r.toInt = 3 ∨ r.toInt = 4) with q | q | q | q | q
  · rw [show r = 0 from z_of (by decide) q]; decide
  · rw [show r = 1 from z_of (by decide) q]; decide
  · rw [show r = 2 from z_of (by decide) q]; decide
  · rw [show r = 3 from z_of (by decide) q]; decide
  · rw [show r = 4 from z_of (by decide) q]; decide
theorem tab_hi {r : Int32} (h : 0 ≤ r.toInt ∧ r.toInt ≤ 4) : (C_MN r.toNatClampNeg).toInt = hiN r.toInt := by
  rcases (by omega : r.toInt = 0 ∨ r.toInt = 1 ∨ r.toInt = 2 ∨ r.toInt = 3 ∨ r.toInt = 4) with q | q | q | q | q
  · rw [show r = 0 from z_of (by decide) q]; decide
  · rw [show r = 1 from z_of (by decide) q]; decide
  · rw [show r = 2 from z_of (by decide) q]; decide
  · rw [show r = 3 from z_of (by decide) q]; decide
  · rw [show r = 4 from z_of (by decide) q]; decide
theorem loN_b (r : Int) : 0 ≤ loN r ∧ loN r ≤ 1 := by
  unfold loN; split
  · exact ⟨by decide, by decide⟩
  · exact ⟨by decide, by decide⟩
/-! ===== rd1 ===== -/
set_option maxHeartbeats 4000000 in
set_option maxRecDepth 100000 in
/-- X8_skipBlanks -/
theorem c_X8_skipBlanks_r (l : Launch) (dC : Nat → ClassId) (dI : Nat → Nat → Nat) (sz : Nat) (h : Nat) (g : Nat → Nat → Nat) (ca : Nat → Nat → ClassId) (iv : Nat → Nat → Int32) (lv : Nat → Nat → Int64) (fa : Nat → Nat → Nat → Int32) (la : Nat → Nat → Nat → Int64) (hI : IX iv fa) : Met l yX8_skipBlanks (wc yX8_skipBlanks cX8_skipBlanks 1 (some .boolean)) ({ frames := 0, cells := 0, slots := 0, locals := 0 } : Room) (pW (dC, dI) classes (WX h g ca iv lv fa la) (TX ca) sz [.ref (g 11 4)]) (va_Qi (fun r (u : SS) => ∃ (ni_8_5 : Int32), inb (bI 8 5) ni_8_5 ∧ (Sk (fun j => ((fa 8 1) j).toInt) (iv 8 2).toInt (iv 8 5).toInt (ni_8_5).toInt) ∧ (((r.toInt = 1 ∧ (ni_8_5).toInt < (iv 8 2).toInt) ∨ (r.toInt = 0 ∧ (iv 8 2).toInt ≤ (ni_8_5).toInt))) ∧ (0 ≤ r.toInt ∧ r.toInt ≤ 1) ∧ u = ((u2 iv 8 5 ni_8_5), lv, fa, la)) (bX (dC, dI) h g ca (va_A (WX h g ca iv lv fa la) sz)) (va_A (WX h g ca iv lv fa la) sz)) 0 0 (va_A (WX h g ca iv lv fa la) sz) := by
  refine Met.ofW (cc := cX8_skipBlanks) (maxL := 1) (ret := (some .boolean)) (by decide) rfl ?_
  intro p e s m args below meth c s₁ B hml hv
  obtain ⟨rfl, hsz, hP, hK, hD0⟩ := hv
  have hx := B.exec
  have hb := B.bytes
  have hr := B.returns
  have ht := tb_tl (atoms_spec (ws := wc yX8_skipBlanks cX8_skipBlanks 1 (some .boolean)) B.pre)
  have hown : s.vm.findClass RX8 = some m.cls := findClass_of_methodNamed B.named
  have hlocks := B.notSynchronized
  subst hsz
  have hD := hD0.self (sz := s.heap.size)
  generalize hAe : va_A (WX h g ca iv lv fa la) s.heap.size = A at hD ⊢
  have hA : ∀ q : Nat, s.heap.size ≤ q → A q := fun q h => by rw [← hAe]; exact Or.inr h
  have hS : va_S A s.heap s.heap [] := va_S.rf
  have hl := lv_entry [.ref (g 11 4)] (n := 1) (Nat.le_of_ble_eq_true rfl)
  rw [lg_entry_eq]
  generalize (lg_sl [.ref (g 11 4)] ++ List.replicate (1 - (lg_sl [.ref (g 11 4)]).length) Slot.unset).toArray = ls at hl ⊢
  have hl : lv_has ls 1 [(0, .ref (g 11 4))] := hl
  have i_8_2 : 0 ≤ (iv 8 2).toInt ∧ (iv 8 2).toInt ≤ 200 := hI.1 8 2
  have lp16 : ∀ (nn16 : Nat) (w15_i_8_5 : Int32), 0 ≤ w15_i_8_5.toInt ∧ w15_i_8_5.toInt ≤ 200 → (iv 8 5).toInt ≤ (w15_i_8_5 : Int32).toInt → (∀ j : Nat, (iv 8 5).toInt ≤ (j : Int) → (j : Int) < (w15_i_8_5 : Int32).toInt → (j : Int) < ((iv 8 2) : Int32).toInt ∧ ((fa 8 1) j).toInt = 32) → 200 - w15_i_8_5.toInt < (nn16 : Int) → ∀ (H : Heap) (locs : List Loc), ∀ (ls : Array Slot), va_P (dC, dI) classes (WX h g ca (u2 iv 8 5 w15_i_8_5) lv fa la) H → va_D A (WX h g ca (u2 iv 8 5 w15_i_8_5) lv fa la) → va_S A s.heap H locs → lv_has ls 1 [(0, .ref (g 11 4))] → W p l e ({ frames := 0, cells := 0, slots := 0, locals := 0 } : Room) s m ([.ref (g 11 4)] : List Value).toArray below meth c H locs 0 0 (MQ below (va_Qi (fun r (u : SS) => ∃ (ni_8_5 : Int32), inb (bI 8 5) ni_8_5 ∧ (Sk (fun j => ((fa 8 1) j).toInt) (iv 8 2).toInt (iv 8 5).toInt (ni_8_5).toInt) ∧ (((r.toInt = 1 ∧ (ni_8_5).toInt < (iv 8 2).toInt) ∨ (r.toInt = 0 ∧ (iv 8 2).toInt ≤ (ni_8_5).toInt))) ∧ (0 ≤ r.toInt ∧ r.toInt ≤ 1) ∧ u = ((u2 iv 8 5 ni_8_5), lv, fa, la)) (bX (dC, dI) h g ca A) A) ([.ref (g 11 4)] : List Value).toArray s 0 0 A) (F0 m 0 ls []) := by
    intro nn16
    induction nn16 with
    | zero => intro w15_i_8_5 hw15_i_8_5 hq16_0 hq16_1 hm16; exfalso; omega
    | succ nn16 ih16 =>
      intro w15_i_8_5 hw15_i_8_5 hq16_0 hq16_1 hm16 H locs ls hP hD hS hl
      refine lv_aload_n hx hb dX8_skipBlanks_0 rfl (lv_at hl 0 rfl) ?_
      refine gX_8_5 hx hb ht hown hK hP m_235 (v := w15_i_8_5) rfl dX8_skipBlanks_1 ?_
      refine lv_aload_n hx hb dX8_skipBlanks_4 rfl (lv_at hl 0 rfl) ?_
      refine gX_8_2 hx hb ht hown hK hP m_230 (v := (iv 8 2)) rfl dX8_skipBlanks_5 ?_
      refine lv_icmp_ge (tgt := 38) hx hb dX8_skipBlanks_8 (by decide) (fun c17 => ?_) (fun c17 => ?_)
      · have fc17 := z_le (rfl : ((iv 8 2)).toInt = _) (rfl : (w15_i_8_5).toInt = _) c17
        refine lv_aload_n hx hb dX8_skipBlanks_38 rfl (lv_at hl 0 rfl) ?_
        refine gX_8_5 hx hb ht hown hK hP m_235 (v := w15_i_8_5) rfl dX8_skipBlanks_39 ?_
        refine lv_aload_n hx hb dX8_skipBlanks_42 rfl (lv_at hl 0 rfl) ?_
        refine gX_8_2 hx hb ht hown hK hP m_230 (v := (iv 8 2)) rfl dX8_skipBlanks_43 ?_
        refine lv_icmp_ge (tgt := 53) hx hb dX8_skipBlanks_46 (by decide) (fun c18 => ?_) (fun c18 => ?_)
        · have fc18 := z_le (rfl : ((iv 8 2)).toInt = _) (rfl : (w15_i_8_5).toInt = _) c18
          refine lv_iconst (v := 0) hx hb dX8_skipBlanks_53 (by decide) ?_
          have : (0 : Int32).toInt = 0 := (by decide)
          have hP9 : va_P (dC, dI) classes (WX h g ca (u2 iv 8 5 w15_i_8_5) lv fa la) H := hP
          have hD9 : va_D A (WX h g ca (u2 iv 8 5 w15_i_8_5) lv fa la) := hD
          exact W.zret (v := 0) hx hb hr rfl (fun t ht9 hW => ⟨⟨0, ((u2 iv 8 5 w15_i_8_5), lv, fa, la), rfl, ⟨w15_i_8_5, (show inb (0, 200) w15_i_8_5 from ⟨by omega, by omega⟩), (show Sk (fun j => ((fa 8 1) j).toInt) ((iv 8 2) : Int32).toInt (iv 8 5).toInt (w15_i_8_5 : Int32).toInt from ⟨by omega, hq16_1, fun q => by omega⟩), (show (((0 : Int32).toInt = 1 ∧ (w15_i_8_5 : Int32).toInt < ((iv 8 2) : Int32).toInt) ∨ ((0 : Int32).toInt = 0 ∧ ((iv 8 2) : Int32).toInt ≤ (w15_i_8_5 : Int32).toInt)) from by omega), ⟨by decide, by decide⟩, rfl⟩, by rw [ht9]; exact hP9, hD9⟩, hS.F ht9⟩) hS.2.2 dX8_skipBlanks_54
        · have fc18 := z_nle (rfl : ((iv 8 2)).toInt = _) (rfl : (w15_i_8_5).toInt = _) c18
          refine lv_iconst (v := 1) hx hb dX8_skipBlanks_49 (by decide) ?_
          refine lv_goto (tgt := 54) hx hb dX8_skipBlanks_50 (by decide) ?_
          have : (1 : Int32).toInt = 1 := (by decide)
          have hP9 : va_P (dC, dI) classes (WX h g ca (u2 iv 8 5 w15_i_8_5) lv fa la) H := hP
          have hD9 : va_D A (WX h g ca (u2 iv 8 5 w15_i_8_5) lv fa la) := hD
          exact W.zret (v := 1) hx hb hr rfl (fun t ht9 hW => ⟨⟨1, ((u2 iv 8 5 w15_i_8_5), lv, fa, la), rfl, ⟨w15_i_8_5, (show inb (0, 200) w15_i_8_5 from ⟨by omega, by omega⟩), (show Sk (fun j => ((fa 8 1) j).toInt) ((iv 8 2) : Int32).toInt (iv 8 5).toInt (w15_i_8_5 : Int32).toInt from ⟨by omega, hq16_1, fun q => by omega⟩), (show (((1 : Int32).toInt = 1 ∧ (w15_i_8_5 : Int32).toInt < ((iv 8 2) : Int32).toInt) ∨ ((1 : Int32).toInt = 0 ∧ ((iv 8 2) : Int32).toInt ≤ (w15_i_8_5 : Int32).toInt)) from by omega), ⟨by decide, by decide⟩, rfl⟩, by rw [ht9]; exact hP9, hD9⟩, hS.F ht9⟩) hS.2.2 dX8_skipBlanks_54
      · have fc17 := z_nle (rfl : ((iv 8 2)).toInt = _) (rfl : (w15_i_8_5).toInt = _) c17
        refine lv_aload_n hx hb dX8_skipBlanks_11 rfl (lv_at hl 0 rfl) ?_
        refine gX_8_1 hx hb ht hown hK hP m_229 dX8_skipBlanks_12 ?_
        refine lv_aload_n hx hb dX8_skipBlanks_15 rfl (lv_at hl 0 rfl) ?_
        refine gX_8_5 hx hb ht hown hK hP m_235 (v := w15_i_8_5) rfl dX8_skipBlanks_16 ?_
        refine lX_8_1 hx hb hK hP (f := (fa 8 1)) rfl (vp_in_iff.mpr ⟨by omega, by omega⟩) dX8_skipBlanks_19 ?_
        refine lv_topi (fun v19 ev19 => ?_)
        refine lv_bipush (v := 32) hx hb dX8_skipBlanks_20 (by decide) ?_
        refine lv_icmp_ne (tgt := 38) hx hb dX8_skipBlanks_22 (by decide) (fun c20 => ?_) (fun c20 => ?_)
        · have fc20 := z_ne (rfl : (v19).toInt = _) (by decide : (32 : Int32).toInt = 32) c20
          refine lv_aload_n hx hb dX8_skipBlanks_38 rfl (lv_at hl 0 rfl) ?_
          refine gX_8_5 hx hb ht hown hK hP m_235 (v := w15_i_8_5) rfl dX8_skipBlanks_39 ?_
          refine lv_aload_n hx hb dX8_skipBlanks_42 rfl (lv_at hl 0 rfl) ?_
          refine gX_8_2 hx hb ht hown hK hP m_230 (v := (iv 8 2)) rfl dX8_skipBlanks_43 ?_
          refine lv_icmp_ge (tgt := 53) hx hb dX8_skipBlanks_46 (by decide) (fun c21 => ?_) (fun c21 => ?_)
          · have fc21 := z_le (rfl : ((iv 8 2)).toInt = _) (rfl : (w15_i_8_5).toInt = _) c21
            refine lv_iconst (v := 0) hx hb dX8_skipBlanks_53 (by decide) ?_
            have : (0 : Int32).toInt = 0 := (by decide)
            have hP9 : va_P (dC, dI) classes (WX h g ca (u2 iv 8 5 w15_i_8_5) lv fa la) H := hP
            have hD9 : va_D A (WX h g ca (u2 iv 8 5 w15_i_8_5) lv fa la) := hD
            exact W.zret (v := 0) hx hb hr rfl (fun t ht9 hW => ⟨⟨0, ((u2 iv 8 5 w15_i_8_5), lv, fa, la), rfl, ⟨w15_i_8_5, (show inb (0, 200) w15_i_8_5 from ⟨by omega, by omega⟩), (show Sk (fun j => ((fa 8 1) j).toInt) ((iv 8 2) : Int32).toInt (iv 8 5).toInt (w15_i_8_5 : Int32).toInt from ⟨by omega, hq16_1, fun q => by have q2 : (fa 8 1 ((w15_i_8_5 : Int32).toInt).toNat).toInt = 32 := q.2; have hv9 := congrArg Int32.toInt (show v19 = (fa 8 1) ((w15_i_8_5 : Int32).toInt).toNat from ev19); omega⟩), (show (((0 : Int32).toInt = 1 ∧ (w15_i_8_5 : Int32).toInt < ((iv 8 2) : Int32).toInt) ∨ ((0 : Int32).toInt = 0 ∧ ((iv 8 2) : Int32).toInt ≤ (w15_i_8_5 : Int32).toInt)) from by omega), ⟨by decide, by decide⟩, rfl⟩, by rw [ht9]; exact hP9, hD9⟩, hS.F ht9⟩) hS.2.2 dX8_skipBlanks_54
          · have fc21 := z_nle (rfl : ((iv 8 2)).toInt = _) (rfl : (w15_i_8_5).toInt = _) c21
            refine lv_iconst (v := 1) hx hb dX8_skipBlanks_49 (by decide) ?_
            refine lv_goto (tgt := 54) hx hb dX8_skipBlanks_50 (by decide) ?_
            have : (1 : Int32).toInt = 1 := (by decide)
            have hP9 : va_P (dC, dI) classes (WX h g ca (u2 iv 8 5 w15_i_8_5) lv fa la) H := hP
            have hD9 : va_D A (WX h g ca (u2 iv 8 5 w15_i_8_5) lv fa la) := hD
            exact W.zret (v := 1) hx hb hr rfl (fun t ht9 hW => ⟨⟨1, ((u2 iv 8 5 w15_i_8_5), lv, fa, la), rfl, ⟨w15_i_8_5, (show inb (0, 200) w15_i_8_5 from ⟨by omega, by omega⟩), (show Sk (fun j => ((fa 8 1) j).toInt) ((iv 8 2) : Int32).toInt (iv 8 5).toInt (w15_i_8_5 : Int32).toInt from ⟨by omega, hq16_1, fun q => by have q2 : (fa 8 1 ((w15_i_8_5 : Int32).toInt).toNat).toInt = 32 := q.2; have hv9 := congrArg Int32.toInt (show v19 = (fa 8 1) ((w15_i_8_5 : Int32).toInt).toNat from ev19); omega⟩), (show (((1 : Int32).toInt = 1 ∧ (w15_i_8_5 : Int32).toInt < ((iv 8 2) : Int32).toInt) ∨ ((1 : Int32).toInt = 0 ∧ ((iv 8 2) : Int32).toInt ≤ (w15_i_8_5 : Int32).toInt)) from by omega), ⟨by decide, by decide⟩, rfl⟩, by rw [ht9]; exact hP9, hD9⟩, hS.F ht9⟩) hS.2.2 dX8_skipBlanks_54
        · have fc20 := z_eq (rfl : (v19).toInt = _) (by decide : (32 : Int32).toInt = 32) c20
          refine lv_aload_n hx hb dX8_skipBlanks_25 rfl (lv_at hl 0 rfl) ?_
          refine lv_dup hx hb dX8_skipBlanks_26 rfl ?_
          refine gX_8_5 hx hb ht hown hK hP m_235 (v := w15_i_8_5) rfl dX8_skipBlanks_27 ?_
          refine lv_iconst (v := 1) hx hb dX8_skipBlanks_30 (by decide) ?_
          refine lv_iadd hx hb dX8_skipBlanks_31 ?_
          refine lv_topi (fun v22 ev22 => ?_)
          have tv22 := z_add ev22 (rfl : (w15_i_8_5).toInt = _) (by decide : (1 : Int32).toInt = 1) (by omega) (by omega)
          refine pX_8_5 (v := v22) hx hb ht hown hK hP hD hS m_235 dX8_skipBlanks_32 (fun H locs hP hD hS => ?_)
          have hP : va_P (dC, dI) classes (WX h g ca (u2 iv 8 5 v22) lv fa la) H := hP
          have hD : va_D A (WX h g ca (u2 iv 8 5 v22) lv fa la) := hD
          refine lv_goto (tgt := 0) hx hb dX8_skipBlanks_35 (by decide) ?_
          exact ih16 v22 ⟨by omega, by omega⟩ (show (iv 8 5).toInt ≤ (v22 : Int32).toInt from by omega) (show ∀ j : Nat, (iv 8 5).toInt ≤ (j : Int) → (j : Int) < (v22 : Int32).toInt → (j : Int) < ((iv 8 2) : Int32).toInt ∧ ((fa 8 1) j).toInt = 32 from (fun j h1 h2 => by
                by_cases hj : (j : Int) < (w15_i_8_5 : Int32).toInt
                · exact hq16_1 j h1 hj
                · have hj2 : j = ((w15_i_8_5 : Int32).toInt).toNat := by omega
                  have hv9 := congrArg Int32.toInt (show v19 = (fa 8 1) ((w15_i_8_5 : Int32).toInt).toNat from ev19)
                  rw [hj2]
                  exact ⟨by omega, by omega⟩)) (by omega) _ _ ls hP hD hS (lv_sub hl [0] rfl)
  have i_8_5 : 0 ≤ (iv 8 5).toInt ∧ (iv 8 5).toInt ≤ 200 := hI.1 8 5
  have i_8_2 : 0 ≤ (iv 8 2).toInt ∧ (iv 8 2).toInt ≤ 200 := hI.1 8 2
  exact lp16 201 (iv 8 5) ⟨by omega, by omega⟩ (show (iv 8 5).toInt ≤ ((iv 8 5) : Int32).toInt from by omega) (show ∀ j : Nat, (iv 8 5).toInt ≤ (j : Int) → (j : Int) < ((iv 8 5) : Int32).toInt → (j : Int) < ((iv 8 2) : Int32).toInt ∧ ((fa 8 1) j).toInt = 32 from fun j h1 h2 => absurd h1 (by omega)) (by first | decide | omega) _ _ ls hP hD hS (lv_sub hl [0] rfl)
set_option maxHeartbeats 4000000 in
set_option maxRecDepth 100000 in
/-- X8_endOfRun -/
theorem c_X8_endOfRun_r97 (l : Launch) (dC : Nat → ClassId) (dI : Nat → Nat → Nat) (h : Nat) (g : Nat → Nat → Nat) (ca : Nat → Nat → ClassId) (iv : Nat → Nat → Int32) (lv : Nat → Nat → Int64) (fa : Nat → Nat → Nat → Int32) (la : Nat → Nat → Nat → Int64) (hI : IX iv fa) : Met l yX8_endOfRun (wc yX8_endOfRun cX8_endOfRun 4 (some .int)) ({ frames := 0, cells := 0, slots := 0, locals := 0 } : Room) (pR (dC, dI) classes (WX h g ca iv lv fa la) (TX ca) [.ref (g 11 4), .int 97, .int 122]) (vp_Si (fun r => (0 ≤ r.toInt ∧ r.toInt ≤ 200) ∧ (Rn (fun j => ((fa 8 1) j).toInt) (iv 8 2).toInt 97 122 (iv 8 5).toInt r.toInt) ∧ ((iv 8 5).toInt ≤ r.toInt))) 0 0 (fun _ => False) := by
  refine Met.ofW (cc := cX8_endOfRun) (maxL := 4) (ret := (some .int)) (by decide) rfl ?_
  intro p e s m args below meth c s₁ B hml hv
  obtain ⟨rfl, hP, hK⟩ := hv
  have hx := B.exec
  have hb := B.bytes
  have hr := B.returns
  have ht := tb_tl (atoms_spec (ws := wc yX8_endOfRun cX8_endOfRun 4 (some .int)) B.pre)
  have hown : s.vm.findClass RX8 = some m.cls := findClass_of_methodNamed B.named
  have hlocks := B.notSynchronized
  have hl := lv_entry [.ref (g 11 4), .int 97, .int 122] (n := 4) (Nat.le_of_ble_eq_true rfl)
  rw [lg_entry_eq]
  generalize (lg_sl [.ref (g 11 4), .int 97, .int 122] ++ List.replicate (4 - (lg_sl [.ref (g 11 4), .int 97, .int 122]).length) Slot.unset).toArray = ls at hl ⊢
  have hl : lv_has ls 4 [(0, .ref (g 11 4)), (1, .int 97), (2, .int 122)] := hl
  refine lv_aload_n hx hb dX8_endOfRun_0 rfl (lv_at hl 0 rfl) ?_
  have i_8_5 : 0 ≤ (iv 8 5).toInt ∧ (iv 8 5).toInt ≤ 200 := hI.1 8 5
  refine gX_8_5 hx hb ht hown hK hP m_235 (v := (iv 8 5)) rfl dX8_endOfRun_1 ?_
  refine lv_istore_n (lv' := [(3, .int (iv 8 5)), (0, .ref (g 11 4)), (1, .int 97), (2, .int 122)]) hx hb dX8_endOfRun_4 rfl hl (by decide) rfl (fun ls hl => ?_)
  have i_8_2 : 0 ≤ (iv 8 2).toInt ∧ (iv 8 2).toInt ≤ 200 := hI.1 8 2
  have lp9 : ∀ (nn9 : Nat) (x8_3 : Int32), 0 ≤ x8_3.toInt ∧ x8_3.toInt ≤ 200 → ((iv 8 5) : Int32).toInt ≤ (x8_3 : Int32).toInt → (∀ j : Nat, ((iv 8 5) : Int32).toInt ≤ (j : Int) → (j : Int) < (x8_3 : Int32).toInt → (j : Int) < ((iv 8 2) : Int32).toInt ∧ 97 ≤ ((fa 8 1) j).toInt ∧ ((fa 8 1) j).toInt ≤ 122) → 200 - x8_3.toInt < (nn9 : Int) → ∀ (ls : Array Slot), lv_has ls 4 [(3, .int x8_3), (0, .ref (g 11 4)), (1, .int 97), (2, .int 122)] → W p l e ({ frames := 0, cells := 0, slots := 0, locals := 0 } : Room) s m ([.ref (g 11 4), .int 97, .int 122] : List Value).toArray below meth c s.heap [] 0 0 (MQ below (vp_Si (fun r => (0 ≤ r.toInt ∧ r.toInt ≤ 200) ∧ (Rn (fun j => ((fa 8 1) j).toInt) (iv 8 2).toInt 97 122 (iv 8 5).toInt r.toInt) ∧ ((iv 8 5).toInt ≤ r.toInt))) ([.ref (g 11 4), .int 97, .int 122] : List Value).toArray s 0 0 (fun _ => False)) (F0 m 5 ls []) := by
    intro nn9
    induction nn9 with
    | zero => intro x8_3 hx8_3 hq9_0 hq9_1 hm9; exfalso; omega
    | succ nn9 ih9 =>
      intro x8_3 hx8_3 hq9_0 hq9_1 hm9 ls hl
      refine lv_iload_n hx hb dX8_endOfRun_5 rfl (lv_at hl 0 rfl) ?_
      refine lv_aload_n hx hb dX8_endOfRun_6 rfl (lv_at hl 1 rfl) ?_
      refine gX_8_2 hx hb ht hown hK hP m_230 (v := (iv 8 2)) rfl dX8_endOfRun_7 ?_
      refine lv_icmp_ge (tgt := 39) hx hb dX8_endOfRun_10 (by decide) (fun c10 => ?_) (fun c10 => ?_)
      · have fc10 := z_le (rfl : ((iv 8 2)).toInt = _) (rfl : (x8_3).toInt = _) c10
        refine lv_iload_n hx hb dX8_endOfRun_39 rfl (lv_at hl 0 rfl) ?_
        exact W.iret (v := x8_3) hx hb hr (fun t ht9 hW => ⟨x8_3, rfl, ⟨⟨by omega, by omega⟩, (show Rn (fun j => ((fa 8 1) j).toInt) ((iv 8 2) : Int32).toInt 97 122 ((iv 8 5) : Int32).toInt (x8_3 : Int32).toInt from ⟨by omega, hq9_1, fun q => by omega⟩), (show ((iv 8 5) : Int32).toInt ≤ (x8_3 : Int32).toInt from by omega)⟩, ht9⟩) (fun q hq => by cases hq) dX8_endOfRun_40
      · have fc10 := z_nle (rfl : ((iv 8 2)).toInt = _) (rfl : (x8_3).toInt = _) c10
        refine lv_aload_n hx hb dX8_endOfRun_13 rfl (lv_at hl 1 rfl) ?_
        refine gX_8_1 hx hb ht hown hK hP m_229 dX8_endOfRun_14 ?_
        refine lv_iload_n hx hb dX8_endOfRun_17 rfl (lv_at hl 0 rfl) ?_
        refine lX_8_1 hx hb hK hP (f := (fa 8 1)) rfl (vp_in_iff.mpr ⟨by omega, by omega⟩) dX8_endOfRun_18 ?_
        refine lv_topi (fun v11 ev11 => ?_)
        refine lv_iload_n hx hb dX8_endOfRun_19 rfl (lv_at hl 2 rfl) ?_
        refine lv_icmp_lt (tgt := 39) hx hb dX8_endOfRun_20 (by decide) (fun c12 => ?_) (fun c12 => ?_)
        · have fc12 := z_lt (rfl : (v11).toInt = _) (by decide : (97 : Int32).toInt = 97) c12
          refine lv_iload_n hx hb dX8_endOfRun_39 rfl (lv_at hl 0 rfl) ?_
          exact W.iret (v := x8_3) hx hb hr (fun t ht9 hW => ⟨x8_3, rfl, ⟨⟨by omega, by omega⟩, (show Rn (fun j => ((fa 8 1) j).toInt) ((iv 8 2) : Int32).toInt 97 122 ((iv 8 5) : Int32).toInt (x8_3 : Int32).toInt from ⟨by omega, hq9_1, fun q => by have q2 : 97 ≤ (fa 8 1 ((x8_3 : Int32).toInt).toNat).toInt ∧ (fa 8 1 ((x8_3 : Int32).toInt).toNat).toInt ≤ 122 := q.2; have hv9 := congrArg Int32.toInt (show v11 = (fa 8 1) ((x8_3 : Int32).toInt).toNat from ev11); omega⟩), (show ((iv 8 5) : Int32).toInt ≤ (x8_3 : Int32).toInt from by omega)⟩, ht9⟩) (fun q hq => by cases hq) dX8_endOfRun_40
        · have fc12 := z_nlt (rfl : (v11).toInt = _) (by decide : (97 : Int32).toInt = 97) c12
          refine lv_aload_n hx hb dX8_endOfRun_23 rfl (lv_at hl 1 rfl) ?_
          refine gX_8_1 hx hb ht hown hK hP m_229 dX8_endOfRun_24 ?_
          refine lv_iload_n hx hb dX8_endOfRun_27 rfl (lv_at hl 0 rfl) ?_
          refine lX_8_1 hx hb hK hP (f := (fa 8 1)) rfl (vp_in_iff.mpr ⟨by omega, by omega⟩) dX8_endOfRun_28 ?_
          refine lv_topi (fun v13 ev13 => ?_)
          obtain rfl : v11 = v13 := ev11.trans ev13.symm
          refine lv_iload_n hx hb dX8_endOfRun_29 rfl (lv_at hl 3 rfl) ?_
          refine lv_icmp_gt (tgt := 39) hx hb dX8_endOfRun_30 (by decide) (fun c14 => ?_) (fun c14 => ?_)
          · have fc14 := z_lt (by decide : (122 : Int32).toInt = 122) (rfl : (v11).toInt = _) c14
            refine lv_iload_n hx hb dX8_endOfRun_39 rfl (lv_at hl 0 rfl) ?_
            exact W.iret (v := x8_3) hx hb hr (fun t ht9 hW => ⟨x8_3, rfl, ⟨⟨by omega, by omega⟩, (show Rn (fun j => ((fa 8 1) j).toInt) ((iv 8 2) : Int32).toInt 97 122 ((iv 8 5) : Int32).toInt (x8_3 : Int32).toInt from ⟨by omega, hq9_1, fun q => by have q2 : 97 ≤ (fa 8 1 ((x8_3 : Int32).toInt).toNat).toInt ∧ (fa 8 1 ((x8_3 : Int32).toInt).toNat).toInt ≤ 122 := q.2; have hv9 := congrArg Int32.toInt (show v11 = (fa 8 1) ((x8_3 : Int32).toInt).toNat from ev11); omega⟩), (show ((iv 8 5) : Int32).toInt ≤ (x8_3 : Int32).toInt from by omega)⟩, ht9⟩) (fun q hq => by cases hq) dX8_endOfRun_40
          · have fc14 := z_nlt (by decide : (122 : Int32).toInt = 122) (rfl : (v11).toInt = _) c14
            obtain ⟨v15, ev15⟩ : ∃ y : Int32, y = x8_3 + 1 := ⟨_, rfl⟩
            have tv15 := z_add ev15 rfl (by decide : (1 : Int32).toInt = 1) (by omega) (by omega)
            refine lv_iinc (v := v15) (lv' := [(3, .int v15), (0, .ref (g 11 4)), (1, .int 97), (2, .int 122)]) hx hb dX8_endOfRun_33 hl (k := 0) rfl (by rw [ev15]; rfl) (by decide) rfl (fun ls hl => ?_)
            refine lv_goto (tgt := 5) hx hb dX8_endOfRun_36 (by decide) ?_
            exact ih9 v15 ⟨by omega, by omega⟩ (show ((iv 8 5) : Int32).toInt ≤ (v15 : Int32).toInt from by omega) (show ∀ j : Nat, ((iv 8 5) : Int32).toInt ≤ (j : Int) → (j : Int) < (v15 : Int32).toInt → (j : Int) < ((iv 8 2) : Int32).toInt ∧ 97 ≤ ((fa 8 1) j).toInt ∧ ((fa 8 1) j).toInt ≤ 122 from (fun j h1 h2 => by
                  by_cases hj : (j : Int) < (x8_3 : Int32).toInt
                  · exact hq9_1 j h1 hj
                  · have hj2 : j = ((x8_3 : Int32).toInt).toNat := by omega
                    have hv9 := congrArg Int32.toInt (show v11 = (fa 8 1) ((x8_3 : Int32).toInt).toNat from ev11)
                    rw [hj2]
                    exact ⟨by omega, by omega, by omega⟩)) (by omega) ls (lv_sub hl [0, 1, 2, 3] rfl)
  have i_8_2 : 0 ≤ (iv 8 2).toInt ∧ (iv 8 2).toInt ≤ 200 := hI.1 8 2
  exact lp9 201 (iv 8 5) ⟨by omega, by omega⟩ (show ((iv 8 5) : Int32).toInt ≤ ((iv 8 5) : Int32).toInt from by omega) (show ∀ j : Nat, ((iv 8 5) : Int32).toInt ≤ (j : Int) → (j : Int) < ((iv 8 5) : Int32).toInt → (j : Int) < ((iv 8 2) : Int32).toInt ∧ 97 ≤ ((fa 8 1) j).toInt ∧ ((fa 8 1) j).toInt ≤ 122 from fun j h1 h2 => absurd h1 (by omega)) (by first | decide | omega) ls (lv_sub hl [0, 1, 2, 3] rfl)
set_option maxHeartbeats 4000000 in
set_option maxRecDepth 100000 in
/-- X8_endOfRun -/
theorem c_X8_endOfRun_r48 (l : Launch) (dC : Nat → ClassId) (dI : Nat → Nat → Nat) (h : Nat) (g : Nat → Nat → Nat) (ca : Nat → Nat → ClassId) (iv : Nat → Nat → Int32) (lv : Nat → Nat → Int64) (fa : Nat → Nat → Nat → Int32) (la : Nat → Nat → Nat → Int64) (hI : IX iv fa) : Met l yX8_endOfRun (wc yX8_endOfRun cX8_endOfRun 4 (some .int)) ({ frames := 0, cells := 0, slots := 0, locals := 0 } : Room) (pR (dC, dI) classes (WX h g ca iv lv fa la) (TX ca) [.ref (g 11 4), .int 48, .int 57]) (vp_Si (fun r => (0 ≤ r.toInt ∧ r.toInt ≤ 200) ∧ (Rn (fun j => ((fa 8 1) j).toInt) (iv 8 2).toInt 48 57 (iv 8 5).toInt r.toInt) ∧ ((iv 8 5).toInt ≤ r.toInt))) 0 0 (fun _ => False) := by
  refine Met.ofW (cc := cX8_endOfRun) (maxL := 4) (ret := (some .int)) (by decide) rfl ?_
  intro p e s m args below meth c s₁ B hml hv
  obtain ⟨rfl, hP, hK⟩ := hv
  have hx := B.exec
  have hb := B.bytes
  have hr := B.returns
  have ht := tb_tl (atoms_spec (ws := wc yX8_endOfRun cX8_endOfRun 4 (some .int)) B.pre)
  have hown : s.vm.findClass RX8 = some m.cls := findClass_of_methodNamed B.named
  have hlocks := B.notSynchronized
  have hl := lv_entry [.ref (g 11 4), .int 48, .int 57] (n := 4) (Nat.le_of_ble_eq_true rfl)
  rw [lg_entry_eq]
  generalize (lg_sl [.ref (g 11 4), .int 48, .int 57] ++ List.replicate (4 - (lg_sl [.ref (g 11 4), .int 48, .int 57]).length) Slot.unset).toArray = ls at hl ⊢
  have hl : lv_has ls 4 [(0, .ref (g 11 4)), (1, .int 48), (2, .int 57)] := hl
  refine lv_aload_n hx hb dX8_endOfRun_0 rfl (lv_at hl 0 rfl) ?_
  have i_8_5 : 0 ≤ (iv 8 5).toInt ∧ (iv 8 5).toInt ≤ 200 := hI.1 8 5
  refine gX_8_5 hx hb ht hown hK hP m_235 (v := (iv 8 5)) rfl dX8_endOfRun_1 ?_
  refine lv_istore_n (lv' := [(3, .int (iv 8 5)), (0, .ref (g 11 4)), (1, .int 48), (2, .int 57)]) hx hb dX8_endOfRun_4 rfl hl (by decide) rfl (fun ls hl => ?_)
  have i_8_2 : 0 ≤ (iv 8 2).toInt ∧ (iv 8 2).toInt ≤ 200 := hI.1 8 2
  have lp9 : ∀ (nn9 : Nat) (x8_3 : Int32), 0 ≤ x8_3.toInt ∧ x8_3.toInt ≤ 200 → ((iv 8 5) : Int32).toInt ≤ (x8_3 : Int32).toInt → (∀ j : Nat, ((iv 8 5) : Int32).toInt ≤ (j : Int) → (j : Int) < (x8_3 : Int32).toInt → (j : Int) < ((iv 8 2) : Int32).toInt ∧ 48 ≤ ((fa 8 1) j).toInt ∧ ((fa 8 1) j).toInt ≤ 57) → 200 - x8_3.toInt < (nn9 : Int) → ∀ (ls : Array Slot), lv_has ls 4 [(3, .int x8_3), (0, .ref (g 11 4)), (1, .int 48), (2, .int 57)] → W p l e ({ frames := 0, cells := 0, slots := 0, locals := 0 } : Room) s m ([.ref (g 11 4), .int 48, .int 57] : List Value).toArray below meth c s.heap [] 0 0 (MQ below (vp_Si (fun r => (0 ≤ r.toInt ∧ r.toInt ≤ 200) ∧ (Rn (fun j => ((fa 8 1) j).toInt) (iv 8 2).toInt 48 57 (iv 8 5).toInt r.toInt) ∧ ((iv 8 5).toInt ≤ r.toInt))) ([.ref (g 11 4), .int 48, .int 57] : List Value).toArray s 0 0 (fun _ => False)) (F0 m 5 ls []) := by
    intro nn9
    induction nn9 with
    | zero => intro x8_3 hx8_3 hq9_0 hq9_1 hm9; exfalso; omega
    | succ nn9 ih9 =>
      intro x8_3 hx8_3 hq9_0 hq9_1 hm9 ls hl
      refine lv_iload_n hx hb dX8_endOfRun_5 rfl (lv_at hl 0 rfl) ?_
      refine lv_aload_n hx hb dX8_endOfRun_6 rfl (lv_at hl 1 rfl) ?_
      refine gX_8_2 hx hb ht hown hK hP m_230 (v := (iv 8 2)) rfl dX8_endOfRun_7 ?_
      refine lv_icmp_ge (tgt := 39) hx hb dX8_endOfRun_10 (by decide) (fun c10 => ?_) (fun c10 => ?_)
      · have fc10 := z_le (rfl : ((iv 8 2)).toInt = _) (rfl : (x8_3).toInt = _) c10
        refine lv_iload_n hx hb dX8_endOfRun_39 rfl (lv_at hl 0 rfl) ?_
        exact W.iret (v := x8_3) hx hb hr (fun t ht9 hW => ⟨x8_3, rfl, ⟨⟨by omega, by omega⟩, (show Rn (fun j => ((fa 8 1) j).toInt) ((iv 8 2) : Int32).toInt 48 57 ((iv 8 5) : Int32).toInt (x8_3 : Int32).toInt from ⟨by omega, hq9_1, fun q => by omega⟩), (show ((iv 8 5) : Int32).toInt ≤ (x8_3 : Int32).toInt from by omega)⟩, ht9⟩) (fun q hq => by cases hq) dX8_endOfRun_40
      · have fc10 := z_nle (rfl : ((iv 8 2)).toInt = _) (rfl : (x8_3).toInt = _) c10
        refine lv_aload_n hx hb dX8_endOfRun_13 rfl (lv_at hl 1 rfl) ?_
        refine gX_8_1 hx hb ht hown hK hP m_229 dX8_endOfRun_14 ?_
        refine lv_iload_n hx hb dX8_endOfRun_17 rfl (lv_at hl 0 rfl) ?_
        refine lX_8_1 hx hb hK hP (f := (fa 8 1)) rfl (vp_in_iff.mpr ⟨by omega, by omega⟩) dX8_endOfRun_18 ?_
        refine lv_topi (fun v11 ev11 => ?_)
        refine lv_iload_n hx hb dX8_endOfRun_19 rfl (lv_at hl 2 rfl) ?_
        refine lv_icmp_lt (tgt := 39) hx hb dX8_endOfRun_20 (by decide) (fun c12 => ?_) (fun c12 => ?_)
        · have fc12 := z_lt (rfl : (v11).toInt = _) (by decide : (48 : Int32).toInt = 48) c12
          refine lv_iload_n hx hb dX8_endOfRun_39 rfl (lv_at hl 0 rfl) ?_
          exact W.iret (v := x8_3) hx hb hr (fun t ht9 hW => ⟨x8_3, rfl, ⟨⟨by omega, by omega⟩, (show Rn (fun j => ((fa 8 1) j).toInt) ((iv 8 2) : Int32).toInt 48 57 ((iv 8 5) : Int32).toInt (x8_3 : Int32).toInt from ⟨by omega, hq9_1, fun q => by have q2 : 48 ≤ (fa 8 1 ((x8_3 : Int32).toInt).toNat).toInt ∧ (fa 8 1 ((x8_3 : Int32).toInt).toNat).toInt ≤ 57 := q.2; have hv9 := congrArg Int32.toInt (show v11 = (fa 8 1) ((x8_3 : Int32).toInt).toNat from ev11); omega⟩), (show ((iv 8 5) : Int32).toInt ≤ (x8_3 : Int32).toInt from by omega)⟩, ht9⟩) (fun q hq => by cases hq) dX8_endOfRun_40
        · have fc12 := z_nlt (rfl : (v11).toInt = _) (by decide : (48 : Int32).toInt = 48) c12
          refine lv_aload_n hx hb dX8_endOfRun_23 rfl (lv_at hl 1 rfl) ?_
          refine gX_8_1 hx hb ht hown hK hP m_229 dX8_endOfRun_24 ?_
          refine lv_iload_n hx hb dX8_endOfRun_27 rfl (lv_at hl 0 rfl) ?_
          refine lX_8_1 hx hb hK hP (f := (fa 8 1)) rfl (vp_in_iff.mpr ⟨by omega, by omega⟩) dX8_endOfRun_28 ?_
          refine lv_topi (fun v13 ev13 => ?_)
          obtain rfl : v11 = v13 := ev11.trans ev13.symm
          refine lv_iload_n hx hb dX8_endOfRun_29 rfl (lv_at hl 3 rfl) ?_
          refine lv_icmp_gt (tgt := 39) hx hb dX8_endOfRun_30 (by decide) (fun c14 => ?_) (fun c14 => ?_)
          · have fc14 := z_lt (by decide : (57 : Int32).toInt = 57) (rfl : (v11).toInt = _) c14
            refine lv_iload_n hx hb dX8_endOfRun_39 rfl (lv_at hl 0 rfl) ?_
            exact W.iret (v := x8_3) hx hb hr (fun t ht9 hW => ⟨x8_3, rfl, ⟨⟨by omega, by omega⟩, (show Rn (fun j => ((fa 8 1) j).toInt) ((iv 8 2) : Int32).toInt 48 57 ((iv 8 5) : Int32).toInt (x8_3 : Int32).toInt from ⟨by omega, hq9_1, fun q => by have q2 : 48 ≤ (fa 8 1 ((x8_3 : Int32).toInt).toNat).toInt ∧ (fa 8 1 ((x8_3 : Int32).toInt).toNat).toInt ≤ 57 := q.2; have hv9 := congrArg Int32.toInt (show v11 = (fa 8 1) ((x8_3 : Int32).toInt).toNat from ev11); omega⟩), (show ((iv 8 5) : Int32).toInt ≤ (x8_3 : Int32).toInt from by omega)⟩, ht9⟩) (fun q hq => by cases hq) dX8_endOfRun_40
          · have fc14 := z_nlt (by decide : (57 : Int32).toInt = 57) (rfl : (v11).toInt = _) c14
            obtain ⟨v15, ev15⟩ : ∃ y : Int32, y = x8_3 + 1 := ⟨_, rfl⟩
            have tv15 := z_add ev15 rfl (by decide : (1 : Int32).toInt = 1) (by omega) (by omega)
            refine lv_iinc (v := v15) (lv' := [(3, .int v15), (0, .ref (g 11 4)), (1, .int 48), (2, .int 57)]) hx hb dX8_endOfRun_33 hl (k := 0) rfl (by rw [ev15]; rfl) (by decide) rfl (fun ls hl => ?_)
            refine lv_goto (tgt := 5) hx hb dX8_endOfRun_36 (by decide) ?_
            exact ih9 v15 ⟨by omega, by omega⟩ (show ((iv 8 5) : Int32).toInt ≤ (v15 : Int32).toInt from by omega) (show ∀ j : Nat, ((iv 8 5) : Int32).toInt ≤ (j : Int) → (j : Int) < (v15 : Int32).toInt → (j : Int) < ((iv 8 2) : Int32).toInt ∧ 48 ≤ ((fa 8 1) j).toInt ∧ ((fa 8 1) j).toInt ≤ 57 from (fun j h1 h2 => by
                  by_cases hj : (j : Int) < (x8_3 : Int32).toInt
                  · exact hq9_1 j h1 hj
                  · have hj2 : j = ((x8_3 : Int32).toInt).toNat := by omega
                    have hv9 := congrArg Int32.toInt (show v11 = (fa 8 1) ((x8_3 : Int32).toInt).toNat from ev11)
                    rw [hj2]
                    exact ⟨by omega, by omega, by omega⟩)) (by omega) ls (lv_sub hl [0, 1, 2, 3] rfl)
  have i_8_2 : 0 ≤ (iv 8 2).toInt ∧ (iv 8 2).toInt ≤ 200 := hI.1 8 2
  exact lp9 201 (iv 8 5) ⟨by omega, by omega⟩ (show ((iv 8 5) : Int32).toInt ≤ ((iv 8 5) : Int32).toInt from by omega) (show ∀ j : Nat, ((iv 8 5) : Int32).toInt ≤ (j : Int) → (j : Int) < ((iv 8 5) : Int32).toInt → (j : Int) < ((iv 8 2) : Int32).toInt ∧ 48 ≤ ((fa 8 1) j).toInt ∧ ((fa 8 1) j).toInt ≤ 57 from fun j h1 h2 => absurd h1 (by omega)) (by first | decide | omega) ls (lv_sub hl [0, 1, 2, 3] rfl)
set_option maxHeartbeats 4000000 in
set_option maxRecDepth 100000 in
/-- X8_fail -/
theorem c_X8_fail_r (l : Launch) (dC : Nat → ClassId) (dI : Nat → Nat → Nat) (sz : Nat) (h : Nat) (g : Nat → Nat → Nat) (ca : Nat → Nat → ClassId) (iv : Nat → Nat → Int32) (lv : Nat → Nat → Int64) (fa : Nat → Nat → Nat → Int32) (la : Nat → Nat → Nat → Int64) (hI : IX iv fa) (a : Int32) (b : Int32) (h_a : 0 ≤ a.toInt ∧ a.toInt ≤ 5) (h_b : (-1) ≤ b.toInt ∧ b.toInt ≤ 200) : Met l yX8_fail (wc yX8_fail cX8_fail 3 (some .boolean)) ({ frames := 0, cells := 0, slots := 0, locals := 0 } : Room) (pW (dC, dI) classes (WX h g ca iv lv fa la) (TX ca) sz [.ref (g 11 4), .int a, .int b]) (va_Qi (fun r (u : SS) => ∃ (ni_8_3 : Int32) (ni_8_4 : Int32), inb (bI 8 3) ni_8_3 ∧ inb (bI 8 4) ni_8_4 ∧ ((ni_8_4).toInt = a.toInt) ∧ ((ni_8_3).toInt = b.toInt) ∧ (0 ≤ r.toInt ∧ r.toInt ≤ 0) ∧ u = ((u2 (u2 iv 8 3 ni_8_3) 8 4 ni_8_4), lv, fa, la)) (bX (dC, dI) h g ca (va_A (WX h g ca iv lv fa la) sz)) (va_A (WX h g ca iv lv fa la) sz)) 0 0 (va_A (WX h g ca iv lv fa la) sz) := by
  refine Met.ofW (cc := cX8_fail) (maxL := 3) (ret := (some .boolean)) (by decide) rfl ?_
  intro p e s m args below meth c s₁ B hml hv
  obtain ⟨rfl, hsz, hP, hK, hD0⟩ := hv
  have hx := B.exec
  have hb := B.bytes
  have hr := B.returns
  have ht := tb_tl (atoms_spec (ws := wc yX8_fail cX8_fail 3 (some .boolean)) B.pre)
  have hown : s.vm.findClass RX8 = some m.cls := findClass_of_methodNamed B.named
  have hlocks := B.notSynchronized
  subst hsz
  have hD := hD0.self (sz := s.heap.size)
  generalize hAe : va_A (WX h g ca iv lv fa la) s.heap.size = A at hD ⊢
  have hA : ∀ q : Nat, s.heap.size ≤ q → A q := fun q h => by rw [← hAe]; exact Or.inr h
  have hS : va_S A s.heap s.heap [] := va_S.rf
  have hl := lv_entry [.ref (g 11 4), .int a, .int b] (n := 3) (Nat.le_of_ble_eq_true rfl)
  rw [lg_entry_eq]
  generalize (lg_sl [.ref (g 11 4), .int a, .int b] ++ List.replicate (3 - (lg_sl [.ref (g 11 4), .int a, .int b]).length) Slot.unset).toArray = ls at hl ⊢
  have hl : lv_has ls 3 [(0, .ref (g 11 4)), (1, .int a), (2, .int b)] := hl
  refine lv_aload_n hx hb dX8_fail_0 rfl (lv_at hl 0 rfl) ?_
  refine lv_iload_n hx hb dX8_fail_1 rfl (lv_at hl 1 rfl) ?_
  refine pX_8_4 (v := a) hx hb ht hown hK hP hD hS m_234 dX8_fail_2 (fun H locs hP hD hS => ?_)
  refine lv_aload_n hx hb dX8_fail_5 rfl (lv_at hl 0 rfl) ?_
  refine lv_iload_n hx hb dX8_fail_6 rfl (lv_at hl 2 rfl) ?_
  refine pX_8_3 (v := b) hx hb ht hown hK hP hD hS m_232 dX8_fail_7 (fun H locs hP hD hS => ?_)
  refine lv_iconst (v := 0) hx hb dX8_fail_10 (by decide) ?_
  have hP9 : va_P (dC, dI) classes (WX h g ca (u2 (u2 iv 8 3 b) 8 4 a) lv fa la) H := hP
  have hD9 : va_D A (WX h g ca (u2 (u2 iv 8 3 b) 8 4 a) lv fa la) := hD
  exact W.zret (v := 0) hx hb hr rfl (fun t ht9 hW => ⟨⟨0, ((u2 (u2 iv 8 3 b) 8 4 a), lv, fa, la), rfl, ⟨b, a, (show inb ((-1), 200) b from ⟨by omega, by omega⟩), (show inb (0, 5) a from ⟨by omega, by omega⟩), (show (a : Int32).toInt = (a).toInt from by omega), (show (b : Int32).toInt = (b).toInt from by omega), ⟨by decide, by decide⟩, rfl⟩, by rw [ht9]; exact hP9, hD9⟩, hS.F ht9⟩) hS.2.2 dX8_fail_11
def WdG (t : Nat → Int) (s e m : Int) (L : Nat → Int) : Prop := e - s = m ∧ ∀ j : Nat, (j : Int) < m → t (s.toNat + j) = L j
/-- the signs of a string of words, from a on -/
def LsW (J : Nat) (a : Int) (j : Nat) : Int := ((S_byt.getD J []).getD (a.toNat + j) 0).toInt
theorem cs_0_0 {t : Nat → Int} {s e R : Int} (h : (R = 1 ∧ WdG t s e ((3 : Int32).toInt - (0 : Int32).toInt) (LsW 0 (0 : Int32).toInt)) ∨ (R = 0 ∧ ¬ WdG t s e ((3 : Int32).toInt - (0 : Int32).toInt) (LsW 0 (0 : Int32).toInt))) : (R = 1 ∧ w_let t s e) ∨ (R = 0 ∧ ¬ w_let t s e) := by
  have hm : (3 : Int32).toInt - (0 : Int32).toInt = 3 := (by decide)
  have c : WdG t s e ((3 : Int32).toInt - (0 : Int32).toInt) (LsW 0 (0 : Int32).toInt) ↔ w_let t s e := by
    constructor
    · intro h
      exact ⟨h.1.trans hm, (h.2 0 (by omega)).trans (show LsW 0 (0 : Int32).toInt 0 = 108 from by decide +kernel), (h.2 1 (by omega)).trans (show LsW 0 (0 : Int32).toInt 1 = 101 from by decide +kernel), (h.2 2 (by omega)).trans (show LsW 0 (0 : Int32).toInt 2 = 116 from by decide +kernel)⟩
    · intro h
      obtain ⟨h0, q0, q1, q2⟩ := h
      refine ⟨h0.trans hm.symm, fun j hj => ?_⟩
      rcases (by omega : j = 0 ∨ j = 1 ∨ j = 2) with rfl | rfl | rfl
      · exact q0.trans (show (108 : Int) = LsW 0 (0 : Int32).toInt 0 from by decide +kernel)
      · exact q1.trans (show (101 : Int) = LsW 0 (0 : Int32).toInt 1 from by decide +kernel)
      · exact q2.trans (show (116 : Int) = LsW 0 (0 : Int32).toInt 2 from by decide +kernel)
  rw [c] at h; exact h
theorem cs_0_4 {t : Nat → Int} {s e R : Int} (h : (R = 1 ∧ WdG t s e ((8 : Int32).toInt - (4 : Int32).toInt) (LsW 0 (4 : Int32).toInt)) ∨ (R = 0 ∧ ¬ WdG t s e ((8 : Int32).toInt - (4 : Int32).toInt) (LsW 0 (4 : Int32).toInt))) : (R = 1 ∧ w_take t s e) ∨ (R = 0 ∧ ¬ w_take t s e) := by
  have hm : (8 : Int32).toInt - (4 : Int32).toInt = 4 := (by decide)
  have c : WdG t s e ((8 : Int32).toInt - (4 : Int32).toInt) (LsW 0 (4 : Int32).toInt) ↔ w_take t s e := by
    constructor
    · intro h
      exact ⟨h.1.trans hm, (h.2 0 (by omega)).trans (show LsW 0 (4 : Int32).toInt 0 = 116 from by decide +kernel), (h.2 1 (by omega)).trans (show LsW 0 (4 : Int32).toInt 1 = 97 from by decide +kernel), (h.2 2 (by omega)).trans (show LsW 0 (4 : Int32).toInt 2 = 107 from by decide +kernel), (h.2 3 (by omega)).trans (show LsW 0 (4 : Int32).toInt 3 = 101 from by decide +kernel)⟩
    · intro h
      obtain ⟨h0, q0, q1, q2, q3⟩ := h
      refine ⟨h0.trans hm.symm, fun j hj => ?_⟩
      rcases (by omega : j = 0 ∨ j = 1 ∨ j = 2 ∨ j = 3) with rfl | rfl | rfl | rfl
      · exact q0.trans (show (116 : Int) = LsW 0 (4 : Int32).toInt 0 from by decide +kernel)
      · exact q1.trans (show (97 : Int) = LsW 0 (4 : Int32).toInt 1 from by decide +kernel)
      · exact q2.trans (show (107 : Int) = LsW 0 (4 : Int32).toInt 2 from by decide +kernel)
      · exact q3.trans (show (101 : Int) = LsW 0 (4 : Int32).toInt 3 from by decide +kernel)
  rw [c] at h; exact h
theorem cs_0_9 {t : Nat → Int} {s e R : Int} (h : (R = 1 ∧ WdG t s e ((13 : Int32).toInt - (9 : Int32).toInt) (LsW 0 (9 : Int32).toInt)) ∨ (R = 0 ∧ ¬ WdG t s e ((13 : Int32).toInt - (9 : Int32).toInt) (LsW 0 (9 : Int32).toInt))) : (R = 1 ∧ w_name t s e) ∨ (R = 0 ∧ ¬ w_name t s e) := by
  have hm : (13 : Int32).toInt - (9 : Int32).toInt = 4 := (by decide)
  have c : WdG t s e ((13 : Int32).toInt - (9 : Int32).toInt) (LsW 0 (9 : Int32).toInt) ↔ w_name t s e := by
    constructor
    · intro h
      exact ⟨h.1.trans hm, (h.2 0 (by omega)).trans (show LsW 0 (9 : Int32).toInt 0 = 110 from by decide +kernel), (h.2 1 (by omega)).trans (show LsW 0 (9 : Int32).toInt 1 = 97 from by decide +kernel), (h.2 2 (by omega)).trans (show LsW 0 (9 : Int32).toInt 2 = 109 from by decide +kernel), (h.2 3 (by omega)).trans (show LsW 0 (9 : Int32).toInt 3 = 101 from by decide +kernel)⟩
    · intro h
      obtain ⟨h0, q0, q1, q2, q3⟩ := h
      refine ⟨h0.trans hm.symm, fun j hj => ?_⟩
      rcases (by omega : j = 0 ∨ j = 1 ∨ j = 2 ∨ j = 3) with rfl | rfl | rfl | rfl
      · exact q0.trans (show (110 : Int) = LsW 0 (9 : Int32).toInt 0 from by decide +kernel)
      · exact q1.trans (show (97 : Int) = LsW 0 (9 : Int32).toInt 1 from by decide +kernel)
      · exact q2.trans (show (109 : Int) = LsW 0 (9 : Int32).toInt 2 from by decide +kernel)
      · exact q3.trans (show (101 : Int) = LsW 0 (9 : Int32).toInt 3 from by decide +kernel)
  rw [c] at h; exact h
theorem cs_0_14 {t : Nat → Int} {s e R : Int} (h : (R = 1 ∧ WdG t s e ((20 : Int32).toInt - (14 : Int32).toInt) (LsW 0 (14 : Int32).toInt)) ∨ (R = 0 ∧ ¬ WdG t s e ((20 : Int32).toInt - (14 : Int32).toInt) (LsW 0 (14 : Int32).toInt))) : (R = 1 ∧ w_strike t s e) ∨ (R = 0 ∧ ¬ w_strike t s e) := by
  have hm : (20 : Int32).toInt - (14 : Int32).toInt = 6 := (by decide)
  have c : WdG t s e ((20 : Int32).toInt - (14 : Int32).toInt) (LsW 0 (14 : Int32).toInt) ↔ w_strike t s e := by
    constructor
    · intro h
      exact ⟨h.1.trans hm, (h.2 0 (by omega)).trans (show LsW 0 (14 : Int32).toInt 0 = 115 from by decide +kernel), (h.2 1 (by omega)).trans (show LsW 0 (14 : Int32).toInt 1 = 116 from by decide +kernel), (h.2 2 (by omega)).trans (show LsW 0 (14 : Int32).toInt 2 = 114 from by decide +kernel), (h.2 3 (by omega)).trans (show LsW 0 (14 : Int32).toInt 3 = 105 from by decide +kernel), (h.2 4 (by omega)).trans (show LsW 0 (14 : Int32).toInt 4 = 107 from by decide +kernel), (h.2 5 (by omega)).trans (show LsW 0 (14 : Int32).toInt 5 = 101 from by decide +kernel)⟩
    · intro h
      obtain ⟨h0, q0, q1, q2, q3, q4, q5⟩ := h
      refine ⟨h0.trans hm.symm, fun j hj => ?_⟩
      rcases (by omega : j = 0 ∨ j = 1 ∨ j = 2 ∨ j = 3 ∨ j = 4 ∨ j = 5) with rfl | rfl | rfl | rfl | rfl | rfl
      · exact q0.trans (show (115 : Int) = LsW 0 (14 : Int32).toInt 0 from by decide +kernel)
      · exact q1.trans (show (116 : Int) = LsW 0 (14 : Int32).toInt 1 from by decide +kernel)
      · exact q2.trans (show (114 : Int) = LsW 0 (14 : Int32).toInt 2 from by decide +kernel)
      · exact q3.trans (show (105 : Int) = LsW 0 (14 : Int32).toInt 3 from by decide +kernel)
      · exact q4.trans (show (107 : Int) = LsW 0 (14 : Int32).toInt 4 from by decide +kernel)
      · exact q5.trans (show (101 : Int) = LsW 0 (14 : Int32).toInt 5 from by decide +kernel)
  rw [c] at h; exact h
theorem cs_1_0 {t : Nat → Int} {s e R : Int} (h : (R = 1 ∧ WdG t s e ((5 : Int32).toInt - (0 : Int32).toInt) (LsW 1 (0 : Int32).toInt)) ∨ (R = 0 ∧ ¬ WdG t s e ((5 : Int32).toInt - (0 : Int32).toInt) (LsW 1 (0 : Int32).toInt))) : (R = 1 ∧ w_water t s e) ∨ (R = 0 ∧ ¬ w_water t s e) := by
  have hm : (5 : Int32).toInt - (0 : Int32).toInt = 5 := (by decide)
  have c : WdG t s e ((5 : Int32).toInt - (0 : Int32).toInt) (LsW 1 (0 : Int32).toInt) ↔ w_water t s e := by
    constructor
    · intro h
      exact ⟨h.1.trans hm, (h.2 0 (by omega)).trans (show LsW 1 (0 : Int32).toInt 0 = 119 from by decide +kernel), (h.2 1 (by omega)).trans (show LsW 1 (0 : Int32).toInt 1 = 97 from by decide +kernel), (h.2 2 (by omega)).trans (show LsW 1 (0 : Int32).toInt 2 = 116 from by decide +kernel), (h.2 3 (by omega)).trans (show LsW 1 (0 : Int32).toInt 3 = 101 from by decide +kernel), (h.2 4 (by omega)).trans (show LsW 1 (0 : Int32).toInt 4 = 114 from by decide +kernel)⟩
    · intro h
      obtain ⟨h0, q0, q1, q2, q3, q4⟩ := h
      refine ⟨h0.trans hm.symm, fun j hj => ?_⟩
      rcases (by omega : j = 0 ∨ j = 1 ∨ j = 2 ∨ j = 3 ∨ j = 4) with rfl | rfl | rfl | rfl | rfl
      · exact q0.trans (show (119 : Int) = LsW 1 (0 : Int32).toInt 0 from by decide +kernel)
      · exact q1.trans (show (97 : Int) = LsW 1 (0 : Int32).toInt 1 from by decide +kernel)
      · exact q2.trans (show (116 : Int) = LsW 1 (0 : Int32).toInt 2 from by decide +kernel)
      · exact q3.trans (show (101 : Int) = LsW 1 (0 : Int32).toInt 3 from by decide +kernel)
      · exact q4.trans (show (114 : Int) = LsW 1 (0 : Int32).toInt 4 from by decide +kernel)
  rw [c] at h; exact h
theorem cs_1_6 {t : Nat → Int} {s e R : Int} (h : (R = 1 ∧ WdG t s e ((12 : Int32).toInt - (6 : Int32).toInt) (LsW 1 (6 : Int32).toInt)) ∨ (R = 0 ∧ ¬ WdG t s e ((12 : Int32).toInt - (6 : Int32).toInt) (LsW 1 (6 : Int32).toInt))) : (R = 1 ∧ w_skeins t s e) ∨ (R = 0 ∧ ¬ w_skeins t s e) := by
  have hm : (12 : Int32).toInt - (6 : Int32).toInt = 6 := (by decide)
  have c : WdG t s e ((12 : Int32).toInt - (6 : Int32).toInt) (LsW 1 (6 : Int32).toInt) ↔ w_skeins t s e := by
    constructor
    · intro h
      exact ⟨h.1.trans hm, (h.2 0 (by omega)).trans (show LsW 1 (6 : Int32).toInt 0 = 115 from by decide +kernel), (h.2 1 (by omega)).trans (show LsW 1 (6 : Int32).toInt 1 = 107 from by decide +kernel), (h.2 2 (by omega)).trans (show LsW 1 (6 : Int32).toInt 2 = 101 from by decide +kernel), (h.2 3 (by omega)).trans (show LsW 1 (6 : Int32).toInt 3 = 105 from by decide +kernel), (h.2 4 (by omega)).trans (show LsW 1 (6 : Int32).toInt 4 = 110 from by decide +kernel), (h.2 5 (by omega)).trans (show LsW 1 (6 : Int32).toInt 5 = 115 from by decide +kernel)⟩
    · intro h
      obtain ⟨h0, q0, q1, q2, q3, q4, q5⟩ := h
      refine ⟨h0.trans hm.symm, fun j hj => ?_⟩
      rcases (by omega : j = 0 ∨ j = 1 ∨ j = 2 ∨ j = 3 ∨ j = 4 ∨ j = 5) with rfl | rfl | rfl | rfl | rfl | rfl
      · exact q0.trans (show (115 : Int) = LsW 1 (6 : Int32).toInt 0 from by decide +kernel)
      · exact q1.trans (show (107 : Int) = LsW 1 (6 : Int32).toInt 1 from by decide +kernel)
      · exact q2.trans (show (101 : Int) = LsW 1 (6 : Int32).toInt 2 from by decide +kernel)
      · exact q3.trans (show (105 : Int) = LsW 1 (6 : Int32).toInt 3 from by decide +kernel)
      · exact q4.trans (show (110 : Int) = LsW 1 (6 : Int32).toInt 4 from by decide +kernel)
      · exact q5.trans (show (115 : Int) = LsW 1 (6 : Int32).toInt 5 from by decide +kernel)
  rw [c] at h; exact h
theorem cs_1_13 {t : Nat → Int} {s e R : Int} (h : (R = 1 ∧ WdG t s e ((17 : Int32).toInt - (13 : Int32).toInt) (LsW 1 (13 : Int32).toInt)) ∨ (R = 0 ∧ ¬ WdG t s e ((17 : Int32).toInt - (13 : Int32).toInt) (LsW 1 (13 : Int32).toInt))) : (R = 1 ∧ w_part t s e) ∨ (R = 0 ∧ ¬ w_part t s e) := by
  have hm : (17 : Int32).toInt - (13 : Int32).toInt = 4 := (by decide)
  have c : WdG t s e ((17 : Int32).toInt - (13 : Int32).toInt) (LsW 1 (13 : Int32).toInt) ↔ w_part t s e := by
    constructor
    · intro h
      exact ⟨h.1.trans hm, (h.2 0 (by omega)).trans (show LsW 1 (13 : Int32).toInt 0 = 112 from by decide +kernel), (h.2 1 (by omega)).trans (show LsW 1 (13 : Int32).toInt 1 = 97 from by decide +kernel), (h.2 2 (by omega)).trans (show LsW 1 (13 : Int32).toInt 2 = 114 from by decide +kernel), (h.2 3 (by omega)).trans (show LsW 1 (13 : Int32).toInt 3 = 116 from by decide +kernel)⟩
    · intro h
      obtain ⟨h0, q0, q1, q2, q3⟩ := h
      refine ⟨h0.trans hm.symm, fun j hj => ?_⟩
      rcases (by omega : j = 0 ∨ j = 1 ∨ j = 2 ∨ j = 3) with rfl | rfl | rfl | rfl
      · exact q0.trans (show (112 : Int) = LsW 1 (13 : Int32).toInt 0 from by decide +kernel)
      · exact q1.trans (show (97 : Int) = LsW 1 (13 : Int32).toInt 1 from by decide +kernel)
      · exact q2.trans (show (114 : Int) = LsW 1 (13 : Int32).toInt 2 from by decide +kernel)
      · exact q3.trans (show (116 : Int) = LsW 1 (13 : Int32).toInt 3 from by decide +kernel)
  rw [c] at h; exact h
theorem cs_1_18 {t : Nat → Int} {s e R : Int} (h : (R = 1 ∧ WdG t s e ((23 : Int32).toInt - (18 : Int32).toInt) (LsW 1 (18 : Int32).toInt)) ∨ (R = 0 ∧ ¬ WdG t s e ((23 : Int32).toInt - (18 : Int32).toInt) (LsW 1 (18 : Int32).toInt))) : (R = 1 ∧ w_looks t s e) ∨ (R = 0 ∧ ¬ w_looks t s e) := by
  have hm : (23 : Int32).toInt - (18 : Int32).toInt = 5 := (by decide)
  have c : WdG t s e ((23 : Int32).toInt - (18 : Int32).toInt) (LsW 1 (18 : Int32).toInt) ↔ w_looks t s e := by
    constructor
    · intro h
      exact ⟨h.1.trans hm, (h.2 0 (by omega)).trans (show LsW 1 (18 : Int32).toInt 0 = 108 from by decide +kernel), (h.2 1 (by omega)).trans (show LsW 1 (18 : Int32).toInt 1 = 111 from by decide +kernel), (h.2 2 (by omega)).trans (show LsW 1 (18 : Int32).toInt 2 = 111 from by decide +kernel), (h.2 3 (by omega)).trans (show LsW 1 (18 : Int32).toInt 3 = 107 from by decide +kernel), (h.2 4 (by omega)).trans (show LsW 1 (18 : Int32).toInt 4 = 115 from by decide +kernel)⟩
    · intro h
      obtain ⟨h0, q0, q1, q2, q3, q4⟩ := h
      refine ⟨h0.trans hm.symm, fun j hj => ?_⟩
      rcases (by omega : j = 0 ∨ j = 1 ∨ j = 2 ∨ j = 3 ∨ j = 4) with rfl | rfl | rfl | rfl | rfl
      · exact q0.trans (show (108 : Int) = LsW 1 (18 : Int32).toInt 0 from by decide +kernel)
      · exact q1.trans (show (111 : Int) = LsW 1 (18 : Int32).toInt 1 from by decide +kernel)
      · exact q2.trans (show (111 : Int) = LsW 1 (18 : Int32).toInt 2 from by decide +kernel)
      · exact q3.trans (show (107 : Int) = LsW 1 (18 : Int32).toInt 3 from by decide +kernel)
      · exact q4.trans (show (115 : Int) = LsW 1 (18 : Int32).toInt 4 from by decide +kernel)
  rw [c] at h; exact h
theorem cs_1_24 {t : Nat → Int} {s e R : Int} (h : (R = 1 ∧ WdG t s e ((27 : Int32).toInt - (24 : Int32).toInt) (LsW 1 (24 : Int32).toInt)) ∨ (R = 0 ∧ ¬ WdG t s e ((27 : Int32).toInt - (24 : Int32).toInt) (LsW 1 (24 : Int32).toInt))) : (R = 1 ∧ w_fee t s e) ∨ (R = 0 ∧ ¬ w_fee t s e) := by
  have hm : (27 : Int32).toInt - (24 : Int32).toInt = 3 := (by decide)
  have c : WdG t s e ((27 : Int32).toInt - (24 : Int32).toInt) (LsW 1 (24 : Int32).toInt) ↔ w_fee t s e := by
    constructor
    · intro h
      exact ⟨h.1.trans hm, (h.2 0 (by omega)).trans (show LsW 1 (24 : Int32).toInt 0 = 102 from by decide +kernel), (h.2 1 (by omega)).trans (show LsW 1 (24 : Int32).toInt 1 = 101 from by decide +kernel), (h.2 2 (by omega)).trans (show LsW 1 (24 : Int32).toInt 2 = 101 from by decide +kernel)⟩
    · intro h
      obtain ⟨h0, q0, q1, q2⟩ := h
      refine ⟨h0.trans hm.symm, fun j hj => ?_⟩
      rcases (by omega : j = 0 ∨ j = 1 ∨ j = 2) with rfl | rfl | rfl
      · exact q0.trans (show (102 : Int) = LsW 1 (24 : Int32).toInt 0 from by decide +kernel)
      · exact q1.trans (show (101 : Int) = LsW 1 (24 : Int32).toInt 1 from by decide +kernel)
      · exact q2.trans (show (101 : Int) = LsW 1 (24 : Int32).toInt 2 from by decide +kernel)
  rw [c] at h; exact h
theorem cs_2_0 {t : Nat → Int} {s e R : Int} (h : (R = 1 ∧ WdG t s e ((4 : Int32).toInt - (0 : Int32).toInt) (LsW 2 (0 : Int32).toInt)) ∨ (R = 0 ∧ ¬ WdG t s e ((4 : Int32).toInt - (0 : Int32).toInt) (LsW 2 (0 : Int32).toInt))) : (R = 1 ∧ w_mean t s e) ∨ (R = 0 ∧ ¬ w_mean t s e) := by
  have hm : (4 : Int32).toInt - (0 : Int32).toInt = 4 := (by decide)
  have c : WdG t s e ((4 : Int32).toInt - (0 : Int32).toInt) (LsW 2 (0 : Int32).toInt) ↔ w_mean t s e := by
    constructor
    · intro h
      exact ⟨h.1.trans hm, (h.2 0 (by omega)).trans (show LsW 2 (0 : Int32).toInt 0 = 109 from by decide +kernel), (h.2 1 (by omega)).trans (show LsW 2 (0 : Int32).toInt 1 = 101 from by decide +kernel), (h.2 2 (by omega)).trans (show LsW 2 (0 : Int32).toInt 2 = 97 from by decide +kernel), (h.2 3 (by omega)).trans (show LsW 2 (0 : Int32).toInt 3 = 110 from by decide +kernel)⟩
    · intro h
      obtain ⟨h0, q0, q1, q2, q3⟩ := h
      refine ⟨h0.trans hm.symm, fun j hj => ?_⟩
      rcases (by omega : j = 0 ∨ j = 1 ∨ j = 2 ∨ j = 3) with rfl | rfl | rfl | rfl
      · exact q0.trans (show (109 : Int) = LsW 2 (0 : Int32).toInt 0 from by decide +kernel)
      · exact q1.trans (show (101 : Int) = LsW 2 (0 : Int32).toInt 1 from by decide +kernel)
      · exact q2.trans (show (97 : Int) = LsW 2 (0 : Int32).toInt 2 from by decide +kernel)
      · exact q3.trans (show (110 : Int) = LsW 2 (0 : Int32).toInt 3 from by decide +kernel)
  rw [c] at h; exact h
theorem cs_2_5 {t : Nat → Int} {s e R : Int} (h : (R = 1 ∧ WdG t s e ((10 : Int32).toInt - (5 : Int32).toInt) (LsW 2 (5 : Int32).toInt)) ∨ (R = 0 ∧ ¬ WdG t s e ((10 : Int32).toInt - (5 : Int32).toInt) (LsW 2 (5 : Int32).toInt))) : (R = 1 ∧ w_least t s e) ∨ (R = 0 ∧ ¬ w_least t s e) := by
  have hm : (10 : Int32).toInt - (5 : Int32).toInt = 5 := (by decide)
  have c : WdG t s e ((10 : Int32).toInt - (5 : Int32).toInt) (LsW 2 (5 : Int32).toInt) ↔ w_least t s e := by
    constructor
    · intro h
      exact ⟨h.1.trans hm, (h.2 0 (by omega)).trans (show LsW 2 (5 : Int32).toInt 0 = 108 from by decide +kernel), (h.2 1 (by omega)).trans (show LsW 2 (5 : Int32).toInt 1 = 101 from by decide +kernel), (h.2 2 (by omega)).trans (show LsW 2 (5 : Int32).toInt 2 = 97 from by decide +kernel), (h.2 3 (by omega)).trans (show LsW 2 (5 : Int32).toInt 3 = 115 from by decide +kernel), (h.2 4 (by omega)).trans (show LsW 2 (5 : Int32).toInt 4 = 116 from by decide +kernel)⟩
    · intro h
      obtain ⟨h0, q0, q1, q2, q3, q4⟩ := h
      refine ⟨h0.trans hm.symm, fun j hj => ?_⟩
      rcases (by omega : j = 0 ∨ j = 1 ∨ j = 2 ∨ j = 3 ∨ j = 4) with rfl | rfl | rfl | rfl | rfl
      · exact q0.trans (show (108 : Int) = LsW 2 (5 : Int32).toInt 0 from by decide +kernel)
      · exact q1.trans (show (101 : Int) = LsW 2 (5 : Int32).toInt 1 from by decide +kernel)
      · exact q2.trans (show (97 : Int) = LsW 2 (5 : Int32).toInt 2 from by decide +kernel)
      · exact q3.trans (show (115 : Int) = LsW 2 (5 : Int32).toInt 3 from by decide +kernel)
      · exact q4.trans (show (116 : Int) = LsW 2 (5 : Int32).toInt 4 from by decide +kernel)
  rw [c] at h; exact h
theorem cs_2_11 {t : Nat → Int} {s e R : Int} (h : (R = 1 ∧ WdG t s e ((17 : Int32).toInt - (11 : Int32).toInt) (LsW 2 (11 : Int32).toInt)) ∨ (R = 0 ∧ ¬ WdG t s e ((17 : Int32).toInt - (11 : Int32).toInt) (LsW 2 (11 : Int32).toInt))) : (R = 1 ∧ w_middle t s e) ∨ (R = 0 ∧ ¬ w_middle t s e) := by
  have hm : (17 : Int32).toInt - (11 : Int32).toInt = 6 := (by decide)
  have c : WdG t s e ((17 : Int32).toInt - (11 : Int32).toInt) (LsW 2 (11 : Int32).toInt) ↔ w_middle t s e := by
    constructor
    · intro h
      exact ⟨h.1.trans hm, (h.2 0 (by omega)).trans (show LsW 2 (11 : Int32).toInt 0 = 109 from by decide +kernel), (h.2 1 (by omega)).trans (show LsW 2 (11 : Int32).toInt 1 = 105 from by decide +kernel), (h.2 2 (by omega)).trans (show LsW 2 (11 : Int32).toInt 2 = 100 from by decide +kernel), (h.2 3 (by omega)).trans (show LsW 2 (11 : Int32).toInt 3 = 100 from by decide +kernel), (h.2 4 (by omega)).trans (show LsW 2 (11 : Int32).toInt 4 = 108 from by decide +kernel), (h.2 5 (by omega)).trans (show LsW 2 (11 : Int32).toInt 5 = 101 from by decide +kernel)⟩
    · intro h
      obtain ⟨h0, q0, q1, q2, q3, q4, q5⟩ := h
      refine ⟨h0.trans hm.symm, fun j hj => ?_⟩
      rcases (by omega : j = 0 ∨ j = 1 ∨ j = 2 ∨ j = 3 ∨ j = 4 ∨ j = 5) with rfl | rfl | rfl | rfl | rfl | rfl
      · exact q0.trans (show (109 : Int) = LsW 2 (11 : Int32).toInt 0 from by decide +kernel)
      · exact q1.trans (show (105 : Int) = LsW 2 (11 : Int32).toInt 1 from by decide +kernel)
      · exact q2.trans (show (100 : Int) = LsW 2 (11 : Int32).toInt 2 from by decide +kernel)
      · exact q3.trans (show (100 : Int) = LsW 2 (11 : Int32).toInt 3 from by decide +kernel)
      · exact q4.trans (show (108 : Int) = LsW 2 (11 : Int32).toInt 4 from by decide +kernel)
      · exact q5.trans (show (101 : Int) = LsW 2 (11 : Int32).toInt 5 from by decide +kernel)
  rw [c] at h; exact h
theorem cs_3_0 {t : Nat → Int} {s e R : Int} (h : (R = 1 ∧ WdG t s e ((2 : Int32).toInt - (0 : Int32).toInt) (LsW 3 (0 : Int32).toInt)) ∨ (R = 0 ∧ ¬ WdG t s e ((2 : Int32).toInt - (0 : Int32).toInt) (LsW 3 (0 : Int32).toInt))) : (R = 1 ∧ w_to t s e) ∨ (R = 0 ∧ ¬ w_to t s e) := by
  have hm : (2 : Int32).toInt - (0 : Int32).toInt = 2 := (by decide)
  have c : WdG t s e ((2 : Int32).toInt - (0 : Int32).toInt) (LsW 3 (0 : Int32).toInt) ↔ w_to t s e := by
    constructor
    · intro h
      exact ⟨h.1.trans hm, (h.2 0 (by omega)).trans (show LsW 3 (0 : Int32).toInt 0 = 116 from by decide +kernel), (h.2 1 (by omega)).trans (show LsW 3 (0 : Int32).toInt 1 = 111 from by decide +kernel)⟩
    · intro h
      obtain ⟨h0, q0, q1⟩ := h
      refine ⟨h0.trans hm.symm, fun j hj => ?_⟩
      rcases (by omega : j = 0 ∨ j = 1) with rfl | rfl
      · exact q0.trans (show (116 : Int) = LsW 3 (0 : Int32).toInt 0 from by decide +kernel)
      · exact q1.trans (show (111 : Int) = LsW 3 (0 : Int32).toInt 1 from by decide +kernel)
  rw [c] at h; exact h
set_option maxHeartbeats 4000000 in
set_option maxRecDepth 100000 in
/-- X8_isSame -/
theorem c_X8_isSame_g0 (l : Launch) (dC : Nat → ClassId) (dI : Nat → Nat → Nat) (ak av : Nat → Nat) (h : Nat) (g : Nat → Nat → Nat) (ca : Nat → Nat → ClassId) (iv : Nat → Nat → Int32) (lv : Nat → Nat → Int64) (fa : Nat → Nat → Nat → Int32) (la : Nat → Nat → Nat → Int64) (hI : IX iv fa) (a : Int32) (b : Int32) (d : Int32) (h_a : 0 ≤ a.toInt ∧ a.toInt ≤ 21) (h_b : 0 ≤ b.toInt ∧ b.toInt ≤ 20) (h_d : 0 ≤ d.toInt ∧ d.toInt ≤ 200) : Met l yX8_isSame (wc yX8_isSame cX8_isSame 6 (some .boolean)) ({ frames := 4, cells := 0, slots := 0, locals := 85 } : Room) (pRZ ak av (dC, dI) classes (WX h g ca iv lv fa la) (TX ca) [.ref (g 11 4), .ref (ak 0), .int a, .int b, .int d]) (vp_Si (fun r => (0 ≤ r.toInt ∧ r.toInt ≤ 1) ∧ (((r.toInt = 1 ∧ WdG (fun j => ((fa 8 1) j).toInt) (iv 8 5).toInt d.toInt (b.toInt - a.toInt) (LsW 0 a.toInt)) ∨ (r.toInt = 0 ∧ ¬ WdG (fun j => ((fa 8 1) j).toInt) (iv 8 5).toInt d.toInt (b.toInt - a.toInt) (LsW 0 a.toInt)))))) 0 0 (fun _ => False) := by
  refine Met.ofW (cc := cX8_isSame) (maxL := 6) (ret := (some .boolean)) (by decide) rfl ?_
  intro p e s m args below meth c s₁ B hml hv
  obtain ⟨rfl, hP, hK, hZ⟩ := hv
  have hx := B.exec
  have hb := B.bytes
  have hr := B.returns
  have ht := tb_tl (atoms_spec (ws := wc yX8_isSame cX8_isSame 6 (some .boolean)) B.pre)
  have hown : s.vm.findClass RX8 = some m.cls := findClass_of_methodNamed B.named
  have hlocks := B.notSynchronized
  have hl := lv_entry [.ref (g 11 4), .ref (ak 0), .int a, .int b, .int d] (n := 6) (Nat.le_of_ble_eq_true rfl)
  rw [lg_entry_eq]
  generalize (lg_sl [.ref (g 11 4), .ref (ak 0), .int a, .int b, .int d] ++ List.replicate (6 - (lg_sl [.ref (g 11 4), .ref (ak 0), .int a, .int b, .int d]).length) Slot.unset).toArray = ls at hl ⊢
  have hl : lv_has ls 6 [(0, .ref (g 11 4)), (1, .ref (ak 0)), (2, .int a), (3, .int b), (4, .int d)] := hl
  refine lv_iload_n hx hb dX8_isSame_0 rfl (lv_at hl 3 rfl) ?_
  refine lv_iload_n hx hb dX8_isSame_1 rfl (lv_at hl 2 rfl) ?_
  refine lv_isub hx hb dX8_isSame_2 ?_
  refine lv_topi (fun v1 ev1 => ?_)
  have tv1 := z_sub ev1 (rfl : (b).toInt = _) (rfl : (a).toInt = _) (by omega) (by omega)
  refine lv_iload hx hb dX8_isSame_3 (lv_at hl 4 rfl) ?_
  refine lv_aload_n hx hb dX8_isSame_5 rfl (lv_at hl 0 rfl) ?_
  have i_8_5 : 0 ≤ (iv 8 5).toInt ∧ (iv 8 5).toInt ≤ 200 := hI.1 8 5
  refine gX_8_5 hx hb ht hown hK hP m_235 (v := (iv 8 5)) rfl dX8_isSame_6 ?_
  refine lv_isub hx hb dX8_isSame_9 ?_
  refine lv_topi (fun v2 ev2 => ?_)
  have tv2 := z_sub ev2 (rfl : (d).toInt = _) (rfl : ((iv 8 5)).toInt = _) (by omega) (by omega)
  refine lv_icmp_eq (tgt := 15) hx hb dX8_isSame_10 (by decide) (fun c3 => ?_) (fun c3 => ?_)
  · have fc3 := z_eq (rfl : (v1).toInt = _) (rfl : (v2).toInt = _) c3
    refine lv_iconst (v := 0) hx hb dX8_isSame_15 (by decide) ?_
    refine lv_istore (lv' := [(5, .int 0), (0, .ref (g 11 4)), (1, .ref (ak 0)), (2, .int a), (3, .int b), (4, .int d)]) hx hb dX8_isSame_16 hl (by decide) rfl (fun ls hl => ?_)
    have lp149 : ∀ (nn149 : Nat) (x148_5 : Int32), 0 ≤ x148_5.toInt ∧ x148_5.toInt ≤ 29 → (∀ j : Nat, (j : Int) < (x148_5 : Int32).toInt → (fun j => ((fa 8 1) j).toInt) ((((iv 8 5) : Int32).toInt).toNat + j) = LsW 0 (a).toInt j) → 29 - x148_5.toInt < (nn149 : Int) → ∀ (ls : Array Slot), lv_has ls 6 [(5, .int x148_5), (0, .ref (g 11 4)), (1, .ref (ak 0)), (2, .int a), (3, .int b), (4, .int d)] → W p l e ({ frames := 4, cells := 0, slots := 0, locals := 85 } : Room) s m ([.ref (g 11 4), .ref (ak 0), .int a, .int b, .int d] : List Value).toArray below meth c s.heap [] 0 0 (MQ below (vp_Si (fun r => (0 ≤ r.toInt ∧ r.toInt ≤ 1) ∧ (((r.toInt = 1 ∧ WdG (fun j => ((fa 8 1) j).toInt) (iv 8 5).toInt d.toInt (b.toInt - a.toInt) (LsW 0 a.toInt)) ∨ (r.toInt = 0 ∧ ¬ WdG (fun j => ((fa 8 1) j).toInt) (iv 8 5).toInt d.toInt (b.toInt - a.toInt) (LsW 0 a.toInt)))))) ([.ref (g 11 4), .ref (ak 0), .int a, .int b, .int d] : List Value).toArray s 0 0 (fun _ => False)) (F0 m 18 ls []) := by
      intro nn149
      induction nn149 with
      | zero => intro x148_5 hx148_5 hq149_0 hm149; exfalso; omega
      | succ nn149 ih149 =>
        intro x148_5 hx148_5 hq149_0 hm149 ls hl
        refine lv_iload hx hb dX8_isSame_18 (lv_at hl 0 rfl) ?_
        refine lv_iload_n hx hb dX8_isSame_20 rfl (lv_at hl 4 rfl) ?_
        refine lv_iload_n hx hb dX8_isSame_21 rfl (lv_at hl 3 rfl) ?_
        refine lv_isub hx hb dX8_isSame_22 ?_
        refine lv_topi (fun v150 ev150 => ?_)
        obtain rfl : v1 = v150 := ev1.trans ev150.symm
        refine lv_icmp_ge (tgt := 57) hx hb dX8_isSame_23 (by decide) (fun c151 => ?_) (fun c151 => ?_)
        · have fc151 := z_le (rfl : (v1).toInt = _) (rfl : (x148_5).toInt = _) c151
          refine lv_iconst (v := 1) hx hb dX8_isSame_57 (by decide) ?_
          have : (1 : Int32).toInt = 1 := (by decide)
          exact W.zret (v := 1) hx hb hr rfl (fun t ht9 hW => ⟨1, rfl, ⟨⟨by decide, by decide⟩, (show (((1 : Int32).toInt = 1 ∧ WdG (fun j => ((fa 8 1) j).toInt) ((iv 8 5) : Int32).toInt (d).toInt ((b).toInt - (a).toInt) (LsW 0 (a).toInt)) ∨ ((1 : Int32).toInt = 0 ∧ ¬ WdG (fun j => ((fa 8 1) j).toInt) ((iv 8 5) : Int32).toInt (d).toInt ((b).toInt - (a).toInt) (LsW 0 (a).toInt))) from (Or.inl ⟨by omega, by omega, fun j hj => hq149_0 j (by omega)⟩))⟩, ht9⟩) (fun q hq => by cases hq) dX8_isSame_58
        · have fc151 := z_nle (rfl : (v1).toInt = _) (rfl : (x148_5).toInt = _) c151
          refine lv_aload_n hx hb dX8_isSame_26 rfl (lv_at hl 2 rfl) ?_
          refine lv_iload_n hx hb dX8_isSame_27 rfl (lv_at hl 3 rfl) ?_
          refine lv_iload hx hb dX8_isSame_28 (lv_at hl 0 rfl) ?_
          refine lv_iadd hx hb dX8_isSame_30 ?_
          refine lv_topi (fun v152 ev152 => ?_)
          have tv152 := z_add ev152 (rfl : (a).toInt = _) (rfl : (x148_5).toInt = _) (by omega) (by omega)
          have : 0 ≤ (v152 : Int32).toInt ∧ (v152 : Int32).toInt ≤ 20 := ⟨by omega, by omega⟩
          refine vp_callSi (W.runV (As := [.int v152]) (rest := []) ⟨hx, hb, hml, hown, ht⟩ (c_J0_charAt_5068e_0 l dC dI ak av v152 ⟨by omega, by omega⟩) (kV 1 ht m_715 m_716 m_717 m_91 m_718 rfl rfl hd_J0_charAt_5068e_v ⟨Nat.le_of_ble_eq_true rfl, Nat.le_of_ble_eq_true rfl⟩) (vRZ noP (hK.sub (tys' := []) [] rfl) hZ (vk_recv hZ.1.2.2.2.2.2 (i := 0) (by decide) va_S.rf)) rfl rfl hl.1 rfl (lv_room (Nat.le_of_ble_eq_true rfl)) dX8_isSame_31 ⟨Nat.le_of_ble_eq_true rfl, Nat.le_of_ble_eq_true rfl⟩) (fun r153 hr153 => ?_)
          refine lv_aload_n hx hb dX8_isSame_34 rfl (lv_at hl 1 rfl) ?_
          refine gX_8_1 hx hb ht hown hK hP m_229 dX8_isSame_35 ?_
          refine lv_aload_n hx hb dX8_isSame_38 rfl (lv_at hl 1 rfl) ?_
          refine gX_8_5 hx hb ht hown hK hP m_235 (v := (iv 8 5)) rfl dX8_isSame_39 ?_
          refine lv_iload hx hb dX8_isSame_42 (lv_at hl 0 rfl) ?_
          refine lv_iadd hx hb dX8_isSame_44 ?_
          refine lv_topi (fun v154 ev154 => ?_)
          have tv154 := z_add ev154 (rfl : ((iv 8 5)).toInt = _) (rfl : (x148_5).toInt = _) (by omega) (by omega)
          have : 0 ≤ (v154 : Int32).toInt ∧ (v154 : Int32).toInt ≤ 199 := ⟨by omega, by omega⟩
          refine lX_8_1 hx hb hK hP (f := (fa 8 1)) rfl (vp_in_iff.mpr ⟨by omega, by omega⟩) dX8_isSame_45 ?_
          refine lv_topi (fun v155 ev155 => ?_)
          refine lv_icmp_eq (tgt := 51) hx hb dX8_isSame_46 (by decide) (fun c156 => ?_) (fun c156 => ?_)
          · have fc156 := z_eq (rfl : (r153).toInt = _) (rfl : (v155).toInt = _) c156
            obtain ⟨v157, ev157⟩ : ∃ y : Int32, y = x148_5 + 1 := ⟨_, rfl⟩
            have tv157 := z_add ev157 rfl (by decide : (1 : Int32).toInt = 1) (by omega) (by omega)
            refine lv_iinc (v := v157) (lv' := [(5, .int v157), (0, .ref (g 11 4)), (1, .ref (ak 0)), (2, .int a), (3, .int b), (4, .int d)]) hx hb dX8_isSame_51 hl (k := 0) rfl (by rw [ev157]; rfl) (by decide) rfl (fun ls hl => ?_)
            refine lv_goto (tgt := 18) hx hb dX8_isSame_54 (by decide) ?_
            exact ih149 v157 ⟨by omega, by omega⟩ (show ∀ j : Nat, (j : Int) < (v157 : Int32).toInt → (fun j => ((fa 8 1) j).toInt) ((((iv 8 5) : Int32).toInt).toNat + j) = LsW 0 (a).toInt j from (fun j hj => by
                  by_cases hj2 : (j : Int) < (x148_5 : Int32).toInt
                  · exact hq149_0 j hj2
                  · have hj3 : j = ((x148_5 : Int32).toInt).toNat := by omega
                    rw [hj3]
                    have q0 : (v155 : Int32).toInt = (fa 8 1 ((iv 8 5).toInt.toNat + ((x148_5 : Int32).toInt).toNat)).toInt := congrArg Int32.toInt (ev155.trans (congrArg (fa 8 1) (show (v154 : Int32).toNatClampNeg = (iv 8 5).toInt.toNat + ((x148_5 : Int32).toInt).toNat from (by show (v154 : Int32).toInt.toNat = _; omega))))
                    have q1 : (r153 : Int32).toInt = ((S_byt.getD 0 []).getD (a.toInt.toNat + ((x148_5 : Int32).toInt).toNat) 0).toInt := congrArg Int32.toInt (hr153.trans (congrArg (fun z => (S_byt.getD 0 []).getD z 0) (show (v152 : Int32).toNatClampNeg = a.toInt.toNat + ((x148_5 : Int32).toInt).toNat from (by show (v152 : Int32).toInt.toNat = _; omega))))
                    show (fa 8 1 ((iv 8 5).toInt.toNat + ((x148_5 : Int32).toInt).toNat)).toInt = ((S_byt.getD 0 []).getD (a.toInt.toNat + ((x148_5 : Int32).toInt).toNat) 0).toInt
                    omega)) (by omega) ls (lv_sub hl [0, 1, 2, 3, 4, 5] rfl)
          · have fc156 := z_ne (rfl : (r153).toInt = _) (rfl : (v155).toInt = _) c156
            refine lv_iconst (v := 0) hx hb dX8_isSame_49 (by decide) ?_
            have : (0 : Int32).toInt = 0 := (by decide)
            exact W.zret (v := 0) hx hb hr rfl (fun t ht9 hW => ⟨0, rfl, ⟨⟨by decide, by decide⟩, (show (((0 : Int32).toInt = 1 ∧ WdG (fun j => ((fa 8 1) j).toInt) ((iv 8 5) : Int32).toInt (d).toInt ((b).toInt - (a).toInt) (LsW 0 (a).toInt)) ∨ ((0 : Int32).toInt = 0 ∧ ¬ WdG (fun j => ((fa 8 1) j).toInt) ((iv 8 5) : Int32).toInt (d).toInt ((b).toInt - (a).toInt) (LsW 0 (a).toInt))) from (by
                  refine Or.inr ⟨by omega, fun h9 => ?_⟩
                  obtain ⟨-, h8⟩ := h9
                  have h7 : (fa 8 1 ((iv 8 5).toInt.toNat + ((x148_5 : Int32).toInt).toNat)).toInt = ((S_byt.getD 0 []).getD (a.toInt.toNat + ((x148_5 : Int32).toInt).toNat) 0).toInt := h8 ((x148_5 : Int32).toInt).toNat (by omega)
                  have q0 : (v155 : Int32).toInt = (fa 8 1 ((iv 8 5).toInt.toNat + ((x148_5 : Int32).toInt).toNat)).toInt := congrArg Int32.toInt (ev155.trans (congrArg (fa 8 1) (show (v154 : Int32).toNatClampNeg = (iv 8 5).toInt.toNat + ((x148_5 : Int32).toInt).toNat from (by show (v154 : Int32).toInt.toNat = _; omega))))
                  have q1 : (r153 : Int32).toInt = ((S_byt.getD 0 []).getD (a.toInt.toNat + ((x148_5 : Int32).toInt).toNat) 0).toInt := congrArg Int32.toInt (hr153.trans (congrArg (fun z => (S_byt.getD 0 []).getD z 0) (show (v152 : Int32).toNatClampNeg = a.toInt.toNat + ((x148_5 : Int32).toInt).toNat from (by show (v152 : Int32).toInt.toNat = _; omega))))
                  omega))⟩, ht9⟩) (fun q hq => by cases hq) dX8_isSame_50
    have : (0 : Int32).toInt = 0 := (by decide)
    exact lp149 30 0 ⟨by decide, by decide⟩ (show ∀ j : Nat, (j : Int) < (0 : Int32).toInt → (fun j => ((fa 8 1) j).toInt) ((((iv 8 5) : Int32).toInt).toNat + j) = LsW 0 (a).toInt j from (fun j hj => absurd hj (by omega))) (by first | decide | omega) ls (lv_sub hl [0, 1, 2, 3, 4, 5] rfl)
  · have fc3 := z_ne (rfl : (v1).toInt = _) (rfl : (v2).toInt = _) c3
    refine lv_iconst (v := 0) hx hb dX8_isSame_13 (by decide) ?_
    have : (0 : Int32).toInt = 0 := (by decide)
    exact W.zret (v := 0) hx hb hr rfl (fun t ht9 hW => ⟨0, rfl, ⟨⟨by decide, by decide⟩, (show (((0 : Int32).toInt = 1 ∧ WdG (fun j => ((fa 8 1) j).toInt) ((iv 8 5) : Int32).toInt (d).toInt ((b).toInt - (a).toInt) (LsW 0 (a).toInt)) ∨ ((0 : Int32).toInt = 0 ∧ ¬ WdG (fun j => ((fa 8 1) j).toInt) ((iv 8 5) : Int32).toInt (d).toInt ((b).toInt - (a).toInt) (LsW 0 (a).toInt))) from (Or.inr ⟨by omega, fun h9 => (by obtain ⟨h8, -⟩ := h9; omega)⟩))⟩, ht9⟩) (fun q hq => by cases hq) dX8_isSame_14
set_option maxHeartbeats 4000000 in
set_option maxRecDepth 100000 in
/-- X8_isSame -/
theorem c_X8_isSame_g1 (l : Launch) (dC : Nat → ClassId) (dI : Nat → Nat → Nat) (ak av : Nat → Nat) (h : Nat) (g : Nat → Nat → Nat) (ca : Nat → Nat → ClassId) (iv : Nat → Nat → Int32) (lv : Nat → Nat → Int64) (fa : Nat → Nat → Nat → Int32) (la : Nat → Nat → Nat → Int64) (hI : IX iv fa) (a : Int32) (b : Int32) (d : Int32) (h_a : 0 ≤ a.toInt ∧ a.toInt ≤ 28) (h_b : 0 ≤ b.toInt ∧ b.toInt ≤ 27) (h_d : 0 ≤ d.toInt ∧ d.toInt ≤ 200) : Met l yX8_isSame (wc yX8_isSame cX8_isSame 6 (some .boolean)) ({ frames := 4, cells := 0, slots := 0, locals := 85 } : Room) (pRZ ak av (dC, dI) classes (WX h g ca iv lv fa la) (TX ca) [.ref (g 11 4), .ref (ak 1), .int a, .int b, .int d]) (vp_Si (fun r => (0 ≤ r.toInt ∧ r.toInt ≤ 1) ∧ (((r.toInt = 1 ∧ WdG (fun j => ((fa 8 1) j).toInt) (iv 8 5).toInt d.toInt (b.toInt - a.toInt) (LsW 1 a.toInt)) ∨ (r.toInt = 0 ∧ ¬ WdG (fun j => ((fa 8 1) j).toInt) (iv 8 5).toInt d.toInt (b.toInt - a.toInt) (LsW 1 a.toInt)))))) 0 0 (fun _ => False) := by
  refine Met.ofW (cc := cX8_isSame) (maxL := 6) (ret := (some .boolean)) (by decide) rfl ?_
  intro p e s m args below meth c s₁ B hml hv
  obtain ⟨rfl, hP, hK, hZ⟩ := hv
  have hx := B.exec
  have hb := B.bytes
  have hr := B.returns
  have ht := tb_tl (atoms_spec (ws := wc yX8_isSame cX8_isSame 6 (some .boolean)) B.pre)
  have hown : s.vm.findClass RX8 = some m.cls := findClass_of_methodNamed B.named
  have hlocks := B.notSynchronized
  have hl := lv_entry [.ref (g 11 4), .ref (ak 1), .int a, .int b, .int d] (n := 6) (Nat.le_of_ble_eq_true rfl)
  rw [lg_entry_eq]
  generalize (lg_sl [.ref (g 11 4), .ref (ak 1), .int a, .int b, .int d] ++ List.replicate (6 - (lg_sl [.ref (g 11 4), .ref (ak 1), .int a, .int b, .int d]).length) Slot.unset).toArray = ls at hl ⊢
  have hl : lv_has ls 6 [(0, .ref (g 11 4)), (1, .ref (ak 1)), (2, .int a), (3, .int b), (4, .int d)] := hl
  refine lv_iload_n hx hb dX8_isSame_0 rfl (lv_at hl 3 rfl) ?_
  refine lv_iload_n hx hb dX8_isSame_1 rfl (lv_at hl 2 rfl) ?_
  refine lv_isub hx hb dX8_isSame_2 ?_
  refine lv_topi (fun v1 ev1 => ?_)
  have tv1 := z_sub ev1 (rfl : (b).toInt = _) (rfl : (a).toInt = _) (by omega) (by omega)
  refine lv_iload hx hb dX8_isSame_3 (lv_at hl 4 rfl) ?_
  refine lv_aload_n hx hb dX8_isSame_5 rfl (lv_at hl 0 rfl) ?_
  have i_8_5 : 0 ≤ (iv 8 5).toInt ∧ (iv 8 5).toInt ≤ 200 := hI.1 8 5
  refine gX_8_5 hx hb ht hown hK hP m_235 (v := (iv 8 5)) rfl dX8_isSame_6 ?_
  refine lv_isub hx hb dX8_isSame_9 ?_
  refine lv_topi (fun v2 ev2 => ?_)
  have tv2 := z_sub ev2 (rfl : (d).toInt = _) (rfl : ((iv 8 5)).toInt = _) (by omega) (by omega)
  refine lv_icmp_eq (tgt := 15) hx hb dX8_isSame_10 (by decide) (fun c3 => ?_) (fun c3 => ?_)
  · have fc3 := z_eq (rfl : (v1).toInt = _) (rfl : (v2).toInt = _) c3
    refine lv_iconst (v := 0) hx hb dX8_isSame_15 (by decide) ?_
    refine lv_istore (lv' := [(5, .int 0), (0, .ref (g 11 4)), (1, .ref (ak 1)), (2, .int a), (3, .int b), (4, .int d)]) hx hb dX8_isSame_16 hl (by decide) rfl (fun ls hl => ?_)
    have lp149 : ∀ (nn149 : Nat) (x148_5 : Int32), 0 ≤ x148_5.toInt ∧ x148_5.toInt ≤ 29 → (∀ j : Nat, (j : Int) < (x148_5 : Int32).toInt → (fun j => ((fa 8 1) j).toInt) ((((iv 8 5) : Int32).toInt).toNat + j) = LsW 1 (a).toInt j) → 29 - x148_5.toInt < (nn149 : Int) → ∀ (ls : Array Slot), lv_has ls 6 [(5, .int x148_5), (0, .ref (g 11 4)), (1, .ref (ak 1)), (2, .int a), (3, .int b), (4, .int d)] → W p l e ({ frames := 4, cells := 0, slots := 0, locals := 85 } : Room) s m ([.ref (g 11 4), .ref (ak 1), .int a, .int b, .int d] : List Value).toArray below meth c s.heap [] 0 0 (MQ below (vp_Si (fun r => (0 ≤ r.toInt ∧ r.toInt ≤ 1) ∧ (((r.toInt = 1 ∧ WdG (fun j => ((fa 8 1) j).toInt) (iv 8 5).toInt d.toInt (b.toInt - a.toInt) (LsW 1 a.toInt)) ∨ (r.toInt = 0 ∧ ¬ WdG (fun j => ((fa 8 1) j).toInt) (iv 8 5).toInt d.toInt (b.toInt - a.toInt) (LsW 1 a.toInt)))))) ([.ref (g 11 4), .ref (ak 1), .int a, .int b, .int d] : List Value).toArray s 0 0 (fun _ => False)) (F0 m 18 ls []) := by
      intro nn149
      induction nn149 with
      | zero => intro x148_5 hx148_5 hq149_0 hm149; exfalso; omega
      | succ nn149 ih149 =>
        intro x148_5 hx148_5 hq149_0 hm149 ls hl
        refine lv_iload hx hb dX8_isSame_18 (lv_at hl 0 rfl) ?_
        refine lv_iload_n hx hb dX8_isSame_20 rfl (lv_at hl 4 rfl) ?_
        refine lv_iload_n hx hb dX8_isSame_21 rfl (lv_at hl 3 rfl) ?_
        refine lv_isub hx hb dX8_isSame_22 ?_
        refine lv_topi (fun v150 ev150 => ?_)
        obtain rfl : v1 = v150 := ev1.trans ev150.symm
        refine lv_icmp_ge (tgt := 57) hx hb dX8_isSame_23 (by decide) (fun c151 => ?_) (fun c151 => ?_)
        · have fc151 := z_le (rfl : (v1).toInt = _) (rfl : (x148_5).toInt = _) c151
          refine lv_iconst (v := 1) hx hb dX8_isSame_57 (by decide) ?_
          have : (1 : Int32).toInt = 1 := (by decide)
          exact W.zret (v := 1) hx hb hr rfl (fun t ht9 hW => ⟨1, rfl, ⟨⟨by decide, by decide⟩, (show (((1 : Int32).toInt = 1 ∧ WdG (fun j => ((fa 8 1) j).toInt) ((iv 8 5) : Int32).toInt (d).toInt ((b).toInt - (a).toInt) (LsW 1 (a).toInt)) ∨ ((1 : Int32).toInt = 0 ∧ ¬ WdG (fun j => ((fa 8 1) j).toInt) ((iv 8 5) : Int32).toInt (d).toInt ((b).toInt - (a).toInt) (LsW 1 (a).toInt))) from (Or.inl ⟨by omega, by omega, fun j hj => hq149_0 j (by omega)⟩))⟩, ht9⟩) (fun q hq => by cases hq) dX8_isSame_58
        · have fc151 := z_nle (rfl : (v1).toInt = _) (rfl : (x148_5).toInt = _) c151
          refine lv_aload_n hx hb dX8_isSame_26 rfl (lv_at hl 2 rfl) ?_
          refine lv_iload_n hx hb dX8_isSame_27 rfl (lv_at hl 3 rfl) ?_
          refine lv_iload hx hb dX8_isSame_28 (lv_at hl 0 rfl) ?_
          refine lv_iadd hx hb dX8_isSame_30 ?_
          refine lv_topi (fun v152 ev152 => ?_)
          have tv152 := z_add ev152 (rfl : (a).toInt = _) (rfl : (x148_5).toInt = _) (by omega) (by omega)
          have : 0 ≤ (v152 : Int32).toInt ∧ (v152 : Int32).toInt ≤ 27 := ⟨by omega, by omega⟩
          refine vp_callSi (W.runV (As := [.int v152]) (rest := []) ⟨hx, hb, hml, hown, ht⟩ (c_J0_charAt_5068e_1 l dC dI ak av v152 ⟨by omega, by omega⟩) (kV 1 ht m_715 m_716 m_717 m_91 m_718 rfl rfl hd_J0_charAt_5068e_v ⟨Nat.le_of_ble_eq_true rfl, Nat.le_of_ble_eq_true rfl⟩) (vRZ noP (hK.sub (tys' := []) [] rfl) hZ (vk_recv hZ.1.2.2.2.2.2 (i := 1) (by decide) va_S.rf)) rfl rfl hl.1 rfl (lv_room (Nat.le_of_ble_eq_true rfl)) dX8_isSame_31 ⟨Nat.le_of_ble_eq_true rfl, Nat.le_of_ble_eq_true rfl⟩) (fun r153 hr153 => ?_)
          refine lv_aload_n hx hb dX8_isSame_34 rfl (lv_at hl 1 rfl) ?_
          refine gX_8_1 hx hb ht hown hK hP m_229 dX8_isSame_35 ?_
          refine lv_aload_n hx hb dX8_isSame_38 rfl (lv_at hl 1 rfl) ?_
          refine gX_8_5 hx hb ht hown hK hP m_235 (v := (iv 8 5)) rfl dX8_isSame_39 ?_
          refine lv_iload hx hb dX8_isSame_42 (lv_at hl 0 rfl) ?_
          refine lv_iadd hx hb dX8_isSame_44 ?_
          refine lv_topi (fun v154 ev154 => ?_)
          have tv154 := z_add ev154 (rfl : ((iv 8 5)).toInt = _) (rfl : (x148_5).toInt = _) (by omega) (by omega)
          have : 0 ≤ (v154 : Int32).toInt ∧ (v154 : Int32).toInt ≤ 199 := ⟨by omega, by omega⟩
          refine lX_8_1 hx hb hK hP (f := (fa 8 1)) rfl (vp_in_iff.mpr ⟨by omega, by omega⟩) dX8_isSame_45 ?_
          refine lv_topi (fun v155 ev155 => ?_)
          refine lv_icmp_eq (tgt := 51) hx hb dX8_isSame_46 (by decide) (fun c156 => ?_) (fun c156 => ?_)
          · have fc156 := z_eq (rfl : (r153).toInt = _) (rfl : (v155).toInt = _) c156
            obtain ⟨v157, ev157⟩ : ∃ y : Int32, y = x148_5 + 1 := ⟨_, rfl⟩
            have tv157 := z_add ev157 rfl (by decide : (1 : Int32).toInt = 1) (by omega) (by omega)
            refine lv_iinc (v := v157) (lv' := [(5, .int v157), (0, .ref (g 11 4)), (1, .ref (ak 1)), (2, .int a), (3, .int b), (4, .int d)]) hx hb dX8_isSame_51 hl (k := 0) rfl (by rw [ev157]; rfl) (by decide) rfl (fun ls hl => ?_)
            refine lv_goto (tgt := 18) hx hb dX8_isSame_54 (by decide) ?_
            exact ih149 v157 ⟨by omega, by omega⟩ (show ∀ j : Nat, (j : Int) < (v157 : Int32).toInt → (fun j => ((fa 8 1) j).toInt) ((((iv 8 5) : Int32).toInt).toNat + j) = LsW 1 (a).toInt j from (fun j hj => by
                  by_cases hj2 : (j : Int) < (x148_5 : Int32).toInt
                  · exact hq149_0 j hj2
                  · have hj3 : j = ((x148_5 : Int32).toInt).toNat := by omega
                    rw [hj3]
                    have q0 : (v155 : Int32).toInt = (fa 8 1 ((iv 8 5).toInt.toNat + ((x148_5 : Int32).toInt).toNat)).toInt := congrArg Int32.toInt (ev155.trans (congrArg (fa 8 1) (show (v154 : Int32).toNatClampNeg = (iv 8 5).toInt.toNat + ((x148_5 : Int32).toInt).toNat from (by show (v154 : Int32).toInt.toNat = _; omega))))
                    have q1 : (r153 : Int32).toInt = ((S_byt.getD 1 []).getD (a.toInt.toNat + ((x148_5 : Int32).toInt).toNat) 0).toInt := congrArg Int32.toInt (hr153.trans (congrArg (fun z => (S_byt.getD 1 []).getD z 0) (show (v152 : Int32).toNatClampNeg = a.toInt.toNat + ((x148_5 : Int32).toInt).toNat from (by show (v152 : Int32).toInt.toNat = _; omega))))
                    show (fa 8 1 ((iv 8 5).toInt.toNat + ((x148_5 : Int32).toInt).toNat)).toInt = ((S_byt.getD 1 []).getD (a.toInt.toNat + ((x148_5 : Int32).toInt).toNat) 0).toInt
                    omega)) (by omega) ls (lv_sub hl [0, 1, 2, 3, 4, 5] rfl)
          · have fc156 := z_ne (rfl : (r153).toInt = _) (rfl : (v155).toInt = _) c156
            refine lv_iconst (v := 0) hx hb dX8_isSame_49 (by decide) ?_
            have : (0 : Int32).toInt = 0 := (by decide)
            exact W.zret (v := 0) hx hb hr rfl (fun t ht9 hW => ⟨0, rfl, ⟨⟨by decide, by decide⟩, (show (((0 : Int32).toInt = 1 ∧ WdG (fun j => ((fa 8 1) j).toInt) ((iv 8 5) : Int32).toInt (d).toInt ((b).toInt - (a).toInt) (LsW 1 (a).toInt)) ∨ ((0 : Int32).toInt = 0 ∧ ¬ WdG (fun j => ((fa 8 1) j).toInt) ((iv 8 5) : Int32).toInt (d).toInt ((b).toInt - (a).toInt) (LsW 1 (a).toInt))) from (by
                  refine Or.inr ⟨by omega, fun h9 => ?_⟩
                  obtain ⟨-, h8⟩ := h9
                  have h7 : (fa 8 1 ((iv 8 5).toInt.toNat + ((x148_5 : Int32).toInt).toNat)).toInt = ((S_byt.getD 1 []).getD (a.toInt.toNat + ((x148_5 : Int32).toInt).toNat) 0).toInt := h8 ((x148_5 : Int32).toInt).toNat (by omega)
                  have q0 : (v155 : Int32).toInt = (fa 8 1 ((iv 8 5).toInt.toNat + ((x148_5 : Int32).toInt).toNat)).toInt := congrArg Int32.toInt (ev155.trans (congrArg (fa 8 1) (show (v154 : Int32).toNatClampNeg = (iv 8 5).toInt.toNat + ((x148_5 : Int32).toInt).toNat from (by show (v154 : Int32).toInt.toNat = _; omega))))
                  have q1 : (r153 : Int32).toInt = ((S_byt.getD 1 []).getD (a.toInt.toNat + ((x148_5 : Int32).toInt).toNat) 0).toInt := congrArg Int32.toInt (hr153.trans (congrArg (fun z => (S_byt.getD 1 []).getD z 0) (show (v152 : Int32).toNatClampNeg = a.toInt.toNat + ((x148_5 : Int32).toInt).toNat from (by show (v152 : Int32).toInt.toNat = _; omega))))
                  omega))⟩, ht9⟩) (fun q hq => by cases hq) dX8_isSame_50
    have : (0 : Int32).toInt = 0 := (by decide)
    exact lp149 30 0 ⟨by decide, by decide⟩ (show ∀ j : Nat, (j : Int) < (0 : Int32).toInt → (fun j => ((fa 8 1) j).toInt) ((((iv 8 5) : Int32).toInt).toNat + j) = LsW 1 (a).toInt j from (fun j hj => absurd hj (by omega))) (by first | decide | omega) ls (lv_sub hl [0, 1, 2, 3, 4, 5] rfl)
  · have fc3 := z_ne (rfl : (v1).toInt = _) (rfl : (v2).toInt = _) c3
    refine lv_iconst (v := 0) hx hb dX8_isSame_13 (by decide) ?_
    have : (0 : Int32).toInt = 0 := (by decide)
    exact W.zret (v := 0) hx hb hr rfl (fun t ht9 hW => ⟨0, rfl, ⟨⟨by decide, by decide⟩, (show (((0 : Int32).toInt = 1 ∧ WdG (fun j => ((fa 8 1) j).toInt) ((iv 8 5) : Int32).toInt (d).toInt ((b).toInt - (a).toInt) (LsW 1 (a).toInt)) ∨ ((0 : Int32).toInt = 0 ∧ ¬ WdG (fun j => ((fa 8 1) j).toInt) ((iv 8 5) : Int32).toInt (d).toInt ((b).toInt - (a).toInt) (LsW 1 (a).toInt))) from (Or.inr ⟨by omega, fun h9 => (by obtain ⟨h8, -⟩ := h9; omega)⟩))⟩, ht9⟩) (fun q hq => by cases hq) dX8_isSame_14
set_option maxHeartbeats 4000000 in
set_option maxRecDepth 100000 in
/-- X8_isSame -/
theorem c_X8_isSame_g2 (l : Launch) (dC : Nat → ClassId) (dI : Nat → Nat → Nat) (ak av : Nat → Nat) (h : Nat) (g : Nat → Nat → Nat) (ca : Nat → Nat → ClassId) (iv : Nat → Nat → Int32) (lv : Nat → Nat → Int64) (fa : Nat → Nat → Nat → Int32) (la : Nat → Nat → Nat → Int64) (hI : IX iv fa) (a : Int32) (b : Int32) (d : Int32) (h_a : 0 ≤ a.toInt ∧ a.toInt ≤ 18) (h_b : 0 ≤ b.toInt ∧ b.toInt ≤ 17) (h_d : 0 ≤ d.toInt ∧ d.toInt ≤ 200) : Met l yX8_isSame (wc yX8_isSame cX8_isSame 6 (some .boolean)) ({ frames := 4, cells := 0, slots := 0, locals := 85 } : Room) (pRZ ak av (dC, dI) classes (WX h g ca iv lv fa la) (TX ca) [.ref (g 11 4), .ref (ak 2), .int a, .int b, .int d]) (vp_Si (fun r => (0 ≤ r.toInt ∧ r.toInt ≤ 1) ∧ (((r.toInt = 1 ∧ WdG (fun j => ((fa 8 1) j).toInt) (iv 8 5).toInt d.toInt (b.toInt - a.toInt) (LsW 2 a.toInt)) ∨ (r.toInt = 0 ∧ ¬ WdG (fun j => ((fa 8 1) j).toInt) (iv 8 5).toInt d.toInt (b.toInt - a.toInt) (LsW 2 a.toInt)))))) 0 0 (fun _ => False) := by
  refine Met.ofW (cc := cX8_isSame) (maxL := 6) (ret := (some .boolean)) (by decide) rfl ?_
  intro p e s m args below meth c s₁ B hml hv
  obtain ⟨rfl, hP, hK, hZ⟩ := hv
  have hx := B.exec
  have hb := B.bytes
  have hr := B.returns
  have ht := tb_tl (atoms_spec (ws := wc yX8_isSame cX8_isSame 6 (some .boolean)) B.pre)
  have hown : s.vm.findClass RX8 = some m.cls := findClass_of_methodNamed B.named
  have hlocks := B.notSynchronized
  have hl := lv_entry [.ref (g 11 4), .ref (ak 2), .int a, .int b, .int d] (n := 6) (Nat.le_of_ble_eq_true rfl)
  rw [lg_entry_eq]
  generalize (lg_sl [.ref (g 11 4), .ref (ak 2), .int a, .int b, .int d] ++ List.replicate (6 - (lg_sl [.ref (g 11 4), .ref (ak 2), .int a, .int b, .int d]).length) Slot.unset).toArray = ls at hl ⊢
  have hl : lv_has ls 6 [(0, .ref (g 11 4)), (1, .ref (ak 2)), (2, .int a), (3, .int b), (4, .int d)] := hl
  refine lv_iload_n hx hb dX8_isSame_0 rfl (lv_at hl 3 rfl) ?_
  refine lv_iload_n hx hb dX8_isSame_1 rfl (lv_at hl 2 rfl) ?_
  refine lv_isub hx hb dX8_isSame_2 ?_
  refine lv_topi (fun v1 ev1 => ?_)
  have tv1 := z_sub ev1 (rfl : (b).toInt = _) (rfl : (a).toInt = _) (by omega) (by omega)
  refine lv_iload hx hb dX8_isSame_3 (lv_at hl 4 rfl) ?_
  refine lv_aload_n hx hb dX8_isSame_5 rfl (lv_at hl 0 rfl) ?_
  have i_8_5 : 0 ≤ (iv 8 5).toInt ∧ (iv 8 5).toInt ≤ 200 := hI.1 8 5
  refine gX_8_5 hx hb ht hown hK hP m_235 (v := (iv 8 5)) rfl dX8_isSame_6 ?_
  refine lv_isub hx hb dX8_isSame_9 ?_
  refine lv_topi (fun v2 ev2 => ?_)
  have tv2 := z_sub ev2 (rfl : (d).toInt = _) (rfl : ((iv 8 5)).toInt = _) (by omega) (by omega)
  refine lv_icmp_eq (tgt := 15) hx hb dX8_isSame_10 (by decide) (fun c3 => ?_) (fun c3 => ?_)
  · have fc3 := z_eq (rfl : (v1).toInt = _) (rfl : (v2).toInt = _) c3
    refine lv_iconst (v := 0) hx hb dX8_isSame_15 (by decide) ?_
    refine lv_istore (lv' := [(5, .int 0), (0, .ref (g 11 4)), (1, .ref (ak 2)), (2, .int a), (3, .int b), (4, .int d)]) hx hb dX8_isSame_16 hl (by decide) rfl (fun ls hl => ?_)
    have lp140 : ∀ (nn140 : Nat) (x139_5 : Int32), 0 ≤ x139_5.toInt ∧ x139_5.toInt ≤ 19 → (∀ j : Nat, (j : Int) < (x139_5 : Int32).toInt → (fun j => ((fa 8 1) j).toInt) ((((iv 8 5) : Int32).toInt).toNat + j) = LsW 2 (a).toInt j) → 19 - x139_5.toInt < (nn140 : Int) → ∀ (ls : Array Slot), lv_has ls 6 [(5, .int x139_5), (0, .ref (g 11 4)), (1, .ref (ak 2)), (2, .int a), (3, .int b), (4, .int d)] → W p l e ({ frames := 4, cells := 0, slots := 0, locals := 85 } : Room) s m ([.ref (g 11 4), .ref (ak 2), .int a, .int b, .int d] : List Value).toArray below meth c s.heap [] 0 0 (MQ below (vp_Si (fun r => (0 ≤ r.toInt ∧ r.toInt ≤ 1) ∧ (((r.toInt = 1 ∧ WdG (fun j => ((fa 8 1) j).toInt) (iv 8 5).toInt d.toInt (b.toInt - a.toInt) (LsW 2 a.toInt)) ∨ (r.toInt = 0 ∧ ¬ WdG (fun j => ((fa 8 1) j).toInt) (iv 8 5).toInt d.toInt (b.toInt - a.toInt) (LsW 2 a.toInt)))))) ([.ref (g 11 4), .ref (ak 2), .int a, .int b, .int d] : List Value).toArray s 0 0 (fun _ => False)) (F0 m 18 ls []) := by
      intro nn140
      induction nn140 with
      | zero => intro x139_5 hx139_5 hq140_0 hm140; exfalso; omega
      | succ nn140 ih140 =>
        intro x139_5 hx139_5 hq140_0 hm140 ls hl
        refine lv_iload hx hb dX8_isSame_18 (lv_at hl 0 rfl) ?_
        refine lv_iload_n hx hb dX8_isSame_20 rfl (lv_at hl 4 rfl) ?_
        refine lv_iload_n hx hb dX8_isSame_21 rfl (lv_at hl 3 rfl) ?_
        refine lv_isub hx hb dX8_isSame_22 ?_
        refine lv_topi (fun v141 ev141 => ?_)
        obtain rfl : v1 = v141 := ev1.trans ev141.symm
        refine lv_icmp_ge (tgt := 57) hx hb dX8_isSame_23 (by decide) (fun c142 => ?_) (fun c142 => ?_)
        · have fc142 := z_le (rfl : (v1).toInt = _) (rfl : (x139_5).toInt = _) c142
          refine lv_iconst (v := 1) hx hb dX8_isSame_57 (by decide) ?_
          have : (1 : Int32).toInt = 1 := (by decide)
          exact W.zret (v := 1) hx hb hr rfl (fun t ht9 hW => ⟨1, rfl, ⟨⟨by decide, by decide⟩, (show (((1 : Int32).toInt = 1 ∧ WdG (fun j => ((fa 8 1) j).toInt) ((iv 8 5) : Int32).toInt (d).toInt ((b).toInt - (a).toInt) (LsW 2 (a).toInt)) ∨ ((1 : Int32).toInt = 0 ∧ ¬ WdG (fun j => ((fa 8 1) j).toInt) ((iv 8 5) : Int32).toInt (d).toInt ((b).toInt - (a).toInt) (LsW 2 (a).toInt))) from (Or.inl ⟨by omega, by omega, fun j hj => hq140_0 j (by omega)⟩))⟩, ht9⟩) (fun q hq => by cases hq) dX8_isSame_58
        · have fc142 := z_nle (rfl : (v1).toInt = _) (rfl : (x139_5).toInt = _) c142
          refine lv_aload_n hx hb dX8_isSame_26 rfl (lv_at hl 2 rfl) ?_
          refine lv_iload_n hx hb dX8_isSame_27 rfl (lv_at hl 3 rfl) ?_
          refine lv_iload hx hb dX8_isSame_28 (lv_at hl 0 rfl) ?_
          refine lv_iadd hx hb dX8_isSame_30 ?_
          refine lv_topi (fun v143 ev143 => ?_)
          have tv143 := z_add ev143 (rfl : (a).toInt = _) (rfl : (x139_5).toInt = _) (by omega) (by omega)
          have : 0 ≤ (v143 : Int32).toInt ∧ (v143 : Int32).toInt ≤ 17 := ⟨by omega, by omega⟩
          refine vp_callSi (W.runV (As := [.int v143]) (rest := []) ⟨hx, hb, hml, hown, ht⟩ (c_J0_charAt_5068e_2 l dC dI ak av v143 ⟨by omega, by omega⟩) (kV 1 ht m_715 m_716 m_717 m_91 m_718 rfl rfl hd_J0_charAt_5068e_v ⟨Nat.le_of_ble_eq_true rfl, Nat.le_of_ble_eq_true rfl⟩) (vRZ noP (hK.sub (tys' := []) [] rfl) hZ (vk_recv hZ.1.2.2.2.2.2 (i := 2) (by decide) va_S.rf)) rfl rfl hl.1 rfl (lv_room (Nat.le_of_ble_eq_true rfl)) dX8_isSame_31 ⟨Nat.le_of_ble_eq_true rfl, Nat.le_of_ble_eq_true rfl⟩) (fun r144 hr144 => ?_)
          refine lv_aload_n hx hb dX8_isSame_34 rfl (lv_at hl 1 rfl) ?_
          refine gX_8_1 hx hb ht hown hK hP m_229 dX8_isSame_35 ?_
          refine lv_aload_n hx hb dX8_isSame_38 rfl (lv_at hl 1 rfl) ?_
          refine gX_8_5 hx hb ht hown hK hP m_235 (v := (iv 8 5)) rfl dX8_isSame_39 ?_
          refine lv_iload hx hb dX8_isSame_42 (lv_at hl 0 rfl) ?_
          refine lv_iadd hx hb dX8_isSame_44 ?_
          refine lv_topi (fun v145 ev145 => ?_)
          have tv145 := z_add ev145 (rfl : ((iv 8 5)).toInt = _) (rfl : (x139_5).toInt = _) (by omega) (by omega)
          have : 0 ≤ (v145 : Int32).toInt ∧ (v145 : Int32).toInt ≤ 199 := ⟨by omega, by omega⟩
          refine lX_8_1 hx hb hK hP (f := (fa 8 1)) rfl (vp_in_iff.mpr ⟨by omega, by omega⟩) dX8_isSame_45 ?_
          refine lv_topi (fun v146 ev146 => ?_)
          refine lv_icmp_eq (tgt := 51) hx hb dX8_isSame_46 (by decide) (fun c147 => ?_) (fun c147 => ?_)
          · have fc147 := z_eq (rfl : (r144).toInt = _) (rfl : (v146).toInt = _) c147
            obtain ⟨v148, ev148⟩ : ∃ y : Int32, y = x139_5 + 1 := ⟨_, rfl⟩
            have tv148 := z_add ev148 rfl (by decide : (1 : Int32).toInt = 1) (by omega) (by omega)
            refine lv_iinc (v := v148) (lv' := [(5, .int v148), (0, .ref (g 11 4)), (1, .ref (ak 2)), (2, .int a), (3, .int b), (4, .int d)]) hx hb dX8_isSame_51 hl (k := 0) rfl (by rw [ev148]; rfl) (by decide) rfl (fun ls hl => ?_)
            refine lv_goto (tgt := 18) hx hb dX8_isSame_54 (by decide) ?_
            exact ih140 v148 ⟨by omega, by omega⟩ (show ∀ j : Nat, (j : Int) < (v148 : Int32).toInt → (fun j => ((fa 8 1) j).toInt) ((((iv 8 5) : Int32).toInt).toNat + j) = LsW 2 (a).toInt j from (fun j hj => by
                  by_cases hj2 : (j : Int) < (x139_5 : Int32).toInt
                  · exact hq140_0 j hj2
                  · have hj3 : j = ((x139_5 : Int32).toInt).toNat := by omega
                    rw [hj3]
                    have q0 : (v146 : Int32).toInt = (fa 8 1 ((iv 8 5).toInt.toNat + ((x139_5 : Int32).toInt).toNat)).toInt := congrArg Int32.toInt (ev146.trans (congrArg (fa 8 1) (show (v145 : Int32).toNatClampNeg = (iv 8 5).toInt.toNat + ((x139_5 : Int32).toInt).toNat from (by show (v145 : Int32).toInt.toNat = _; omega))))
                    have q1 : (r144 : Int32).toInt = ((S_byt.getD 2 []).getD (a.toInt.toNat + ((x139_5 : Int32).toInt).toNat) 0).toInt := congrArg Int32.toInt (hr144.trans (congrArg (fun z => (S_byt.getD 2 []).getD z 0) (show (v143 : Int32).toNatClampNeg = a.toInt.toNat + ((x139_5 : Int32).toInt).toNat from (by show (v143 : Int32).toInt.toNat = _; omega))))
                    show (fa 8 1 ((iv 8 5).toInt.toNat + ((x139_5 : Int32).toInt).toNat)).toInt = ((S_byt.getD 2 []).getD (a.toInt.toNat + ((x139_5 : Int32).toInt).toNat) 0).toInt
                    omega)) (by omega) ls (lv_sub hl [0, 1, 2, 3, 4, 5] rfl)
          · have fc147 := z_ne (rfl : (r144).toInt = _) (rfl : (v146).toInt = _) c147
            refine lv_iconst (v := 0) hx hb dX8_isSame_49 (by decide) ?_
            have : (0 : Int32).toInt = 0 := (by decide)
            exact W.zret (v := 0) hx hb hr rfl (fun t ht9 hW => ⟨0, rfl, ⟨⟨by decide, by decide⟩, (show (((0 : Int32).toInt = 1 ∧ WdG (fun j => ((fa 8 1) j).toInt) ((iv 8 5) : Int32).toInt (d).toInt ((b).toInt - (a).toInt) (LsW 2 (a).toInt)) ∨ ((0 : Int32).toInt = 0 ∧ ¬ WdG (fun j => ((fa 8 1) j).toInt) ((iv 8 5) : Int32).toInt (d).toInt ((b).toInt - (a).toInt) (LsW 2 (a).toInt))) from (by
                  refine Or.inr ⟨by omega, fun h9 => ?_⟩
                  obtain ⟨-, h8⟩ := h9
                  have h7 : (fa 8 1 ((iv 8 5).toInt.toNat + ((x139_5 : Int32).toInt).toNat)).toInt = ((S_byt.getD 2 []).getD (a.toInt.toNat + ((x139_5 : Int32).toInt).toNat) 0).toInt := h8 ((x139_5 : Int32).toInt).toNat (by omega)
                  have q0 : (v146 : Int32).toInt = (fa 8 1 ((iv 8 5).toInt.toNat + ((x139_5 : Int32).toInt).toNat)).toInt := congrArg Int32.toInt (ev146.trans (congrArg (fa 8 1) (show (v145 : Int32).toNatClampNeg = (iv 8 5).toInt.toNat + ((x139_5 : Int32).toInt).toNat from (by show (v145 : Int32).toInt.toNat = _; omega))))
                  have q1 : (r144 : Int32).toInt = ((S_byt.getD 2 []).getD (a.toInt.toNat + ((x139_5 : Int32).toInt).toNat) 0).toInt := congrArg Int32.toInt (hr144.trans (congrArg (fun z => (S_byt.getD 2 []).getD z 0) (show (v143 : Int32).toNatClampNeg = a.toInt.toNat + ((x139_5 : Int32).toInt).toNat from (by show (v143 : Int32).toInt.toNat = _; omega))))
                  omega))⟩, ht9⟩) (fun q hq => by cases hq) dX8_isSame_50
    have : (0 : Int32).toInt = 0 := (by decide)
    exact lp140 20 0 ⟨by decide, by decide⟩ (show ∀ j : Nat, (j : Int) < (0 : Int32).toInt → (fun j => ((fa 8 1) j).toInt) ((((iv 8 5) : Int32).toInt).toNat + j) = LsW 2 (a).toInt j from (fun j hj => absurd hj (by omega))) (by first | decide | omega) ls (lv_sub hl [0, 1, 2, 3, 4, 5] rfl)
  · have fc3 := z_ne (rfl : (v1).toInt = _) (rfl : (v2).toInt = _) c3
    refine lv_iconst (v := 0) hx hb dX8_isSame_13 (by decide) ?_
    have : (0 : Int32).toInt = 0 := (by decide)
    exact W.zret (v := 0) hx hb hr rfl (fun t ht9 hW => ⟨0, rfl, ⟨⟨by decide, by decide⟩, (show (((0 : Int32).toInt = 1 ∧ WdG (fun j => ((fa 8 1) j).toInt) ((iv 8 5) : Int32).toInt (d).toInt ((b).toInt - (a).toInt) (LsW 2 (a).toInt)) ∨ ((0 : Int32).toInt = 0 ∧ ¬ WdG (fun j => ((fa 8 1) j).toInt) ((iv 8 5) : Int32).toInt (d).toInt ((b).toInt - (a).toInt) (LsW 2 (a).toInt))) from (Or.inr ⟨by omega, fun h9 => (by obtain ⟨h8, -⟩ := h9; omega)⟩))⟩, ht9⟩) (fun q hq => by cases hq) dX8_isSame_14
set_option maxHeartbeats 4000000 in
set_option maxRecDepth 100000 in
/-- X8_isSame -/
theorem c_X8_isSame_g3 (l : Launch) (dC : Nat → ClassId) (dI : Nat → Nat → Nat) (ak av : Nat → Nat) (h : Nat) (g : Nat → Nat → Nat) (ca : Nat → Nat → ClassId) (iv : Nat → Nat → Int32) (lv : Nat → Nat → Int64) (fa : Nat → Nat → Nat → Int32) (la : Nat → Nat → Nat → Int64) (hI : IX iv fa) (a : Int32) (b : Int32) (d : Int32) (h_a : 0 ≤ a.toInt ∧ a.toInt ≤ 3) (h_b : 0 ≤ b.toInt ∧ b.toInt ≤ 2) (h_d : 0 ≤ d.toInt ∧ d.toInt ≤ 200) : Met l yX8_isSame (wc yX8_isSame cX8_isSame 6 (some .boolean)) ({ frames := 4, cells := 0, slots := 0, locals := 85 } : Room) (pRZ ak av (dC, dI) classes (WX h g ca iv lv fa la) (TX ca) [.ref (g 11 4), .ref (ak 3), .int a, .int b, .int d]) (vp_Si (fun r => (0 ≤ r.toInt ∧ r.toInt ≤ 1) ∧ (((r.toInt = 1 ∧ WdG (fun j => ((fa 8 1) j).toInt) (iv 8 5).toInt d.toInt (b.toInt - a.toInt) (LsW 3 a.toInt)) ∨ (r.toInt = 0 ∧ ¬ WdG (fun j => ((fa 8 1) j).toInt) (iv 8 5).toInt d.toInt (b.toInt - a.toInt) (LsW 3 a.toInt)))))) 0 0 (fun _ => False) := by
  refine Met.ofW (cc := cX8_isSame) (maxL := 6) (ret := (some .boolean)) (by decide) rfl ?_
  intro p e s m args below meth c s₁ B hml hv
  obtain ⟨rfl, hP, hK, hZ⟩ := hv
  have hx := B.exec
  have hb := B.bytes
  have hr := B.returns
  have ht := tb_tl (atoms_spec (ws := wc yX8_isSame cX8_isSame 6 (some .boolean)) B.pre)
  have hown : s.vm.findClass RX8 = some m.cls := findClass_of_methodNamed B.named
  have hlocks := B.notSynchronized
  have hl := lv_entry [.ref (g 11 4), .ref (ak 3), .int a, .int b, .int d] (n := 6) (Nat.le_of_ble_eq_true rfl)
  rw [lg_entry_eq]
  generalize (lg_sl [.ref (g 11 4), .ref (ak 3), .int a, .int b, .int d] ++ List.replicate (6 - (lg_sl [.ref (g 11 4), .ref (ak 3), .int a, .int b, .int d]).length) Slot.unset).toArray = ls at hl ⊢
  have hl : lv_has ls 6 [(0, .ref (g 11 4)), (1, .ref (ak 3)), (2, .int a), (3, .int b), (4, .int d)] := hl
  refine lv_iload_n hx hb dX8_isSame_0 rfl (lv_at hl 3 rfl) ?_
  refine lv_iload_n hx hb dX8_isSame_1 rfl (lv_at hl 2 rfl) ?_
  refine lv_isub hx hb dX8_isSame_2 ?_
  refine lv_topi (fun v1 ev1 => ?_)
  have tv1 := z_sub ev1 (rfl : (b).toInt = _) (rfl : (a).toInt = _) (by omega) (by omega)
  refine lv_iload hx hb dX8_isSame_3 (lv_at hl 4 rfl) ?_
  refine lv_aload_n hx hb dX8_isSame_5 rfl (lv_at hl 0 rfl) ?_
  have i_8_5 : 0 ≤ (iv 8 5).toInt ∧ (iv 8 5).toInt ≤ 200 := hI.1 8 5
  refine gX_8_5 hx hb ht hown hK hP m_235 (v := (iv 8 5)) rfl dX8_isSame_6 ?_
  refine lv_isub hx hb dX8_isSame_9 ?_
  refine lv_topi (fun v2 ev2 => ?_)
  have tv2 := z_sub ev2 (rfl : (d).toInt = _) (rfl : ((iv 8 5)).toInt = _) (by omega) (by omega)
  refine lv_icmp_eq (tgt := 15) hx hb dX8_isSame_10 (by decide) (fun c3 => ?_) (fun c3 => ?_)
  · have fc3 := z_eq (rfl : (v1).toInt = _) (rfl : (v2).toInt = _) c3
    refine lv_iconst (v := 0) hx hb dX8_isSame_15 (by decide) ?_
    refine lv_istore (lv' := [(5, .int 0), (0, .ref (g 11 4)), (1, .ref (ak 3)), (2, .int a), (3, .int b), (4, .int d)]) hx hb dX8_isSame_16 hl (by decide) rfl (fun ls hl => ?_)
    have lp32 : ∀ (nn32 : Nat) (x31_5 : Int32), 0 ≤ x31_5.toInt ∧ x31_5.toInt ≤ 2 → (∀ j : Nat, (j : Int) < (x31_5 : Int32).toInt → (fun j => ((fa 8 1) j).toInt) ((((iv 8 5) : Int32).toInt).toNat + j) = LsW 3 (a).toInt j) → 2 - x31_5.toInt < (nn32 : Int) → ∀ (ls : Array Slot), lv_has ls 6 [(5, .int x31_5), (0, .ref (g 11 4)), (1, .ref (ak 3)), (2, .int a), (3, .int b), (4, .int d)] → W p l e ({ frames := 4, cells := 0, slots := 0, locals := 85 } : Room) s m ([.ref (g 11 4), .ref (ak 3), .int a, .int b, .int d] : List Value).toArray below meth c s.heap [] 0 0 (MQ below (vp_Si (fun r => (0 ≤ r.toInt ∧ r.toInt ≤ 1) ∧ (((r.toInt = 1 ∧ WdG (fun j => ((fa 8 1) j).toInt) (iv 8 5).toInt d.toInt (b.toInt - a.toInt) (LsW 3 a.toInt)) ∨ (r.toInt = 0 ∧ ¬ WdG (fun j => ((fa 8 1) j).toInt) (iv 8 5).toInt d.toInt (b.toInt - a.toInt) (LsW 3 a.toInt)))))) ([.ref (g 11 4), .ref (ak 3), .int a, .int b, .int d] : List Value).toArray s 0 0 (fun _ => False)) (F0 m 18 ls []) := by
      intro nn32
      induction nn32 with
      | zero => intro x31_5 hx31_5 hq32_0 hm32; exfalso; omega
      | succ nn32 ih32 =>
        intro x31_5 hx31_5 hq32_0 hm32 ls hl
        refine lv_iload hx hb dX8_isSame_18 (lv_at hl 0 rfl) ?_
        refine lv_iload_n hx hb dX8_isSame_20 rfl (lv_at hl 4 rfl) ?_
        refine lv_iload_n hx hb dX8_isSame_21 rfl (lv_at hl 3 rfl) ?_
        refine lv_isub hx hb dX8_isSame_22 ?_
        refine lv_topi (fun v33 ev33 => ?_)
        obtain rfl : v1 = v33 := ev1.trans ev33.symm
        refine lv_icmp_ge (tgt := 57) hx hb dX8_isSame_23 (by decide) (fun c34 => ?_) (fun c34 => ?_)
        · have fc34 := z_le (rfl : (v1).toInt = _) (rfl : (x31_5).toInt = _) c34
          refine lv_iconst (v := 1) hx hb dX8_isSame_57 (by decide) ?_
          have : (1 : Int32).toInt = 1 := (by decide)
          exact W.zret (v := 1) hx hb hr rfl (fun t ht9 hW => ⟨1, rfl, ⟨⟨by decide, by decide⟩, (show (((1 : Int32).toInt = 1 ∧ WdG (fun j => ((fa 8 1) j).toInt) ((iv 8 5) : Int32).toInt (d).toInt ((b).toInt - (a).toInt) (LsW 3 (a).toInt)) ∨ ((1 : Int32).toInt = 0 ∧ ¬ WdG (fun j => ((fa 8 1) j).toInt) ((iv 8 5) : Int32).toInt (d).toInt ((b).toInt - (a).toInt) (LsW 3 (a).toInt))) from (Or.inl ⟨by omega, by omega, fun j hj => hq32_0 j (by omega)⟩))⟩, ht9⟩) (fun q hq => by cases hq) dX8_isSame_58
        · have fc34 := z_nle (rfl : (v1).toInt = _) (rfl : (x31_5).toInt = _) c34
          refine lv_aload_n hx hb dX8_isSame_26 rfl (lv_at hl 2 rfl) ?_
          refine lv_iload_n hx hb dX8_isSame_27 rfl (lv_at hl 3 rfl) ?_
          refine lv_iload hx hb dX8_isSame_28 (lv_at hl 0 rfl) ?_
          refine lv_iadd hx hb dX8_isSame_30 ?_
          refine lv_topi (fun v35 ev35 => ?_)
          have tv35 := z_add ev35 (rfl : (a).toInt = _) (rfl : (x31_5).toInt = _) (by omega) (by omega)
          have : 0 ≤ (v35 : Int32).toInt ∧ (v35 : Int32).toInt ≤ 2 := ⟨by omega, by omega⟩
          refine vp_callSi (W.runV (As := [.int v35]) (rest := []) ⟨hx, hb, hml, hown, ht⟩ (c_J0_charAt_5068e_3 l dC dI ak av v35 ⟨by omega, by omega⟩) (kV 1 ht m_715 m_716 m_717 m_91 m_718 rfl rfl hd_J0_charAt_5068e_v ⟨Nat.le_of_ble_eq_true rfl, Nat.le_of_ble_eq_true rfl⟩) (vRZ noP (hK.sub (tys' := []) [] rfl) hZ (vk_recv hZ.1.2.2.2.2.2 (i := 3) (by decide) va_S.rf)) rfl rfl hl.1 rfl (lv_room (Nat.le_of_ble_eq_true rfl)) dX8_isSame_31 ⟨Nat.le_of_ble_eq_true rfl, Nat.le_of_ble_eq_true rfl⟩) (fun r36 hr36 => ?_)
          refine lv_aload_n hx hb dX8_isSame_34 rfl (lv_at hl 1 rfl) ?_
          refine gX_8_1 hx hb ht hown hK hP m_229 dX8_isSame_35 ?_
          refine lv_aload_n hx hb dX8_isSame_38 rfl (lv_at hl 1 rfl) ?_
          refine gX_8_5 hx hb ht hown hK hP m_235 (v := (iv 8 5)) rfl dX8_isSame_39 ?_
          refine lv_iload hx hb dX8_isSame_42 (lv_at hl 0 rfl) ?_
          refine lv_iadd hx hb dX8_isSame_44 ?_
          refine lv_topi (fun v37 ev37 => ?_)
          have tv37 := z_add ev37 (rfl : ((iv 8 5)).toInt = _) (rfl : (x31_5).toInt = _) (by omega) (by omega)
          have : 0 ≤ (v37 : Int32).toInt ∧ (v37 : Int32).toInt ≤ 199 := ⟨by omega, by omega⟩
          refine lX_8_1 hx hb hK hP (f := (fa 8 1)) rfl (vp_in_iff.mpr ⟨by omega, by omega⟩) dX8_isSame_45 ?_
          refine lv_topi (fun v38 ev38 => ?_)
          refine lv_icmp_eq (tgt := 51) hx hb dX8_isSame_46 (by decide) (fun c39 => ?_) (fun c39 => ?_)
          · have fc39 := z_eq (rfl : (r36).toInt = _) (rfl : (v38).toInt = _) c39
            obtain ⟨v40, ev40⟩ : ∃ y : Int32, y = x31_5 + 1 := ⟨_, rfl⟩
            have tv40 := z_add ev40 rfl (by decide : (1 : Int32).toInt = 1) (by omega) (by omega)
            refine lv_iinc (v := v40) (lv' := [(5, .int v40), (0, .ref (g 11 4)), (1, .ref (ak 3)), (2, .int a), (3, .int b), (4, .int d)]) hx hb dX8_isSame_51 hl (k := 0) rfl (by rw [ev40]; rfl) (by decide) rfl (fun ls hl => ?_)
            refine lv_goto (tgt := 18) hx hb dX8_isSame_54 (by decide) ?_
            exact ih32 v40 ⟨by omega, by omega⟩ (show ∀ j : Nat, (j : Int) < (v40 : Int32).toInt → (fun j => ((fa 8 1) j).toInt) ((((iv 8 5) : Int32).toInt).toNat + j) = LsW 3 (a).toInt j from (fun j hj => by
                  by_cases hj2 : (j : Int) < (x31_5 : Int32).toInt
                  · exact hq32_0 j hj2
                  · have hj3 : j = ((x31_5 : Int32).toInt).toNat := by omega
                    rw [hj3]
                    have q0 : (v38 : Int32).toInt = (fa 8 1 ((iv 8 5).toInt.toNat + ((x31_5 : Int32).toInt).toNat)).toInt := congrArg Int32.toInt (ev38.trans (congrArg (fa 8 1) (show (v37 : Int32).toNatClampNeg = (iv 8 5).toInt.toNat + ((x31_5 : Int32).toInt).toNat from (by show (v37 : Int32).toInt.toNat = _; omega))))
                    have q1 : (r36 : Int32).toInt = ((S_byt.getD 3 []).getD (a.toInt.toNat + ((x31_5 : Int32).toInt).toNat) 0).toInt := congrArg Int32.toInt (hr36.trans (congrArg (fun z => (S_byt.getD 3 []).getD z 0) (show (v35 : Int32).toNatClampNeg = a.toInt.toNat + ((x31_5 : Int32).toInt).toNat from (by show (v35 : Int32).toInt.toNat = _; omega))))
                    show (fa 8 1 ((iv 8 5).toInt.toNat + ((x31_5 : Int32).toInt).toNat)).toInt = ((S_byt.getD 3 []).getD (a.toInt.toNat + ((x31_5 : Int32).toInt).toNat) 0).toInt
                    omega)) (by omega) ls (lv_sub hl [0, 1, 2, 3, 4, 5] rfl)
          · have fc39 := z_ne (rfl : (r36).toInt = _) (rfl : (v38).toInt = _) c39
            refine lv_iconst (v := 0) hx hb dX8_isSame_49 (by decide) ?_
            have : (0 : Int32).toInt = 0 := (by decide)
            exact W.zret (v := 0) hx hb hr rfl (fun t ht9 hW => ⟨0, rfl, ⟨⟨by decide, by decide⟩, (show (((0 : Int32).toInt = 1 ∧ WdG (fun j => ((fa 8 1) j).toInt) ((iv 8 5) : Int32).toInt (d).toInt ((b).toInt - (a).toInt) (LsW 3 (a).toInt)) ∨ ((0 : Int32).toInt = 0 ∧ ¬ WdG (fun j => ((fa 8 1) j).toInt) ((iv 8 5) : Int32).toInt (d).toInt ((b).toInt - (a).toInt) (LsW 3 (a).toInt))) from (by
                  refine Or.inr ⟨by omega, fun h9 => ?_⟩
                  obtain ⟨-, h8⟩ := h9
                  have h7 : (fa 8 1 ((iv 8 5).toInt.toNat + ((x31_5 : Int32).toInt).toNat)).toInt = ((S_byt.getD 3 []).getD (a.toInt.toNat + ((x31_5 : Int32).toInt).toNat) 0).toInt := h8 ((x31_5 : Int32).toInt).toNat (by omega)
                  have q0 : (v38 : Int32).toInt = (fa 8 1 ((iv 8 5).toInt.toNat + ((x31_5 : Int32).toInt).toNat)).toInt := congrArg Int32.toInt (ev38.trans (congrArg (fa 8 1) (show (v37 : Int32).toNatClampNeg = (iv 8 5).toInt.toNat + ((x31_5 : Int32).toInt).toNat from (by show (v37 : Int32).toInt.toNat = _; omega))))
                  have q1 : (r36 : Int32).toInt = ((S_byt.getD 3 []).getD (a.toInt.toNat + ((x31_5 : Int32).toInt).toNat) 0).toInt := congrArg Int32.toInt (hr36.trans (congrArg (fun z => (S_byt.getD 3 []).getD z 0) (show (v35 : Int32).toNatClampNeg = a.toInt.toNat + ((x31_5 : Int32).toInt).toNat from (by show (v35 : Int32).toInt.toNat = _; omega))))
                  omega))⟩, ht9⟩) (fun q hq => by cases hq) dX8_isSame_50
    have : (0 : Int32).toInt = 0 := (by decide)
    exact lp32 3 0 ⟨by decide, by decide⟩ (show ∀ j : Nat, (j : Int) < (0 : Int32).toInt → (fun j => ((fa 8 1) j).toInt) ((((iv 8 5) : Int32).toInt).toNat + j) = LsW 3 (a).toInt j from (fun j hj => absurd hj (by omega))) (by first | decide | omega) ls (lv_sub hl [0, 1, 2, 3, 4, 5] rfl)
  · have fc3 := z_ne (rfl : (v1).toInt = _) (rfl : (v2).toInt = _) c3
    refine lv_iconst (v := 0) hx hb dX8_isSame_13 (by decide) ?_
    have : (0 : Int32).toInt = 0 := (by decide)
    exact W.zret (v := 0) hx hb hr rfl (fun t ht9 hW => ⟨0, rfl, ⟨⟨by decide, by decide⟩, (show (((0 : Int32).toInt = 1 ∧ WdG (fun j => ((fa 8 1) j).toInt) ((iv 8 5) : Int32).toInt (d).toInt ((b).toInt - (a).toInt) (LsW 3 (a).toInt)) ∨ ((0 : Int32).toInt = 0 ∧ ¬ WdG (fun j => ((fa 8 1) j).toInt) ((iv 8 5) : Int32).toInt (d).toInt ((b).toInt - (a).toInt) (LsW 3 (a).toInt))) from (Or.inr ⟨by omega, fun h9 => (by obtain ⟨h8, -⟩ := h9; omega)⟩))⟩, ht9⟩) (fun q hq => by cases hq) dX8_isSame_14
