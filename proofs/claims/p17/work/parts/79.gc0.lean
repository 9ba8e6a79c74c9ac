/-! ===== gc0 ===== -/

/-- the greatest common divisor of two numbers that are not below 0 -/
def gN (x y : Int) : Int := ((Nat.gcd x.toNat y.toNat : Nat) : Int)
theorem gN_0 {x : Int} (h : 0 ≤ x) : gN x 0 = x := by
  unfold gN
  show ((Nat.gcd x.toNat 0 : Nat) : Int) = x
  rw [Nat.gcd_zero_right]; exact Int.toNat_of_nonneg h
theorem gN_pos {x y : Int} (h : 0 < y) : 1 ≤ gN x y := by
  unfold gN
  have q : 0 < Nat.gcd x.toNat y.toNat := Nat.gcd_pos_of_pos_right _ (by omega)
  omega
theorem gN_step {x y : Int} (hx : 0 ≤ x) (hy : 0 < y) : gN y (x % y) = gN x y := by
  unfold gN
  have e : (x % y).toNat = x.toNat % y.toNat := by
    have h1 : ((x.toNat % y.toNat : Nat) : Int) = x % y := by
      rw [Int.natCast_emod, Int.toNat_of_nonneg hx, Int.toNat_of_nonneg (Int.le_of_lt hy)]
    omega
  rw [e, Nat.gcd_comm y.toNat, ← Nat.gcd_rec, Nat.gcd_comm]
theorem l_remp {a b c : Int64} {x y : Int} (h : c = a - a / b * b) (ha : a.toInt = x) (hb : b.toInt = y) (h0 : 0 ≤ x) (h1 : 0 < y) : c.toInt = x % y := by
  have hx := Int64.toInt_lt a
  rw [ha] at hx
  have q0 : 0 ≤ x / y := Int.ediv_nonneg h0 (Int.le_of_lt h1)
  have q1 : x / y ≤ x := Int.ediv_le_self y h0
  have e : (a / b).toInt = x / y := by
    rw [Int64.toInt_div, ha, hb, Int.tdiv_eq_ediv_of_nonneg h0, Int.bmod_def]; omega
  have e1 : x % y + y * (x / y) = x := Int.emod_add_mul_ediv x y
  have e2 : 0 ≤ x % y := Int.emod_nonneg x (by omega)
  have e4 : 0 ≤ y * (x / y) := Int.mul_nonneg (Int.le_of_lt h1) q0
  have mm : (a / b * b).toInt = y * (x / y) := by
    rw [Int64.toInt_mul, e, hb, Int.mul_comm, Int.bmod_def]; omega
  rw [h, Int64.toInt_sub, ha, mm, Int.bmod_def]; omega
theorem l_divp {a b c : Int64} {x y : Int} (h : c = a / b) (ha : a.toInt = x) (hb : b.toInt = y) (h0 : 0 ≤ x) (h1 : 0 < y) : c.toInt = x / y := by
  have hx := Int64.toInt_lt a
  rw [ha] at hx
  have q0 : 0 ≤ x / y := Int.ediv_nonneg h0 (Int.le_of_lt h1)
  have q1 : x / y ≤ x := Int.ediv_le_self y h0
  rw [h, Int64.toInt_div, ha, hb, Int.tdiv_eq_ediv_of_nonneg h0, Int.bmod_def]; omega
/-- how far a hundred steps reach: the product of both is halved at each step but the first -/
def gQ (k x y : Int) : Prop := (k = 0 ∧ y ≤ 281474976710656) ∨ (1 ≤ k ∧ y < x ∧ x.toNat * y.toNat * 2 ^ k.toNat ≤ 2 ^ 97)
theorem gQ_step {k x y : Int} (hk : 0 ≤ k) (hx : 0 ≤ x) (hy : 0 < y) (h : gQ k x y) : gQ (k + 1) y (x % y) := by
  have m0 : 0 ≤ x % y := Int.emod_nonneg x (by omega)
  have m1 : x % y < y := Int.emod_lt_of_pos x hy
  have ek : (k + 1).toNat = k.toNat + 1 := by omega
  refine Or.inr ⟨by omega, m1, ?_⟩
  rw [ek, Nat.pow_succ]
  rcases h with ⟨h1, h2⟩ | ⟨h1, h2, h3⟩
  · have e0 : k.toNat = 0 := by omega
    rw [e0]
    have q : y.toNat * (x % y).toNat ≤ 281474976710656 * 281474976710656 := Nat.mul_le_mul (by omega) (by omega)
    show y.toNat * (x % y).toNat * (1 * 2) ≤ 2 ^ 97
    have : (2 : Nat) ^ 97 = 281474976710656 * 281474976710656 * 2 := by decide
    omega
  · have d : x % y + y * (x / y) = x := Int.emod_add_mul_ediv x y
    have d1 : 1 ≤ x / y := by
      have : 1 * y ≤ x := by omega
      exact (Int.le_ediv_iff_mul_le hy).mpr this
    have d2 : y ≤ y * (x / y) := by
      have := Int.mul_le_mul_of_nonneg_left d1 (Int.le_of_lt hy)
      omega
    have h4 : 2 * (x % y).toNat ≤ x.toNat := by omega
    have q : y.toNat * (2 * (x % y).toNat) ≤ y.toNat * x.toNat := Nat.mul_le_mul_left _ h4
    have q2 : y.toNat * (2 * (x % y).toNat) * 2 ^ k.toNat ≤ y.toNat * x.toNat * 2 ^ k.toNat := Nat.mul_le_mul_right _ q
    have e1 : y.toNat * (x % y).toNat * (2 ^ k.toNat * 2) = y.toNat * (2 * (x % y).toNat) * 2 ^ k.toNat := by
      rw [Nat.mul_comm (2 ^ k.toNat) 2, ← Nat.mul_assoc, Nat.mul_assoc y.toNat, Nat.mul_comm ((x % y).toNat) 2]
    rw [e1]
    rw [Nat.mul_comm x.toNat] at h3
    exact Nat.le_trans q2 h3
theorem gQ_end {k x y : Int} (hk : 100 ≤ k) (hy : 0 ≤ y) (h : gQ k x y) : y = 0 := by
  rcases h with ⟨h1, h2⟩ | ⟨h1, h2, h3⟩
  · omega
  · by_cases e : y = 0
    · exact e
    · exfalso
      have p : 1 ≤ x.toNat * y.toNat := Nat.mul_pos (by omega) (by omega)
      have q : (2 : Nat) ^ 100 ≤ 2 ^ k.toNat := Nat.pow_le_pow_right (by decide) (by omega)
      have r : 1 * 2 ^ 100 ≤ x.toNat * y.toNat * 2 ^ k.toNat := Nat.mul_le_mul p q
      have s : (2 : Nat) ^ 97 < 1 * 2 ^ 100 := by decide
      exact absurd (Nat.le_trans r h3) (Nat.not_le.mpr s)
/-! ===== gc1 ===== -/
set_option maxHeartbeats 4000000 in
set_option maxRecDepth 100000 in
/-- X11_greatestDivisor -/
theorem c_X11_greatestDivisor_g (l : Launch) (dC : Nat → ClassId) (dI : Nat → Nat → Nat) (a : Int64) (b : Int64) (p_0 : 0 ≤ a.toInt) (p_1 : 0 ≤ b.toInt) (p_2 : b.toInt ≤ 281474976710656) : Met l yX11_greatestDivisor (wc yX11_greatestDivisor cX11_greatestDivisor 7 (some .long)) ({ frames := 0, cells := 0, slots := 0, locals := 0 } : Room) (pR (dC, dI) classes [] [] [.long a, .long b]) (vp_Sl (fun r => (True) ∧ (r.toInt = gN a.toInt b.toInt))) 0 0 (fun _ => False) := by
  refine Met.ofW (cc := cX11_greatestDivisor) (maxL := 7) (ret := (some .long)) (by decide) rfl ?_
  intro p e s m args below meth c s₁ B hml hv
  obtain ⟨rfl, hP, hK⟩ := hv
  have hx := B.exec
  have hb := B.bytes
  have hr := B.returns
  have ht := tb_tl (atoms_spec (ws := wc yX11_greatestDivisor cX11_greatestDivisor 7 (some .long)) B.pre)
  have hown : s.vm.findClass RX11 = some m.cls := findClass_of_methodNamed B.named
  have hlocks := B.notSynchronized
  have hl := lv_entry [.long a, .long b] (n := 7) (Nat.le_of_ble_eq_true rfl)
  rw [lg_entry_eq]
  generalize (lg_sl [.long a, .long b] ++ List.replicate (7 - (lg_sl [.long a, .long b]).length) Slot.unset).toArray = ls at hl ⊢
  have hl : lv_has ls 7 [(0, .long a), (2, .long b)] := hl
  refine lv_iconst (v := 0) hx hb dX11_greatestDivisor_0 (by decide) ?_
  refine lv_istore (lv' := [(4, .int 0), (0, .long a), (2, .long b)]) hx hb dX11_greatestDivisor_1 hl (by decide) rfl (fun ls hl => ?_)
  have lp170 : ∀ (nn170 : Nat) (x169_4 : Int32) (x169_0 : Int64) (x169_2 : Int64), 0 ≤ x169_4.toInt ∧ x169_4.toInt ≤ 100 → (gN (x169_0 : Int64).toInt (x169_2 : Int64).toInt = gN (a).toInt (b).toInt) → 0 ≤ (x169_0 : Int64).toInt → (0 ≤ (x169_2 : Int64).toInt) → (gQ (x169_4 : Int32).toInt (x169_0 : Int64).toInt (x169_2 : Int64).toInt) → (x169_4 : Int32).toInt ≤ 100 → 100 - x169_4.toInt < (nn170 : Int) → ∀ (ls : Array Slot), lv_has ls 7 [(4, .int x169_4), (0, .long x169_0), (2, .long x169_2)] → W p l e ({ frames := 0, cells := 0, slots := 0, locals := 0 } : Room) s m ([.long a, .long b] : List Value).toArray below meth c s.heap [] 0 0 (MQ below (vp_Sl (fun r => (True) ∧ (r.toInt = gN a.toInt b.toInt))) ([.long a, .long b] : List Value).toArray s 0 0 (fun _ => False)) (F0 m 3 ls []) := by
    intro nn170
    induction nn170 with
    | zero => intro x169_4 x169_0 x169_2 hx169_4 hq170_0 hq170_1 hq170_2 hq170_3 hq170_4 hm170; exfalso; omega
    | succ nn170 ih170 =>
      intro x169_4 x169_0 x169_2 hx169_4 hq170_0 hq170_1 hq170_2 hq170_3 hq170_4 hm170 ls hl
      refine lv_iload hx hb dX11_greatestDivisor_3 (lv_at hl 0 rfl) ?_
      refine lv_bipush (v := 100) hx hb dX11_greatestDivisor_5 (by decide) ?_
      refine lv_icmp_ge (tgt := 32) hx hb dX11_greatestDivisor_7 (by decide) (fun c171 => ?_) (fun c171 => ?_)
      · have fc171 := z_le (by decide : (100 : Int32).toInt = 100) (rfl : (x169_4).toInt = _) c171
        refine lv_lload_n hx hb dX11_greatestDivisor_32 rfl (lv_at hl 1 rfl) ?_
        exact W.lret (v := x169_0) hx hb hr (fun t ht9 hW => ⟨x169_0, rfl, ⟨trivial, (show (x169_0 : Int64).toInt = gN (a).toInt (b).toInt from (by have hq9 := hq170_0; have hz9 : (x169_2 : Int64).toInt = 0 := (by first | omega | exact gQ_end (by omega) (by omega) hq170_3); rw [hz9, gN_0 (by omega)] at hq9; exact hq9))⟩, ht9⟩) (fun q hq => by cases hq) dX11_greatestDivisor_33
      · have fc171 := z_nle (by decide : (100 : Int32).toInt = 100) (rfl : (x169_4).toInt = _) c171
        refine lv_lload_n hx hb dX11_greatestDivisor_10 rfl (lv_at hl 2 rfl) ?_
        refine lv_lconst (v := 0) hx hb dX11_greatestDivisor_11 (by decide) ?_
        refine W.lcmp hx hb dX11_greatestDivisor_12 ?_
        refine lv_topi (fun v172 ev172 => ?_)
        refine lv_if_eq (tgt := 32) hx hb dX11_greatestDivisor_13 (by decide) (fun c173 => ?_) (fun c173 => ?_)
        · have fc173 := zc_eq ev172 (rfl : (x169_2).toInt = _) (by decide : (0 : Int64).toInt = 0) c173
          refine lv_lload_n hx hb dX11_greatestDivisor_32 rfl (lv_at hl 1 rfl) ?_
          exact W.lret (v := x169_0) hx hb hr (fun t ht9 hW => ⟨x169_0, rfl, ⟨trivial, (show (x169_0 : Int64).toInt = gN (a).toInt (b).toInt from (by have hq9 := hq170_0; have hz9 : (x169_2 : Int64).toInt = 0 := (by first | omega | exact gQ_end (by omega) (by omega) hq170_3); rw [hz9, gN_0 (by omega)] at hq9; exact hq9))⟩, ht9⟩) (fun q hq => by cases hq) dX11_greatestDivisor_33
        · have fc173 := zc_ne ev172 (rfl : (x169_2).toInt = _) (by decide : (0 : Int64).toInt = 0) c173
          refine lv_lload_n hx hb dX11_greatestDivisor_16 rfl (lv_at hl 1 rfl) ?_
          refine lv_lload_n hx hb dX11_greatestDivisor_17 rfl (lv_at hl 2 rfl) ?_
          have zw174 : (x169_2 : Int64).toInt ≠ 0 := by omega
          refine lv_lrem hx hb dX11_greatestDivisor_18 (l_nz rfl zw174) ?_
          refine lv_topl (fun w174 ew174 => ?_)
          refine lv_lstore (lv' := [(5, .long w174), (4, .int x169_4), (0, .long x169_0), (2, .long x169_2)]) hx hb dX11_greatestDivisor_19 hl (by decide) rfl (fun ls hl => ?_)
          refine lv_lload_n hx hb dX11_greatestDivisor_21 rfl (lv_at hl 3 rfl) ?_
          refine lv_lstore_n (lv' := [(0, .long x169_2), (5, .long w174), (4, .int x169_4), (2, .long x169_2)]) hx hb dX11_greatestDivisor_22 rfl hl (by decide) rfl (fun ls hl => ?_)
          refine lv_lload hx hb dX11_greatestDivisor_23 (lv_at hl 1 rfl) ?_
          refine lv_lstore_n (lv' := [(2, .long w174), (0, .long x169_2), (5, .long w174), (4, .int x169_4)]) hx hb dX11_greatestDivisor_25 rfl hl (by decide) rfl (fun ls hl => ?_)
          obtain ⟨v175, ev175⟩ : ∃ y : Int32, y = x169_4 + 1 := ⟨_, rfl⟩
          have tv175 := z_add ev175 rfl (by decide : (1 : Int32).toInt = 1) (by omega) (by omega)
          refine lv_iinc (v := v175) (lv' := [(4, .int v175), (2, .long w174), (0, .long x169_2), (5, .long w174)]) hx hb dX11_greatestDivisor_26 hl (k := 3) rfl (by rw [ev175]; rfl) (by decide) rfl (fun ls hl => ?_)
          refine lv_goto (tgt := 3) hx hb dX11_greatestDivisor_29 (by decide) ?_
          exact ih170 v175 x169_2 w174 ⟨by omega, by omega⟩ (show gN (x169_2 : Int64).toInt (w174 : Int64).toInt = gN (a).toInt (b).toInt from (by have hm9 := l_remp ew174 (rfl : (x169_0 : Int64).toInt = _) (rfl : (x169_2 : Int64).toInt = _) (by omega) (by omega); rw [hm9, gN_step (by omega) (by omega)]; exact hq170_0)) (show 0 ≤ (x169_2 : Int64).toInt from by omega) (show 0 ≤ (w174 : Int64).toInt from (by have hm9 := l_remp ew174 (rfl : (x169_0 : Int64).toInt = _) (rfl : (x169_2 : Int64).toInt = _) (by omega) (by omega); rw [hm9]; exact Int.emod_nonneg _ (by omega))) (show gQ (v175 : Int32).toInt (x169_2 : Int64).toInt (w174 : Int64).toInt from (by have hm9 := l_remp ew174 (rfl : (x169_0 : Int64).toInt = _) (rfl : (x169_2 : Int64).toInt = _) (by omega) (by omega); rw [hm9, show (v175 : Int32).toInt = (x169_4 : Int32).toInt + 1 from by omega]; exact gQ_step (by omega) (by omega) (by omega) hq170_3)) (show (v175 : Int32).toInt ≤ 100 from by omega) (by omega) ls (lv_sub hl [0, 2, 1] rfl)
  have : (0 : Int32).toInt = 0 := (by decide)
  exact lp170 101 0 a b ⟨by decide, by decide⟩ (show gN (a : Int64).toInt (b : Int64).toInt = gN (a).toInt (b).toInt from rfl) (show 0 ≤ (a : Int64).toInt from by omega) (show 0 ≤ (b : Int64).toInt from by omega) (show gQ (0 : Int32).toInt (a : Int64).toInt (b : Int64).toInt from (by have hz : (0 : Int32).toInt = 0 := (by decide); exact Or.inl ⟨by omega, by omega⟩)) (show (0 : Int32).toInt ≤ 100 from by omega) (by first | decide | omega) ls (lv_sub hl [0, 1, 2] rfl)
set_option maxHeartbeats 4000000 in
set_option maxRecDepth 100000 in
/-- X11_inLeastTerms -/
theorem c_X11_inLeastTerms_g (l : Launch) (dC : Nat → ClassId) (dI : Nat → Nat → Nat) (a : Int64) (b : Int64) (d : Int32) (p_0 : 0 ≤ a.toInt) (p_1 : 1 ≤ b.toInt) (p_2 : b.toInt ≤ 281474976710656) : Met l yX11_inLeastTerms (wc yX11_inLeastTerms cX11_inLeastTerms 9 (some .long)) ({ frames := 1, cells := 0, slots := 0, locals := 26 } : Room) (pR (dC, dI) classes [] [] [.long a, .long b, .int d]) (vp_Sl (fun r => (True) ∧ (((d.toInt = 0 ∧ r.toInt = a.toInt / gN a.toInt b.toInt) ∨ (d.toInt ≠ 0 ∧ r.toInt = b.toInt / gN a.toInt b.toInt))))) 0 0 (fun _ => False) := by
  refine Met.ofW (cc := cX11_inLeastTerms) (maxL := 9) (ret := (some .long)) (by decide) rfl ?_
  intro p e s m args below meth c s₁ B hml hv
  obtain ⟨rfl, hP, hK⟩ := hv
  have hx := B.exec
  have hb := B.bytes
  have hr := B.returns
  have ht := tb_tl (atoms_spec (ws := wc yX11_inLeastTerms cX11_inLeastTerms 9 (some .long)) B.pre)
  have hown : s.vm.findClass RX11 = some m.cls := findClass_of_methodNamed B.named
  have hlocks := B.notSynchronized
  have hl := lv_entry [.long a, .long b, .int d] (n := 9) (Nat.le_of_ble_eq_true rfl)
  rw [lg_entry_eq]
  generalize (lg_sl [.long a, .long b, .int d] ++ List.replicate (9 - (lg_sl [.long a, .long b, .int d]).length) Slot.unset).toArray = ls at hl ⊢
  have hl : lv_has ls 9 [(0, .long a), (2, .long b), (4, .int d)] := hl
  refine lv_lload_n hx hb dX11_inLeastTerms_0 rfl (lv_at hl 0 rfl) ?_
  refine lv_lload_n hx hb dX11_inLeastTerms_1 rfl (lv_at hl 1 rfl) ?_
  refine vp_callSl (W.runS (As := [.long a, .long b]) (rest := []) ⟨hx, hb, hml, hown, ht⟩ (c_X11_greatestDivisor_g l dC dI a b (show 0 ≤ (a : Int64).toInt from by omega) (show 0 ≤ (b : Int64).toInt from by omega) (show (b : Int64).toInt ≤ 281474976710656 from by omega)) (kS 2 ht m_584 m_585 m_77 m_586 rfl rfl hd_X11_greatestDivisor_v ⟨Nat.le_of_ble_eq_true rfl, Nat.le_of_ble_eq_true rfl⟩) (sR noP (hK.sub (tys' := []) [] rfl)) rfl rfl hl.1 rfl (lv_room (Nat.le_of_ble_eq_true rfl)) dX11_inLeastTerms_2 ⟨Nat.le_of_ble_eq_true rfl, Nat.le_of_ble_eq_true rfl⟩) (fun r1 hr1 => ?_)
  obtain ⟨hr1, xr1_0⟩ := hr1
  have xr1_0 : (r1 : Int64).toInt = gN (a : Int64).toInt (b : Int64).toInt := xr1_0
  refine lv_lstore (lv' := [(5, .long r1), (0, .long a), (2, .long b), (4, .int d)]) hx hb dX11_inLeastTerms_5 hl (by decide) rfl (fun ls hl => ?_)
  refine lv_iload hx hb dX11_inLeastTerms_7 (lv_at hl 3 rfl) ?_
  refine lv_if_ne (tgt := 16) hx hb dX11_inLeastTerms_9 (by decide) (fun c2 => ?_) (fun c2 => ?_)
  · have fc2 := z_ne (rfl : (d).toInt = _) (by decide : (0 : Int32).toInt = 0) c2
    refine lv_lload_n hx hb dX11_inLeastTerms_16 rfl (lv_at hl 2 rfl) ?_
    refine lv_lstore (lv' := [(7, .long b), (5, .long r1), (0, .long a), (2, .long b), (4, .int d)]) hx hb dX11_inLeastTerms_17 hl (by decide) rfl (fun ls hl => ?_)
    refine lv_lload hx hb dX11_inLeastTerms_19 (lv_at hl 1 rfl) ?_
    refine lv_lconst (v := 0) hx hb dX11_inLeastTerms_21 (by decide) ?_
    refine W.lcmp hx hb dX11_inLeastTerms_22 ?_
    refine lv_topi (fun v3 ev3 => ?_)
    refine lv_if_ne (tgt := 31) hx hb dX11_inLeastTerms_23 (by decide) (fun c4 => ?_) (fun c4 => ?_)
    · have fc4 := zc_ne ev3 (rfl : (r1).toInt = _) (by decide : (0 : Int64).toInt = 0) c4
      refine lv_lload hx hb dX11_inLeastTerms_31 (lv_at hl 0 rfl) ?_
      refine lv_lload hx hb dX11_inLeastTerms_33 (lv_at hl 1 rfl) ?_
      have zw5 : (r1 : Int64).toInt ≠ 0 := by omega
      refine lv_ldiv hx hb dX11_inLeastTerms_35 (l_nz rfl zw5) ?_
      refine lv_topl (fun w5 ew5 => ?_)
      exact W.lret (v := w5) hx hb hr (fun t ht9 hW => ⟨w5, rfl, ⟨trivial, (show (((d).toInt = 0 ∧ (w5 : Int64).toInt = (a).toInt / gN (a).toInt (b).toInt) ∨ ((d).toInt ≠ 0 ∧ (w5 : Int64).toInt = (b).toInt / gN (a).toInt (b).toInt)) from (by have hp9 := gN_pos (x := a.toInt) (y := b.toInt) (by omega); have hm9 := l_divp ew5 (rfl : (b : Int64).toInt = _) xr1_0 (by omega) (by omega); exact Or.inr ⟨by omega, hm9⟩))⟩, ht9⟩) (fun q hq => by cases hq) dX11_inLeastTerms_36
    · have fc4 := zc_eq ev3 (rfl : (r1).toInt = _) (by decide : (0 : Int64).toInt = 0) c4
      refine lv_lload hx hb dX11_inLeastTerms_26 (lv_at hl 0 rfl) ?_
      refine lv_goto (tgt := 36) hx hb dX11_inLeastTerms_28 (by decide) ?_
      exact W.lret (v := b) hx hb hr (fun t ht9 hW => ⟨b, rfl, ⟨trivial, (show (((d).toInt = 0 ∧ (b : Int64).toInt = (a).toInt / gN (a).toInt (b).toInt) ∨ ((d).toInt ≠ 0 ∧ (b : Int64).toInt = (b).toInt / gN (a).toInt (b).toInt)) from (by have hp9 := gN_pos (x := a.toInt) (y := b.toInt) (by omega); exfalso; omega))⟩, ht9⟩) (fun q hq => by cases hq) dX11_inLeastTerms_36
  · have fc2 := z_eq (rfl : (d).toInt = _) (by decide : (0 : Int32).toInt = 0) c2
    refine lv_lload_n hx hb dX11_inLeastTerms_12 rfl (lv_at hl 1 rfl) ?_
    refine lv_goto (tgt := 17) hx hb dX11_inLeastTerms_13 (by decide) ?_
    refine lv_lstore (lv' := [(7, .long a), (5, .long r1), (0, .long a), (2, .long b), (4, .int d)]) hx hb dX11_inLeastTerms_17 hl (by decide) rfl (fun ls hl => ?_)
    refine lv_lload hx hb dX11_inLeastTerms_19 (lv_at hl 1 rfl) ?_
    refine lv_lconst (v := 0) hx hb dX11_inLeastTerms_21 (by decide) ?_
    refine W.lcmp hx hb dX11_inLeastTerms_22 ?_
    refine lv_topi (fun v6 ev6 => ?_)
    refine lv_if_ne (tgt := 31) hx hb dX11_inLeastTerms_23 (by decide) (fun c7 => ?_) (fun c7 => ?_)
    · have fc7 := zc_ne ev6 (rfl : (r1).toInt = _) (by decide : (0 : Int64).toInt = 0) c7
      refine lv_lload hx hb dX11_inLeastTerms_31 (lv_at hl 0 rfl) ?_
      refine lv_lload hx hb dX11_inLeastTerms_33 (lv_at hl 1 rfl) ?_
      have zw8 : (r1 : Int64).toInt ≠ 0 := by omega
      refine lv_ldiv hx hb dX11_inLeastTerms_35 (l_nz rfl zw8) ?_
      refine lv_topl (fun w8 ew8 => ?_)
      exact W.lret (v := w8) hx hb hr (fun t ht9 hW => ⟨w8, rfl, ⟨trivial, (show (((d).toInt = 0 ∧ (w8 : Int64).toInt = (a).toInt / gN (a).toInt (b).toInt) ∨ ((d).toInt ≠ 0 ∧ (w8 : Int64).toInt = (b).toInt / gN (a).toInt (b).toInt)) from (by have hp9 := gN_pos (x := a.toInt) (y := b.toInt) (by omega); have hm9 := l_divp ew8 (rfl : (a : Int64).toInt = _) xr1_0 (by omega) (by omega); exact Or.inl ⟨by omega, hm9⟩))⟩, ht9⟩) (fun q hq => by cases hq) dX11_inLeastTerms_36
    · have fc7 := zc_eq ev6 (rfl : (r1).toInt = _) (by decide : (0 : Int64).toInt = 0) c7
      refine lv_lload hx hb dX11_inLeastTerms_26 (lv_at hl 0 rfl) ?_
      refine lv_goto (tgt := 36) hx hb dX11_inLeastTerms_28 (by decide) ?_
      exact W.lret (v := a) hx hb hr (fun t ht9 hW => ⟨a, rfl, ⟨trivial, (show (((d).toInt = 0 ∧ (a : Int64).toInt = (a).toInt / gN (a).toInt (b).toInt) ∨ ((d).toInt ≠ 0 ∧ (a : Int64).toInt = (b).toInt / gN (a).toInt (b).toInt)) from (by have hp9 := gN_pos (x := a.toInt) (y := b.toInt) (by omega); exfalso; omega))⟩, ht9⟩) (fun q hq => by cases hq) dX11_inLeastTerms_36
set_option maxHeartbeats 4000000 in
set_option maxRecDepth 100000 in
/-- X12_plain -/
theorem c_X12_plain_g (l : Launch) (dC : Nat → ClassId) (dI : Nat → Nat → Nat) (a : Int64) : Met l yX12_plain (wc yX12_plain cX12_plain 2 (some .long)) ({ frames := 0, cells := 0, slots := 0, locals := 0 } : Room) (pR (dC, dI) classes [] [] [.long a]) (vp_Sl (fun r => (True) ∧ ((a.toInt < 0 ∨ r.toInt = a.toInt)))) 0 0 (fun _ => False) := by
  refine Met.ofW (cc := cX12_plain) (maxL := 2) (ret := (some .long)) (by decide) rfl ?_
  intro p e s m args below meth c s₁ B hml hv
  obtain ⟨rfl, hP, hK⟩ := hv
  have hx := B.exec
  have hb := B.bytes
  have hr := B.returns
  have ht := tb_tl (atoms_spec (ws := wc yX12_plain cX12_plain 2 (some .long)) B.pre)
  have hown : s.vm.findClass RX12 = some m.cls := findClass_of_methodNamed B.named
  have hlocks := B.notSynchronized
  have hl := lv_entry [.long a] (n := 2) (Nat.le_of_ble_eq_true rfl)
  rw [lg_entry_eq]
  generalize (lg_sl [.long a] ++ List.replicate (2 - (lg_sl [.long a]).length) Slot.unset).toArray = ls at hl ⊢
  have hl : lv_has ls 2 [(0, .long a)] := hl
  refine lv_lload_n hx hb dX12_plain_0 rfl (lv_at hl 0 rfl) ?_
  refine lv_lconst (v := 0) hx hb dX12_plain_1 (by decide) ?_
  refine W.lcmp hx hb dX12_plain_2 ?_
  refine lv_topi (fun v1 ev1 => ?_)
  refine lv_if_ge (tgt := 12) hx hb dX12_plain_3 (by decide) (fun c2 => ?_) (fun c2 => ?_)
  · have fc2 := zc_nlt ev1 (rfl : (a).toInt = _) (by decide : (0 : Int64).toInt = 0) (Int32.not_lt.mpr c2)
    refine lv_lload_n hx hb dX12_plain_12 rfl (lv_at hl 0 rfl) ?_
    exact W.lret (v := a) hx hb hr (fun t ht9 hW => ⟨a, rfl, ⟨trivial, (show ((a).toInt < 0 ∨ (a : Int64).toInt = (a).toInt) from by omega)⟩, ht9⟩) (fun q hq => by cases hq) dX12_plain_13
  · have fc2 := zc_lt ev1 (rfl : (a).toInt = _) (by decide : (0 : Int64).toInt = 0) (Int32.not_le.mp c2)
    refine lv_lconst (v := 0) hx hb dX12_plain_6 (by decide) ?_
    refine lv_lload_n hx hb dX12_plain_7 rfl (lv_at hl 0 rfl) ?_
    refine lv_lsub hx hb dX12_plain_8 ?_
    refine lv_topl (fun w3 ew3 => ?_)
    refine lv_goto (tgt := 13) hx hb dX12_plain_9 (by decide) ?_
    exact W.lret (v := w3) hx hb hr (fun t ht9 hW => ⟨w3, rfl, ⟨trivial, (show ((a).toInt < 0 ∨ (w3 : Int64).toInt = (a).toInt) from by omega)⟩, ht9⟩) (fun q hq => by cases hq) dX12_plain_13
set_option maxHeartbeats 4000000 in
set_option maxRecDepth 100000 in
/-- X12_gcd -/
theorem c_X12_gcd_g (l : Launch) (dC : Nat → ClassId) (dI : Nat → Nat → Nat) (a : Int64) (b : Int64) (p_0 : 0 ≤ a.toInt) (p_1 : 0 ≤ b.toInt) : Met l yX12_gcd (wc yX12_gcd cX12_gcd 10 (some .long)) ({ frames := 1, cells := 0, slots := 0, locals := 21 } : Room) (pR (dC, dI) classes [] [] [.long a, .long b]) (vp_Sl (fun r => (True) ∧ (r.toInt = gN a.toInt b.toInt))) 0 0 (fun _ => False) := by
  refine Met.ofW (cc := cX12_gcd) (maxL := 10) (ret := (some .long)) (by decide) rfl ?_
  intro p e s m args below meth c s₁ B hml hv
  obtain ⟨rfl, hP, hK⟩ := hv
  have hx := B.exec
  have hb := B.bytes
  have hr := B.returns
  have ht := tb_tl (atoms_spec (ws := wc yX12_gcd cX12_gcd 10 (some .long)) B.pre)
  have hown : s.vm.findClass RX12 = some m.cls := findClass_of_methodNamed B.named
  have hlocks := B.notSynchronized
  have hl := lv_entry [.long a, .long b] (n := 10) (Nat.le_of_ble_eq_true rfl)
  rw [lg_entry_eq]
  generalize (lg_sl [.long a, .long b] ++ List.replicate (10 - (lg_sl [.long a, .long b]).length) Slot.unset).toArray = ls at hl ⊢
  have hl : lv_has ls 10 [(0, .long a), (2, .long b)] := hl
  refine lv_lload_n hx hb dX12_gcd_0 rfl (lv_at hl 0 rfl) ?_
  refine vp_callSl (W.runS (As := [.long a]) (rest := []) ⟨hx, hb, hml, hown, ht⟩ (c_X12_plain_g l dC dI a) (kS 1 ht m_1445 m_1446 m_89 m_1447 rfl rfl hd_X12_plain_v ⟨Nat.le_of_ble_eq_true rfl, Nat.le_of_ble_eq_true rfl⟩) (sR noP (hK.sub (tys' := []) [] rfl)) rfl rfl hl.1 rfl (lv_room (Nat.le_of_ble_eq_true rfl)) dX12_gcd_1 ⟨Nat.le_of_ble_eq_true rfl, Nat.le_of_ble_eq_true rfl⟩) (fun r1 hr1 => ?_)
  obtain ⟨hr1, xr1_0⟩ := hr1
  have xr1_0 : ((a : Int64).toInt < 0 ∨ (r1 : Int64).toInt = (a : Int64).toInt) := xr1_0
  refine lv_lstore (lv' := [(4, .long r1), (0, .long a), (2, .long b)]) hx hb dX12_gcd_4 hl (by decide) rfl (fun ls hl => ?_)
  refine lv_lload_n hx hb dX12_gcd_6 rfl (lv_at hl 2 rfl) ?_
  refine vp_callSl (W.runS (As := [.long b]) (rest := []) ⟨hx, hb, hml, hown, ht⟩ (c_X12_plain_g l dC dI b) (kS 1 ht m_1445 m_1446 m_89 m_1447 rfl rfl hd_X12_plain_v ⟨Nat.le_of_ble_eq_true rfl, Nat.le_of_ble_eq_true rfl⟩) (sR noP (hK.sub (tys' := []) [] rfl)) rfl rfl hl.1 rfl (lv_room (Nat.le_of_ble_eq_true rfl)) dX12_gcd_7 ⟨Nat.le_of_ble_eq_true rfl, Nat.le_of_ble_eq_true rfl⟩) (fun r2 hr2 => ?_)
  obtain ⟨hr2, xr2_0⟩ := hr2
  have xr2_0 : ((b : Int64).toInt < 0 ∨ (r2 : Int64).toInt = (b : Int64).toInt) := xr2_0
  refine lv_lstore (lv' := [(6, .long r2), (4, .long r1), (0, .long a), (2, .long b)]) hx hb dX12_gcd_10 hl (by decide) rfl (fun ls hl => ?_)
  have lp8 : ∀ (nn8 : Nat) (x7_6 : Int64) (x7_4 : Int64), (gN (x7_4 : Int64).toInt (x7_6 : Int64).toInt = gN (a).toInt (b).toInt) → 0 ≤ (x7_4 : Int64).toInt → (0 ≤ (x7_6 : Int64).toInt) → (((x7_6 : Int64).toInt).natAbs : Int) < (nn8 : Int) → ∀ (ls : Array Slot), lv_has ls 10 [(6, .long x7_6), (4, .long x7_4), (0, .long a), (2, .long b)] → W p l e ({ frames := 1, cells := 0, slots := 0, locals := 21 } : Room) s m ([.long a, .long b] : List Value).toArray below meth c s.heap [] 0 0 (MQ below (vp_Sl (fun r => (True) ∧ (r.toInt = gN a.toInt b.toInt))) ([.long a, .long b] : List Value).toArray s 0 0 (fun _ => False)) (F0 m 12 ls []) := by
    intro nn8
    induction nn8 with
    | zero => intro x7_6 x7_4 hq8_0 hq8_1 hq8_2 hm8; exfalso; omega
    | succ nn8 ih8 =>
      intro x7_6 x7_4 hq8_0 hq8_1 hq8_2 hm8 ls hl
      refine lv_lload hx hb dX12_gcd_12 (lv_at hl 0 rfl) ?_
      refine lv_lconst (v := 0) hx hb dX12_gcd_14 (by decide) ?_
      refine W.lcmp hx hb dX12_gcd_15 ?_
      refine lv_topi (fun v9 ev9 => ?_)
      refine lv_if_eq (tgt := 37) hx hb dX12_gcd_16 (by decide) (fun c10 => ?_) (fun c10 => ?_)
      · have fc10 := zc_eq ev9 (rfl : (x7_6).toInt = _) (by decide : (0 : Int64).toInt = 0) c10
        refine lv_lload hx hb dX12_gcd_37 (lv_at hl 1 rfl) ?_
        exact W.lret (v := x7_4) hx hb hr (fun t ht9 hW => ⟨x7_4, rfl, ⟨trivial, (show (x7_4 : Int64).toInt = gN (a).toInt (b).toInt from (by have hq9 := hq8_0; have hz9 : (x7_6 : Int64).toInt = 0 := (by omega); rw [hz9, gN_0 (by omega)] at hq9; exact hq9))⟩, ht9⟩) (fun q hq => by cases hq) dX12_gcd_39
      · have fc10 := zc_ne ev9 (rfl : (x7_6).toInt = _) (by decide : (0 : Int64).toInt = 0) c10
        refine lv_lload hx hb dX12_gcd_19 (lv_at hl 1 rfl) ?_
        refine lv_lload hx hb dX12_gcd_21 (lv_at hl 0 rfl) ?_
        have zw11 : (x7_6 : Int64).toInt ≠ 0 := by omega
        refine lv_lrem hx hb dX12_gcd_23 (l_nz rfl zw11) ?_
        refine lv_topl (fun w11 ew11 => ?_)
        have tw11 := l_rem ew11 (rfl : (x7_4 : Int64).toInt = _) (rfl : (x7_6 : Int64).toInt = _) zw11
        refine lv_lstore (lv' := [(8, .long w11), (6, .long x7_6), (4, .long x7_4), (0, .long a), (2, .long b)]) hx hb dX12_gcd_24 hl (by decide) rfl (fun ls hl => ?_)
        refine lv_lload hx hb dX12_gcd_26 (lv_at hl 1 rfl) ?_
        refine lv_lstore (lv' := [(4, .long x7_6), (8, .long w11), (6, .long x7_6), (0, .long a), (2, .long b)]) hx hb dX12_gcd_28 hl (by decide) rfl (fun ls hl => ?_)
        refine lv_lload hx hb dX12_gcd_30 (lv_at hl 1 rfl) ?_
        refine lv_lstore (lv' := [(6, .long w11), (4, .long x7_6), (8, .long w11), (0, .long a), (2, .long b)]) hx hb dX12_gcd_32 hl (by decide) rfl (fun ls hl => ?_)
        refine lv_goto (tgt := 12) hx hb dX12_gcd_34 (by decide) ?_
        exact ih8 w11 x7_6 (show gN (x7_6 : Int64).toInt (w11 : Int64).toInt = gN (a).toInt (b).toInt from (by have hm9 := l_remp ew11 (rfl : (x7_4 : Int64).toInt = _) (rfl : (x7_6 : Int64).toInt = _) (by omega) (by omega); rw [hm9, gN_step (by omega) (by omega)]; exact hq8_0)) (show 0 ≤ (x7_6 : Int64).toInt from by omega) (show 0 ≤ (w11 : Int64).toInt from (by have hm9 := l_remp ew11 (rfl : (x7_4 : Int64).toInt = _) (rfl : (x7_6 : Int64).toInt = _) (by omega) (by omega); rw [hm9]; exact Int.emod_nonneg _ (by omega))) (by omega) ls (lv_sub hl [0, 1, 3, 4] rfl)
  exact lp8 ((r2 : Int64).toInt.natAbs + 1) r2 r1 (show gN (r1 : Int64).toInt (r2 : Int64).toInt = gN (a).toInt (b).toInt from (by have h1 : (r1 : Int64).toInt = a.toInt := (by omega); have h2 : (r2 : Int64).toInt = b.toInt := (by omega); rw [h1, h2])) (show 0 ≤ (r1 : Int64).toInt from by omega) (show 0 ≤ (r2 : Int64).toInt from by omega) (show (((r2 : Int64).toInt).natAbs : Int) < _ from by omega) ls (lv_sub hl [0, 1, 2, 3] rfl)
/-! ===== la0 ===== -/

/-- a fraction of whole numbers in least terms is one alone -/
theorem lt_un {v w c d : Nat} (hv : 0 < v) (h : c * w = v * d) (hc : Nat.Coprime c d) : v / Nat.gcd v w = c ∧ w / Nat.gcd v w = d := by
  have hg : 0 < Nat.gcd v w := Nat.gcd_pos_of_pos_left _ hv
  have cp := Nat.coprime_div_gcd_div_gcd hg
  have e1 := Nat.div_mul_cancel (Nat.gcd_dvd_left v w)
  have e2 := Nat.div_mul_cancel (Nat.gcd_dvd_right v w)
  generalize v / Nat.gcd v w = a at cp e1 ⊢
  generalize w / Nat.gcd v w = b at cp e2 ⊢
  generalize Nat.gcd v w = g at hg e1 e2
  subst e1
  subst e2
  have h2 : c * b = a * d := by
    apply Nat.eq_of_mul_eq_mul_right hg
    rw [Nat.mul_assoc c b g, h]
    exact Nat.mul_right_comm a g d
  have a1 : a ∣ c := Nat.Coprime.dvd_of_dvd_mul_right cp (by rw [h2]; exact Nat.dvd_mul_right a d)
  have a2 : c ∣ a := Nat.Coprime.dvd_of_dvd_mul_right hc (by rw [← h2]; exact Nat.dvd_mul_right c b)
  have e : c = a := Nat.dvd_antisymm a2 a1
  have ha : 0 < a := Nat.pos_of_ne_zero (fun z => by rw [z, Nat.zero_mul] at hv; exact absurd hv (Nat.lt_irrefl 0))
  subst e
  exact ⟨rfl, Nat.eq_of_mul_eq_mul_left ha h2⟩
theorem gdv {a b x z : Nat} (ha : 0 < a) (hb : 0 < b) (hx : x = a / Nat.gcd a b) (hz : z = b / Nat.gcd a b) : 0 < x ∧ 0 < z ∧ x * Nat.gcd a b = a ∧ z * Nat.gcd a b = b ∧ Nat.Coprime x z := by
  have hg : 0 < Nat.gcd a b := Nat.gcd_pos_of_pos_left _ ha
  subst hx
  subst hz
  exact ⟨Nat.div_gcd_pos_of_pos_left _ ha, Nat.div_gcd_pos_of_pos_right _ hb, Nat.div_mul_cancel (Nat.gcd_dvd_left a b), Nat.div_mul_cancel (Nat.gcd_dvd_right a b), Nat.coprime_div_gcd_div_gcd hg⟩
/-- four times shortened: nothing is left to shorten -/
theorem red4 {up dn y u d y1 d1 u1 t y2 t1 : Nat} (h1 : 0 < up) (h2 : 0 < dn) (h3 : 0 < y) (e1 : u = up / Nat.gcd up dn) (e2 : d = dn / Nat.gcd up dn) (e3 : y1 = y / Nat.gcd y d) (e4 : d1 = d / Nat.gcd y d) (e5 : u1 = u / Nat.gcd u 1000) (e6 : t = 1000 / Nat.gcd u 1000) (e7 : y2 = y1 / Nat.gcd y1 t) (e8 : t1 = t / Nat.gcd y1 t) : 0 < u1 ∧ 0 < y2 ∧ 0 < d1 ∧ 0 < t1 ∧ u1 * y2 * (dn * 1000) = up * y * (d1 * t1) ∧ Nat.Coprime (u1 * y2) (d1 * t1) := by
  obtain ⟨p1, p2, q1, q2, c1⟩ := gdv h1 h2 e1 e2
  obtain ⟨p3, p4, q3, q4, c2⟩ := gdv h3 p2 e3 e4
  obtain ⟨p5, p6, q5, q6, c3⟩ := gdv p1 (by decide : 0 < 1000) e5 e6
  obtain ⟨p7, p8, q7, q8, c4⟩ := gdv p3 p6 e7 e8
  clear e1 e2 e3 e4 e5 e6 e7 e8
  have d5 : u1 ∣ u := Exists.intro _ q5.symm
  have d4 : d1 ∣ d := Exists.intro _ q4.symm
  have d8 : t1 ∣ t := Exists.intro _ q8.symm
  have d7 : y2 ∣ y1 := Exists.intro _ q7.symm
  have c5 : Nat.Coprime u1 d1 := Nat.Coprime.coprime_dvd_right d4 (Nat.Coprime.coprime_dvd_left d5 c1)
  have c6 : Nat.Coprime u1 t1 := Nat.Coprime.coprime_dvd_right d8 c3
  have c7 : Nat.Coprime y2 d1 := Nat.Coprime.coprime_dvd_left d7 c2
  refine ⟨p5, p7, p4, p8, ?_, Nat.Coprime.mul_left (Nat.Coprime.mul_right c5 c6) (Nat.Coprime.mul_right c7 c4)⟩
  clear c1 c2 c3 c4 c5 c6 c7 d4 d5 d7 d8
  generalize Nat.gcd up dn = g at q1 q2
  generalize Nat.gcd y d = k at q3 q4
  generalize Nat.gcd u 1000 = n at q5 q6
  generalize Nat.gcd y1 t = m at q7 q8
  have k1 : up = u1 * n * g := by rw [q5, q1]
  have k2 : dn = d1 * k * g := by rw [q4, q2]
  have k3 : y = y2 * m * k := by rw [q7, q3]
  have k4 : 1000 = t1 * m * n := by rw [q8, q6]
  rw [k4, k1, k2, k3]
  ac_rfl
/-- the reference's lawful weight -/
def LwY (up dn y LU LD : Int) : Prop := 0 < LU ∧ 0 < LD ∧ LU * (dn * 1000) = up * y * LD ∧ gN LU LD = 1
theorem gN_c (a b : Nat) : gN (a : Int) (b : Int) = ((Nat.gcd a b : Nat) : Int) := rfl
theorem gN_k (a b : Nat) : (a : Int) / gN (a : Int) (b : Int) = ((a / Nat.gcd a b : Nat) : Int) := rfl
theorem gN_k2 (a b : Nat) : (b : Int) / gN (a : Int) (b : Int) = ((b / Nat.gcd a b : Nat) : Int) := rfl
theorem red4i {up dn y u d y1 d1 u1 t y2 t1 : Int} (h1 : 0 < up) (h2 : 0 < dn) (h3 : 0 < y) (e1 : u = up / gN up dn) (e2 : d = dn / gN up dn) (e3 : y1 = y / gN y d) (e4 : d1 = d / gN y d) (e5 : u1 = u / gN u 1000) (e6 : t = 1000 / gN u 1000) (e7 : y2 = y1 / gN y1 t) (e8 : t1 = t / gN y1 t) : LwY up dn y (u1 * y2) (d1 * t1) := by
  obtain ⟨a, rfl⟩ := Int.eq_ofNat_of_zero_le (Int.le_of_lt h1)
  obtain ⟨b, rfl⟩ := Int.eq_ofNat_of_zero_le (Int.le_of_lt h2)
  obtain ⟨c, rfl⟩ := Int.eq_ofNat_of_zero_le (Int.le_of_lt h3)
  rw [gN_k] at e1
  rw [gN_k2] at e2
  subst e1
  subst e2
  rw [gN_k] at e3
  rw [gN_k2] at e4
  have k : (1000 : Int) = ((1000 : Nat) : Int) := rfl
  rw [k, gN_k] at e5
  rw [k, gN_k2] at e6
  subst e3
  subst e4
  subst e5
  subst e6
  rw [gN_k] at e7
  rw [gN_k2] at e8
  subst e7
  subst e8
  obtain ⟨r1, r2, r3, r4, r5, r6⟩ := red4 (by omega : 0 < a) (by omega : 0 < b) (by omega : 0 < c) rfl rfl rfl rfl rfl rfl rfl rfl
  refine ⟨Int.mul_pos (Int.natCast_pos.mpr r1) (Int.natCast_pos.mpr r2), Int.mul_pos (Int.natCast_pos.mpr r3) (Int.natCast_pos.mpr r4), ?_, ?_⟩
  · have z := congrArg (fun q : Nat => (q : Int)) r5
    simp only [Int.natCast_mul] at z
    exact z
  · rw [← Int.natCast_mul, ← Int.natCast_mul, gN_c, Nat.Coprime.gcd_eq_one r6]
    rfl
theorem lt_uni {V W c d : Int} (hV : 0 < V) (hW : 0 < W) (hc : 0 < c) (hd : 0 < d) (h : c * W = V * d) (hg : gN c d = 1) : V / gN V W = c ∧ W / gN V W = d := by
  obtain ⟨v, rfl⟩ := Int.eq_ofNat_of_zero_le (Int.le_of_lt hV)
  obtain ⟨w, rfl⟩ := Int.eq_ofNat_of_zero_le (Int.le_of_lt hW)
  obtain ⟨a, rfl⟩ := Int.eq_ofNat_of_zero_le (Int.le_of_lt hc)
  obtain ⟨b, rfl⟩ := Int.eq_ofNat_of_zero_le (Int.le_of_lt hd)
  rw [← Int.natCast_mul, ← Int.natCast_mul] at h
  rw [gN_c] at hg
  obtain ⟨x, y⟩ := lt_un (v := v) (w := w) (c := a) (d := b) (by omega) (Int.ofNat_inj.mp h) (show Nat.gcd a b = 1 from by omega)
  exact ⟨by rw [gN_k, x], by rw [gN_k2, y]⟩
theorem fl_eq {V W c d : Int} (hW : 0 < W) (hd : 0 < d) (h : c * W = V * d) : V / W = c / d := by
  rw [← Int.mul_ediv_mul_of_pos_left V W hd, ← h, Int.mul_comm W d, Int.mul_ediv_mul_of_pos_left c d hW]
/-- both sides' lawful weights -/
theorem lw_x {U L up dn y LU LD : Int} (hdn : 0 < dn) (h : U * dn = up * L) (k : LwY up dn y LU LD) : LU * (L * 1000) = U * y * LD := by
  have k3 := k.2.2.1
  apply Int.eq_of_mul_eq_mul_right (show dn ≠ 0 from by omega)
  have e1 : LU * (L * 1000) * dn = LU * (dn * 1000) * L := by ac_rfl
  have e2 : U * y * LD * dn = U * dn * (y * LD) := by ac_rfl
  have e3 : up * y * LD * L = up * L * (y * LD) := by ac_rfl
  rw [e1, e2, k3, h, e3]
theorem lw_un {U L up dn y LU LD : Int} (hU : 0 < U) (hL : 0 < L) (hdn : 0 < dn) (hy : 0 < y) (h : U * dn = up * L) (k : LwY up dn y LU LD) : U * y / gN (U * y) (L * 1000) = LU ∧ L * 1000 / gN (U * y) (L * 1000) = LD ∧ U * y / (L * 1000) = LU / LD := by
  have q := lw_x hdn h k
  have v1 : 0 < U * y := Int.mul_pos hU hy
  have v2 : 0 < L * 1000 := by omega
  have z := lt_uni v1 v2 k.1 k.2.1 q k.2.2.2
  exact ⟨z.1, z.2, fl_eq v2 k.2.1 q⟩
/-! ===== la1 ===== -/

/-- the state, and what it is settled by: look 0 alone, two looks, three -/
def WpR (F : Int → Int → Prop) (c0 c1 c2 : Int) (df : Int32 → Prop) (on : Prop) (tw th : Int → Prop) (r : Int) : Prop := ∃ nd : Int, F 1 nd ∧ ((c0 < nd ∧ r = 0) ∨ (nd ≤ c0 ∧ ∃ lk : Int, F 3 lk ∧ ((lk = 1 ∧ r = 1 ∧ on) ∨ (lk ≠ 1 ∧ ((c1 < nd ∧ r = 0) ∨ (nd ≤ c1 ∧ ∃ pt : Int32, F 2 pt.toInt ∧ ∃ wy : Int, F 5 wy ∧ ((¬ df pt ∧ r = 1 ∧ tw wy) ∨ (df pt ∧ ((c2 < nd ∧ r = 2) ∨ (nd ≤ c2 ∧ r = 1 ∧ th wy))))))))))
theorem WpR_un {F G : Int → Int → Prop} {c0 c1 c2 : Int} {df df' : Int32 → Prop} {on on' : Prop} {tw tw' th th' : Int → Prop} {r s : Int} {Z : Prop} (hF : ∀ a v w : Int, 0 ≤ a → a ≤ 5 → F a v → G a w → v = w) (hdf : ∀ q : Int32, df q ↔ df' q) (hn : ∀ v : Int, F 1 v → 1 ≤ v)
    (z1 : 1 ≤ c0 → on → on' → Z) (z2 : ∀ wy : Int, F 5 wy → 1 ≤ c0 → 1 ≤ c1 → tw wy → tw' wy → Z) (z3 : ∀ (wy : Int) (pt : Int32), F 5 wy → F 2 pt.toInt → df pt → 1 ≤ c0 → 1 ≤ c1 → 1 ≤ c2 → th wy → th' wy → Z) (h : WpR F c0 c1 c2 df on tw th r) (k : WpR G c0 c1 c2 df' on' tw' th' s) : r = s ∧ (r = 1 → Z) := by
  obtain ⟨nd, h1, h2⟩ := h
  obtain ⟨nd', k1, k2⟩ := k
  have e1 := hF 1 nd nd' (by decide) (by decide) h1 k1
  subst e1
  have hn1 := hn _ h1
  rcases h2 with ⟨a1, a2⟩ | ⟨a1, lk, h3, h4⟩
  · rcases k2 with ⟨b1, b2⟩ | ⟨b1, -⟩
    · exact ⟨by omega, fun q => by omega⟩
    · omega
  · rcases k2 with ⟨b1, b2⟩ | ⟨b1, lk', k3, k4⟩
    · omega
    · have e2 := hF 3 lk lk' (by decide) (by decide) h3 k3
      subst e2
      rcases h4 with ⟨a3, a4, a9⟩ | ⟨a3, h5⟩
      · rcases k4 with ⟨b3, b4, b9⟩ | ⟨b3, -⟩
        · exact ⟨by omega, fun _ => z1 (by omega) a9 b9⟩
        · exact absurd a3 b3
      · rcases k4 with ⟨b3, b4, b9⟩ | ⟨b3, k5⟩
        · exact absurd b3 a3
        · rcases h5 with ⟨a5, a6⟩ | ⟨a5, pt, h6, wy, h7, h8⟩
          · rcases k5 with ⟨b5, b6⟩ | ⟨b5, -⟩
            · exact ⟨by omega, fun q => by omega⟩
            · omega
          · rcases k5 with ⟨b5, b6⟩ | ⟨b5, pt', k6, wy', k7, k8⟩
            · omega
            · have e3 := Int32.toInt_inj.mp (hF 2 pt.toInt pt'.toInt (by decide) (by decide) h6 k6)
              subst e3
              have e4 := hF 5 wy wy' (by decide) (by decide) h7 k7
              subst e4
              rcases h8 with ⟨a7, a8, a9⟩ | ⟨a7, h9⟩
              · rcases k8 with ⟨b7, b8, b9⟩ | ⟨b7, -⟩
                · exact ⟨by omega, fun _ => z2 _ h7 (by omega) (by omega) a9 b9⟩
                · exact absurd ((hdf _).mpr b7) a7
              · rcases k8 with ⟨b7, -, -⟩ | ⟨b7, k9⟩
                · exact absurd ((hdf _).mp a7) b7
                · rcases h9 with ⟨a8, a9⟩ | ⟨a8, a9, a10⟩
                  · rcases k9 with ⟨b8, b9⟩ | ⟨b8, b9, b10⟩
                    · exact ⟨by omega, fun q => by omega⟩
                    · omega
                  · rcases k9 with ⟨b8, b9⟩ | ⟨b8, b9, b10⟩
                    · omega
                    · exact ⟨by omega, fun _ => z3 _ _ h7 h6 a7 (by omega) (by omega) (by omega) a10 b10⟩
theorem WpR_el {F : Int → Int → Prop} {c0 c1 c2 : Int} {df : Int32 → Prop} {on : Prop} {tw th : Int → Prop} {r : Int} {Z : Prop} (hn : ∀ v : Int, F 1 v → 1 ≤ v) (z1 : 1 ≤ c0 → on → Z) (z2 : ∀ wy : Int, 1 ≤ c0 → 1 ≤ c1 → tw wy → Z) (z3 : ∀ wy : Int, 1 ≤ c0 → 1 ≤ c1 → 1 ≤ c2 → th wy → Z) (h : WpR F c0 c1 c2 df on tw th r) (hr : r = 1) : Z := by
  obtain ⟨nd, h1, h2⟩ := h
  have hn1 := hn _ h1
  rcases h2 with ⟨a1, a2⟩ | ⟨a1, lk, h3, h4⟩
  · omega
  · rcases h4 with ⟨a3, a4, a9⟩ | ⟨a3, h5⟩
    · exact z1 (by omega) a9
    · rcases h5 with ⟨a5, a6⟩ | ⟨a5, pt, h6, wy, h7, h8⟩
      · omega
      · rcases h8 with ⟨a7, a8, a9⟩ | ⟨a7, h9⟩
        · exact z2 wy (by omega) (by omega) a9
        · rcases h9 with ⟨a8, a9⟩ | ⟨a8, a9, a10⟩
          · omega
          · exact z3 wy (by omega) (by omega) (by omega) a10
/-- of two looks that with the lesser ratio; of three that in the middle; the two nearest -/
def lsN (D R : Nat → Int64) (p q : Nat) : Nat := if (D q * R p).toInt < (D p * R q).toInt then q else p
theorem lsN_y {D R : Nat → Int64} {p q : Nat} (h : (D q * R p).toInt < (D p * R q).toInt) : lsN D R p q = q := if_pos h
theorem lsN_n {D R : Nat → Int64} {p q : Nat} (h : ¬ (D q * R p).toInt < (D p * R q).toInt) : lsN D R p q = p := if_neg h
def mdN (D R : Nat → Int64) : Nat := if lsN D R (lsN D R 0 1) 2 = 2 then lsN D R 0 1 else if lsN D R (1 - lsN D R 0 1) 2 = 2 then 2 else 1 - lsN D R 0 1
def nrR (a b c : Int64) (i j : Int) : Prop := ((absL (a - b)).toInt ≤ (absL (a - c)).toInt ∧ (absL (a - b)).toInt ≤ (absL (b - c)).toInt ∧ i = 0 ∧ j = 1) ∨ (¬ ((absL (a - b)).toInt ≤ (absL (a - c)).toInt ∧ (absL (a - b)).toInt ≤ (absL (b - c)).toInt) ∧ (absL (a - c)).toInt ≤ (absL (b - c)).toInt ∧ i = 0 ∧ j = 2) ∨ (¬ ((absL (a - b)).toInt ≤ (absL (a - c)).toInt ∧ (absL (a - b)).toInt ≤ (absL (b - c)).toInt) ∧ ¬ (absL (a - c)).toInt ≤ (absL (b - c)).toInt ∧ i = 1 ∧ j = 2)
def twX (D R : Nat → Int64) (i j w : Int) : Prop := (w ≠ 1 ∧ i = 0 ∧ j = 1) ∨ (w = 1 ∧ i = ((lsN D R 0 1 : Nat) : Int) ∧ j = i)
def thX (D R : Nat → Int64) (i j w : Int) : Prop := (w = 1 ∧ i = ((lsN D R (lsN D R 0 1) 2 : Nat) : Int) ∧ j = i) ∨ (w = 2 ∧ i = ((mdN D R : Nat) : Int) ∧ j = i) ∨ (w ≠ 1 ∧ w ≠ 2 ∧ nrR (D 0 * R 1 * R 2) (D 1 * R 2 * R 0) (D 2 * R 0 * R 1) i j)
/-- the reference: what it takes, and its result -/
def rsY (D R : Nat → Int64) (i j up dn : Int) : Prop := (i = j ∧ up = (D i.toNat).toInt ∧ dn = (R i.toNat).toInt) ∨ (i ≠ j ∧ up = (D i.toNat * R j.toNat + D j.toNat * R i.toNat).toInt ∧ dn = (2 * R i.toNat * R j.toNat).toInt)
def l3R (a b c i : Int) : Prop := (a ≤ b ∧ a ≤ c ∧ i = 0) ∨ (¬ (a ≤ b ∧ a ≤ c) ∧ b ≤ c ∧ i = 1) ∨ (¬ (a ≤ b ∧ a ≤ c) ∧ ¬ b ≤ c ∧ i = 2)
def m3R (a b c i : Int) : Prop := ((a ≤ b ↔ b ≤ c) ∧ i = 1) ∨ (¬ (a ≤ b ↔ b ≤ c) ∧ (b ≤ a ↔ a ≤ c) ∧ i = 0) ∨ (¬ (a ≤ b ↔ b ≤ c) ∧ ¬ (b ≤ a ↔ a ≤ c) ∧ i = 2)
def tpY (a b c : Int64) (i j w : Int) : Prop := (w = 0 ∧ nrR a b c i j) ∨ (w = 1 ∧ l3R a.toInt b.toInt c.toInt i ∧ j = i) ∨ (w ≠ 0 ∧ w ≠ 1 ∧ m3R a.toInt b.toInt c.toInt i ∧ j = i)
def twY (D R : Nat → Int64) (up dn w : Int) : Prop := ∃ i j : Int, twX D R i j w ∧ rsY D R i j up dn
def thY (D R : Nat → Int64) (up dn w : Int) : Prop := ∃ i j : Int, tpY (D 0 * R 1 * R 2) (D 1 * R 0 * R 2) (D 2 * R 0 * R 1) i j w ∧ rsY D R i j up dn
/-- the class's fraction -/
def upI (D R : Nat → Int64) (i j : Int) : Int := (D i.toNat).toInt * (R j.toNat).toInt + (D j.toNat).toInt * (R i.toNat).toInt
def loI (R : Nat → Int64) (i j : Int) : Int := 2 * (R i.toNat).toInt * (R j.toNat).toInt
/-- a look's sums, where its number of skeins is c -/
def bdL (c : Int) (d r : Int64) : Prop := 0 ≤ c ∧ 50 * c ≤ d.toInt ∧ d.toInt ≤ 119988 ∧ 100 * c ≤ r.toInt ∧ r.toInt ≤ 119988
theorem bm2 {x y : Int} (h1 : 0 ≤ x) (h2 : x ≤ 119988) (h3 : 0 ≤ y) (h4 : y ≤ 119988) : 0 ≤ x * y ∧ x * y ≤ 14397120144 := mul_b h1 h2 h3 h4 (by decide) (by decide)
theorem bm3 {x y : Int} (h1 : 0 ≤ x) (h2 : x ≤ 14397120144) (h3 : 0 ≤ y) (h4 : y ≤ 119988) : 0 ≤ x * y ∧ x * y ≤ 1727481651838272 := by
  have q := mul_b h1 h2 h3 h4 (by decide) (by decide)
  exact ⟨by omega, by omega⟩
theorem lm2 {a b : Int64} (h1 : 0 ≤ a.toInt) (h2 : a.toInt ≤ 119988) (h3 : 0 ≤ b.toInt) (h4 : b.toInt ≤ 119988) : (a * b).toInt = a.toInt * b.toInt := by
  have q := bm2 h1 h2 h3 h4
  exact l_mul rfl rfl rfl (by omega) (by omega)
theorem lm3 {a b c : Int64} (h1 : 0 ≤ a.toInt) (h2 : a.toInt ≤ 119988) (h3 : 0 ≤ b.toInt) (h4 : b.toInt ≤ 119988) (h5 : 0 ≤ c.toInt) (h6 : c.toInt ≤ 119988) : (a * b * c).toInt = a.toInt * b.toInt * c.toInt := by
  have q := bm2 h1 h2 h3 h4
  have q2 := bm3 q.1 q.2 h5 h6
  exact l_mul rfl (lm2 h1 h2 h3 h4) rfl (by omega) (by omega)
/-- which of two looks is the lesser, by the numbers of three -/
theorem c3_lt {x y z : Int} (hz : 0 < z) : x < y ↔ x * z < y * z := ⟨fun h => Int.mul_lt_mul_of_pos_right h hz, fun h => Int.lt_of_mul_lt_mul_right h (Int.le_of_lt hz)⟩
theorem ls3 {D R : Nat → Int64} {c0 c1 c2 : Int} (h0 : bdL c0 (D 0) (R 0)) (h1 : bdL c1 (D 1) (R 1)) (h2 : bdL c2 (D 2) (R 2)) (p0 : 1 ≤ c0) (p1 : 1 ≤ c1) (p2 : 1 ≤ c2) :
    ((D 1 * R 0).toInt < (D 0 * R 1).toInt ↔ (D 1 * R 0 * R 2).toInt < (D 0 * R 1 * R 2).toInt) ∧ ((D 2 * R 0).toInt < (D 0 * R 2).toInt ↔ (D 2 * R 0 * R 1).toInt < (D 0 * R 1 * R 2).toInt) ∧ ((D 2 * R 1).toInt < (D 1 * R 2).toInt ↔ (D 2 * R 0 * R 1).toInt < (D 1 * R 0 * R 2).toInt) := by
  obtain ⟨a0, a1, a2, a3, a4⟩ := h0
  obtain ⟨b0, b1, b2, b3, b4⟩ := h1
  obtain ⟨d0, d1, d2, d3, d4⟩ := h2
  rw [lm3 (a := D 1) (b := R 0) (c := R 2) (by omega) (by omega) (by omega) (by omega) (by omega) (by omega), lm3 (a := D 0) (b := R 1) (c := R 2) (by omega) (by omega) (by omega) (by omega) (by omega) (by omega), lm3 (a := D 2) (b := R 0) (c := R 1) (by omega) (by omega) (by omega) (by omega) (by omega) (by omega),
    lm2 (a := D 1) (b := R 0) (by omega) (by omega) (by omega) (by omega), lm2 (a := D 0) (b := R 1) (by omega) (by omega) (by omega) (by omega), lm2 (a := D 2) (b := R 0) (by omega) (by omega) (by omega) (by omega), lm2 (a := D 0) (b := R 2) (by omega) (by omega) (by omega) (by omega), lm2 (a := D 2) (b := R 1) (by omega) (by omega) (by omega) (by omega), lm2 (a := D 1) (b := R 2) (by omega) (by omega) (by omega) (by omega)]
  refine ⟨c3_lt (by omega), (c3_lt (z := (R 1).toInt) (by omega)).trans ?_, (c3_lt (z := (R 0).toInt) (by omega)).trans ?_⟩
  · rw [Int.mul_right_comm (D 0).toInt (R 2).toInt (R 1).toInt]
  · rw [Int.mul_right_comm (D 2).toInt (R 1).toInt (R 0).toInt, Int.mul_right_comm (D 1).toInt (R 2).toInt (R 0).toInt]
/-- looks that part have not the same ratio -/
theorem dif_ne {D R : Nat → Int64} {c0 c1 : Int} {pt : Int32} (h0 : bdL c0 (D 0) (R 0)) (h1 : bdL c1 (D 1) (R 1)) (hp : 0 ≤ pt.toInt ∧ pt.toInt ≤ 200) (h : difL (D 0) (R 0) (D 1) (R 1) pt) : (D 1 * R 0).toInt ≠ (D 0 * R 1).toInt := by
  intro e
  obtain ⟨a0, a1, a2, a3, a4⟩ := h0
  obtain ⟨b0, b1, b2, b3, b4⟩ := h1
  have e2 : D 0 * R 1 - D 1 * R 0 = 0 := by rw [Int64.toInt_inj.mp e]; exact Int64.sub_self _
  unfold difL at h
  rw [e2] at h
  have z : ((1000 : Int64) * absL 0).toInt = 0 := by decide
  rw [z] at h
  have q1 := mul_b hp.1 hp.2 (by omega : 0 ≤ (R 0).toInt) a4 (by decide) (by decide)
  have m1 : (pt.toInt64 * R 0).toInt = pt.toInt * (R 0).toInt := l_mul rfl (Int32.toInt_toInt64 _) rfl (by omega) (by omega)
  have q2 := mul_b (by omega : 0 ≤ pt.toInt * (R 0).toInt) q1.2 (by omega : 0 ≤ (R 1).toInt) b4 (by decide) (by decide)
  have m2 : (pt.toInt64 * R 0 * R 1).toInt = pt.toInt * (R 0).toInt * (R 1).toInt := l_mul rfl m1 rfl (by omega) (by omega)
  omega
theorem ls2 {D R : Nat → Int64} {p q : Nat} : lsN D R p q = p ∨ lsN D R p q = q := by
  by_cases h : (D q * R p).toInt < (D p * R q).toInt
  · exact Or.inr (lsN_y h)
  · exact Or.inl (lsN_n h)
theorem ls01 {D R : Nat → Int64} : lsN D R 0 1 = 0 ∨ lsN D R 0 1 = 1 := ls2
/-- the least and the middle of three, as both sides take them -/
theorem lw_least {D R : Nat → Int64} {c0 c1 c2 i : Int} (h0 : bdL c0 (D 0) (R 0)) (h1 : bdL c1 (D 1) (R 1)) (h2 : bdL c2 (D 2) (R 2)) (p0 : 1 ≤ c0) (p1 : 1 ≤ c1) (p2 : 1 ≤ c2) (h : l3R (D 0 * R 1 * R 2).toInt (D 1 * R 0 * R 2).toInt (D 2 * R 0 * R 1).toInt i) : ((lsN D R (lsN D R 0 1) 2 : Nat) : Int) = i := by
  obtain ⟨k1, k2, k3⟩ := ls3 h0 h1 h2 p0 p1 p2
  unfold l3R at h
  by_cases q1 : (D 1 * R 0).toInt < (D 0 * R 1).toInt
  · rw [lsN_y q1]
    by_cases q3 : (D 2 * R 1).toInt < (D 1 * R 2).toInt
    · rw [lsN_y q3]
      have := k1.mp q1
      have := k3.mp q3
      show ((2 : Nat) : Int) = i
      omega
    · rw [lsN_n q3]
      have := k1.mp q1
      have r9 : ¬ _ := fun z => q3 (k3.mpr z)
      show ((1 : Nat) : Int) = i
      omega
  · rw [lsN_n q1]
    have r1 : ¬ _ := fun z => q1 (k1.mpr z)
    by_cases q2 : (D 2 * R 0).toInt < (D 0 * R 2).toInt
    · rw [lsN_y q2]
      have := k2.mp q2
      show ((2 : Nat) : Int) = i
      omega
    · rw [lsN_n q2]
      have r2 : ¬ _ := fun z => q2 (k2.mpr z)
      show ((0 : Nat) : Int) = i
      omega
theorem pk_middle {D R : Nat → Int64} {c0 c1 c2 i : Int} (h0 : bdL c0 (D 0) (R 0)) (h1 : bdL c1 (D 1) (R 1)) (h2 : bdL c2 (D 2) (R 2)) (p0 : 1 ≤ c0) (p1 : 1 ≤ c1) (p2 : 1 ≤ c2) (hne : (D 1 * R 0).toInt ≠ (D 0 * R 1).toInt) (h : m3R (D 0 * R 1 * R 2).toInt (D 1 * R 0 * R 2).toInt (D 2 * R 0 * R 1).toInt i) : ((mdN D R : Nat) : Int) = i := by
  obtain ⟨k1, k2, k3⟩ := ls3 h0 h1 h2 p0 p1 p2
  have hn2 : (D 1 * R 0 * R 2).toInt ≠ (D 0 * R 1 * R 2).toInt := by
    obtain ⟨a0, a1, a2, a3, a4⟩ := h0
    obtain ⟨b0, b1, b2, b3, b4⟩ := h1
    obtain ⟨d0, d1, d2, d3, d4⟩ := h2
    rw [lm3 (a := D 1) (b := R 0) (c := R 2) (by omega) (by omega) (by omega) (by omega) (by omega) (by omega), lm3 (a := D 0) (b := R 1) (c := R 2) (by omega) (by omega) (by omega) (by omega) (by omega) (by omega)]
    rw [lm2 (a := D 1) (b := R 0) (by omega) (by omega) (by omega) (by omega), lm2 (a := D 0) (b := R 1) (by omega) (by omega) (by omega) (by omega)] at hne
    exact fun z => hne (Int.eq_of_mul_eq_mul_right (by omega) z)
  unfold m3R at h
  unfold mdN
  by_cases q1 : (D 1 * R 0).toInt < (D 0 * R 1).toInt
  · rw [lsN_y q1]
    have r1 := k1.mp q1
    by_cases q3 : (D 2 * R 1).toInt < (D 1 * R 2).toInt
    · rw [lsN_y q3, if_pos rfl]
      have := k3.mp q3
      show ((1 : Nat) : Int) = i
      omega
    · rw [lsN_n q3, if_neg (by decide)]
      have r3 : ¬ _ := fun z => q3 (k3.mpr z)
      by_cases q2 : (D 2 * R 0).toInt < (D 0 * R 2).toInt
      · have := k2.mp q2
        rw [show (1 - 1 : Nat) = 0 from rfl, lsN_y q2, if_pos rfl]
        show ((2 : Nat) : Int) = i
        omega
      · have r2 : ¬ _ := fun z => q2 (k2.mpr z)
        rw [show (1 - 1 : Nat) = 0 from rfl, lsN_n q2, if_neg (by decide)]
        show ((0 : Nat) : Int) = i
        omega
  · rw [lsN_n q1]
    have r1 : ¬ _ := fun z => q1 (k1.mpr z)
    by_cases q2 : (D 2 * R 0).toInt < (D 0 * R 2).toInt
    · rw [lsN_y q2, if_pos rfl]
      have := k2.mp q2
      show ((0 : Nat) : Int) = i
      omega
    · rw [lsN_n q2, if_neg (by decide)]
      have r2 : ¬ _ := fun z => q2 (k2.mpr z)
      by_cases q3 : (D 2 * R 1).toInt < (D 1 * R 2).toInt
      · have := k3.mp q3
        rw [show (1 - 0 : Nat) = 1 from rfl, lsN_y q3, if_pos rfl]
        show ((2 : Nat) : Int) = i
        omega
      · have r3 : ¬ _ := fun z => q3 (k3.mpr z)
        rw [show (1 - 0 : Nat) = 1 from rfl, lsN_n q3, if_neg (by decide)]
        show ((1 : Nat) : Int) = i
        omega
/-- a look that is taken has skeins -/
def ok1 (D R : Nat → Int64) (i : Int) : Prop := 0 ≤ i ∧ i ≤ 2 ∧ 1 ≤ (D i.toNat).toInt ∧ (D i.toNat).toInt ≤ 119988 ∧ 1 ≤ (R i.toNat).toInt ∧ (R i.toNat).toInt ≤ 119988
theorem ok1_0 {D R : Nat → Int64} {c : Int} (h : bdL c (D 0) (R 0)) (p : 1 ≤ c) : ok1 D R 0 := by
  obtain ⟨a0, a1, a2, a3, a4⟩ := h
  exact ⟨by decide, by decide, show 1 ≤ (D 0).toInt from by omega, a2, show 1 ≤ (R 0).toInt from by omega, a4⟩
theorem ok1_1 {D R : Nat → Int64} {c : Int} (h : bdL c (D 1) (R 1)) (p : 1 ≤ c) : ok1 D R 1 := by
  obtain ⟨a0, a1, a2, a3, a4⟩ := h
  exact ⟨by decide, by decide, show 1 ≤ (D 1).toInt from by omega, a2, show 1 ≤ (R 1).toInt from by omega, a4⟩
theorem ok1_2 {D R : Nat → Int64} {c : Int} (h : bdL c (D 2) (R 2)) (p : 1 ≤ c) : ok1 D R 2 := by
  obtain ⟨a0, a1, a2, a3, a4⟩ := h
  exact ⟨by decide, by decide, show 1 ≤ (D 2).toInt from by omega, a2, show 1 ≤ (R 2).toInt from by omega, a4⟩
theorem md2 {D R : Nat → Int64} : mdN D R = 0 ∨ mdN D R = 1 ∨ mdN D R = 2 := by
  have q := ls01 (D := D) (R := R)
  unfold mdN
  by_cases q1 : lsN D R (lsN D R 0 1) 2 = 2
  · rw [if_pos q1]; omega
  · rw [if_neg q1]
    by_cases q2 : lsN D R (1 - lsN D R 0 1) 2 = 2
    · rw [if_pos q2]; omega
    · rw [if_neg q2]; omega
theorem ok_2 {D R : Nat → Int64} {c0 c1 i j w : Int} (h0 : bdL c0 (D 0) (R 0)) (h1 : bdL c1 (D 1) (R 1)) (p0 : 1 ≤ c0) (p1 : 1 ≤ c1) (h : twX D R i j w) : ok1 D R i ∧ ok1 D R j := by
  have k0 := ok1_0 h0 p0
  have k1 := ok1_1 h1 p1
  rcases h with ⟨-, rfl, rfl⟩ | ⟨-, e, e2⟩
  · exact ⟨k0, k1⟩
  · subst e2
    rcases ls01 (D := D) (R := R) with q | q
    · rw [q] at e; subst e; exact ⟨k0, k0⟩
    · rw [q] at e; subst e; exact ⟨k1, k1⟩
theorem ok_3 {D R : Nat → Int64} {c0 c1 c2 i j w : Int} (h0 : bdL c0 (D 0) (R 0)) (h1 : bdL c1 (D 1) (R 1)) (h2 : bdL c2 (D 2) (R 2)) (p0 : 1 ≤ c0) (p1 : 1 ≤ c1) (p2 : 1 ≤ c2) (h : thX D R i j w) : ok1 D R i ∧ ok1 D R j := by
  have k0 := ok1_0 h0 p0
  have k1 := ok1_1 h1 p1
  have k2 := ok1_2 h2 p2
  have all : ∀ q : Int, (q = 0 ∨ q = 1 ∨ q = 2) → ok1 D R q := by
    intro q hq
    rcases hq with rfl | rfl | rfl
    · exact k0
    · exact k1
    · exact k2
  rcases h with ⟨-, e, e2⟩ | ⟨-, e, e2⟩ | ⟨-, -, e⟩
  · subst e2
    have a := ls01 (D := D) (R := R)
    have b := ls2 (D := D) (R := R) (p := lsN D R 0 1) (q := 2)
    have z := all j (by omega)
    exact ⟨z, z⟩
  · subst e2
    have b := md2 (D := D) (R := R)
    have z := all j (by omega)
    exact ⟨z, z⟩
  · rcases e with ⟨-, -, rfl, rfl⟩ | ⟨-, -, rfl, rfl⟩ | ⟨-, -, rfl, rfl⟩
    · exact ⟨k0, k1⟩
    · exact ⟨k0, k2⟩
    · exact ⟨k1, k2⟩
theorem WpX_ok {F : Int → Int → Prop} {c0 c1 c2 : Int} {df : Int32 → Prop} {D R : Nat → Int64} {i j r : Int} (hn : ∀ v : Int, F 1 v → 1 ≤ v) (h0 : bdL c0 (D 0) (R 0)) (h1 : bdL c1 (D 1) (R 1)) (h2 : bdL c2 (D 2) (R 2)) (h : WpR F c0 c1 c2 df (i = 0 ∧ j = 0) (twX D R i j) (thX D R i j) r) (hr : r = 1) : ok1 D R i ∧ ok1 D R j :=
  WpR_el hn (fun p q => by have k := ok1_0 h0 p; rw [q.1, q.2]; exact ⟨k, k⟩) (fun w p0 p1 q => ok_2 h0 h1 p0 p1 q) (fun w p0 p1 p2 q => ok_3 h0 h1 h2 p0 p1 p2 q) h hr
/-- the class's numbers, no larger than a long -/
theorem up_b {D R : Nat → Int64} {i j : Int} (hi : ok1 D R i) (hj : ok1 D R j) : 0 < upI D R i j ∧ upI D R i j ≤ 28794240288 ∧ 0 < loI R i j ∧ loI R i j ≤ 28794240288 ∧ (D i.toNat * R j.toNat + D j.toNat * R i.toNat).toInt = upI D R i j ∧ (2 * R i.toNat * R j.toNat).toInt = loI R i j := by
  obtain ⟨-, -, a1, a2, a3, a4⟩ := hi
  obtain ⟨-, -, b1, b2, b3, b4⟩ := hj
  have m1 := bm2 (by omega : 0 ≤ (D i.toNat).toInt) a2 (by omega : 0 ≤ (R j.toNat).toInt) b4
  have m2 := bm2 (by omega : 0 ≤ (D j.toNat).toInt) b2 (by omega : 0 ≤ (R i.toNat).toInt) a4
  have m3 := bm2 (by omega : 0 ≤ (R i.toNat).toInt) a4 (by omega : 0 ≤ (R j.toNat).toInt) b4
  have n1 : 0 < (D i.toNat).toInt * (R j.toNat).toInt := Int.mul_pos (by omega) (by omega)
  have n3 : 0 < (R i.toNat).toInt * (R j.toNat).toInt := Int.mul_pos (by omega) (by omega)
  have e : 2 * (R i.toNat).toInt * (R j.toNat).toInt = 2 * ((R i.toNat).toInt * (R j.toNat).toInt) := Int.mul_assoc _ _ _
  have t : (2 * R i.toNat).toInt = 2 * (R i.toNat).toInt := l_mul rfl (by decide : (2 : Int64).toInt = 2) rfl (by omega) (by omega)
  unfold upI loI
  refine ⟨by omega, by omega, by omega, by omega, ?_, ?_⟩
  · exact l_add rfl (lm2 (by omega) (by omega) (by omega) (by omega)) (lm2 (by omega) (by omega) (by omega) (by omega)) (by omega) (by omega)
  · exact l_mul rfl t rfl (by omega) (by omega)
theorem lw_bd {D R : Nat → Int64} {i j : Int} {U L m : Int64} (hi : ok1 D R i) (hj : ok1 D R j) (hU : U.toInt = upI D R i j) (hL : L.toInt = loI R i j) (hm : 1000 ≤ m.toInt ∧ m.toInt ≤ 129998700) : (U * m).toInt = upI D R i j * m.toInt ∧ 0 < (U * m).toInt ∧ (L * 1000).toInt = loI R i j * 1000 ∧ 1 ≤ (L * 1000).toInt ∧ (L * 1000).toInt ≤ 28794240288000 := by
  obtain ⟨b1, b2, b3, b4, -, -⟩ := up_b hi hj
  have q := mul_b (by omega : 1 ≤ upI D R i j) b2 hm.1 hm.2 (by decide) (by decide)
  have e1 : (U * m).toInt = upI D R i j * m.toInt := l_mul rfl hU rfl (by omega) (by omega)
  have e2 : (L * 1000).toInt = loI R i j * 1000 := l_mul rfl hL (by decide : (1000 : Int64).toInt = 1000) (by omega) (by omega)
  exact ⟨e1, by omega, e2, by omega, by omega⟩
/-- both sides' fractions: the same number -/
def FrE (D R : Nat → Int64) (i j up dn : Int) : Prop := upI D R i j * dn = up * loI R i j ∧ 0 < dn ∧ 0 < upI D R i j ∧ 0 < loI R i j
theorem fr_rs {D R : Nat → Int64} {i j up dn : Int} (hi : ok1 D R i) (hj : ok1 D R j) (h : rsY D R i j up dn) : FrE D R i j up dn := by
  have b := up_b hi hj
  rcases h with ⟨rfl, e1, e2⟩ | ⟨-, e1, e2⟩
  · refine ⟨?_, by rw [e2]; exact Int.lt_of_lt_of_le (by decide) hi.2.2.2.2.1, b.1, b.2.2.1⟩
    rw [e1, e2]; unfold upI loI
    rw [← Int.two_mul]
    ac_rfl
  · rw [b.2.2.2.2.1] at e1
    rw [b.2.2.2.2.2] at e2
    exact ⟨by rw [e1, e2], by rw [e2]; exact b.2.2.1, b.1, b.2.2.1⟩
theorem lsN_cg {D R D' R' : Nat → Int64} {p q : Nat} (hp : D p = D' p ∧ R p = R' p) (hq : D q = D' q ∧ R q = R' q) : lsN D R p q = lsN D' R' p q := by
  unfold lsN; rw [hp.1, hp.2, hq.1, hq.2]
theorem fr_2 {D R D' R' : Nat → Int64} {c0 c1 i j up dn w : Int} (hc : ∀ l : Nat, l < 3 → D l = D' l ∧ R l = R' l) (h0 : bdL c0 (D 0) (R 0)) (h1 : bdL c1 (D 1) (R 1)) (p0 : 1 ≤ c0) (p1 : 1 ≤ c1) (h : twX D R i j w) (k : twY D' R' up dn w) : FrE D R i j up dn := by
  obtain ⟨hi, hj⟩ := ok_2 h0 h1 p0 p1 h
  obtain ⟨i', j', k1, k2⟩ := k
  have e := lsN_cg (hc 0 (by decide)) (hc 1 (by decide))
  have ei : i = i' ∧ j = j' := by
    unfold twX at h k1
    rw [← e] at k1
    omega
  obtain ⟨rfl, rfl⟩ := ei
  refine fr_rs hi hj ?_
  unfold rsY at k2 ⊢
  have z1 := hc i.toNat (by have := hi.2.1; omega)
  have z2 := hc j.toNat (by have := hj.2.1; omega)
  rw [z1.1, z1.2, z2.1, z2.2]; exact k2
theorem fr_3 {D R D' R' : Nat → Int64} {c0 c1 c2 i j up dn w : Int} {pt : Int32} (hc : ∀ l : Nat, l < 3 → D l = D' l ∧ R l = R' l) (h0 : bdL c0 (D 0) (R 0)) (h1 : bdL c1 (D 1) (R 1)) (h2 : bdL c2 (D 2) (R 2)) (p0 : 1 ≤ c0) (p1 : 1 ≤ c1) (p2 : 1 ≤ c2) (hw : 0 ≤ w ∧ w ≤ 2) (hp : 0 ≤ pt.toInt ∧ pt.toInt ≤ 200) (hd : difL (D 0) (R 0) (D 1) (R 1) pt) (h : thX D R i j w) (k : thY D' R' up dn w) : FrE D R i j up dn := by
  obtain ⟨hi, hj⟩ := ok_3 h0 h1 h2 p0 p1 p2 h
  obtain ⟨i', j', k1, k2⟩ := k
  rw [← (hc 0 (by decide)).1, ← (hc 0 (by decide)).2, ← (hc 1 (by decide)).1, ← (hc 1 (by decide)).2, ← (hc 2 (by decide)).1, ← (hc 2 (by decide)).2] at k1
  have hne := dif_ne h0 h1 hp hd
  have ei : i = i' ∧ j = j' := by
    rcases h with ⟨q1, q2, q3⟩ | ⟨q1, q2, q3⟩ | ⟨q1, q2, q3⟩
    · rcases k1 with ⟨r1, -⟩ | ⟨r1, r2, r3⟩ | ⟨r1, r2, -⟩
      · omega
      · have z := lw_least h0 h1 h2 p0 p1 p2 r2
        omega
      · omega
    · rcases k1 with ⟨r1, -⟩ | ⟨r1, -, -⟩ | ⟨r1, r2, r3, r4⟩
      · omega
      · omega
      · have z := pk_middle h0 h1 h2 p0 p1 p2 hne r3
        omega
    · rcases k1 with ⟨r1, r2⟩ | ⟨r1, -, -⟩ | ⟨r1, r2, -, -⟩
      · rw [show D 1 * R 2 * R 0 = D 1 * R 0 * R 2 from by rw [Int64.mul_assoc, Int64.mul_comm (R 2), ← Int64.mul_assoc]] at q3
        unfold nrR at q3 r2
        omega
      · omega
      · omega
  obtain ⟨rfl, rfl⟩ := ei
  refine fr_rs hi hj ?_
  unfold rsY at k2 ⊢
  have z1 := hc i.toNat (by have := hi.2.1; omega)
  have z2 := hc j.toNat (by have := hj.2.1; omega)
  rw [z1.1, z1.2, z2.1, z2.2]; exact k2
theorem fr_1 {D R D' R' : Nat → Int64} {c0 i j up dn : Int} (hc : ∀ l : Nat, l < 3 → D l = D' l ∧ R l = R' l) (h0 : bdL c0 (D 0) (R 0)) (p0 : 1 ≤ c0) (h : i = 0 ∧ j = 0) (k : up = (D' 0).toInt ∧ dn = (R' 0).toInt) : FrE D R i j up dn := by
  have k0 := ok1_0 h0 p0
  rw [h.1, h.2]
  refine fr_rs k0 k0 (Or.inl ⟨rfl, ?_, ?_⟩)
  · rw [k.1, ← (hc 0 (by decide)).1]; rfl
  · rw [k.2, ← (hc 0 (by decide)).2]; rfl
/-- both sides' states and fractions -/
theorem Wp_fr {F G : Int → Int → Prop} {c0 c1 c2 : Int} {D R D' R' : Nat → Int64} {i j up dn r s : Int} (hF : ∀ a v w : Int, 0 ≤ a → a ≤ 5 → F a v → G a w → v = w) (hb : ∀ a v : Int, 0 ≤ a → a ≤ 5 → F a v → fLo a ≤ v ∧ v ≤ fHi a) (hc : ∀ l : Nat, l < 3 → D l = D' l ∧ R l = R' l) (h0 : bdL c0 (D 0) (R 0)) (h1 : bdL c1 (D 1) (R 1)) (h2 : bdL c2 (D 2) (R 2))
    (h : WpR F c0 c1 c2 (fun pt => difL (D 0) (R 0) (D 1) (R 1) pt) (i = 0 ∧ j = 0) (twX D R i j) (thX D R i j) r) (k : WpR G c0 c1 c2 (fun pt => difL (D' 0) (R' 0) (D' 1) (R' 1) pt) (up = (D' 0).toInt ∧ dn = (R' 0).toInt) (twY D' R' up dn) (thY D' R' up dn) s) : r = s ∧ (r = 1 → FrE D R i j up dn) := by
  refine WpR_un hF (fun q => ?_) (fun v hv => (hb 1 v (by decide) (by decide) hv).1) (fun p q1 q2 => fr_1 hc h0 p q1 q2) (fun w hw p0 p1 q1 q2 => fr_2 hc h0 h1 p0 p1 q1 q2) (fun w pt hw hp hd p0 p1 p2 q1 q2 => fr_3 hc h0 h1 h2 p0 p1 p2 (hb 5 w (by decide) (by decide) hw) (hb 2 pt.toInt (by decide) (by decide) hp) hd q1 q2) h k
  rw [(hc 0 (by decide)).1, (hc 0 (by decide)).2, (hc 1 (by decide)).1, (hc 1 (by decide)).2]
/-- a look has at most twelve skeins -/
theorem smC_cn {c : Nat → Prop} {ob ol : Nat → Int32} {b l : Int32} : ∀ n : Nat, n ≤ 60 → (∀ j : Nat, j < n → c j → (ob j).toInt = b.toInt ∧ (ol j).toInt = l.toInt) → 0 ≤ (smC c n).toInt ∧ (smC c n).toInt ≤ ((cn0 ob ol b l n : Nat) : Int) ∧ (smC c n).toInt ≤ (n : Int)
  | 0, _, _ => by
    have e2 : (smC c 0).toInt = 0 := by show (0 : Int32).toInt = 0; decide
    rw [e2]; exact ⟨by omega, by omega, by omega⟩
  | n + 1, hn, h => by
    obtain ⟨q1, q2, q3⟩ := smC_cn n (by omega) (fun j hj => h j (by omega))
    have z := h n (by omega)
    have k : cn0 ob ol b l (n + 1) = cn0 ob ol b l n + (if (ob n).toInt = b.toInt ∧ (ol n).toInt = l.toInt then 1 else 0) := rfl
    by_cases e : c n
    · have a1 : (smC c (n + 1)).toInt = (smC c n).toInt + 1 := by
        rw [smC_y rfl e]; exact z_add rfl rfl (by decide : (1 : Int32).toInt = 1) (by omega) (by omega)
      rw [if_pos (z e)] at k
      rw [a1, k]; exact ⟨by omega, by omega, by omega⟩
    · rw [smC_n rfl e, k]
      refine ⟨q1, ?_, by omega⟩
      split <;> omega
theorem sX_b {rw_ : Nat → Int32} {b l : Int32} {d : Int} {n : Nat} (hn : n ≤ 60) (hw : ∀ s : Nat, s < n → (100 ≤ (rw_ (9 * s + 3)).toInt ∧ (rw_ (9 * s + 3)).toInt ≤ 9999) ∧ (50 ≤ (rw_ (9 * s + 4)).toInt ∧ (rw_ (9 * s + 4)).toInt ≤ 9999)) (hc : cn0 (fun s => rw_ (9 * s + 0)) (fun s => rw_ (9 * s + 1)) b l n ≤ 12) : bdL (nX rw_ b.toInt d l.toInt n).toInt (sX rw_ b.toInt d l.toInt 4 n) (sX rw_ b.toInt d l.toInt 3 n) := by
  have q := smC_cn (c := cxP rw_ b.toInt d l.toInt) (ob := fun s => rw_ (9 * s + 0)) (ol := fun s => rw_ (9 * s + 1)) (b := b) (l := l) n hn (fun j _ h => ⟨h.1, h.2.1⟩)
  have r := smL_b (c := cxP rw_ b.toInt d l.toInt) (w := fun s => rw_ (9 * s + 3)) (lo := 100) (hi := 9999) (by decide) (by decide) (by decide) n hn (fun j hj => (hw j hj).1)
  have t := smL_b (c := cxP rw_ b.toInt d l.toInt) (w := fun s => rw_ (9 * s + 4)) (lo := 50) (hi := 9999) (by decide) (by decide) (by decide) n hn (fun j hj => (hw j hj).2)
  unfold bdL nX sX
  exact ⟨q.1, t.1, by omega, r.1, by omega⟩
theorem sY_b {ob ol dy lo ra dr : Nat → Int32} {b l : Int32} {d : Int} {n : Nat} (hn : n ≤ 60) (hw : ∀ s : Nat, s < n → (100 ≤ (ra s).toInt ∧ (ra s).toInt ≤ 9999) ∧ (50 ≤ (dr s).toInt ∧ (dr s).toInt ≤ 9999)) (hc : cn0 ob ol b l n ≤ 12) : bdL (nY ob ol dy lo b.toInt d l.toInt n).toInt (sY ob ol dy lo dr b.toInt d l.toInt n) (sY ob ol dy lo ra b.toInt d l.toInt n) := by
  have q := smC_cn (c := cyP ob ol dy lo b.toInt d l.toInt) (ob := ob) (ol := ol) (b := b) (l := l) n hn (fun j _ h => ⟨h.1, h.2.1⟩)
  have r := smL_b (c := cyP ob ol dy lo b.toInt d l.toInt) (w := ra) (lo := 100) (hi := 9999) (by decide) (by decide) (by decide) n hn (fun j hj => (hw j hj).1)
  have t := smL_b (c := cyP ob ol dy lo b.toInt d l.toInt) (w := dr) (lo := 50) (hi := 9999) (by decide) (by decide) (by decide) n hn (fun j hj => (hw j hj).2)
  unfold bdL nY sY
  exact ⟨q.1, t.1, by omega, r.1, by omega⟩
theorem FoY_b {n D a v : Int} {dx cx kx fx sx lx dy cy ky ny fy sy wy ly : Nat → Int32} (h : BkE n dx cx kx fx sx lx dy cy ky ny fy sy wy ly) (ha : 0 ≤ a ∧ a ≤ 5) (x : FoY n dy cy ky ny fy a D v) : fLo a ≤ v ∧ v ≤ fHi a := by
  obtain ⟨on, s, x1, x2⟩ := x
  rcases x2 with ⟨-, b, -⟩ | ⟨r, j, a1, a2, a3, a4, a5, a6, -⟩
  · rw [b]
    rcases (by omega : a = 0 ∨ a = 1 ∨ a = 2 ∨ a = 3 ∨ a = 4 ∨ a = 5) with q | q | q | q | q | q <;> rw [q] <;> exact ⟨by decide, by decide⟩
  · have zr := h r (by omega)
    rw [← zr.2.1] at a4
    have z := zr.2.2.2.2 j a3 a4
    have g := z.2.2.2.1
    have c := ClE_k z
    have a5 : (a = 5 ∧ (ky j).toInt = 1) ∨ (a ≠ 5 ∧ (ky j).toInt = 0 ∧ (ny j).toInt = a) := a5
    have a5 : (kx j).toInt = a := by omega
    have a6 : v = (fy j).toInt := a6
    rw [← z.2.1] at a6
    obtain ⟨g1, g2, g3, g4, -, -⟩ := g
    rw [a5] at g3 g4
    rw [← a6] at g3 g4
    rcases (by omega : a = 0 ∨ a = 1 ∨ a = 2 ∨ a = 3 ∨ a = 4 ∨ a = 5) with q | q | q | q | q | q
    · rw [q] at g3 ⊢; exact g3 (by decide)
    · rw [q] at g3 ⊢; exact g3 (by decide)
    · rw [q] at g3 ⊢; exact g3 (by decide)
    · rw [q] at g3 ⊢; exact g3 (by decide)
    · rw [q] at g3 ⊢; exact g3 (by decide)
    · rw [q] at g4 ⊢; exact g4 rfl
