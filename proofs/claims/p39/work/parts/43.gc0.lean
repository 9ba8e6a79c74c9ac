/-! ===== gc0 ===== -/

/-- the greatest common divisor of two numbers that are not below 0 -/
def gN (x y : Int) : Int := ((Nat.gcd x.toNat y.toNat : Nat) : Int)
theorem gN_0 {x : Int} (h : 0 ≤ x) : gN x 0 = x := by
  unfold gN
  show ((Nat.gcd x.toNat 0 : Nat) : Int) = x
  rw [Nat.gcd_zero_right]; exact Int.toNat_of_nonneg h
theorem gN_pos {x y : Int} (h : 0 < y) : 1 ≤ gN x y := by
  unfold gN
  have q : 0 < Nat.gcd x.toNat y.toNat := Nat.gcd_pos_of_pos_right _ (by omega)
  omega
theorem gN_step {x y : Int} (hx : 0 ≤ x) (hy : 0 < y) : gN y (x % y) = gN x y := by
  unfold gN
  have e : (x % y).toNat = x.toNat % y.toNat := by
    have h1 : ((x.toNat % y.toNat : Nat) : Int) = x % y := by
      rw [Int.natCast_emod, Int.toNat_of_nonneg hx, Int.toNat_of_nonneg (Int.le_of_lt hy)]
    omega
  rw [e, Nat.gcd_comm y.toNat, ← Nat.gcd_rec, Nat.gcd_comm]
theorem l_remp {a b c : Int64} {x y : Int} (h : c = a - a / b * b) (ha : a.toInt = x) (hb : b.toInt = y) (h0 : 0 ≤ x) (h1 : 0 < y) : c.toInt = x % y := by
  have hx := Int64.toInt_lt a
  rw [ha] at hx
  have q0 : 0 ≤ x / y := Int.ediv_nonneg h0 (Int.le_of_lt h1)
  have q1 : x / y ≤ x := Int.ediv_le_self y h0
  have e : (a / b).toInt = x / y := by
    rw [Int64.toInt_div, ha, hb, Int.tdiv_eq_ediv_of_nonneg h0, Int.bmod_def]; omega
  have e1 : x % y + y * (x / y) = x := Int.emod_add_mul_ediv x y
  have e2 : 0 ≤ x % y := Int.emod_nonneg x (by omega)
  have e4 : 0 ≤ y * (x / y) := Int.mul_nonneg (Int.le_of_lt h1) q0
  have mm : (a / b * b).toInt = y * (x / y) := by
    rw [Int64.toInt_mul, e, hb, Int.mul_comm, Int.bmod_def]; omega
  rw [h, Int64.toInt_sub, ha, mm, Int.bmod_def]; omega
theorem l_divp {a b c : Int64} {x y : Int} (h : c = a / b) (ha : a.toInt = x) (hb : b.toInt = y) (h0 : 0 ≤ x) (h1 : 0 < y) : c.toInt = x / y := by
  have hx := Int64.toInt_lt a
  rw [ha] at hx
  have q0 : 0 ≤ x / y := Int.ediv_nonneg h0 (Int.le_of_lt h1)
  have q1 : x / y ≤ x := Int.ediv_le_self y h0
  rw [h, Int64.toInt_div, ha, hb, Int.tdiv_eq_ediv_of_nonneg h0, Int.bmod_def]; omega
/-- how far a hundred steps reach: the product of both is halved at each step but the first -/
def gQ (k x y : Int) : Prop := (k = 0 ∧ y ≤ 281474976710656) ∨ (1 ≤ k ∧ y < x ∧ x.toNat * y.toNat * 2 ^ k.toNat ≤ 2 ^ 97)
theorem gQ_step {k x y : Int} (hk : 0 ≤ k) (hx : 0 ≤ x) (hy : 0 < y) (h : gQ k x y) : gQ (k + 1) y (x % y) := by
  have m0 : 0 ≤ x % y := Int.emod_nonneg x (by omega)
  have m1 : x % y < y := Int.emod_lt_of_pos x hy
  have ek : (k + 1).toNat = k.toNat + 1 := by omega
  refine Or.inr ⟨by omega, m1, ?_⟩
  rw [ek, Nat.pow_succ]
  rcases h with ⟨h1, h2⟩ | ⟨h1, h2, h3⟩
  · have e0 : k.toNat = 0 := by omega
    rw [e0]
    have q : y.toNat * (x % y).toNat ≤ 281474976710656 * 281474976710656 := Nat.mul_le_mul (by omega) (by omega)
    show y.toNat * (x % y).toNat * (1 * 2) ≤ 2 ^ 97
    have : (2 : Nat) ^ 97 = 281474976710656 * 281474976710656 * 2 := by decide
    omega
  · have d : x % y + y * (x / y) = x := Int.emod_add_mul_ediv x y
    have d1 : 1 ≤ x / y := by
      have : 1 * y ≤ x := by omega
      exact (Int.le_ediv_iff_mul_le hy).mpr this
    have d2 : y ≤ y * (x / y) := by
      have := Int.mul_le_mul_of_nonneg_left d1 (Int.le_of_lt hy)
      omega
    have h4 : 2 * (x % y).toNat ≤ x.toNat := by omega
    have q : y.toNat * (2 * (x % y).toNat) ≤ y.toNat * x.toNat := Nat.mul_le_mul_left _ h4
    have q2 : y.toNat * (2 * (x % y).toNat) * 2 ^ k.toNat ≤ y.toNat * x.toNat * 2 ^ k.toNat := Nat.mul_le_mul_right _ q
    have e1 : y.toNat * (x % y).toNat * (2 ^ k.toNat * 2) = y.toNat * (2 * (x % y).toNat) * 2 ^ k.toNat := by
      rw [Nat.mul_comm (2 ^ k.toNat) 2, ← Nat.mul_assoc, Nat.mul_assoc y.toNat, Nat.mul_comm ((x % y).toNat) 2]
    rw [e1]
    rw [Nat.mul_comm x.toNat] at h3
    exact Nat.le_trans q2 h3
theorem gQ_end {k x y : Int} (hk : 100 ≤ k) (hy : 0 ≤ y) (h : gQ k x y) : y = 0 := by
  rcases h with ⟨h1, h2⟩ | ⟨h1, h2, h3⟩
  · omega
  · by_cases e : y = 0
    · exact e
    · exfalso
      have p : 1 ≤ x.toNat * y.toNat := Nat.mul_pos (by omega) (by omega)
      have q : (2 : Nat) ^ 100 ≤ 2 ^ k.toNat := Nat.pow_le_pow_right (by decide) (by omega)
      have r : 1 * 2 ^ 100 ≤ x.toNat * y.toNat * 2 ^ k.toNat := Nat.mul_le_mul p q
      have s : (2 : Nat) ^ 97 < 1 * 2 ^ 100 := by decide
      exact absurd (Nat.le_trans r h3) (Nat.not_le.mpr s)
/-! ===== gc1 ===== -/
set_option maxHeartbeats 4000000 in
set_option maxRecDepth 100000 in
/-- X11_greatestDivisor -/
theorem c_X11_greatestDivisor_g (l : Launch) (dC : Nat → ClassId) (dI : Nat → Nat → Nat) (a : Int64) (b : Int64) (p_0 : 0 ≤ a.toInt) (p_1 : 0 ≤ b.toInt) (p_2 : b.toInt ≤ 281474976710656) : Met l yX11_greatestDivisor (wc yX11_greatestDivisor cX11_greatestDivisor 7 (some .long)) ({ frames := 0, cells := 0, slots := 0, locals := 0 } : Room) (pR (dC, dI) classes [] [] [.long a, .long b]) (vp_Sl (fun r => (True) ∧ (r.toInt = gN a.toInt b.toInt))) 0 0 (fun _ => False) := by
  refine Met.ofW (cc := cX11_greatestDivisor) (maxL := 7) (ret := (some .long)) (by decide) rfl ?_
  intro p e s m args below meth c s₁ B hml hv
  obtain ⟨rfl, hP, hK⟩ := hv
  have hx := B.exec
  have hb := B.bytes
  have hr := B.returns
  have ht := tb_tl (atoms_spec (ws := wc yX11_greatestDivisor cX11_greatestDivisor 7 (some .long)) B.pre)
  have hown : s.vm.findClass RX11 = some m.cls := findClass_of_methodNamed B.named
  have hlocks := B.notSynchronized
  have hl := lv_entry [.long a, .long b] (n := 7) (Nat.le_of_ble_eq_true rfl)
  rw [lg_entry_eq]
  generalize (lg_sl [.long a, .long b] ++ List.replicate (7 - (lg_sl [.long a, .long b]).length) Slot.unset).toArray = ls at hl ⊢
  have hl : lv_has ls 7 [(0, .long a), (2, .long b)] := hl
  refine lv_iconst (v := 0) hx hb dX11_greatestDivisor_0 (by decide) ?_
  refine lv_istore (lv' := [(4, .int 0), (0, .long a), (2, .long b)]) hx hb dX11_greatestDivisor_1 hl (by decide) rfl (fun ls hl => ?_)
  have lp170 : ∀ (nn170 : Nat) (x169_4 : Int32) (x169_0 : Int64) (x169_2 : Int64), 0 ≤ x169_4.toInt ∧ x169_4.toInt ≤ 100 → (gN (x169_0 : Int64).toInt (x169_2 : Int64).toInt = gN (a).toInt (b).toInt) → 0 ≤ (x169_0 : Int64).toInt → (0 ≤ (x169_2 : Int64).toInt) → (gQ (x169_4 : Int32).toInt (x169_0 : Int64).toInt (x169_2 : Int64).toInt) → (x169_4 : Int32).toInt ≤ 100 → 100 - x169_4.toInt < (nn170 : Int) → ∀ (ls : Array Slot), lv_has ls 7 [(4, .int x169_4), (0, .long x169_0), (2, .long x169_2)] → W p l e ({ frames := 0, cells := 0, slots := 0, locals := 0 } : Room) s m ([.long a, .long b] : List Value).toArray below meth c s.heap [] 0 0 (MQ below (vp_Sl (fun r => (True) ∧ (r.toInt = gN a.toInt b.toInt))) ([.long a, .long b] : List Value).toArray s 0 0 (fun _ => False)) (F0 m 3 ls []) := by
    intro nn170
    induction nn170 with
    | zero => intro x169_4 x169_0 x169_2 hx169_4 hq170_0 hq170_1 hq170_2 hq170_3 hq170_4 hm170; exfalso; omega
    | succ nn170 ih170 =>
      intro x169_4 x169_0 x169_2 hx169_4 hq170_0 hq170_1 hq170_2 hq170_3 hq170_4 hm170 ls hl
      refine lv_iload hx hb dX11_greatestDivisor_3 (lv_at hl 0 rfl) ?_
      refine lv_bipush (v := 100) hx hb dX11_greatestDivisor_5 (by decide) ?_
      refine lv_icmp_ge (tgt := 32) hx hb dX11_greatestDivisor_7 (by decide) (fun c171 => ?_) (fun c171 => ?_)
      · have fc171 := z_le (by decide : (100 : Int32).toInt = 100) (rfl : (x169_4).toInt = _) c171
        refine lv_lload_n hx hb dX11_greatestDivisor_32 rfl (lv_at hl 1 rfl) ?_
        exact W.lret (v := x169_0) hx hb hr (fun t ht9 hW => ⟨x169_0, rfl, ⟨trivial, (show (x169_0 : Int64).toInt = gN (a).toInt (b).toInt from (by have hq9 := hq170_0; have hz9 : (x169_2 : Int64).toInt = 0 := (by first | omega | exact gQ_end (by omega) (by omega) hq170_3); rw [hz9, gN_0 (by omega)] at hq9; exact hq9))⟩, ht9⟩) (fun q hq => by cases hq) dX11_greatestDivisor_33
      · have fc171 := z_nle (by decide : (100 : Int32).toInt = 100) (rfl : (x169_4).toInt = _) c171
        refine lv_lload_n hx hb dX11_greatestDivisor_10 rfl (lv_at hl 2 rfl) ?_
        refine lv_lconst (v := 0) hx hb dX11_greatestDivisor_11 (by decide) ?_
        refine W.lcmp hx hb dX11_greatestDivisor_12 ?_
        refine lv_topi (fun v172 ev172 => ?_)
        refine lv_if_eq (tgt := 32) hx hb dX11_greatestDivisor_13 (by decide) (fun c173 => ?_) (fun c173 => ?_)
        · have fc173 := zc_eq ev172 (rfl : (x169_2).toInt = _) (by decide : (0 : Int64).toInt = 0) c173
          refine lv_lload_n hx hb dX11_greatestDivisor_32 rfl (lv_at hl 1 rfl) ?_
          exact W.lret (v := x169_0) hx hb hr (fun t ht9 hW => ⟨x169_0, rfl, ⟨trivial, (show (x169_0 : Int64).toInt = gN (a).toInt (b).toInt from (by have hq9 := hq170_0; have hz9 : (x169_2 : Int64).toInt = 0 := (by first | omega | exact gQ_end (by omega) (by omega) hq170_3); rw [hz9, gN_0 (by omega)] at hq9; exact hq9))⟩, ht9⟩) (fun q hq => by cases hq) dX11_greatestDivisor_33
        · have fc173 := zc_ne ev172 (rfl : (x169_2).toInt = _) (by decide : (0 : Int64).toInt = 0) c173
          refine lv_lload_n hx hb dX11_greatestDivisor_16 rfl (lv_at hl 1 rfl) ?_
          refine lv_lload_n hx hb dX11_greatestDivisor_17 rfl (lv_at hl 2 rfl) ?_
          have zw174 : (x169_2 : Int64).toInt ≠ 0 := by omega
          refine lv_lrem hx hb dX11_greatestDivisor_18 (l_nz rfl zw174) ?_
          refine lv_topl (fun w174 ew174 => ?_)
          refine lv_lstore (lv' := [(5, .long w174), (4, .int x169_4), (0, .long x169_0), (2, .long x169_2)]) hx hb dX11_greatestDivisor_19 hl (by decide) rfl (fun ls hl => ?_)
          refine lv_lload_n hx hb dX11_greatestDivisor_21 rfl (lv_at hl 3 rfl) ?_
          refine lv_lstore_n (lv' := [(0, .long x169_2), (5, .long w174), (4, .int x169_4), (2, .long x169_2)]) hx hb dX11_greatestDivisor_22 rfl hl (by decide) rfl (fun ls hl => ?_)
          refine lv_lload hx hb dX11_greatestDivisor_23 (lv_at hl 1 rfl) ?_
          refine lv_lstore_n (lv' := [(2, .long w174), (0, .long x169_2), (5, .long w174), (4, .int x169_4)]) hx hb dX11_greatestDivisor_25 rfl hl (by decide) rfl (fun ls hl => ?_)
          obtain ⟨v175, ev175⟩ : ∃ y : Int32, y = x169_4 + 1 := ⟨_, rfl⟩
          have tv175 := z_add ev175 rfl (by decide : (1 : Int32).toInt = 1) (by omega) (by omega)
          refine lv_iinc (v := v175) (lv' := [(4, .int v175), (2, .long w174), (0, .long x169_2), (5, .long w174)]) hx hb dX11_greatestDivisor_26 hl (k := 3) rfl (by rw [ev175]; rfl) (by decide) rfl (fun ls hl => ?_)
          refine lv_goto (tgt := 3) hx hb dX11_greatestDivisor_29 (by decide) ?_
          exact ih170 v175 x169_2 w174 ⟨by omega, by omega⟩ (show gN (x169_2 : Int64).toInt (w174 : Int64).toInt = gN (a).toInt (b).toInt from (by have hm9 := l_remp ew174 (rfl : (x169_0 : Int64).toInt = _) (rfl : (x169_2 : Int64).toInt = _) (by omega) (by omega); rw [hm9, gN_step (by omega) (by omega)]; exact hq170_0)) (show 0 ≤ (x169_2 : Int64).toInt from by omega) (show 0 ≤ (w174 : Int64).toInt from (by have hm9 := l_remp ew174 (rfl : (x169_0 : Int64).toInt = _) (rfl : (x169_2 : Int64).toInt = _) (by omega) (by omega); rw [hm9]; exact Int.emod_nonneg _ (by omega))) (show gQ (v175 : Int32).toInt (x169_2 : Int64).toInt (w174 : Int64).toInt from (by have hm9 := l_remp ew174 (rfl : (x169_0 : Int64).toInt = _) (rfl : (x169_2 : Int64).toInt = _) (by omega) (by omega); rw [hm9, show (v175 : Int32).toInt = (x169_4 : Int32).toInt + 1 from by omega]; exact gQ_step (by omega) (by omega) (by omega) hq170_3)) (show (v175 : Int32).toInt ≤ 100 from by omega) (by omega) ls (lv_sub hl [0, 2, 1] rfl)
  have : (0 : Int32).toInt = 0 := (by decide)
  exact lp170 101 0 a b ⟨by decide, by decide⟩ (show gN (a : Int64).toInt (b : Int64).toInt = gN (a).toInt (b).toInt from rfl) (show 0 ≤ (a : Int64).toInt from by omega) (show 0 ≤ (b : Int64).toInt from by omega) (show gQ (0 : Int32).toInt (a : Int64).toInt (b : Int64).toInt from (by have hz : (0 : Int32).toInt = 0 := (by decide); exact Or.inl ⟨by omega, by omega⟩)) (show (0 : Int32).toInt ≤ 100 from by omega) (by first | decide | omega) ls (lv_sub hl [0, 1, 2] rfl)
set_option maxHeartbeats 4000000 in
set_option maxRecDepth 100000 in
/-- X11_inLeastTerms -/
theorem c_X11_inLeastTerms_g (l : Launch) (dC : Nat → ClassId) (dI : Nat → Nat → Nat) (a : Int64) (b : Int64) (d : Int32) (p_0 : 0 ≤ a.toInt) (p_1 : 1 ≤ b.toInt) (p_2 : b.toInt ≤ 281474976710656) : Met l yX11_inLeastTerms (wc yX11_inLeastTerms cX11_inLeastTerms 9 (some .long)) ({ frames := 1, cells := 0, slots := 0, locals := 26 } : Room) (pR (dC, dI) classes [] [] [.long a, .long b, .int d]) (vp_Sl (fun r => (True) ∧ (((d.toInt = 0 ∧ r.toInt = a.toInt / gN a.toInt b.toInt) ∨ (d.toInt ≠ 0 ∧ r.toInt = b.toInt / gN a.toInt b.toInt))))) 0 0 (fun _ => False) := by
  refine Met.ofW (cc := cX11_inLeastTerms) (maxL := 9) (ret := (some .long)) (by decide) rfl ?_
  intro p e s m args below meth c s₁ B hml hv
  obtain ⟨rfl, hP, hK⟩ := hv
  have hx := B.exec
  have hb := B.bytes
  have hr := B.returns
  have ht := tb_tl (atoms_spec (ws := wc yX11_inLeastTerms cX11_inLeastTerms 9 (some .long)) B.pre)
  have hown : s.vm.findClass RX11 = some m.cls := findClass_of_methodNamed B.named
  have hlocks := B.notSynchronized
  have hl := lv_entry [.long a, .long b, .int d] (n := 9) (Nat.le_of_ble_eq_true rfl)
  rw [lg_entry_eq]
  generalize (lg_sl [.long a, .long b, .int d] ++ List.replicate (9 - (lg_sl [.long a, .long b, .int d]).length) Slot.unset).toArray = ls at hl ⊢
  have hl : lv_has ls 9 [(0, .long a), (2, .long b), (4, .int d)] := hl
  refine lv_lload_n hx hb dX11_inLeastTerms_0 rfl (lv_at hl 0 rfl) ?_
  refine lv_lload_n hx hb dX11_inLeastTerms_1 rfl (lv_at hl 1 rfl) ?_
  refine vp_callSl (W.runS (As := [.long a, .long b]) (rest := []) ⟨hx, hb, hml, hown, ht⟩ (c_X11_greatestDivisor_g l dC dI a b (show 0 ≤ (a : Int64).toInt from by omega) (show 0 ≤ (b : Int64).toInt from by omega) (show (b : Int64).toInt ≤ 281474976710656 from by omega)) (kS 2 ht m_584 m_585 m_77 m_586 rfl rfl hd_X11_greatestDivisor_v ⟨Nat.le_of_ble_eq_true rfl, Nat.le_of_ble_eq_true rfl⟩) (sR noP (hK.sub (tys' := []) [] rfl)) rfl rfl hl.1 rfl (lv_room (Nat.le_of_ble_eq_true rfl)) dX11_inLeastTerms_2 ⟨Nat.le_of_ble_eq_true rfl, Nat.le_of_ble_eq_true rfl⟩) (fun r1 hr1 => ?_)
  obtain ⟨hr1, xr1_0⟩ := hr1
  have xr1_0 : (r1 : Int64).toInt = gN (a : Int64).toInt (b : Int64).toInt := xr1_0
  refine lv_lstore (lv' := [(5, .long r1), (0, .long a), (2, .long b), (4, .int d)]) hx hb dX11_inLeastTerms_5 hl (by decide) rfl (fun ls hl => ?_)
  refine lv_iload hx hb dX11_inLeastTerms_7 (lv_at hl 3 rfl) ?_
  refine lv_if_ne (tgt := 16) hx hb dX11_inLeastTerms_9 (by decide) (fun c2 => ?_) (fun c2 => ?_)
  · have fc2 := z_ne (rfl : (d).toInt = _) (by decide : (0 : Int32).toInt = 0) c2
    refine lv_lload_n hx hb dX11_inLeastTerms_16 rfl (lv_at hl 2 rfl) ?_
    refine lv_lstore (lv' := [(7, .long b), (5, .long r1), (0, .long a), (2, .long b), (4, .int d)]) hx hb dX11_inLeastTerms_17 hl (by decide) rfl (fun ls hl => ?_)
    refine lv_lload hx hb dX11_inLeastTerms_19 (lv_at hl 1 rfl) ?_
    refine lv_lconst (v := 0) hx hb dX11_inLeastTerms_21 (by decide) ?_
    refine W.lcmp hx hb dX11_inLeastTerms_22 ?_
    refine lv_topi (fun v3 ev3 => ?_)
    refine lv_if_ne (tgt := 31) hx hb dX11_inLeastTerms_23 (by decide) (fun c4 => ?_) (fun c4 => ?_)
    · have fc4 := zc_ne ev3 (rfl : (r1).toInt = _) (by decide : (0 : Int64).toInt = 0) c4
      refine lv_lload hx hb dX11_inLeastTerms_31 (lv_at hl 0 rfl) ?_
      refine lv_lload hx hb dX11_inLeastTerms_33 (lv_at hl 1 rfl) ?_
      have zw5 : (r1 : Int64).toInt ≠ 0 := by omega
      refine lv_ldiv hx hb dX11_inLeastTerms_35 (l_nz rfl zw5) ?_
      refine lv_topl (fun w5 ew5 => ?_)
      exact W.lret (v := w5) hx hb hr (fun t ht9 hW => ⟨w5, rfl, ⟨trivial, (show (((d).toInt = 0 ∧ (w5 : Int64).toInt = (a).toInt / gN (a).toInt (b).toInt) ∨ ((d).toInt ≠ 0 ∧ (w5 : Int64).toInt = (b).toInt / gN (a).toInt (b).toInt)) from (by have hp9 := gN_pos (x := a.toInt) (y := b.toInt) (by omega); have hm9 := l_divp ew5 (rfl : (b : Int64).toInt = _) xr1_0 (by omega) (by omega); exact Or.inr ⟨by omega, hm9⟩))⟩, ht9⟩) (fun q hq => by cases hq) dX11_inLeastTerms_36
    · have fc4 := zc_eq ev3 (rfl : (r1).toInt = _) (by decide : (0 : Int64).toInt = 0) c4
      refine lv_lload hx hb dX11_inLeastTerms_26 (lv_at hl 0 rfl) ?_
      refine lv_goto (tgt := 36) hx hb dX11_inLeastTerms_28 (by decide) ?_
      exact W.lret (v := b) hx hb hr (fun t ht9 hW => ⟨b, rfl, ⟨trivial, (show (((d).toInt = 0 ∧ (b : Int64).toInt = (a).toInt / gN (a).toInt (b).toInt) ∨ ((d).toInt ≠ 0 ∧ (b : Int64).toInt = (b).toInt / gN (a).toInt (b).toInt)) from (by have hp9 := gN_pos (x := a.toInt) (y := b.toInt) (by omega); exfalso; omega))⟩, ht9⟩) (fun q hq => by cases hq) dX11_inLeastTerms_36
  · have fc2 := z_eq (rfl : (d).toInt = _) (by decide : (0 : Int32).toInt = 0) c2
    refine lv_lload_n hx hb dX11_inLeastTerms_12 rfl (lv_at hl 1 rfl) ?_
    refine lv_goto (tgt := 17) hx hb dX11_inLeastTerms_13 (by decide) ?_
    refine lv_lstore (lv' := [(7, .long a), (5, .long r1), (0, .long a), (2, .long b), (4, .int d)]) hx hb dX11_inLeastTerms_17 hl (by decide) rfl (fun ls hl => ?_)
    refine lv_lload hx hb dX11_inLeastTerms_19 (lv_at hl 1 rfl) ?_
    refine lv_lconst (v := 0) hx hb dX11_inLeastTerms_21 (by decide) ?_
    refine W.lcmp hx hb dX11_inLeastTerms_22 ?_
    refine lv_topi (fun v6 ev6 => ?_)
    refine lv_if_ne (tgt := 31) hx hb dX11_inLeastTerms_23 (by decide) (fun c7 => ?_) (fun c7 => ?_)
    · have fc7 := zc_ne ev6 (rfl : (r1).toInt = _) (by decide : (0 : Int64).toInt = 0) c7
      refine lv_lload hx hb dX11_inLeastTerms_31 (lv_at hl 0 rfl) ?_
      refine lv_lload hx hb dX11_inLeastTerms_33 (lv_at hl 1 rfl) ?_
      have zw8 : (r1 : Int64).toInt ≠ 0 := by omega
      refine lv_ldiv hx hb dX11_inLeastTerms_35 (l_nz rfl zw8) ?_
      refine lv_topl (fun w8 ew8 => ?_)
      exact W.lret (v := w8) hx hb hr (fun t ht9 hW => ⟨w8, rfl, ⟨trivial, (show (((d).toInt = 0 ∧ (w8 : Int64).toInt = (a).toInt / gN (a).toInt (b).toInt) ∨ ((d).toInt ≠ 0 ∧ (w8 : Int64).toInt = (b).toInt / gN (a).toInt (b).toInt)) from (by have hp9 := gN_pos (x := a.toInt) (y := b.toInt) (by omega); have hm9 := l_divp ew8 (rfl : (a : Int64).toInt = _) xr1_0 (by omega) (by omega); exact Or.inl ⟨by omega, hm9⟩))⟩, ht9⟩) (fun q hq => by cases hq) dX11_inLeastTerms_36
    · have fc7 := zc_eq ev6 (rfl : (r1).toInt = _) (by decide : (0 : Int64).toInt = 0) c7
      refine lv_lload hx hb dX11_inLeastTerms_26 (lv_at hl 0 rfl) ?_
      refine lv_goto (tgt := 36) hx hb dX11_inLeastTerms_28 (by decide) ?_
      exact W.lret (v := a) hx hb hr (fun t ht9 hW => ⟨a, rfl, ⟨trivial, (show (((d).toInt = 0 ∧ (a : Int64).toInt = (a).toInt / gN (a).toInt (b).toInt) ∨ ((d).toInt ≠ 0 ∧ (a : Int64).toInt = (b).toInt / gN (a).toInt (b).toInt)) from (by have hp9 := gN_pos (x := a.toInt) (y := b.toInt) (by omega); exfalso; omega))⟩, ht9⟩) (fun q hq => by cases hq) dX11_inLeastTerms_36
set_option maxHeartbeats 4000000 in
set_option maxRecDepth 100000 in
/-- X12_plain -/
theorem c_X12_plain_g (l : Launch) (dC : Nat → ClassId) (dI : Nat → Nat → Nat) (a : Int64) : Met l yX12_plain (wc yX12_plain cX12_plain 2 (some .long)) ({ frames := 0, cells := 0, slots := 0, locals := 0 } : Room) (pR (dC, dI) classes [] [] [.long a]) (vp_Sl (fun r => (True) ∧ ((a.toInt < 0 ∨ r.toInt = a.toInt)))) 0 0 (fun _ => False) := by
  refine Met.ofW (cc := cX12_plain) (maxL := 2) (ret := (some .long)) (by decide) rfl ?_
  intro p e s m args below meth c s₁ B hml hv
  obtain ⟨rfl, hP, hK⟩ := hv
  have hx := B.exec
  have hb := B.bytes
  have hr := B.returns
  have ht := tb_tl (atoms_spec (ws := wc yX12_plain cX12_plain 2 (some .long)) B.pre)
  have hown : s.vm.findClass RX12 = some m.cls := findClass_of_methodNamed B.named
  have hlocks := B.notSynchronized
  have hl := lv_entry [.long a] (n := 2) (Nat.le_of_ble_eq_true rfl)
  rw [lg_entry_eq]
  generalize (lg_sl [.long a] ++ List.replicate (2 - (lg_sl [.long a]).length) Slot.unset).toArray = ls at hl ⊢
  have hl : lv_has ls 2 [(0, .long a)] := hl
  refine lv_lload_n hx hb dX12_plain_0 rfl (lv_at hl 0 rfl) ?_
  refine lv_lconst (v := 0) hx hb dX12_plain_1 (by decide) ?_
  refine W.lcmp hx hb dX12_plain_2 ?_
  refine lv_topi (fun v1 ev1 => ?_)
  refine lv_if_ge (tgt := 12) hx hb dX12_plain_3 (by decide) (fun c2 => ?_) (fun c2 => ?_)
  · have fc2 := zc_nlt ev1 (rfl : (a).toInt = _) (by decide : (0 : Int64).toInt = 0) (Int32.not_lt.mpr c2)
    refine lv_lload_n hx hb dX12_plain_12 rfl (lv_at hl 0 rfl) ?_
    exact W.lret (v := a) hx hb hr (fun t ht9 hW => ⟨a, rfl, ⟨trivial, (show ((a).toInt < 0 ∨ (a : Int64).toInt = (a).toInt) from by omega)⟩, ht9⟩) (fun q hq => by cases hq) dX12_plain_13
  · have fc2 := zc_lt ev1 (rfl : (a).toInt = _) (by decide : (0 : Int64).toInt = 0) (Int32.not_le.mp c2)
    refine lv_lconst (v := 0) hx hb dX12_plain_6 (by decide) ?_
    refine lv_lload_n hx hb dX12_plain_7 rfl (lv_at hl 0 rfl) ?_
    refine lv_lsub hx hb dX12_plain_8 ?_
    refine lv_topl (fun w3 ew3 => ?_)
    refine lv_goto (tgt := 13) hx hb dX12_plain_9 (by decide) ?_
    exact W.lret (v := w3) hx hb hr (fun t ht9 hW => ⟨w3, rfl, ⟨trivial, (show ((a).toInt < 0 ∨ (w3 : Int64).toInt = (a).toInt) from by omega)⟩, ht9⟩) (fun q hq => by cases hq) dX12_plain_13
set_option maxHeartbeats 4000000 in
set_option maxRecDepth 100000 in
/-- X12_gcd -/
theorem c_X12_gcd_g (l : Launch) (dC : Nat → ClassId) (dI : Nat → Nat → Nat) (a : Int64) (b : Int64) (p_0 : 0 ≤ a.toInt) (p_1 : 0 ≤ b.toInt) : Met l yX12_gcd (wc yX12_gcd cX12_gcd 10 (some .long)) ({ frames := 1, cells := 0, slots := 0, locals := 21 } : Room) (pR (dC, dI) classes [] [] [.long a, .long b]) (vp_Sl (fun r => (True) ∧ (r.toInt = gN a.toInt b.toInt))) 0 0 (fun _ => False) := by
  refine Met.ofW (cc := cX12_gcd) (maxL := 10) (ret := (some .long)) (by decide) rfl ?_
  intro p e s m args below meth c s₁ B hml hv
  obtain ⟨rfl, hP, hK⟩ := hv
  have hx := B.exec
  have hb := B.bytes
  have hr := B.returns
  have ht := tb_tl (atoms_spec (ws := wc yX12_gcd cX12_gcd 10 (some .long)) B.pre)
  have hown : s.vm.findClass RX12 = some m.cls := findClass_of_methodNamed B.named
  have hlocks := B.notSynchronized
  have hl := lv_entry [.long a, .long b] (n := 10) (Nat.le_of_ble_eq_true rfl)
  rw [lg_entry_eq]
  generalize (lg_sl [.long a, .long b] ++ List.replicate (10 - (lg_sl [.long a, .long b]).length) Slot.unset).toArray = ls at hl ⊢
  have hl : lv_has ls 10 [(0, .long a), (2, .long b)] := hl
  refine lv_lload_n hx hb dX12_gcd_0 rfl (lv_at hl 0 rfl) ?_
  refine vp_callSl (W.runS (As := [.long a]) (rest := []) ⟨hx, hb, hml, hown, ht⟩ (c_X12_plain_g l dC dI a) (kS 1 ht m_1445 m_1446 m_89 m_1447 rfl rfl hd_X12_plain_v ⟨Nat.le_of_ble_eq_true rfl, Nat.le_of_ble_eq_true rfl⟩) (sR noP (hK.sub (tys' := []) [] rfl)) rfl rfl hl.1 rfl (lv_room (Nat.le_of_ble_eq_true rfl)) dX12_gcd_1 ⟨Nat.le_of_ble_eq_true rfl, Nat.le_of_ble_eq_true rfl⟩) (fun r1 hr1 => ?_)
  obtain ⟨hr1, xr1_0⟩ := hr1
  have xr1_0 : ((a : Int64).toInt < 0 ∨ (r1 : Int64).toInt = (a : Int64).toInt) := xr1_0
  refine lv_lstore (lv' := [(4, .long r1), (0, .long a), (2, .long b)]) hx hb dX12_gcd_4 hl (by decide) rfl (fun ls hl => ?_)
  refine lv_lload_n hx hb dX12_gcd_6 rfl (lv_at hl 2 rfl) ?_
  refine vp_callSl (W.runS (As := [.long b]) (rest := []) ⟨hx, hb, hml, hown, ht⟩ (c_X12_plain_g l dC dI b) (kS 1 ht m_1445 m_1446 m_89 m_1447 rfl rfl hd_X12_plain_v ⟨Nat.le_of_ble_eq_true rfl, Nat.le_of_ble_eq_true rfl⟩) (sR noP (hK.sub (tys' := []) [] rfl)) rfl rfl hl.1 rfl (lv_room (Nat.le_of_ble_eq_true rfl)) dX12_gcd_7 ⟨Nat.le_of_ble_eq_true rfl, Nat.le_of_ble_eq_true rfl⟩) (fun r2 hr2 => ?_)
  obtain ⟨hr2, xr2_0⟩ := hr2
  have xr2_0 : ((b : Int64).toInt < 0 ∨ (r2 : Int64).toInt = (b : Int64).toInt) := xr2_0
  refine lv_lstore (lv' := [(6, .long r2), (4, .long r1), (0, .long a), (2, .long b)]) hx hb dX12_gcd_10 hl (by decide) rfl (fun ls hl => ?_)
  have lp8 : ∀ (nn8 : Nat) (x7_6 : Int64) (x7_4 : Int64), (gN (x7_4 : Int64).toInt (x7_6 : Int64).toInt = gN (a).toInt (b).toInt) → 0 ≤ (x7_4 : Int64).toInt → (0 ≤ (x7_6 : Int64).toInt) → (((x7_6 : Int64).toInt).natAbs : Int) < (nn8 : Int) → ∀ (ls : Array Slot), lv_has ls 10 [(6, .long x7_6), (4, .long x7_4), (0, .long a), (2, .long b)] → W p l e ({ frames := 1, cells := 0, slots := 0, locals := 21 } : Room) s m ([.long a, .long b] : List Value).toArray below meth c s.heap [] 0 0 (MQ below (vp_Sl (fun r => (True) ∧ (r.toInt = gN a.toInt b.toInt))) ([.long a, .long b] : List Value).toArray s 0 0 (fun _ => False)) (F0 m 12 ls []) := by
    intro nn8
    induction nn8 with
    | zero => intro x7_6 x7_4 hq8_0 hq8_1 hq8_2 hm8; exfalso; omega
    | succ nn8 ih8 =>
      intro x7_6 x7_4 hq8_0 hq8_1 hq8_2 hm8 ls hl
      refine lv_lload hx hb dX12_gcd_12 (lv_at hl 0 rfl) ?_
      refine lv_lconst (v := 0) hx hb dX12_gcd_14 (by decide) ?_
      refine W.lcmp hx hb dX12_gcd_15 ?_
      refine lv_topi (fun v9 ev9 => ?_)
      refine lv_if_eq (tgt := 37) hx hb dX12_gcd_16 (by decide) (fun c10 => ?_) (fun c10 => ?_)
      · have fc10 := zc_eq ev9 (rfl : (x7_6).toInt = _) (by decide : (0 : Int64).toInt = 0) c10
        refine lv_lload hx hb dX12_gcd_37 (lv_at hl 1 rfl) ?_
        exact W.lret (v := x7_4) hx hb hr (fun t ht9 hW => ⟨x7_4, rfl, ⟨trivial, (show (x7_4 : Int64).toInt = gN (a).toInt (b).toInt from (by have hq9 := hq8_0; have hz9 : (x7_6 : Int64).toInt = 0 := (by omega); rw [hz9, gN_0 (by omega)] at hq9; exact hq9))⟩, ht9⟩) (fun q hq => by cases hq) dX12_gcd_39
      · have fc10 := zc_ne ev9 (rfl : (x7_6).toInt = _) (by decide : (0 : Int64).toInt = 0) c10
        refine lv_lload hx hb dX12_gcd_19 (lv_at hl 1 rfl) ?_
        refine lv_lload hx hb dX12_gcd_21 (lv_at hl 0 rfl) ?_
        have zw11 : (x7_6 : Int64).toInt ≠ 0 := by omega
        refine lv_lrem hx hb dX12_gcd_23 (l_nz rfl zw11) ?_
        refine lv_topl (fun w11 ew11 => ?_)
        have tw11 := l_rem ew11 (rfl : (x7_4 : Int64).toInt = _) (rfl : (x7_6 : Int64).toInt = _) zw11
        refine lv_lstore (lv' := [(8, .long w11), (6, .long x7_6), (4, .long x7_4), (0, .long a), (2, .long b)]) hx hb dX12_gcd_24 hl (by decide) rfl (fun ls hl => ?_)
        refine lv_lload hx hb dX12_gcd_26 (lv_at hl 1 rfl) ?_
        refine lv_lstore (lv' := [(4, .long x7_6), (8, .long w11), (6, .long x7_6), (0, .long a), (2, .long b)]) hx hb dX12_gcd_28 hl (by decide) rfl (fun ls hl => ?_)
        refine lv_lload hx hb dX12_gcd_30 (lv_at hl 1 rfl) ?_
        refine lv_lstore (lv' := [(6, .long w11), (4, .long x7_6), (8, .long w11), (0, .long a), (2, .long b)]) hx hb dX12_gcd_32 hl (by decide) rfl (fun ls hl => ?_)
        refine lv_goto (tgt := 12) hx hb dX12_gcd_34 (by decide) ?_
        exact ih8 w11 x7_6 (show gN (x7_6 : Int64).toInt (w11 : Int64).toInt = gN (a).toInt (b).toInt from (by have hm9 := l_remp ew11 (rfl : (x7_4 : Int64).toInt = _) (rfl : (x7_6 : Int64).toInt = _) (by omega) (by omega); rw [hm9, gN_step (by omega) (by omega)]; exact hq8_0)) (show 0 ≤ (x7_6 : Int64).toInt from by omega) (show 0 ≤ (w11 : Int64).toInt from (by have hm9 := l_remp ew11 (rfl : (x7_4 : Int64).toInt = _) (rfl : (x7_6 : Int64).toInt = _) (by omega) (by omega); rw [hm9]; exact Int.emod_nonneg _ (by omega))) (by omega) ls (lv_sub hl [0, 1, 3, 4] rfl)
  exact lp8 ((r2 : Int64).toInt.natAbs + 1) r2 r1 (show gN (r1 : Int64).toInt (r2 : Int64).toInt = gN (a).toInt (b).toInt from (by have h1 : (r1 : Int64).toInt = a.toInt := (by omega); have h2 : (r2 : Int64).toInt = b.toInt := (by omega); rw [h1, h2])) (show 0 ≤ (r1 : Int64).toInt from by omega) (show 0 ≤ (r2 : Int64).toInt from by omega) (show (((r2 : Int64).toInt).natAbs : Int) < _ from by omega) ls (lv_sub hl [0, 1, 2, 3] rfl)
/-! ===== la0 ===== -/

/-- a fraction of whole numbers in least terms is one alone -/
theorem lt_un {v w c d : Nat} (hv : 0 < v) (h : c * w = v * d) (hc : Nat.Coprime c d) : v / Nat.gcd v w = c ∧ w / Nat.gcd v w = d := by
  have hg : 0 < Nat.gcd v w := Nat.gcd_pos_of_pos_left _ hv
  have cp := Nat.coprime_div_gcd_div_gcd hg
  have e1 := Nat.div_mul_cancel (Nat.gcd_dvd_left v w)
  have e2 := Nat.div_mul_cancel (Nat.gcd_dvd_right v w)
  generalize v / Nat.gcd v w = a at cp e1 ⊢
  generalize w / Nat.gcd v w = b at cp e2 ⊢
  generalize Nat.gcd v w = g at hg e1 e2
  subst e1
  subst e2
  have h2 : c * b = a * d := by
    apply Nat.eq_of_mul_eq_mul_right hg
    rw [Nat.mul_assoc c b g, h]
    exact Nat.mul_right_comm a g d
  have a1 : a ∣ c := Nat.Coprime.dvd_of_dvd_mul_right cp (by rw [h2]; exact Nat.dvd_mul_right a d)
  have a2 : c ∣ a := Nat.Coprime.dvd_of_dvd_mul_right hc (by rw [← h2]; exact Nat.dvd_mul_right c b)
  have e : c = a := Nat.dvd_antisymm a2 a1
  have ha : 0 < a := Nat.pos_of_ne_zero (fun z => by rw [z, Nat.zero_mul] at hv; exact absurd hv (Nat.lt_irrefl 0))
  subst e
  exact ⟨rfl, Nat.eq_of_mul_eq_mul_left ha h2⟩
theorem gdv {a b x z : Nat} (ha : 0 < a) (hb : 0 < b) (hx : x = a / Nat.gcd a b) (hz : z = b / Nat.gcd a b) : 0 < x ∧ 0 < z ∧ x * Nat.gcd a b = a ∧ z * Nat.gcd a b = b ∧ Nat.Coprime x z := by
  have hg : 0 < Nat.gcd a b := Nat.gcd_pos_of_pos_left _ ha
  subst hx
  subst hz
  exact ⟨Nat.div_gcd_pos_of_pos_left _ ha, Nat.div_gcd_pos_of_pos_right _ hb, Nat.div_mul_cancel (Nat.gcd_dvd_left a b), Nat.div_mul_cancel (Nat.gcd_dvd_right a b), Nat.coprime_div_gcd_div_gcd hg⟩
/-- four times shortened: nothing is left to shorten -/
theorem red4 {up dn y u d y1 d1 u1 t y2 t1 : Nat} (h1 : 0 < up) (h2 : 0 < dn) (h3 : 0 < y) (e1 : u = up / Nat.gcd up dn) (e2 : d = dn / Nat.gcd up dn) (e3 : y1 = y / Nat.gcd y d) (e4 : d1 = d / Nat.gcd y d) (e5 : u1 = u / Nat.gcd u 1000) (e6 : t = 1000 / Nat.gcd u 1000) (e7 : y2 = y1 / Nat.gcd y1 t) (e8 : t1 = t / Nat.gcd y1 t) : 0 < u1 ∧ 0 < y2 ∧ 0 < d1 ∧ 0 < t1 ∧ u1 * y2 * (dn * 1000) = up * y * (d1 * t1) ∧ Nat.Coprime (u1 * y2) (d1 * t1) := by
  obtain ⟨p1, p2, q1, q2, c1⟩ := gdv h1 h2 e1 e2
  obtain ⟨p3, p4, q3, q4, c2⟩ := gdv h3 p2 e3 e4
  obtain ⟨p5, p6, q5, q6, c3⟩ := gdv p1 (by decide : 0 < 1000) e5 e6
  obtain ⟨p7, p8, q7, q8, c4⟩ := gdv p3 p6 e7 e8
  clear e1 e2 e3 e4 e5 e6 e7 e8
  have d5 : u1 ∣ u := Exists.intro _ q5.symm
  have d4 : d1 ∣ d := Exists.intro _ q4.symm
  have d8 : t1 ∣ t := Exists.intro _ q8.symm
  have d7 : y2 ∣ y1 := Exists.intro _ q7.symm
  have c5 : Nat.Coprime u1 d1 := Nat.Coprime.coprime_dvd_right d4 (Nat.Coprime.coprime_dvd_left d5 c1)
  have c6 : Nat.Coprime u1 t1 := Nat.Coprime.coprime_dvd_right d8 c3
  have c7 : Nat.Coprime y2 d1 := Nat.Coprime.coprime_dvd_left d7 c2
  refine ⟨p5, p7, p4, p8, ?_, Nat.Coprime.mul_left (Nat.Coprime.mul_right c5 c6) (Nat.Coprime.mul_right c7 c4)⟩
  clear c1 c2 c3 c4 c5 c6 c7 d4 d5 d7 d8
  generalize Nat.gcd up dn = g at q1 q2
  generalize Nat.gcd y d = k at q3 q4
  generalize Nat.gcd u 1000 = n at q5 q6
  generalize Nat.gcd y1 t = m at q7 q8
  have k1 : up = u1 * n * g := by rw [q5, q1]
  have k2 : dn = d1 * k * g := by rw [q4, q2]
  have k3 : y = y2 * m * k := by rw [q7, q3]
  have k4 : 1000 = t1 * m * n := by rw [q8, q6]
  rw [k4, k1, k2, k3]
  ac_rfl
/-- the reference's lawful weight -/
def LwY (up dn y LU LD : Int) : Prop := 0 < LU ∧ 0 < LD ∧ LU * (dn * 1000) = up * y * LD ∧ gN LU LD = 1
theorem gN_c (a b : Nat) : gN (a : Int) (b : Int) = ((Nat.gcd a b : Nat) : Int) := rfl
theorem gN_k (a b : Nat) : (a : Int) / gN (a : Int) (b : Int) = ((a / Nat.gcd a b : Nat) : Int) := rfl
theorem gN_k2 (a b : Nat) : (b : Int) / gN (a : Int) (b : Int) = ((b / Nat.gcd a b : Nat) : Int) := rfl
theorem red4i {up dn y u d y1 d1 u1 t y2 t1 : Int} (h1 : 0 < up) (h2 : 0 < dn) (h3 : 0 < y) (e1 : u = up / gN up dn) (e2 : d = dn / gN up dn) (e3 : y1 = y / gN y d) (e4 : d1 = d / gN y d) (e5 : u1 = u / gN u 1000) (e6 : t = 1000 / gN u 1000) (e7 : y2 = y1 / gN y1 t) (e8 : t1 = t / gN y1 t) : LwY up dn y (u1 * y2) (d1 * t1) := by
  obtain ⟨a, rfl⟩ := Int.eq_ofNat_of_zero_le (Int.le_of_lt h1)
  obtain ⟨b, rfl⟩ := Int.eq_ofNat_of_zero_le (Int.le_of_lt h2)
  obtain ⟨c, rfl⟩ := Int.eq_ofNat_of_zero_le (Int.le_of_lt h3)
  rw [gN_k] at e1
  rw [gN_k2] at e2
  subst e1
  subst e2
  rw [gN_k] at e3
  rw [gN_k2] at e4
  have k : (1000 : Int) = ((1000 : Nat) : Int) := rfl
  rw [k, gN_k] at e5
  rw [k, gN_k2] at e6
  subst e3
  subst e4
  subst e5
  subst e6
  rw [gN_k] at e7
  rw [gN_k2] at e8
  subst e7
  subst e8
  obtain ⟨r1, r2, r3, r4, r5, r6⟩ := red4 (by omega : 0 < a) (by omega : 0 < b) (by omega : 0 < c) rfl rfl rfl rfl rfl rfl rfl rfl
  refine ⟨Int.mul_pos (Int.natCast_pos.mpr r1) (Int.natCast_pos.mpr r2), Int.mul_pos (Int.natCast_pos.mpr r3) (Int.natCast_pos.mpr r4), ?_, ?_⟩
  · have z := congrArg (fun q : Nat => (q : Int)) r5
    simp only [Int.natCast_mul] at z
    exact z
  · rw [← Int.natCast_mul, ← Int.natCast_mul, gN_c, Nat.Coprime.gcd_eq_one r6]
    rfl
theorem lt_uni {V W c d : Int} (hV : 0 < V) (hW : 0 < W) (hc : 0 < c) (hd : 0 < d) (h : c * W = V * d) (hg : gN c d = 1) : V / gN V W = c ∧ W / gN V W = d := by
  obtain ⟨v, rfl⟩ := Int.eq_ofNat_of_zero_le (Int.le_of_lt hV)
  obtain ⟨w, rfl⟩ := Int.eq_ofNat_of_zero_le (Int.le_of_lt hW)
  obtain ⟨a, rfl⟩ := Int.eq_ofNat_of_zero_le (Int.le_of_lt hc)
  obtain ⟨b, rfl⟩ := Int.eq_ofNat_of_zero_le (Int.le_of_lt hd)
  rw [← Int.natCast_mul, ← Int.natCast_mul] at h
  rw [gN_c] at hg
  obtain ⟨x, y⟩ := lt_un (v := v) (w := w) (c := a) (d := b) (by omega) (Int.ofNat_inj.mp h) (show Nat.gcd a b = 1 from by omega)
  exact ⟨by rw [gN_k, x], by rw [gN_k2, y]⟩
theorem fl_eq {V W c d : Int} (hW : 0 < W) (hd : 0 < d) (h : c * W = V * d) : V / W = c / d := by
  rw [← Int.mul_ediv_mul_of_pos_left V W hd, ← h, Int.mul_comm W d, Int.mul_ediv_mul_of_pos_left c d hW]
/-- both sides' lawful weights -/
theorem lw_x {U L up dn y LU LD : Int} (hdn : 0 < dn) (h : U * dn = up * L) (k : LwY up dn y LU LD) : LU * (L * 1000) = U * y * LD := by
  have k3 := k.2.2.1
  apply Int.eq_of_mul_eq_mul_right (show dn ≠ 0 from by omega)
  have e1 : LU * (L * 1000) * dn = LU * (dn * 1000) * L := by ac_rfl
  have e2 : U * y * LD * dn = U * dn * (y * LD) := by ac_rfl
  have e3 : up * y * LD * L = up * L * (y * LD) := by ac_rfl
  rw [e1, e2, k3, h, e3]
theorem lw_un {U L up dn y LU LD : Int} (hU : 0 < U) (hL : 0 < L) (hdn : 0 < dn) (hy : 0 < y) (h : U * dn = up * L) (k : LwY up dn y LU LD) : U * y / gN (U * y) (L * 1000) = LU ∧ L * 1000 / gN (U * y) (L * 1000) = LD ∧ U * y / (L * 1000) = LU / LD := by
  have q := lw_x hdn h k
  have v1 : 0 < U * y := Int.mul_pos hU hy
  have v2 : 0 < L * 1000 := by omega
  have z := lt_uni v1 v2 k.1 k.2.1 q k.2.2.2
  exact ⟨z.1, z.2, fl_eq v2 k.2.1 q⟩
/-! ===== la1 ===== -/

/-- the state, and what it is settled by: look 0 alone, two looks, three -/
def WpR (F : Int → Int → Prop) (c0 c1 c2 : Int) (df : Int32 → Prop) (on : Prop) (tw th : Int → Prop) (r : Int) : Prop := ∃ nd : Int, F 1 nd ∧ ((c0 < nd ∧ r = 0) ∨ (nd ≤ c0 ∧ ∃ lk : Int, F 3 lk ∧ ((lk = 1 ∧ r = 1 ∧ on) ∨ (lk ≠ 1 ∧ ((c1 < nd ∧ r = 0) ∨ (nd ≤ c1 ∧ ∃ pt : Int32, F 2 pt.toInt ∧ ∃ wy : Int, F 5 wy ∧ ((¬ df pt ∧ r = 1 ∧ tw wy) ∨ (df pt ∧ ((c2 < nd ∧ r = 2) ∨ (nd ≤ c2 ∧ r = 1 ∧ th wy))))))))))
theorem WpR_un {F G : Int → Int → Prop} {c0 c1 c2 : Int} {df df' : Int32 → Prop} {on on' : Prop} {tw tw' th th' : Int → Prop} {r s : Int} {Z : Prop} (hF : ∀ a v w : Int, 0 ≤ a → a ≤ 5 → F a v → G a w → v = w) (hdf : ∀ q : Int32, df q ↔ df' q) (hn : ∀ v : Int, F 1 v → 1 ≤ v)
    (z1 : 1 ≤ c0 → on → on' → Z) (z2 : ∀ wy : Int, F 5 wy → 1 ≤ c0 → 1 ≤ c1 → tw wy → tw' wy → Z) (z3 : ∀ (wy : Int) (pt : Int32), F 5 wy → F 2 pt.toInt → df pt → 1 ≤ c0 → 1 ≤ c1 → 1 ≤ c2 → th wy → th' wy → Z) (h : WpR F c0 c1 c2 df on tw th r) (k : WpR G c0 c1 c2 df' on' tw' th' s) : r = s ∧ (r = 1 → Z) := by
  obtain ⟨nd, h1, h2⟩ := h
  obtain ⟨nd', k1, k2⟩ := k
  have e1 := hF 1 nd nd' (by decide) (by decide) h1 k1
  subst e1
  have hn1 := hn _ h1
  rcases h2 with ⟨a1, a2⟩ | ⟨a1, lk, h3, h4⟩
  · rcases k2 with ⟨b1, b2⟩ | ⟨b1, -⟩
    · exact ⟨by omega, fun q => by omega⟩
    · omega
  · rcases k2 with ⟨b1, b2⟩ | ⟨b1, lk', k3, k4⟩
    · omega
    · have e2 := hF 3 lk lk' (by decide) (by decide) h3 k3
      subst e2
      rcases h4 with ⟨a3, a4, a9⟩ | ⟨a3, h5⟩
      · rcases k4 with ⟨b3, b4, b9⟩ | ⟨b3, -⟩
        · exact ⟨by omega, fun _ => z1 (by omega) a9 b9⟩
        · exact absurd a3 b3
      · rcases k4 with ⟨b3, b4, b9⟩ | ⟨b3, k5⟩
        · exact absurd b3 a3
        · rcases h5 with ⟨a5, a6⟩ | ⟨a5, pt, h6, wy, h7, h8⟩
          · rcases k5 with ⟨b5, b6⟩ | ⟨b5, -⟩
            · exact ⟨by omega, fun q => by omega⟩
            · omega
          · rcases k5 with ⟨b5, b6⟩ | ⟨b5, pt', k6, wy', k7, k8⟩
            · omega
            · have e3 := Int32.toInt_inj.mp (hF 2 pt.toInt pt'.toInt (by decide) (by decide) h6 k6)
              subst e3
              have e4 := hF 5 wy wy' (by decide) (by decide) h7 k7
              subst e4
              rcases h8 with ⟨a7, a8, a9⟩ | ⟨a7, h9⟩
              · rcases k8 with ⟨b7, b8, b9⟩ | ⟨b7, -⟩
                · exact ⟨by omega, fun _ => z2 _ h7 (by omega) (by omega) a9 b9⟩
                · exact absurd ((hdf _).mpr b7) a7
              · rcases k8 with ⟨b7, -, -⟩ | ⟨b7, k9⟩
                · exact absurd ((hdf _).mp a7) b7
                · rcases h9 with ⟨a8, a9⟩ | ⟨a8, a9, a10⟩
                  · rcases k9 with ⟨b8, b9⟩ | ⟨b8, b9, b10⟩
                    · exact ⟨by omega, fun q => by omega⟩
                    · omega
                  · rcases k9 with ⟨b8, b9⟩ | ⟨b8, b9, b10⟩
                    · omega
                    · exact ⟨by omega, fun _ => z3 _ _ h7 h6 a7 (by omega) (by omega) (by omega) a10 b10⟩
theorem WpR_el {F : Int → Int → Prop} {c0 c1 c2 : Int} {df : Int32 → Prop} {on : Prop} {tw th : Int → Prop} {r : Int} {Z : Prop} (hn : ∀ v : Int, F 1 v → 1 ≤ v) (z1 : 1 ≤ c0 → on → Z) (z2 : ∀ wy : Int, 1 ≤ c0 → 1 ≤ c1 → tw wy → Z) (z3 : ∀ wy : Int, 1 ≤ c0 → 1 ≤ c1 → 1 ≤ c2 → th wy → Z) (h : WpR F c0 c1 c2 df on tw th r) (hr : r = 1) : Z := by
  obtain ⟨nd, h1, h2⟩ := h
  have hn1 := hn _ h1
  rcases h2 with ⟨a1, a2⟩ | ⟨a1, lk, h3, h4⟩
  · omega
  · rcases h4 with ⟨a3, a4, a9⟩ | ⟨a3, h5⟩
    · exact z1 (by omega) a9
    · rcases h5 with ⟨a5, a6⟩ | ⟨a5, pt, h6, wy, h7, h8⟩
      · omega
      · rcases h8 with ⟨a7, a8, a9⟩ | ⟨a7, h9⟩
        · exact z2 wy (by omega) (by omega) a9
        · rcases h9 with ⟨a8, a9⟩ | ⟨a8, a9, a10⟩
          · omega
          · exact z3 wy (by omega) (by omega) (by omega) a10
/-- of two looks that with the lesser ratio; of three that in the middle; the two nearest -/
def lsN (D R : Nat → Int64) (p q : Nat) : Nat := if (D q * R p).toInt < (D p * R q).toInt then q else p
theorem lsN_y {D R : Nat → Int64} {p q : Nat} (h : (D q * R p).toInt < (D p * R q).toInt) : lsN D R p q = q := if_pos h
theorem lsN_n {D R : Nat → Int64} {p q : Nat} (h : ¬ (D q * R p).toInt < (D p * R q).toInt) : lsN D R p q = p := if_neg h
def mdN (D R : Nat → Int64) : Nat := if lsN D R (lsN D R 0 1) 2 = 2 then lsN D R 0 1 else if lsN D R (1 - lsN D R 0 1) 2 = 2 then 2 else 1 - lsN D R 0 1
def nrR (a b c : Int64) (i j : Int) : Prop := ((absL (a - b)).toInt ≤ (absL (a - c)).toInt ∧ (absL (a - b)).toInt ≤ (absL (b - c)).toInt ∧ i = 0 ∧ j = 1) ∨ (¬ ((absL (a - b)).toInt ≤ (absL (a - c)).toInt ∧ (absL (a - b)).toInt ≤ (absL (b - c)).toInt) ∧ (absL (a - c)).toInt ≤ (absL (b - c)).toInt ∧ i = 0 ∧ j = 2) ∨ (¬ ((absL (a - b)).toInt ≤ (absL (a - c)).toInt ∧ (absL (a - b)).toInt ≤ (absL (b - c)).toInt) ∧ ¬ (absL (a - c)).toInt ≤ (absL (b - c)).toInt ∧ i = 1 ∧ j = 2)
def twX (D R : Nat → Int64) (i j w : Int) : Prop := (w ≠ 1 ∧ i = 0 ∧ j = 1) ∨ (w = 1 ∧ i = ((lsN D R 0 1 : Nat) : Int) ∧ j = i)
def thX (D R : Nat → Int64) (i j w : Int) : Prop := (w = 1 ∧ i = ((lsN D R (lsN D R 0 1) 2 : Nat) : Int) ∧ j = i) ∨ (w = 2 ∧ i = ((mdN D R : Nat) : Int) ∧ j = i) ∨ (w ≠ 1 ∧ w ≠ 2 ∧ nrR (D 0 * R 1 * R 2) (D 1 * R 2 * R 0) (D 2 * R 0 * R 1) i j)
/-- the reference: what it takes, and its result -/
def rsY (D R : Nat → Int64) (i j up dn : Int) : Prop := (i = j ∧ up = (D i.toNat).toInt ∧ dn = (R i.toNat).toInt) ∨ (i ≠ j ∧ up = (D i.toNat * R j.toNat + D j.toNat * R i.toNat).toInt ∧ dn = (2 * R i.toNat * R j.toNat).toInt)
def l3R (a b c i : Int) : Prop := (a ≤ b ∧ a ≤ c ∧ i = 0) ∨ (¬ (a ≤ b ∧ a ≤ c) ∧ b ≤ c ∧ i = 1) ∨ (¬ (a ≤ b ∧ a ≤ c) ∧ ¬ b ≤ c ∧ i = 2)
def m3R (a b c i : Int) : Prop := ((a ≤ b ↔ b ≤ c) ∧ i = 1) ∨ (¬ (a ≤ b ↔ b ≤ c) ∧ (b ≤ a ↔ a ≤ c) ∧ i = 0) ∨ (¬ (a ≤ b ↔ b ≤ c) ∧ ¬ (b ≤ a ↔ a ≤ c) ∧ i = 2)
def tpY (a b c : Int64) (i j w : Int) : Prop := (w = 0 ∧ nrR a b c i j) ∨ (w = 1 ∧ l3R a.toInt b.toInt c.toInt i ∧ j = i) ∨ (w ≠ 0 ∧ w ≠ 1 ∧ m3R a.toInt b.toInt c.toInt i ∧ j = i)
def twY (D R : Nat → Int64) (up dn w : Int) : Prop := ∃ i j : Int, twX D R i j w ∧ rsY D R i j up dn
def thY (D R : Nat → Int64) (up dn w : Int) : Prop := ∃ i j : Int, tpY (D 0 * R 1 * R 2) (D 1 * R 0 * R 2) (D 2 * R 0 * R 1) i j w ∧ rsY D R i j up dn
/-- the class's fraction -/
def upI (D R : Nat → Int64) (i j : Int) : Int := (D i.toNat).toInt * (R j.toNat).toInt + (D j.toNat).toInt * (R i.toNat).toInt
def loI (R : Nat → Int64) (i j : Int) : Int := 2 * (R i.toNat).toInt * (R j.toNat).toInt
/-- a look's sums, where its number of skeins is c -/
def bdL (c : Int) (d r : Int64) : Prop := 0 ≤ c ∧ 50 * c ≤ d.toInt ∧ d.toInt ≤ 119988 ∧ 100 * c ≤ r.toInt ∧ r.toInt ≤ 119988
theorem bm2 {x y : Int} (h1 : 0 ≤ x) (h2 : x ≤ 119988) (h3 : 0 ≤ y) (h4 : y ≤ 119988) : 0 ≤ x * y ∧ x * y ≤ 14397120144 := mul_b h1 h2 h3 h4 (by decide) (by decide)
theorem bm3 {x y : Int} (h1 : 0 ≤ x) (h2 : x ≤ 14397120144) (h3 : 0 ≤ y) (h4 : y ≤ 119988) : 0 ≤ x * y ∧ x * y ≤ 1727481651838272 := by
  have q := mul_b h1 h2 h3 h4 (by decide) (by decide)
  exact ⟨by omega, by omega⟩
theorem lm2 {a b : Int64} (h1 : 0 ≤ a.toInt) (h2 : a.toInt ≤ 119988) (h3 : 0 ≤ b.toInt) (h4 : b.toInt ≤ 119988) : (a * b).toInt = a.toInt * b.toInt := by
  have q := bm2 h1 h2 h3 h4
  exact l_mul rfl rfl rfl (by omega) (by omega)
theorem lm3 {a b c : Int64} (h1 : 0 ≤ a.toInt) (h2 : a.toInt ≤ 119988) (h3 : 0 ≤ b.toInt) (h4 : b.toInt ≤ 119988) (h5 : 0 ≤ c.toInt) (h6 : c.toInt ≤ 119988) : (a * b * c).toInt = a.toInt * b.toInt * c.toInt := by
  have q := bm2 h1 h2 h3 h4
  have q2 := bm3 q.1 q.2 h5 h6
  exact l_mul rfl (lm2 h1 h2 h3 h4) rfl (by omega) (by omega)
/-- which of two looks is the lesser, by the numbers of three -/
theorem c3_lt {x y z : Int} (hz : 0 < z) : x < y ↔ x * z < y * z := ⟨fun h => Int.mul_lt_mul_of_pos_right h hz, fun h => Int.lt_of_mul_lt_mul_right h (Int.le_of_lt hz)⟩
theorem ls3 {D R : Nat → Int64} {c0 c1 c2 : Int} (h0 : bdL c0 (D 0) (R 0)) (h1 : bdL c1 (D 1) (R 1)) (h2 : bdL c2 (D 2) (R 2)) (p0 : 1 ≤ c0) (p1 : 1 ≤ c1) (p2 : 1 ≤ c2) :
    ((D 1 * R 0).toInt < (D 0 * R 1).toInt ↔ (D 1 * R 0 * R 2).toInt < (D 0 * R 1 * R 2).toInt) ∧ ((D 2 * R 0).toInt < (D 0 * R 2).toInt ↔ (D 2 * R 0 * R 1).toInt < (D 0 * R 1 * R 2).toInt) ∧ ((D 2 * R 1).toInt < (D 1 * R 2).toInt ↔ (D 2 * R 0 * R 1).toInt < (D 1 * R 0 * R 2).toInt) := by
  obtain ⟨a0, a1, a2, a3, a4⟩ := h0
  obtain ⟨b0, b1, b2, b3, b4⟩ := h1
  obtain ⟨d0, d1, d2, d3, d4⟩ := h2
  rw [lm3 (a := D 1) (b := R 0) (c := R 2) (by omega) (by omega) (by omega) (by omega) (by omega) (by omega), lm3 (a := D 0) (b := R 1) (c := R 2) (by omega) (by omega) (by omega) (by omega) (by omega) (by omega), lm3 (a := D 2) (b := R 0) (c := R 1) (by omega) (by omega) (by omega) (by omega) (by omega) (by omega),
    lm2 (a := D 1) (b := R 0) (by omega) (by omega) (by omega) (by omega), lm2 (a := D 0) (b := R 1) (by omega) (by omega) (by omega) (by omega), lm2 (a := D 2) (b := R 0) (by omega) (by omega) (by omega) (by omega), lm2 (a := D 0) (b := R 2) (by omega) (by omega) (by omega) (by omega), lm2 (a := D 2) (b := R 1) (by omega) (by omega) (by omega) (by omega), lm2 (a := D 1) (b := R 2) (by omega) (by omega) (by omega) (by omega)]
  refine ⟨c3_lt (by omega), (c3_lt (z := (R 1).toInt) (by omega)).trans ?_, (c3_lt (z := (R 0).toInt) (by omega)).trans ?_⟩
  · rw [Int.mul_right_comm (D 0).toInt (R 2).toInt (R 1).toInt]
  · rw [Int.mul_right_comm (D 2).toInt (R 1).toInt (R 0).toInt, Int.mul_right_comm (D 1).toInt (R 2).toInt (R 0).toInt]
/-- looks that part have not the same ratio -/
theorem dif_ne {D R : Nat → Int64} {c0 c1 : Int} {pt : Int32} (h0 : bdL c0 (D 0) (R 0)) (h1 : bdL c1 (D 1) (R 1)) (hp : 0 ≤ pt.toInt ∧ pt.toInt ≤ 200) (h : difL (D 0) (R 0) (D 1) (R 1) pt) : (D 1 * R 0).toInt ≠ (D 0 * R 1).toInt := by
  intro e
  obtain ⟨a0, a1, a2, a3, a4⟩ := h0
  obtain ⟨b0, b1, b2, b3, b4⟩ := h1
  have e2 : D 0 * R 1 - D 1 * R 0 = 0 := by rw [Int64.toInt_inj.mp e]; exact Int64.sub_self _
  unfold difL at h
  rw [e2] at h
  have z : ((1000 : Int64) * absL 0).toInt = 0 := by decide
  rw [z] at h
  have q1 := mul_b hp.1 hp.2 (by omega : 0 ≤ (R 0).toInt) a4 (by decide) (by decide)
  have m1 : (pt.toInt64 * R 0).toInt = pt.toInt * (R 0).toInt := l_mul rfl (Int32.toInt_toInt64 _) rfl (by omega) (by omega)
  have q2 := mul_b (by omega : 0 ≤ pt.toInt * (R 0).toInt) q1.2 (by omega : 0 ≤ (R 1).toInt) b4 (by decide) (by decide)
  have m2 : (pt.toInt64 * R 0 * R 1).toInt = pt.toInt * (R 0).toInt * (R 1).toInt := l_mul rfl m1 rfl (by omega) (by omega)
  omega
theorem ls2 {D R : Nat → Int64} {p q : Nat} : lsN D R p q = p ∨ lsN D R p q = q := by
  by_cases h : (D q * R p).toInt < (D p * R q).toInt
  · exact Or.inr (lsN_y h)
  · exact Or.inl (lsN_n h)
theorem ls01 {D R : Nat → Int64} : lsN D R 0 1 = 0 ∨ lsN D R 0 1 = 1 := ls2
/-- the least and the middle of three, as both sides take them -/
theorem lw_least {D R : Nat → Int64} {c0 c1 c2 i : Int} (h0 : bdL c0 (D 0) (R 0)) (h1 : bdL c1 (D 1) (R 1)) (h2 : bdL c2 (D 2) (R 2)) (p0 : 1 ≤ c0) (p1 : 1 ≤ c1) (p2 : 1 ≤ c2) (h : l3R (D 0 * R 1 * R 2).toInt (D 1 * R 0 * R 2).toInt (D 2 * R 0 * R 1).toInt i) : ((lsN D R (lsN D R 0 1) 2 : Nat) : Int) = i := by
  obtain ⟨k1, k2, k3⟩ := ls3 h0 h1 h2 p0 p1 p2
  unfold l3R at h
  by_cases q1 : (D 1 * R 0).toInt < (D 0 * R 1).toInt
  · rw [lsN_y q1]
    by_cases q3 : (D 2 * R 1).toInt < (D 1 * R 2).toInt
    · rw [lsN_y q3]
      have := k1.mp q1
      have := k3.mp q3
      show ((2 : Nat) : Int) = i
      omega
    · rw [lsN_n q3]
      have := k1.mp q1
      have r9 : ¬ _ := fun z => q3 (k3.mpr z)
      show ((1 : Nat) : Int) = i
      omega
  · rw [lsN_n q1]
    have r1 : ¬ _ := fun z => q1 (k1.mpr z)
    by_cases q2 : (D 2 * R 0).toInt < (D 0 * R 2).toInt
    · rw [lsN_y q2]
      have := k2.mp q2
      show ((2 : Nat) : Int) = i
      omega
    · rw [lsN_n q2]
      have r2 : ¬ _ := fun z => q2 (k2.mpr z)
      show ((0 : Nat) : Int) = i
      omega
theorem pk_middle {D R : Nat → Int64} {c0 c1 c2 i : Int} (h0 : bdL c0 (D 0) (R 0)) (h1 : bdL c1 (D 1) (R 1)) (h2 : bdL c2 (D 2) (R 2)) (p0 : 1 ≤ c0) (p1 : 1 ≤ c1) (p2 : 1 ≤ c2) (hne : (D 1 * R 0).toInt ≠ (D 0 * R 1).toInt) (h : m3R (D 0 * R 1 * R 2).toInt (D 1 * R 0 * R 2).toInt (D 2 * R 0 * R 1).toInt i) : ((mdN D R : Nat) : Int) = i := by
  obtain ⟨k1, k2, k3⟩ := ls3 h0 h1 h2 p0 p1 p2
  have hn2 : (D 1 * R 0 * R 2).toInt ≠ (D 0 * R 1 * R 2).toInt := by
    obtain ⟨a0, a1, a2, a3, a4⟩ := h0
    obtain ⟨b0, b1, b2, b3, b4⟩ := h1
    obtain ⟨d0, d1, d2, d3, d4⟩ := h2
    rw [lm3 (a := D 1) (b := R 0) (c := R 2) (by omega) (by omega) (by omega) (by omega) (by omega) (by omega), lm3 (a := D 0) (b := R 1) (c := R 2) (by omega) (by omega) (by omega) (by omega) (by omega) (by omega)]
    rw [lm2 (a := D 1) (b := R 0) (by omega) (by omega) (by omega) (by omega), lm2 (a := D 0) (b := R 1) (by omega) (by omega) (by omega) (by omega)] at hne
    exact fun z => hne (Int.eq_of_mul_eq_mul_right (by omega) z)
  unfold m3R at h
  unfold mdN
  by_cases q1 : (D 1 * R 0).toInt < (D 0 * R 1).toInt
  · rw [lsN_y q1]
    have r1 := k1.mp q1
    by_cases q3 : (D 2 * R 1).toInt < (D 1 * R 2).toInt
    · rw [lsN_y q3, if_pos rfl]
      have := k3.mp q3
      show ((1 : Nat) : Int) = i
      omega
    · rw [lsN_n q3, if_neg (by decide)]
      have r3 : ¬ _ := fun z => q3 (k3.mpr z)
      by_cases q2 : (D 2 * R 0).toInt < (D 0 * R 2).toInt
      · have := k2.mp q2
        rw [show (1 - 1 : Nat) = 0 from rfl, lsN_y q2, if_pos rfl]
        show ((2 : Nat) : Int) = i
        omega
      · have r2 : ¬ _ := fun z => q2 (k2.mpr z)
        rw [show (1 - 1 : Nat) = 0 from rfl, lsN_n q2, if_neg (by decide)]
        show ((0 : Nat) : Int) = i
        omega
  · rw [lsN_n q1]
    have r1 : ¬ _ := fun z => q1 (k1.mpr z)
    by_cases q2 : (D 2 * R 0).toInt < (D 0 * R 2).toInt
    · rw [lsN_y q2, if_pos rfl]
      have := k2.mp q2
      show ((0 : Nat) : Int) = i
      omega
    · rw [lsN_n q2, if_neg (by decide)]
      have r2 : ¬ _ := fun z => q2 (k2.mpr z)
      by_cases q3 : (D 2 * R 1).toInt < (D 1 * R 2).toInt
      · have := k3.mp q3
        rw [show (1 - 0 : Nat) = 1 from rfl, lsN_y q3, if_pos rfl]
        show ((2 : Nat) : Int) = i
        omega
      · have r3 : ¬ _ := fun z => q3 (k3.mpr z)
        rw [show (1 - 0 : Nat) = 1 from rfl, lsN_n q3, if_neg (by decide)]
        show ((1 : Nat) : Int) = i
        omega
/-- a look that is taken has skeins -/
def ok1 (D R : Nat → Int64) (i : Int) : Prop := 0 ≤ i ∧ i ≤ 2 ∧ 1 ≤ (D i.toNat).toInt ∧ (D i.toNat).toInt ≤ 119988 ∧ 1 ≤ (R i.toNat).toInt ∧ (R i.toNat).toInt ≤ 119988
theorem ok1_0 {D R : Nat → Int64} {c : Int} (h : bdL c (D 0) (R 0)) (p : 1 ≤ c) : ok1 D R 0 := by
  obtain ⟨a0, a1, a2, a3, a4⟩ := h
  exact ⟨by decide, by decide, show 1 ≤ (D 0).toInt from by omega, a2, show 1 ≤ (R 0).toInt from by omega, a4⟩
theorem ok1_1 {D R : Nat → Int64} {c : Int} (h : bdL c (D 1) (R 1)) (p : 1 ≤ c) : ok1 D R 1 := by
  obtain ⟨a0, a1, a2, a3, a4⟩ := h
  exact ⟨by decide, by decide, show 1 ≤ (D 1).toInt from by omega, a2, show 1 ≤ (R 1).toInt from by omega, a4⟩
theorem ok1_2 {D R : Nat → Int64} {c : Int} (h : bdL c (D 2) (R 2)) (p : 1 ≤ c) : ok1 D R 2 := by
  obtain ⟨a0, a1, a2, a3, a4⟩ := h
  exact ⟨by decide, by decide, show 1 ≤ (D 2).toInt from by omega, a2, show 1 ≤ (R 2).toInt from by omega, a4⟩
theorem md2 {D R : Nat → Int64} : mdN D R = 0 ∨ mdN D R = 1 ∨ mdN D R = 2 := by
  have q := ls01 (D := D) (R := R)
  unfold mdN
  by_cases q1 : lsN D R (lsN D R 0 1) 2 = 2
  · rw [if_pos q1]; omega
  · rw [if_neg q1]
    by_cases q2 : lsN D R (1 - lsN D R 0 1) 2 = 2
    · rw [if_pos q2]; omega
    · rw [if_neg q2]; omega
theorem ok_2 {D R : Nat → Int64} {c0 c1 i j w : Int} (h0 : bdL c0 (D 0) (R 0)) (h1 : bdL c1 (D 1) (R 1)) (p0 : 1 ≤ c0) (p1 : 1 ≤ c1) (h : twX D R i j w) : ok1 D R i ∧ ok1 D R j := by
  have k0 := ok1_0 h0 p0
  have k1 := ok1_1 h1 p1
  rcases h with ⟨-, rfl, rfl⟩ | ⟨-, e, e2⟩
  · exact ⟨k0, k1⟩
  · subst e2
    rcases ls01 (D := D) (R := R) with q | q
    · rw [q] at e; subst e; exact ⟨k0, k0⟩
    · rw [q] at e; subst e; exact ⟨k1, k1⟩
theorem ok_3 {D R : Nat → Int64} {c0 c1 c2 i j w : Int} (h0 : bdL c0 (D 0) (R 0)) (h1 : bdL c1 (D 1) (R 1)) (h2 : bdL c2 (D 2) (R 2)) (p0 : 1 ≤ c0) (p1 : 1 ≤ c1) (p2 : 1 ≤ c2) (h : thX D R i j w) : ok1 D R i ∧ ok1 D R j := by
  have k0 := ok1_0 h0 p0
  have k1 := ok1_1 h1 p1
  have k2 := ok1_2 h2 p2
  have all : ∀ q : Int, (q = 0 ∨ q = 1 ∨ q = 2) → ok1 D R q := by
    intro q hq
    rcases hq with rfl | rfl | rfl
    · exact k0
    · exact k1
    · exact k2
  rcases h with ⟨-, e, e2⟩ | ⟨-, e, e2⟩ | ⟨-, -, e⟩
  · subst e2
    have a := ls01 (D := D) (R := R)
    have b := ls2 (D := D) (R := R) (p := lsN D R 0 1) (q := 2)
    have z := all j (by omega)
    exact ⟨z, z⟩
  · subst e2
    have b := md2 (D := D) (R := R)
    have z := all j (by omega)
    exact ⟨z, z⟩
  · rcases e with ⟨-, -, rfl, rfl⟩ | ⟨-, -, rfl, rfl⟩ | ⟨-, -, rfl, rfl⟩
    · exact ⟨k0, k1⟩
    · exact ⟨k0, k2⟩
    · exact ⟨k1, k2⟩
theorem WpX_ok {F : Int → Int → Prop} {c0 c1 c2 : Int} {df : Int32 → Prop} {D R : Nat → Int64} {i j r : Int} (hn : ∀ v : Int, F 1 v → 1 ≤ v) (h0 : bdL c0 (D 0) (R 0)) (h1 : bdL c1 (D 1) (R 1)) (h2 : bdL c2 (D 2) (R 2)) (h : WpR F c0 c1 c2 df (i = 0 ∧ j = 0) (twX D R i j) (thX D R i j) r) (hr : r = 1) : ok1 D R i ∧ ok1 D R j :=
  WpR_el hn (fun p q => by have k := ok1_0 h0 p; rw [q.1, q.2]; exact ⟨k, k⟩) (fun w p0 p1 q => ok_2 h0 h1 p0 p1 q) (fun w p0 p1 p2 q => ok_3 h0 h1 h2 p0 p1 p2 q) h hr
/-- the class's numbers, no larger than a long -/
theorem up_b {D R : Nat → Int64} {i j : Int} (hi : ok1 D R i) (hj : ok1 D R j) : 0 < upI D R i j ∧ upI D R i j ≤ 28794240288 ∧ 0 < loI R i j ∧ loI R i j ≤ 28794240288 ∧ (D i.toNat * R j.toNat + D j.toNat * R i.toNat).toInt = upI D R i j ∧ (2 * R i.toNat * R j.toNat).toInt = loI R i j := by
  obtain ⟨-, -, a1, a2, a3, a4⟩ := hi
  obtain ⟨-, -, b1, b2, b3, b4⟩ := hj
  have m1 := bm2 (by omega : 0 ≤ (D i.toNat).toInt) a2 (by omega : 0 ≤ (R j.toNat).toInt) b4
  have m2 := bm2 (by omega : 0 ≤ (D j.toNat).toInt) b2 (by omega : 0 ≤ (R i.toNat).toInt) a4
  have m3 := bm2 (by omega : 0 ≤ (R i.toNat).toInt) a4 (by omega : 0 ≤ (R j.toNat).toInt) b4
  have n1 : 0 < (D i.toNat).toInt * (R j.toNat).toInt := Int.mul_pos (by omega) (by omega)
  have n3 : 0 < (R i.toNat).toInt * (R j.toNat).toInt := Int.mul_pos (by omega) (by omega)
  have e : 2 * (R i.toNat).toInt * (R j.toNat).toInt = 2 * ((R i.toNat).toInt * (R j.toNat).toInt) := Int.mul_assoc _ _ _
  have t : (2 * R i.toNat).toInt = 2 * (R i.toNat).toInt := l_mul rfl (by decide : (2 : Int64).toInt = 2) rfl (by omega) (by omega)
  unfold upI loI
  refine ⟨by omega, by omega, by omega, by omega, ?_, ?_⟩
  · exact l_add rfl (lm2 (by omega) (by omega) (by omega) (by omega)) (lm2 (by omega) (by omega) (by omega) (by omega)) (by omega) (by omega)
  · exact l_mul rfl t rfl (by omega) (by omega)
theorem lw_bd {D R : Nat → Int64} {i j : Int} {U L m : Int64} (hi : ok1 D R i) (hj : ok1 D R j) (hU : U.toInt = upI D R i j) (hL : L.toInt = loI R i j) (hm : 1000 ≤ m.toInt ∧ m.toInt ≤ 129998700) : (U * m).toInt = upI D R i j * m.toInt ∧ 0 < (U * m).toInt ∧ (L * 1000).toInt = loI R i j * 1000 ∧ 1 ≤ (L * 1000).toInt ∧ (L * 1000).toInt ≤ 28794240288000 := by
  obtain ⟨b1, b2, b3, b4, -, -⟩ := up_b hi hj
  have q := mul_b (by omega : 1 ≤ upI D R i j) b2 hm.1 hm.2 (by decide) (by decide)
  have e1 : (U * m).toInt = upI D R i j * m.toInt := l_mul rfl hU rfl (by omega) (by omega)
  have e2 : (L * 1000).toInt = loI R i j * 1000 := l_mul rfl hL (by decide : (1000 : Int64).toInt = 1000) (by omega) (by omega)
  exact ⟨e1, by omega, e2, by omega, by omega⟩
/-- both sides' fractions: the same number -/
def FrE (D R : Nat → Int64) (i j up dn : Int) : Prop := upI D R i j * dn = up * loI R i j ∧ 0 < dn ∧ 0 < upI D R i j ∧ 0 < loI R i j
theorem fr_rs {D R : Nat → Int64} {i j up dn : Int} (hi : ok1 D R i) (hj : ok1 D R j) (h : rsY D R i j up dn) : FrE D R i j up dn := by
  have b := up_b hi hj
  rcases h with ⟨rfl, e1, e2⟩ | ⟨-, e1, e2⟩
  · refine ⟨?_, by rw [e2]; exact Int.lt_of_lt_of_le (by decide) hi.2.2.2.2.1, b.1, b.2.2.1⟩
    rw [e1, e2]; unfold upI loI
    rw [← Int.two_mul]
    ac_rfl
  · rw [b.2.2.2.2.1] at e1
    rw [b.2.2.2.2.2] at e2
    exact ⟨by rw [e1, e2], by rw [e2]; exact b.2.2.1, b.1, b.2.2.1⟩
theorem lsN_cg {D R D' R' : Nat → Int64} {p q : Nat} (hp : D p = D' p ∧ R p = R' p) (hq : D q = D' q ∧ R q = R' q) : lsN D R p q = lsN D' R' p q := by
  unfold lsN; rw [hp.1, hp.2, hq.1, hq.2]
theorem fr_2 {D R D' R' : Nat → Int64} {c0 c1 i j up dn w : Int} (hc : ∀ l : Nat, l < 3 → D l = D' l ∧ R l = R' l) (h0 : bdL c0 (D 0) (R 0)) (h1 : bdL c1 (D 1) (R 1)) (p0 : 1 ≤ c0) (p1 : 1 ≤ c1) (h : twX D R i j w) (k : twY D' R' up dn w) : FrE D R i j up dn := by
  obtain ⟨hi, hj⟩ := ok_2 h0 h1 p0 p1 h
  obtain ⟨i', j', k1, k2⟩ := k
  have e := lsN_cg (hc 0 (by decide)) (hc 1 (by decide))
  have ei : i = i' ∧ j = j' := by
    unfold twX at h k1
    rw [← e] at k1
    omega
  obtain ⟨rfl, rfl⟩ := ei
  refine fr_rs hi hj ?_
  unfold rsY at k2 ⊢
  have z1 := hc i.toNat (by have := hi.2.1; omega)
  have z2 := hc j.toNat (by have := hj.2.1; omega)
  rw [z1.1, z1.2, z2.1, z2.2]; exact k2
theorem fr_3 {D R D' R' : Nat → Int64} {c0 c1 c2 i j up dn w : Int} {pt : Int32} (hc : ∀ l : Nat, l < 3 → D l = D' l ∧ R l = R' l) (h0 : bdL c0 (D 0) (R 0)) (h1 : bdL c1 (D 1) (R 1)) (h2 : bdL c2 (D 2) (R 2)) (p0 : 1 ≤ c0) (p1 : 1 ≤ c1) (p2 : 1 ≤ c2) (hw : 0 ≤ w ∧ w ≤ 2) (hp : 0 ≤ pt.toInt ∧ pt.toInt ≤ 200) (hd : difL (D 0) (R 0) (D 1) (R 1) pt) (h : thX D R i j w) (k : thY D' R' up dn w) : FrE D R i j up dn := by
  obtain ⟨hi, hj⟩ := ok_3 h0 h1 h2 p0 p1 p2 h
  obtain ⟨i', j', k1, k2⟩ := k
  rw [← (hc 0 (by decide)).1, ← (hc 0 (by decide)).2, ← (hc 1 (by decide)).1, ← (hc 1 (by decide)).2, ← (hc 2 (by decide)).1, ← (hc 2 (by decide)).2] at k1
  have hne := dif_ne h0 h1 hp hd
  have ei : i = i' ∧ j = j' := by
    rcases h with ⟨q1, q2, q3⟩ | ⟨q1, q2, q3⟩ | ⟨q1, q2, q3⟩
    · rcases k1 with ⟨r1, -⟩ | ⟨r1, r2, r3⟩ | ⟨r1, r2, -⟩
      · omega
      · have z := lw_least h0 h1 h2 p0 p1 p2 r2
        omega
      · omega
    · rcases k1 with ⟨r1, -⟩ | ⟨r1, -, -⟩ | ⟨r1, r2, r3, r4⟩
      · omega
      · omega
      · have z := pk_middle h0 h1 h2 p0 p1 p2 hne r3
        omega
    · rcases k1 with ⟨r1, r2⟩ | ⟨r1, -, -⟩ | ⟨r1, r2, -, -⟩
      · rw [show D 1 * R 2 * R 0 = D 1 * R 0 * R 2 from by rw [Int64.mul_assoc, Int64.mul_comm (R 2), ← Int64.mul_assoc]] at q3
        unfold nrR at q3 r2
        omega
      · omega
      · omega
  obtain ⟨rfl, rfl⟩ := ei
  refine fr_rs hi hj ?_
  unfold rsY at k2 ⊢
  have z1 := hc i.toNat (by have := hi.2.1; omega)
  have z2 := hc j.toNat (by have := hj.2.1; omega)
  rw [z1.1, z1.2, z2.1, z2.2]; exact k2
theorem fr_1 {D R D' R' : Nat → Int64} {c0 i j up dn : Int} (hc : ∀ l : Nat, l < 3 → D l = D' l ∧ R l = R' l) (h0 : bdL c0 (D 0) (R 0)) (p0 : 1 ≤ c0) (h : i = 0 ∧ j = 0) (k : up = (D' 0).toInt ∧ dn = (R' 0).toInt) : FrE D R i j up dn := by
  have k0 := ok1_0 h0 p0
  rw [h.1, h.2]
  refine fr_rs k0 k0 (Or.inl ⟨rfl, ?_, ?_⟩)
  · rw [k.1, ← (hc 0 (by decide)).1]; rfl
  · rw [k.2, ← (hc 0 (by decide)).2]; rfl
/-- both sides' states and fractions -/
theorem Wp_fr {F G : Int → Int → Prop} {c0 c1 c2 : Int} {D R D' R' : Nat → Int64} {i j up dn r s : Int} (hF : ∀ a v w : Int, 0 ≤ a → a ≤ 5 → F a v → G a w → v = w) (hb : ∀ a v : Int, 0 ≤ a → a ≤ 5 → F a v → fLo a ≤ v ∧ v ≤ fHi a) (hc : ∀ l : Nat, l < 3 → D l = D' l ∧ R l = R' l) (h0 : bdL c0 (D 0) (R 0)) (h1 : bdL c1 (D 1) (R 1)) (h2 : bdL c2 (D 2) (R 2))
    (h : WpR F c0 c1 c2 (fun pt => difL (D 0) (R 0) (D 1) (R 1) pt) (i = 0 ∧ j = 0) (twX D R i j) (thX D R i j) r) (k : WpR G c0 c1 c2 (fun pt => difL (D' 0) (R' 0) (D' 1) (R' 1) pt) (up = (D' 0).toInt ∧ dn = (R' 0).toInt) (twY D' R' up dn) (thY D' R' up dn) s) : r = s ∧ (r = 1 → FrE D R i j up dn) := by
  refine WpR_un hF (fun q => ?_) (fun v hv => (hb 1 v (by decide) (by decide) hv).1) (fun p q1 q2 => fr_1 hc h0 p q1 q2) (fun w hw p0 p1 q1 q2 => fr_2 hc h0 h1 p0 p1 q1 q2) (fun w pt hw hp hd p0 p1 p2 q1 q2 => fr_3 hc h0 h1 h2 p0 p1 p2 (hb 5 w (by decide) (by decide) hw) (hb 2 pt.toInt (by decide) (by decide) hp) hd q1 q2) h k
  rw [(hc 0 (by decide)).1, (hc 0 (by decide)).2, (hc 1 (by decide)).1, (hc 1 (by decide)).2]
/-- a look has at most twelve skeins -/
theorem smC_cn {c : Nat → Prop} {ob ol : Nat → Int32} {b l : Int32} : ∀ n : Nat, n ≤ 60 → (∀ j : Nat, j < n → c j → (ob j).toInt = b.toInt ∧ (ol j).toInt = l.toInt) → 0 ≤ (smC c n).toInt ∧ (smC c n).toInt ≤ ((cn0 ob ol b l n : Nat) : Int) ∧ (smC c n).toInt ≤ (n : Int)
  | 0, _, _ => by
    have e2 : (smC c 0).toInt = 0 := by show (0 : Int32).toInt = 0; decide
    rw [e2]; exact ⟨by omega, by omega, by omega⟩
  | n + 1, hn, h => by
    obtain ⟨q1, q2, q3⟩ := smC_cn n (by omega) (fun j hj => h j (by omega))
    have z := h n (by omega)
    have k : cn0 ob ol b l (n + 1) = cn0 ob ol b l n + (if (ob n).toInt = b.toInt ∧ (ol n).toInt = l.toInt then 1 else 0) := rfl
    by_cases e : c n
    · have a1 : (smC c (n + 1)).toInt = (smC c n).toInt + 1 := by
        rw [smC_y rfl e]; exact z_add rfl rfl (by decide : (1 : Int32).toInt = 1) (by omega) (by omega)
      rw [if_pos (z e)] at k
      rw [a1, k]; exact ⟨by omega, by omega, by omega⟩
    · rw [smC_n rfl e, k]
      refine ⟨q1, ?_, by omega⟩
      split <;> omega
theorem sX_b {rw_ : Nat → Int32} {b l : Int32} {d : Int} {n : Nat} (hn : n ≤ 60) (hw : ∀ s : Nat, s < n → (100 ≤ (rw_ (9 * s + 3)).toInt ∧ (rw_ (9 * s + 3)).toInt ≤ 9999) ∧ (50 ≤ (rw_ (9 * s + 4)).toInt ∧ (rw_ (9 * s + 4)).toInt ≤ 9999)) (hc : cn0 (fun s => rw_ (9 * s + 0)) (fun s => rw_ (9 * s + 1)) b l n ≤ 12) : bdL (nX rw_ b.toInt d l.toInt n).toInt (sX rw_ b.toInt d l.toInt 4 n) (sX rw_ b.toInt d l.toInt 3 n) := by
  have q := smC_cn (c := cxP rw_ b.toInt d l.toInt) (ob := fun s => rw_ (9 * s + 0)) (ol := fun s => rw_ (9 * s + 1)) (b := b) (l := l) n hn (fun j _ h => ⟨h.1, h.2.1⟩)
  have r := smL_b (c := cxP rw_ b.toInt d l.toInt) (w := fun s => rw_ (9 * s + 3)) (lo := 100) (hi := 9999) (by decide) (by decide) (by decide) n hn (fun j hj => (hw j hj).1)
  have t := smL_b (c := cxP rw_ b.toInt d l.toInt) (w := fun s => rw_ (9 * s + 4)) (lo := 50) (hi := 9999) (by decide) (by decide) (by decide) n hn (fun j hj => (hw j hj).2)
  unfold bdL nX sX
  exact ⟨q.1, t.1, by omega, r.1, by omega⟩
theorem sY_b {ob ol dy lo ra dr : Nat → Int32} {b l : Int32} {d : Int} {n : Nat} (hn : n ≤ 60) (hw : ∀ s : Nat, s < n → (100 ≤ (ra s).toInt ∧ (ra s).toInt ≤ 9999) ∧ (50 ≤ (dr s).toInt ∧ (dr s).toInt ≤ 9999)) (hc : cn0 ob ol b l n ≤ 12) : bdL (nY ob ol dy lo b.toInt d l.toInt n).toInt (sY ob ol dy lo dr b.toInt d l.toInt n) (sY ob ol dy lo ra b.toInt d l.toInt n) := by
  have q := smC_cn (c := cyP ob ol dy lo b.toInt d l.toInt) (ob := ob) (ol := ol) (b := b) (l := l) n hn (fun j _ h => ⟨h.1, h.2.1⟩)
  have r := smL_b (c := cyP ob ol dy lo b.toInt d l.toInt) (w := ra) (lo := 100) (hi := 9999) (by decide) (by decide) (by decide) n hn (fun j hj => (hw j hj).1)
  have t := smL_b (c := cyP ob ol dy lo b.toInt d l.toInt) (w := dr) (lo := 50) (hi := 9999) (by decide) (by decide) (by decide) n hn (fun j hj => (hw j hj).2)
  unfold bdL nY sY
  exact ⟨q.1, t.1, by omega, r.1, by omega⟩
theorem FoY_b {n D a v : Int} {dx cx kx fx sx lx dy cy ky ny fy sy wy ly : Nat → Int32} (h : BkE n dx cx kx fx sx lx dy cy ky ny fy sy wy ly) (ha : 0 ≤ a ∧ a ≤ 5) (x : FoY n dy cy ky ny fy a D v) : fLo a ≤ v ∧ v ≤ fHi a := by
  obtain ⟨on, s, x1, x2⟩ := x
  rcases x2 with ⟨-, b, -⟩ | ⟨r, j, a1, a2, a3, a4, a5, a6, -⟩
  · rw [b]
    rcases (by omega : a = 0 ∨ a = 1 ∨ a = 2 ∨ a = 3 ∨ a = 4 ∨ a = 5) with q | q | q | q | q | q <;> rw [q] <;> exact ⟨by decide, by decide⟩
  · have zr := h r (by omega)
    rw [← zr.2.1] at a4
    have z := zr.2.2.2.2 j a3 a4
    have g := z.2.2.2.1
    have c := ClE_k z
    have a5 : (a = 5 ∧ (ky j).toInt = 1) ∨ (a ≠ 5 ∧ (ky j).toInt = 0 ∧ (ny j).toInt = a) := a5
    have a5 : (kx j).toInt = a := by omega
    have a6 : v = (fy j).toInt := a6
    rw [← z.2.1] at a6
    obtain ⟨g1, g2, g3, g4, -, -⟩ := g
    rw [a5] at g3 g4
    rw [← a6] at g3 g4
    rcases (by omega : a = 0 ∨ a = 1 ∨ a = 2 ∨ a = 3 ∨ a = 4 ∨ a = 5) with q | q | q | q | q | q
    · rw [q] at g3 ⊢; exact g3 (by decide)
    · rw [q] at g3 ⊢; exact g3 (by decide)
    · rw [q] at g3 ⊢; exact g3 (by decide)
    · rw [q] at g3 ⊢; exact g3 (by decide)
    · rw [q] at g3 ⊢; exact g3 (by decide)
    · rw [q] at g4 ⊢; exact g4 rfl
/-! ===== la2 ===== -/

theorem f1_of {v : Int} (h : fLo 1 ≤ v ∧ v ≤ fHi 1) : 1 ≤ v := by
  have e : fLo 1 = 1 := by decide
  omega
theorem f0_of {v : Int} (h : fLo 0 ≤ v ∧ v ≤ fHi 0) : 0 ≤ v ∧ v ≤ 300 := by
  have e : fLo 0 = 0 := by decide
  have e2 : fHi 0 = 300 := by decide
  omega
/-- the class: what a bale is settled by -/
def LwS (F : Int → Int → Prop) (rw_ : Nat → Int32) (b d : Int) (n : Nat) (D R : Nat → Int64) (C : Nat → Int32) (i j r : Int) : Prop := (∀ l : Nat, l < 3 → R l = sX rw_ b d l 3 n ∧ D l = sX rw_ b d l 4 n ∧ C l = nX rw_ b d l n) ∧ WpR F (C 0).toInt (C 1).toInt (C 2).toInt (fun pt => difL (D 0) (R 0) (D 1) (R 1) pt) (i = 0 ∧ j = 0) (twX D R i j) (thX D R i j) r
/-- the reference: likewise -/
def LwT (F : Int → Int → Prop) (ob ol dy lo ra dr : Nat → Int32) (b d : Int) (n : Nat) (D R : Nat → Int64) (up dn r : Int) : Prop := (∀ l : Nat, l < 3 → R l = sY ob ol dy lo ra b d l n ∧ D l = sY ob ol dy lo dr b d l n) ∧ WpR F (nY ob ol dy lo b d 0 n).toInt (nY ob ol dy lo b d 1 n).toInt (nY ob ol dy lo b d 2 n).toInt (fun pt => difL (D 0) (R 0) (D 1) (R 1) pt) (up = (D 0).toInt ∧ dn = (R 0).toInt) (twY D R up dn) (thY D R up dn) r
theorem bdX {rw_ : Nat → Int32} {a : Int32} {d : Int} {n : Nat} {D R : Nat → Int64} {C : Nat → Int32} (hn : n ≤ 60) (hw : ∀ s : Nat, s < n → (100 ≤ (rw_ (9 * s + 3)).toInt ∧ (rw_ (9 * s + 3)).toInt ≤ 9999) ∧ (50 ≤ (rw_ (9 * s + 4)).toInt ∧ (rw_ (9 * s + 4)).toInt ≤ 9999)) (hc : ∀ l : Int32, cn0 (fun s => rw_ (9 * s + 0)) (fun s => rw_ (9 * s + 1)) a l n ≤ 12) (P : ∀ l : Nat, l < 3 → R l = sX rw_ a.toInt d l 3 n ∧ D l = sX rw_ a.toInt d l 4 n ∧ C l = nX rw_ a.toInt d l n) {l : Nat} (hl : l < 3) (k : Int32) (hk : (l : Int) = k.toInt) : bdL (C l).toInt (D l) (R l) := by
  obtain ⟨p1, p2, p3⟩ := P l hl
  rw [p1, p2, p3, hk]
  exact sX_b hn hw (hc k)
theorem bdY {ob ol dy lo ra dr : Nat → Int32} {a : Int32} {d : Int} {n : Nat} {D R : Nat → Int64} (hn : n ≤ 60) (hw : ∀ s : Nat, s < n → (100 ≤ (ra s).toInt ∧ (ra s).toInt ≤ 9999) ∧ (50 ≤ (dr s).toInt ∧ (dr s).toInt ≤ 9999)) (hc : ∀ l : Int32, cn0 ob ol a l n ≤ 12) (P : ∀ l : Nat, l < 3 → R l = sY ob ol dy lo ra a.toInt d l n ∧ D l = sY ob ol dy lo dr a.toInt d l n) {l : Nat} (hl : l < 3) (k : Int32) (hk : (l : Int) = k.toInt) : bdL (nY ob ol dy lo a.toInt d l n).toInt (D l) (R l) := by
  obtain ⟨p1, p2⟩ := P l hl
  rw [p1, p2, hk]
  exact sY_b hn hw (hc k)
theorem rs_b {D R : Nat → Int64} {i j up dn : Int} (hi : ok1 D R i) (hj : ok1 D R j) (h : rsY D R i j up dn) : 1 ≤ up ∧ up ≤ 28794240288 ∧ 1 ≤ dn ∧ dn ≤ 28794240288 := by
  have b := up_b hi hj
  obtain ⟨-, -, a1, a2, a3, a4⟩ := hi
  rcases h with ⟨-, e1, e2⟩ | ⟨-, e1, e2⟩
  · omega
  · omega
theorem tp_ok {D R : Nat → Int64} {c0 c1 c2 : Int} {a b c : Int64} {i j w : Int} (h0 : bdL c0 (D 0) (R 0)) (h1 : bdL c1 (D 1) (R 1)) (h2 : bdL c2 (D 2) (R 2)) (p0 : 1 ≤ c0) (p1 : 1 ≤ c1) (p2 : 1 ≤ c2) (h : tpY a b c i j w) : ok1 D R i ∧ ok1 D R j := by
  have k0 := ok1_0 h0 p0
  have k1 := ok1_1 h1 p1
  have k2 := ok1_2 h2 p2
  have all : ∀ q : Int, (q = 0 ∨ q = 1 ∨ q = 2) → ok1 D R q := by
    intro q hq
    rcases hq with rfl | rfl | rfl
    · exact k0
    · exact k1
    · exact k2
  have hij : (i = 0 ∨ i = 1 ∨ i = 2) ∧ (j = 0 ∨ j = 1 ∨ j = 2) := by
    unfold tpY nrR l3R m3R at h
    omega
  exact ⟨all i hij.1, all j hij.2⟩
/-- what the reference's result may be, where a bale is settled -/
theorem LwT_b {F : Int → Int → Prop} {ob ol dy lo ra dr : Nat → Int32} {a : Int32} {d : Int} {n : Nat} {D R : Nat → Int64} {up dn r : Int} (hf : ∀ v : Int, F 1 v → 1 ≤ v) (hn : n ≤ 60) (hw : ∀ s : Nat, s < n → (100 ≤ (ra s).toInt ∧ (ra s).toInt ≤ 9999) ∧ (50 ≤ (dr s).toInt ∧ (dr s).toInt ≤ 9999)) (hc : ∀ l : Int32, cn0 ob ol a l n ≤ 12) (h : LwT F ob ol dy lo ra dr a.toInt d n D R up dn r) (hr : r = 1) : 1 ≤ up ∧ up ≤ 28794240288 ∧ 1 ≤ dn ∧ dn ≤ 28794240288 := by
  obtain ⟨P, W⟩ := h
  have h0 := bdY (l := 0) hn hw hc P (by decide) 0 (by decide)
  have h1 := bdY (l := 1) hn hw hc P (by decide) 1 (by decide)
  have h2 := bdY (l := 2) hn hw hc P (by decide) 2 (by decide)
  refine WpR_el hf (fun p q => ?_) (fun w p0 p1 q => ?_) (fun w p0 p1 p2 q => ?_) W hr
  · have k := ok1_0 h0 p
    exact rs_b k k (Or.inl ⟨rfl, q.1, q.2⟩)
  · obtain ⟨i, j, q1, q2⟩ := q
    have k := ok_2 h0 h1 p0 p1 q1
    exact rs_b k.1 k.2 q2
  · obtain ⟨i, j, q1, q2⟩ := q
    have k := tp_ok h0 h1 h2 p0 p1 p2 q1
    exact rs_b k.1 k.2 q2
/-- both sides are settled alike -/
theorem Lw_un {F G : Int → Int → Prop} {rw_ ob ol dy lo ra dr : Nat → Int32} {a : Int32} {d : Int} {n : Nat} {D R D' R' : Nat → Int64} {C : Nat → Int32} {i j up dn r s : Int} (hF : ∀ a v w : Int, 0 ≤ a → a ≤ 5 → F a v → G a w → v = w) (hb : ∀ a v : Int, 0 ≤ a → a ≤ 5 → F a v → fLo a ≤ v ∧ v ≤ fHi a) (hn : n ≤ 60) (hw : ∀ s : Nat, s < n → (100 ≤ (rw_ (9 * s + 3)).toInt ∧ (rw_ (9 * s + 3)).toInt ≤ 9999) ∧ (50 ≤ (rw_ (9 * s + 4)).toInt ∧ (rw_ (9 * s + 4)).toInt ≤ 9999)) (hc : ∀ l : Int32, cn0 (fun s => rw_ (9 * s + 0)) (fun s => rw_ (9 * s + 1)) a l n ≤ 12)
    (hE : ∀ l : Nat, l < 3 → sX rw_ a.toInt d l 3 n = sY ob ol dy lo ra a.toInt d l n ∧ sX rw_ a.toInt d l 4 n = sY ob ol dy lo dr a.toInt d l n ∧ nX rw_ a.toInt d l n = nY ob ol dy lo a.toInt d l n) (x : LwS F rw_ a.toInt d n D R C i j r) (y : LwT G ob ol dy lo ra dr a.toInt d n D' R' up dn s) : r = s ∧ (r = 1 → FrE D R i j up dn) := by
  obtain ⟨P, W⟩ := x
  obtain ⟨Q, V⟩ := y
  have h0 := bdX (l := 0) hn hw hc P (by decide) 0 (by decide)
  have h1 := bdX (l := 1) hn hw hc P (by decide) 1 (by decide)
  have h2 := bdX (l := 2) hn hw hc P (by decide) 2 (by decide)
  have c0 : nY ob ol dy lo a.toInt d 0 n = C 0 := ((P 0 (by decide)).2.2.trans (hE 0 (by decide)).2.2).symm
  have c1 : nY ob ol dy lo a.toInt d 1 n = C 1 := ((P 1 (by decide)).2.2.trans (hE 1 (by decide)).2.2).symm
  have c2 : nY ob ol dy lo a.toInt d 2 n = C 2 := ((P 2 (by decide)).2.2.trans (hE 2 (by decide)).2.2).symm
  rw [c0, c1, c2] at V
  refine Wp_fr hF hb (fun l hl => ?_) h0 h1 h2 W V
  exact ⟨((P l hl).2.1.trans (hE l hl).2.1).trans (Q l hl).2.symm, ((P l hl).1.trans (hE l hl).1).trans (Q l hl).1.symm⟩
/-- a weight in least terms: its upper or its lower number -/
def ltX (a b w r : Int) : Prop := (w = 0 ∧ r = a / gN a b) ∨ (w ≠ 0 ∧ r = b / gN a b)
def ltY (a b w r : Int) : Prop := (w = 0 ∧ r = a) ∨ (w ≠ 0 ∧ r = b)
theorem lt_xy {D R : Nat → Int64} {i j up dn y LU LD w r s : Int} (hy : 0 < y) (h : FrE D R i j up dn) (k : LwY up dn y LU LD) (x : ltX (upI D R i j * y) (loI R i j * 1000) w r) (z : ltY LU LD w s) : r = s := by
  obtain ⟨h1, h2, h3, h4⟩ := h
  have q := lw_un h3 h4 h2 hy h1 k
  rcases x with ⟨x1, x2⟩ | ⟨x1, x2⟩
  · rcases z with ⟨z1, z2⟩ | ⟨z1, z2⟩
    · rw [x2, z2]; exact q.1
    · exact absurd x1 z1
  · rcases z with ⟨z1, z2⟩ | ⟨z1, z2⟩
    · exact absurd z1 x1
    · rw [x2, z2]; exact q.2.1
/-- GROSS times a thousand and water -/
theorem y_x {g r : Int32} {k w : Int64} (ek : k = 1000 + r.toInt64) (e : w = g.toInt64 * k) (hg : 1 ≤ g.toInt ∧ g.toInt ≤ 99999) (hr : 0 ≤ r.toInt ∧ r.toInt ≤ 300) : w.toInt = g.toInt * (1000 + r.toInt) ∧ 1000 ≤ w.toInt ∧ w.toInt ≤ 129998700 := by
  have hk : k.toInt = 1000 + r.toInt := l_add ek (by decide : (1000 : Int64).toInt = 1000) (Int32.toInt_toInt64 _) (by omega) (by omega)
  have q := mul_b hg.1 hg.2 (by omega : 1000 ≤ 1000 + r.toInt) (by omega : 1000 + r.toInt ≤ 1300) (by decide) (by decide)
  have e1 : w.toInt = g.toInt * (1000 + r.toInt) := l_mul e (Int32.toInt_toInt64 _) hk (by omega) (by omega)
  exact ⟨e1, by omega, by omega⟩
theorem y_y {g r k : Int32} {w : Int64} (hk : k.toInt = 1000 + r.toInt) (e : w = g.toInt64 * k.toInt64) (hg : 1 ≤ g.toInt ∧ g.toInt ≤ 99999) (hr : 0 ≤ r.toInt ∧ r.toInt ≤ 300) : w.toInt = g.toInt * (1000 + r.toInt) ∧ 1000 ≤ w.toInt ∧ w.toInt ≤ 129998700 := by
  have q := mul_b hg.1 hg.2 (by omega : 1000 ≤ 1000 + r.toInt) (by omega : 1000 + r.toInt ≤ 1300) (by decide) (by decide)
  have e1 : w.toInt = g.toInt * (1000 + r.toInt) := l_mul e (Int32.toInt_toInt64 _) ((Int32.toInt_toInt64 _).trans hk) (by omega) (by omega)
  exact ⟨e1, by omega, by omega⟩
/-- a common divisor, and what is left -/
theorem gdi {x y : Int} (hx : 1 ≤ x) (hy : 1 ≤ y) : 1 ≤ gN x y ∧ (1 ≤ x / gN x y ∧ x / gN x y ≤ x) ∧ (1 ≤ y / gN x y ∧ y / gN x y ≤ y) := by
  obtain ⟨a, rfl⟩ := Int.eq_ofNat_of_zero_le (show 0 ≤ x from by omega)
  obtain ⟨b, rfl⟩ := Int.eq_ofNat_of_zero_le (show 0 ≤ y from by omega)
  have hg : 0 < Nat.gcd a b := Nat.gcd_pos_of_pos_left _ (by omega)
  have z1 : 0 < a / Nat.gcd a b := Nat.div_gcd_pos_of_pos_left _ (by omega)
  have z2 : 0 < b / Nat.gcd a b := Nat.div_gcd_pos_of_pos_right _ (by omega)
  have z3 : a / Nat.gcd a b ≤ a := Nat.div_le_self _ _
  have z4 : b / Nat.gcd a b ≤ b := Nat.div_le_self _ _
  rw [gN_k, gN_k2, gN_c]
  exact ⟨by omega, ⟨by omega, by omega⟩, by omega, by omega⟩
set_option maxHeartbeats 4000000 in
set_option maxRecDepth 100000 in
/-- X3_lesserOf -/
theorem c_X3_lesserOf_w (l : Launch) (dC : Nat → ClassId) (dI : Nat → Nat → Nat) (h : Nat) (g : Nat → Nat → Nat) (ca : Nat → Nat → ClassId) (iv : Nat → Nat → Int32) (lv : Nat → Nat → Int64) (fa : Nat → Nat → Nat → Int32) (la : Nat → Nat → Nat → Int64) (hI : IX iv fa) (a : Int32) (b : Int32) (h_a : 0 ≤ a.toInt ∧ a.toInt ≤ 2) (h_b : 0 ≤ b.toInt ∧ b.toInt ≤ 2) : Met l yX3_lesserOf (wc yX3_lesserOf cX3_lesserOf 3 (some .int)) ({ frames := 0, cells := 0, slots := 0, locals := 0 } : Room) (pR (dC, dI) classes (WX h g ca iv lv fa la) (TX ca) [.ref (g 11 5), .int a, .int b]) (vp_Si (fun r => (0 ≤ r.toInt ∧ r.toInt ≤ 2) ∧ (r.toInt = ((lsN (la 30 1) (la 30 0) (a.toInt).toNat (b.toInt).toNat : Nat) : Int)) ∧ ((r.toInt = a.toInt ∨ r.toInt = b.toInt)))) 0 0 (fun _ => False) := by
  refine Met.ofW (cc := cX3_lesserOf) (maxL := 3) (ret := (some .int)) (by decide) rfl ?_
  intro p e s m args below meth c s₁ B hml hv
  obtain ⟨rfl, hP, hK⟩ := hv
  have hx := B.exec
  have hb := B.bytes
  have hr := B.returns
  have ht := tb_tl (atoms_spec (ws := wc yX3_lesserOf cX3_lesserOf 3 (some .int)) B.pre)
  have hown : s.vm.findClass RX3 = some m.cls := findClass_of_methodNamed B.named
  have hlocks := B.notSynchronized
  have hl := lv_entry [.ref (g 11 5), .int a, .int b] (n := 3) (Nat.le_of_ble_eq_true rfl)
  rw [lg_entry_eq]
  generalize (lg_sl [.ref (g 11 5), .int a, .int b] ++ List.replicate (3 - (lg_sl [.ref (g 11 5), .int a, .int b]).length) Slot.unset).toArray = ls at hl ⊢
  have hl : lv_has ls 3 [(0, .ref (g 11 5)), (1, .int a), (2, .int b)] := hl
  refine lv_aload_n hx hb dX3_lesserOf_0 rfl (lv_at hl 0 rfl) ?_
  refine gX_3_2 hx hb ht hown hK hP m_281 dX3_lesserOf_1 ?_
  refine gX_30_1 hx hb ht hown hK hP m_265 dX3_lesserOf_4 ?_
  refine lv_iload_n hx hb dX3_lesserOf_7 rfl (lv_at hl 2 rfl) ?_
  refine lX_30_1 hx hb hK hP (f := (la 30 1)) rfl (vp_in_iff.mpr ⟨by omega, by omega⟩) dX3_lesserOf_8 ?_
  refine lv_topl (fun w1 ew1 => ?_)
  refine lv_aload_n hx hb dX3_lesserOf_9 rfl (lv_at hl 0 rfl) ?_
  refine gX_3_2 hx hb ht hown hK hP m_281 dX3_lesserOf_10 ?_
  refine gX_30_0 hx hb ht hown hK hP m_262 dX3_lesserOf_13 ?_
  refine lv_iload_n hx hb dX3_lesserOf_16 rfl (lv_at hl 1 rfl) ?_
  refine lX_30_0 hx hb hK hP (f := (la 30 0)) rfl (vp_in_iff.mpr ⟨by omega, by omega⟩) dX3_lesserOf_17 ?_
  refine lv_topl (fun w2 ew2 => ?_)
  refine lv_lmul hx hb dX3_lesserOf_18 ?_
  refine lv_topl (fun w3 ew3 => ?_)
  refine lv_aload_n hx hb dX3_lesserOf_19 rfl (lv_at hl 0 rfl) ?_
  refine gX_3_2 hx hb ht hown hK hP m_281 dX3_lesserOf_20 ?_
  refine gX_30_1 hx hb ht hown hK hP m_265 dX3_lesserOf_23 ?_
  refine lv_iload_n hx hb dX3_lesserOf_26 rfl (lv_at hl 1 rfl) ?_
  refine lX_30_1 hx hb hK hP (f := (la 30 1)) rfl (vp_in_iff.mpr ⟨by omega, by omega⟩) dX3_lesserOf_27 ?_
  refine lv_topl (fun w4 ew4 => ?_)
  refine lv_aload_n hx hb dX3_lesserOf_28 rfl (lv_at hl 0 rfl) ?_
  refine gX_3_2 hx hb ht hown hK hP m_281 dX3_lesserOf_29 ?_
  refine gX_30_0 hx hb ht hown hK hP m_262 dX3_lesserOf_32 ?_
  refine lv_iload_n hx hb dX3_lesserOf_35 rfl (lv_at hl 2 rfl) ?_
  refine lX_30_0 hx hb hK hP (f := (la 30 0)) rfl (vp_in_iff.mpr ⟨by omega, by omega⟩) dX3_lesserOf_36 ?_
  refine lv_topl (fun w5 ew5 => ?_)
  refine lv_lmul hx hb dX3_lesserOf_37 ?_
  refine lv_topl (fun w6 ew6 => ?_)
  refine W.lcmp hx hb dX3_lesserOf_38 ?_
  refine lv_topi (fun v7 ev7 => ?_)
  refine lv_if_ge (tgt := 46) hx hb dX3_lesserOf_39 (by decide) (fun c8 => ?_) (fun c8 => ?_)
  · have fc8 := zc_nlt ev7 (rfl : (w3).toInt = _) (rfl : (w6).toInt = _) (Int32.not_lt.mpr c8)
    refine lv_iload_n hx hb dX3_lesserOf_46 rfl (lv_at hl 1 rfl) ?_
    exact W.iret (v := a) hx hb hr (fun t ht9 hW => ⟨a, rfl, ⟨⟨by omega, by omega⟩, (show (a : Int32).toInt = ((lsN (la 30 1) (la 30 0) ((a).toInt).toNat ((b).toInt).toNat : Nat) : Int) from (by rw [lsN_n (fun z9 => absurd z9 (Int.not_lt.mpr (show ((la 30 1) a.toInt.toNat * (la 30 0) b.toInt.toNat).toInt ≤ ((la 30 1) b.toInt.toNat * (la 30 0) a.toInt.toNat).toInt from by have h9 := fc8; simp only [ew6, ew5, ew4, ew3, ew2, ew1] at h9; exact h9)))]; show a.toInt = ((a.toInt.toNat : Nat) : Int); omega)), (show ((a : Int32).toInt = (a).toInt ∨ (a : Int32).toInt = (b).toInt) from by omega)⟩, ht9⟩) (fun q hq => by cases hq) dX3_lesserOf_47
  · have fc8 := zc_lt ev7 (rfl : (w3).toInt = _) (rfl : (w6).toInt = _) (Int32.not_le.mp c8)
    refine lv_iload_n hx hb dX3_lesserOf_42 rfl (lv_at hl 2 rfl) ?_
    refine lv_goto (tgt := 47) hx hb dX3_lesserOf_43 (by decide) ?_
    exact W.iret (v := b) hx hb hr (fun t ht9 hW => ⟨b, rfl, ⟨⟨by omega, by omega⟩, (show (b : Int32).toInt = ((lsN (la 30 1) (la 30 0) ((a).toInt).toNat ((b).toInt).toNat : Nat) : Int) from (by rw [lsN_y (show ((la 30 1) b.toInt.toNat * (la 30 0) a.toInt.toNat).toInt < ((la 30 1) a.toInt.toNat * (la 30 0) b.toInt.toNat).toInt from by have h9 := fc8; simp only [ew6, ew5, ew4, ew3, ew2, ew1] at h9; exact h9)]; show b.toInt = ((b.toInt.toNat : Nat) : Int); omega)), (show ((b : Int32).toInt = (a).toInt ∨ (b : Int32).toInt = (b).toInt) from by omega)⟩, ht9⟩) (fun q hq => by cases hq) dX3_lesserOf_47
set_option maxHeartbeats 4000000 in
set_option maxRecDepth 100000 in
/-- X3_settle -/
theorem c_X3_settle_w (l : Launch) (dC : Nat → ClassId) (dI : Nat → Nat → Nat) (sz : Nat) (h : Nat) (g : Nat → Nat → Nat) (ca : Nat → Nat → ClassId) (iv : Nat → Nat → Int32) (lv : Nat → Nat → Int64) (fa : Nat → Nat → Nat → Int32) (la : Nat → Nat → Nat → Int64) (hI : IX iv fa) (a : Int32) (b : Int32) (h_a : 0 ≤ a.toInt ∧ a.toInt ≤ 2) (h_b : 0 ≤ b.toInt ∧ b.toInt ≤ 2) : Met l yX3_settle (wc yX3_settle cX3_settle 3 (some .int)) ({ frames := 0, cells := 0, slots := 0, locals := 0 } : Room) (pW (dC, dI) classes (WX h g ca iv lv fa la) (TX ca) sz [.ref (g 11 5), .int a, .int b]) (va_Qi (fun r (u : SS) => ∃ (ni_3_3 : Int32) (ni_3_4 : Int32), inb (bI 3 3) ni_3_3 ∧ inb (bI 3 4) ni_3_4 ∧ ((ni_3_3).toInt = a.toInt) ∧ ((ni_3_4).toInt = b.toInt) ∧ (r.toInt = 1) ∧ (1 ≤ r.toInt ∧ r.toInt ≤ 1) ∧ u = ((u2 (u2 iv 3 3 ni_3_3) 3 4 ni_3_4), lv, fa, la)) (bX (dC, dI) h g ca (va_A (WX h g ca iv lv fa la) sz)) (va_A (WX h g ca iv lv fa la) sz)) 0 0 (va_A (WX h g ca iv lv fa la) sz) := by
  refine Met.ofW (cc := cX3_settle) (maxL := 3) (ret := (some .int)) (by decide) rfl ?_
  intro p e s m args below meth c s₁ B hml hv
  obtain ⟨rfl, hsz, hP, hK, hD0⟩ := hv
  have hx := B.exec
  have hb := B.bytes
  have hr := B.returns
  have ht := tb_tl (atoms_spec (ws := wc yX3_settle cX3_settle 3 (some .int)) B.pre)
  have hown : s.vm.findClass RX3 = some m.cls := findClass_of_methodNamed B.named
  have hlocks := B.notSynchronized
  subst hsz
  have hD := hD0.self (sz := s.heap.size)
  generalize hAe : va_A (WX h g ca iv lv fa la) s.heap.size = A at hD ⊢
  have hA : ∀ q : Nat, s.heap.size ≤ q → A q := fun q h => by rw [← hAe]; exact Or.inr h
  have hS : va_S A s.heap s.heap [] := va_S.rf
  have hl := lv_entry [.ref (g 11 5), .int a, .int b] (n := 3) (Nat.le_of_ble_eq_true rfl)
  rw [lg_entry_eq]
  generalize (lg_sl [.ref (g 11 5), .int a, .int b] ++ List.replicate (3 - (lg_sl [.ref (g 11 5), .int a, .int b]).length) Slot.unset).toArray = ls at hl ⊢
  have hl : lv_has ls 3 [(0, .ref (g 11 5)), (1, .int a), (2, .int b)] := hl
  refine lv_aload_n hx hb dX3_settle_0 rfl (lv_at hl 0 rfl) ?_
  refine lv_iload_n hx hb dX3_settle_1 rfl (lv_at hl 1 rfl) ?_
  refine pX_3_3 (v := a) hx hb ht hown hK hP hD hS m_283 dX3_settle_2 (fun H locs hP hD hS => ?_)
  refine lv_aload_n hx hb dX3_settle_5 rfl (lv_at hl 0 rfl) ?_
  refine lv_iload_n hx hb dX3_settle_6 rfl (lv_at hl 2 rfl) ?_
  refine pX_3_4 (v := b) hx hb ht hown hK hP hD hS m_284 dX3_settle_7 (fun H locs hP hD hS => ?_)
  refine lv_iconst (v := 1) hx hb dX3_settle_10 (by decide) ?_
  have : (1 : Int32).toInt = 1 := (by decide)
  have hP9 : va_P (dC, dI) classes (WX h g ca (u2 (u2 iv 3 3 a) 3 4 b) lv fa la) H := hP
  have hD9 : va_D A (WX h g ca (u2 (u2 iv 3 3 a) 3 4 b) lv fa la) := hD
  exact W.iret (v := 1) hx hb hr (fun t ht9 hW => ⟨⟨1, ((u2 (u2 iv 3 3 a) 3 4 b), lv, fa, la), rfl, ⟨a, b, (show inb (0, 2) a from ⟨by omega, by omega⟩), (show inb (0, 2) b from ⟨by omega, by omega⟩), (show (a : Int32).toInt = (a).toInt from by omega), (show (b : Int32).toInt = (b).toInt from by omega), (show (1 : Int32).toInt = 1 from by omega), ⟨by decide, by decide⟩, rfl⟩, by rw [ht9]; exact hP9, hD9⟩, hS.F ht9⟩) hS.2.2 dX3_settle_11
set_option maxHeartbeats 4000000 in
set_option maxRecDepth 100000 in
/-- X3_settleByTwo -/
theorem c_X3_settleByTwo_w (l : Launch) (dC : Nat → ClassId) (dI : Nat → Nat → Nat) (sz : Nat) (h : Nat) (g : Nat → Nat → Nat) (ca : Nat → Nat → ClassId) (iv : Nat → Nat → Int32) (lv : Nat → Nat → Int64) (fa : Nat → Nat → Nat → Int32) (la : Nat → Nat → Nat → Int64) (hI : IX iv fa) (a : Int32) : Met l yX3_settleByTwo (wc yX3_settleByTwo cX3_settleByTwo 3 (some .int)) ({ frames := 1, cells := 0, slots := 0, locals := 22 } : Room) (pW (dC, dI) classes (WX h g ca iv lv fa la) (TX ca) sz [.ref (g 11 5), .int a]) (va_Qi (fun r (u : SS) => ∃ (ni_3_3 : Int32) (ni_3_4 : Int32), inb (bI 3 3) ni_3_3 ∧ inb (bI 3 4) ni_3_4 ∧ (twX (la 30 1) (la 30 0) (ni_3_3).toInt (ni_3_4).toInt a.toInt) ∧ (r.toInt = 1) ∧ (1 ≤ r.toInt ∧ r.toInt ≤ 1) ∧ u = ((u2 (u2 iv 3 3 ni_3_3) 3 4 ni_3_4), lv, fa, la)) (bX (dC, dI) h g ca (va_A (WX h g ca iv lv fa la) sz)) (va_A (WX h g ca iv lv fa la) sz)) 0 0 (va_A (WX h g ca iv lv fa la) sz) := by
  refine Met.ofW (cc := cX3_settleByTwo) (maxL := 3) (ret := (some .int)) (by decide) rfl ?_
  intro p e s m args below meth c s₁ B hml hv
  obtain ⟨rfl, hsz, hP, hK, hD0⟩ := hv
  have hx := B.exec
  have hb := B.bytes
  have hr := B.returns
  have ht := tb_tl (atoms_spec (ws := wc yX3_settleByTwo cX3_settleByTwo 3 (some .int)) B.pre)
  have hown : s.vm.findClass RX3 = some m.cls := findClass_of_methodNamed B.named
  have hlocks := B.notSynchronized
  subst hsz
  have hD := hD0.self (sz := s.heap.size)
  generalize hAe : va_A (WX h g ca iv lv fa la) s.heap.size = A at hD ⊢
  have hA : ∀ q : Nat, s.heap.size ≤ q → A q := fun q h => by rw [← hAe]; exact Or.inr h
  have hS : va_S A s.heap s.heap [] := va_S.rf
  have hl := lv_entry [.ref (g 11 5), .int a] (n := 3) (Nat.le_of_ble_eq_true rfl)
  rw [lg_entry_eq]
  generalize (lg_sl [.ref (g 11 5), .int a] ++ List.replicate (3 - (lg_sl [.ref (g 11 5), .int a]).length) Slot.unset).toArray = ls at hl ⊢
  have hl : lv_has ls 3 [(0, .ref (g 11 5)), (1, .int a)] := hl
  refine lv_iload_n hx hb dX3_settleByTwo_0 rfl (lv_at hl 1 rfl) ?_
  refine lv_iconst (v := 1) hx hb dX3_settleByTwo_1 (by decide) ?_
  refine lv_icmp_eq (tgt := 12) hx hb dX3_settleByTwo_2 (by decide) (fun c1 => ?_) (fun c1 => ?_)
  · have fc1 := z_eq (rfl : (a).toInt = _) (by decide : (1 : Int32).toInt = 1) c1
    refine lv_aload_n hx hb dX3_settleByTwo_12 rfl (lv_at hl 0 rfl) ?_
    refine lv_iconst (v := 0) hx hb dX3_settleByTwo_13 (by decide) ?_
    refine lv_iconst (v := 1) hx hb dX3_settleByTwo_14 (by decide) ?_
    refine vp_callSi (W.runV (As := [.int 0, .int 1]) (rest := []) ⟨hx, hb, hml, hown, ht⟩ (c_X3_lesserOf_w l dC dI h g ca iv lv fa la hI 0 1 ⟨by decide, by decide⟩ ⟨by decide, by decide⟩) (kV 2 ht m_638 m_640 m_11 m_83 m_641 rfl rfl hd_X3_lesserOf_v ⟨Nat.le_of_ble_eq_true rfl, Nat.le_of_ble_eq_true rfl⟩) (vR hP hK (rX_3 hK hP)) rfl rfl hl.1 rfl (lv_room (Nat.le_of_ble_eq_true rfl)) dX3_settleByTwo_15 ⟨Nat.le_of_ble_eq_true rfl, Nat.le_of_ble_eq_true rfl⟩) (fun r2 hr2 => ?_)
    obtain ⟨hr2, xr2_0, xr2_1⟩ := hr2
    have : (0 : Int32).toInt = 0 := (by decide)
    have : (1 : Int32).toInt = 1 := (by decide)
    have xr2_0 : (r2 : Int32).toInt = ((lsN (la 30 1) (la 30 0) ((0 : Int32).toInt).toNat ((1 : Int32).toInt).toNat : Nat) : Int) := xr2_0
    have xr2_1 : ((r2 : Int32).toInt = (0 : Int32).toInt ∨ (r2 : Int32).toInt = (1 : Int32).toInt) := xr2_1
    refine lv_istore_n (lv' := [(2, .int r2), (0, .ref (g 11 5)), (1, .int a)]) hx hb dX3_settleByTwo_18 rfl hl (by decide) rfl (fun ls hl => ?_)
    refine lv_aload_n hx hb dX3_settleByTwo_19 rfl (lv_at hl 1 rfl) ?_
    refine lv_iload_n hx hb dX3_settleByTwo_20 rfl (lv_at hl 0 rfl) ?_
    refine lv_iload_n hx hb dX3_settleByTwo_21 rfl (lv_at hl 0 rfl) ?_
    have hFc := free_all hD hS hA
    refine va_calli (va_runV (As := [.int r2, .int r2]) (rest := []) ⟨hx, hb, hml, hown, ht⟩ (c_X3_settle_w l dC dI s.heap.size h g ca iv lv fa la hI r2 r2 ⟨by omega, by omega⟩ ⟨by omega, by omega⟩) (kV 2 ht m_622 m_624 m_9 m_83 m_625 rfl rfl hd_X3_settle_v ⟨Nat.le_of_ble_eq_true rfl, Nat.le_of_ble_eq_true rfl⟩) (vW hP hK hD (rX_3 hK hP)) rfl rfl hl.1 rfl (lv_room (Nat.le_of_ble_eq_true rfl)) dX3_settleByTwo_22 ⟨Nat.le_of_ble_eq_true rfl, Nat.le_of_ble_eq_true rfl⟩) hS (fun q _ h => hFc q h) hFc (fun r3 u t H1 locs ht9 hvm hr3 hB hz1 hk1 hS => ?_)
    obtain ⟨n4, n5, hn4, hn5, xr3_0, xr3_1, xr3_2, hr3, rfl⟩ := hr3
    have hn4 : 0 ≤ n4.toInt ∧ n4.toInt ≤ 2 := hn4
    have hn5 : 0 ≤ n5.toInt ∧ n5.toInt ≤ 2 := hn5
    obtain ⟨hP, hD⟩ := hB
    rw [ht9] at hP
    generalize H1 = H at hP hS ⊢
    have hP : va_P (dC, dI) classes (WX h g ca (u2 (u2 iv 3 3 n4) 3 4 n5) lv fa la) H := hP
    have hD : va_D A (WX h g ca (u2 (u2 iv 3 3 n4) 3 4 n5) lv fa la) := (show va_D _ (WX h g ca (u2 (u2 iv 3 3 n4) 3 4 n5) lv fa la) from hD).weaken (fun _ _ _ h => hFc _ h)
    have xr3_0 : (n4 : Int32).toInt = (r2 : Int32).toInt := xr3_0
    have xr3_1 : (n5 : Int32).toInt = (r2 : Int32).toInt := xr3_1
    have xr3_2 : (r3 : Int32).toInt = 1 := xr3_2
    have hP9 : va_P (dC, dI) classes (WX h g ca (u2 (u2 iv 3 3 n4) 3 4 n5) lv fa la) H := hP
    have hD9 : va_D A (WX h g ca (u2 (u2 iv 3 3 n4) 3 4 n5) lv fa la) := hD
    exact W.iret (v := r3) hx hb hr (fun t ht9 hW => ⟨⟨r3, ((u2 (u2 iv 3 3 n4) 3 4 n5), lv, fa, la), rfl, ⟨n4, n5, (show inb (0, 2) n4 from ⟨by omega, by omega⟩), (show inb (0, 2) n5 from ⟨by omega, by omega⟩), (show twX (la 30 1) (la 30 0) (n4 : Int32).toInt (n5 : Int32).toInt (a).toInt from (by have h1 : (r2 : Int32).toInt = ((lsN (la 30 1) (la 30 0) 0 1 : Nat) : Int) := xr2_0; unfold twX; exact Or.inr ⟨by omega, by omega, by omega⟩)), (show (r3 : Int32).toInt = 1 from by omega), ⟨by omega, by omega⟩, rfl⟩, by rw [ht9]; exact hP9, hD9⟩, hS.F ht9⟩) hS.2.2 dX3_settleByTwo_25
  · have fc1 := z_ne (rfl : (a).toInt = _) (by decide : (1 : Int32).toInt = 1) c1
    refine lv_aload_n hx hb dX3_settleByTwo_5 rfl (lv_at hl 0 rfl) ?_
    refine lv_iconst (v := 0) hx hb dX3_settleByTwo_6 (by decide) ?_
    refine lv_iconst (v := 1) hx hb dX3_settleByTwo_7 (by decide) ?_
    have hFc := free_all hD hS hA
    refine va_calli (va_runV (As := [.int 0, .int 1]) (rest := []) ⟨hx, hb, hml, hown, ht⟩ (c_X3_settle_w l dC dI s.heap.size h g ca iv lv fa la hI 0 1 ⟨by decide, by decide⟩ ⟨by decide, by decide⟩) (kV 2 ht m_622 m_624 m_9 m_83 m_625 rfl rfl hd_X3_settle_v ⟨Nat.le_of_ble_eq_true rfl, Nat.le_of_ble_eq_true rfl⟩) (vW hP hK hD (rX_3 hK hP)) rfl rfl hl.1 rfl (lv_room (Nat.le_of_ble_eq_true rfl)) dX3_settleByTwo_8 ⟨Nat.le_of_ble_eq_true rfl, Nat.le_of_ble_eq_true rfl⟩) hS (fun q _ h => hFc q h) hFc (fun r6 u t H1 locs ht9 hvm hr6 hB hz1 hk1 hS => ?_)
    obtain ⟨n7, n8, hn7, hn8, xr6_0, xr6_1, xr6_2, hr6, rfl⟩ := hr6
    have hn7 : 0 ≤ n7.toInt ∧ n7.toInt ≤ 2 := hn7
    have hn8 : 0 ≤ n8.toInt ∧ n8.toInt ≤ 2 := hn8
    obtain ⟨hP, hD⟩ := hB
    rw [ht9] at hP
    generalize H1 = H at hP hS ⊢
    have hP : va_P (dC, dI) classes (WX h g ca (u2 (u2 iv 3 3 n7) 3 4 n8) lv fa la) H := hP
    have hD : va_D A (WX h g ca (u2 (u2 iv 3 3 n7) 3 4 n8) lv fa la) := (show va_D _ (WX h g ca (u2 (u2 iv 3 3 n7) 3 4 n8) lv fa la) from hD).weaken (fun _ _ _ h => hFc _ h)
    have : (0 : Int32).toInt = 0 := (by decide)
    have xr6_0 : (n7 : Int32).toInt = (0 : Int32).toInt := xr6_0
    have : (1 : Int32).toInt = 1 := (by decide)
    have xr6_1 : (n8 : Int32).toInt = (1 : Int32).toInt := xr6_1
    have xr6_2 : (r6 : Int32).toInt = 1 := xr6_2
    have hP9 : va_P (dC, dI) classes (WX h g ca (u2 (u2 iv 3 3 n7) 3 4 n8) lv fa la) H := hP
    have hD9 : va_D A (WX h g ca (u2 (u2 iv 3 3 n7) 3 4 n8) lv fa la) := hD
    exact W.iret (v := r6) hx hb hr (fun t ht9 hW => ⟨⟨r6, ((u2 (u2 iv 3 3 n7) 3 4 n8), lv, fa, la), rfl, ⟨n7, n8, (show inb (0, 2) n7 from ⟨by omega, by omega⟩), (show inb (0, 2) n8 from ⟨by omega, by omega⟩), (show twX (la 30 1) (la 30 0) (n7 : Int32).toInt (n8 : Int32).toInt (a).toInt from (by unfold twX; exact Or.inl ⟨by omega, by omega, by omega⟩)), (show (r6 : Int32).toInt = 1 from by omega), ⟨by omega, by omega⟩, rfl⟩, by rw [ht9]; exact hP9, hD9⟩, hS.F ht9⟩) hS.2.2 dX3_settleByTwo_11
set_option maxHeartbeats 4000000 in
set_option maxRecDepth 100000 in
/-- X7_level -/
theorem c_X7_level_w0 (l : Launch) (dC : Nat → ClassId) (dI : Nat → Nat → Nat) (h : Nat) (g : Nat → Nat → Nat) (ca : Nat → Nat → ClassId) (iv : Nat → Nat → Int32) (lv : Nat → Nat → Int64) (fa : Nat → Nat → Nat → Int32) (la : Nat → Nat → Nat → Int64) (hI : IX iv fa) : Met l yX7_level (wc yX7_level cX7_level 2 (some .long)) ({ frames := 0, cells := 0, slots := 0, locals := 0 } : Room) (pR (dC, dI) classes (WX h g ca iv lv fa la) (TX ca) [.ref (g 3 2), .int 0]) (vp_Sl (fun r => (True) ∧ (r.toInt = ((la 30 1) 0 * (la 30 0) 1 * (la 30 0) 2).toInt))) 0 0 (fun _ => False) := by
  refine Met.ofW (cc := cX7_level) (maxL := 2) (ret := (some .long)) (by decide) rfl ?_
  intro p e s m args below meth c s₁ B hml hv
  obtain ⟨rfl, hP, hK⟩ := hv
  have hx := B.exec
  have hb := B.bytes
  have hr := B.returns
  have ht := tb_tl (atoms_spec (ws := wc yX7_level cX7_level 2 (some .long)) B.pre)
  have hown : s.vm.findClass RX7 = some m.cls := findClass_of_methodNamed B.named
  have hlocks := B.notSynchronized
  have hl := lv_entry [.ref (g 3 2), .int 0] (n := 2) (Nat.le_of_ble_eq_true rfl)
  rw [lg_entry_eq]
  generalize (lg_sl [.ref (g 3 2), .int 0] ++ List.replicate (2 - (lg_sl [.ref (g 3 2), .int 0]).length) Slot.unset).toArray = ls at hl ⊢
  have hl : lv_has ls 2 [(0, .ref (g 3 2)), (1, .int 0)] := hl
  refine lv_aload_n hx hb dX7_level_0 rfl (lv_at hl 0 rfl) ?_
  refine gX_30_1 hx hb ht hown hK hP m_264 dX7_level_1 ?_
  refine lv_iload_n hx hb dX7_level_4 rfl (lv_at hl 1 rfl) ?_
  refine lX_30_1 hx hb hK hP (f := (la 30 1)) rfl (vp_in_iff.mpr (by decide)) dX7_level_5 ?_
  refine lv_topl (fun w1 ew1 => ?_)
  refine lv_aload_n hx hb dX7_level_6 rfl (lv_at hl 0 rfl) ?_
  refine gX_30_0 hx hb ht hown hK hP m_261 dX7_level_7 ?_
  refine lv_iload_n hx hb dX7_level_10 rfl (lv_at hl 1 rfl) ?_
  refine lv_iconst (v := 1) hx hb dX7_level_11 (by decide) ?_
  refine lv_iadd hx hb dX7_level_12 ?_
  refine lv_topi (fun v2 ev2 => ?_)
  obtain rfl : 1 = v2 := (ev2.trans (by decide)).symm
  refine lv_iconst (v := 3) hx hb dX7_level_13 (by decide) ?_
  refine lv_irem hx hb dX7_level_14 (by decide) ?_
  refine lv_topi (fun v3 ev3 => ?_)
  obtain rfl : 1 = v3 := (ev3.trans (by decide)).symm
  refine lX_30_0 hx hb hK hP (f := (la 30 0)) rfl (vp_in_iff.mpr (by decide)) dX7_level_15 ?_
  refine lv_topl (fun w4 ew4 => ?_)
  refine lv_lmul hx hb dX7_level_16 ?_
  refine lv_topl (fun w5 ew5 => ?_)
  refine lv_aload_n hx hb dX7_level_17 rfl (lv_at hl 0 rfl) ?_
  refine gX_30_0 hx hb ht hown hK hP m_261 dX7_level_18 ?_
  refine lv_iload_n hx hb dX7_level_21 rfl (lv_at hl 1 rfl) ?_
  refine lv_iconst (v := 2) hx hb dX7_level_22 (by decide) ?_
  refine lv_iadd hx hb dX7_level_23 ?_
  refine lv_topi (fun v6 ev6 => ?_)
  obtain rfl : 2 = v6 := (ev6.trans (by decide)).symm
  refine lv_iconst (v := 3) hx hb dX7_level_24 (by decide) ?_
  refine lv_irem hx hb dX7_level_25 (by decide) ?_
  refine lv_topi (fun v7 ev7 => ?_)
  obtain rfl : 2 = v7 := (ev7.trans (by decide)).symm
  refine lX_30_0 hx hb hK hP (f := (la 30 0)) rfl (vp_in_iff.mpr (by decide)) dX7_level_26 ?_
  refine lv_topl (fun w8 ew8 => ?_)
  refine lv_lmul hx hb dX7_level_27 ?_
  refine lv_topl (fun w9 ew9 => ?_)
  exact W.lret (v := w9) hx hb hr (fun t ht9 hW => ⟨w9, rfl, ⟨trivial, (show (w9 : Int64).toInt = ((la 30 1) 0 * (la 30 0) 1 * (la 30 0) 2).toInt from congrArg Int64.toInt (by first | (simp only [ew9, ew8, ew5, ew4, ew1]; rfl) | simp only [ew9, ew8, ew5, ew4, ew1] | rfl))⟩, ht9⟩) (fun q hq => by cases hq) dX7_level_28
set_option maxHeartbeats 4000000 in
set_option maxRecDepth 100000 in
/-- X7_level -/
theorem c_X7_level_w1 (l : Launch) (dC : Nat → ClassId) (dI : Nat → Nat → Nat) (h : Nat) (g : Nat → Nat → Nat) (ca : Nat → Nat → ClassId) (iv : Nat → Nat → Int32) (lv : Nat → Nat → Int64) (fa : Nat → Nat → Nat → Int32) (la : Nat → Nat → Nat → Int64) (hI : IX iv fa) : Met l yX7_level (wc yX7_level cX7_level 2 (some .long)) ({ frames := 0, cells := 0, slots := 0, locals := 0 } : Room) (pR (dC, dI) classes (WX h g ca iv lv fa la) (TX ca) [.ref (g 3 2), .int 1]) (vp_Sl (fun r => (True) ∧ (r.toInt = ((la 30 1) 1 * (la 30 0) 2 * (la 30 0) 0).toInt))) 0 0 (fun _ => False) := by
  refine Met.ofW (cc := cX7_level) (maxL := 2) (ret := (some .long)) (by decide) rfl ?_
  intro p e s m args below meth c s₁ B hml hv
  obtain ⟨rfl, hP, hK⟩ := hv
  have hx := B.exec
  have hb := B.bytes
  have hr := B.returns
  have ht := tb_tl (atoms_spec (ws := wc yX7_level cX7_level 2 (some .long)) B.pre)
  have hown : s.vm.findClass RX7 = some m.cls := findClass_of_methodNamed B.named
  have hlocks := B.notSynchronized
  have hl := lv_entry [.ref (g 3 2), .int 1] (n := 2) (Nat.le_of_ble_eq_true rfl)
  rw [lg_entry_eq]
  generalize (lg_sl [.ref (g 3 2), .int 1] ++ List.replicate (2 - (lg_sl [.ref (g 3 2), .int 1]).length) Slot.unset).toArray = ls at hl ⊢
  have hl : lv_has ls 2 [(0, .ref (g 3 2)), (1, .int 1)] := hl
  refine lv_aload_n hx hb dX7_level_0 rfl (lv_at hl 0 rfl) ?_
  refine gX_30_1 hx hb ht hown hK hP m_264 dX7_level_1 ?_
  refine lv_iload_n hx hb dX7_level_4 rfl (lv_at hl 1 rfl) ?_
  refine lX_30_1 hx hb hK hP (f := (la 30 1)) rfl (vp_in_iff.mpr (by decide)) dX7_level_5 ?_
  refine lv_topl (fun w1 ew1 => ?_)
  refine lv_aload_n hx hb dX7_level_6 rfl (lv_at hl 0 rfl) ?_
  refine gX_30_0 hx hb ht hown hK hP m_261 dX7_level_7 ?_
  refine lv_iload_n hx hb dX7_level_10 rfl (lv_at hl 1 rfl) ?_
  refine lv_iconst (v := 1) hx hb dX7_level_11 (by decide) ?_
  refine lv_iadd hx hb dX7_level_12 ?_
  refine lv_topi (fun v2 ev2 => ?_)
  obtain rfl : 2 = v2 := (ev2.trans (by decide)).symm
  refine lv_iconst (v := 3) hx hb dX7_level_13 (by decide) ?_
  refine lv_irem hx hb dX7_level_14 (by decide) ?_
  refine lv_topi (fun v3 ev3 => ?_)
  obtain rfl : 2 = v3 := (ev3.trans (by decide)).symm
  refine lX_30_0 hx hb hK hP (f := (la 30 0)) rfl (vp_in_iff.mpr (by decide)) dX7_level_15 ?_
  refine lv_topl (fun w4 ew4 => ?_)
  refine lv_lmul hx hb dX7_level_16 ?_
  refine lv_topl (fun w5 ew5 => ?_)
  refine lv_aload_n hx hb dX7_level_17 rfl (lv_at hl 0 rfl) ?_
  refine gX_30_0 hx hb ht hown hK hP m_261 dX7_level_18 ?_
  refine lv_iload_n hx hb dX7_level_21 rfl (lv_at hl 1 rfl) ?_
  refine lv_iconst (v := 2) hx hb dX7_level_22 (by decide) ?_
  refine lv_iadd hx hb dX7_level_23 ?_
  refine lv_topi (fun v6 ev6 => ?_)
  obtain rfl : 3 = v6 := (ev6.trans (by decide)).symm
  refine lv_iconst (v := 3) hx hb dX7_level_24 (by decide) ?_
  refine lv_irem hx hb dX7_level_25 (by decide) ?_
  refine lv_topi (fun v7 ev7 => ?_)
  obtain rfl : 0 = v7 := (ev7.trans (by decide)).symm
  refine lX_30_0 hx hb hK hP (f := (la 30 0)) rfl (vp_in_iff.mpr (by decide)) dX7_level_26 ?_
  refine lv_topl (fun w8 ew8 => ?_)
  refine lv_lmul hx hb dX7_level_27 ?_
  refine lv_topl (fun w9 ew9 => ?_)
  exact W.lret (v := w9) hx hb hr (fun t ht9 hW => ⟨w9, rfl, ⟨trivial, (show (w9 : Int64).toInt = ((la 30 1) 1 * (la 30 0) 2 * (la 30 0) 0).toInt from congrArg Int64.toInt (by first | (simp only [ew9, ew8, ew5, ew4, ew1]; rfl) | simp only [ew9, ew8, ew5, ew4, ew1] | rfl))⟩, ht9⟩) (fun q hq => by cases hq) dX7_level_28
set_option maxHeartbeats 4000000 in
set_option maxRecDepth 100000 in
/-- X7_level -/
theorem c_X7_level_w2 (l : Launch) (dC : Nat → ClassId) (dI : Nat → Nat → Nat) (h : Nat) (g : Nat → Nat → Nat) (ca : Nat → Nat → ClassId) (iv : Nat → Nat → Int32) (lv : Nat → Nat → Int64) (fa : Nat → Nat → Nat → Int32) (la : Nat → Nat → Nat → Int64) (hI : IX iv fa) : Met l yX7_level (wc yX7_level cX7_level 2 (some .long)) ({ frames := 0, cells := 0, slots := 0, locals := 0 } : Room) (pR (dC, dI) classes (WX h g ca iv lv fa la) (TX ca) [.ref (g 3 2), .int 2]) (vp_Sl (fun r => (True) ∧ (r.toInt = ((la 30 1) 2 * (la 30 0) 0 * (la 30 0) 1).toInt))) 0 0 (fun _ => False) := by
  refine Met.ofW (cc := cX7_level) (maxL := 2) (ret := (some .long)) (by decide) rfl ?_
  intro p e s m args below meth c s₁ B hml hv
  obtain ⟨rfl, hP, hK⟩ := hv
  have hx := B.exec
  have hb := B.bytes
  have hr := B.returns
  have ht := tb_tl (atoms_spec (ws := wc yX7_level cX7_level 2 (some .long)) B.pre)
  have hown : s.vm.findClass RX7 = some m.cls := findClass_of_methodNamed B.named
  have hlocks := B.notSynchronized
  have hl := lv_entry [.ref (g 3 2), .int 2] (n := 2) (Nat.le_of_ble_eq_true rfl)
  rw [lg_entry_eq]
  generalize (lg_sl [.ref (g 3 2), .int 2] ++ List.replicate (2 - (lg_sl [.ref (g 3 2), .int 2]).length) Slot.unset).toArray = ls at hl ⊢
  have hl : lv_has ls 2 [(0, .ref (g 3 2)), (1, .int 2)] := hl
  refine lv_aload_n hx hb dX7_level_0 rfl (lv_at hl 0 rfl) ?_
  refine gX_30_1 hx hb ht hown hK hP m_264 dX7_level_1 ?_
  refine lv_iload_n hx hb dX7_level_4 rfl (lv_at hl 1 rfl) ?_
  refine lX_30_1 hx hb hK hP (f := (la 30 1)) rfl (vp_in_iff.mpr (by decide)) dX7_level_5 ?_
  refine lv_topl (fun w1 ew1 => ?_)
  refine lv_aload_n hx hb dX7_level_6 rfl (lv_at hl 0 rfl) ?_
  refine gX_30_0 hx hb ht hown hK hP m_261 dX7_level_7 ?_
  refine lv_iload_n hx hb dX7_level_10 rfl (lv_at hl 1 rfl) ?_
  refine lv_iconst (v := 1) hx hb dX7_level_11 (by decide) ?_
  refine lv_iadd hx hb dX7_level_12 ?_
  refine lv_topi (fun v2 ev2 => ?_)
  obtain rfl : 3 = v2 := (ev2.trans (by decide)).symm
  refine lv_iconst (v := 3) hx hb dX7_level_13 (by decide) ?_
  refine lv_irem hx hb dX7_level_14 (by decide) ?_
  refine lv_topi (fun v3 ev3 => ?_)
  obtain rfl : 0 = v3 := (ev3.trans (by decide)).symm
  refine lX_30_0 hx hb hK hP (f := (la 30 0)) rfl (vp_in_iff.mpr (by decide)) dX7_level_15 ?_
  refine lv_topl (fun w4 ew4 => ?_)
  refine lv_lmul hx hb dX7_level_16 ?_
  refine lv_topl (fun w5 ew5 => ?_)
  refine lv_aload_n hx hb dX7_level_17 rfl (lv_at hl 0 rfl) ?_
  refine gX_30_0 hx hb ht hown hK hP m_261 dX7_level_18 ?_
  refine lv_iload_n hx hb dX7_level_21 rfl (lv_at hl 1 rfl) ?_
  refine lv_iconst (v := 2) hx hb dX7_level_22 (by decide) ?_
  refine lv_iadd hx hb dX7_level_23 ?_
  refine lv_topi (fun v6 ev6 => ?_)
  obtain rfl : 4 = v6 := (ev6.trans (by decide)).symm
  refine lv_iconst (v := 3) hx hb dX7_level_24 (by decide) ?_
  refine lv_irem hx hb dX7_level_25 (by decide) ?_
  refine lv_topi (fun v7 ev7 => ?_)
  obtain rfl : 1 = v7 := (ev7.trans (by decide)).symm
  refine lX_30_0 hx hb hK hP (f := (la 30 0)) rfl (vp_in_iff.mpr (by decide)) dX7_level_26 ?_
  refine lv_topl (fun w8 ew8 => ?_)
  refine lv_lmul hx hb dX7_level_27 ?_
  refine lv_topl (fun w9 ew9 => ?_)
  exact W.lret (v := w9) hx hb hr (fun t ht9 hW => ⟨w9, rfl, ⟨trivial, (show (w9 : Int64).toInt = ((la 30 1) 2 * (la 30 0) 0 * (la 30 0) 1).toInt from congrArg Int64.toInt (by first | (simp only [ew9, ew8, ew5, ew4, ew1]; rfl) | simp only [ew9, ew8, ew5, ew4, ew1] | rfl))⟩, ht9⟩) (fun q hq => by cases hq) dX7_level_28
set_option maxHeartbeats 4000000 in
set_option maxRecDepth 100000 in
/-- X3_settleByNearest -/
theorem c_X3_settleByNearest_w (l : Launch) (dC : Nat → ClassId) (dI : Nat → Nat → Nat) (sz : Nat) (h : Nat) (g : Nat → Nat → Nat) (ca : Nat → Nat → ClassId) (iv : Nat → Nat → Int32) (lv : Nat → Nat → Int64) (fa : Nat → Nat → Nat → Int32) (la : Nat → Nat → Nat → Int64) (hI : IX iv fa) : Met l yX3_settleByNearest (wc yX3_settleByNearest cX3_settleByNearest 7 (some .int)) ({ frames := 1, cells := 0, slots := 0, locals := 40 } : Room) (pW (dC, dI) classes (WX h g ca iv lv fa la) (TX ca) sz [.ref (g 11 5)]) (va_Qi (fun r (u : SS) => ∃ (ni_3_3 : Int32) (ni_3_4 : Int32), inb (bI 3 3) ni_3_3 ∧ inb (bI 3 4) ni_3_4 ∧ (nrR ((la 30 1) 0 * (la 30 0) 1 * (la 30 0) 2) ((la 30 1) 1 * (la 30 0) 2 * (la 30 0) 0) ((la 30 1) 2 * (la 30 0) 0 * (la 30 0) 1) (ni_3_3).toInt (ni_3_4).toInt) ∧ (r.toInt = 1) ∧ (1 ≤ r.toInt ∧ r.toInt ≤ 1) ∧ u = ((u2 (u2 iv 3 3 ni_3_3) 3 4 ni_3_4), lv, fa, la)) (bX (dC, dI) h g ca (va_A (WX h g ca iv lv fa la) sz)) (va_A (WX h g ca iv lv fa la) sz)) 0 0 (va_A (WX h g ca iv lv fa la) sz) := by
  refine Met.ofW (cc := cX3_settleByNearest) (maxL := 7) (ret := (some .int)) (by decide) rfl ?_
  intro p e s m args below meth c s₁ B hml hv
  obtain ⟨rfl, hsz, hP, hK, hD0⟩ := hv
  have hx := B.exec
  have hb := B.bytes
  have hr := B.returns
  have ht := tb_tl (atoms_spec (ws := wc yX3_settleByNearest cX3_settleByNearest 7 (some .int)) B.pre)
  have hown : s.vm.findClass RX3 = some m.cls := findClass_of_methodNamed B.named
  have hlocks := B.notSynchronized
  subst hsz
  have hD := hD0.self (sz := s.heap.size)
  generalize hAe : va_A (WX h g ca iv lv fa la) s.heap.size = A at hD ⊢
  have hA : ∀ q : Nat, s.heap.size ≤ q → A q := fun q h => by rw [← hAe]; exact Or.inr h
  have hS : va_S A s.heap s.heap [] := va_S.rf
  have hl := lv_entry [.ref (g 11 5)] (n := 7) (Nat.le_of_ble_eq_true rfl)
  rw [lg_entry_eq]
  generalize (lg_sl [.ref (g 11 5)] ++ List.replicate (7 - (lg_sl [.ref (g 11 5)]).length) Slot.unset).toArray = ls at hl ⊢
  have hl : lv_has ls 7 [(0, .ref (g 11 5))] := hl
  refine lv_aload_n hx hb dX3_settleByNearest_0 rfl (lv_at hl 0 rfl) ?_
  refine gX_3_2 hx hb ht hown hK hP m_281 dX3_settleByNearest_1 ?_
  refine lv_iconst (v := 0) hx hb dX3_settleByNearest_4 (by decide) ?_
  refine vp_callSl (W.runV (As := [.int 0]) (rest := []) ⟨hx, hb, hml, hown, ht⟩ (c_X7_level_w0 l dC dI h g ca iv lv fa la hI) (kV 1 ht m_654 m_655 m_656 m_84 m_657 rfl rfl hd_X7_level_v ⟨Nat.le_of_ble_eq_true rfl, Nat.le_of_ble_eq_true rfl⟩) (vR hP hK (rX_30 hK hP)) rfl rfl hl.1 rfl (lv_room (Nat.le_of_ble_eq_true rfl)) dX3_settleByNearest_5 ⟨Nat.le_of_ble_eq_true rfl, Nat.le_of_ble_eq_true rfl⟩) (fun r1 hr1 => ?_)
  obtain ⟨hr1, xr1_0⟩ := hr1
  have xr1_0 : (r1 : Int64).toInt = ((la 30 1) 0 * (la 30 0) 1 * (la 30 0) 2).toInt := xr1_0
  refine lv_aload_n hx hb dX3_settleByNearest_8 rfl (lv_at hl 0 rfl) ?_
  refine gX_3_2 hx hb ht hown hK hP m_281 dX3_settleByNearest_9 ?_
  refine lv_iconst (v := 1) hx hb dX3_settleByNearest_12 (by decide) ?_
  refine vp_callSl (W.runV (As := [.int 1]) (rest := [.long r1]) ⟨hx, hb, hml, hown, ht⟩ (c_X7_level_w1 l dC dI h g ca iv lv fa la hI) (kV 1 ht m_654 m_655 m_656 m_84 m_657 rfl rfl hd_X7_level_v ⟨Nat.le_of_ble_eq_true rfl, Nat.le_of_ble_eq_true rfl⟩) (vR hP hK (rX_30 hK hP)) rfl rfl hl.1 rfl (lv_room (Nat.le_of_ble_eq_true rfl)) dX3_settleByNearest_13 ⟨Nat.le_of_ble_eq_true rfl, Nat.le_of_ble_eq_true rfl⟩) (fun r2 hr2 => ?_)
  obtain ⟨hr2, xr2_0⟩ := hr2
  have xr2_0 : (r2 : Int64).toInt = ((la 30 1) 1 * (la 30 0) 2 * (la 30 0) 0).toInt := xr2_0
  refine lv_lsub hx hb dX3_settleByNearest_16 ?_
  refine lv_topl (fun w3 ew3 => ?_)
  refine va_mabs_long hx hb (hml.trans hl.1.symm) hown (ht _ m_658) (ht _ m_632) (ht _ m_90) (ht _ m_633) (Nat.le_of_ble_eq_true rfl) (Nat.le_of_ble_eq_true rfl) (Nat.le_of_ble_eq_true rfl) (Nat.le_of_ble_eq_true rfl) dX3_settleByNearest_17 ?_
  refine lv_topl (fun w4 ew4 => ?_)
  have kp : w4 = absL ((la 30 1) 0 * (la 30 0) 1 * (la 30 0) 2 - (la 30 1) 1 * (la 30 0) 2 * (la 30 0) 0) := by rw [ew4, ew3, Int64.toInt_inj.mp xr1_0, Int64.toInt_inj.mp xr2_0]; rfl
  refine lv_lstore_n (lv' := [(1, .long w4), (0, .ref (g 11 5))]) hx hb dX3_settleByNearest_20 rfl hl (by decide) rfl (fun ls hl => ?_)
  refine lv_aload_n hx hb dX3_settleByNearest_21 rfl (lv_at hl 1 rfl) ?_
  refine gX_3_2 hx hb ht hown hK hP m_281 dX3_settleByNearest_22 ?_
  refine lv_iconst (v := 0) hx hb dX3_settleByNearest_25 (by decide) ?_
  refine vp_callSl (W.runV (As := [.int 0]) (rest := []) ⟨hx, hb, hml, hown, ht⟩ (c_X7_level_w0 l dC dI h g ca iv lv fa la hI) (kV 1 ht m_654 m_655 m_656 m_84 m_657 rfl rfl hd_X7_level_v ⟨Nat.le_of_ble_eq_true rfl, Nat.le_of_ble_eq_true rfl⟩) (vR hP hK (rX_30 hK hP)) rfl rfl hl.1 rfl (lv_room (Nat.le_of_ble_eq_true rfl)) dX3_settleByNearest_26 ⟨Nat.le_of_ble_eq_true rfl, Nat.le_of_ble_eq_true rfl⟩) (fun r5 hr5 => ?_)
  obtain ⟨hr5, xr5_0⟩ := hr5
  have xr5_0 : (r5 : Int64).toInt = ((la 30 1) 0 * (la 30 0) 1 * (la 30 0) 2).toInt := xr5_0
  refine lv_aload_n hx hb dX3_settleByNearest_29 rfl (lv_at hl 1 rfl) ?_
  refine gX_3_2 hx hb ht hown hK hP m_281 dX3_settleByNearest_30 ?_
  refine lv_iconst (v := 2) hx hb dX3_settleByNearest_33 (by decide) ?_
  refine vp_callSl (W.runV (As := [.int 2]) (rest := [.long r5]) ⟨hx, hb, hml, hown, ht⟩ (c_X7_level_w2 l dC dI h g ca iv lv fa la hI) (kV 1 ht m_654 m_655 m_656 m_84 m_657 rfl rfl hd_X7_level_v ⟨Nat.le_of_ble_eq_true rfl, Nat.le_of_ble_eq_true rfl⟩) (vR hP hK (rX_30 hK hP)) rfl rfl hl.1 rfl (lv_room (Nat.le_of_ble_eq_true rfl)) dX3_settleByNearest_34 ⟨Nat.le_of_ble_eq_true rfl, Nat.le_of_ble_eq_true rfl⟩) (fun r6 hr6 => ?_)
  obtain ⟨hr6, xr6_0⟩ := hr6
  have xr6_0 : (r6 : Int64).toInt = ((la 30 1) 2 * (la 30 0) 0 * (la 30 0) 1).toInt := xr6_0
  refine lv_lsub hx hb dX3_settleByNearest_37 ?_
  refine lv_topl (fun w7 ew7 => ?_)
  refine va_mabs_long hx hb (hml.trans hl.1.symm) hown (ht _ m_658) (ht _ m_632) (ht _ m_90) (ht _ m_633) (Nat.le_of_ble_eq_true rfl) (Nat.le_of_ble_eq_true rfl) (Nat.le_of_ble_eq_true rfl) (Nat.le_of_ble_eq_true rfl) dX3_settleByNearest_38 ?_
  refine lv_topl (fun w8 ew8 => ?_)
  have kq : w8 = absL ((la 30 1) 0 * (la 30 0) 1 * (la 30 0) 2 - (la 30 1) 2 * (la 30 0) 0 * (la 30 0) 1) := by rw [ew8, ew7, Int64.toInt_inj.mp xr5_0, Int64.toInt_inj.mp xr6_0]; rfl
  refine lv_lstore_n (lv' := [(3, .long w8), (1, .long w4), (0, .ref (g 11 5))]) hx hb dX3_settleByNearest_41 rfl hl (by decide) rfl (fun ls hl => ?_)
  refine lv_aload_n hx hb dX3_settleByNearest_42 rfl (lv_at hl 2 rfl) ?_
  refine gX_3_2 hx hb ht hown hK hP m_281 dX3_settleByNearest_43 ?_
  refine lv_iconst (v := 1) hx hb dX3_settleByNearest_46 (by decide) ?_
  refine vp_callSl (W.runV (As := [.int 1]) (rest := []) ⟨hx, hb, hml, hown, ht⟩ (c_X7_level_w1 l dC dI h g ca iv lv fa la hI) (kV 1 ht m_654 m_655 m_656 m_84 m_657 rfl rfl hd_X7_level_v ⟨Nat.le_of_ble_eq_true rfl, Nat.le_of_ble_eq_true rfl⟩) (vR hP hK (rX_30 hK hP)) rfl rfl hl.1 rfl (lv_room (Nat.le_of_ble_eq_true rfl)) dX3_settleByNearest_47 ⟨Nat.le_of_ble_eq_true rfl, Nat.le_of_ble_eq_true rfl⟩) (fun r9 hr9 => ?_)
  obtain ⟨hr9, xr9_0⟩ := hr9
  have xr9_0 : (r9 : Int64).toInt = ((la 30 1) 1 * (la 30 0) 2 * (la 30 0) 0).toInt := xr9_0
  refine lv_aload_n hx hb dX3_settleByNearest_50 rfl (lv_at hl 2 rfl) ?_
  refine gX_3_2 hx hb ht hown hK hP m_281 dX3_settleByNearest_51 ?_
  refine lv_iconst (v := 2) hx hb dX3_settleByNearest_54 (by decide) ?_
  refine vp_callSl (W.runV (As := [.int 2]) (rest := [.long r9]) ⟨hx, hb, hml, hown, ht⟩ (c_X7_level_w2 l dC dI h g ca iv lv fa la hI) (kV 1 ht m_654 m_655 m_656 m_84 m_657 rfl rfl hd_X7_level_v ⟨Nat.le_of_ble_eq_true rfl, Nat.le_of_ble_eq_true rfl⟩) (vR hP hK (rX_30 hK hP)) rfl rfl hl.1 rfl (lv_room (Nat.le_of_ble_eq_true rfl)) dX3_settleByNearest_55 ⟨Nat.le_of_ble_eq_true rfl, Nat.le_of_ble_eq_true rfl⟩) (fun r10 hr10 => ?_)
  obtain ⟨hr10, xr10_0⟩ := hr10
  have xr10_0 : (r10 : Int64).toInt = ((la 30 1) 2 * (la 30 0) 0 * (la 30 0) 1).toInt := xr10_0
  refine lv_lsub hx hb dX3_settleByNearest_58 ?_
  refine lv_topl (fun w11 ew11 => ?_)
  refine va_mabs_long hx hb (hml.trans hl.1.symm) hown (ht _ m_658) (ht _ m_632) (ht _ m_90) (ht _ m_633) (Nat.le_of_ble_eq_true rfl) (Nat.le_of_ble_eq_true rfl) (Nat.le_of_ble_eq_true rfl) (Nat.le_of_ble_eq_true rfl) dX3_settleByNearest_59 ?_
  refine lv_topl (fun w12 ew12 => ?_)
  have kr : w12 = absL ((la 30 1) 1 * (la 30 0) 2 * (la 30 0) 0 - (la 30 1) 2 * (la 30 0) 0 * (la 30 0) 1) := by rw [ew12, ew11, Int64.toInt_inj.mp xr9_0, Int64.toInt_inj.mp xr10_0]; rfl
  refine lv_lstore (lv' := [(5, .long w12), (3, .long w8), (1, .long w4), (0, .ref (g 11 5))]) hx hb dX3_settleByNearest_62 hl (by decide) rfl (fun ls hl => ?_)
  refine lv_lload_n hx hb dX3_settleByNearest_64 rfl (lv_at hl 2 rfl) ?_
  refine lv_lload_n hx hb dX3_settleByNearest_65 rfl (lv_at hl 1 rfl) ?_
  refine W.lcmp hx hb dX3_settleByNearest_66 ?_
  refine lv_topi (fun v13 ev13 => ?_)
  refine lv_if_gt (tgt := 84) hx hb dX3_settleByNearest_67 (by decide) (fun c14 => ?_) (fun c14 => ?_)
  · have fc14 := zc_gt ev13 (rfl : (w4).toInt = _) (rfl : (w8).toInt = _) c14
    refine lv_lload_n hx hb dX3_settleByNearest_84 rfl (lv_at hl 1 rfl) ?_
    refine lv_lload hx hb dX3_settleByNearest_85 (lv_at hl 0 rfl) ?_
    refine W.lcmp hx hb dX3_settleByNearest_87 ?_
    refine lv_topi (fun v15 ev15 => ?_)
    refine lv_if_gt (tgt := 100) hx hb dX3_settleByNearest_88 (by decide) (fun c16 => ?_) (fun c16 => ?_)
    · have fc16 := zc_gt ev15 (rfl : (w8).toInt = _) (rfl : (w12).toInt = _) c16
      refine lv_aload_n hx hb dX3_settleByNearest_100 rfl (lv_at hl 3 rfl) ?_
      refine lv_iconst (v := 1) hx hb dX3_settleByNearest_101 (by decide) ?_
      refine lv_iconst (v := 2) hx hb dX3_settleByNearest_102 (by decide) ?_
      have hFc := free_all hD hS hA
      refine va_calli (va_runV (As := [.int 1, .int 2]) (rest := []) ⟨hx, hb, hml, hown, ht⟩ (c_X3_settle_w l dC dI s.heap.size h g ca iv lv fa la hI 1 2 ⟨by decide, by decide⟩ ⟨by decide, by decide⟩) (kV 2 ht m_622 m_624 m_9 m_83 m_625 rfl rfl hd_X3_settle_v ⟨Nat.le_of_ble_eq_true rfl, Nat.le_of_ble_eq_true rfl⟩) (vW hP hK hD (rX_3 hK hP)) rfl rfl hl.1 rfl (lv_room (Nat.le_of_ble_eq_true rfl)) dX3_settleByNearest_103 ⟨Nat.le_of_ble_eq_true rfl, Nat.le_of_ble_eq_true rfl⟩) hS (fun q _ h => hFc q h) hFc (fun r17 u t H1 locs ht9 hvm hr17 hB hz1 hk1 hS => ?_)
      obtain ⟨n18, n19, hn18, hn19, xr17_0, xr17_1, xr17_2, hr17, rfl⟩ := hr17
      have hn18 : 0 ≤ n18.toInt ∧ n18.toInt ≤ 2 := hn18
      have hn19 : 0 ≤ n19.toInt ∧ n19.toInt ≤ 2 := hn19
      obtain ⟨hP, hD⟩ := hB
      rw [ht9] at hP
      generalize H1 = H at hP hS ⊢
      have hP : va_P (dC, dI) classes (WX h g ca (u2 (u2 iv 3 3 n18) 3 4 n19) lv fa la) H := hP
      have hD : va_D A (WX h g ca (u2 (u2 iv 3 3 n18) 3 4 n19) lv fa la) := (show va_D _ (WX h g ca (u2 (u2 iv 3 3 n18) 3 4 n19) lv fa la) from hD).weaken (fun _ _ _ h => hFc _ h)
      have : (1 : Int32).toInt = 1 := (by decide)
      have xr17_0 : (n18 : Int32).toInt = (1 : Int32).toInt := xr17_0
      have : (2 : Int32).toInt = 2 := (by decide)
      have xr17_1 : (n19 : Int32).toInt = (2 : Int32).toInt := xr17_1
      have xr17_2 : (r17 : Int32).toInt = 1 := xr17_2
      have hP9 : va_P (dC, dI) classes (WX h g ca (u2 (u2 iv 3 3 n18) 3 4 n19) lv fa la) H := hP
      have hD9 : va_D A (WX h g ca (u2 (u2 iv 3 3 n18) 3 4 n19) lv fa la) := hD
      exact W.iret (v := r17) hx hb hr (fun t ht9 hW => ⟨⟨r17, ((u2 (u2 iv 3 3 n18) 3 4 n19), lv, fa, la), rfl, ⟨n18, n19, (show inb (0, 2) n18 from ⟨by omega, by omega⟩), (show inb (0, 2) n19 from ⟨by omega, by omega⟩), (show nrR ((la 30 1) 0 * (la 30 0) 1 * (la 30 0) 2) ((la 30 1) 1 * (la 30 0) 2 * (la 30 0) 0) ((la 30 1) 2 * (la 30 0) 0 * (la 30 0) 1) (n18 : Int32).toInt (n19 : Int32).toInt from (by unfold nrR; rw [← kp, ← kq, ← kr]; omega)), (show (r17 : Int32).toInt = 1 from by omega), ⟨by omega, by omega⟩, rfl⟩, by rw [ht9]; exact hP9, hD9⟩, hS.F ht9⟩) hS.2.2 dX3_settleByNearest_106
    · have fc16 := zc_ngt ev15 (rfl : (w8).toInt = _) (rfl : (w12).toInt = _) c16
      refine lv_aload_n hx hb dX3_settleByNearest_91 rfl (lv_at hl 3 rfl) ?_
      refine lv_iconst (v := 0) hx hb dX3_settleByNearest_92 (by decide) ?_
      refine lv_iconst (v := 2) hx hb dX3_settleByNearest_93 (by decide) ?_
      have hFc := free_all hD hS hA
      refine va_calli (va_runV (As := [.int 0, .int 2]) (rest := []) ⟨hx, hb, hml, hown, ht⟩ (c_X3_settle_w l dC dI s.heap.size h g ca iv lv fa la hI 0 2 ⟨by decide, by decide⟩ ⟨by decide, by decide⟩) (kV 2 ht m_622 m_624 m_9 m_83 m_625 rfl rfl hd_X3_settle_v ⟨Nat.le_of_ble_eq_true rfl, Nat.le_of_ble_eq_true rfl⟩) (vW hP hK hD (rX_3 hK hP)) rfl rfl hl.1 rfl (lv_room (Nat.le_of_ble_eq_true rfl)) dX3_settleByNearest_94 ⟨Nat.le_of_ble_eq_true rfl, Nat.le_of_ble_eq_true rfl⟩) hS (fun q _ h => hFc q h) hFc (fun r20 u t H1 locs ht9 hvm hr20 hB hz1 hk1 hS => ?_)
      obtain ⟨n21, n22, hn21, hn22, xr20_0, xr20_1, xr20_2, hr20, rfl⟩ := hr20
      have hn21 : 0 ≤ n21.toInt ∧ n21.toInt ≤ 2 := hn21
      have hn22 : 0 ≤ n22.toInt ∧ n22.toInt ≤ 2 := hn22
      obtain ⟨hP, hD⟩ := hB
      rw [ht9] at hP
      generalize H1 = H at hP hS ⊢
      have hP : va_P (dC, dI) classes (WX h g ca (u2 (u2 iv 3 3 n21) 3 4 n22) lv fa la) H := hP
      have hD : va_D A (WX h g ca (u2 (u2 iv 3 3 n21) 3 4 n22) lv fa la) := (show va_D _ (WX h g ca (u2 (u2 iv 3 3 n21) 3 4 n22) lv fa la) from hD).weaken (fun _ _ _ h => hFc _ h)
      have : (0 : Int32).toInt = 0 := (by decide)
      have xr20_0 : (n21 : Int32).toInt = (0 : Int32).toInt := xr20_0
      have : (2 : Int32).toInt = 2 := (by decide)
      have xr20_1 : (n22 : Int32).toInt = (2 : Int32).toInt := xr20_1
      have xr20_2 : (r20 : Int32).toInt = 1 := xr20_2
      refine lv_goto (tgt := 106) hx hb dX3_settleByNearest_97 (by decide) ?_
      have hP9 : va_P (dC, dI) classes (WX h g ca (u2 (u2 iv 3 3 n21) 3 4 n22) lv fa la) H := hP
      have hD9 : va_D A (WX h g ca (u2 (u2 iv 3 3 n21) 3 4 n22) lv fa la) := hD
      exact W.iret (v := r20) hx hb hr (fun t ht9 hW => ⟨⟨r20, ((u2 (u2 iv 3 3 n21) 3 4 n22), lv, fa, la), rfl, ⟨n21, n22, (show inb (0, 2) n21 from ⟨by omega, by omega⟩), (show inb (0, 2) n22 from ⟨by omega, by omega⟩), (show nrR ((la 30 1) 0 * (la 30 0) 1 * (la 30 0) 2) ((la 30 1) 1 * (la 30 0) 2 * (la 30 0) 0) ((la 30 1) 2 * (la 30 0) 0 * (la 30 0) 1) (n21 : Int32).toInt (n22 : Int32).toInt from (by unfold nrR; rw [← kp, ← kq, ← kr]; omega)), (show (r20 : Int32).toInt = 1 from by omega), ⟨by omega, by omega⟩, rfl⟩, by rw [ht9]; exact hP9, hD9⟩, hS.F ht9⟩) hS.2.2 dX3_settleByNearest_106
  · have fc14 := zc_ngt ev13 (rfl : (w4).toInt = _) (rfl : (w8).toInt = _) c14
    refine lv_lload_n hx hb dX3_settleByNearest_70 rfl (lv_at hl 2 rfl) ?_
    refine lv_lload hx hb dX3_settleByNearest_71 (lv_at hl 0 rfl) ?_
    refine W.lcmp hx hb dX3_settleByNearest_73 ?_
    refine lv_topi (fun v23 ev23 => ?_)
    refine lv_if_gt (tgt := 84) hx hb dX3_settleByNearest_74 (by decide) (fun c24 => ?_) (fun c24 => ?_)
    · have fc24 := zc_gt ev23 (rfl : (w4).toInt = _) (rfl : (w12).toInt = _) c24
      refine lv_lload_n hx hb dX3_settleByNearest_84 rfl (lv_at hl 1 rfl) ?_
      refine lv_lload hx hb dX3_settleByNearest_85 (lv_at hl 0 rfl) ?_
      refine W.lcmp hx hb dX3_settleByNearest_87 ?_
      refine lv_topi (fun v25 ev25 => ?_)
      refine lv_if_gt (tgt := 100) hx hb dX3_settleByNearest_88 (by decide) (fun c26 => ?_) (fun c26 => ?_)
      · have fc26 := zc_gt ev25 (rfl : (w8).toInt = _) (rfl : (w12).toInt = _) c26
        refine lv_aload_n hx hb dX3_settleByNearest_100 rfl (lv_at hl 3 rfl) ?_
        refine lv_iconst (v := 1) hx hb dX3_settleByNearest_101 (by decide) ?_
        refine lv_iconst (v := 2) hx hb dX3_settleByNearest_102 (by decide) ?_
        have hFc := free_all hD hS hA
        refine va_calli (va_runV (As := [.int 1, .int 2]) (rest := []) ⟨hx, hb, hml, hown, ht⟩ (c_X3_settle_w l dC dI s.heap.size h g ca iv lv fa la hI 1 2 ⟨by decide, by decide⟩ ⟨by decide, by decide⟩) (kV 2 ht m_622 m_624 m_9 m_83 m_625 rfl rfl hd_X3_settle_v ⟨Nat.le_of_ble_eq_true rfl, Nat.le_of_ble_eq_true rfl⟩) (vW hP hK hD (rX_3 hK hP)) rfl rfl hl.1 rfl (lv_room (Nat.le_of_ble_eq_true rfl)) dX3_settleByNearest_103 ⟨Nat.le_of_ble_eq_true rfl, Nat.le_of_ble_eq_true rfl⟩) hS (fun q _ h => hFc q h) hFc (fun r27 u t H1 locs ht9 hvm hr27 hB hz1 hk1 hS => ?_)
        obtain ⟨n28, n29, hn28, hn29, xr27_0, xr27_1, xr27_2, hr27, rfl⟩ := hr27
        have hn28 : 0 ≤ n28.toInt ∧ n28.toInt ≤ 2 := hn28
        have hn29 : 0 ≤ n29.toInt ∧ n29.toInt ≤ 2 := hn29
        obtain ⟨hP, hD⟩ := hB
        rw [ht9] at hP
        generalize H1 = H at hP hS ⊢
        have hP : va_P (dC, dI) classes (WX h g ca (u2 (u2 iv 3 3 n28) 3 4 n29) lv fa la) H := hP
        have hD : va_D A (WX h g ca (u2 (u2 iv 3 3 n28) 3 4 n29) lv fa la) := (show va_D _ (WX h g ca (u2 (u2 iv 3 3 n28) 3 4 n29) lv fa la) from hD).weaken (fun _ _ _ h => hFc _ h)
        have : (1 : Int32).toInt = 1 := (by decide)
        have xr27_0 : (n28 : Int32).toInt = (1 : Int32).toInt := xr27_0
        have : (2 : Int32).toInt = 2 := (by decide)
        have xr27_1 : (n29 : Int32).toInt = (2 : Int32).toInt := xr27_1
        have xr27_2 : (r27 : Int32).toInt = 1 := xr27_2
        have hP9 : va_P (dC, dI) classes (WX h g ca (u2 (u2 iv 3 3 n28) 3 4 n29) lv fa la) H := hP
        have hD9 : va_D A (WX h g ca (u2 (u2 iv 3 3 n28) 3 4 n29) lv fa la) := hD
        exact W.iret (v := r27) hx hb hr (fun t ht9 hW => ⟨⟨r27, ((u2 (u2 iv 3 3 n28) 3 4 n29), lv, fa, la), rfl, ⟨n28, n29, (show inb (0, 2) n28 from ⟨by omega, by omega⟩), (show inb (0, 2) n29 from ⟨by omega, by omega⟩), (show nrR ((la 30 1) 0 * (la 30 0) 1 * (la 30 0) 2) ((la 30 1) 1 * (la 30 0) 2 * (la 30 0) 0) ((la 30 1) 2 * (la 30 0) 0 * (la 30 0) 1) (n28 : Int32).toInt (n29 : Int32).toInt from (by unfold nrR; rw [← kp, ← kq, ← kr]; omega)), (show (r27 : Int32).toInt = 1 from by omega), ⟨by omega, by omega⟩, rfl⟩, by rw [ht9]; exact hP9, hD9⟩, hS.F ht9⟩) hS.2.2 dX3_settleByNearest_106
      · have fc26 := zc_ngt ev25 (rfl : (w8).toInt = _) (rfl : (w12).toInt = _) c26
        refine lv_aload_n hx hb dX3_settleByNearest_91 rfl (lv_at hl 3 rfl) ?_
        refine lv_iconst (v := 0) hx hb dX3_settleByNearest_92 (by decide) ?_
        refine lv_iconst (v := 2) hx hb dX3_settleByNearest_93 (by decide) ?_
        have hFc := free_all hD hS hA
        refine va_calli (va_runV (As := [.int 0, .int 2]) (rest := []) ⟨hx, hb, hml, hown, ht⟩ (c_X3_settle_w l dC dI s.heap.size h g ca iv lv fa la hI 0 2 ⟨by decide, by decide⟩ ⟨by decide, by decide⟩) (kV 2 ht m_622 m_624 m_9 m_83 m_625 rfl rfl hd_X3_settle_v ⟨Nat.le_of_ble_eq_true rfl, Nat.le_of_ble_eq_true rfl⟩) (vW hP hK hD (rX_3 hK hP)) rfl rfl hl.1 rfl (lv_room (Nat.le_of_ble_eq_true rfl)) dX3_settleByNearest_94 ⟨Nat.le_of_ble_eq_true rfl, Nat.le_of_ble_eq_true rfl⟩) hS (fun q _ h => hFc q h) hFc (fun r30 u t H1 locs ht9 hvm hr30 hB hz1 hk1 hS => ?_)
        obtain ⟨n31, n32, hn31, hn32, xr30_0, xr30_1, xr30_2, hr30, rfl⟩ := hr30
        have hn31 : 0 ≤ n31.toInt ∧ n31.toInt ≤ 2 := hn31
        have hn32 : 0 ≤ n32.toInt ∧ n32.toInt ≤ 2 := hn32
        obtain ⟨hP, hD⟩ := hB
        rw [ht9] at hP
        generalize H1 = H at hP hS ⊢
        have hP : va_P (dC, dI) classes (WX h g ca (u2 (u2 iv 3 3 n31) 3 4 n32) lv fa la) H := hP
        have hD : va_D A (WX h g ca (u2 (u2 iv 3 3 n31) 3 4 n32) lv fa la) := (show va_D _ (WX h g ca (u2 (u2 iv 3 3 n31) 3 4 n32) lv fa la) from hD).weaken (fun _ _ _ h => hFc _ h)
        have : (0 : Int32).toInt = 0 := (by decide)
        have xr30_0 : (n31 : Int32).toInt = (0 : Int32).toInt := xr30_0
        have : (2 : Int32).toInt = 2 := (by decide)
        have xr30_1 : (n32 : Int32).toInt = (2 : Int32).toInt := xr30_1
        have xr30_2 : (r30 : Int32).toInt = 1 := xr30_2
        refine lv_goto (tgt := 106) hx hb dX3_settleByNearest_97 (by decide) ?_
        have hP9 : va_P (dC, dI) classes (WX h g ca (u2 (u2 iv 3 3 n31) 3 4 n32) lv fa la) H := hP
        have hD9 : va_D A (WX h g ca (u2 (u2 iv 3 3 n31) 3 4 n32) lv fa la) := hD
        exact W.iret (v := r30) hx hb hr (fun t ht9 hW => ⟨⟨r30, ((u2 (u2 iv 3 3 n31) 3 4 n32), lv, fa, la), rfl, ⟨n31, n32, (show inb (0, 2) n31 from ⟨by omega, by omega⟩), (show inb (0, 2) n32 from ⟨by omega, by omega⟩), (show nrR ((la 30 1) 0 * (la 30 0) 1 * (la 30 0) 2) ((la 30 1) 1 * (la 30 0) 2 * (la 30 0) 0) ((la 30 1) 2 * (la 30 0) 0 * (la 30 0) 1) (n31 : Int32).toInt (n32 : Int32).toInt from (by unfold nrR; rw [← kp, ← kq, ← kr]; omega)), (show (r30 : Int32).toInt = 1 from by omega), ⟨by omega, by omega⟩, rfl⟩, by rw [ht9]; exact hP9, hD9⟩, hS.F ht9⟩) hS.2.2 dX3_settleByNearest_106
    · have fc24 := zc_ngt ev23 (rfl : (w4).toInt = _) (rfl : (w12).toInt = _) c24
      refine lv_aload_n hx hb dX3_settleByNearest_77 rfl (lv_at hl 3 rfl) ?_
      refine lv_iconst (v := 0) hx hb dX3_settleByNearest_78 (by decide) ?_
      refine lv_iconst (v := 1) hx hb dX3_settleByNearest_79 (by decide) ?_
      have hFc := free_all hD hS hA
      refine va_calli (va_runV (As := [.int 0, .int 1]) (rest := []) ⟨hx, hb, hml, hown, ht⟩ (c_X3_settle_w l dC dI s.heap.size h g ca iv lv fa la hI 0 1 ⟨by decide, by decide⟩ ⟨by decide, by decide⟩) (kV 2 ht m_622 m_624 m_9 m_83 m_625 rfl rfl hd_X3_settle_v ⟨Nat.le_of_ble_eq_true rfl, Nat.le_of_ble_eq_true rfl⟩) (vW hP hK hD (rX_3 hK hP)) rfl rfl hl.1 rfl (lv_room (Nat.le_of_ble_eq_true rfl)) dX3_settleByNearest_80 ⟨Nat.le_of_ble_eq_true rfl, Nat.le_of_ble_eq_true rfl⟩) hS (fun q _ h => hFc q h) hFc (fun r33 u t H1 locs ht9 hvm hr33 hB hz1 hk1 hS => ?_)
      obtain ⟨n34, n35, hn34, hn35, xr33_0, xr33_1, xr33_2, hr33, rfl⟩ := hr33
      have hn34 : 0 ≤ n34.toInt ∧ n34.toInt ≤ 2 := hn34
      have hn35 : 0 ≤ n35.toInt ∧ n35.toInt ≤ 2 := hn35
      obtain ⟨hP, hD⟩ := hB
      rw [ht9] at hP
      generalize H1 = H at hP hS ⊢
      have hP : va_P (dC, dI) classes (WX h g ca (u2 (u2 iv 3 3 n34) 3 4 n35) lv fa la) H := hP
      have hD : va_D A (WX h g ca (u2 (u2 iv 3 3 n34) 3 4 n35) lv fa la) := (show va_D _ (WX h g ca (u2 (u2 iv 3 3 n34) 3 4 n35) lv fa la) from hD).weaken (fun _ _ _ h => hFc _ h)
      have : (0 : Int32).toInt = 0 := (by decide)
      have xr33_0 : (n34 : Int32).toInt = (0 : Int32).toInt := xr33_0
      have : (1 : Int32).toInt = 1 := (by decide)
      have xr33_1 : (n35 : Int32).toInt = (1 : Int32).toInt := xr33_1
      have xr33_2 : (r33 : Int32).toInt = 1 := xr33_2
      have hP9 : va_P (dC, dI) classes (WX h g ca (u2 (u2 iv 3 3 n34) 3 4 n35) lv fa la) H := hP
      have hD9 : va_D A (WX h g ca (u2 (u2 iv 3 3 n34) 3 4 n35) lv fa la) := hD
      exact W.iret (v := r33) hx hb hr (fun t ht9 hW => ⟨⟨r33, ((u2 (u2 iv 3 3 n34) 3 4 n35), lv, fa, la), rfl, ⟨n34, n35, (show inb (0, 2) n34 from ⟨by omega, by omega⟩), (show inb (0, 2) n35 from ⟨by omega, by omega⟩), (show nrR ((la 30 1) 0 * (la 30 0) 1 * (la 30 0) 2) ((la 30 1) 1 * (la 30 0) 2 * (la 30 0) 0) ((la 30 1) 2 * (la 30 0) 0 * (la 30 0) 1) (n34 : Int32).toInt (n35 : Int32).toInt from (by unfold nrR; rw [← kp, ← kq, ← kr]; omega)), (show (r33 : Int32).toInt = 1 from by omega), ⟨by omega, by omega⟩, rfl⟩, by rw [ht9]; exact hP9, hD9⟩, hS.F ht9⟩) hS.2.2 dX3_settleByNearest_83
set_option maxHeartbeats 4000000 in
set_option maxRecDepth 100000 in
/-- X3_middleLook -/
theorem c_X3_middleLook_w (l : Launch) (dC : Nat → ClassId) (dI : Nat → Nat → Nat) (h : Nat) (g : Nat → Nat → Nat) (ca : Nat → Nat → ClassId) (iv : Nat → Nat → Int32) (lv : Nat → Nat → Int64) (fa : Nat → Nat → Nat → Int32) (la : Nat → Nat → Nat → Int64) (hI : IX iv fa) : Met l yX3_middleLook (wc yX3_middleLook cX3_middleLook 3 (some .int)) ({ frames := 1, cells := 0, slots := 0, locals := 22 } : Room) (pR (dC, dI) classes (WX h g ca iv lv fa la) (TX ca) [.ref (g 11 5)]) (vp_Si (fun r => (0 ≤ r.toInt ∧ r.toInt ≤ 2) ∧ (r.toInt = ((mdN (la 30 1) (la 30 0) : Nat) : Int)))) 0 0 (fun _ => False) := by
  refine Met.ofW (cc := cX3_middleLook) (maxL := 3) (ret := (some .int)) (by decide) rfl ?_
  intro p e s m args below meth c s₁ B hml hv
  obtain ⟨rfl, hP, hK⟩ := hv
  have hx := B.exec
  have hb := B.bytes
  have hr := B.returns
  have ht := tb_tl (atoms_spec (ws := wc yX3_middleLook cX3_middleLook 3 (some .int)) B.pre)
  have hown : s.vm.findClass RX3 = some m.cls := findClass_of_methodNamed B.named
  have hlocks := B.notSynchronized
  have hl := lv_entry [.ref (g 11 5)] (n := 3) (Nat.le_of_ble_eq_true rfl)
  rw [lg_entry_eq]
  generalize (lg_sl [.ref (g 11 5)] ++ List.replicate (3 - (lg_sl [.ref (g 11 5)]).length) Slot.unset).toArray = ls at hl ⊢
  have hl : lv_has ls 3 [(0, .ref (g 11 5))] := hl
  refine lv_aload_n hx hb dX3_middleLook_0 rfl (lv_at hl 0 rfl) ?_
  refine lv_iconst (v := 0) hx hb dX3_middleLook_1 (by decide) ?_
  refine lv_iconst (v := 1) hx hb dX3_middleLook_2 (by decide) ?_
  refine vp_callSi (W.runV (As := [.int 0, .int 1]) (rest := []) ⟨hx, hb, hml, hown, ht⟩ (c_X3_lesserOf_w l dC dI h g ca iv lv fa la hI 0 1 ⟨by decide, by decide⟩ ⟨by decide, by decide⟩) (kV 2 ht m_638 m_640 m_11 m_83 m_641 rfl rfl hd_X3_lesserOf_v ⟨Nat.le_of_ble_eq_true rfl, Nat.le_of_ble_eq_true rfl⟩) (vR hP hK (rX_3 hK hP)) rfl rfl hl.1 rfl (lv_room (Nat.le_of_ble_eq_true rfl)) dX3_middleLook_3 ⟨Nat.le_of_ble_eq_true rfl, Nat.le_of_ble_eq_true rfl⟩) (fun r1 hr1 => ?_)
  obtain ⟨hr1, xr1_0, xr1_1⟩ := hr1
  have : (0 : Int32).toInt = 0 := (by decide)
  have : (1 : Int32).toInt = 1 := (by decide)
  have xr1_0 : (r1 : Int32).toInt = ((lsN (la 30 1) (la 30 0) ((0 : Int32).toInt).toNat ((1 : Int32).toInt).toNat : Nat) : Int) := xr1_0
  have xr1_1 : ((r1 : Int32).toInt = (0 : Int32).toInt ∨ (r1 : Int32).toInt = (1 : Int32).toInt) := xr1_1
  refine lv_istore_n (lv' := [(1, .int r1), (0, .ref (g 11 5))]) hx hb dX3_middleLook_6 rfl hl (by decide) rfl (fun ls hl => ?_)
  refine lv_iconst (v := 1) hx hb dX3_middleLook_7 (by decide) ?_
  refine lv_iload_n hx hb dX3_middleLook_8 rfl (lv_at hl 0 rfl) ?_
  refine lv_isub hx hb dX3_middleLook_9 ?_
  refine lv_topi (fun v2 ev2 => ?_)
  have tv2 := z_sub ev2 (by decide : (1 : Int32).toInt = 1) (rfl : (r1).toInt = _) (by omega) (by omega)
  refine lv_istore_n (lv' := [(2, .int v2), (1, .int r1), (0, .ref (g 11 5))]) hx hb dX3_middleLook_10 rfl hl (by decide) rfl (fun ls hl => ?_)
  refine lv_aload_n hx hb dX3_middleLook_11 rfl (lv_at hl 2 rfl) ?_
  refine lv_iload_n hx hb dX3_middleLook_12 rfl (lv_at hl 1 rfl) ?_
  refine lv_iconst (v := 2) hx hb dX3_middleLook_13 (by decide) ?_
  refine vp_callSi (W.runV (As := [.int r1, .int 2]) (rest := []) ⟨hx, hb, hml, hown, ht⟩ (c_X3_lesserOf_w l dC dI h g ca iv lv fa la hI r1 2 ⟨by omega, by omega⟩ ⟨by decide, by decide⟩) (kV 2 ht m_638 m_640 m_11 m_83 m_641 rfl rfl hd_X3_lesserOf_v ⟨Nat.le_of_ble_eq_true rfl, Nat.le_of_ble_eq_true rfl⟩) (vR hP hK (rX_3 hK hP)) rfl rfl hl.1 rfl (lv_room (Nat.le_of_ble_eq_true rfl)) dX3_middleLook_14 ⟨Nat.le_of_ble_eq_true rfl, Nat.le_of_ble_eq_true rfl⟩) (fun r3 hr3 => ?_)
  obtain ⟨hr3, xr3_0, xr3_1⟩ := hr3
  have : (2 : Int32).toInt = 2 := (by decide)
  have xr3_0 : (r3 : Int32).toInt = ((lsN (la 30 1) (la 30 0) ((r1 : Int32).toInt).toNat ((2 : Int32).toInt).toNat : Nat) : Int) := xr3_0
  have xr3_1 : ((r3 : Int32).toInt = (r1 : Int32).toInt ∨ (r3 : Int32).toInt = (2 : Int32).toInt) := xr3_1
  refine lv_iconst (v := 2) hx hb dX3_middleLook_17 (by decide) ?_
  refine lv_icmp_ne (tgt := 23) hx hb dX3_middleLook_18 (by decide) (fun c4 => ?_) (fun c4 => ?_)
  · have fc4 := z_ne (rfl : (r3).toInt = _) (by decide : (2 : Int32).toInt = 2) c4
    refine lv_aload_n hx hb dX3_middleLook_23 rfl (lv_at hl 2 rfl) ?_
    refine lv_iload_n hx hb dX3_middleLook_24 rfl (lv_at hl 0 rfl) ?_
    refine lv_iconst (v := 2) hx hb dX3_middleLook_25 (by decide) ?_
    have : 0 ≤ (v2 : Int32).toInt ∧ (v2 : Int32).toInt ≤ 2 := ⟨by omega, by omega⟩
    refine vp_callSi (W.runV (As := [.int v2, .int 2]) (rest := []) ⟨hx, hb, hml, hown, ht⟩ (c_X3_lesserOf_w l dC dI h g ca iv lv fa la hI v2 2 ⟨by omega, by omega⟩ ⟨by decide, by decide⟩) (kV 2 ht m_638 m_640 m_11 m_83 m_641 rfl rfl hd_X3_lesserOf_v ⟨Nat.le_of_ble_eq_true rfl, Nat.le_of_ble_eq_true rfl⟩) (vR hP hK (rX_3 hK hP)) rfl rfl hl.1 rfl (lv_room (Nat.le_of_ble_eq_true rfl)) dX3_middleLook_26 ⟨Nat.le_of_ble_eq_true rfl, Nat.le_of_ble_eq_true rfl⟩) (fun r5 hr5 => ?_)
    obtain ⟨hr5, xr5_0, xr5_1⟩ := hr5
    have xr5_0 : (r5 : Int32).toInt = ((lsN (la 30 1) (la 30 0) ((v2 : Int32).toInt).toNat ((2 : Int32).toInt).toNat : Nat) : Int) := xr5_0
    have xr5_1 : ((r5 : Int32).toInt = (v2 : Int32).toInt ∨ (r5 : Int32).toInt = (2 : Int32).toInt) := xr5_1
    refine lv_iconst (v := 2) hx hb dX3_middleLook_29 (by decide) ?_
    refine lv_icmp_ne (tgt := 37) hx hb dX3_middleLook_30 (by decide) (fun c6 => ?_) (fun c6 => ?_)
    · have fc6 := z_ne (rfl : (r5).toInt = _) (by decide : (2 : Int32).toInt = 2) c6
      refine lv_iload_n hx hb dX3_middleLook_37 rfl (lv_at hl 0 rfl) ?_
      exact W.iret (v := v2) hx hb hr (fun t ht9 hW => ⟨v2, rfl, ⟨⟨by omega, by omega⟩, (show (v2 : Int32).toInt = ((mdN (la 30 1) (la 30 0) : Nat) : Int) from (by have h1 : (r1 : Int32).toInt = ((lsN (la 30 1) (la 30 0) 0 1 : Nat) : Int) := xr1_0; have h0 : (r1 : Int32).toInt.toNat = lsN (la 30 1) (la 30 0) 0 1 := (by omega); have h2 : (r3 : Int32).toInt = ((lsN (la 30 1) (la 30 0) (r1 : Int32).toInt.toNat 2 : Nat) : Int) := xr3_0; rw [h0] at h2; have h4 : (v2 : Int32).toInt.toNat = 1 - lsN (la 30 1) (la 30 0) 0 1 := (by omega); have h3 : (r5 : Int32).toInt = ((lsN (la 30 1) (la 30 0) (v2 : Int32).toInt.toNat 2 : Nat) : Int) := xr5_0; rw [h4] at h3; unfold mdN; rw [if_neg (by omega), if_neg (by omega)]; omega))⟩, ht9⟩) (fun q hq => by cases hq) dX3_middleLook_38
    · have fc6 := z_eq (rfl : (r5).toInt = _) (by decide : (2 : Int32).toInt = 2) c6
      refine lv_iconst (v := 2) hx hb dX3_middleLook_33 (by decide) ?_
      refine lv_goto (tgt := 38) hx hb dX3_middleLook_34 (by decide) ?_
      exact W.iret (v := 2) hx hb hr (fun t ht9 hW => ⟨2, rfl, ⟨⟨by decide, by decide⟩, (show (2 : Int32).toInt = ((mdN (la 30 1) (la 30 0) : Nat) : Int) from (by have h1 : (r1 : Int32).toInt = ((lsN (la 30 1) (la 30 0) 0 1 : Nat) : Int) := xr1_0; have h0 : (r1 : Int32).toInt.toNat = lsN (la 30 1) (la 30 0) 0 1 := (by omega); have h2 : (r3 : Int32).toInt = ((lsN (la 30 1) (la 30 0) (r1 : Int32).toInt.toNat 2 : Nat) : Int) := xr3_0; rw [h0] at h2; have h4 : (v2 : Int32).toInt.toNat = 1 - lsN (la 30 1) (la 30 0) 0 1 := (by omega); have h3 : (r5 : Int32).toInt = ((lsN (la 30 1) (la 30 0) (v2 : Int32).toInt.toNat 2 : Nat) : Int) := xr5_0; rw [h4] at h3; unfold mdN; rw [if_neg (by omega), if_pos (by omega)]; omega))⟩, ht9⟩) (fun q hq => by cases hq) dX3_middleLook_38
  · have fc4 := z_eq (rfl : (r3).toInt = _) (by decide : (2 : Int32).toInt = 2) c4
    refine lv_iload_n hx hb dX3_middleLook_21 rfl (lv_at hl 1 rfl) ?_
    exact W.iret (v := r1) hx hb hr (fun t ht9 hW => ⟨r1, rfl, ⟨⟨by omega, by omega⟩, (show (r1 : Int32).toInt = ((mdN (la 30 1) (la 30 0) : Nat) : Int) from (by have h1 : (r1 : Int32).toInt = ((lsN (la 30 1) (la 30 0) 0 1 : Nat) : Int) := xr1_0; have h0 : (r1 : Int32).toInt.toNat = lsN (la 30 1) (la 30 0) 0 1 := (by omega); have h2 : (r3 : Int32).toInt = ((lsN (la 30 1) (la 30 0) (r1 : Int32).toInt.toNat 2 : Nat) : Int) := xr3_0; rw [h0] at h2; rw [show mdN (la 30 1) (la 30 0) = lsN (la 30 1) (la 30 0) 0 1 from if_pos (by omega)]; omega))⟩, ht9⟩) (fun q hq => by cases hq) dX3_middleLook_22
set_option maxHeartbeats 4000000 in
set_option maxRecDepth 100000 in
/-- X3_settleByThree -/
theorem c_X3_settleByThree_w (l : Launch) (dC : Nat → ClassId) (dI : Nat → Nat → Nat) (sz : Nat) (h : Nat) (g : Nat → Nat → Nat) (ca : Nat → Nat → ClassId) (iv : Nat → Nat → Int32) (lv : Nat → Nat → Int64) (fa : Nat → Nat → Nat → Int32) (la : Nat → Nat → Nat → Int64) (hI : IX iv fa) (a : Int32) : Met l yX3_settleByThree (wc yX3_settleByThree cX3_settleByThree 3 (some .int)) ({ frames := 2, cells := 0, slots := 0, locals := 66 } : Room) (pW (dC, dI) classes (WX h g ca iv lv fa la) (TX ca) sz [.ref (g 11 5), .int a]) (va_Qi (fun r (u : SS) => ∃ (ni_3_3 : Int32) (ni_3_4 : Int32), inb (bI 3 3) ni_3_3 ∧ inb (bI 3 4) ni_3_4 ∧ (thX (la 30 1) (la 30 0) (ni_3_3).toInt (ni_3_4).toInt a.toInt) ∧ (r.toInt = 1) ∧ (1 ≤ r.toInt ∧ r.toInt ≤ 1) ∧ u = ((u2 (u2 iv 3 3 ni_3_3) 3 4 ni_3_4), lv, fa, la)) (bX (dC, dI) h g ca (va_A (WX h g ca iv lv fa la) sz)) (va_A (WX h g ca iv lv fa la) sz)) 0 0 (va_A (WX h g ca iv lv fa la) sz) := by
  refine Met.ofW (cc := cX3_settleByThree) (maxL := 3) (ret := (some .int)) (by decide) rfl ?_
  intro p e s m args below meth c s₁ B hml hv
  obtain ⟨rfl, hsz, hP, hK, hD0⟩ := hv
  have hx := B.exec
  have hb := B.bytes
  have hr := B.returns
  have ht := tb_tl (atoms_spec (ws := wc yX3_settleByThree cX3_settleByThree 3 (some .int)) B.pre)
  have hown : s.vm.findClass RX3 = some m.cls := findClass_of_methodNamed B.named
  have hlocks := B.notSynchronized
  subst hsz
  have hD := hD0.self (sz := s.heap.size)
  generalize hAe : va_A (WX h g ca iv lv fa la) s.heap.size = A at hD ⊢
  have hA : ∀ q : Nat, s.heap.size ≤ q → A q := fun q h => by rw [← hAe]; exact Or.inr h
  have hS : va_S A s.heap s.heap [] := va_S.rf
  have hl := lv_entry [.ref (g 11 5), .int a] (n := 3) (Nat.le_of_ble_eq_true rfl)
  rw [lg_entry_eq]
  generalize (lg_sl [.ref (g 11 5), .int a] ++ List.replicate (3 - (lg_sl [.ref (g 11 5), .int a]).length) Slot.unset).toArray = ls at hl ⊢
  have hl : lv_has ls 3 [(0, .ref (g 11 5)), (1, .int a)] := hl
  refine lv_iload_n hx hb dX3_settleByThree_0 rfl (lv_at hl 1 rfl) ?_
  refine lv_iconst (v := 1) hx hb dX3_settleByThree_1 (by decide) ?_
  refine lv_icmp_ne (tgt := 24) hx hb dX3_settleByThree_2 (by decide) (fun c1 => ?_) (fun c1 => ?_)
  · have fc1 := z_ne (rfl : (a).toInt = _) (by decide : (1 : Int32).toInt = 1) c1
    refine lv_iload_n hx hb dX3_settleByThree_24 rfl (lv_at hl 1 rfl) ?_
    refine lv_iconst (v := 2) hx hb dX3_settleByThree_25 (by decide) ?_
    refine lv_icmp_ne (tgt := 41) hx hb dX3_settleByThree_26 (by decide) (fun c2 => ?_) (fun c2 => ?_)
    · have fc2 := z_ne (rfl : (a).toInt = _) (by decide : (2 : Int32).toInt = 2) c2
      refine lv_aload_n hx hb dX3_settleByThree_41 rfl (lv_at hl 0 rfl) ?_
      have hFc := free_all hD hS hA
      refine va_calli (va_runV (As := []) (rest := []) ⟨hx, hb, hml, hown, ht⟩ (c_X3_settleByNearest_w l dC dI s.heap.size h g ca iv lv fa la hI) (kV 0 ht m_650 m_652 m_14 m_83 m_653 rfl rfl hd_X3_settleByNearest_v ⟨Nat.le_of_ble_eq_true rfl, Nat.le_of_ble_eq_true rfl⟩) (vW hP hK hD (rX_3 hK hP)) rfl rfl hl.1 rfl (lv_room (Nat.le_of_ble_eq_true rfl)) dX3_settleByThree_42 ⟨Nat.le_of_ble_eq_true rfl, Nat.le_of_ble_eq_true rfl⟩) hS (fun q _ h => hFc q h) hFc (fun r3 u t H1 locs ht9 hvm hr3 hB hz1 hk1 hS => ?_)
      obtain ⟨n4, n5, hn4, hn5, xr3_0, xr3_1, hr3, rfl⟩ := hr3
      have hn4 : 0 ≤ n4.toInt ∧ n4.toInt ≤ 2 := hn4
      have hn5 : 0 ≤ n5.toInt ∧ n5.toInt ≤ 2 := hn5
      obtain ⟨hP, hD⟩ := hB
      rw [ht9] at hP
      generalize H1 = H at hP hS ⊢
      have hP : va_P (dC, dI) classes (WX h g ca (u2 (u2 iv 3 3 n4) 3 4 n5) lv fa la) H := hP
      have hD : va_D A (WX h g ca (u2 (u2 iv 3 3 n4) 3 4 n5) lv fa la) := (show va_D _ (WX h g ca (u2 (u2 iv 3 3 n4) 3 4 n5) lv fa la) from hD).weaken (fun _ _ _ h => hFc _ h)
      have xr3_0 : nrR ((la 30 1) 0 * (la 30 0) 1 * (la 30 0) 2) ((la 30 1) 1 * (la 30 0) 2 * (la 30 0) 0) ((la 30 1) 2 * (la 30 0) 0 * (la 30 0) 1) (n4 : Int32).toInt (n5 : Int32).toInt := xr3_0
      have xr3_1 : (r3 : Int32).toInt = 1 := xr3_1
      have hP9 : va_P (dC, dI) classes (WX h g ca (u2 (u2 iv 3 3 n4) 3 4 n5) lv fa la) H := hP
      have hD9 : va_D A (WX h g ca (u2 (u2 iv 3 3 n4) 3 4 n5) lv fa la) := hD
      exact W.iret (v := r3) hx hb hr (fun t ht9 hW => ⟨⟨r3, ((u2 (u2 iv 3 3 n4) 3 4 n5), lv, fa, la), rfl, ⟨n4, n5, (show inb (0, 2) n4 from ⟨by omega, by omega⟩), (show inb (0, 2) n5 from ⟨by omega, by omega⟩), (show thX (la 30 1) (la 30 0) (n4 : Int32).toInt (n5 : Int32).toInt (a).toInt from (by unfold thX; exact Or.inr (Or.inr ⟨by omega, by omega, xr3_0⟩))), (show (r3 : Int32).toInt = 1 from by omega), ⟨by omega, by omega⟩, rfl⟩, by rw [ht9]; exact hP9, hD9⟩, hS.F ht9⟩) hS.2.2 dX3_settleByThree_45
    · have fc2 := z_eq (rfl : (a).toInt = _) (by decide : (2 : Int32).toInt = 2) c2
      refine lv_aload_n hx hb dX3_settleByThree_29 rfl (lv_at hl 0 rfl) ?_
      refine vp_callSi (W.runV (As := []) (rest := []) ⟨hx, hb, hml, hown, ht⟩ (c_X3_middleLook_w l dC dI h g ca iv lv fa la hI) (kV 0 ht m_646 m_648 m_13 m_83 m_649 rfl rfl hd_X3_middleLook_v ⟨Nat.le_of_ble_eq_true rfl, Nat.le_of_ble_eq_true rfl⟩) (vR hP hK (rX_3 hK hP)) rfl rfl hl.1 rfl (lv_room (Nat.le_of_ble_eq_true rfl)) dX3_settleByThree_30 ⟨Nat.le_of_ble_eq_true rfl, Nat.le_of_ble_eq_true rfl⟩) (fun r6 hr6 => ?_)
      obtain ⟨hr6, xr6_0⟩ := hr6
      have xr6_0 : (r6 : Int32).toInt = ((mdN (la 30 1) (la 30 0) : Nat) : Int) := xr6_0
      refine lv_istore_n (lv' := [(2, .int r6), (0, .ref (g 11 5)), (1, .int a)]) hx hb dX3_settleByThree_33 rfl hl (by decide) rfl (fun ls hl => ?_)
      refine lv_aload_n hx hb dX3_settleByThree_34 rfl (lv_at hl 1 rfl) ?_
      refine lv_iload_n hx hb dX3_settleByThree_35 rfl (lv_at hl 0 rfl) ?_
      refine lv_iload_n hx hb dX3_settleByThree_36 rfl (lv_at hl 0 rfl) ?_
      have hFc := free_all hD hS hA
      refine va_calli (va_runV (As := [.int r6, .int r6]) (rest := []) ⟨hx, hb, hml, hown, ht⟩ (c_X3_settle_w l dC dI s.heap.size h g ca iv lv fa la hI r6 r6 ⟨by omega, by omega⟩ ⟨by omega, by omega⟩) (kV 2 ht m_622 m_624 m_9 m_83 m_625 rfl rfl hd_X3_settle_v ⟨Nat.le_of_ble_eq_true rfl, Nat.le_of_ble_eq_true rfl⟩) (vW hP hK hD (rX_3 hK hP)) rfl rfl hl.1 rfl (lv_room (Nat.le_of_ble_eq_true rfl)) dX3_settleByThree_37 ⟨Nat.le_of_ble_eq_true rfl, Nat.le_of_ble_eq_true rfl⟩) hS (fun q _ h => hFc q h) hFc (fun r7 u t H1 locs ht9 hvm hr7 hB hz1 hk1 hS => ?_)
      obtain ⟨n8, n9, hn8, hn9, xr7_0, xr7_1, xr7_2, hr7, rfl⟩ := hr7
      have hn8 : 0 ≤ n8.toInt ∧ n8.toInt ≤ 2 := hn8
      have hn9 : 0 ≤ n9.toInt ∧ n9.toInt ≤ 2 := hn9
      obtain ⟨hP, hD⟩ := hB
      rw [ht9] at hP
      generalize H1 = H at hP hS ⊢
      have hP : va_P (dC, dI) classes (WX h g ca (u2 (u2 iv 3 3 n8) 3 4 n9) lv fa la) H := hP
      have hD : va_D A (WX h g ca (u2 (u2 iv 3 3 n8) 3 4 n9) lv fa la) := (show va_D _ (WX h g ca (u2 (u2 iv 3 3 n8) 3 4 n9) lv fa la) from hD).weaken (fun _ _ _ h => hFc _ h)
      have xr7_0 : (n8 : Int32).toInt = (r6 : Int32).toInt := xr7_0
      have xr7_1 : (n9 : Int32).toInt = (r6 : Int32).toInt := xr7_1
      have xr7_2 : (r7 : Int32).toInt = 1 := xr7_2
      have hP9 : va_P (dC, dI) classes (WX h g ca (u2 (u2 iv 3 3 n8) 3 4 n9) lv fa la) H := hP
      have hD9 : va_D A (WX h g ca (u2 (u2 iv 3 3 n8) 3 4 n9) lv fa la) := hD
      exact W.iret (v := r7) hx hb hr (fun t ht9 hW => ⟨⟨r7, ((u2 (u2 iv 3 3 n8) 3 4 n9), lv, fa, la), rfl, ⟨n8, n9, (show inb (0, 2) n8 from ⟨by omega, by omega⟩), (show inb (0, 2) n9 from ⟨by omega, by omega⟩), (show thX (la 30 1) (la 30 0) (n8 : Int32).toInt (n9 : Int32).toInt (a).toInt from (by have h2 := xr6_0; unfold thX; exact Or.inr (Or.inl ⟨by omega, by omega, by omega⟩))), (show (r7 : Int32).toInt = 1 from by omega), ⟨by omega, by omega⟩, rfl⟩, by rw [ht9]; exact hP9, hD9⟩, hS.F ht9⟩) hS.2.2 dX3_settleByThree_40
  · have fc1 := z_eq (rfl : (a).toInt = _) (by decide : (1 : Int32).toInt = 1) c1
    refine lv_aload_n hx hb dX3_settleByThree_5 rfl (lv_at hl 0 rfl) ?_
    refine lv_aload_n hx hb dX3_settleByThree_6 rfl (lv_at hl 0 rfl) ?_
    refine lv_iconst (v := 0) hx hb dX3_settleByThree_7 (by decide) ?_
    refine lv_iconst (v := 1) hx hb dX3_settleByThree_8 (by decide) ?_
    refine vp_callSi (W.runV (As := [.int 0, .int 1]) (rest := [.ref (g 11 5)]) ⟨hx, hb, hml, hown, ht⟩ (c_X3_lesserOf_w l dC dI h g ca iv lv fa la hI 0 1 ⟨by decide, by decide⟩ ⟨by decide, by decide⟩) (kV 2 ht m_638 m_640 m_11 m_83 m_641 rfl rfl hd_X3_lesserOf_v ⟨Nat.le_of_ble_eq_true rfl, Nat.le_of_ble_eq_true rfl⟩) (vR hP hK (rX_3 hK hP)) rfl rfl hl.1 rfl (lv_room (Nat.le_of_ble_eq_true rfl)) dX3_settleByThree_9 ⟨Nat.le_of_ble_eq_true rfl, Nat.le_of_ble_eq_true rfl⟩) (fun r10 hr10 => ?_)
    obtain ⟨hr10, xr10_0, xr10_1⟩ := hr10
    have : (0 : Int32).toInt = 0 := (by decide)
    have : (1 : Int32).toInt = 1 := (by decide)
    have xr10_0 : (r10 : Int32).toInt = ((lsN (la 30 1) (la 30 0) ((0 : Int32).toInt).toNat ((1 : Int32).toInt).toNat : Nat) : Int) := xr10_0
    have xr10_1 : ((r10 : Int32).toInt = (0 : Int32).toInt ∨ (r10 : Int32).toInt = (1 : Int32).toInt) := xr10_1
    refine lv_iconst (v := 2) hx hb dX3_settleByThree_12 (by decide) ?_
    refine vp_callSi (W.runV (As := [.int r10, .int 2]) (rest := []) ⟨hx, hb, hml, hown, ht⟩ (c_X3_lesserOf_w l dC dI h g ca iv lv fa la hI r10 2 ⟨by omega, by omega⟩ ⟨by decide, by decide⟩) (kV 2 ht m_638 m_640 m_11 m_83 m_641 rfl rfl hd_X3_lesserOf_v ⟨Nat.le_of_ble_eq_true rfl, Nat.le_of_ble_eq_true rfl⟩) (vR hP hK (rX_3 hK hP)) rfl rfl hl.1 rfl (lv_room (Nat.le_of_ble_eq_true rfl)) dX3_settleByThree_13 ⟨Nat.le_of_ble_eq_true rfl, Nat.le_of_ble_eq_true rfl⟩) (fun r11 hr11 => ?_)
    obtain ⟨hr11, xr11_0, xr11_1⟩ := hr11
    have : (2 : Int32).toInt = 2 := (by decide)
    have xr11_0 : (r11 : Int32).toInt = ((lsN (la 30 1) (la 30 0) ((r10 : Int32).toInt).toNat ((2 : Int32).toInt).toNat : Nat) : Int) := xr11_0
    have xr11_1 : ((r11 : Int32).toInt = (r10 : Int32).toInt ∨ (r11 : Int32).toInt = (2 : Int32).toInt) := xr11_1
    refine lv_istore_n (lv' := [(2, .int r11), (0, .ref (g 11 5)), (1, .int a)]) hx hb dX3_settleByThree_16 rfl hl (by decide) rfl (fun ls hl => ?_)
    refine lv_aload_n hx hb dX3_settleByThree_17 rfl (lv_at hl 1 rfl) ?_
    refine lv_iload_n hx hb dX3_settleByThree_18 rfl (lv_at hl 0 rfl) ?_
    refine lv_iload_n hx hb dX3_settleByThree_19 rfl (lv_at hl 0 rfl) ?_
    have hFc := free_all hD hS hA
    refine va_calli (va_runV (As := [.int r11, .int r11]) (rest := []) ⟨hx, hb, hml, hown, ht⟩ (c_X3_settle_w l dC dI s.heap.size h g ca iv lv fa la hI r11 r11 ⟨by omega, by omega⟩ ⟨by omega, by omega⟩) (kV 2 ht m_622 m_624 m_9 m_83 m_625 rfl rfl hd_X3_settle_v ⟨Nat.le_of_ble_eq_true rfl, Nat.le_of_ble_eq_true rfl⟩) (vW hP hK hD (rX_3 hK hP)) rfl rfl hl.1 rfl (lv_room (Nat.le_of_ble_eq_true rfl)) dX3_settleByThree_20 ⟨Nat.le_of_ble_eq_true rfl, Nat.le_of_ble_eq_true rfl⟩) hS (fun q _ h => hFc q h) hFc (fun r12 u t H1 locs ht9 hvm hr12 hB hz1 hk1 hS => ?_)
    obtain ⟨n13, n14, hn13, hn14, xr12_0, xr12_1, xr12_2, hr12, rfl⟩ := hr12
    have hn13 : 0 ≤ n13.toInt ∧ n13.toInt ≤ 2 := hn13
    have hn14 : 0 ≤ n14.toInt ∧ n14.toInt ≤ 2 := hn14
    obtain ⟨hP, hD⟩ := hB
    rw [ht9] at hP
    generalize H1 = H at hP hS ⊢
    have hP : va_P (dC, dI) classes (WX h g ca (u2 (u2 iv 3 3 n13) 3 4 n14) lv fa la) H := hP
    have hD : va_D A (WX h g ca (u2 (u2 iv 3 3 n13) 3 4 n14) lv fa la) := (show va_D _ (WX h g ca (u2 (u2 iv 3 3 n13) 3 4 n14) lv fa la) from hD).weaken (fun _ _ _ h => hFc _ h)
    have xr12_0 : (n13 : Int32).toInt = (r11 : Int32).toInt := xr12_0
    have xr12_1 : (n14 : Int32).toInt = (r11 : Int32).toInt := xr12_1
    have xr12_2 : (r12 : Int32).toInt = 1 := xr12_2
    have hP9 : va_P (dC, dI) classes (WX h g ca (u2 (u2 iv 3 3 n13) 3 4 n14) lv fa la) H := hP
    have hD9 : va_D A (WX h g ca (u2 (u2 iv 3 3 n13) 3 4 n14) lv fa la) := hD
    exact W.iret (v := r12) hx hb hr (fun t ht9 hW => ⟨⟨r12, ((u2 (u2 iv 3 3 n13) 3 4 n14), lv, fa, la), rfl, ⟨n13, n14, (show inb (0, 2) n13 from ⟨by omega, by omega⟩), (show inb (0, 2) n14 from ⟨by omega, by omega⟩), (show thX (la 30 1) (la 30 0) (n13 : Int32).toInt (n14 : Int32).toInt (a).toInt from (by have h1 : (r10 : Int32).toInt = ((lsN (la 30 1) (la 30 0) 0 1 : Nat) : Int) := xr10_0; have h0 : (r10 : Int32).toInt.toNat = lsN (la 30 1) (la 30 0) 0 1 := (by omega); have h2 : (r11 : Int32).toInt = ((lsN (la 30 1) (la 30 0) (r10 : Int32).toInt.toNat 2 : Nat) : Int) := xr11_0; rw [h0] at h2; unfold thX; exact Or.inl ⟨by omega, by omega, by omega⟩)), (show (r12 : Int32).toInt = 1 from by omega), ⟨by omega, by omega⟩, rfl⟩, by rw [ht9]; exact hP9, hD9⟩, hS.F ht9⟩) hS.2.2 dX3_settleByThree_23
/-! ===== la3 ===== -/
set_option maxHeartbeats 4000000 in
set_option maxRecDepth 100000 in
/-- X3_weighUp -/
theorem c_X3_weighUp_w (l : Launch) (dC : Nat → ClassId) (dI : Nat → Nat → Nat) (sz : Nat) (ak av : Nat → Nat) (h : Nat) (g : Nat → Nat → Nat) (ca : Nat → Nat → ClassId) (iv : Nat → Nat → Int32) (lv : Nat → Nat → Int64) (fa : Nat → Nat → Nat → Int32) (la : Nat → Nat → Nat → Int64) (hI : IX iv fa) (a : Int32) (b : Int32) (hJB : ∀ j : Nat, (j : Int) < (iv 1 7).toInt → 0 ≤ (fa 1 0 j).toInt) : Met l yX3_weighUp (wc yX3_weighUp cX3_weighUp 5 (some .int)) ({ frames := 4, cells := 0, slots := 0, locals := 93 } : Room) (pWZ ak av (dC, dI) classes (WX h g ca iv lv fa la) (TX ca) sz [.ref (g 11 5), .int a, .int b]) (va_Qi (fun r (u : SS) => ∃ (na_1_6 : Nat → Int32) (na_30_2 : Nat → Int32) (nb_30_0 : Nat → Int64) (nb_30_1 : Nat → Int64) (ni_3_3 : Int32) (ni_3_4 : Int32), (∀ j, inb (bA 1 6 j) (na_1_6 j)) ∧ inb (bI 3 3) ni_3_3 ∧ inb (bI 3 4) ni_3_4 ∧ (LwS (fun q v => FoX (iv 1 7).toInt (fa 1 0) (fa 1 1) (fa 1 2) (fa 1 3) q b.toInt v) (fa 10 0) a.toInt b.toInt ((iv 10 1).toInt).toNat nb_30_1 nb_30_0 na_30_2 (ni_3_3).toInt (ni_3_4).toInt r.toInt) ∧ (0 ≤ r.toInt ∧ r.toInt ≤ 2) ∧ u = ((u2 (u2 iv 3 3 ni_3_3) 3 4 ni_3_4), lv, (u2 (u2 fa 1 6 na_1_6) 30 2 na_30_2), (u2 (u2 la 30 0 nb_30_0) 30 1 nb_30_1))) (bX (dC, dI) h g ca (va_A (WX h g ca iv lv fa la) sz)) (va_A (WX h g ca iv lv fa la) sz)) 0 0 (va_A (WX h g ca iv lv fa la) sz) := by
  refine Met.ofW (cc := cX3_weighUp) (maxL := 5) (ret := (some .int)) (by decide) rfl ?_
  intro p e s m args below meth c s₁ B hml hv
  obtain ⟨rfl, hsz, hP, hK, hD0, hZ⟩ := hv
  have hx := B.exec
  have hb := B.bytes
  have hr := B.returns
  have ht := tb_tl (atoms_spec (ws := wc yX3_weighUp cX3_weighUp 5 (some .int)) B.pre)
  have hown : s.vm.findClass RX3 = some m.cls := findClass_of_methodNamed B.named
  have hlocks := B.notSynchronized
  subst hsz
  have hD := hD0.self (sz := s.heap.size)
  generalize hAe : va_A (WX h g ca iv lv fa la) s.heap.size = A at hD hZ ⊢
  have hA : ∀ q : Nat, s.heap.size ≤ q → A q := fun q h => by rw [← hAe]; exact Or.inr h
  have hS : va_S A s.heap s.heap [] := va_S.rf
  have hl := lv_entry [.ref (g 11 5), .int a, .int b] (n := 5) (Nat.le_of_ble_eq_true rfl)
  rw [lg_entry_eq]
  generalize (lg_sl [.ref (g 11 5), .int a, .int b] ++ List.replicate (5 - (lg_sl [.ref (g 11 5), .int a, .int b]).length) Slot.unset).toArray = ls at hl ⊢
  have hl : lv_has ls 5 [(0, .ref (g 11 5)), (1, .int a), (2, .int b)] := hl
  refine lv_aload_n hx hb dX3_weighUp_0 rfl (lv_at hl 0 rfl) ?_
  refine lv_iload_n hx hb dX3_weighUp_1 rfl (lv_at hl 1 rfl) ?_
  refine lv_iload_n hx hb dX3_weighUp_2 rfl (lv_at hl 2 rfl) ?_
  have hFc := free_all hD hS hA
  refine va_callv (va_runV (As := [.int a, .int b]) (rest := []) ⟨hx, hb, hml, hown, ht⟩ (c_X3_gather_s l dC dI s.heap.size h g ca iv lv fa la hI a b) (kV 2 ht m_599 m_565 m_566 m_83 m_567 rfl rfl hd_X3_gather_v ⟨Nat.le_of_ble_eq_true rfl, Nat.le_of_ble_eq_true rfl⟩) (vW hP hK hD (rX_3 hK hP)) rfl rfl hl.1 rfl (lv_room (Nat.le_of_ble_eq_true rfl)) dX3_weighUp_3 ⟨Nat.le_of_ble_eq_true rfl, Nat.le_of_ble_eq_true rfl⟩) hS (fun q _ h => hFc q h) hFc (fun u t H1 locs ht9 hvm hr1 hB hz1 hk1 hS => ?_)
  obtain ⟨n2, n3, n4, xr1_0, rfl⟩ := hr1
  have hn2 : ∀ j, inb (bA 30 2 j) (n2 j) := fun j => full_i _
  obtain ⟨hP, hD⟩ := hB
  rw [ht9] at hP
  generalize H1 = H at hP hS ⊢
  have hP : va_P (dC, dI) classes (WX h g ca iv lv (u2 fa 30 2 n2) (u2 (u2 la 30 0 n3) 30 1 n4)) H := hP
  have hD : va_D A (WX h g ca iv lv (u2 fa 30 2 n2) (u2 (u2 la 30 0 n3) 30 1 n4)) := (show va_D _ (WX h g ca iv lv (u2 fa 30 2 n2) (u2 (u2 la 30 0 n3) 30 1 n4)) from hD).weaken (fun _ _ _ h => hFc _ h)
  have i_10_1 : 0 ≤ (iv 10 1).toInt ∧ (iv 10 1).toInt ≤ 60 := hI.1 10 1
  have xr1_0 : ∀ l : Nat, l < 3 → n3 l = smL (fun s : Nat => ((fa 10 0) (9 * s + 0)).toInt = (a : Int32).toInt ∧ ((fa 10 0) (9 * s + 1)).toInt = (l : Int) ∧ ((fa 10 0) (9 * s + 7)).toInt ≤ (b : Int32).toInt ∧ (((fa 10 0) (9 * s + 8)).toInt = -1 ∨ (b : Int32).toInt < ((fa 10 0) (9 * s + 8)).toInt)) (fun s : Nat => (fa 10 0) (9 * s + 3)) (((iv 10 1) : Int32).toInt).toNat ∧ n4 l = smL (fun s : Nat => ((fa 10 0) (9 * s + 0)).toInt = (a : Int32).toInt ∧ ((fa 10 0) (9 * s + 1)).toInt = (l : Int) ∧ ((fa 10 0) (9 * s + 7)).toInt ≤ (b : Int32).toInt ∧ (((fa 10 0) (9 * s + 8)).toInt = -1 ∨ (b : Int32).toInt < ((fa 10 0) (9 * s + 8)).toInt)) (fun s : Nat => (fa 10 0) (9 * s + 4)) (((iv 10 1) : Int32).toInt).toNat ∧ n2 l = smC (fun s : Nat => ((fa 10 0) (9 * s + 0)).toInt = (a : Int32).toInt ∧ ((fa 10 0) (9 * s + 1)).toInt = (l : Int) ∧ ((fa 10 0) (9 * s + 7)).toInt ≤ (b : Int32).toInt ∧ (((fa 10 0) (9 * s + 8)).toInt = -1 ∨ (b : Int32).toInt < ((fa 10 0) (9 * s + 8)).toInt)) (((iv 10 1) : Int32).toInt).toNat := xr1_0
  refine lv_aload_n hx hb dX3_weighUp_6 rfl (lv_at hl 0 rfl) ?_
  refine gX_3_1 hx hb ht hown hK hP m_280 dX3_weighUp_7 ?_
  refine lv_iconst (v := 1) hx hb dX3_weighUp_10 (by decide) ?_
  refine lv_iload_n hx hb dX3_weighUp_11 rfl (lv_at hl 2 rfl) ?_
  have hFc := free_all hD hS hA
  refine va_calli (va_runV (As := [.int 1, .int b]) (rest := []) ⟨hx, hb, hml, hown, ht⟩ (c_X1_holding_f l dC dI H.size ak av h g ca iv lv (u2 fa 30 2 n2) (u2 (u2 la 30 0 n3) 30 1 n4) (IX_a (c := 30) (k := 2) hI hn2) 1 b ⟨by decide, by decide⟩ hJB) (kV 2 ht m_600 m_601 m_602 m_81 m_603 rfl rfl hd_X1_holding_v ⟨Nat.le_of_ble_eq_true rfl, Nat.le_of_ble_eq_true rfl⟩) (vWZ hP hK hD ((hZ.kept hS.2.1).narrow (free_all hD hS hA)) (rX_1 hK hP)) rfl rfl hl.1 rfl (lv_room (Nat.le_of_ble_eq_true rfl)) dX3_weighUp_12 ⟨Nat.le_of_ble_eq_true rfl, Nat.le_of_ble_eq_true rfl⟩) hS (fun q _ h => hFc q h) hFc (fun r5 u t H1 locs ht9 hvm hr5 hB hz1 hk1 hS => ?_)
  obtain ⟨n6, hn6, xr5_0, hr5, rfl⟩ := hr5
  obtain ⟨hP, hD⟩ := hB
  rw [ht9] at hP
  generalize H1 = H at hP hS ⊢
  have hP : va_P (dC, dI) classes (WX h g ca iv lv (u2 (u2 fa 30 2 n2) 1 6 n6) (u2 (u2 la 30 0 n3) 30 1 n4)) H := hP
  have hD : va_D A (WX h g ca iv lv (u2 (u2 fa 30 2 n2) 1 6 n6) (u2 (u2 la 30 0 n3) 30 1 n4)) := (show va_D _ (WX h g ca iv lv (u2 (u2 fa 30 2 n2) 1 6 n6) (u2 (u2 la 30 0 n3) 30 1 n4)) from hD).weaken (fun _ _ _ h => hFc _ h)
  have i_1_7 : 0 ≤ (iv 1 7).toInt ∧ (iv 1 7).toInt ≤ 8 := hI.1 1 7
  have : (1 : Int32).toInt = 1 := (by decide)
  have xr5_0 : FoX ((iv 1 7) : Int32).toInt (fa 1 0) (fa 1 1) (fa 1 2) (fa 1 3) (1 : Int32).toInt (b : Int32).toInt (r5 : Int32).toInt := xr5_0
  refine lv_istore_n (lv' := [(3, .int r5), (0, .ref (g 11 5)), (1, .int a), (2, .int b)]) hx hb dX3_weighUp_15 rfl hl (by decide) rfl (fun ls hl => ?_)
  refine lv_aload_n hx hb dX3_weighUp_16 rfl (lv_at hl 1 rfl) ?_
  refine gX_3_2 hx hb ht hown hK hP m_281 dX3_weighUp_17 ?_
  refine gX_30_2 hx hb ht hown hK hP m_268 dX3_weighUp_20 ?_
  refine lv_iconst (v := 0) hx hb dX3_weighUp_23 (by decide) ?_
  refine lX_30_2 hx hb hK hP (f := n2) rfl (vp_in_iff.mpr (by decide)) dX3_weighUp_24 ?_
  refine lv_topi (fun v7 ev7 => ?_)
  have gn0 := congrArg Int32.toInt (show v7 = n2 0 from ev7)
  refine lv_iload_n hx hb dX3_weighUp_25 rfl (lv_at hl 0 rfl) ?_
  refine lv_icmp_ge (tgt := 31) hx hb dX3_weighUp_26 (by decide) (fun c8 => ?_) (fun c8 => ?_)
  · have fc8 := z_le (rfl : (r5).toInt = _) (rfl : (v7).toInt = _) c8
    refine lv_aload_n hx hb dX3_weighUp_31 rfl (lv_at hl 1 rfl) ?_
    refine gX_3_1 hx hb ht hown hK hP m_280 dX3_weighUp_32 ?_
    refine lv_iconst (v := 3) hx hb dX3_weighUp_35 (by decide) ?_
    refine lv_iload_n hx hb dX3_weighUp_36 rfl (lv_at hl 3 rfl) ?_
    have hFc := free_all hD hS hA
    refine va_calli (va_runV (As := [.int 3, .int b]) (rest := []) ⟨hx, hb, hml, hown, ht⟩ (c_X1_holding_f l dC dI H.size ak av h g ca iv lv (u2 (u2 fa 30 2 n2) 1 6 n6) (u2 (u2 la 30 0 n3) 30 1 n4) (IX_a (c := 1) (k := 6) (IX_a (c := 30) (k := 2) hI hn2) hn6) 3 b ⟨by decide, by decide⟩ hJB) (kV 2 ht m_600 m_601 m_602 m_81 m_603 rfl rfl hd_X1_holding_v ⟨Nat.le_of_ble_eq_true rfl, Nat.le_of_ble_eq_true rfl⟩) (vWZ hP hK hD ((hZ.kept hS.2.1).narrow (free_all hD hS hA)) (rX_1 hK hP)) rfl rfl hl.1 rfl (lv_room (Nat.le_of_ble_eq_true rfl)) dX3_weighUp_37 ⟨Nat.le_of_ble_eq_true rfl, Nat.le_of_ble_eq_true rfl⟩) hS (fun q _ h => hFc q h) hFc (fun r9 u t H1 locs ht9 hvm hr9 hB hz1 hk1 hS => ?_)
    obtain ⟨n10, hn10, xr9_0, hr9, rfl⟩ := hr9
    obtain ⟨hP, hD⟩ := hB
    rw [ht9] at hP
    generalize H1 = H at hP hS ⊢
    have hP : va_P (dC, dI) classes (WX h g ca iv lv (u2 (u2 fa 30 2 n2) 1 6 n10) (u2 (u2 la 30 0 n3) 30 1 n4)) H := hP
    have hD : va_D A (WX h g ca iv lv (u2 (u2 fa 30 2 n2) 1 6 n10) (u2 (u2 la 30 0 n3) 30 1 n4)) := (show va_D _ (WX h g ca iv lv (u2 (u2 fa 30 2 n2) 1 6 n10) (u2 (u2 la 30 0 n3) 30 1 n4)) from hD).weaken (fun _ _ _ h => hFc _ h)
    have : (3 : Int32).toInt = 3 := (by decide)
    have xr9_0 : FoX ((iv 1 7) : Int32).toInt (fa 1 0) (fa 1 1) (fa 1 2) (fa 1 3) (3 : Int32).toInt (b : Int32).toInt (r9 : Int32).toInt := xr9_0
    refine lv_iconst (v := 1) hx hb dX3_weighUp_40 (by decide) ?_
    refine lv_icmp_ne (tgt := 51) hx hb dX3_weighUp_41 (by decide) (fun c11 => ?_) (fun c11 => ?_)
    · have fc11 := z_ne (rfl : (r9).toInt = _) (by decide : (1 : Int32).toInt = 1) c11
      refine lv_aload_n hx hb dX3_weighUp_51 rfl (lv_at hl 1 rfl) ?_
      refine gX_3_2 hx hb ht hown hK hP m_281 dX3_weighUp_52 ?_
      refine gX_30_2 hx hb ht hown hK hP m_268 dX3_weighUp_55 ?_
      refine lv_iconst (v := 1) hx hb dX3_weighUp_58 (by decide) ?_
      refine lX_30_2 hx hb hK hP (f := n2) rfl (vp_in_iff.mpr (by decide)) dX3_weighUp_59 ?_
      refine lv_topi (fun v12 ev12 => ?_)
      have gn1 := congrArg Int32.toInt (show v12 = n2 1 from ev12)
      refine lv_iload_n hx hb dX3_weighUp_60 rfl (lv_at hl 0 rfl) ?_
      refine lv_icmp_ge (tgt := 66) hx hb dX3_weighUp_61 (by decide) (fun c13 => ?_) (fun c13 => ?_)
      · have fc13 := z_le (rfl : (r5).toInt = _) (rfl : (v12).toInt = _) c13
        refine lv_aload_n hx hb dX3_weighUp_66 rfl (lv_at hl 1 rfl) ?_
        refine gX_3_1 hx hb ht hown hK hP m_280 dX3_weighUp_67 ?_
        refine lv_iconst (v := 5) hx hb dX3_weighUp_70 (by decide) ?_
        refine lv_iload_n hx hb dX3_weighUp_71 rfl (lv_at hl 3 rfl) ?_
        have hFc := free_all hD hS hA
        refine va_calli (va_runV (As := [.int 5, .int b]) (rest := []) ⟨hx, hb, hml, hown, ht⟩ (c_X1_holding_f l dC dI H.size ak av h g ca iv lv (u2 (u2 fa 30 2 n2) 1 6 n10) (u2 (u2 la 30 0 n3) 30 1 n4) (IX_a (c := 1) (k := 6) (IX_a (c := 30) (k := 2) hI hn2) hn10) 5 b ⟨by decide, by decide⟩ hJB) (kV 2 ht m_600 m_601 m_602 m_81 m_603 rfl rfl hd_X1_holding_v ⟨Nat.le_of_ble_eq_true rfl, Nat.le_of_ble_eq_true rfl⟩) (vWZ hP hK hD ((hZ.kept hS.2.1).narrow (free_all hD hS hA)) (rX_1 hK hP)) rfl rfl hl.1 rfl (lv_room (Nat.le_of_ble_eq_true rfl)) dX3_weighUp_72 ⟨Nat.le_of_ble_eq_true rfl, Nat.le_of_ble_eq_true rfl⟩) hS (fun q _ h => hFc q h) hFc (fun r14 u t H1 locs ht9 hvm hr14 hB hz1 hk1 hS => ?_)
        obtain ⟨n15, hn15, xr14_0, hr14, rfl⟩ := hr14
        obtain ⟨hP, hD⟩ := hB
        rw [ht9] at hP
        generalize H1 = H at hP hS ⊢
        have hP : va_P (dC, dI) classes (WX h g ca iv lv (u2 (u2 fa 30 2 n2) 1 6 n15) (u2 (u2 la 30 0 n3) 30 1 n4)) H := hP
        have hD : va_D A (WX h g ca iv lv (u2 (u2 fa 30 2 n2) 1 6 n15) (u2 (u2 la 30 0 n3) 30 1 n4)) := (show va_D _ (WX h g ca iv lv (u2 (u2 fa 30 2 n2) 1 6 n15) (u2 (u2 la 30 0 n3) 30 1 n4)) from hD).weaken (fun _ _ _ h => hFc _ h)
        have : (5 : Int32).toInt = 5 := (by decide)
        have xr14_0 : FoX ((iv 1 7) : Int32).toInt (fa 1 0) (fa 1 1) (fa 1 2) (fa 1 3) (5 : Int32).toInt (b : Int32).toInt (r14 : Int32).toInt := xr14_0
        refine lv_istore (lv' := [(4, .int r14), (3, .int r5), (0, .ref (g 11 5)), (1, .int a), (2, .int b)]) hx hb dX3_weighUp_75 hl (by decide) rfl (fun ls hl => ?_)
        refine lv_aload_n hx hb dX3_weighUp_77 rfl (lv_at hl 2 rfl) ?_
        refine gX_3_2 hx hb ht hown hK hP m_281 dX3_weighUp_78 ?_
        refine lv_iconst (v := 0) hx hb dX3_weighUp_81 (by decide) ?_
        refine lv_iconst (v := 1) hx hb dX3_weighUp_82 (by decide) ?_
        refine lv_aload_n hx hb dX3_weighUp_83 rfl (lv_at hl 2 rfl) ?_
        refine gX_3_1 hx hb ht hown hK hP m_280 dX3_weighUp_84 ?_
        refine lv_iconst (v := 2) hx hb dX3_weighUp_87 (by decide) ?_
        refine lv_iload_n hx hb dX3_weighUp_88 rfl (lv_at hl 4 rfl) ?_
        have hFc := free_all hD hS hA
        refine va_calli (va_runV (As := [.int 2, .int b]) (rest := [.int 1, .int 0, .ref (g 3 2)]) ⟨hx, hb, hml, hown, ht⟩ (c_X1_holding_f l dC dI H.size ak av h g ca iv lv (u2 (u2 fa 30 2 n2) 1 6 n15) (u2 (u2 la 30 0 n3) 30 1 n4) (IX_a (c := 1) (k := 6) (IX_a (c := 30) (k := 2) hI hn2) hn15) 2 b ⟨by decide, by decide⟩ hJB) (kV 2 ht m_600 m_601 m_602 m_81 m_603 rfl rfl hd_X1_holding_v ⟨Nat.le_of_ble_eq_true rfl, Nat.le_of_ble_eq_true rfl⟩) (vWZ hP hK hD ((hZ.kept hS.2.1).narrow (free_all hD hS hA)) (rX_1 hK hP)) rfl rfl hl.1 rfl (lv_room (Nat.le_of_ble_eq_true rfl)) dX3_weighUp_89 ⟨Nat.le_of_ble_eq_true rfl, Nat.le_of_ble_eq_true rfl⟩) hS (fun q _ h => hFc q h) hFc (fun r16 u t H1 locs ht9 hvm hr16 hB hz1 hk1 hS => ?_)
        obtain ⟨n17, hn17, xr16_0, hr16, rfl⟩ := hr16
        obtain ⟨hP, hD⟩ := hB
        rw [ht9] at hP
        generalize H1 = H at hP hS ⊢
        have hP : va_P (dC, dI) classes (WX h g ca iv lv (u2 (u2 fa 30 2 n2) 1 6 n17) (u2 (u2 la 30 0 n3) 30 1 n4)) H := hP
        have hD : va_D A (WX h g ca iv lv (u2 (u2 fa 30 2 n2) 1 6 n17) (u2 (u2 la 30 0 n3) 30 1 n4)) := (show va_D _ (WX h g ca iv lv (u2 (u2 fa 30 2 n2) 1 6 n17) (u2 (u2 la 30 0 n3) 30 1 n4)) from hD).weaken (fun _ _ _ h => hFc _ h)
        have : (2 : Int32).toInt = 2 := (by decide)
        have xr16_0 : FoX ((iv 1 7) : Int32).toInt (fa 1 0) (fa 1 1) (fa 1 2) (fa 1 3) (2 : Int32).toInt (b : Int32).toInt (r16 : Int32).toInt := xr16_0
        refine vp_callSi (W.runV (As := [.int 0, .int 1, .int r16]) (rest := []) ⟨hx, hb, hml, hown, ht⟩ (c_X7_differ_f30 l dC dI h g ca iv lv (u2 (u2 fa 30 2 n2) 1 6 n17) (u2 (u2 la 30 0 n3) 30 1 n4) (IX_a (c := 1) (k := 6) (IX_a (c := 30) (k := 2) hI hn2) hn17) r16) (kV 3 ht m_626 m_627 m_628 m_84 m_629 rfl rfl hd_X7_differ_v ⟨Nat.le_of_ble_eq_true rfl, Nat.le_of_ble_eq_true rfl⟩) (vR hP hK (rX_30 hK hP)) rfl rfl hl.1 rfl (lv_room (Nat.le_of_ble_eq_true rfl)) dX3_weighUp_92 ⟨Nat.le_of_ble_eq_true rfl, Nat.le_of_ble_eq_true rfl⟩) (fun r18 hr18 => ?_)
        obtain ⟨hr18, xr18_0⟩ := hr18
        have xr18_0 : (((r18 : Int32).toInt = 1 ∧ difL (n4 0) (n3 0) (n4 1) (n3 1) (r16 : Int32)) ∨ ((r18 : Int32).toInt = 0 ∧ ¬ difL (n4 0) (n3 0) (n4 1) (n3 1) (r16 : Int32))) := xr18_0
        refine lv_if_ne (tgt := 105) hx hb dX3_weighUp_95 (by decide) (fun c19 => ?_) (fun c19 => ?_)
        · have fc19 := z_ne (rfl : (r18).toInt = _) (by decide : (0 : Int32).toInt = 0) c19
          refine lv_aload_n hx hb dX3_weighUp_105 rfl (lv_at hl 2 rfl) ?_
          refine gX_3_2 hx hb ht hown hK hP m_281 dX3_weighUp_106 ?_
          refine gX_30_2 hx hb ht hown hK hP m_268 dX3_weighUp_109 ?_
          refine lv_iconst (v := 2) hx hb dX3_weighUp_112 (by decide) ?_
          refine lX_30_2 hx hb hK hP (f := n2) rfl (vp_in_iff.mpr (by decide)) dX3_weighUp_113 ?_
          refine lv_topi (fun v20 ev20 => ?_)
          have gn2 := congrArg Int32.toInt (show v20 = n2 2 from ev20)
          refine lv_iload_n hx hb dX3_weighUp_114 rfl (lv_at hl 1 rfl) ?_
          refine lv_icmp_ge (tgt := 122) hx hb dX3_weighUp_115 (by decide) (fun c21 => ?_) (fun c21 => ?_)
          · have fc21 := z_le (rfl : (r5).toInt = _) (rfl : (v20).toInt = _) c21
            refine lv_aload_n hx hb dX3_weighUp_122 rfl (lv_at hl 2 rfl) ?_
            refine lv_iload hx hb dX3_weighUp_123 (lv_at hl 0 rfl) ?_
            have hFc := free_all hD hS hA
            refine va_calli (va_runV (As := [.int r14]) (rest := []) ⟨hx, hb, hml, hown, ht⟩ (c_X3_settleByThree_w l dC dI H.size h g ca iv lv (u2 (u2 fa 30 2 n2) 1 6 n17) (u2 (u2 la 30 0 n3) 30 1 n4) (IX_a (c := 1) (k := 6) (IX_a (c := 30) (k := 2) hI hn2) hn17) r14) (kV 1 ht m_642 m_644 m_12 m_83 m_645 rfl rfl hd_X3_settleByThree_v ⟨Nat.le_of_ble_eq_true rfl, Nat.le_of_ble_eq_true rfl⟩) (vW hP hK hD (rX_3 hK hP)) rfl rfl hl.1 rfl (lv_room (Nat.le_of_ble_eq_true rfl)) dX3_weighUp_125 ⟨Nat.le_of_ble_eq_true rfl, Nat.le_of_ble_eq_true rfl⟩) hS (fun q _ h => hFc q h) hFc (fun r22 u t H1 locs ht9 hvm hr22 hB hz1 hk1 hS => ?_)
            obtain ⟨n23, n24, hn23, hn24, xr22_0, xr22_1, hr22, rfl⟩ := hr22
            have hn23 : 0 ≤ n23.toInt ∧ n23.toInt ≤ 2 := hn23
            have hn24 : 0 ≤ n24.toInt ∧ n24.toInt ≤ 2 := hn24
            obtain ⟨hP, hD⟩ := hB
            rw [ht9] at hP
            generalize H1 = H at hP hS ⊢
            have hP : va_P (dC, dI) classes (WX h g ca (u2 (u2 iv 3 3 n23) 3 4 n24) lv (u2 (u2 fa 30 2 n2) 1 6 n17) (u2 (u2 la 30 0 n3) 30 1 n4)) H := hP
            have hD : va_D A (WX h g ca (u2 (u2 iv 3 3 n23) 3 4 n24) lv (u2 (u2 fa 30 2 n2) 1 6 n17) (u2 (u2 la 30 0 n3) 30 1 n4)) := (show va_D _ (WX h g ca (u2 (u2 iv 3 3 n23) 3 4 n24) lv (u2 (u2 fa 30 2 n2) 1 6 n17) (u2 (u2 la 30 0 n3) 30 1 n4)) from hD).weaken (fun _ _ _ h => hFc _ h)
            have xr22_0 : thX n4 n3 (n23 : Int32).toInt (n24 : Int32).toInt (r14 : Int32).toInt := xr22_0
            have xr22_1 : (r22 : Int32).toInt = 1 := xr22_1
            have hP9 : va_P (dC, dI) classes (WX h g ca (u2 (u2 iv 3 3 n23) 3 4 n24) lv (u2 (u2 fa 1 6 n17) 30 2 n2) (u2 (u2 la 30 0 n3) 30 1 n4)) H := hP
            have hD9 : va_D A (WX h g ca (u2 (u2 iv 3 3 n23) 3 4 n24) lv (u2 (u2 fa 1 6 n17) 30 2 n2) (u2 (u2 la 30 0 n3) 30 1 n4)) := hD
            exact W.iret (v := r22) hx hb hr (fun t ht9 hW => ⟨⟨r22, ((u2 (u2 iv 3 3 n23) 3 4 n24), lv, (u2 (u2 fa 1 6 n17) 30 2 n2), (u2 (u2 la 30 0 n3) 30 1 n4)), rfl, ⟨n17, n2, n3, n4, n23, n24, hn17, (show inb (0, 2) n23 from ⟨by omega, by omega⟩), (show inb (0, 2) n24 from ⟨by omega, by omega⟩), (show LwS (fun q v => FoX (iv 1 7).toInt (fa 1 0) (fa 1 1) (fa 1 2) (fa 1 3) q (b).toInt v) (fa 10 0) (a).toInt (b).toInt ((iv 10 1).toInt).toNat n4 n3 n2 (n23 : Int32).toInt (n24 : Int32).toInt (r22 : Int32).toInt from (by have hd9 := xr18_0; exact ⟨(fun l hl => ⟨(xr1_0 l hl).1, (xr1_0 l hl).2.1, (xr1_0 l hl).2.2⟩), ⟨_, (show FoX (iv 1 7).toInt (fa 1 0) (fa 1 1) (fa 1 2) (fa 1 3) 1 b.toInt (r5 : Int32).toInt from xr5_0), Or.inr ⟨by omega, _, (show FoX (iv 1 7).toInt (fa 1 0) (fa 1 1) (fa 1 2) (fa 1 3) 3 b.toInt (r9 : Int32).toInt from xr9_0), Or.inr ⟨by omega, Or.inr ⟨by omega, r16, (show FoX (iv 1 7).toInt (fa 1 0) (fa 1 1) (fa 1 2) (fa 1 3) 2 b.toInt (r16 : Int32).toInt from xr16_0), _, (show FoX (iv 1 7).toInt (fa 1 0) (fa 1 1) (fa 1 2) (fa 1 3) 5 b.toInt (r14 : Int32).toInt from xr14_0), Or.inr ⟨(hd9.resolve_right (fun q => by omega)).2, Or.inr ⟨by omega, by omega, xr22_0⟩⟩⟩⟩⟩⟩⟩)), ⟨by omega, by omega⟩, rfl⟩, by rw [ht9]; exact hP9, hD9⟩, hS.F ht9⟩) hS.2.2 dX3_weighUp_128
          · have fc21 := z_nle (rfl : (r5).toInt = _) (rfl : (v20).toInt = _) c21
            refine lv_iconst (v := 2) hx hb dX3_weighUp_118 (by decide) ?_
            refine lv_goto (tgt := 128) hx hb dX3_weighUp_119 (by decide) ?_
            have i_3_3 : 0 ≤ (iv 3 3).toInt ∧ (iv 3 3).toInt ≤ 2 := hI.1 3 3
            have i_3_4 : 0 ≤ (iv 3 4).toInt ∧ (iv 3 4).toInt ≤ 2 := hI.1 3 4
            have hP9 : va_P (dC, dI) classes (WX h g ca (u2 (u2 iv 3 3 (iv 3 3)) 3 4 (iv 3 4)) lv (u2 (u2 fa 1 6 n17) 30 2 n2) (u2 (u2 la 30 0 n3) 30 1 n4)) H := hP
            have hD9 : va_D A (WX h g ca (u2 (u2 iv 3 3 (iv 3 3)) 3 4 (iv 3 4)) lv (u2 (u2 fa 1 6 n17) 30 2 n2) (u2 (u2 la 30 0 n3) 30 1 n4)) := hD
            exact W.iret (v := 2) hx hb hr (fun t ht9 hW => ⟨⟨2, ((u2 (u2 iv 3 3 (iv 3 3)) 3 4 (iv 3 4)), lv, (u2 (u2 fa 1 6 n17) 30 2 n2), (u2 (u2 la 30 0 n3) 30 1 n4)), rfl, ⟨n17, n2, n3, n4, (iv 3 3), (iv 3 4), hn17, (hI.1 3 3), (hI.1 3 4), (show LwS (fun q v => FoX (iv 1 7).toInt (fa 1 0) (fa 1 1) (fa 1 2) (fa 1 3) q (b).toInt v) (fa 10 0) (a).toInt (b).toInt ((iv 10 1).toInt).toNat n4 n3 n2 ((iv 3 3) : Int32).toInt ((iv 3 4) : Int32).toInt (2 : Int32).toInt from (by have hd9 := xr18_0; exact ⟨(fun l hl => ⟨(xr1_0 l hl).1, (xr1_0 l hl).2.1, (xr1_0 l hl).2.2⟩), ⟨_, (show FoX (iv 1 7).toInt (fa 1 0) (fa 1 1) (fa 1 2) (fa 1 3) 1 b.toInt (r5 : Int32).toInt from xr5_0), Or.inr ⟨by omega, _, (show FoX (iv 1 7).toInt (fa 1 0) (fa 1 1) (fa 1 2) (fa 1 3) 3 b.toInt (r9 : Int32).toInt from xr9_0), Or.inr ⟨by omega, Or.inr ⟨by omega, r16, (show FoX (iv 1 7).toInt (fa 1 0) (fa 1 1) (fa 1 2) (fa 1 3) 2 b.toInt (r16 : Int32).toInt from xr16_0), _, (show FoX (iv 1 7).toInt (fa 1 0) (fa 1 1) (fa 1 2) (fa 1 3) 5 b.toInt (r14 : Int32).toInt from xr14_0), Or.inr ⟨(hd9.resolve_right (fun q => by omega)).2, Or.inl ⟨by omega, by omega⟩⟩⟩⟩⟩⟩⟩)), ⟨by decide, by decide⟩, rfl⟩, by rw [ht9]; exact hP9, hD9⟩, hS.F ht9⟩) hS.2.2 dX3_weighUp_128
        · have fc19 := z_eq (rfl : (r18).toInt = _) (by decide : (0 : Int32).toInt = 0) c19
          refine lv_aload_n hx hb dX3_weighUp_98 rfl (lv_at hl 2 rfl) ?_
          refine lv_iload hx hb dX3_weighUp_99 (lv_at hl 0 rfl) ?_
          have hFc := free_all hD hS hA
          refine va_calli (va_runV (As := [.int r14]) (rest := []) ⟨hx, hb, hml, hown, ht⟩ (c_X3_settleByTwo_w l dC dI H.size h g ca iv lv (u2 (u2 fa 30 2 n2) 1 6 n17) (u2 (u2 la 30 0 n3) 30 1 n4) (IX_a (c := 1) (k := 6) (IX_a (c := 30) (k := 2) hI hn2) hn17) r14) (kV 1 ht m_634 m_636 m_10 m_83 m_637 rfl rfl hd_X3_settleByTwo_v ⟨Nat.le_of_ble_eq_true rfl, Nat.le_of_ble_eq_true rfl⟩) (vW hP hK hD (rX_3 hK hP)) rfl rfl hl.1 rfl (lv_room (Nat.le_of_ble_eq_true rfl)) dX3_weighUp_101 ⟨Nat.le_of_ble_eq_true rfl, Nat.le_of_ble_eq_true rfl⟩) hS (fun q _ h => hFc q h) hFc (fun r25 u t H1 locs ht9 hvm hr25 hB hz1 hk1 hS => ?_)
          obtain ⟨n26, n27, hn26, hn27, xr25_0, xr25_1, hr25, rfl⟩ := hr25
          have hn26 : 0 ≤ n26.toInt ∧ n26.toInt ≤ 2 := hn26
          have hn27 : 0 ≤ n27.toInt ∧ n27.toInt ≤ 2 := hn27
          obtain ⟨hP, hD⟩ := hB
          rw [ht9] at hP
          generalize H1 = H at hP hS ⊢
          have hP : va_P (dC, dI) classes (WX h g ca (u2 (u2 iv 3 3 n26) 3 4 n27) lv (u2 (u2 fa 30 2 n2) 1 6 n17) (u2 (u2 la 30 0 n3) 30 1 n4)) H := hP
          have hD : va_D A (WX h g ca (u2 (u2 iv 3 3 n26) 3 4 n27) lv (u2 (u2 fa 30 2 n2) 1 6 n17) (u2 (u2 la 30 0 n3) 30 1 n4)) := (show va_D _ (WX h g ca (u2 (u2 iv 3 3 n26) 3 4 n27) lv (u2 (u2 fa 30 2 n2) 1 6 n17) (u2 (u2 la 30 0 n3) 30 1 n4)) from hD).weaken (fun _ _ _ h => hFc _ h)
          have xr25_0 : twX n4 n3 (n26 : Int32).toInt (n27 : Int32).toInt (r14 : Int32).toInt := xr25_0
          have xr25_1 : (r25 : Int32).toInt = 1 := xr25_1
          have hP9 : va_P (dC, dI) classes (WX h g ca (u2 (u2 iv 3 3 n26) 3 4 n27) lv (u2 (u2 fa 1 6 n17) 30 2 n2) (u2 (u2 la 30 0 n3) 30 1 n4)) H := hP
          have hD9 : va_D A (WX h g ca (u2 (u2 iv 3 3 n26) 3 4 n27) lv (u2 (u2 fa 1 6 n17) 30 2 n2) (u2 (u2 la 30 0 n3) 30 1 n4)) := hD
          exact W.iret (v := r25) hx hb hr (fun t ht9 hW => ⟨⟨r25, ((u2 (u2 iv 3 3 n26) 3 4 n27), lv, (u2 (u2 fa 1 6 n17) 30 2 n2), (u2 (u2 la 30 0 n3) 30 1 n4)), rfl, ⟨n17, n2, n3, n4, n26, n27, hn17, (show inb (0, 2) n26 from ⟨by omega, by omega⟩), (show inb (0, 2) n27 from ⟨by omega, by omega⟩), (show LwS (fun q v => FoX (iv 1 7).toInt (fa 1 0) (fa 1 1) (fa 1 2) (fa 1 3) q (b).toInt v) (fa 10 0) (a).toInt (b).toInt ((iv 10 1).toInt).toNat n4 n3 n2 (n26 : Int32).toInt (n27 : Int32).toInt (r25 : Int32).toInt from (by have hd9 := xr18_0; exact ⟨(fun l hl => ⟨(xr1_0 l hl).1, (xr1_0 l hl).2.1, (xr1_0 l hl).2.2⟩), ⟨_, (show FoX (iv 1 7).toInt (fa 1 0) (fa 1 1) (fa 1 2) (fa 1 3) 1 b.toInt (r5 : Int32).toInt from xr5_0), Or.inr ⟨by omega, _, (show FoX (iv 1 7).toInt (fa 1 0) (fa 1 1) (fa 1 2) (fa 1 3) 3 b.toInt (r9 : Int32).toInt from xr9_0), Or.inr ⟨by omega, Or.inr ⟨by omega, r16, (show FoX (iv 1 7).toInt (fa 1 0) (fa 1 1) (fa 1 2) (fa 1 3) 2 b.toInt (r16 : Int32).toInt from xr16_0), _, (show FoX (iv 1 7).toInt (fa 1 0) (fa 1 1) (fa 1 2) (fa 1 3) 5 b.toInt (r14 : Int32).toInt from xr14_0), Or.inl ⟨(hd9.resolve_left (fun q => by omega)).2, by omega, xr25_0⟩⟩⟩⟩⟩⟩)), ⟨by omega, by omega⟩, rfl⟩, by rw [ht9]; exact hP9, hD9⟩, hS.F ht9⟩) hS.2.2 dX3_weighUp_104
      · have fc13 := z_nle (rfl : (r5).toInt = _) (rfl : (v12).toInt = _) c13
        refine lv_iconst (v := 0) hx hb dX3_weighUp_64 (by decide) ?_
        have i_3_3 : 0 ≤ (iv 3 3).toInt ∧ (iv 3 3).toInt ≤ 2 := hI.1 3 3
        have i_3_4 : 0 ≤ (iv 3 4).toInt ∧ (iv 3 4).toInt ≤ 2 := hI.1 3 4
        have : (0 : Int32).toInt = 0 := (by decide)
        have hP9 : va_P (dC, dI) classes (WX h g ca (u2 (u2 iv 3 3 (iv 3 3)) 3 4 (iv 3 4)) lv (u2 (u2 fa 1 6 n10) 30 2 n2) (u2 (u2 la 30 0 n3) 30 1 n4)) H := hP
        have hD9 : va_D A (WX h g ca (u2 (u2 iv 3 3 (iv 3 3)) 3 4 (iv 3 4)) lv (u2 (u2 fa 1 6 n10) 30 2 n2) (u2 (u2 la 30 0 n3) 30 1 n4)) := hD
        exact W.iret (v := 0) hx hb hr (fun t ht9 hW => ⟨⟨0, ((u2 (u2 iv 3 3 (iv 3 3)) 3 4 (iv 3 4)), lv, (u2 (u2 fa 1 6 n10) 30 2 n2), (u2 (u2 la 30 0 n3) 30 1 n4)), rfl, ⟨n10, n2, n3, n4, (iv 3 3), (iv 3 4), hn10, (hI.1 3 3), (hI.1 3 4), (show LwS (fun q v => FoX (iv 1 7).toInt (fa 1 0) (fa 1 1) (fa 1 2) (fa 1 3) q (b).toInt v) (fa 10 0) (a).toInt (b).toInt ((iv 10 1).toInt).toNat n4 n3 n2 ((iv 3 3) : Int32).toInt ((iv 3 4) : Int32).toInt (0 : Int32).toInt from ⟨(fun l hl => ⟨(xr1_0 l hl).1, (xr1_0 l hl).2.1, (xr1_0 l hl).2.2⟩), ⟨_, (show FoX (iv 1 7).toInt (fa 1 0) (fa 1 1) (fa 1 2) (fa 1 3) 1 b.toInt (r5 : Int32).toInt from xr5_0), Or.inr ⟨by omega, _, (show FoX (iv 1 7).toInt (fa 1 0) (fa 1 1) (fa 1 2) (fa 1 3) 3 b.toInt (r9 : Int32).toInt from xr9_0), Or.inr ⟨by omega, Or.inl ⟨by omega, by omega⟩⟩⟩⟩⟩), ⟨by decide, by decide⟩, rfl⟩, by rw [ht9]; exact hP9, hD9⟩, hS.F ht9⟩) hS.2.2 dX3_weighUp_65
    · have fc11 := z_eq (rfl : (r9).toInt = _) (by decide : (1 : Int32).toInt = 1) c11
      refine lv_aload_n hx hb dX3_weighUp_44 rfl (lv_at hl 1 rfl) ?_
      refine lv_iconst (v := 0) hx hb dX3_weighUp_45 (by decide) ?_
      refine lv_iconst (v := 0) hx hb dX3_weighUp_46 (by decide) ?_
      have hFc := free_all hD hS hA
      refine va_calli (va_runV (As := [.int 0, .int 0]) (rest := []) ⟨hx, hb, hml, hown, ht⟩ (c_X3_settle_w l dC dI H.size h g ca iv lv (u2 (u2 fa 30 2 n2) 1 6 n10) (u2 (u2 la 30 0 n3) 30 1 n4) (IX_a (c := 1) (k := 6) (IX_a (c := 30) (k := 2) hI hn2) hn10) 0 0 ⟨by decide, by decide⟩ ⟨by decide, by decide⟩) (kV 2 ht m_622 m_624 m_9 m_83 m_625 rfl rfl hd_X3_settle_v ⟨Nat.le_of_ble_eq_true rfl, Nat.le_of_ble_eq_true rfl⟩) (vW hP hK hD (rX_3 hK hP)) rfl rfl hl.1 rfl (lv_room (Nat.le_of_ble_eq_true rfl)) dX3_weighUp_47 ⟨Nat.le_of_ble_eq_true rfl, Nat.le_of_ble_eq_true rfl⟩) hS (fun q _ h => hFc q h) hFc (fun r28 u t H1 locs ht9 hvm hr28 hB hz1 hk1 hS => ?_)
      obtain ⟨n29, n30, hn29, hn30, xr28_0, xr28_1, xr28_2, hr28, rfl⟩ := hr28
      have hn29 : 0 ≤ n29.toInt ∧ n29.toInt ≤ 2 := hn29
      have hn30 : 0 ≤ n30.toInt ∧ n30.toInt ≤ 2 := hn30
      obtain ⟨hP, hD⟩ := hB
      rw [ht9] at hP
      generalize H1 = H at hP hS ⊢
      have hP : va_P (dC, dI) classes (WX h g ca (u2 (u2 iv 3 3 n29) 3 4 n30) lv (u2 (u2 fa 30 2 n2) 1 6 n10) (u2 (u2 la 30 0 n3) 30 1 n4)) H := hP
      have hD : va_D A (WX h g ca (u2 (u2 iv 3 3 n29) 3 4 n30) lv (u2 (u2 fa 30 2 n2) 1 6 n10) (u2 (u2 la 30 0 n3) 30 1 n4)) := (show va_D _ (WX h g ca (u2 (u2 iv 3 3 n29) 3 4 n30) lv (u2 (u2 fa 30 2 n2) 1 6 n10) (u2 (u2 la 30 0 n3) 30 1 n4)) from hD).weaken (fun _ _ _ h => hFc _ h)
      have : (0 : Int32).toInt = 0 := (by decide)
      have xr28_0 : (n29 : Int32).toInt = (0 : Int32).toInt := xr28_0
      have xr28_1 : (n30 : Int32).toInt = (0 : Int32).toInt := xr28_1
      have xr28_2 : (r28 : Int32).toInt = 1 := xr28_2
      have hP9 : va_P (dC, dI) classes (WX h g ca (u2 (u2 iv 3 3 n29) 3 4 n30) lv (u2 (u2 fa 1 6 n10) 30 2 n2) (u2 (u2 la 30 0 n3) 30 1 n4)) H := hP
      have hD9 : va_D A (WX h g ca (u2 (u2 iv 3 3 n29) 3 4 n30) lv (u2 (u2 fa 1 6 n10) 30 2 n2) (u2 (u2 la 30 0 n3) 30 1 n4)) := hD
      exact W.iret (v := r28) hx hb hr (fun t ht9 hW => ⟨⟨r28, ((u2 (u2 iv 3 3 n29) 3 4 n30), lv, (u2 (u2 fa 1 6 n10) 30 2 n2), (u2 (u2 la 30 0 n3) 30 1 n4)), rfl, ⟨n10, n2, n3, n4, n29, n30, hn10, (show inb (0, 2) n29 from ⟨by omega, by omega⟩), (show inb (0, 2) n30 from ⟨by omega, by omega⟩), (show LwS (fun q v => FoX (iv 1 7).toInt (fa 1 0) (fa 1 1) (fa 1 2) (fa 1 3) q (b).toInt v) (fa 10 0) (a).toInt (b).toInt ((iv 10 1).toInt).toNat n4 n3 n2 (n29 : Int32).toInt (n30 : Int32).toInt (r28 : Int32).toInt from ⟨(fun l hl => ⟨(xr1_0 l hl).1, (xr1_0 l hl).2.1, (xr1_0 l hl).2.2⟩), ⟨_, (show FoX (iv 1 7).toInt (fa 1 0) (fa 1 1) (fa 1 2) (fa 1 3) 1 b.toInt (r5 : Int32).toInt from xr5_0), Or.inr ⟨by omega, _, (show FoX (iv 1 7).toInt (fa 1 0) (fa 1 1) (fa 1 2) (fa 1 3) 3 b.toInt (r9 : Int32).toInt from xr9_0), Or.inl ⟨by omega, by omega, ⟨by omega, by omega⟩⟩⟩⟩⟩), ⟨by omega, by omega⟩, rfl⟩, by rw [ht9]; exact hP9, hD9⟩, hS.F ht9⟩) hS.2.2 dX3_weighUp_50
  · have fc8 := z_nle (rfl : (r5).toInt = _) (rfl : (v7).toInt = _) c8
    refine lv_iconst (v := 0) hx hb dX3_weighUp_29 (by decide) ?_
    have i_3_3 : 0 ≤ (iv 3 3).toInt ∧ (iv 3 3).toInt ≤ 2 := hI.1 3 3
    have i_3_4 : 0 ≤ (iv 3 4).toInt ∧ (iv 3 4).toInt ≤ 2 := hI.1 3 4
    have : (0 : Int32).toInt = 0 := (by decide)
    have hP9 : va_P (dC, dI) classes (WX h g ca (u2 (u2 iv 3 3 (iv 3 3)) 3 4 (iv 3 4)) lv (u2 (u2 fa 1 6 n6) 30 2 n2) (u2 (u2 la 30 0 n3) 30 1 n4)) H := hP
    have hD9 : va_D A (WX h g ca (u2 (u2 iv 3 3 (iv 3 3)) 3 4 (iv 3 4)) lv (u2 (u2 fa 1 6 n6) 30 2 n2) (u2 (u2 la 30 0 n3) 30 1 n4)) := hD
    exact W.iret (v := 0) hx hb hr (fun t ht9 hW => ⟨⟨0, ((u2 (u2 iv 3 3 (iv 3 3)) 3 4 (iv 3 4)), lv, (u2 (u2 fa 1 6 n6) 30 2 n2), (u2 (u2 la 30 0 n3) 30 1 n4)), rfl, ⟨n6, n2, n3, n4, (iv 3 3), (iv 3 4), hn6, (hI.1 3 3), (hI.1 3 4), (show LwS (fun q v => FoX (iv 1 7).toInt (fa 1 0) (fa 1 1) (fa 1 2) (fa 1 3) q (b).toInt v) (fa 10 0) (a).toInt (b).toInt ((iv 10 1).toInt).toNat n4 n3 n2 ((iv 3 3) : Int32).toInt ((iv 3 4) : Int32).toInt (0 : Int32).toInt from ⟨(fun l hl => ⟨(xr1_0 l hl).1, (xr1_0 l hl).2.1, (xr1_0 l hl).2.2⟩), ⟨_, (show FoX (iv 1 7).toInt (fa 1 0) (fa 1 1) (fa 1 2) (fa 1 3) 1 b.toInt (r5 : Int32).toInt from xr5_0), Or.inl ⟨by omega, by omega⟩⟩⟩), ⟨by decide, by decide⟩, rfl⟩, by rw [ht9]; exact hP9, hD9⟩, hS.F ht9⟩) hS.2.2 dX3_weighUp_30
set_option maxHeartbeats 4000000 in
set_option maxRecDepth 100000 in
/-- X3_upper -/
theorem c_X3_upper_w (l : Launch) (dC : Nat → ClassId) (dI : Nat → Nat → Nat) (h : Nat) (g : Nat → Nat → Nat) (ca : Nat → Nat → ClassId) (iv : Nat → Nat → Int32) (lv : Nat → Nat → Int64) (fa : Nat → Nat → Nat → Int32) (la : Nat → Nat → Nat → Int64) (hI : IX iv fa) : Met l yX3_upper (wc yX3_upper cX3_upper 1 (some .long)) ({ frames := 0, cells := 0, slots := 0, locals := 0 } : Room) (pR (dC, dI) classes (WX h g ca iv lv fa la) (TX ca) [.ref (g 11 5)]) (vp_Sl (fun r => (True) ∧ (r.toInt = ((la 30 1) ((iv 3 3).toInt).toNat * (la 30 0) ((iv 3 4).toInt).toNat + (la 30 1) ((iv 3 4).toInt).toNat * (la 30 0) ((iv 3 3).toInt).toNat).toInt))) 0 0 (fun _ => False) := by
  refine Met.ofW (cc := cX3_upper) (maxL := 1) (ret := (some .long)) (by decide) rfl ?_
  intro p e s m args below meth c s₁ B hml hv
  obtain ⟨rfl, hP, hK⟩ := hv
  have hx := B.exec
  have hb := B.bytes
  have hr := B.returns
  have ht := tb_tl (atoms_spec (ws := wc yX3_upper cX3_upper 1 (some .long)) B.pre)
  have hown : s.vm.findClass RX3 = some m.cls := findClass_of_methodNamed B.named
  have hlocks := B.notSynchronized
  have hl := lv_entry [.ref (g 11 5)] (n := 1) (Nat.le_of_ble_eq_true rfl)
  rw [lg_entry_eq]
  generalize (lg_sl [.ref (g 11 5)] ++ List.replicate (1 - (lg_sl [.ref (g 11 5)]).length) Slot.unset).toArray = ls at hl ⊢
  have hl : lv_has ls 1 [(0, .ref (g 11 5))] := hl
  refine lv_aload_n hx hb dX3_upper_0 rfl (lv_at hl 0 rfl) ?_
  refine gX_3_2 hx hb ht hown hK hP m_281 dX3_upper_1 ?_
  refine gX_30_1 hx hb ht hown hK hP m_265 dX3_upper_4 ?_
  refine lv_aload_n hx hb dX3_upper_7 rfl (lv_at hl 0 rfl) ?_
  have i_3_3 : 0 ≤ (iv 3 3).toInt ∧ (iv 3 3).toInt ≤ 2 := hI.1 3 3
  refine gX_3_3 hx hb ht hown hK hP m_283 (v := (iv 3 3)) rfl dX3_upper_8 ?_
  refine lX_30_1 hx hb hK hP (f := (la 30 1)) rfl (vp_in_iff.mpr ⟨by omega, by omega⟩) dX3_upper_11 ?_
  refine lv_topl (fun w1 ew1 => ?_)
  refine lv_aload_n hx hb dX3_upper_12 rfl (lv_at hl 0 rfl) ?_
  refine gX_3_2 hx hb ht hown hK hP m_281 dX3_upper_13 ?_
  refine gX_30_0 hx hb ht hown hK hP m_262 dX3_upper_16 ?_
  refine lv_aload_n hx hb dX3_upper_19 rfl (lv_at hl 0 rfl) ?_
  have i_3_4 : 0 ≤ (iv 3 4).toInt ∧ (iv 3 4).toInt ≤ 2 := hI.1 3 4
  refine gX_3_4 hx hb ht hown hK hP m_284 (v := (iv 3 4)) rfl dX3_upper_20 ?_
  refine lX_30_0 hx hb hK hP (f := (la 30 0)) rfl (vp_in_iff.mpr ⟨by omega, by omega⟩) dX3_upper_23 ?_
  refine lv_topl (fun w2 ew2 => ?_)
  refine lv_lmul hx hb dX3_upper_24 ?_
  refine lv_topl (fun w3 ew3 => ?_)
  refine lv_aload_n hx hb dX3_upper_25 rfl (lv_at hl 0 rfl) ?_
  refine gX_3_2 hx hb ht hown hK hP m_281 dX3_upper_26 ?_
  refine gX_30_1 hx hb ht hown hK hP m_265 dX3_upper_29 ?_
  refine lv_aload_n hx hb dX3_upper_32 rfl (lv_at hl 0 rfl) ?_
  refine gX_3_4 hx hb ht hown hK hP m_284 (v := (iv 3 4)) rfl dX3_upper_33 ?_
  refine lX_30_1 hx hb hK hP (f := (la 30 1)) rfl (vp_in_iff.mpr ⟨by omega, by omega⟩) dX3_upper_36 ?_
  refine lv_topl (fun w4 ew4 => ?_)
  refine lv_aload_n hx hb dX3_upper_37 rfl (lv_at hl 0 rfl) ?_
  refine gX_3_2 hx hb ht hown hK hP m_281 dX3_upper_38 ?_
  refine gX_30_0 hx hb ht hown hK hP m_262 dX3_upper_41 ?_
  refine lv_aload_n hx hb dX3_upper_44 rfl (lv_at hl 0 rfl) ?_
  refine gX_3_3 hx hb ht hown hK hP m_283 (v := (iv 3 3)) rfl dX3_upper_45 ?_
  refine lX_30_0 hx hb hK hP (f := (la 30 0)) rfl (vp_in_iff.mpr ⟨by omega, by omega⟩) dX3_upper_48 ?_
  refine lv_topl (fun w5 ew5 => ?_)
  refine lv_lmul hx hb dX3_upper_49 ?_
  refine lv_topl (fun w6 ew6 => ?_)
  refine lv_ladd hx hb dX3_upper_50 ?_
  refine lv_topl (fun w7 ew7 => ?_)
  exact W.lret (v := w7) hx hb hr (fun t ht9 hW => ⟨w7, rfl, ⟨trivial, (show (w7 : Int64).toInt = ((la 30 1) ((iv 3 3).toInt).toNat * (la 30 0) ((iv 3 4).toInt).toNat + (la 30 1) ((iv 3 4).toInt).toNat * (la 30 0) ((iv 3 3).toInt).toNat).toInt from congrArg Int64.toInt (by first | (simp only [ew7, ew6, ew5, ew4, ew3, ew2, ew1]; rfl) | simp only [ew7, ew6, ew5, ew4, ew3, ew2, ew1] | rfl))⟩, ht9⟩) (fun q hq => by cases hq) dX3_upper_51
set_option maxHeartbeats 4000000 in
set_option maxRecDepth 100000 in
/-- X3_lower -/
theorem c_X3_lower_w (l : Launch) (dC : Nat → ClassId) (dI : Nat → Nat → Nat) (h : Nat) (g : Nat → Nat → Nat) (ca : Nat → Nat → ClassId) (iv : Nat → Nat → Int32) (lv : Nat → Nat → Int64) (fa : Nat → Nat → Nat → Int32) (la : Nat → Nat → Nat → Int64) (hI : IX iv fa) : Met l yX3_lower (wc yX3_lower cX3_lower 1 (some .long)) ({ frames := 0, cells := 0, slots := 0, locals := 0 } : Room) (pR (dC, dI) classes (WX h g ca iv lv fa la) (TX ca) [.ref (g 11 5)]) (vp_Sl (fun r => (True) ∧ (r.toInt = (2 * (la 30 0) ((iv 3 3).toInt).toNat * (la 30 0) ((iv 3 4).toInt).toNat).toInt))) 0 0 (fun _ => False) := by
  refine Met.ofW (cc := cX3_lower) (maxL := 1) (ret := (some .long)) (by decide) rfl ?_
  intro p e s m args below meth c s₁ B hml hv
  obtain ⟨rfl, hP, hK⟩ := hv
  have hx := B.exec
  have hb := B.bytes
  have hr := B.returns
  have ht := tb_tl (atoms_spec (ws := wc yX3_lower cX3_lower 1 (some .long)) B.pre)
  have hown : s.vm.findClass RX3 = some m.cls := findClass_of_methodNamed B.named
  have hlocks := B.notSynchronized
  have hl := lv_entry [.ref (g 11 5)] (n := 1) (Nat.le_of_ble_eq_true rfl)
  rw [lg_entry_eq]
  generalize (lg_sl [.ref (g 11 5)] ++ List.replicate (1 - (lg_sl [.ref (g 11 5)]).length) Slot.unset).toArray = ls at hl ⊢
  have hl : lv_has ls 1 [(0, .ref (g 11 5))] := hl
  refine lv_ldc2 hx hb hown (ht _ m_853) dX3_lower_0 ?_
  refine lv_aload_n hx hb dX3_lower_3 rfl (lv_at hl 0 rfl) ?_
  refine gX_3_2 hx hb ht hown hK hP m_281 dX3_lower_4 ?_
  refine gX_30_0 hx hb ht hown hK hP m_262 dX3_lower_7 ?_
  refine lv_aload_n hx hb dX3_lower_10 rfl (lv_at hl 0 rfl) ?_
  have i_3_3 : 0 ≤ (iv 3 3).toInt ∧ (iv 3 3).toInt ≤ 2 := hI.1 3 3
  refine gX_3_3 hx hb ht hown hK hP m_283 (v := (iv 3 3)) rfl dX3_lower_11 ?_
  refine lX_30_0 hx hb hK hP (f := (la 30 0)) rfl (vp_in_iff.mpr ⟨by omega, by omega⟩) dX3_lower_14 ?_
  refine lv_topl (fun w1 ew1 => ?_)
  refine lv_lmul hx hb dX3_lower_15 ?_
  refine lv_topl (fun w2 ew2 => ?_)
  refine lv_aload_n hx hb dX3_lower_16 rfl (lv_at hl 0 rfl) ?_
  refine gX_3_2 hx hb ht hown hK hP m_281 dX3_lower_17 ?_
  refine gX_30_0 hx hb ht hown hK hP m_262 dX3_lower_20 ?_
  refine lv_aload_n hx hb dX3_lower_23 rfl (lv_at hl 0 rfl) ?_
  have i_3_4 : 0 ≤ (iv 3 4).toInt ∧ (iv 3 4).toInt ≤ 2 := hI.1 3 4
  refine gX_3_4 hx hb ht hown hK hP m_284 (v := (iv 3 4)) rfl dX3_lower_24 ?_
  refine lX_30_0 hx hb hK hP (f := (la 30 0)) rfl (vp_in_iff.mpr ⟨by omega, by omega⟩) dX3_lower_27 ?_
  refine lv_topl (fun w3 ew3 => ?_)
  refine lv_lmul hx hb dX3_lower_28 ?_
  refine lv_topl (fun w4 ew4 => ?_)
  exact W.lret (v := w4) hx hb hr (fun t ht9 hW => ⟨w4, rfl, ⟨trivial, (show (w4 : Int64).toInt = (2 * (la 30 0) ((iv 3 3).toInt).toNat * (la 30 0) ((iv 3 4).toInt).toNat).toInt from congrArg Int64.toInt (by first | (simp only [ew4, ew3, ew2, ew1]; rfl) | simp only [ew4, ew3, ew2, ew1] | rfl))⟩, ht9⟩) (fun q hq => by cases hq) dX3_lower_29
set_option maxHeartbeats 4000000 in
set_option maxRecDepth 100000 in
/-- X11_moistened -/
theorem c_X11_moistened_w (l : Launch) (dC : Nat → ClassId) (dI : Nat → Nat → Nat) (sz : Nat) (ak av : Nat → Nat) (h : Nat) (g : Nat → Nat → Nat) (ca : Nat → Nat → ClassId) (iv : Nat → Nat → Int32) (lv : Nat → Nat → Int64) (fa : Nat → Nat → Nat → Int32) (la : Nat → Nat → Nat → Int64) (hI : IX iv fa) (a : Int32) (b : Int32) (h_a : 0 ≤ a.toInt ∧ a.toInt ≤ 9) (p_0 : a.toInt < (iv 0 7).toInt) (hJB : ∀ j : Nat, (j : Int) < (iv 1 7).toInt → 0 ≤ (fa 1 0 j).toInt) (hJF : ∀ a d v : Int, 0 ≤ a → a ≤ 5 → FoX (iv 1 7).toInt (fa 1 0) (fa 1 1) (fa 1 2) (fa 1 3) a d v → fLo a ≤ v ∧ v ≤ fHi a) (hJG : ∀ j : Nat, (j : Int) < (iv 0 7).toInt → 1 ≤ (fa 0 0 j).toInt ∧ (fa 0 0 j).toInt ≤ 99999) : Met l yX11_moistened (wc yX11_moistened cX11_moistened 3 (some .long)) ({ frames := 4, cells := 0, slots := 0, locals := 93 } : Room) (pWZ ak av (dC, dI) classes (WX h g ca iv lv fa la) (TX ca) sz [.ref h, .int a, .int b]) (va_Ql (fun r (u : SS) => ∃ (na_1_6 : Nat → Int32), (∀ j, inb (bA 1 6 j) (na_1_6 j)) ∧ (∃ wt : Int, FoX (iv 1 7).toInt (fa 1 0) (fa 1 1) (fa 1 2) (fa 1 3) 0 b.toInt wt ∧ 0 ≤ wt ∧ wt ≤ 300 ∧ r.toInt = ((fa 0 0) (a.toInt).toNat).toInt * (1000 + wt) ∧ 1000 ≤ r.toInt ∧ r.toInt ≤ 129998700) ∧ (True) ∧ u = (iv, lv, (u2 fa 1 6 na_1_6), la)) (bX (dC, dI) h g ca (va_A (WX h g ca iv lv fa la) sz)) (va_A (WX h g ca iv lv fa la) sz)) 0 0 (va_A (WX h g ca iv lv fa la) sz) := by
  refine Met.ofW (cc := cX11_moistened) (maxL := 3) (ret := (some .long)) (by decide) rfl ?_
  intro p e s m args below meth c s₁ B hml hv
  obtain ⟨rfl, hsz, hP, hK, hD0, hZ⟩ := hv
  have hx := B.exec
  have hb := B.bytes
  have hr := B.returns
  have ht := tb_tl (atoms_spec (ws := wc yX11_moistened cX11_moistened 3 (some .long)) B.pre)
  have hown : s.vm.findClass RX11 = some m.cls := findClass_of_methodNamed B.named
  have hlocks := B.notSynchronized
  subst hsz
  have hD := hD0.self (sz := s.heap.size)
  generalize hAe : va_A (WX h g ca iv lv fa la) s.heap.size = A at hD hZ ⊢
  have hA : ∀ q : Nat, s.heap.size ≤ q → A q := fun q h => by rw [← hAe]; exact Or.inr h
  have hS : va_S A s.heap s.heap [] := va_S.rf
  have hl := lv_entry [.ref h, .int a, .int b] (n := 3) (Nat.le_of_ble_eq_true rfl)
  rw [lg_entry_eq]
  generalize (lg_sl [.ref h, .int a, .int b] ++ List.replicate (3 - (lg_sl [.ref h, .int a, .int b]).length) Slot.unset).toArray = ls at hl ⊢
  have hl : lv_has ls 3 [(0, .ref h), (1, .int a), (2, .int b)] := hl
  refine lv_aload_n hx hb dX11_moistened_0 rfl (lv_at hl 0 rfl) ?_
  refine gX_11_2 hx hb ht hown hK hP m_417 dX11_moistened_1 ?_
  refine gX_0_0 hx hb ht hown hK hP m_153 dX11_moistened_4 ?_
  refine lv_iload_n hx hb dX11_moistened_7 rfl (lv_at hl 1 rfl) ?_
  refine lX_0_0 hx hb hK hP (f := (fa 0 0)) rfl (vp_in_iff.mpr ⟨by omega, by omega⟩) dX11_moistened_8 ?_
  refine lv_topi (fun v1 ev1 => ?_)
  refine lv_i2l (v := (v1.toInt64)) hx hb dX11_moistened_9 rfl ?_
  refine lv_ldc2 hx hb hown (ht _ m_848) dX11_moistened_10 ?_
  refine lv_aload_n hx hb dX11_moistened_13 rfl (lv_at hl 0 rfl) ?_
  refine gX_11_3 hx hb ht hown hK hP m_418 dX11_moistened_14 ?_
  refine lv_iconst (v := 0) hx hb dX11_moistened_17 (by decide) ?_
  refine lv_iload_n hx hb dX11_moistened_18 rfl (lv_at hl 2 rfl) ?_
  have hFc := free_all hD hS hA
  refine va_calli (va_runV (As := [.int 0, .int b]) (rest := [.long 1000, .long (v1.toInt64)]) ⟨hx, hb, hml, hown, ht⟩ (c_X1_holding_f l dC dI s.heap.size ak av h g ca iv lv fa la hI 0 b ⟨by decide, by decide⟩ hJB) (kV 2 ht m_667 m_601 m_602 m_81 m_603 rfl rfl hd_X1_holding_v ⟨Nat.le_of_ble_eq_true rfl, Nat.le_of_ble_eq_true rfl⟩) (vWZ hP hK hD ((hZ.kept hS.2.1).narrow (free_all hD hS hA)) (rX_1 hK hP)) rfl rfl hl.1 rfl (lv_room (Nat.le_of_ble_eq_true rfl)) dX11_moistened_19 ⟨Nat.le_of_ble_eq_true rfl, Nat.le_of_ble_eq_true rfl⟩) hS (fun q _ h => hFc q h) hFc (fun r2 u t H1 locs ht9 hvm hr2 hB hz1 hk1 hS => ?_)
  obtain ⟨n3, hn3, xr2_0, hr2, rfl⟩ := hr2
  obtain ⟨hP, hD⟩ := hB
  rw [ht9] at hP
  generalize H1 = H at hP hS ⊢
  have hP : va_P (dC, dI) classes (WX h g ca iv lv (u2 fa 1 6 n3) la) H := hP
  have hD : va_D A (WX h g ca iv lv (u2 fa 1 6 n3) la) := (show va_D _ (WX h g ca iv lv (u2 fa 1 6 n3) la) from hD).weaken (fun _ _ _ h => hFc _ h)
  have i_1_7 : 0 ≤ (iv 1 7).toInt ∧ (iv 1 7).toInt ≤ 8 := hI.1 1 7
  have : (0 : Int32).toInt = 0 := (by decide)
  have xr2_0 : FoX ((iv 1 7) : Int32).toInt (fa 1 0) (fa 1 1) (fa 1 2) (fa 1 3) (0 : Int32).toInt (b : Int32).toInt (r2 : Int32).toInt := xr2_0
  have hf9 := f0_of (hJF 0 b.toInt (r2 : Int32).toInt (by decide) (by decide) xr2_0)
  refine lv_i2l (v := (r2.toInt64)) hx hb dX11_moistened_22 rfl ?_
  refine lv_ladd hx hb dX11_moistened_23 ?_
  refine lv_topl (fun w4 ew4 => ?_)
  refine lv_lmul hx hb dX11_moistened_24 ?_
  refine lv_topl (fun w5 ew5 => ?_)
  have hP9 : va_P (dC, dI) classes (WX h g ca iv lv (u2 fa 1 6 n3) la) H := hP
  have hD9 : va_D A (WX h g ca iv lv (u2 fa 1 6 n3) la) := hD
  exact W.lret (v := w5) hx hb hr (fun t ht9 hW => ⟨⟨w5, (iv, lv, (u2 fa 1 6 n3), la), rfl, ⟨n3, hn3, (show ∃ wt : Int, FoX (iv 1 7).toInt (fa 1 0) (fa 1 1) (fa 1 2) (fa 1 3) 0 (b).toInt wt ∧ 0 ≤ wt ∧ wt ≤ 300 ∧ (w5 : Int64).toInt = ((fa 0 0) ((a).toInt).toNat).toInt * (1000 + wt) ∧ 1000 ≤ (w5 : Int64).toInt ∧ (w5 : Int64).toInt ≤ 129998700 from (by have hg9 := hJG (a.toInt).toNat (by omega); have hl9 : (v1 : Int32) = fa 0 0 (a.toInt).toNat := ev1; rw [← hl9] at hg9; have hy9 := y_x (g := v1) (r := r2) ew4 ew5 hg9 hf9; rw [hl9] at hy9; exact ⟨_, xr2_0, hf9.1, hf9.2, hy9.1, hy9.2.1, hy9.2.2⟩)), trivial, rfl⟩, by rw [ht9]; exact hP9, hD9⟩, hS.F ht9⟩) hS.2.2 dX11_moistened_25
/-! ===== la4 ===== -/
set_option maxHeartbeats 4000000 in
set_option maxRecDepth 100000 in
/-- X11_lawful -/
theorem c_X11_lawful_w (l : Launch) (dC : Nat → ClassId) (dI : Nat → Nat → Nat) (sz : Nat) (ak av : Nat → Nat) (h : Nat) (g : Nat → Nat → Nat) (ca : Nat → Nat → ClassId) (iv : Nat → Nat → Int32) (lv : Nat → Nat → Int64) (fa : Nat → Nat → Nat → Int32) (la : Nat → Nat → Nat → Int64) (hI : IX iv fa) (a : Int32) (b : Int32) (d : Int32) (hJB : ∀ j : Nat, (j : Int) < (iv 1 7).toInt → 0 ≤ (fa 1 0 j).toInt) (hJW : ∀ s : Nat, (s : Int) < (iv 10 1).toInt → (100 ≤ (fa 10 0 (9 * s + 3)).toInt ∧ (fa 10 0 (9 * s + 3)).toInt ≤ 9999) ∧ (50 ≤ (fa 10 0 (9 * s + 4)).toInt ∧ (fa 10 0 (9 * s + 4)).toInt ≤ 9999)) (hJF : ∀ a d v : Int, 0 ≤ a → a ≤ 5 → FoX (iv 1 7).toInt (fa 1 0) (fa 1 1) (fa 1 2) (fa 1 3) a d v → fLo a ≤ v ∧ v ≤ fHi a) (hJG : ∀ j : Nat, (j : Int) < (iv 0 7).toInt → 1 ≤ (fa 0 0 j).toInt ∧ (fa 0 0 j).toInt ≤ 99999) (hJL : ∀ b l : Int32, cn0 (fun s => fa 10 0 (9 * s + 0)) (fun s => fa 10 0 (9 * s + 1)) b l (iv 10 1).toInt.toNat ≤ 12) : Met l yX11_lawful (wc yX11_lawful cX11_lawful 4 (some .long)) ({ frames := 5, cells := 0, slots := 0, locals := 117 } : Room) (pWZ ak av (dC, dI) classes (WX h g ca iv lv fa la) (TX ca) sz [.ref h, .int a, .int b, .int d]) (va_Ql (fun r (u : SS) => ∃ (na_1_6 : Nat → Int32) (na_30_2 : Nat → Int32) (nb_30_0 : Nat → Int64) (nb_30_1 : Nat → Int64) (ni_3_3 : Int32) (ni_3_4 : Int32), (∀ j, inb (bA 1 6 j) (na_1_6 j)) ∧ inb (bI 3 3) ni_3_3 ∧ inb (bI 3 4) ni_3_4 ∧ (((r.toInt = -100001 ∧ ¬ (0 ≤ a.toInt ∧ a.toInt < (iv 0 7).toInt)) ∨ (r.toInt = -100002 ∧ (0 ≤ a.toInt ∧ a.toInt < (iv 0 7).toInt) ∧ ¬ (0 ≤ b.toInt ∧ b.toInt ≤ (iv 11 10).toInt ∧ 0 ≤ d.toInt ∧ d.toInt ≤ 1)) ∨ ((0 ≤ a.toInt ∧ a.toInt < (iv 0 7).toInt) ∧ (0 ≤ b.toInt ∧ b.toInt ≤ (iv 11 10).toInt ∧ 0 ≤ d.toInt ∧ d.toInt ≤ 1) ∧ ∃ (D R : Nat → Int64) (C : Nat → Int32) (i j ro : Int), LwS (fun q v => FoX (iv 1 7).toInt (fa 1 0) (fa 1 1) (fa 1 2) (fa 1 3) q b.toInt v) (fa 10 0) a.toInt b.toInt ((iv 10 1).toInt).toNat D R C i j ro ∧ ((ro ≠ 1 ∧ r.toInt = -100003) ∨ (ro = 1 ∧ ∃ wt : Int, FoX (iv 1 7).toInt (fa 1 0) (fa 1 1) (fa 1 2) (fa 1 3) 0 b.toInt wt ∧ 0 ≤ wt ∧ ltX (upI D R i j * (((fa 0 0) (a.toInt).toNat).toInt * (1000 + wt))) (loI R i j * 1000) d.toInt r.toInt))))) ∧ (True) ∧ u = ((u2 (u2 iv 3 3 ni_3_3) 3 4 ni_3_4), lv, (u2 (u2 fa 1 6 na_1_6) 30 2 na_30_2), (u2 (u2 la 30 0 nb_30_0) 30 1 nb_30_1))) (bX (dC, dI) h g ca (va_A (WX h g ca iv lv fa la) sz)) (va_A (WX h g ca iv lv fa la) sz)) 0 0 (va_A (WX h g ca iv lv fa la) sz) := by
  refine Met.ofW (cc := cX11_lawful) (maxL := 4) (ret := (some .long)) (by decide) rfl ?_
  intro p e s m args below meth c s₁ B hml hv
  obtain ⟨rfl, hsz, hP, hK, hD0, hZ⟩ := hv
  have hx := B.exec
  have hb := B.bytes
  have hr := B.returns
  have ht := tb_tl (atoms_spec (ws := wc yX11_lawful cX11_lawful 4 (some .long)) B.pre)
  have hown : s.vm.findClass RX11 = some m.cls := findClass_of_methodNamed B.named
  have hlocks := B.notSynchronized
  subst hsz
  have hD := hD0.self (sz := s.heap.size)
  generalize hAe : va_A (WX h g ca iv lv fa la) s.heap.size = A at hD hZ ⊢
  have hA : ∀ q : Nat, s.heap.size ≤ q → A q := fun q h => by rw [← hAe]; exact Or.inr h
  have hS : va_S A s.heap s.heap [] := va_S.rf
  have hl := lv_entry [.ref h, .int a, .int b, .int d] (n := 4) (Nat.le_of_ble_eq_true rfl)
  rw [lg_entry_eq]
  generalize (lg_sl [.ref h, .int a, .int b, .int d] ++ List.replicate (4 - (lg_sl [.ref h, .int a, .int b, .int d]).length) Slot.unset).toArray = ls at hl ⊢
  have hl : lv_has ls 4 [(0, .ref h), (1, .int a), (2, .int b), (3, .int d)] := hl
  refine lv_aload_n hx hb dX11_lawful_0 rfl (lv_at hl 0 rfl) ?_
  refine gX_11_2 hx hb ht hown hK hP m_417 dX11_lawful_1 ?_
  refine lv_iload_n hx hb dX11_lawful_4 rfl (lv_at hl 1 rfl) ?_
  refine vp_callSi (W.runV (As := [.int a]) (rest := []) ⟨hx, hb, hml, hown, ht⟩ (c_X0_has l dC dI h g ca iv lv fa la hI a) (kV 1 ht m_472 m_473 m_474 m_80 m_475 rfl rfl hd_X0_has_v ⟨Nat.le_of_ble_eq_true rfl, Nat.le_of_ble_eq_true rfl⟩) (vR hP hK (rX_0 hK hP)) rfl rfl hl.1 rfl (lv_room (Nat.le_of_ble_eq_true rfl)) dX11_lawful_5 ⟨Nat.le_of_ble_eq_true rfl, Nat.le_of_ble_eq_true rfl⟩) (fun r1 hr1 => ?_)
  rcases hr1 with ⟨rfl, fr1⟩ | ⟨rfl, fr1⟩
  · skip
    have i_0_7 : 0 ≤ (iv 0 7).toInt ∧ (iv 0 7).toInt ≤ 10 := hI.1 0 7
    have fr1 : (0 ≤ (a : Int32).toInt ∧ (a : Int32).toInt < ((iv 0 7) : Int32).toInt) := fr1
    refine lv_if_ne (tgt := 15) hx hb dX11_lawful_8 (by decide) (fun c2 => ?_) (fun c2 => ?_)
    · skip
      refine lv_iload_n hx hb dX11_lawful_15 rfl (lv_at hl 2 rfl) ?_
      refine lv_iconst (v := 0) hx hb dX11_lawful_16 (by decide) ?_
      refine lv_aload_n hx hb dX11_lawful_17 rfl (lv_at hl 0 rfl) ?_
      have i_11_10 : 0 ≤ (iv 11 10).toInt ∧ (iv 11 10).toInt ≤ 3000 := hI.1 11 10
      refine gX_11_10 hx hb ht hown hK hP m_425 (v := (iv 11 10)) rfl dX11_lawful_18 ?_
      refine vp_callSi (W.runS (As := [.int b, .int 0, .int (iv 11 10)]) (rest := []) ⟨hx, hb, hml, hown, ht⟩ (c_X11_within l dC dI b 0 (iv 11 10) (b.toInt) (0) ((iv 11 10).toInt) (rfl : (b).toInt = _) (by decide : (0 : Int32).toInt = 0) (rfl : ((iv 11 10)).toInt = _)) (kS 3 ht m_453 m_454 m_77 m_455 rfl rfl hd_X11_within_v ⟨Nat.le_of_ble_eq_true rfl, Nat.le_of_ble_eq_true rfl⟩) (sR noP (hK.sub (tys' := []) [] rfl)) rfl rfl hl.1 rfl (lv_room (Nat.le_of_ble_eq_true rfl)) dX11_lawful_21 ⟨Nat.le_of_ble_eq_true rfl, Nat.le_of_ble_eq_true rfl⟩) (fun r3 hr3 => ?_)
      rcases hr3 with ⟨rfl, fr3⟩ | ⟨rfl, fr3⟩
      · skip
        refine lv_if_eq (tgt := 36) hx hb dX11_lawful_24 (by decide) (fun c4 => ?_) (fun c4 => ?_)
        · exact absurd c4 (by decide)
        · skip
          refine lv_iload_n hx hb dX11_lawful_27 rfl (lv_at hl 3 rfl) ?_
          refine lv_iconst (v := 0) hx hb dX11_lawful_28 (by decide) ?_
          refine lv_iconst (v := 1) hx hb dX11_lawful_29 (by decide) ?_
          refine vp_callSi (W.runS (As := [.int d, .int 0, .int 1]) (rest := []) ⟨hx, hb, hml, hown, ht⟩ (c_X11_within l dC dI d 0 1 (d.toInt) (0) (1) (rfl : (d).toInt = _) (by decide : (0 : Int32).toInt = 0) (by decide : (1 : Int32).toInt = 1)) (kS 3 ht m_453 m_454 m_77 m_455 rfl rfl hd_X11_within_v ⟨Nat.le_of_ble_eq_true rfl, Nat.le_of_ble_eq_true rfl⟩) (sR noP (hK.sub (tys' := []) [] rfl)) rfl rfl hl.1 rfl (lv_room (Nat.le_of_ble_eq_true rfl)) dX11_lawful_30 ⟨Nat.le_of_ble_eq_true rfl, Nat.le_of_ble_eq_true rfl⟩) (fun r5 hr5 => ?_)
          rcases hr5 with ⟨rfl, fr5⟩ | ⟨rfl, fr5⟩
          · skip
            refine lv_if_ne (tgt := 40) hx hb dX11_lawful_33 (by decide) (fun c6 => ?_) (fun c6 => ?_)
            · skip
              refine lv_aload_n hx hb dX11_lawful_40 rfl (lv_at hl 0 rfl) ?_
              refine gX_11_5 hx hb ht hown hK hP m_420 dX11_lawful_41 ?_
              refine lv_iload_n hx hb dX11_lawful_44 rfl (lv_at hl 1 rfl) ?_
              refine lv_iload_n hx hb dX11_lawful_45 rfl (lv_at hl 2 rfl) ?_
              have i_1_7 : 0 ≤ (iv 1 7).toInt ∧ (iv 1 7).toInt ≤ 8 := hI.1 1 7
              have i_10_1 : 0 ≤ (iv 10 1).toInt ∧ (iv 10 1).toInt ≤ 60 := hI.1 10 1
              have hFc := free_all hD hS hA
              refine va_calli (va_runV (As := [.int a, .int b]) (rest := []) ⟨hx, hb, hml, hown, ht⟩ (c_X3_weighUp_w l dC dI s.heap.size ak av h g ca iv lv fa la hI a b hJB) (kV 2 ht m_595 m_596 m_597 m_83 m_598 rfl rfl hd_X3_weighUp_v ⟨Nat.le_of_ble_eq_true rfl, Nat.le_of_ble_eq_true rfl⟩) (vWZ hP hK hD ((hZ.kept hS.2.1).narrow (free_all hD hS hA)) (rX_3 hK hP)) rfl rfl hl.1 rfl (lv_room (Nat.le_of_ble_eq_true rfl)) dX11_lawful_46 ⟨Nat.le_of_ble_eq_true rfl, Nat.le_of_ble_eq_true rfl⟩) hS (fun q _ h => hFc q h) hFc (fun r7 u t H1 locs ht9 hvm hr7 hB hz1 hk1 hS => ?_)
              obtain ⟨n8, n9, n10, n11, n12, n13, hn8, hn12, hn13, xr7_0, hr7, rfl⟩ := hr7
              have hn9 : ∀ j, inb (bA 30 2 j) (n9 j) := fun j => full_i _
              have hn12 : 0 ≤ n12.toInt ∧ n12.toInt ≤ 2 := hn12
              have hn13 : 0 ≤ n13.toInt ∧ n13.toInt ≤ 2 := hn13
              obtain ⟨hP, hD⟩ := hB
              rw [ht9] at hP
              generalize H1 = H at hP hS ⊢
              have hP : va_P (dC, dI) classes (WX h g ca (u2 (u2 iv 3 3 n12) 3 4 n13) lv (u2 (u2 fa 1 6 n8) 30 2 n9) (u2 (u2 la 30 0 n10) 30 1 n11)) H := hP
              have hD : va_D A (WX h g ca (u2 (u2 iv 3 3 n12) 3 4 n13) lv (u2 (u2 fa 1 6 n8) 30 2 n9) (u2 (u2 la 30 0 n10) 30 1 n11)) := (show va_D _ (WX h g ca (u2 (u2 iv 3 3 n12) 3 4 n13) lv (u2 (u2 fa 1 6 n8) 30 2 n9) (u2 (u2 la 30 0 n10) 30 1 n11)) from hD).weaken (fun _ _ _ h => hFc _ h)
              have xr7_0 : LwS (fun q v => FoX ((iv 1 7) : Int32).toInt (fa 1 0) (fa 1 1) (fa 1 2) (fa 1 3) q (b : Int32).toInt v) (fa 10 0) (a : Int32).toInt (b : Int32).toInt (((iv 10 1) : Int32).toInt).toNat n11 n10 n9 (n12 : Int32).toInt (n13 : Int32).toInt (r7 : Int32).toInt := xr7_0
              refine lv_iconst (v := 1) hx hb dX11_lawful_49 (by decide) ?_
              refine lv_icmp_eq (tgt := 57) hx hb dX11_lawful_50 (by decide) (fun c14 => ?_) (fun c14 => ?_)
              · have fc14 := z_eq (rfl : (r7).toInt = _) (by decide : (1 : Int32).toInt = 1) c14
                have hw9 : ∀ s : Nat, s < (iv 10 1).toInt.toNat → (100 ≤ (fa 10 0 (9 * s + 3)).toInt ∧ (fa 10 0 (9 * s + 3)).toInt ≤ 9999) ∧ (50 ≤ (fa 10 0 (9 * s + 4)).toInt ∧ (fa 10 0 (9 * s + 4)).toInt ≤ 9999) := fun s hs => hJW s (by omega)
                have hb9_0 := bdX (l := 0) (show (iv 10 1).toInt.toNat ≤ 60 from by have q9 : 0 ≤ (iv 10 1).toInt ∧ (iv 10 1).toInt ≤ 60 := hI.1 10 1; omega) hw9 (hJL a) xr7_0.1 (by decide) 0 (by decide)
                have hb9_1 := bdX (l := 1) (show (iv 10 1).toInt.toNat ≤ 60 from by have q9 : 0 ≤ (iv 10 1).toInt ∧ (iv 10 1).toInt ≤ 60 := hI.1 10 1; omega) hw9 (hJL a) xr7_0.1 (by decide) 1 (by decide)
                have hb9_2 := bdX (l := 2) (show (iv 10 1).toInt.toNat ≤ 60 from by have q9 : 0 ≤ (iv 10 1).toInt ∧ (iv 10 1).toInt ≤ 60 := hI.1 10 1; omega) hw9 (hJL a) xr7_0.1 (by decide) 2 (by decide)
                have ho9 := WpX_ok (F := (fun q v => FoX (iv 1 7).toInt (fa 1 0) (fa 1 1) (fa 1 2) (fa 1 3) q (b).toInt v)) (i := (n12 : Int32).toInt) (j := (n13 : Int32).toInt) (fun v hv => f1_of (hJF 1 _ v (by decide) (by decide) hv)) hb9_0 hb9_1 hb9_2 xr7_0.2 (by omega)
                have hu9 := up_b ho9.1 ho9.2
                refine lv_aload_n hx hb dX11_lawful_57 rfl (lv_at hl 0 rfl) ?_
                refine gX_11_5 hx hb ht hown hK hP m_420 dX11_lawful_58 ?_
                refine vp_callSl (W.runV (As := []) (rest := []) ⟨hx, hb, hml, hown, ht⟩ (c_X3_upper_w l dC dI h g ca (u2 (u2 iv 3 3 n12) 3 4 n13) lv (u2 (u2 fa 1 6 n8) 30 2 n9) (u2 (u2 la 30 0 n10) 30 1 n11) (IX_a (c := 30) (k := 2) (IX_a (c := 1) (k := 6) (IX_i (c := 3) (k := 4) (IX_i (c := 3) (k := 3) hI (show inb (0, 2) n12 from ⟨by omega, by omega⟩)) (show inb (0, 2) n13 from ⟨by omega, by omega⟩)) hn8) hn9)) (kV 0 ht m_840 m_841 m_842 m_83 m_843 rfl rfl hd_X3_upper_v ⟨Nat.le_of_ble_eq_true rfl, Nat.le_of_ble_eq_true rfl⟩) (vR hP hK (rX_3 hK hP)) rfl rfl hl.1 rfl (lv_room (Nat.le_of_ble_eq_true rfl)) dX11_lawful_61 ⟨Nat.le_of_ble_eq_true rfl, Nat.le_of_ble_eq_true rfl⟩) (fun r15 hr15 => ?_)
                obtain ⟨hr15, xr15_0⟩ := hr15
                have xr15_0 : (r15 : Int64).toInt = (n11 ((n12 : Int32).toInt).toNat * n10 ((n13 : Int32).toInt).toNat + n11 ((n13 : Int32).toInt).toNat * n10 ((n12 : Int32).toInt).toNat).toInt := xr15_0
                refine lv_aload_n hx hb dX11_lawful_64 rfl (lv_at hl 0 rfl) ?_
                refine lv_iload_n hx hb dX11_lawful_65 rfl (lv_at hl 1 rfl) ?_
                refine lv_iload_n hx hb dX11_lawful_66 rfl (lv_at hl 2 rfl) ?_
                have hFc := free_all hD hS hA
                refine va_calll (va_runV (As := [.int a, .int b]) (rest := [.long r15]) ⟨hx, hb, hml, hown, ht⟩ (c_X11_moistened_w l dC dI H.size ak av h g ca (u2 (u2 iv 3 3 n12) 3 4 n13) lv (u2 (u2 fa 1 6 n8) 30 2 n9) (u2 (u2 la 30 0 n10) 30 1 n11) (IX_a (c := 30) (k := 2) (IX_a (c := 1) (k := 6) (IX_i (c := 3) (k := 4) (IX_i (c := 3) (k := 3) hI (show inb (0, 2) n12 from ⟨by omega, by omega⟩)) (show inb (0, 2) n13 from ⟨by omega, by omega⟩)) hn8) hn9) a b ⟨by omega, by omega⟩ (show (a : Int32).toInt < ((iv 0 7) : Int32).toInt from by omega) hJB hJF hJG) (kV 2 ht m_844 m_846 m_29 m_77 m_847 rfl rfl hd_X11_moistened_v ⟨Nat.le_of_ble_eq_true rfl, Nat.le_of_ble_eq_true rfl⟩) (vWZ hP hK hD ((hZ.kept hS.2.1).narrow (free_all hD hS hA)) (rX_11 hK hP)) rfl rfl hl.1 rfl (lv_room (Nat.le_of_ble_eq_true rfl)) dX11_lawful_67 ⟨Nat.le_of_ble_eq_true rfl, Nat.le_of_ble_eq_true rfl⟩) hS (fun q _ h => hFc q h) hFc (fun r16 u t H1 locs ht9 hvm hr16 hB hz1 hk1 hS => ?_)
                obtain ⟨n17, hn17, xr16_0, hr16, rfl⟩ := hr16
                obtain ⟨hP, hD⟩ := hB
                rw [ht9] at hP
                generalize H1 = H at hP hS ⊢
                have hP : va_P (dC, dI) classes (WX h g ca (u2 (u2 iv 3 3 n12) 3 4 n13) lv (u2 (u2 fa 1 6 n17) 30 2 n9) (u2 (u2 la 30 0 n10) 30 1 n11)) H := hP
                have hD : va_D A (WX h g ca (u2 (u2 iv 3 3 n12) 3 4 n13) lv (u2 (u2 fa 1 6 n17) 30 2 n9) (u2 (u2 la 30 0 n10) 30 1 n11)) := (show va_D _ (WX h g ca (u2 (u2 iv 3 3 n12) 3 4 n13) lv (u2 (u2 fa 1 6 n17) 30 2 n9) (u2 (u2 la 30 0 n10) 30 1 n11)) from hD).weaken (fun _ _ _ h => hFc _ h)
                have xr16_0 : ∃ wt : Int, FoX ((iv 1 7) : Int32).toInt (fa 1 0) (fa 1 1) (fa 1 2) (fa 1 3) 0 (b : Int32).toInt wt ∧ 0 ≤ wt ∧ wt ≤ 300 ∧ (r16 : Int64).toInt = ((fa 0 0) ((a : Int32).toInt).toNat).toInt * (1000 + wt) ∧ 1000 ≤ (r16 : Int64).toInt ∧ (r16 : Int64).toInt ≤ 129998700 := xr16_0
                refine lv_lmul hx hb dX11_lawful_70 ?_
                refine lv_topl (fun w18 ew18 => ?_)
                refine lv_aload_n hx hb dX11_lawful_71 rfl (lv_at hl 0 rfl) ?_
                refine gX_11_5 hx hb ht hown hK hP m_420 dX11_lawful_72 ?_
                refine vp_callSl (W.runV (As := []) (rest := [.long w18]) ⟨hx, hb, hml, hown, ht⟩ (c_X3_lower_w l dC dI h g ca (u2 (u2 iv 3 3 n12) 3 4 n13) lv (u2 (u2 fa 1 6 n17) 30 2 n9) (u2 (u2 la 30 0 n10) 30 1 n11) (IX_a (c := 30) (k := 2) (IX_a (c := 1) (k := 6) (IX_i (c := 3) (k := 4) (IX_i (c := 3) (k := 3) hI (show inb (0, 2) n12 from ⟨by omega, by omega⟩)) (show inb (0, 2) n13 from ⟨by omega, by omega⟩)) hn17) hn9)) (kV 0 ht m_849 m_850 m_851 m_83 m_852 rfl rfl hd_X3_lower_v ⟨Nat.le_of_ble_eq_true rfl, Nat.le_of_ble_eq_true rfl⟩) (vR hP hK (rX_3 hK hP)) rfl rfl hl.1 rfl (lv_room (Nat.le_of_ble_eq_true rfl)) dX11_lawful_75 ⟨Nat.le_of_ble_eq_true rfl, Nat.le_of_ble_eq_true rfl⟩) (fun r19 hr19 => ?_)
                obtain ⟨hr19, xr19_0⟩ := hr19
                have xr19_0 : (r19 : Int64).toInt = (2 * n10 ((n12 : Int32).toInt).toNat * n10 ((n13 : Int32).toInt).toNat).toInt := xr19_0
                refine lv_ldc2 hx hb hown (ht _ m_848) dX11_lawful_78 ?_
                refine lv_lmul hx hb dX11_lawful_81 ?_
                refine lv_topl (fun w20 ew20 => ?_)
                refine lv_iload_n hx hb dX11_lawful_82 rfl (lv_at hl 3 rfl) ?_
                obtain ⟨wt9, hm1, hm2, hm3, hm4, hm5, hm6⟩ := xr16_0
                have hl9 := lw_bd (U := r15) (L := r19) (m := r16) ho9.1 ho9.2 (xr15_0.trans hu9.2.2.2.2.1) (xr19_0.trans hu9.2.2.2.2.2) ⟨hm5, hm6⟩
                rw [← ew18, ← ew20, hm4] at hl9
                obtain ⟨hl1, hl2, hl3, hl4, hl5⟩ := hl9
                refine vp_callSl (W.runS (As := [.long w18, .long w20, .int d]) (rest := []) ⟨hx, hb, hml, hown, ht⟩ (c_X11_inLeastTerms_g l dC dI w18 w20 d (show 0 ≤ (w18 : Int64).toInt from by omega) (show 1 ≤ (w20 : Int64).toInt from by omega) (show (w20 : Int64).toInt ≤ 281474976710656 from by omega)) (kS 3 ht m_581 m_582 m_77 m_583 rfl rfl hd_X11_inLeastTerms_v ⟨Nat.le_of_ble_eq_true rfl, Nat.le_of_ble_eq_true rfl⟩) (sR noP (hK.sub (tys' := []) [] rfl)) rfl rfl hl.1 rfl (lv_room (Nat.le_of_ble_eq_true rfl)) dX11_lawful_83 ⟨Nat.le_of_ble_eq_true rfl, Nat.le_of_ble_eq_true rfl⟩) (fun r21 hr21 => ?_)
                obtain ⟨hr21, xr21_0⟩ := hr21
                have xr21_0 : (((d : Int32).toInt = 0 ∧ (r21 : Int64).toInt = (w18 : Int64).toInt / gN (w18 : Int64).toInt (w20 : Int64).toInt) ∨ ((d : Int32).toInt ≠ 0 ∧ (r21 : Int64).toInt = (w20 : Int64).toInt / gN (w18 : Int64).toInt (w20 : Int64).toInt)) := xr21_0
                have hP9 : va_P (dC, dI) classes (WX h g ca (u2 (u2 iv 3 3 n12) 3 4 n13) lv (u2 (u2 fa 1 6 n17) 30 2 n9) (u2 (u2 la 30 0 n10) 30 1 n11)) H := hP
                have hD9 : va_D A (WX h g ca (u2 (u2 iv 3 3 n12) 3 4 n13) lv (u2 (u2 fa 1 6 n17) 30 2 n9) (u2 (u2 la 30 0 n10) 30 1 n11)) := hD
                exact W.lret (v := r21) hx hb hr (fun t ht9 hW => ⟨⟨r21, ((u2 (u2 iv 3 3 n12) 3 4 n13), lv, (u2 (u2 fa 1 6 n17) 30 2 n9), (u2 (u2 la 30 0 n10) 30 1 n11)), rfl, ⟨n17, n9, n10, n11, n12, n13, hn17, (show inb (0, 2) n12 from ⟨by omega, by omega⟩), (show inb (0, 2) n13 from ⟨by omega, by omega⟩), (show (((r21 : Int64).toInt = -100001 ∧ ¬ (0 ≤ (a).toInt ∧ (a).toInt < (iv 0 7).toInt)) ∨ ((r21 : Int64).toInt = -100002 ∧ (0 ≤ (a).toInt ∧ (a).toInt < (iv 0 7).toInt) ∧ ¬ (0 ≤ (b).toInt ∧ (b).toInt ≤ (iv 11 10).toInt ∧ 0 ≤ (d).toInt ∧ (d).toInt ≤ 1)) ∨ ((0 ≤ (a).toInt ∧ (a).toInt < (iv 0 7).toInt) ∧ (0 ≤ (b).toInt ∧ (b).toInt ≤ (iv 11 10).toInt ∧ 0 ≤ (d).toInt ∧ (d).toInt ≤ 1) ∧ ∃ (D R : Nat → Int64) (C : Nat → Int32) (i j ro : Int), LwS (fun q v => FoX (iv 1 7).toInt (fa 1 0) (fa 1 1) (fa 1 2) (fa 1 3) q (b).toInt v) (fa 10 0) (a).toInt (b).toInt ((iv 10 1).toInt).toNat D R C i j ro ∧ ((ro ≠ 1 ∧ (r21 : Int64).toInt = -100003) ∨ (ro = 1 ∧ ∃ wt : Int, FoX (iv 1 7).toInt (fa 1 0) (fa 1 1) (fa 1 2) (fa 1 3) 0 (b).toInt wt ∧ 0 ≤ wt ∧ ltX (upI D R i j * (((fa 0 0) ((a).toInt).toNat).toInt * (1000 + wt))) (loI R i j * 1000) (d).toInt (r21 : Int64).toInt)))) from (by have hz9 := xr21_0; rw [hl1, hl3] at hz9; exact Or.inr (Or.inr ⟨⟨by omega, by omega⟩, ⟨by omega, by omega, by omega, by omega⟩, ⟨n11, n10, n9, (n12 : Int32).toInt, (n13 : Int32).toInt, _, xr7_0, Or.inr ⟨by omega, wt9, hm1, hm2, hz9⟩⟩⟩))), trivial, rfl⟩, by rw [ht9]; exact hP9, hD9⟩, hS.F ht9⟩) hS.2.2 dX11_lawful_86
              · have fc14 := z_ne (rfl : (r7).toInt = _) (by decide : (1 : Int32).toInt = 1) c14
                refine lv_ldc2 hx hb hown (ht _ m_839) dX11_lawful_53 ?_
                have : ((-100003) : Int64).toInt = (-100003) := (by decide)
                have hP9 : va_P (dC, dI) classes (WX h g ca (u2 (u2 iv 3 3 n12) 3 4 n13) lv (u2 (u2 fa 1 6 n8) 30 2 n9) (u2 (u2 la 30 0 n10) 30 1 n11)) H := hP
                have hD9 : va_D A (WX h g ca (u2 (u2 iv 3 3 n12) 3 4 n13) lv (u2 (u2 fa 1 6 n8) 30 2 n9) (u2 (u2 la 30 0 n10) 30 1 n11)) := hD
                exact W.lret (v := (-100003)) hx hb hr (fun t ht9 hW => ⟨⟨(-100003), ((u2 (u2 iv 3 3 n12) 3 4 n13), lv, (u2 (u2 fa 1 6 n8) 30 2 n9), (u2 (u2 la 30 0 n10) 30 1 n11)), rfl, ⟨n8, n9, n10, n11, n12, n13, hn8, (show inb (0, 2) n12 from ⟨by omega, by omega⟩), (show inb (0, 2) n13 from ⟨by omega, by omega⟩), (show ((((-100003) : Int64).toInt = -100001 ∧ ¬ (0 ≤ (a).toInt ∧ (a).toInt < (iv 0 7).toInt)) ∨ (((-100003) : Int64).toInt = -100002 ∧ (0 ≤ (a).toInt ∧ (a).toInt < (iv 0 7).toInt) ∧ ¬ (0 ≤ (b).toInt ∧ (b).toInt ≤ (iv 11 10).toInt ∧ 0 ≤ (d).toInt ∧ (d).toInt ≤ 1)) ∨ ((0 ≤ (a).toInt ∧ (a).toInt < (iv 0 7).toInt) ∧ (0 ≤ (b).toInt ∧ (b).toInt ≤ (iv 11 10).toInt ∧ 0 ≤ (d).toInt ∧ (d).toInt ≤ 1) ∧ ∃ (D R : Nat → Int64) (C : Nat → Int32) (i j ro : Int), LwS (fun q v => FoX (iv 1 7).toInt (fa 1 0) (fa 1 1) (fa 1 2) (fa 1 3) q (b).toInt v) (fa 10 0) (a).toInt (b).toInt ((iv 10 1).toInt).toNat D R C i j ro ∧ ((ro ≠ 1 ∧ ((-100003) : Int64).toInt = -100003) ∨ (ro = 1 ∧ ∃ wt : Int, FoX (iv 1 7).toInt (fa 1 0) (fa 1 1) (fa 1 2) (fa 1 3) 0 (b).toInt wt ∧ 0 ≤ wt ∧ ltX (upI D R i j * (((fa 0 0) ((a).toInt).toNat).toInt * (1000 + wt))) (loI R i j * 1000) (d).toInt ((-100003) : Int64).toInt)))) from Or.inr (Or.inr ⟨⟨by omega, by omega⟩, ⟨by omega, by omega, by omega, by omega⟩, ⟨n11, n10, n9, (n12 : Int32).toInt, (n13 : Int32).toInt, _, xr7_0, Or.inl ⟨by omega, by omega⟩⟩⟩)), trivial, rfl⟩, by rw [ht9]; exact hP9, hD9⟩, hS.F ht9⟩) hS.2.2 dX11_lawful_56
            · exact absurd c6 (by decide)
          · skip
            refine lv_if_ne (tgt := 40) hx hb dX11_lawful_33 (by decide) (fun c22 => ?_) (fun c22 => ?_)
            · exact absurd rfl c22
            · skip
              refine lv_ldc2 hx hb hown (ht _ m_838) dX11_lawful_36 ?_
              have : ((-100002) : Int64).toInt = (-100002) := (by decide)
              have hP9 : va_P (dC, dI) classes (WX h g ca (u2 (u2 iv 3 3 (iv 3 3)) 3 4 (iv 3 4)) lv (u2 (u2 fa 1 6 (fa 1 6)) 30 2 (fa 30 2)) (u2 (u2 la 30 0 (la 30 0)) 30 1 (la 30 1))) s.heap := hP
              have hD9 : va_D A (WX h g ca (u2 (u2 iv 3 3 (iv 3 3)) 3 4 (iv 3 4)) lv (u2 (u2 fa 1 6 (fa 1 6)) 30 2 (fa 30 2)) (u2 (u2 la 30 0 (la 30 0)) 30 1 (la 30 1))) := hD
              exact W.lret (v := (-100002)) hx hb hr (fun t ht9 hW => ⟨⟨(-100002), ((u2 (u2 iv 3 3 (iv 3 3)) 3 4 (iv 3 4)), lv, (u2 (u2 fa 1 6 (fa 1 6)) 30 2 (fa 30 2)), (u2 (u2 la 30 0 (la 30 0)) 30 1 (la 30 1))), rfl, ⟨(fa 1 6), (fa 30 2), (la 30 0), (la 30 1), (iv 3 3), (iv 3 4), (hI.2 1 6), (hI.1 3 3), (hI.1 3 4), (show ((((-100002) : Int64).toInt = -100001 ∧ ¬ (0 ≤ (a).toInt ∧ (a).toInt < (iv 0 7).toInt)) ∨ (((-100002) : Int64).toInt = -100002 ∧ (0 ≤ (a).toInt ∧ (a).toInt < (iv 0 7).toInt) ∧ ¬ (0 ≤ (b).toInt ∧ (b).toInt ≤ (iv 11 10).toInt ∧ 0 ≤ (d).toInt ∧ (d).toInt ≤ 1)) ∨ ((0 ≤ (a).toInt ∧ (a).toInt < (iv 0 7).toInt) ∧ (0 ≤ (b).toInt ∧ (b).toInt ≤ (iv 11 10).toInt ∧ 0 ≤ (d).toInt ∧ (d).toInt ≤ 1) ∧ ∃ (D R : Nat → Int64) (C : Nat → Int32) (i j ro : Int), LwS (fun q v => FoX (iv 1 7).toInt (fa 1 0) (fa 1 1) (fa 1 2) (fa 1 3) q (b).toInt v) (fa 10 0) (a).toInt (b).toInt ((iv 10 1).toInt).toNat D R C i j ro ∧ ((ro ≠ 1 ∧ ((-100002) : Int64).toInt = -100003) ∨ (ro = 1 ∧ ∃ wt : Int, FoX (iv 1 7).toInt (fa 1 0) (fa 1 1) (fa 1 2) (fa 1 3) 0 (b).toInt wt ∧ 0 ≤ wt ∧ ltX (upI D R i j * (((fa 0 0) ((a).toInt).toNat).toInt * (1000 + wt))) (loI R i j * 1000) (d).toInt ((-100002) : Int64).toInt)))) from Or.inr (Or.inl ⟨by omega, ⟨by omega, by omega⟩, by omega⟩)), trivial, rfl⟩, by rw [ht9]; exact hP9, hD9⟩, hS.F ht9⟩) hS.2.2 dX11_lawful_39
      · skip
        refine lv_if_eq (tgt := 36) hx hb dX11_lawful_24 (by decide) (fun c23 => ?_) (fun c23 => ?_)
        · skip
          refine lv_ldc2 hx hb hown (ht _ m_838) dX11_lawful_36 ?_
          have : ((-100002) : Int64).toInt = (-100002) := (by decide)
          have hP9 : va_P (dC, dI) classes (WX h g ca (u2 (u2 iv 3 3 (iv 3 3)) 3 4 (iv 3 4)) lv (u2 (u2 fa 1 6 (fa 1 6)) 30 2 (fa 30 2)) (u2 (u2 la 30 0 (la 30 0)) 30 1 (la 30 1))) s.heap := hP
          have hD9 : va_D A (WX h g ca (u2 (u2 iv 3 3 (iv 3 3)) 3 4 (iv 3 4)) lv (u2 (u2 fa 1 6 (fa 1 6)) 30 2 (fa 30 2)) (u2 (u2 la 30 0 (la 30 0)) 30 1 (la 30 1))) := hD
          exact W.lret (v := (-100002)) hx hb hr (fun t ht9 hW => ⟨⟨(-100002), ((u2 (u2 iv 3 3 (iv 3 3)) 3 4 (iv 3 4)), lv, (u2 (u2 fa 1 6 (fa 1 6)) 30 2 (fa 30 2)), (u2 (u2 la 30 0 (la 30 0)) 30 1 (la 30 1))), rfl, ⟨(fa 1 6), (fa 30 2), (la 30 0), (la 30 1), (iv 3 3), (iv 3 4), (hI.2 1 6), (hI.1 3 3), (hI.1 3 4), (show ((((-100002) : Int64).toInt = -100001 ∧ ¬ (0 ≤ (a).toInt ∧ (a).toInt < (iv 0 7).toInt)) ∨ (((-100002) : Int64).toInt = -100002 ∧ (0 ≤ (a).toInt ∧ (a).toInt < (iv 0 7).toInt) ∧ ¬ (0 ≤ (b).toInt ∧ (b).toInt ≤ (iv 11 10).toInt ∧ 0 ≤ (d).toInt ∧ (d).toInt ≤ 1)) ∨ ((0 ≤ (a).toInt ∧ (a).toInt < (iv 0 7).toInt) ∧ (0 ≤ (b).toInt ∧ (b).toInt ≤ (iv 11 10).toInt ∧ 0 ≤ (d).toInt ∧ (d).toInt ≤ 1) ∧ ∃ (D R : Nat → Int64) (C : Nat → Int32) (i j ro : Int), LwS (fun q v => FoX (iv 1 7).toInt (fa 1 0) (fa 1 1) (fa 1 2) (fa 1 3) q (b).toInt v) (fa 10 0) (a).toInt (b).toInt ((iv 10 1).toInt).toNat D R C i j ro ∧ ((ro ≠ 1 ∧ ((-100002) : Int64).toInt = -100003) ∨ (ro = 1 ∧ ∃ wt : Int, FoX (iv 1 7).toInt (fa 1 0) (fa 1 1) (fa 1 2) (fa 1 3) 0 (b).toInt wt ∧ 0 ≤ wt ∧ ltX (upI D R i j * (((fa 0 0) ((a).toInt).toNat).toInt * (1000 + wt))) (loI R i j * 1000) (d).toInt ((-100002) : Int64).toInt)))) from Or.inr (Or.inl ⟨by omega, ⟨by omega, by omega⟩, by omega⟩)), trivial, rfl⟩, by rw [ht9]; exact hP9, hD9⟩, hS.F ht9⟩) hS.2.2 dX11_lawful_39
        · exact absurd rfl c23
    · exact absurd c2 (by decide)
  · skip
    have i_0_7 : 0 ≤ (iv 0 7).toInt ∧ (iv 0 7).toInt ≤ 10 := hI.1 0 7
    have fr1 : ¬ (0 ≤ (a : Int32).toInt ∧ (a : Int32).toInt < ((iv 0 7) : Int32).toInt) := fr1
    refine lv_if_ne (tgt := 15) hx hb dX11_lawful_8 (by decide) (fun c24 => ?_) (fun c24 => ?_)
    · exact absurd rfl c24
    · skip
      refine lv_ldc2 hx hb hown (ht _ m_837) dX11_lawful_11 ?_
      have : ((-100001) : Int64).toInt = (-100001) := (by decide)
      have hP9 : va_P (dC, dI) classes (WX h g ca (u2 (u2 iv 3 3 (iv 3 3)) 3 4 (iv 3 4)) lv (u2 (u2 fa 1 6 (fa 1 6)) 30 2 (fa 30 2)) (u2 (u2 la 30 0 (la 30 0)) 30 1 (la 30 1))) s.heap := hP
      have hD9 : va_D A (WX h g ca (u2 (u2 iv 3 3 (iv 3 3)) 3 4 (iv 3 4)) lv (u2 (u2 fa 1 6 (fa 1 6)) 30 2 (fa 30 2)) (u2 (u2 la 30 0 (la 30 0)) 30 1 (la 30 1))) := hD
      exact W.lret (v := (-100001)) hx hb hr (fun t ht9 hW => ⟨⟨(-100001), ((u2 (u2 iv 3 3 (iv 3 3)) 3 4 (iv 3 4)), lv, (u2 (u2 fa 1 6 (fa 1 6)) 30 2 (fa 30 2)), (u2 (u2 la 30 0 (la 30 0)) 30 1 (la 30 1))), rfl, ⟨(fa 1 6), (fa 30 2), (la 30 0), (la 30 1), (iv 3 3), (iv 3 4), (hI.2 1 6), (hI.1 3 3), (hI.1 3 4), (show ((((-100001) : Int64).toInt = -100001 ∧ ¬ (0 ≤ (a).toInt ∧ (a).toInt < (iv 0 7).toInt)) ∨ (((-100001) : Int64).toInt = -100002 ∧ (0 ≤ (a).toInt ∧ (a).toInt < (iv 0 7).toInt) ∧ ¬ (0 ≤ (b).toInt ∧ (b).toInt ≤ (iv 11 10).toInt ∧ 0 ≤ (d).toInt ∧ (d).toInt ≤ 1)) ∨ ((0 ≤ (a).toInt ∧ (a).toInt < (iv 0 7).toInt) ∧ (0 ≤ (b).toInt ∧ (b).toInt ≤ (iv 11 10).toInt ∧ 0 ≤ (d).toInt ∧ (d).toInt ≤ 1) ∧ ∃ (D R : Nat → Int64) (C : Nat → Int32) (i j ro : Int), LwS (fun q v => FoX (iv 1 7).toInt (fa 1 0) (fa 1 1) (fa 1 2) (fa 1 3) q (b).toInt v) (fa 10 0) (a).toInt (b).toInt ((iv 10 1).toInt).toNat D R C i j ro ∧ ((ro ≠ 1 ∧ ((-100001) : Int64).toInt = -100003) ∨ (ro = 1 ∧ ∃ wt : Int, FoX (iv 1 7).toInt (fa 1 0) (fa 1 1) (fa 1 2) (fa 1 3) 0 (b).toInt wt ∧ 0 ≤ wt ∧ ltX (upI D R i j * (((fa 0 0) ((a).toInt).toNat).toInt * (1000 + wt))) (loI R i j * 1000) (d).toInt ((-100001) : Int64).toInt)))) from Or.inl ⟨by omega, by omega⟩), trivial, rfl⟩, by rw [ht9]; exact hP9, hD9⟩, hS.F ht9⟩) hS.2.2 dX11_lawful_14
