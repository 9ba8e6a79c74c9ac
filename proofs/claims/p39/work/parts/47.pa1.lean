/-! ===== pa1 ===== -/

/-- dry is never above raw -/
theorem smL_le {c : Nat → Prop} {w v : Nat → Int32} : ∀ n : Nat, n ≤ 60 → (∀ j : Nat, j < n → 0 ≤ (w j).toInt ∧ (w j).toInt ≤ (v j).toInt ∧ (v j).toInt ≤ 9999) → (smL c w n).toInt ≤ (smL c v n).toInt
  | 0, _, _ => Int.le_refl _
  | n + 1, hn, h => by
    have r := smL_le (c := c) (w := w) (v := v) n (by omega) (fun j hj => h j (by omega))
    have z := h n (by omega)
    have b1 := smL_b (c := c) (w := w) (lo := 0) (hi := 9999) (by decide) (by decide) (by decide) n (by omega) (fun j hj => by have := h j (by omega); omega)
    have b2 := smL_b (c := c) (w := v) (lo := 0) (hi := 9999) (by decide) (by decide) (by decide) n (by omega) (fun j hj => by have := h j (by omega); omega)
    by_cases e : c n
    · have a1 : (smL c w (n + 1)).toInt = (smL c w n).toInt + (w n).toInt := by
        rw [smL_y rfl e]; exact l_add rfl rfl (Int32.toInt_toInt64 _) (by omega) (by omega)
      have a2 : (smL c v (n + 1)).toInt = (smL c v n).toInt + (v n).toInt := by
        rw [smL_y rfl e]; exact l_add rfl rfl (Int32.toInt_toInt64 _) (by omega) (by omega)
      omega
    · rw [smL_n rfl e, smL_n rfl e]; exact r
/-- the ratio is at most 1 -/
theorem up_le {D R : Nat → Int64} {i j : Int} (hi : ok1 D R i) (hj : ok1 D R j) (h : ∀ l : Nat, l < 3 → (D l).toInt ≤ (R l).toInt) : upI D R i j ≤ loI R i j := by
  obtain ⟨i0, i1, a1, a2, a3, a4⟩ := hi
  obtain ⟨j0, j1, b1, b2, b3, b4⟩ := hj
  have z1 := h i.toNat (by omega)
  have z2 := h j.toNat (by omega)
  have m1 : (D i.toNat).toInt * (R j.toNat).toInt ≤ (R i.toNat).toInt * (R j.toNat).toInt := Int.mul_le_mul_of_nonneg_right z1 (by omega)
  have m2 : (D j.toNat).toInt * (R i.toNat).toInt ≤ (R j.toNat).toInt * (R i.toNat).toInt := Int.mul_le_mul_of_nonneg_right z2 (by omega)
  have e : 2 * (R i.toNat).toInt * (R j.toNat).toInt = 2 * ((R i.toNat).toInt * (R j.toNat).toInt) := Int.mul_assoc _ _ _
  have e2 : (R j.toNat).toInt * (R i.toNat).toInt = (R i.toNat).toInt * (R j.toNat).toInt := Int.mul_comm _ _
  unfold upI loI
  omega
theorem wt_b {U L y w : Int} (h0 : 0 ≤ U) (h1 : 0 < L) (h2 : U ≤ L) (h3 : 0 ≤ y) (h4 : y ≤ 129998700) (e : w = U * y / (L * 1000)) : 0 ≤ w ∧ w ≤ 129998 := by
  have m : U * y ≤ L * y := Int.mul_le_mul_of_nonneg_right h2 h3
  have m0 : 0 ≤ U * y := Int.mul_nonneg h0 h3
  have m1 : L * y ≤ L * 129998700 := Int.mul_le_mul_of_nonneg_left h4 (by omega)
  have q0 : 0 ≤ w := by rw [e]; exact Int.ediv_nonneg m0 (by omega)
  have q1 : w < 129999 := by
    rw [e]
    exact Int.ediv_lt_of_lt_mul (by omega) (by omega)
  exact ⟨q0, by omega⟩
theorem l2i_q {a : Int64} {c : Int32} {x : Int} (h : a.toInt32 = c) (ha : a.toInt = x) (h0 : -2147483648 ≤ x) (h1 : x < 2147483648) : c.toInt = x := by
  rw [← h, Int64.toInt_toInt32, ha, Int.bmod_def]; omega
/-- the weights of both sides, cut -/
theorem lt_fl {D R : Nat → Int64} {i j up dn y LU LD : Int} (hy : 0 < y) (h : FrE D R i j up dn) (k : LwY up dn y LU LD) : upI D R i j * y / (loI R i j * 1000) = LU / LD := by
  obtain ⟨h1, h2, h3, h4⟩ := h
  exact (lw_un h3 h4 h2 hy h1 k).2.2
set_option maxHeartbeats 4000000 in
set_option maxRecDepth 100000 in
/-- X6_isCertificate -/
theorem c_X6_isCertificate_w (l : Launch) (dC : Nat → ClassId) (dI : Nat → Nat → Nat) (h : Nat) (g : Nat → Nat → Nat) (ca : Nat → Nat → ClassId) (iv : Nat → Nat → Int32) (lv : Nat → Nat → Int64) (fa : Nat → Nat → Nat → Int32) (la : Nat → Nat → Nat → Int64) (hI : IX iv fa) (a : Int32) (h_a : 0 ≤ a.toInt ∧ a.toInt ≤ 39) : Met l yX6_isCertificate (wc yX6_isCertificate cX6_isCertificate 2 (some .boolean)) ({ frames := 0, cells := 0, slots := 0, locals := 0 } : Room) (pR (dC, dI) classes (WX h g ca iv lv fa la) (TX ca) [.ref (g 11 9), .int a]) (vp_Si (fun r => (0 ≤ r.toInt ∧ r.toInt ≤ 1) ∧ (((r.toInt = 1 ∧ ((fa 6 0) (a.toInt).toNat).toInt = 0) ∨ (r.toInt = 0 ∧ ((fa 6 0) (a.toInt).toNat).toInt ≠ 0))))) 0 0 (fun _ => False) := by
  refine Met.ofW (cc := cX6_isCertificate) (maxL := 2) (ret := (some .boolean)) (by decide) rfl ?_
  intro p e s m args below meth c s₁ B hml hv
  obtain ⟨rfl, hP, hK⟩ := hv
  have hx := B.exec
  have hb := B.bytes
  have hr := B.returns
  have ht := tb_tl (atoms_spec (ws := wc yX6_isCertificate cX6_isCertificate 2 (some .boolean)) B.pre)
  have hown : s.vm.findClass RX6 = some m.cls := findClass_of_methodNamed B.named
  have hlocks := B.notSynchronized
  have hl := lv_entry [.ref (g 11 9), .int a] (n := 2) (Nat.le_of_ble_eq_true rfl)
  rw [lg_entry_eq]
  generalize (lg_sl [.ref (g 11 9), .int a] ++ List.replicate (2 - (lg_sl [.ref (g 11 9), .int a]).length) Slot.unset).toArray = ls at hl ⊢
  have hl : lv_has ls 2 [(0, .ref (g 11 9)), (1, .int a)] := hl
  refine lv_aload_n hx hb dX6_isCertificate_0 rfl (lv_at hl 0 rfl) ?_
  refine gX_6_0 hx hb ht hown hK hP m_383 dX6_isCertificate_1 ?_
  refine lv_iload_n hx hb dX6_isCertificate_4 rfl (lv_at hl 1 rfl) ?_
  refine lX_6_0 hx hb hK hP (f := (fa 6 0)) rfl (vp_in_iff.mpr ⟨by omega, by omega⟩) dX6_isCertificate_5 ?_
  refine lv_topi (fun v1 ev1 => ?_)
  refine lv_if_ne (tgt := 13) hx hb dX6_isCertificate_6 (by decide) (fun c2 => ?_) (fun c2 => ?_)
  · have fc2 := z_ne (rfl : (v1).toInt = _) (by decide : (0 : Int32).toInt = 0) c2
    refine lv_iconst (v := 0) hx hb dX6_isCertificate_13 (by decide) ?_
    have : (0 : Int32).toInt = 0 := (by decide)
    exact W.zret (v := 0) hx hb hr rfl (fun t ht9 hW => ⟨0, rfl, ⟨⟨by decide, by decide⟩, (show (((0 : Int32).toInt = 1 ∧ ((fa 6 0) ((a).toInt).toNat).toInt = 0) ∨ ((0 : Int32).toInt = 0 ∧ ((fa 6 0) ((a).toInt).toNat).toInt ≠ 0)) from (by have h9 := congrArg Int32.toInt (show v1 = fa 6 0 (a.toInt).toNat from ev1); omega))⟩, ht9⟩) (fun q hq => by cases hq) dX6_isCertificate_14
  · have fc2 := z_eq (rfl : (v1).toInt = _) (by decide : (0 : Int32).toInt = 0) c2
    refine lv_iconst (v := 1) hx hb dX6_isCertificate_9 (by decide) ?_
    refine lv_goto (tgt := 14) hx hb dX6_isCertificate_10 (by decide) ?_
    have : (1 : Int32).toInt = 1 := (by decide)
    exact W.zret (v := 1) hx hb hr rfl (fun t ht9 hW => ⟨1, rfl, ⟨⟨by decide, by decide⟩, (show (((1 : Int32).toInt = 1 ∧ ((fa 6 0) ((a).toInt).toNat).toInt = 0) ∨ ((1 : Int32).toInt = 0 ∧ ((fa 6 0) ((a).toInt).toNat).toInt ≠ 0)) from (by have h9 := congrArg Int32.toInt (show v1 = fa 6 0 (a.toInt).toNat from ev1); omega))⟩, ht9⟩) (fun q hq => by cases hq) dX6_isCertificate_14
set_option maxHeartbeats 4000000 in
set_option maxRecDepth 100000 in
/-- X6_isUndone -/
theorem c_X6_isUndone_w (l : Launch) (dC : Nat → ClassId) (dI : Nat → Nat → Nat) (h : Nat) (g : Nat → Nat → Nat) (ca : Nat → Nat → ClassId) (iv : Nat → Nat → Int32) (lv : Nat → Nat → Int64) (fa : Nat → Nat → Nat → Int32) (la : Nat → Nat → Nat → Int64) (hI : IX iv fa) (a : Int32) (h_a : 0 ≤ a.toInt ∧ a.toInt ≤ 39) : Met l yX6_isUndone (wc yX6_isUndone cX6_isUndone 2 (some .boolean)) ({ frames := 0, cells := 0, slots := 0, locals := 0 } : Room) (pR (dC, dI) classes (WX h g ca iv lv fa la) (TX ca) [.ref (g 11 9), .int a]) (vp_Si (fun r => (0 ≤ r.toInt ∧ r.toInt ≤ 1) ∧ (((r.toInt = 1 ∧ ((fa 6 5) (a.toInt).toNat).toInt ≠ -1) ∨ (r.toInt = 0 ∧ ((fa 6 5) (a.toInt).toNat).toInt = -1))))) 0 0 (fun _ => False) := by
  refine Met.ofW (cc := cX6_isUndone) (maxL := 2) (ret := (some .boolean)) (by decide) rfl ?_
  intro p e s m args below meth c s₁ B hml hv
  obtain ⟨rfl, hP, hK⟩ := hv
  have hx := B.exec
  have hb := B.bytes
  have hr := B.returns
  have ht := tb_tl (atoms_spec (ws := wc yX6_isUndone cX6_isUndone 2 (some .boolean)) B.pre)
  have hown : s.vm.findClass RX6 = some m.cls := findClass_of_methodNamed B.named
  have hlocks := B.notSynchronized
  have hl := lv_entry [.ref (g 11 9), .int a] (n := 2) (Nat.le_of_ble_eq_true rfl)
  rw [lg_entry_eq]
  generalize (lg_sl [.ref (g 11 9), .int a] ++ List.replicate (2 - (lg_sl [.ref (g 11 9), .int a]).length) Slot.unset).toArray = ls at hl ⊢
  have hl : lv_has ls 2 [(0, .ref (g 11 9)), (1, .int a)] := hl
  refine lv_aload_n hx hb dX6_isUndone_0 rfl (lv_at hl 0 rfl) ?_
  refine gX_6_5 hx hb ht hown hK hP m_393 dX6_isUndone_1 ?_
  refine lv_iload_n hx hb dX6_isUndone_4 rfl (lv_at hl 1 rfl) ?_
  refine lX_6_5 hx hb hK hP (f := (fa 6 5)) rfl (vp_in_iff.mpr ⟨by omega, by omega⟩) dX6_isUndone_5 ?_
  refine lv_topi (fun v1 ev1 => ?_)
  refine lv_iconst (v := (-1)) hx hb dX6_isUndone_6 (by decide) ?_
  refine lv_icmp_eq (tgt := 14) hx hb dX6_isUndone_7 (by decide) (fun c2 => ?_) (fun c2 => ?_)
  · have fc2 := z_eq (rfl : (v1).toInt = _) (by decide : ((-1) : Int32).toInt = (-1)) c2
    refine lv_iconst (v := 0) hx hb dX6_isUndone_14 (by decide) ?_
    have : (0 : Int32).toInt = 0 := (by decide)
    exact W.zret (v := 0) hx hb hr rfl (fun t ht9 hW => ⟨0, rfl, ⟨⟨by decide, by decide⟩, (show (((0 : Int32).toInt = 1 ∧ ((fa 6 5) ((a).toInt).toNat).toInt ≠ -1) ∨ ((0 : Int32).toInt = 0 ∧ ((fa 6 5) ((a).toInt).toNat).toInt = -1)) from (by have h9 := congrArg Int32.toInt (show v1 = fa 6 5 (a.toInt).toNat from ev1); omega))⟩, ht9⟩) (fun q hq => by cases hq) dX6_isUndone_15
  · have fc2 := z_ne (rfl : (v1).toInt = _) (by decide : ((-1) : Int32).toInt = (-1)) c2
    refine lv_iconst (v := 1) hx hb dX6_isUndone_10 (by decide) ?_
    refine lv_goto (tgt := 15) hx hb dX6_isUndone_11 (by decide) ?_
    have : (1 : Int32).toInt = 1 := (by decide)
    exact W.zret (v := 1) hx hb hr rfl (fun t ht9 hW => ⟨1, rfl, ⟨⟨by decide, by decide⟩, (show (((1 : Int32).toInt = 1 ∧ ((fa 6 5) ((a).toInt).toNat).toInt ≠ -1) ∨ ((1 : Int32).toInt = 0 ∧ ((fa 6 5) ((a).toInt).toNat).toInt = -1)) from (by have h9 := congrArg Int32.toInt (show v1 = fa 6 5 (a.toInt).toNat from ev1); omega))⟩, ht9⟩) (fun q hq => by cases hq) dX6_isUndone_15
set_option maxHeartbeats 4000000 in
set_option maxRecDepth 100000 in
/-- X6_write -/
theorem c_X6_write_w (l : Launch) (dC : Nat → ClassId) (dI : Nat → Nat → Nat) (sz : Nat) (h : Nat) (g : Nat → Nat → Nat) (ca : Nat → Nat → ClassId) (iv : Nat → Nat → Int32) (lv : Nat → Nat → Int64) (fa : Nat → Nat → Nat → Int32) (la : Nat → Nat → Nat → Int64) (hI : IX iv fa) (a : Int32) (b : Int32) (d : Int32) (k : Int32) (n : Int32) (q_6_7 : 0 ≤ (iv 6 7).toInt ∧ (iv 6 7).toInt ≤ 39) (h_k : (-1) ≤ k.toInt ∧ k.toInt ≤ 39) : Met l yX6_write (wc yX6_write cX6_write 7 (some .int)) ({ frames := 0, cells := 0, slots := 0, locals := 0 } : Room) (pW (dC, dI) classes (WX h g ca iv lv fa la) (TX ca) sz [.ref (g 11 9), .int a, .int b, .int d, .int k, .int n]) (va_Qi (fun r (u : SS) => ∃ (na_6_0 : Nat → Int32) (na_6_1 : Nat → Int32) (na_6_2 : Nat → Int32) (na_6_3 : Nat → Int32) (na_6_4 : Nat → Int32) (na_6_5 : Nat → Int32) (ni_6_7 : Int32), (∀ j, inb (bA 6 3 j) (na_6_3 j)) ∧ inb (bI 6 7) ni_6_7 ∧ ni_6_7.toInt = (iv 6 7).toInt + 1 ∧ (r.toInt = (iv 6 7).toInt) ∧ (ApX ((iv 6 7).toInt).toNat (fa 6 0) (fa 6 1) (fa 6 2) (fa 6 3) (fa 6 4) (fa 6 5) na_6_0 na_6_1 na_6_2 na_6_3 na_6_4 na_6_5 a.toInt b.toInt d.toInt k.toInt n.toInt) ∧ (0 ≤ r.toInt ∧ r.toInt ≤ 39) ∧ u = ((u2 iv 6 7 ni_6_7), lv, (u2 (u2 (u2 (u2 (u2 (u2 fa 6 0 na_6_0) 6 1 na_6_1) 6 2 na_6_2) 6 3 na_6_3) 6 4 na_6_4) 6 5 na_6_5), la)) (bX (dC, dI) h g ca (va_A (WX h g ca iv lv fa la) sz)) (va_A (WX h g ca iv lv fa la) sz)) 0 0 (va_A (WX h g ca iv lv fa la) sz) := by
  refine Met.ofW (cc := cX6_write) (maxL := 7) (ret := (some .int)) (by decide) rfl ?_
  intro p e s m args below meth c s₁ B hml hv
  obtain ⟨rfl, hsz, hP, hK, hD0⟩ := hv
  have hx := B.exec
  have hb := B.bytes
  have hr := B.returns
  have ht := tb_tl (atoms_spec (ws := wc yX6_write cX6_write 7 (some .int)) B.pre)
  have hown : s.vm.findClass RX6 = some m.cls := findClass_of_methodNamed B.named
  have hlocks := B.notSynchronized
  subst hsz
  have hD := hD0.self (sz := s.heap.size)
  generalize hAe : va_A (WX h g ca iv lv fa la) s.heap.size = A at hD ⊢
  have hA : ∀ q : Nat, s.heap.size ≤ q → A q := fun q h => by rw [← hAe]; exact Or.inr h
  have hS : va_S A s.heap s.heap [] := va_S.rf
  have hl := lv_entry [.ref (g 11 9), .int a, .int b, .int d, .int k, .int n] (n := 7) (Nat.le_of_ble_eq_true rfl)
  rw [lg_entry_eq]
  generalize (lg_sl [.ref (g 11 9), .int a, .int b, .int d, .int k, .int n] ++ List.replicate (7 - (lg_sl [.ref (g 11 9), .int a, .int b, .int d, .int k, .int n]).length) Slot.unset).toArray = ls at hl ⊢
  have hl : lv_has ls 7 [(0, .ref (g 11 9)), (1, .int a), (2, .int b), (3, .int d), (4, .int k), (5, .int n)] := hl
  refine lv_aload_n hx hb dX6_write_0 rfl (lv_at hl 0 rfl) ?_
  have i_6_7 : 0 ≤ (iv 6 7).toInt ∧ (iv 6 7).toInt ≤ 40 := hI.1 6 7
  refine gX_6_7 hx hb ht hown hK hP m_396 (v := (iv 6 7)) rfl dX6_write_1 ?_
  refine lv_istore (lv' := [(6, .int (iv 6 7)), (0, .ref (g 11 9)), (1, .int a), (2, .int b), (3, .int d), (4, .int k), (5, .int n)]) hx hb dX6_write_4 hl (by decide) rfl (fun ls hl => ?_)
  refine lv_aload_n hx hb dX6_write_6 rfl (lv_at hl 1 rfl) ?_
  refine gX_6_0 hx hb ht hown hK hP m_383 dX6_write_7 ?_
  refine lv_iload hx hb dX6_write_10 (lv_at hl 0 rfl) ?_
  refine lv_iload_n hx hb dX6_write_12 rfl (lv_at hl 2 rfl) ?_
  refine tX_6_0 hx hb hK hP hD hS (f0 := (fa 6 0)) rfl (i := (iv 6 7)) (x := a) (vp_in_iff.mpr ⟨by omega, by omega⟩) dX6_write_13 (fun f1 ef1 H locs hP hD hS => ?_)
  have hf1 : ∀ j, inb (bA 6 0 j) (f1 j) := fun j => full_i _
  refine lv_aload_n hx hb dX6_write_14 rfl (lv_at hl 1 rfl) ?_
  refine gX_6_1 hx hb ht hown hK hP m_385 dX6_write_15 ?_
  refine lv_iload hx hb dX6_write_18 (lv_at hl 0 rfl) ?_
  refine lv_iload_n hx hb dX6_write_20 rfl (lv_at hl 3 rfl) ?_
  refine tX_6_1 hx hb hK hP hD hS (f0 := (fa 6 1)) rfl (i := (iv 6 7)) (x := b) (vp_in_iff.mpr ⟨by omega, by omega⟩) dX6_write_21 (fun f2 ef2 H locs hP hD hS => ?_)
  have hf2 : ∀ j, inb (bA 6 1 j) (f2 j) := fun j => full_i _
  refine lv_aload_n hx hb dX6_write_22 rfl (lv_at hl 1 rfl) ?_
  refine gX_6_2 hx hb ht hown hK hP m_387 dX6_write_23 ?_
  refine lv_iload hx hb dX6_write_26 (lv_at hl 0 rfl) ?_
  refine lv_iload_n hx hb dX6_write_28 rfl (lv_at hl 4 rfl) ?_
  refine tX_6_2 hx hb hK hP hD hS (f0 := (fa 6 2)) rfl (i := (iv 6 7)) (x := d) (vp_in_iff.mpr ⟨by omega, by omega⟩) dX6_write_29 (fun f3 ef3 H locs hP hD hS => ?_)
  have hf3 : ∀ j, inb (bA 6 2 j) (f3 j) := fun j => full_i _
  refine lv_aload_n hx hb dX6_write_30 rfl (lv_at hl 1 rfl) ?_
  refine gX_6_3 hx hb ht hown hK hP m_389 dX6_write_31 ?_
  refine lv_iload hx hb dX6_write_34 (lv_at hl 0 rfl) ?_
  refine lv_iload hx hb dX6_write_36 (lv_at hl 5 rfl) ?_
  refine tX_6_3 hx hb hK hP hD hS (f0 := (fa 6 3)) rfl (i := (iv 6 7)) (x := k) (vp_in_iff.mpr ⟨by omega, by omega⟩) dX6_write_38 (fun f4 ef4 H locs hP hD hS => ?_)
  have hf4 : ∀ j, inb (bA 6 3 j) (f4 j) := by rw [ef4]; exact upd_b (b := bA 6 3) (hI.2 6 3) (show inb ((-1), 39) k from ⟨by omega, by omega⟩)
  refine lv_aload_n hx hb dX6_write_39 rfl (lv_at hl 1 rfl) ?_
  refine gX_6_4 hx hb ht hown hK hP m_391 dX6_write_40 ?_
  refine lv_iload hx hb dX6_write_43 (lv_at hl 0 rfl) ?_
  refine lv_iload hx hb dX6_write_45 (lv_at hl 6 rfl) ?_
  refine tX_6_4 hx hb hK hP hD hS (f0 := (fa 6 4)) rfl (i := (iv 6 7)) (x := n) (vp_in_iff.mpr ⟨by omega, by omega⟩) dX6_write_47 (fun f5 ef5 H locs hP hD hS => ?_)
  have hf5 : ∀ j, inb (bA 6 4 j) (f5 j) := fun j => full_i _
  refine lv_aload_n hx hb dX6_write_48 rfl (lv_at hl 1 rfl) ?_
  refine gX_6_5 hx hb ht hown hK hP m_393 dX6_write_49 ?_
  refine lv_iload hx hb dX6_write_52 (lv_at hl 0 rfl) ?_
  refine lv_iconst (v := (-1)) hx hb dX6_write_54 (by decide) ?_
  refine tX_6_5 hx hb hK hP hD hS (f0 := (fa 6 5)) rfl (i := (iv 6 7)) (x := (-1)) (vp_in_iff.mpr ⟨by omega, by omega⟩) dX6_write_55 (fun f6 ef6 H locs hP hD hS => ?_)
  have hf6 : ∀ j, inb (bA 6 5 j) (f6 j) := fun j => full_i _
  refine lv_aload_n hx hb dX6_write_56 rfl (lv_at hl 1 rfl) ?_
  refine lv_dup hx hb dX6_write_57 rfl ?_
  refine gX_6_7 hx hb ht hown hK hP m_396 (v := (iv 6 7)) rfl dX6_write_58 ?_
  refine lv_iconst (v := 1) hx hb dX6_write_61 (by decide) ?_
  refine lv_iadd hx hb dX6_write_62 ?_
  refine lv_topi (fun v7 ev7 => ?_)
  have tv7 := z_add ev7 (rfl : ((iv 6 7)).toInt = _) (by decide : (1 : Int32).toInt = 1) (by omega) (by omega)
  refine pX_6_7 (v := v7) hx hb ht hown hK hP hD hS m_396 dX6_write_63 (fun H locs hP hD hS => ?_)
  refine lv_iload hx hb dX6_write_66 (lv_at hl 0 rfl) ?_
  have hP9 : va_P (dC, dI) classes (WX h g ca (u2 iv 6 7 v7) lv (u2 (u2 (u2 (u2 (u2 (u2 fa 6 0 f1) 6 1 f2) 6 2 f3) 6 3 f4) 6 4 f5) 6 5 f6) la) H := hP
  have hD9 : va_D A (WX h g ca (u2 iv 6 7 v7) lv (u2 (u2 (u2 (u2 (u2 (u2 fa 6 0 f1) 6 1 f2) 6 2 f3) 6 3 f4) 6 4 f5) 6 5 f6) la) := hD
  exact W.iret (v := (iv 6 7)) hx hb hr (fun t ht9 hW => ⟨⟨(iv 6 7), ((u2 iv 6 7 v7), lv, (u2 (u2 (u2 (u2 (u2 (u2 fa 6 0 f1) 6 1 f2) 6 2 f3) 6 3 f4) 6 4 f5) 6 5 f6), la), rfl, ⟨f1, f2, f3, f4, f5, f6, v7, hf4, (show inb (0, 40) v7 from ⟨by omega, by omega⟩), (by omega), (show ((iv 6 7) : Int32).toInt = (iv 6 7).toInt from by omega), (show ApX ((iv 6 7).toInt).toNat (fa 6 0) (fa 6 1) (fa 6 2) (fa 6 3) (fa 6 4) (fa 6 5) f1 f2 f3 f4 f5 f6 (a).toInt (b).toInt (d).toInt (k).toInt (n).toInt from ⟨fun j hj => ⟨(by rw [ef1, upd_ne (show j ≠ ((iv 6 7) : Int32).toNatClampNeg from hj)]), (by rw [ef2, upd_ne (show j ≠ ((iv 6 7) : Int32).toNatClampNeg from hj)]), (by rw [ef3, upd_ne (show j ≠ ((iv 6 7) : Int32).toNatClampNeg from hj)]), (by rw [ef4, upd_ne (show j ≠ ((iv 6 7) : Int32).toNatClampNeg from hj)]), (by rw [ef5, upd_ne (show j ≠ ((iv 6 7) : Int32).toNatClampNeg from hj)]), (by rw [ef6, upd_ne (show j ≠ ((iv 6 7) : Int32).toNatClampNeg from hj)])⟩, (by rw [show f1 ((iv 6 7).toInt).toNat = a from (by rw [ef1]; exact upd_eq)]), (by rw [show f2 ((iv 6 7).toInt).toNat = b from (by rw [ef2]; exact upd_eq)]), (by rw [show f3 ((iv 6 7).toInt).toNat = d from (by rw [ef3]; exact upd_eq)]), (by rw [show f4 ((iv 6 7).toInt).toNat = k from (by rw [ef4]; exact upd_eq)]), (by rw [show f5 ((iv 6 7).toInt).toNat = n from (by rw [ef5]; exact upd_eq)]), (by rw [show f6 ((iv 6 7).toInt).toNat = (-1) from (by rw [ef6]; exact upd_eq)] <;> decide)⟩), ⟨by omega, by omega⟩, rfl⟩, by rw [ht9]; exact hP9, hD9⟩, hS.F ht9⟩) hS.2.2 dX6_write_68
set_option maxHeartbeats 4000000 in
set_option maxRecDepth 100000 in
/-- X6_certified -/
theorem c_X6_certified_w (l : Launch) (dC : Nat → ClassId) (dI : Nat → Nat → Nat) (h : Nat) (g : Nat → Nat → Nat) (ca : Nat → Nat → ClassId) (iv : Nat → Nat → Int32) (lv : Nat → Nat → Int64) (fa : Nat → Nat → Nat → Int32) (la : Nat → Nat → Nat → Int64) (hI : IX iv fa) (b : Int32) : Met l yX6_certified (wc yX6_certified cX6_certified 3 (some .boolean)) ({ frames := 1, cells := 0, slots := 0, locals := 21 } : Room) (pR (dC, dI) classes (WX h g ca iv lv fa la) (TX ca) [.ref (g 11 9), .int b]) (vp_Si (fun r => (0 ≤ r.toInt ∧ r.toInt ≤ 1) ∧ (((r.toInt = 1 ∧ CeX (iv 6 7).toInt (fa 6 0) (fa 6 1) (fa 6 5) b.toInt) ∨ (r.toInt = 0 ∧ ¬ CeX (iv 6 7).toInt (fa 6 0) (fa 6 1) (fa 6 5) b.toInt))))) 0 0 (fun _ => False) := by
  refine Met.ofW (cc := cX6_certified) (maxL := 3) (ret := (some .boolean)) (by decide) rfl ?_
  intro p e s m args below meth c s₁ B hml hv
  obtain ⟨rfl, hP, hK⟩ := hv
  have hx := B.exec
  have hb := B.bytes
  have hr := B.returns
  have ht := tb_tl (atoms_spec (ws := wc yX6_certified cX6_certified 3 (some .boolean)) B.pre)
  have hown : s.vm.findClass RX6 = some m.cls := findClass_of_methodNamed B.named
  have hlocks := B.notSynchronized
  have hl := lv_entry [.ref (g 11 9), .int b] (n := 3) (Nat.le_of_ble_eq_true rfl)
  rw [lg_entry_eq]
  generalize (lg_sl [.ref (g 11 9), .int b] ++ List.replicate (3 - (lg_sl [.ref (g 11 9), .int b]).length) Slot.unset).toArray = ls at hl ⊢
  have hl : lv_has ls 3 [(0, .ref (g 11 9)), (1, .int b)] := hl
  refine lv_iconst (v := 0) hx hb dX6_certified_0 (by decide) ?_
  refine lv_istore_n (lv' := [(2, .int 0), (0, .ref (g 11 9)), (1, .int b)]) hx hb dX6_certified_1 rfl hl (by decide) rfl (fun ls hl => ?_)
  have lp211 : ∀ (nn211 : Nat) (x210_2 : Int32), 0 ≤ x210_2.toInt ∧ x210_2.toInt ≤ 40 → (∀ p : Nat, (p : Int) < (x210_2 : Int32).toInt → ¬ (((fa 6 0) p).toInt = 0 ∧ ((fa 6 1) p).toInt = (b).toInt ∧ ((fa 6 5) p).toInt = -1)) → 40 - x210_2.toInt < (nn211 : Int) → ∀ (ls : Array Slot), lv_has ls 3 [(2, .int x210_2), (0, .ref (g 11 9)), (1, .int b)] → W p l e ({ frames := 1, cells := 0, slots := 0, locals := 21 } : Room) s m ([.ref (g 11 9), .int b] : List Value).toArray below meth c s.heap [] 0 0 (MQ below (vp_Si (fun r => (0 ≤ r.toInt ∧ r.toInt ≤ 1) ∧ (((r.toInt = 1 ∧ CeX (iv 6 7).toInt (fa 6 0) (fa 6 1) (fa 6 5) b.toInt) ∨ (r.toInt = 0 ∧ ¬ CeX (iv 6 7).toInt (fa 6 0) (fa 6 1) (fa 6 5) b.toInt))))) ([.ref (g 11 9), .int b] : List Value).toArray s 0 0 (fun _ => False)) (F0 m 2 ls []) := by
    intro nn211
    induction nn211 with
    | zero => intro x210_2 hx210_2 hq211_0 hm211; exfalso; omega
    | succ nn211 ih211 =>
      intro x210_2 hx210_2 hq211_0 hm211 ls hl
      refine lv_iload_n hx hb dX6_certified_2 rfl (lv_at hl 0 rfl) ?_
      refine lv_aload_n hx hb dX6_certified_3 rfl (lv_at hl 1 rfl) ?_
      have i_6_7 : 0 ≤ (iv 6 7).toInt ∧ (iv 6 7).toInt ≤ 40 := hI.1 6 7
      refine gX_6_7 hx hb ht hown hK hP m_396 (v := (iv 6 7)) rfl dX6_certified_4 ?_
      refine lv_icmp_ge (tgt := 44) hx hb dX6_certified_7 (by decide) (fun c212 => ?_) (fun c212 => ?_)
      · have fc212 := z_le (rfl : ((iv 6 7)).toInt = _) (rfl : (x210_2).toInt = _) c212
        refine lv_iconst (v := 0) hx hb dX6_certified_44 (by decide) ?_
        have : (0 : Int32).toInt = 0 := (by decide)
        exact W.zret (v := 0) hx hb hr rfl (fun t ht9 hW => ⟨0, rfl, ⟨⟨by decide, by decide⟩, (show (((0 : Int32).toInt = 1 ∧ CeX ((iv 6 7) : Int32).toInt (fa 6 0) (fa 6 1) (fa 6 5) (b).toInt) ∨ ((0 : Int32).toInt = 0 ∧ ¬ CeX ((iv 6 7) : Int32).toInt (fa 6 0) (fa 6 1) (fa 6 5) (b).toInt)) from (Or.inr ⟨by decide, fun ⟨p, q1, q2⟩ => hq211_0 p (by omega) q2⟩))⟩, ht9⟩) (fun q hq => by cases hq) dX6_certified_45
      · have fc212 := z_nle (rfl : ((iv 6 7)).toInt = _) (rfl : (x210_2).toInt = _) c212
        refine lv_aload_n hx hb dX6_certified_10 rfl (lv_at hl 1 rfl) ?_
        refine lv_iload_n hx hb dX6_certified_11 rfl (lv_at hl 0 rfl) ?_
        refine vp_callSi (W.runV (As := [.int x210_2]) (rest := []) ⟨hx, hb, hml, hown, ht⟩ (c_X6_isCertificate_w l dC dI h g ca iv lv fa la hI x210_2 ⟨by omega, by omega⟩) (kV 1 ht m_1078 m_664 m_665 m_88 m_666 rfl rfl hd_X6_isCertificate_v ⟨Nat.le_of_ble_eq_true rfl, Nat.le_of_ble_eq_true rfl⟩) (vR hP hK (rX_6 hK hP)) rfl rfl hl.1 rfl (lv_room (Nat.le_of_ble_eq_true rfl)) dX6_certified_12 ⟨Nat.le_of_ble_eq_true rfl, Nat.le_of_ble_eq_true rfl⟩) (fun r213 hr213 => ?_)
        obtain ⟨hr213, xr213_0⟩ := hr213
        have xr213_0 : (((r213 : Int32).toInt = 1 ∧ ((fa 6 0) ((x210_2 : Int32).toInt).toNat).toInt = 0) ∨ ((r213 : Int32).toInt = 0 ∧ ((fa 6 0) ((x210_2 : Int32).toInt).toNat).toInt ≠ 0)) := xr213_0
        refine lv_if_eq (tgt := 38) hx hb dX6_certified_15 (by decide) (fun c214 => ?_) (fun c214 => ?_)
        · have fc214 := z_eq (rfl : (r213).toInt = _) (by decide : (0 : Int32).toInt = 0) c214
          obtain ⟨v215, ev215⟩ : ∃ y : Int32, y = x210_2 + 1 := ⟨_, rfl⟩
          have tv215 := z_add ev215 rfl (by decide : (1 : Int32).toInt = 1) (by omega) (by omega)
          refine lv_iinc (v := v215) (lv' := [(2, .int v215), (0, .ref (g 11 9)), (1, .int b)]) hx hb dX6_certified_38 hl (k := 0) rfl (by rw [ev215]; rfl) (by decide) rfl (fun ls hl => ?_)
          refine lv_goto (tgt := 2) hx hb dX6_certified_41 (by decide) ?_
          exact ih211 v215 ⟨by omega, by omega⟩ (show ∀ p : Nat, (p : Int) < (v215 : Int32).toInt → ¬ (((fa 6 0) p).toInt = 0 ∧ ((fa 6 1) p).toInt = (b).toInt ∧ ((fa 6 5) p).toInt = -1) from (fun p hp => by
                by_cases hj : (p : Int) < (x210_2 : Int32).toInt
                · exact hq211_0 p hj
                · have hj2 : p = ((x210_2 : Int32).toInt).toNat := by omega
                  rw [hj2]
                  have y9_0 := xr213_0
                  rintro ⟨q1, q2, q3⟩
                  omega)) (by omega) ls (lv_sub hl [0, 1, 2] rfl)
        · have fc214 := z_ne (rfl : (r213).toInt = _) (by decide : (0 : Int32).toInt = 0) c214
          refine lv_aload_n hx hb dX6_certified_18 rfl (lv_at hl 1 rfl) ?_
          refine gX_6_1 hx hb ht hown hK hP m_385 dX6_certified_19 ?_
          refine lv_iload_n hx hb dX6_certified_22 rfl (lv_at hl 0 rfl) ?_
          refine lX_6_1 hx hb hK hP (f := (fa 6 1)) rfl (vp_in_iff.mpr ⟨by omega, by omega⟩) dX6_certified_23 ?_
          refine lv_topi (fun v216 ev216 => ?_)
          refine lv_iload_n hx hb dX6_certified_24 rfl (lv_at hl 2 rfl) ?_
          refine lv_icmp_ne (tgt := 38) hx hb dX6_certified_25 (by decide) (fun c217 => ?_) (fun c217 => ?_)
          · have fc217 := z_ne (rfl : (v216).toInt = _) (rfl : (b).toInt = _) c217
            obtain ⟨v218, ev218⟩ : ∃ y : Int32, y = x210_2 + 1 := ⟨_, rfl⟩
            have tv218 := z_add ev218 rfl (by decide : (1 : Int32).toInt = 1) (by omega) (by omega)
            refine lv_iinc (v := v218) (lv' := [(2, .int v218), (0, .ref (g 11 9)), (1, .int b)]) hx hb dX6_certified_38 hl (k := 0) rfl (by rw [ev218]; rfl) (by decide) rfl (fun ls hl => ?_)
            refine lv_goto (tgt := 2) hx hb dX6_certified_41 (by decide) ?_
            exact ih211 v218 ⟨by omega, by omega⟩ (show ∀ p : Nat, (p : Int) < (v218 : Int32).toInt → ¬ (((fa 6 0) p).toInt = 0 ∧ ((fa 6 1) p).toInt = (b).toInt ∧ ((fa 6 5) p).toInt = -1) from (fun p hp => by
                  by_cases hj : (p : Int) < (x210_2 : Int32).toInt
                  · exact hq211_0 p hj
                  · have hj2 : p = ((x210_2 : Int32).toInt).toNat := by omega
                    rw [hj2]
                    have z9_0 := congrArg Int32.toInt (show v216 = fa 6 1 ((x210_2 : Int32).toInt).toNat from ev216)
                    have y9_0 := xr213_0
                    rintro ⟨q1, q2, q3⟩
                    omega)) (by omega) ls (lv_sub hl [0, 1, 2] rfl)
          · have fc217 := z_eq (rfl : (v216).toInt = _) (rfl : (b).toInt = _) c217
            refine lv_aload_n hx hb dX6_certified_28 rfl (lv_at hl 1 rfl) ?_
            refine lv_iload_n hx hb dX6_certified_29 rfl (lv_at hl 0 rfl) ?_
            refine vp_callSi (W.runV (As := [.int x210_2]) (rest := []) ⟨hx, hb, hml, hown, ht⟩ (c_X6_isUndone_w l dC dI h g ca iv lv fa la hI x210_2 ⟨by omega, by omega⟩) (kV 1 ht m_1079 m_1080 m_1081 m_88 m_1082 rfl rfl hd_X6_isUndone_v ⟨Nat.le_of_ble_eq_true rfl, Nat.le_of_ble_eq_true rfl⟩) (vR hP hK (rX_6 hK hP)) rfl rfl hl.1 rfl (lv_room (Nat.le_of_ble_eq_true rfl)) dX6_certified_30 ⟨Nat.le_of_ble_eq_true rfl, Nat.le_of_ble_eq_true rfl⟩) (fun r219 hr219 => ?_)
            obtain ⟨hr219, xr219_0⟩ := hr219
            have xr219_0 : (((r219 : Int32).toInt = 1 ∧ ((fa 6 5) ((x210_2 : Int32).toInt).toNat).toInt ≠ -1) ∨ ((r219 : Int32).toInt = 0 ∧ ((fa 6 5) ((x210_2 : Int32).toInt).toNat).toInt = -1)) := xr219_0
            refine lv_if_ne (tgt := 38) hx hb dX6_certified_33 (by decide) (fun c220 => ?_) (fun c220 => ?_)
            · have fc220 := z_ne (rfl : (r219).toInt = _) (by decide : (0 : Int32).toInt = 0) c220
              obtain ⟨v221, ev221⟩ : ∃ y : Int32, y = x210_2 + 1 := ⟨_, rfl⟩
              have tv221 := z_add ev221 rfl (by decide : (1 : Int32).toInt = 1) (by omega) (by omega)
              refine lv_iinc (v := v221) (lv' := [(2, .int v221), (0, .ref (g 11 9)), (1, .int b)]) hx hb dX6_certified_38 hl (k := 0) rfl (by rw [ev221]; rfl) (by decide) rfl (fun ls hl => ?_)
              refine lv_goto (tgt := 2) hx hb dX6_certified_41 (by decide) ?_
              exact ih211 v221 ⟨by omega, by omega⟩ (show ∀ p : Nat, (p : Int) < (v221 : Int32).toInt → ¬ (((fa 6 0) p).toInt = 0 ∧ ((fa 6 1) p).toInt = (b).toInt ∧ ((fa 6 5) p).toInt = -1) from (fun p hp => by
                    by_cases hj : (p : Int) < (x210_2 : Int32).toInt
                    · exact hq211_0 p hj
                    · have hj2 : p = ((x210_2 : Int32).toInt).toNat := by omega
                      rw [hj2]
                      have z9_0 := congrArg Int32.toInt (show v216 = fa 6 1 ((x210_2 : Int32).toInt).toNat from ev216)
                      have y9_0 := xr213_0
                      have y9_1 := xr219_0
                      rintro ⟨q1, q2, q3⟩
                      omega)) (by omega) ls (lv_sub hl [0, 1, 2] rfl)
            · have fc220 := z_eq (rfl : (r219).toInt = _) (by decide : (0 : Int32).toInt = 0) c220
              refine lv_iconst (v := 1) hx hb dX6_certified_36 (by decide) ?_
              have : (1 : Int32).toInt = 1 := (by decide)
              exact W.zret (v := 1) hx hb hr rfl (fun t ht9 hW => ⟨1, rfl, ⟨⟨by decide, by decide⟩, (show (((1 : Int32).toInt = 1 ∧ CeX ((iv 6 7) : Int32).toInt (fa 6 0) (fa 6 1) (fa 6 5) (b).toInt) ∨ ((1 : Int32).toInt = 0 ∧ ¬ CeX ((iv 6 7) : Int32).toInt (fa 6 0) (fa 6 1) (fa 6 5) (b).toInt)) from (by have z9_0 := congrArg Int32.toInt (show v216 = fa 6 1 ((x210_2 : Int32).toInt).toNat from ev216); have y9_0 := xr213_0; have y9_1 := xr219_0; exact Or.inl ⟨by decide, ((x210_2 : Int32).toInt).toNat, by omega, by omega, by omega, by omega⟩))⟩, ht9⟩) (fun q hq => by cases hq) dX6_certified_37
  have : (0 : Int32).toInt = 0 := (by decide)
  exact lp211 41 0 ⟨by decide, by decide⟩ (show ∀ p : Nat, (p : Int) < (0 : Int32).toInt → ¬ (((fa 6 0) p).toInt = 0 ∧ ((fa 6 1) p).toInt = (b).toInt ∧ ((fa 6 5) p).toInt = -1) from fun p hp => absurd hp (by omega)) (by first | decide | omega) ls (lv_sub hl [0, 1, 2] rfl)
set_option maxHeartbeats 4000000 in
set_option maxRecDepth 100000 in
/-- X6_isBilled -/
theorem c_X6_isBilled_w (l : Launch) (dC : Nat → ClassId) (dI : Nat → Nat → Nat) (h : Nat) (g : Nat → Nat → Nat) (ca : Nat → Nat → ClassId) (iv : Nat → Nat → Int32) (lv : Nat → Nat → Int64) (fa : Nat → Nat → Nat → Int32) (la : Nat → Nat → Nat → Int64) (hI : IX iv fa) (b : Int32) : Met l yX6_isBilled (wc yX6_isBilled cX6_isBilled 3 (some .boolean)) ({ frames := 1, cells := 0, slots := 0, locals := 21 } : Room) (pR (dC, dI) classes (WX h g ca iv lv fa la) (TX ca) [.ref (g 11 9), .int b]) (vp_Si (fun r => (0 ≤ r.toInt ∧ r.toInt ≤ 1) ∧ (((r.toInt = 1 ∧ BiX (iv 6 7).toInt (fa 6 0) (fa 6 3) (fa 6 5) b.toInt) ∨ (r.toInt = 0 ∧ ¬ BiX (iv 6 7).toInt (fa 6 0) (fa 6 3) (fa 6 5) b.toInt))))) 0 0 (fun _ => False) := by
  refine Met.ofW (cc := cX6_isBilled) (maxL := 3) (ret := (some .boolean)) (by decide) rfl ?_
  intro p e s m args below meth c s₁ B hml hv
  obtain ⟨rfl, hP, hK⟩ := hv
  have hx := B.exec
  have hb := B.bytes
  have hr := B.returns
  have ht := tb_tl (atoms_spec (ws := wc yX6_isBilled cX6_isBilled 3 (some .boolean)) B.pre)
  have hown : s.vm.findClass RX6 = some m.cls := findClass_of_methodNamed B.named
  have hlocks := B.notSynchronized
  have hl := lv_entry [.ref (g 11 9), .int b] (n := 3) (Nat.le_of_ble_eq_true rfl)
  rw [lg_entry_eq]
  generalize (lg_sl [.ref (g 11 9), .int b] ++ List.replicate (3 - (lg_sl [.ref (g 11 9), .int b]).length) Slot.unset).toArray = ls at hl ⊢
  have hl : lv_has ls 3 [(0, .ref (g 11 9)), (1, .int b)] := hl
  refine lv_iconst (v := 0) hx hb dX6_isBilled_0 (by decide) ?_
  refine lv_istore_n (lv' := [(2, .int 0), (0, .ref (g 11 9)), (1, .int b)]) hx hb dX6_isBilled_1 rfl hl (by decide) rfl (fun ls hl => ?_)
  have lp211 : ∀ (nn211 : Nat) (x210_2 : Int32), 0 ≤ x210_2.toInt ∧ x210_2.toInt ≤ 40 → (∀ p : Nat, (p : Int) < (x210_2 : Int32).toInt → ¬ (((fa 6 0) p).toInt = 1 ∧ ((fa 6 3) p).toInt = (b).toInt ∧ ((fa 6 5) p).toInt = -1)) → 40 - x210_2.toInt < (nn211 : Int) → ∀ (ls : Array Slot), lv_has ls 3 [(2, .int x210_2), (0, .ref (g 11 9)), (1, .int b)] → W p l e ({ frames := 1, cells := 0, slots := 0, locals := 21 } : Room) s m ([.ref (g 11 9), .int b] : List Value).toArray below meth c s.heap [] 0 0 (MQ below (vp_Si (fun r => (0 ≤ r.toInt ∧ r.toInt ≤ 1) ∧ (((r.toInt = 1 ∧ BiX (iv 6 7).toInt (fa 6 0) (fa 6 3) (fa 6 5) b.toInt) ∨ (r.toInt = 0 ∧ ¬ BiX (iv 6 7).toInt (fa 6 0) (fa 6 3) (fa 6 5) b.toInt))))) ([.ref (g 11 9), .int b] : List Value).toArray s 0 0 (fun _ => False)) (F0 m 2 ls []) := by
    intro nn211
    induction nn211 with
    | zero => intro x210_2 hx210_2 hq211_0 hm211; exfalso; omega
    | succ nn211 ih211 =>
      intro x210_2 hx210_2 hq211_0 hm211 ls hl
      refine lv_iload_n hx hb dX6_isBilled_2 rfl (lv_at hl 0 rfl) ?_
      refine lv_aload_n hx hb dX6_isBilled_3 rfl (lv_at hl 1 rfl) ?_
      have i_6_7 : 0 ≤ (iv 6 7).toInt ∧ (iv 6 7).toInt ≤ 40 := hI.1 6 7
      refine gX_6_7 hx hb ht hown hK hP m_396 (v := (iv 6 7)) rfl dX6_isBilled_4 ?_
      refine lv_icmp_ge (tgt := 46) hx hb dX6_isBilled_7 (by decide) (fun c212 => ?_) (fun c212 => ?_)
      · have fc212 := z_le (rfl : ((iv 6 7)).toInt = _) (rfl : (x210_2).toInt = _) c212
        refine lv_iconst (v := 0) hx hb dX6_isBilled_46 (by decide) ?_
        have : (0 : Int32).toInt = 0 := (by decide)
        exact W.zret (v := 0) hx hb hr rfl (fun t ht9 hW => ⟨0, rfl, ⟨⟨by decide, by decide⟩, (show (((0 : Int32).toInt = 1 ∧ BiX ((iv 6 7) : Int32).toInt (fa 6 0) (fa 6 3) (fa 6 5) (b).toInt) ∨ ((0 : Int32).toInt = 0 ∧ ¬ BiX ((iv 6 7) : Int32).toInt (fa 6 0) (fa 6 3) (fa 6 5) (b).toInt)) from (Or.inr ⟨by decide, fun ⟨p, q1, q2⟩ => hq211_0 p (by omega) q2⟩))⟩, ht9⟩) (fun q hq => by cases hq) dX6_isBilled_47
      · have fc212 := z_nle (rfl : ((iv 6 7)).toInt = _) (rfl : (x210_2).toInt = _) c212
        refine lv_aload_n hx hb dX6_isBilled_10 rfl (lv_at hl 1 rfl) ?_
        refine gX_6_0 hx hb ht hown hK hP m_383 dX6_isBilled_11 ?_
        refine lv_iload_n hx hb dX6_isBilled_14 rfl (lv_at hl 0 rfl) ?_
        refine lX_6_0 hx hb hK hP (f := (fa 6 0)) rfl (vp_in_iff.mpr ⟨by omega, by omega⟩) dX6_isBilled_15 ?_
        refine lv_topi (fun v213 ev213 => ?_)
        refine lv_iconst (v := 1) hx hb dX6_isBilled_16 (by decide) ?_
        refine lv_icmp_ne (tgt := 40) hx hb dX6_isBilled_17 (by decide) (fun c214 => ?_) (fun c214 => ?_)
        · have fc214 := z_ne (rfl : (v213).toInt = _) (by decide : (1 : Int32).toInt = 1) c214
          obtain ⟨v215, ev215⟩ : ∃ y : Int32, y = x210_2 + 1 := ⟨_, rfl⟩
          have tv215 := z_add ev215 rfl (by decide : (1 : Int32).toInt = 1) (by omega) (by omega)
          refine lv_iinc (v := v215) (lv' := [(2, .int v215), (0, .ref (g 11 9)), (1, .int b)]) hx hb dX6_isBilled_40 hl (k := 0) rfl (by rw [ev215]; rfl) (by decide) rfl (fun ls hl => ?_)
          refine lv_goto (tgt := 2) hx hb dX6_isBilled_43 (by decide) ?_
          exact ih211 v215 ⟨by omega, by omega⟩ (show ∀ p : Nat, (p : Int) < (v215 : Int32).toInt → ¬ (((fa 6 0) p).toInt = 1 ∧ ((fa 6 3) p).toInt = (b).toInt ∧ ((fa 6 5) p).toInt = -1) from (fun p hp => by
                by_cases hj : (p : Int) < (x210_2 : Int32).toInt
                · exact hq211_0 p hj
                · have hj2 : p = ((x210_2 : Int32).toInt).toNat := by omega
                  rw [hj2]
                  have z9_0 := congrArg Int32.toInt (show v213 = fa 6 0 ((x210_2 : Int32).toInt).toNat from ev213)
                  rintro ⟨q1, q2, q3⟩
                  omega)) (by omega) ls (lv_sub hl [0, 1, 2] rfl)
        · have fc214 := z_eq (rfl : (v213).toInt = _) (by decide : (1 : Int32).toInt = 1) c214
          refine lv_aload_n hx hb dX6_isBilled_20 rfl (lv_at hl 1 rfl) ?_
          refine gX_6_3 hx hb ht hown hK hP m_389 dX6_isBilled_21 ?_
          refine lv_iload_n hx hb dX6_isBilled_24 rfl (lv_at hl 0 rfl) ?_
          refine lX_6_3 hx hb hK hP (f := (fa 6 3)) rfl (vp_in_iff.mpr ⟨by omega, by omega⟩) dX6_isBilled_25 ?_
          refine lv_topi (fun v216 ev216 => ?_)
          have tv216 : (-1) ≤ v216.toInt ∧ v216.toInt ≤ 39 := by rw [ev216]; exact hI.2 6 3 _
          refine lv_iload_n hx hb dX6_isBilled_26 rfl (lv_at hl 2 rfl) ?_
          refine lv_icmp_ne (tgt := 40) hx hb dX6_isBilled_27 (by decide) (fun c217 => ?_) (fun c217 => ?_)
          · have fc217 := z_ne (rfl : (v216).toInt = _) (rfl : (b).toInt = _) c217
            obtain ⟨v218, ev218⟩ : ∃ y : Int32, y = x210_2 + 1 := ⟨_, rfl⟩
            have tv218 := z_add ev218 rfl (by decide : (1 : Int32).toInt = 1) (by omega) (by omega)
            refine lv_iinc (v := v218) (lv' := [(2, .int v218), (0, .ref (g 11 9)), (1, .int b)]) hx hb dX6_isBilled_40 hl (k := 0) rfl (by rw [ev218]; rfl) (by decide) rfl (fun ls hl => ?_)
            refine lv_goto (tgt := 2) hx hb dX6_isBilled_43 (by decide) ?_
            exact ih211 v218 ⟨by omega, by omega⟩ (show ∀ p : Nat, (p : Int) < (v218 : Int32).toInt → ¬ (((fa 6 0) p).toInt = 1 ∧ ((fa 6 3) p).toInt = (b).toInt ∧ ((fa 6 5) p).toInt = -1) from (fun p hp => by
                  by_cases hj : (p : Int) < (x210_2 : Int32).toInt
                  · exact hq211_0 p hj
                  · have hj2 : p = ((x210_2 : Int32).toInt).toNat := by omega
                    rw [hj2]
                    have z9_0 := congrArg Int32.toInt (show v213 = fa 6 0 ((x210_2 : Int32).toInt).toNat from ev213)
                    have z9_1 := congrArg Int32.toInt (show v216 = fa 6 3 ((x210_2 : Int32).toInt).toNat from ev216)
                    rintro ⟨q1, q2, q3⟩
                    omega)) (by omega) ls (lv_sub hl [0, 1, 2] rfl)
          · have fc217 := z_eq (rfl : (v216).toInt = _) (rfl : (b).toInt = _) c217
            refine lv_aload_n hx hb dX6_isBilled_30 rfl (lv_at hl 1 rfl) ?_
            refine lv_iload_n hx hb dX6_isBilled_31 rfl (lv_at hl 0 rfl) ?_
            refine vp_callSi (W.runV (As := [.int x210_2]) (rest := []) ⟨hx, hb, hml, hown, ht⟩ (c_X6_isUndone_w l dC dI h g ca iv lv fa la hI x210_2 ⟨by omega, by omega⟩) (kV 1 ht m_1079 m_1080 m_1081 m_88 m_1082 rfl rfl hd_X6_isUndone_v ⟨Nat.le_of_ble_eq_true rfl, Nat.le_of_ble_eq_true rfl⟩) (vR hP hK (rX_6 hK hP)) rfl rfl hl.1 rfl (lv_room (Nat.le_of_ble_eq_true rfl)) dX6_isBilled_32 ⟨Nat.le_of_ble_eq_true rfl, Nat.le_of_ble_eq_true rfl⟩) (fun r219 hr219 => ?_)
            obtain ⟨hr219, xr219_0⟩ := hr219
            have xr219_0 : (((r219 : Int32).toInt = 1 ∧ ((fa 6 5) ((x210_2 : Int32).toInt).toNat).toInt ≠ -1) ∨ ((r219 : Int32).toInt = 0 ∧ ((fa 6 5) ((x210_2 : Int32).toInt).toNat).toInt = -1)) := xr219_0
            refine lv_if_ne (tgt := 40) hx hb dX6_isBilled_35 (by decide) (fun c220 => ?_) (fun c220 => ?_)
            · have fc220 := z_ne (rfl : (r219).toInt = _) (by decide : (0 : Int32).toInt = 0) c220
              obtain ⟨v221, ev221⟩ : ∃ y : Int32, y = x210_2 + 1 := ⟨_, rfl⟩
              have tv221 := z_add ev221 rfl (by decide : (1 : Int32).toInt = 1) (by omega) (by omega)
              refine lv_iinc (v := v221) (lv' := [(2, .int v221), (0, .ref (g 11 9)), (1, .int b)]) hx hb dX6_isBilled_40 hl (k := 0) rfl (by rw [ev221]; rfl) (by decide) rfl (fun ls hl => ?_)
              refine lv_goto (tgt := 2) hx hb dX6_isBilled_43 (by decide) ?_
              exact ih211 v221 ⟨by omega, by omega⟩ (show ∀ p : Nat, (p : Int) < (v221 : Int32).toInt → ¬ (((fa 6 0) p).toInt = 1 ∧ ((fa 6 3) p).toInt = (b).toInt ∧ ((fa 6 5) p).toInt = -1) from (fun p hp => by
                    by_cases hj : (p : Int) < (x210_2 : Int32).toInt
                    · exact hq211_0 p hj
                    · have hj2 : p = ((x210_2 : Int32).toInt).toNat := by omega
                      rw [hj2]
                      have z9_0 := congrArg Int32.toInt (show v213 = fa 6 0 ((x210_2 : Int32).toInt).toNat from ev213)
                      have z9_1 := congrArg Int32.toInt (show v216 = fa 6 3 ((x210_2 : Int32).toInt).toNat from ev216)
                      have y9_0 := xr219_0
                      rintro ⟨q1, q2, q3⟩
                      omega)) (by omega) ls (lv_sub hl [0, 1, 2] rfl)
            · have fc220 := z_eq (rfl : (r219).toInt = _) (by decide : (0 : Int32).toInt = 0) c220
              refine lv_iconst (v := 1) hx hb dX6_isBilled_38 (by decide) ?_
              have : (1 : Int32).toInt = 1 := (by decide)
              exact W.zret (v := 1) hx hb hr rfl (fun t ht9 hW => ⟨1, rfl, ⟨⟨by decide, by decide⟩, (show (((1 : Int32).toInt = 1 ∧ BiX ((iv 6 7) : Int32).toInt (fa 6 0) (fa 6 3) (fa 6 5) (b).toInt) ∨ ((1 : Int32).toInt = 0 ∧ ¬ BiX ((iv 6 7) : Int32).toInt (fa 6 0) (fa 6 3) (fa 6 5) (b).toInt)) from (by have z9_0 := congrArg Int32.toInt (show v213 = fa 6 0 ((x210_2 : Int32).toInt).toNat from ev213); have z9_1 := congrArg Int32.toInt (show v216 = fa 6 3 ((x210_2 : Int32).toInt).toNat from ev216); have y9_0 := xr219_0; exact Or.inl ⟨by decide, ((x210_2 : Int32).toInt).toNat, by omega, by omega, by omega, by omega⟩))⟩, ht9⟩) (fun q hq => by cases hq) dX6_isBilled_39
  have : (0 : Int32).toInt = 0 := (by decide)
  exact lp211 41 0 ⟨by decide, by decide⟩ (show ∀ p : Nat, (p : Int) < (0 : Int32).toInt → ¬ (((fa 6 0) p).toInt = 1 ∧ ((fa 6 3) p).toInt = (b).toInt ∧ ((fa 6 5) p).toInt = -1) from fun p hp => absurd hp (by omega)) (by first | decide | omega) ls (lv_sub hl [0, 1, 2] rfl)
