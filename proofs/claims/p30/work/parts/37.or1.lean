/-! ===== or1 ===== -/
set_option maxHeartbeats 4000000 in
set_option maxRecDepth 100000 in
/-- X5_bring -/
theorem c_X5_bring_o (l : Launch) (dC : Nat → ClassId) (dI : Nat → Nat → Nat) (sz : Nat) (h : Nat) (g : Nat → Nat → Nat) (ca : Nat → Nat → ClassId) (iv : Nat → Nat → Int32) (lv : Nat → Nat → Int64) (fa : Nat → Nat → Nat → Int32) (la : Nat → Nat → Nat → Int64) (hI : IX iv fa) (a : Int32) (q_5_4 : 0 ≤ (iv 5 4).toInt ∧ (iv 5 4).toInt ≤ 7) : Met l yX5_bring (wc yX5_bring cX5_bring 2 (some .int)) ({ frames := 0, cells := 0, slots := 0, locals := 0 } : Room) (pW (dC, dI) classes (WX h g ca iv lv fa la) (TX ca) sz [.ref (g 11 7), .int a]) (va_Qi (fun r (u : SS) => ∃ (na_5_0 : Nat → Int32) (ni_5_4 : Int32) (ni_5_6 : Int32), inb (bI 5 4) ni_5_4 ∧ ni_5_4.toInt = (iv 5 4).toInt + 1 ∧ (r.toInt = (iv 5 4).toInt + 1) ∧ (∀ j : Nat, j ≠ ((iv 5 4).toInt).toNat → na_5_0 j = (fa 5 0) j) ∧ (na_5_0 ((iv 5 4).toInt).toNat = a) ∧ ((ni_5_6).toInt = 0) ∧ (1 ≤ r.toInt ∧ r.toInt ≤ 8) ∧ u = ((u2 (u2 iv 5 4 ni_5_4) 5 6 ni_5_6), lv, (u2 fa 5 0 na_5_0), la)) (bX (dC, dI) h g ca (va_A (WX h g ca iv lv fa la) sz)) (va_A (WX h g ca iv lv fa la) sz)) 0 0 (va_A (WX h g ca iv lv fa la) sz) := by
  refine Met.ofW (cc := cX5_bring) (maxL := 2) (ret := (some .int)) (by decide) rfl ?_
  intro p e s m args below meth c s₁ B hml hv
  obtain ⟨rfl, hsz, hP, hK, hD0⟩ := hv
  have hx := B.exec
  have hb := B.bytes
  have hr := B.returns
  have ht := tb_tl (atoms_spec (ws := wc yX5_bring cX5_bring 2 (some .int)) B.pre)
  have hown : s.vm.findClass RX5 = some m.cls := findClass_of_methodNamed B.named
  have hlocks := B.notSynchronized
  subst hsz
  have hD := hD0.self (sz := s.heap.size)
  generalize hAe : va_A (WX h g ca iv lv fa la) s.heap.size = A at hD ⊢
  have hA : ∀ q : Nat, s.heap.size ≤ q → A q := fun q h => by rw [← hAe]; exact Or.inr h
  have hS : va_S A s.heap s.heap [] := va_S.rf
  have hl := lv_entry [.ref (g 11 7), .int a] (n := 2) (Nat.le_of_ble_eq_true rfl)
  rw [lg_entry_eq]
  generalize (lg_sl [.ref (g 11 7), .int a] ++ List.replicate (2 - (lg_sl [.ref (g 11 7), .int a]).length) Slot.unset).toArray = ls at hl ⊢
  have hl : lv_has ls 2 [(0, .ref (g 11 7)), (1, .int a)] := hl
  refine lv_aload_n hx hb dX5_bring_0 rfl (lv_at hl 0 rfl) ?_
  refine gX_5_0 hx hb ht hown hK hP m_335 dX5_bring_1 ?_
  refine lv_aload_n hx hb dX5_bring_4 rfl (lv_at hl 0 rfl) ?_
  have i_5_4 : 0 ≤ (iv 5 4).toInt ∧ (iv 5 4).toInt ≤ 8 := hI.1 5 4
  refine gX_5_4 hx hb ht hown hK hP m_340 (v := (iv 5 4)) rfl dX5_bring_5 ?_
  refine lv_iload_n hx hb dX5_bring_8 rfl (lv_at hl 1 rfl) ?_
  refine tX_5_0 hx hb hK hP hD hS (f0 := (fa 5 0)) rfl (i := (iv 5 4)) (x := a) (vp_in_iff.mpr ⟨by omega, by omega⟩) dX5_bring_9 (fun f1 ef1 H locs hP hD hS => ?_)
  have hf1 : ∀ j, inb (bA 5 0 j) (f1 j) := fun j => full_i _
  refine lv_aload_n hx hb dX5_bring_10 rfl (lv_at hl 0 rfl) ?_
  refine lv_dup hx hb dX5_bring_11 rfl ?_
  refine gX_5_4 hx hb ht hown hK hP m_340 (v := (iv 5 4)) rfl dX5_bring_12 ?_
  refine lv_iconst (v := 1) hx hb dX5_bring_15 (by decide) ?_
  refine lv_iadd hx hb dX5_bring_16 ?_
  refine lv_topi (fun v2 ev2 => ?_)
  have tv2 := z_add ev2 (rfl : ((iv 5 4)).toInt = _) (by decide : (1 : Int32).toInt = 1) (by omega) (by omega)
  refine pX_5_4 (v := v2) hx hb ht hown hK hP hD hS m_340 dX5_bring_17 (fun H locs hP hD hS => ?_)
  refine lv_aload_n hx hb dX5_bring_20 rfl (lv_at hl 0 rfl) ?_
  refine lv_iconst (v := 0) hx hb dX5_bring_21 (by decide) ?_
  refine pX_5_6 (v := 0) hx hb ht hown hK hP hD hS m_344 dX5_bring_22 (fun H locs hP hD hS => ?_)
  refine lv_aload_n hx hb dX5_bring_25 rfl (lv_at hl 0 rfl) ?_
  refine gX_5_4 hx hb ht hown hK hP m_340 (v := v2) rfl dX5_bring_26 ?_
  have : (0 : Int32).toInt = 0 := (by decide)
  have hP9 : va_P (dC, dI) classes (WX h g ca (u2 (u2 iv 5 4 v2) 5 6 0) lv (u2 fa 5 0 f1) la) H := hP
  have hD9 : va_D A (WX h g ca (u2 (u2 iv 5 4 v2) 5 6 0) lv (u2 fa 5 0 f1) la) := hD
  exact W.iret (v := v2) hx hb hr (fun t ht9 hW => ⟨⟨v2, ((u2 (u2 iv 5 4 v2) 5 6 0), lv, (u2 fa 5 0 f1), la), rfl, ⟨f1, v2, 0, (show inb (0, 8) v2 from ⟨by omega, by omega⟩), (by omega), (show (v2 : Int32).toInt = (iv 5 4).toInt + 1 from by omega), (show ∀ j : Nat, j ≠ ((iv 5 4).toInt).toNat → f1 j = (fa 5 0) j from fun j hj => by rw [ef1, upd_ne (show j ≠ ((iv 5 4) : Int32).toNatClampNeg from hj)]), (show f1 ((iv 5 4).toInt).toNat = a from (by rw [ef1]; exact upd_eq)), (show (0 : Int32).toInt = 0 from by omega), ⟨by omega, by omega⟩, rfl⟩, by rw [ht9]; exact hP9, hD9⟩, hS.F ht9⟩) hS.2.2 dX5_bring_29
set_option maxHeartbeats 4000000 in
set_option maxRecDepth 100000 in
/-- X5_clear -/
theorem c_X5_clear_o (l : Launch) (dC : Nat → ClassId) (dI : Nat → Nat → Nat) (sz : Nat) (h : Nat) (g : Nat → Nat → Nat) (ca : Nat → Nat → ClassId) (iv : Nat → Nat → Int32) (lv : Nat → Nat → Int64) (fa : Nat → Nat → Nat → Int32) (la : Nat → Nat → Nat → Int64) (hI : IX iv fa) : Met l yX5_clear (wc yX5_clear cX5_clear 2 (some .int)) ({ frames := 0, cells := 0, slots := 0, locals := 0 } : Room) (pW (dC, dI) classes (WX h g ca iv lv fa la) (TX ca) sz [.ref (g 11 7)]) (va_Qi (fun r (u : SS) => ∃ (ni_5_4 : Int32) (ni_5_6 : Int32), inb (bI 5 4) ni_5_4 ∧ (r.toInt = (iv 5 4).toInt) ∧ ((ni_5_4).toInt = 0) ∧ ((ni_5_6).toInt = 0) ∧ (0 ≤ r.toInt ∧ r.toInt ≤ 8) ∧ u = ((u2 (u2 iv 5 4 ni_5_4) 5 6 ni_5_6), lv, fa, la)) (bX (dC, dI) h g ca (va_A (WX h g ca iv lv fa la) sz)) (va_A (WX h g ca iv lv fa la) sz)) 0 0 (va_A (WX h g ca iv lv fa la) sz) := by
  refine Met.ofW (cc := cX5_clear) (maxL := 2) (ret := (some .int)) (by decide) rfl ?_
  intro p e s m args below meth c s₁ B hml hv
  obtain ⟨rfl, hsz, hP, hK, hD0⟩ := hv
  have hx := B.exec
  have hb := B.bytes
  have hr := B.returns
  have ht := tb_tl (atoms_spec (ws := wc yX5_clear cX5_clear 2 (some .int)) B.pre)
  have hown : s.vm.findClass RX5 = some m.cls := findClass_of_methodNamed B.named
  have hlocks := B.notSynchronized
  subst hsz
  have hD := hD0.self (sz := s.heap.size)
  generalize hAe : va_A (WX h g ca iv lv fa la) s.heap.size = A at hD ⊢
  have hA : ∀ q : Nat, s.heap.size ≤ q → A q := fun q h => by rw [← hAe]; exact Or.inr h
  have hS : va_S A s.heap s.heap [] := va_S.rf
  have hl := lv_entry [.ref (g 11 7)] (n := 2) (Nat.le_of_ble_eq_true rfl)
  rw [lg_entry_eq]
  generalize (lg_sl [.ref (g 11 7)] ++ List.replicate (2 - (lg_sl [.ref (g 11 7)]).length) Slot.unset).toArray = ls at hl ⊢
  have hl : lv_has ls 2 [(0, .ref (g 11 7))] := hl
  refine lv_aload_n hx hb dX5_clear_0 rfl (lv_at hl 0 rfl) ?_
  have i_5_4 : 0 ≤ (iv 5 4).toInt ∧ (iv 5 4).toInt ≤ 8 := hI.1 5 4
  refine gX_5_4 hx hb ht hown hK hP m_340 (v := (iv 5 4)) rfl dX5_clear_1 ?_
  refine lv_istore_n (lv' := [(1, .int (iv 5 4)), (0, .ref (g 11 7))]) hx hb dX5_clear_4 rfl hl (by decide) rfl (fun ls hl => ?_)
  refine lv_aload_n hx hb dX5_clear_5 rfl (lv_at hl 1 rfl) ?_
  refine lv_iconst (v := 0) hx hb dX5_clear_6 (by decide) ?_
  refine pX_5_4 (v := 0) hx hb ht hown hK hP hD hS m_340 dX5_clear_7 (fun H locs hP hD hS => ?_)
  refine lv_aload_n hx hb dX5_clear_10 rfl (lv_at hl 1 rfl) ?_
  refine lv_iconst (v := 0) hx hb dX5_clear_11 (by decide) ?_
  refine pX_5_6 (v := 0) hx hb ht hown hK hP hD hS m_344 dX5_clear_12 (fun H locs hP hD hS => ?_)
  refine lv_iload_n hx hb dX5_clear_15 rfl (lv_at hl 0 rfl) ?_
  have : (0 : Int32).toInt = 0 := (by decide)
  have hP9 : va_P (dC, dI) classes (WX h g ca (u2 (u2 iv 5 4 0) 5 6 0) lv fa la) H := hP
  have hD9 : va_D A (WX h g ca (u2 (u2 iv 5 4 0) 5 6 0) lv fa la) := hD
  exact W.iret (v := (iv 5 4)) hx hb hr (fun t ht9 hW => ⟨⟨(iv 5 4), ((u2 (u2 iv 5 4 0) 5 6 0), lv, fa, la), rfl, ⟨0, 0, (show inb (0, 8) 0 from ⟨by decide, by decide⟩), (show ((iv 5 4) : Int32).toInt = (iv 5 4).toInt from by omega), (show (0 : Int32).toInt = 0 from by omega), (show (0 : Int32).toInt = 0 from by omega), ⟨by omega, by omega⟩, rfl⟩, by rw [ht9]; exact hP9, hD9⟩, hS.F ht9⟩) hS.2.2 dX5_clear_16
set_option maxHeartbeats 4000000 in
set_option maxRecDepth 100000 in
/-- X5_place -/
theorem c_X5_place_w8 (l : Launch) (dC : Nat → ClassId) (dI : Nat → Nat → Nat) (sz : Nat) (h : Nat) (g : Nat → Nat → Nat) (ca : Nat → Nat → ClassId) (iv : Nat → Nat → Int32) (lv : Nat → Nat → Int64) (fa : Nat → Nat → Nat → Int32) (la : Nat → Nat → Nat → Int64) (hI : IX iv fa) (mm : Int32) (q : Int32) (h_mm : 1 ≤ mm.toInt ∧ mm.toInt ≤ 3) : Met l yX5_place (wc yX5_place cX5_place 5 none) ({ frames := 1, cells := 0, slots := 0, locals := 60 } : Room) (pW (dC, dI) classes (WX h g ca iv lv fa la) (TX ca) sz [.ref (g 11 7), .int 8, .int mm, .int q]) (va_Qv (fun (u : SS) => ∃ (na_5_3 : Nat → Int32) (ni_5_5 : Int32), (∀ x0 bw : Nat, OrP ((iv 5 4).toInt).toNat (mm.toInt).toNat (fa 5 0) (fa 5 1) (fa 5 2) 8 x0 q.toInt → OrB ((iv 5 4).toInt).toNat (mm.toInt).toNat (fa 5 3) (iv 5 5).toInt bw → OrQ ((iv 5 4).toInt).toNat (mm.toInt).toNat (fa 5 0) x0 bw (iv 5 5).toInt ((mm.toInt).toNat ^ (((iv 5 4).toInt).toNat - 8)) (ni_5_5).toInt na_5_3) ∧ (∀ j : Nat, (fa 5 2) j = (fa 5 2) j) ∧ (∀ j : Nat, j < 8 → (fa 5 1) j = (fa 5 1) j) ∧ u = ((u2 iv 5 5 ni_5_5), lv, (u2 fa 5 3 na_5_3), la)) (bX (dC, dI) h g ca (va_A (WX h g ca iv lv fa la) sz)) (va_A (WX h g ca iv lv fa la) sz)) 0 0 (va_A (WX h g ca iv lv fa la) sz) := by
  refine Met.ofW (cc := cX5_place) (maxL := 5) (ret := none) (by decide) rfl ?_
  intro p e s m args below meth c s₁ B hml hv
  obtain ⟨rfl, hsz, hP, hK, hD0⟩ := hv
  have hx := B.exec
  have hb := B.bytes
  have hr := B.returns
  have ht := tb_tl (atoms_spec (ws := wc yX5_place cX5_place 5 none) B.pre)
  have hown : s.vm.findClass RX5 = some m.cls := findClass_of_methodNamed B.named
  have hlocks := B.notSynchronized
  subst hsz
  have hD := hD0.self (sz := s.heap.size)
  generalize hAe : va_A (WX h g ca iv lv fa la) s.heap.size = A at hD ⊢
  have hA : ∀ q : Nat, s.heap.size ≤ q → A q := fun q h => by rw [← hAe]; exact Or.inr h
  have hS : va_S A s.heap s.heap [] := va_S.rf
  have hl := lv_entry [.ref (g 11 7), .int 8, .int mm, .int q] (n := 5) (Nat.le_of_ble_eq_true rfl)
  rw [lg_entry_eq]
  generalize (lg_sl [.ref (g 11 7), .int 8, .int mm, .int q] ++ List.replicate (5 - (lg_sl [.ref (g 11 7), .int 8, .int mm, .int q]).length) Slot.unset).toArray = ls at hl ⊢
  have hl : lv_has ls 5 [(0, .ref (g 11 7)), (1, .int 8), (2, .int mm), (3, .int q)] := hl
  refine lv_iload_n hx hb dX5_place_0 rfl (lv_at hl 3 rfl) ?_
  refine lv_aload_n hx hb dX5_place_1 rfl (lv_at hl 0 rfl) ?_
  refine gX_5_5 hx hb ht hown hK hP m_342 (v := (iv 5 5)) rfl dX5_place_2 ?_
  refine lv_icmp_lt (tgt := 9) hx hb dX5_place_5 (by decide) (fun c1 => ?_) (fun c1 => ?_)
  · have fc1 := z_lt (rfl : (q).toInt = _) (rfl : ((iv 5 5)).toInt = _) c1
    refine lv_iload_n hx hb dX5_place_9 rfl (lv_at hl 1 rfl) ?_
    refine lv_aload_n hx hb dX5_place_10 rfl (lv_at hl 0 rfl) ?_
    have i_5_4 : 0 ≤ (iv 5 4).toInt ∧ (iv 5 4).toInt ≤ 8 := hI.1 5 4
    refine gX_5_4 hx hb ht hown hK hP m_340 (v := (iv 5 4)) rfl dX5_place_11 ?_
    refine lv_icmp_lt (tgt := 40) hx hb dX5_place_14 (by decide) (fun c2 => ?_) (fun c2 => ?_)
    · have fc2 := z_lt (by decide : (8 : Int32).toInt = 8) (rfl : ((iv 5 4)).toInt = _) c2; exfalso; omega
    · skip
      refine lv_aload_n hx hb dX5_place_17 rfl (lv_at hl 0 rfl) ?_
      refine lv_iload_n hx hb dX5_place_18 rfl (lv_at hl 3 rfl) ?_
      refine pX_5_5 (v := q) hx hb ht hown hK hP hD hS m_342 dX5_place_19 (fun H locs hP hD hS => ?_)
      refine lv_aload_n hx hb dX5_place_22 rfl (lv_at hl 0 rfl) ?_
      refine gX_5_1 hx hb ht hown hK hP m_336 dX5_place_23 ?_
      refine lv_iconst (v := 0) hx hb dX5_place_26 (by decide) ?_
      refine lv_aload_n hx hb dX5_place_27 rfl (lv_at hl 0 rfl) ?_
      refine gX_5_3 hx hb ht hown hK hP m_338 dX5_place_28 ?_
      refine lv_iconst (v := 0) hx hb dX5_place_31 (by decide) ?_
      refine lv_aload_n hx hb dX5_place_32 rfl (lv_at hl 0 rfl) ?_
      refine gX_5_4 hx hb ht hown hK hP m_340 (v := (iv 5 4)) rfl dX5_place_33 ?_
      have hn9 : ((iv 5 4) : Int32).toNatClampNeg ≤ 8 := by show ((((iv 5 4) : Int32).toInt).toNat : Nat) ≤ 8; omega
      refine va_copyi (D := (dC, dI)) (ty := .int) (f := (fa 5 1)) (g := (fa 5 3)) hx hb (hml.trans hl.1.symm) hown (ht _ m_1022) (ht _ m_1024) (ht _ m_1023) (ht _ m_95) hK hP hD hS 34 36 21 23 rfl rfl rfl rfl rfl (by decide) (by decide) (fun q9 => by have := Int32.lt_iff_toInt_lt.mp q9; have h0 : (0 : Int32).toInt = 0 := rfl; omega) (by show (0 : Nat) + _ ≤ 8; omega) (by show (0 : Nat) + _ ≤ 8; omega) (fun i hi => rfl) (Nat.le_of_ble_eq_true rfl) (by rw [nfw]; exact Nat.le_of_ble_eq_true rfl) dX5_place_36 (fun H locs hP hD hS => ?_)
      rw [aX_5_3] at hP hD
      obtain ⟨f3, ef3⟩ : ∃ f : Nat → Int32, f = va_cpy (fa 5 1) (fa 5 3) (0 : Int32).toNatClampNeg (0 : Int32).toNatClampNeg ((iv 5 4) : Int32).toNatClampNeg := ⟨_, rfl⟩
      rw [← ef3] at hP hD
      have hf3 : ∀ j, inb (bA 5 3 j) (f3 j) := fun j => full_i _
      have hP9 : va_P (dC, dI) classes (WX h g ca (u2 iv 5 5 q) lv (u2 fa 5 3 f3) la) H := hP
      have hD9 : va_D A (WX h g ca (u2 iv 5 5 q) lv (u2 fa 5 3 f3) la) := hD
      exact W.vret hx hb hr (fun t ht9 hW => ⟨⟨((u2 iv 5 5 q), lv, (u2 fa 5 3 f3), la), rfl, ⟨f3, q, (show ∀ x0 bw : Nat, OrP ((iv 5 4).toInt).toNat ((mm).toInt).toNat (fa 5 0) (fa 5 1) (fa 5 2) 8 x0 (q).toInt → OrB ((iv 5 4).toInt).toNat ((mm).toInt).toNat (fa 5 3) (iv 5 5).toInt bw → OrQ ((iv 5 4).toInt).toNat ((mm).toInt).toNat (fa 5 0) x0 bw (iv 5 5).toInt (((mm).toInt).toNat ^ (((iv 5 4).toInt).toNat - 8)) (q : Int32).toInt f3 from (fun x0 bw h1 h2 => Or_ql h1 (by omega) (by omega) (fun j hj => by rw [ef3]; exact Or_cpy (by decide) hj))), (show ∀ j : Nat, (fa 5 2) j = (fa 5 2) j from (fun j => rfl)), (show ∀ j : Nat, j < 8 → (fa 5 1) j = (fa 5 1) j from (fun j hj => rfl)), rfl⟩, by rw [ht9]; exact hP9, hD9⟩, hS.F ht9⟩) hS.2.2 dX5_place_39
  · have fc1 := z_nlt (rfl : (q).toInt = _) (rfl : ((iv 5 5)).toInt = _) c1
    have hP9 : va_P (dC, dI) classes (WX h g ca (u2 iv 5 5 (iv 5 5)) lv (u2 fa 5 3 (fa 5 3)) la) s.heap := hP
    have hD9 : va_D A (WX h g ca (u2 iv 5 5 (iv 5 5)) lv (u2 fa 5 3 (fa 5 3)) la) := hD
    exact W.vret hx hb hr (fun t ht9 hW => ⟨⟨((u2 iv 5 5 (iv 5 5)), lv, (u2 fa 5 3 (fa 5 3)), la), rfl, ⟨(fa 5 3), (iv 5 5), (show ∀ x0 bw : Nat, OrP ((iv 5 4).toInt).toNat ((mm).toInt).toNat (fa 5 0) (fa 5 1) (fa 5 2) 8 x0 (q).toInt → OrB ((iv 5 4).toInt).toNat ((mm).toInt).toNat (fa 5 3) (iv 5 5).toInt bw → OrQ ((iv 5 4).toInt).toNat ((mm).toInt).toNat (fa 5 0) x0 bw (iv 5 5).toInt (((mm).toInt).toNat ^ (((iv 5 4).toInt).toNat - 8)) ((iv 5 5) : Int32).toInt (fa 5 3) from (fun x0 bw h1 h2 => Or_qs h1 h2 (by omega))), (show ∀ j : Nat, (fa 5 2) j = (fa 5 2) j from (fun j => rfl)), (show ∀ j : Nat, j < 8 → (fa 5 1) j = (fa 5 1) j from (fun j hj => rfl)), rfl⟩, by rw [ht9]; exact hP9, hD9⟩, hS.F ht9⟩) hS.2.2 dX5_place_8
set_option maxHeartbeats 4000000 in
set_option maxRecDepth 100000 in
/-- X5_place -/
theorem c_X5_place_w7 (l : Launch) (dC : Nat → ClassId) (dI : Nat → Nat → Nat) (sz : Nat) (h : Nat) (g : Nat → Nat → Nat) (ca : Nat → Nat → ClassId) (iv : Nat → Nat → Int32) (lv : Nat → Nat → Int64) (fa : Nat → Nat → Nat → Int32) (la : Nat → Nat → Nat → Int64) (hI : IX iv fa) (mm : Int32) (q : Int32) (h_mm : 1 ≤ mm.toInt ∧ mm.toInt ≤ 3) : Met l yX5_place (wc yX5_place cX5_place 5 none) ({ frames := 2, cells := 0, slots := 0, locals := 84 } : Room) (pW (dC, dI) classes (WX h g ca iv lv fa la) (TX ca) sz [.ref (g 11 7), .int 7, .int mm, .int q]) (va_Qv (fun (u : SS) => ∃ (na_5_1 : Nat → Int32) (na_5_2 : Nat → Int32) (na_5_3 : Nat → Int32) (ni_5_5 : Int32), (∀ x0 bw : Nat, OrP ((iv 5 4).toInt).toNat (mm.toInt).toNat (fa 5 0) (fa 5 1) (fa 5 2) 7 x0 q.toInt → OrB ((iv 5 4).toInt).toNat (mm.toInt).toNat (fa 5 3) (iv 5 5).toInt bw → OrQ ((iv 5 4).toInt).toNat (mm.toInt).toNat (fa 5 0) x0 bw (iv 5 5).toInt ((mm.toInt).toNat ^ (((iv 5 4).toInt).toNat - 7)) (ni_5_5).toInt na_5_3) ∧ (∀ j : Nat, na_5_2 j = (fa 5 2) j) ∧ (∀ j : Nat, j < 7 → na_5_1 j = (fa 5 1) j) ∧ u = ((u2 iv 5 5 ni_5_5), lv, (u2 (u2 (u2 fa 5 1 na_5_1) 5 2 na_5_2) 5 3 na_5_3), la)) (bX (dC, dI) h g ca (va_A (WX h g ca iv lv fa la) sz)) (va_A (WX h g ca iv lv fa la) sz)) 0 0 (va_A (WX h g ca iv lv fa la) sz) := by
  refine Met.ofW (cc := cX5_place) (maxL := 5) (ret := none) (by decide) rfl ?_
  intro p e s m args below meth c s₁ B hml hv
  obtain ⟨rfl, hsz, hP, hK, hD0⟩ := hv
  have hx := B.exec
  have hb := B.bytes
  have hr := B.returns
  have ht := tb_tl (atoms_spec (ws := wc yX5_place cX5_place 5 none) B.pre)
  have hown : s.vm.findClass RX5 = some m.cls := findClass_of_methodNamed B.named
  have hlocks := B.notSynchronized
  subst hsz
  have hD := hD0.self (sz := s.heap.size)
  generalize hAe : va_A (WX h g ca iv lv fa la) s.heap.size = A at hD ⊢
  have hA : ∀ q : Nat, s.heap.size ≤ q → A q := fun q h => by rw [← hAe]; exact Or.inr h
  have hS : va_S A s.heap s.heap [] := va_S.rf
  have hl := lv_entry [.ref (g 11 7), .int 7, .int mm, .int q] (n := 5) (Nat.le_of_ble_eq_true rfl)
  rw [lg_entry_eq]
  generalize (lg_sl [.ref (g 11 7), .int 7, .int mm, .int q] ++ List.replicate (5 - (lg_sl [.ref (g 11 7), .int 7, .int mm, .int q]).length) Slot.unset).toArray = ls at hl ⊢
  have hl : lv_has ls 5 [(0, .ref (g 11 7)), (1, .int 7), (2, .int mm), (3, .int q)] := hl
  refine lv_iload_n hx hb dX5_place_0 rfl (lv_at hl 3 rfl) ?_
  refine lv_aload_n hx hb dX5_place_1 rfl (lv_at hl 0 rfl) ?_
  refine gX_5_5 hx hb ht hown hK hP m_342 (v := (iv 5 5)) rfl dX5_place_2 ?_
  refine lv_icmp_lt (tgt := 9) hx hb dX5_place_5 (by decide) (fun c1 => ?_) (fun c1 => ?_)
  · have fc1 := z_lt (rfl : (q).toInt = _) (rfl : ((iv 5 5)).toInt = _) c1
    refine lv_iload_n hx hb dX5_place_9 rfl (lv_at hl 1 rfl) ?_
    refine lv_aload_n hx hb dX5_place_10 rfl (lv_at hl 0 rfl) ?_
    have i_5_4 : 0 ≤ (iv 5 4).toInt ∧ (iv 5 4).toInt ≤ 8 := hI.1 5 4
    refine gX_5_4 hx hb ht hown hK hP m_340 (v := (iv 5 4)) rfl dX5_place_11 ?_
    refine lv_icmp_lt (tgt := 40) hx hb dX5_place_14 (by decide) (fun c2 => ?_) (fun c2 => ?_)
    · have fc2 := z_lt (by decide : (7 : Int32).toInt = 7) (rfl : ((iv 5 4)).toInt = _) c2
      refine lv_iconst (v := 0) hx hb dX5_place_40 (by decide) ?_
      refine lv_istore (lv' := [(4, .int 0), (0, .ref (g 11 7)), (1, .int 7), (2, .int mm), (3, .int q)]) hx hb dX5_place_41 hl (by decide) rfl (fun ls hl => ?_)
      have lp76 : ∀ (nn76 : Nat) (x75_4 : Int32) (w75_i_5_5 : Int32) (w75_a_5_1 : Nat → Int32) (w75_a_5_2 : Nat → Int32) (w75_a_5_3 : Nat → Int32), 0 ≤ x75_4.toInt ∧ x75_4.toInt ≤ 3 → (∀ j, inb (bA 5 1 j) (w75_a_5_1 j)) → (∀ j, inb (bA 5 2 j) (w75_a_5_2 j)) → (∀ j, inb (bA 5 3 j) (w75_a_5_3 j)) → (∀ x0 bw : Nat, OrP ((iv 5 4).toInt).toNat ((mm).toInt).toNat (fa 5 0) (fa 5 1) (fa 5 2) 7 x0 (q).toInt → OrB ((iv 5 4).toInt).toNat ((mm).toInt).toNat (fa 5 3) (iv 5 5).toInt bw → OrQ ((iv 5 4).toInt).toNat ((mm).toInt).toNat (fa 5 0) x0 bw (iv 5 5).toInt (((x75_4 : Int32).toInt).toNat * ((mm).toInt).toNat ^ (((iv 5 4).toInt).toNat - (7 + 1))) (w75_i_5_5 : Int32).toInt w75_a_5_3) → (∀ j : Nat, w75_a_5_2 j = fa 5 2 j) → (∀ j : Nat, j < 7 → w75_a_5_1 j = fa 5 1 j) → (x75_4 : Int32).toInt ≤ (mm).toInt → 3 - x75_4.toInt < (nn76 : Int) → ∀ (H : Heap) (locs : List Loc), ∀ (ls : Array Slot), va_P (dC, dI) classes (WX h g ca (u2 iv 5 5 w75_i_5_5) lv (u2 (u2 (u2 fa 5 1 w75_a_5_1) 5 2 w75_a_5_2) 5 3 w75_a_5_3) la) H → va_D A (WX h g ca (u2 iv 5 5 w75_i_5_5) lv (u2 (u2 (u2 fa 5 1 w75_a_5_1) 5 2 w75_a_5_2) 5 3 w75_a_5_3) la) → va_S A s.heap H locs → lv_has ls 5 [(4, .int x75_4), (0, .ref (g 11 7)), (1, .int 7), (2, .int mm), (3, .int q)] → W p l e ({ frames := 2, cells := 0, slots := 0, locals := 84 } : Room) s m ([.ref (g 11 7), .int 7, .int mm, .int q] : List Value).toArray below meth c H locs 0 0 (MQ below (va_Qv (fun (u : SS) => ∃ (na_5_1 : Nat → Int32) (na_5_2 : Nat → Int32) (na_5_3 : Nat → Int32) (ni_5_5 : Int32), (∀ x0 bw : Nat, OrP ((iv 5 4).toInt).toNat (mm.toInt).toNat (fa 5 0) (fa 5 1) (fa 5 2) 7 x0 q.toInt → OrB ((iv 5 4).toInt).toNat (mm.toInt).toNat (fa 5 3) (iv 5 5).toInt bw → OrQ ((iv 5 4).toInt).toNat (mm.toInt).toNat (fa 5 0) x0 bw (iv 5 5).toInt ((mm.toInt).toNat ^ (((iv 5 4).toInt).toNat - 7)) (ni_5_5).toInt na_5_3) ∧ (∀ j : Nat, na_5_2 j = (fa 5 2) j) ∧ (∀ j : Nat, j < 7 → na_5_1 j = (fa 5 1) j) ∧ u = ((u2 iv 5 5 ni_5_5), lv, (u2 (u2 (u2 fa 5 1 na_5_1) 5 2 na_5_2) 5 3 na_5_3), la)) (bX (dC, dI) h g ca A) A) ([.ref (g 11 7), .int 7, .int mm, .int q] : List Value).toArray s 0 0 A) (F0 m 43 ls []) := by
        intro nn76
        induction nn76 with
        | zero => intro x75_4 w75_i_5_5 w75_a_5_1 w75_a_5_2 w75_a_5_3 hx75_4 hw75_a_5_1 hw75_a_5_2 hw75_a_5_3 hq76_0 hq76_1 hq76_2 hq76_3 hm76; exfalso; omega
        | succ nn76 ih76 =>
          intro x75_4 w75_i_5_5 w75_a_5_1 w75_a_5_2 w75_a_5_3 hx75_4 hw75_a_5_1 hw75_a_5_2 hw75_a_5_3 hq76_0 hq76_1 hq76_2 hq76_3 hm76 H locs ls hP hD hS hl
          refine lv_iload hx hb dX5_place_43 (lv_at hl 0 rfl) ?_
          refine lv_iload_n hx hb dX5_place_45 rfl (lv_at hl 3 rfl) ?_
          refine lv_icmp_ge (tgt := 114) hx hb dX5_place_46 (by decide) (fun c77 => ?_) (fun c77 => ?_)
          · have fc77 := z_le (rfl : (mm).toInt = _) (rfl : (x75_4).toInt = _) c77
            have hP9 : va_P (dC, dI) classes (WX h g ca (u2 iv 5 5 w75_i_5_5) lv (u2 (u2 (u2 fa 5 1 w75_a_5_1) 5 2 w75_a_5_2) 5 3 w75_a_5_3) la) H := hP
            have hD9 : va_D A (WX h g ca (u2 iv 5 5 w75_i_5_5) lv (u2 (u2 (u2 fa 5 1 w75_a_5_1) 5 2 w75_a_5_2) 5 3 w75_a_5_3) la) := hD
            exact W.vret hx hb hr (fun t ht9 hW => ⟨⟨((u2 iv 5 5 w75_i_5_5), lv, (u2 (u2 (u2 fa 5 1 w75_a_5_1) 5 2 w75_a_5_2) 5 3 w75_a_5_3), la), rfl, ⟨w75_a_5_1, w75_a_5_2, w75_a_5_3, w75_i_5_5, (show ∀ x0 bw : Nat, OrP ((iv 5 4).toInt).toNat ((mm).toInt).toNat (fa 5 0) (fa 5 1) (fa 5 2) 7 x0 (q).toInt → OrB ((iv 5 4).toInt).toNat ((mm).toInt).toNat (fa 5 3) (iv 5 5).toInt bw → OrQ ((iv 5 4).toInt).toNat ((mm).toInt).toNat (fa 5 0) x0 bw (iv 5 5).toInt (((mm).toInt).toNat ^ (((iv 5 4).toInt).toNat - 7)) (w75_i_5_5 : Int32).toInt w75_a_5_3 from (fun x0 bw h1 h2 => by
                  have hq9 := hq76_0 x0 bw h1 h2
                  rw [show ((x75_4 : Int32).toInt).toNat = ((mm).toInt).toNat from by omega, Or_pw (by omega)] at hq9
                  exact hq9)), (show ∀ j : Nat, w75_a_5_2 j = (fa 5 2) j from hq76_1), (show ∀ j : Nat, j < 7 → w75_a_5_1 j = (fa 5 1) j from hq76_2), rfl⟩, by rw [ht9]; exact hP9, hD9⟩, hS.F ht9⟩) hS.2.2 dX5_place_114
          · have fc77 := z_nle (rfl : (mm).toInt = _) (rfl : (x75_4).toInt = _) c77
            refine lv_aload_n hx hb dX5_place_49 rfl (lv_at hl 1 rfl) ?_
            refine gX_5_1 hx hb ht hown hK hP m_336 dX5_place_50 ?_
            refine lv_iload_n hx hb dX5_place_53 rfl (lv_at hl 2 rfl) ?_
            refine lv_iload hx hb dX5_place_54 (lv_at hl 0 rfl) ?_
            refine tX_5_1 hx hb hK hP hD hS (f0 := w75_a_5_1) rfl (i := 7) (x := x75_4) (vp_in_iff.mpr (by decide)) dX5_place_56 (fun f78 ef78 H locs hP hD hS => ?_)
            have hf78 : ∀ j, inb (bA 5 1 j) (f78 j) := fun j => full_i _
            have hP : va_P (dC, dI) classes (WX h g ca (u2 iv 5 5 w75_i_5_5) lv (u2 (u2 (u2 fa 5 1 f78) 5 2 w75_a_5_2) 5 3 w75_a_5_3) la) H := hP
            have hD : va_D A (WX h g ca (u2 iv 5 5 w75_i_5_5) lv (u2 (u2 (u2 fa 5 1 f78) 5 2 w75_a_5_2) 5 3 w75_a_5_3) la) := hD
            refine lv_aload_n hx hb dX5_place_57 rfl (lv_at hl 1 rfl) ?_
            refine gX_5_2 hx hb ht hown hK hP m_337 dX5_place_58 ?_
            refine lv_iload hx hb dX5_place_61 (lv_at hl 0 rfl) ?_
            refine lv_dup2_11 hx hb dX5_place_63 rfl rfl ?_
            refine lX_5_2 hx hb hK hP (f := w75_a_5_2) rfl (vp_in_iff.mpr ⟨by omega, by omega⟩) dX5_place_64 ?_
            refine lv_topi (fun v79 ev79 => ?_)
            refine lv_aload_n hx hb dX5_place_65 rfl (lv_at hl 1 rfl) ?_
            refine gX_5_0 hx hb ht hown hK hP m_335 dX5_place_66 ?_
            refine lv_iload_n hx hb dX5_place_69 rfl (lv_at hl 2 rfl) ?_
            refine lX_5_0 hx hb hK hP (f := (fa 5 0)) rfl (vp_in_iff.mpr (by decide)) dX5_place_70 ?_
            refine lv_topi (fun v80 ev80 => ?_)
            refine lv_iadd hx hb dX5_place_71 ?_
            refine lv_topi (fun v81 ev81 => ?_)
            refine tX_5_2 hx hb hK hP hD hS (f0 := w75_a_5_2) rfl (i := x75_4) (x := v81) (vp_in_iff.mpr ⟨by omega, by omega⟩) dX5_place_72 (fun f82 ef82 H locs hP hD hS => ?_)
            have hf82 : ∀ j, inb (bA 5 2 j) (f82 j) := fun j => full_i _
            have hP : va_P (dC, dI) classes (WX h g ca (u2 iv 5 5 w75_i_5_5) lv (u2 (u2 (u2 fa 5 1 f78) 5 2 f82) 5 3 w75_a_5_3) la) H := hP
            have hD : va_D A (WX h g ca (u2 iv 5 5 w75_i_5_5) lv (u2 (u2 (u2 fa 5 1 f78) 5 2 f82) 5 3 w75_a_5_3) la) := hD
            refine lv_aload_n hx hb dX5_place_73 rfl (lv_at hl 1 rfl) ?_
            refine lv_iload_n hx hb dX5_place_74 rfl (lv_at hl 2 rfl) ?_
            refine lv_iconst (v := 1) hx hb dX5_place_75 (by decide) ?_
            refine lv_iadd hx hb dX5_place_76 ?_
            refine lv_topi (fun v83 ev83 => ?_)
            obtain rfl : 8 = v83 := (ev83.trans (by decide)).symm
            refine lv_iload_n hx hb dX5_place_77 rfl (lv_at hl 3 rfl) ?_
            refine lv_iload_n hx hb dX5_place_78 rfl (lv_at hl 4 rfl) ?_
            refine lv_aload_n hx hb dX5_place_79 rfl (lv_at hl 1 rfl) ?_
            refine gX_5_2 hx hb ht hown hK hP m_337 dX5_place_80 ?_
            refine lv_iload hx hb dX5_place_83 (lv_at hl 0 rfl) ?_
            refine lX_5_2 hx hb hK hP (f := f82) rfl (vp_in_iff.mpr ⟨by omega, by omega⟩) dX5_place_85 ?_
            refine lv_topi (fun v84 ev84 => ?_)
            refine va_mmax hx hb (hml.trans hl.1.symm) hown (ht _ m_1025) (ht _ m_558) (ht _ m_90) (ht _ m_559) (Nat.le_of_ble_eq_true rfl) (Nat.le_of_ble_eq_true rfl) (Nat.le_of_ble_eq_true rfl) (Nat.le_of_ble_eq_true rfl) dX5_place_86 ?_
            refine lv_topi (fun v85 ev85 => ?_)
            have tv85 := mm_or ev85
            have uv85 := mm_max ev85 (rfl : (q).toInt = _) (rfl : (v84).toInt = _)
            have hFc := free_all hD hS hA
            refine va_callv (va_runV (As := [.int 8, .int mm, .int v85]) (rest := []) ⟨hx, hb, hml, hown, ht⟩ (c_X5_place_w8 l dC dI H.size h g ca (u2 iv 5 5 w75_i_5_5) lv (u2 (u2 (u2 fa 5 1 f78) 5 2 f82) 5 3 w75_a_5_3) la (IX_a (c := 5) (k := 3) (IX_a (c := 5) (k := 2) (IX_a (c := 5) (k := 1) (IX_i (c := 5) (k := 5) hI (full_i _)) hf78) hf82) hw75_a_5_3) mm v85 ⟨by omega, by omega⟩) (kV 3 ht m_1018 m_1020 m_41 m_86 m_1021 rfl rfl hd_X5_place_v ⟨Nat.le_of_ble_eq_true rfl, Nat.le_of_ble_eq_true rfl⟩) (vW hP hK hD (rX_5 hK hP)) rfl rfl hl.1 rfl (lv_room (Nat.le_of_ble_eq_true rfl)) dX5_place_89 ⟨Nat.le_of_ble_eq_true rfl, Nat.le_of_ble_eq_true rfl⟩) hS (fun q _ h => hFc q h) hFc (fun u t H1 locs ht9 hvm hr86 hB hz1 hk1 hS => ?_)
            obtain ⟨n87, n88, xr86_0, xr86_1, xr86_2, rfl⟩ := hr86
            have hn87 : ∀ j, inb (bA 5 3 j) (n87 j) := fun j => full_i _
            obtain ⟨hP, hD⟩ := hB
            rw [ht9] at hP
            generalize H1 = H at hP hS ⊢
            have hP : va_P (dC, dI) classes (WX h g ca (u2 iv 5 5 n88) lv (u2 (u2 (u2 fa 5 1 f78) 5 2 f82) 5 3 n87) la) H := hP
            have hD : va_D A (WX h g ca (u2 iv 5 5 n88) lv (u2 (u2 (u2 fa 5 1 f78) 5 2 f82) 5 3 n87) la) := (show va_D _ (WX h g ca (u2 iv 5 5 n88) lv (u2 (u2 (u2 fa 5 1 f78) 5 2 f82) 5 3 n87) la) from hD).weaken (fun _ _ _ h => hFc _ h)
            have xr86_0 : ∀ x0 bw : Nat, OrP (((iv 5 4) : Int32).toInt).toNat ((mm : Int32).toInt).toNat (fa 5 0) f78 f82 8 x0 (v85 : Int32).toInt → OrB (((iv 5 4) : Int32).toInt).toNat ((mm : Int32).toInt).toNat w75_a_5_3 (w75_i_5_5 : Int32).toInt bw → OrQ (((iv 5 4) : Int32).toInt).toNat ((mm : Int32).toInt).toNat (fa 5 0) x0 bw (w75_i_5_5 : Int32).toInt (((mm : Int32).toInt).toNat ^ ((((iv 5 4) : Int32).toInt).toNat - 8)) (n88 : Int32).toInt n87 := xr86_0
            have xr86_1 : ∀ j : Nat, f82 j = f82 j := xr86_1
            have xr86_2 : ∀ j : Nat, j < 8 → f78 j = f78 j := xr86_2
            refine lv_aload_n hx hb dX5_place_92 rfl (lv_at hl 1 rfl) ?_
            refine gX_5_2 hx hb ht hown hK hP m_337 dX5_place_93 ?_
            refine lv_iload hx hb dX5_place_96 (lv_at hl 0 rfl) ?_
            refine lv_dup2_11 hx hb dX5_place_98 rfl rfl ?_
            refine lX_5_2 hx hb hK hP (f := f82) rfl (vp_in_iff.mpr ⟨by omega, by omega⟩) dX5_place_99 ?_
            refine lv_topi (fun v89 ev89 => ?_)
            obtain rfl : v84 = v89 := ev84.trans ev89.symm
            refine lv_aload_n hx hb dX5_place_100 rfl (lv_at hl 1 rfl) ?_
            refine gX_5_0 hx hb ht hown hK hP m_335 dX5_place_101 ?_
            refine lv_iload_n hx hb dX5_place_104 rfl (lv_at hl 2 rfl) ?_
            refine lX_5_0 hx hb hK hP (f := (fa 5 0)) rfl (vp_in_iff.mpr (by decide)) dX5_place_105 ?_
            refine lv_topi (fun v90 ev90 => ?_)
            obtain rfl : v80 = v90 := ev80.trans ev90.symm
            refine lv_isub hx hb dX5_place_106 ?_
            refine lv_topi (fun v91 ev91 => ?_)
            refine tX_5_2 hx hb hK hP hD hS (f0 := f82) rfl (i := x75_4) (x := v91) (vp_in_iff.mpr ⟨by omega, by omega⟩) dX5_place_107 (fun f92 ef92 H locs hP hD hS => ?_)
            have hf92 : ∀ j, inb (bA 5 2 j) (f92 j) := fun j => full_i _
            have hP : va_P (dC, dI) classes (WX h g ca (u2 iv 5 5 n88) lv (u2 (u2 (u2 fa 5 1 f78) 5 2 f92) 5 3 n87) la) H := hP
            have hD : va_D A (WX h g ca (u2 iv 5 5 n88) lv (u2 (u2 (u2 fa 5 1 f78) 5 2 f92) 5 3 n87) la) := hD
            obtain ⟨v93, ev93⟩ : ∃ y : Int32, y = x75_4 + 1 := ⟨_, rfl⟩
            have tv93 := z_add ev93 rfl (by decide : (1 : Int32).toInt = 1) (by omega) (by omega)
            refine lv_iinc (v := v93) (lv' := [(4, .int v93), (0, .ref (g 11 7)), (1, .int 7), (2, .int mm), (3, .int q)]) hx hb dX5_place_108 hl (k := 0) rfl (by rw [ev93]; rfl) (by decide) rfl (fun ls hl => ?_)
            refine lv_goto (tgt := 43) hx hb dX5_place_111 (by decide) ?_
            exact ih76 v93 n88 f78 f92 n87 ⟨by omega, by omega⟩ hf78 hf92 hn87 (show ∀ x0 bw : Nat, OrP ((iv 5 4).toInt).toNat ((mm).toInt).toNat (fa 5 0) (fa 5 1) (fa 5 2) 7 x0 (q).toInt → OrB ((iv 5 4).toInt).toNat ((mm).toInt).toNat (fa 5 3) (iv 5 5).toInt bw → OrQ ((iv 5 4).toInt).toNat ((mm).toInt).toNat (fa 5 0) x0 bw (iv 5 5).toInt (((v93 : Int32).toInt).toNat * ((mm).toInt).toNat ^ (((iv 5 4).toInt).toNat - (7 + 1))) (n88 : Int32).toInt n87 from (fun x0 bw h1 h2 => by
                  have z9 : (7 : Int32).toNatClampNeg = 7 := (by decide)
                  have hl9 : (x75_4 : Int32).toNatClampNeg = ((x75_4 : Int32).toInt).toNat := rfl
                  have ht1 : ∀ j : Nat, j < 7 → f78 j = fa 5 1 j := fun j hj => by rw [ef78, z9, upd_ne (by omega : j ≠ 7)]; exact hq76_2 j hj
                  have hv1 : v79 = fa 5 2 ((x75_4 : Int32).toInt).toNat := (show v79 = w75_a_5_2 ((x75_4 : Int32).toInt).toNat from ev79).trans (hq76_1 _)
                  have hv2 : v80 = fa 5 0 7 := (show v80 = fa 5 0 ((7 : Int32).toNatClampNeg) from ev80).trans (by rw [z9])
                  have he1 : f82 ((x75_4 : Int32).toInt).toNat = v81 := by rw [ef82, hl9]; exact upd_eq
                  have he2 : ∀ j : Nat, j ≠ ((x75_4 : Int32).toInt).toNat → f82 j = fa 5 2 j := fun j hj => by rw [ef82, hl9, upd_ne hj]; exact hq76_1 j
                  have hs9 : ((v93 : Int32).toInt).toNat = ((x75_4 : Int32).toInt).toNat + 1 := by omega
                  have hq9 := hq76_0 x0 bw h1 h2
                  have ht2 : f78 7 = x75_4 := by rw [ef78, z9]; exact upd_eq
                  have ht3 : (f78 7).toInt = ((((x75_4 : Int32).toInt).toNat : Nat) : Int) := by rw [ht2]; omega
                  have hv5 := congrArg Int32.toInt (show v84 = f82 ((x75_4 : Int32).toInt).toNat from ev84)
                  have hd9 : OrP ((iv 5 4).toInt).toNat ((mm).toInt).toNat (fa 5 0) f78 f82 8 (x0 + ((x75_4 : Int32).toInt).toNat * ((mm).toInt).toNat ^ (((iv 5 4).toInt).toNat - (7 + 1))) (v85 : Int32).toInt := Or_dn h1 (by omega) (by omega) ht1 ht3 (fun j _ hj => he2 j hj) (he1.trans (ev81.trans (by rw [hv1, hv2]))) (by omega) (by omega) (by omega)
                  exact Or_st hs9 hq9 (xr86_0 _ _ hd9 hq9.2))) (show ∀ j : Nat, f92 j = fa 5 2 j from (fun j => by
                  have z9 : (7 : Int32).toNatClampNeg = 7 := (by decide)
                  have hl9 : (x75_4 : Int32).toNatClampNeg = ((x75_4 : Int32).toInt).toNat := rfl
                  have ht1 : ∀ j : Nat, j < 7 → f78 j = fa 5 1 j := fun j hj => by rw [ef78, z9, upd_ne (by omega : j ≠ 7)]; exact hq76_2 j hj
                  have hv1 : v79 = fa 5 2 ((x75_4 : Int32).toInt).toNat := (show v79 = w75_a_5_2 ((x75_4 : Int32).toInt).toNat from ev79).trans (hq76_1 _)
                  have hv2 : v80 = fa 5 0 7 := (show v80 = fa 5 0 ((7 : Int32).toNatClampNeg) from ev80).trans (by rw [z9])
                  have he1 : f82 ((x75_4 : Int32).toInt).toNat = v81 := by rw [ef82, hl9]; exact upd_eq
                  have he2 : ∀ j : Nat, j ≠ ((x75_4 : Int32).toInt).toNat → f82 j = fa 5 2 j := fun j hj => by rw [ef82, hl9, upd_ne hj]; exact hq76_1 j
                  have hv4 : v84 = v81 := (show v84 = f82 ((x75_4 : Int32).toInt).toNat from ev84).trans ((xr86_1 _).trans he1)
                  by_cases hj : j = ((x75_4 : Int32).toInt).toNat
                  · have hx9 : f92 ((x75_4 : Int32).toInt).toNat = v91 := by rw [ef92, hl9]; exact upd_eq
                    rw [hj, hx9, ev91, hv4, ev81, Int32.add_sub_cancel]
                    exact hv1
                  · rw [ef92, hl9, upd_ne hj, xr86_1 j]; exact he2 j hj)) (show ∀ j : Nat, j < 7 → f78 j = fa 5 1 j from (fun j hj => by
                  have z9 : (7 : Int32).toNatClampNeg = 7 := (by decide)
                  have hl9 : (x75_4 : Int32).toNatClampNeg = ((x75_4 : Int32).toInt).toNat := rfl
                  have ht1 : ∀ j : Nat, j < 7 → f78 j = fa 5 1 j := fun j hj => by rw [ef78, z9, upd_ne (by omega : j ≠ 7)]; exact hq76_2 j hj
                  have hv1 : v79 = fa 5 2 ((x75_4 : Int32).toInt).toNat := (show v79 = w75_a_5_2 ((x75_4 : Int32).toInt).toNat from ev79).trans (hq76_1 _)
                  have hv2 : v80 = fa 5 0 7 := (show v80 = fa 5 0 ((7 : Int32).toNatClampNeg) from ev80).trans (by rw [z9])
                  have he1 : f82 ((x75_4 : Int32).toInt).toNat = v81 := by rw [ef82, hl9]; exact upd_eq
                  have he2 : ∀ j : Nat, j ≠ ((x75_4 : Int32).toInt).toNat → f82 j = fa 5 2 j := fun j hj => by rw [ef82, hl9, upd_ne hj]; exact hq76_1 j
                  rw [xr86_2 j (by omega)]; exact ht1 j hj)) (show (v93 : Int32).toInt ≤ (mm).toInt from by omega) (by omega) _ _ ls hP hD hS (lv_sub hl [0, 1, 2, 3, 4] rfl)
      have : (0 : Int32).toInt = 0 := (by decide)
      exact lp76 4 0 (iv 5 5) (fa 5 1) (fa 5 2) (fa 5 3) ⟨by decide, by decide⟩ (hI.2 5 1) (hI.2 5 2) (hI.2 5 3) (show ∀ x0 bw : Nat, OrP ((iv 5 4).toInt).toNat ((mm).toInt).toNat (fa 5 0) (fa 5 1) (fa 5 2) 7 x0 (q).toInt → OrB ((iv 5 4).toInt).toNat ((mm).toInt).toNat (fa 5 3) (iv 5 5).toInt bw → OrQ ((iv 5 4).toInt).toNat ((mm).toInt).toNat (fa 5 0) x0 bw (iv 5 5).toInt (((0 : Int32).toInt).toNat * ((mm).toInt).toNat ^ (((iv 5 4).toInt).toNat - (7 + 1))) ((iv 5 5) : Int32).toInt (fa 5 3) from (fun x0 bw h1 h2 => by
            have hz : ((0 : Int32).toInt).toNat = 0 := (by decide)
            rw [hz, Nat.zero_mul]
            exact Or_q0 h2)) (show ∀ j : Nat, (fa 5 2) j = fa 5 2 j from (fun j => rfl)) (show ∀ j : Nat, j < 7 → (fa 5 1) j = fa 5 1 j from (fun j hj => rfl)) (show (0 : Int32).toInt ≤ (mm).toInt from by omega) (by first | decide | omega) _ _ ls hP hD hS (lv_sub hl [0, 1, 2, 3, 4] rfl)
    · have fc2 := z_nlt (by decide : (7 : Int32).toInt = 7) (rfl : ((iv 5 4)).toInt = _) c2
      refine lv_aload_n hx hb dX5_place_17 rfl (lv_at hl 0 rfl) ?_
      refine lv_iload_n hx hb dX5_place_18 rfl (lv_at hl 3 rfl) ?_
      refine pX_5_5 (v := q) hx hb ht hown hK hP hD hS m_342 dX5_place_19 (fun H locs hP hD hS => ?_)
      refine lv_aload_n hx hb dX5_place_22 rfl (lv_at hl 0 rfl) ?_
      refine gX_5_1 hx hb ht hown hK hP m_336 dX5_place_23 ?_
      refine lv_iconst (v := 0) hx hb dX5_place_26 (by decide) ?_
      refine lv_aload_n hx hb dX5_place_27 rfl (lv_at hl 0 rfl) ?_
      refine gX_5_3 hx hb ht hown hK hP m_338 dX5_place_28 ?_
      refine lv_iconst (v := 0) hx hb dX5_place_31 (by decide) ?_
      refine lv_aload_n hx hb dX5_place_32 rfl (lv_at hl 0 rfl) ?_
      refine gX_5_4 hx hb ht hown hK hP m_340 (v := (iv 5 4)) rfl dX5_place_33 ?_
      have hn9 : ((iv 5 4) : Int32).toNatClampNeg ≤ 8 := by show ((((iv 5 4) : Int32).toInt).toNat : Nat) ≤ 8; omega
      refine va_copyi (D := (dC, dI)) (ty := .int) (f := (fa 5 1)) (g := (fa 5 3)) hx hb (hml.trans hl.1.symm) hown (ht _ m_1022) (ht _ m_1024) (ht _ m_1023) (ht _ m_95) hK hP hD hS 34 36 21 23 rfl rfl rfl rfl rfl (by decide) (by decide) (fun q9 => by have := Int32.lt_iff_toInt_lt.mp q9; have h0 : (0 : Int32).toInt = 0 := rfl; omega) (by show (0 : Nat) + _ ≤ 8; omega) (by show (0 : Nat) + _ ≤ 8; omega) (fun i hi => rfl) (Nat.le_of_ble_eq_true rfl) (by rw [nfw]; exact Nat.le_of_ble_eq_true rfl) dX5_place_36 (fun H locs hP hD hS => ?_)
      rw [aX_5_3] at hP hD
      obtain ⟨f94, ef94⟩ : ∃ f : Nat → Int32, f = va_cpy (fa 5 1) (fa 5 3) (0 : Int32).toNatClampNeg (0 : Int32).toNatClampNeg ((iv 5 4) : Int32).toNatClampNeg := ⟨_, rfl⟩
      rw [← ef94] at hP hD
      have hf94 : ∀ j, inb (bA 5 3 j) (f94 j) := fun j => full_i _
      have hP9 : va_P (dC, dI) classes (WX h g ca (u2 iv 5 5 q) lv (u2 (u2 (u2 fa 5 1 (fa 5 1)) 5 2 (fa 5 2)) 5 3 f94) la) H := hP
      have hD9 : va_D A (WX h g ca (u2 iv 5 5 q) lv (u2 (u2 (u2 fa 5 1 (fa 5 1)) 5 2 (fa 5 2)) 5 3 f94) la) := hD
      exact W.vret hx hb hr (fun t ht9 hW => ⟨⟨((u2 iv 5 5 q), lv, (u2 (u2 (u2 fa 5 1 (fa 5 1)) 5 2 (fa 5 2)) 5 3 f94), la), rfl, ⟨(fa 5 1), (fa 5 2), f94, q, (show ∀ x0 bw : Nat, OrP ((iv 5 4).toInt).toNat ((mm).toInt).toNat (fa 5 0) (fa 5 1) (fa 5 2) 7 x0 (q).toInt → OrB ((iv 5 4).toInt).toNat ((mm).toInt).toNat (fa 5 3) (iv 5 5).toInt bw → OrQ ((iv 5 4).toInt).toNat ((mm).toInt).toNat (fa 5 0) x0 bw (iv 5 5).toInt (((mm).toInt).toNat ^ (((iv 5 4).toInt).toNat - 7)) (q : Int32).toInt f94 from (fun x0 bw h1 h2 => Or_ql h1 (by omega) (by omega) (fun j hj => by rw [ef94]; exact Or_cpy (by decide) hj))), (show ∀ j : Nat, (fa 5 2) j = (fa 5 2) j from (fun j => rfl)), (show ∀ j : Nat, j < 7 → (fa 5 1) j = (fa 5 1) j from (fun j hj => rfl)), rfl⟩, by rw [ht9]; exact hP9, hD9⟩, hS.F ht9⟩) hS.2.2 dX5_place_39
  · have fc1 := z_nlt (rfl : (q).toInt = _) (rfl : ((iv 5 5)).toInt = _) c1
    have hP9 : va_P (dC, dI) classes (WX h g ca (u2 iv 5 5 (iv 5 5)) lv (u2 (u2 (u2 fa 5 1 (fa 5 1)) 5 2 (fa 5 2)) 5 3 (fa 5 3)) la) s.heap := hP
    have hD9 : va_D A (WX h g ca (u2 iv 5 5 (iv 5 5)) lv (u2 (u2 (u2 fa 5 1 (fa 5 1)) 5 2 (fa 5 2)) 5 3 (fa 5 3)) la) := hD
    exact W.vret hx hb hr (fun t ht9 hW => ⟨⟨((u2 iv 5 5 (iv 5 5)), lv, (u2 (u2 (u2 fa 5 1 (fa 5 1)) 5 2 (fa 5 2)) 5 3 (fa 5 3)), la), rfl, ⟨(fa 5 1), (fa 5 2), (fa 5 3), (iv 5 5), (show ∀ x0 bw : Nat, OrP ((iv 5 4).toInt).toNat ((mm).toInt).toNat (fa 5 0) (fa 5 1) (fa 5 2) 7 x0 (q).toInt → OrB ((iv 5 4).toInt).toNat ((mm).toInt).toNat (fa 5 3) (iv 5 5).toInt bw → OrQ ((iv 5 4).toInt).toNat ((mm).toInt).toNat (fa 5 0) x0 bw (iv 5 5).toInt (((mm).toInt).toNat ^ (((iv 5 4).toInt).toNat - 7)) ((iv 5 5) : Int32).toInt (fa 5 3) from (fun x0 bw h1 h2 => Or_qs h1 h2 (by omega))), (show ∀ j : Nat, (fa 5 2) j = (fa 5 2) j from (fun j => rfl)), (show ∀ j : Nat, j < 7 → (fa 5 1) j = (fa 5 1) j from (fun j hj => rfl)), rfl⟩, by rw [ht9]; exact hP9, hD9⟩, hS.F ht9⟩) hS.2.2 dX5_place_8
set_option maxHeartbeats 4000000 in
set_option maxRecDepth 100000 in
/-- X5_place -/
theorem c_X5_place_w6 (l : Launch) (dC : Nat → ClassId) (dI : Nat → Nat → Nat) (sz : Nat) (h : Nat) (g : Nat → Nat → Nat) (ca : Nat → Nat → ClassId) (iv : Nat → Nat → Int32) (lv : Nat → Nat → Int64) (fa : Nat → Nat → Nat → Int32) (la : Nat → Nat → Nat → Int64) (hI : IX iv fa) (mm : Int32) (q : Int32) (h_mm : 1 ≤ mm.toInt ∧ mm.toInt ≤ 3) : Met l yX5_place (wc yX5_place cX5_place 5 none) ({ frames := 3, cells := 0, slots := 0, locals := 108 } : Room) (pW (dC, dI) classes (WX h g ca iv lv fa la) (TX ca) sz [.ref (g 11 7), .int 6, .int mm, .int q]) (va_Qv (fun (u : SS) => ∃ (na_5_1 : Nat → Int32) (na_5_2 : Nat → Int32) (na_5_3 : Nat → Int32) (ni_5_5 : Int32), (∀ x0 bw : Nat, OrP ((iv 5 4).toInt).toNat (mm.toInt).toNat (fa 5 0) (fa 5 1) (fa 5 2) 6 x0 q.toInt → OrB ((iv 5 4).toInt).toNat (mm.toInt).toNat (fa 5 3) (iv 5 5).toInt bw → OrQ ((iv 5 4).toInt).toNat (mm.toInt).toNat (fa 5 0) x0 bw (iv 5 5).toInt ((mm.toInt).toNat ^ (((iv 5 4).toInt).toNat - 6)) (ni_5_5).toInt na_5_3) ∧ (∀ j : Nat, na_5_2 j = (fa 5 2) j) ∧ (∀ j : Nat, j < 6 → na_5_1 j = (fa 5 1) j) ∧ u = ((u2 iv 5 5 ni_5_5), lv, (u2 (u2 (u2 fa 5 1 na_5_1) 5 2 na_5_2) 5 3 na_5_3), la)) (bX (dC, dI) h g ca (va_A (WX h g ca iv lv fa la) sz)) (va_A (WX h g ca iv lv fa la) sz)) 0 0 (va_A (WX h g ca iv lv fa la) sz) := by
  refine Met.ofW (cc := cX5_place) (maxL := 5) (ret := none) (by decide) rfl ?_
  intro p e s m args below meth c s₁ B hml hv
  obtain ⟨rfl, hsz, hP, hK, hD0⟩ := hv
  have hx := B.exec
  have hb := B.bytes
  have hr := B.returns
  have ht := tb_tl (atoms_spec (ws := wc yX5_place cX5_place 5 none) B.pre)
  have hown : s.vm.findClass RX5 = some m.cls := findClass_of_methodNamed B.named
  have hlocks := B.notSynchronized
  subst hsz
  have hD := hD0.self (sz := s.heap.size)
  generalize hAe : va_A (WX h g ca iv lv fa la) s.heap.size = A at hD ⊢
  have hA : ∀ q : Nat, s.heap.size ≤ q → A q := fun q h => by rw [← hAe]; exact Or.inr h
  have hS : va_S A s.heap s.heap [] := va_S.rf
  have hl := lv_entry [.ref (g 11 7), .int 6, .int mm, .int q] (n := 5) (Nat.le_of_ble_eq_true rfl)
  rw [lg_entry_eq]
  generalize (lg_sl [.ref (g 11 7), .int 6, .int mm, .int q] ++ List.replicate (5 - (lg_sl [.ref (g 11 7), .int 6, .int mm, .int q]).length) Slot.unset).toArray = ls at hl ⊢
  have hl : lv_has ls 5 [(0, .ref (g 11 7)), (1, .int 6), (2, .int mm), (3, .int q)] := hl
  refine lv_iload_n hx hb dX5_place_0 rfl (lv_at hl 3 rfl) ?_
  refine lv_aload_n hx hb dX5_place_1 rfl (lv_at hl 0 rfl) ?_
  refine gX_5_5 hx hb ht hown hK hP m_342 (v := (iv 5 5)) rfl dX5_place_2 ?_
  refine lv_icmp_lt (tgt := 9) hx hb dX5_place_5 (by decide) (fun c1 => ?_) (fun c1 => ?_)
  · have fc1 := z_lt (rfl : (q).toInt = _) (rfl : ((iv 5 5)).toInt = _) c1
    refine lv_iload_n hx hb dX5_place_9 rfl (lv_at hl 1 rfl) ?_
    refine lv_aload_n hx hb dX5_place_10 rfl (lv_at hl 0 rfl) ?_
    have i_5_4 : 0 ≤ (iv 5 4).toInt ∧ (iv 5 4).toInt ≤ 8 := hI.1 5 4
    refine gX_5_4 hx hb ht hown hK hP m_340 (v := (iv 5 4)) rfl dX5_place_11 ?_
    refine lv_icmp_lt (tgt := 40) hx hb dX5_place_14 (by decide) (fun c2 => ?_) (fun c2 => ?_)
    · have fc2 := z_lt (by decide : (6 : Int32).toInt = 6) (rfl : ((iv 5 4)).toInt = _) c2
      refine lv_iconst (v := 0) hx hb dX5_place_40 (by decide) ?_
      refine lv_istore (lv' := [(4, .int 0), (0, .ref (g 11 7)), (1, .int 6), (2, .int mm), (3, .int q)]) hx hb dX5_place_41 hl (by decide) rfl (fun ls hl => ?_)
      have lp84 : ∀ (nn84 : Nat) (x83_4 : Int32) (w83_i_5_5 : Int32) (w83_a_5_1 : Nat → Int32) (w83_a_5_2 : Nat → Int32) (w83_a_5_3 : Nat → Int32), 0 ≤ x83_4.toInt ∧ x83_4.toInt ≤ 3 → (∀ j, inb (bA 5 1 j) (w83_a_5_1 j)) → (∀ j, inb (bA 5 2 j) (w83_a_5_2 j)) → (∀ j, inb (bA 5 3 j) (w83_a_5_3 j)) → (∀ x0 bw : Nat, OrP ((iv 5 4).toInt).toNat ((mm).toInt).toNat (fa 5 0) (fa 5 1) (fa 5 2) 6 x0 (q).toInt → OrB ((iv 5 4).toInt).toNat ((mm).toInt).toNat (fa 5 3) (iv 5 5).toInt bw → OrQ ((iv 5 4).toInt).toNat ((mm).toInt).toNat (fa 5 0) x0 bw (iv 5 5).toInt (((x83_4 : Int32).toInt).toNat * ((mm).toInt).toNat ^ (((iv 5 4).toInt).toNat - (6 + 1))) (w83_i_5_5 : Int32).toInt w83_a_5_3) → (∀ j : Nat, w83_a_5_2 j = fa 5 2 j) → (∀ j : Nat, j < 6 → w83_a_5_1 j = fa 5 1 j) → (x83_4 : Int32).toInt ≤ (mm).toInt → 3 - x83_4.toInt < (nn84 : Int) → ∀ (H : Heap) (locs : List Loc), ∀ (ls : Array Slot), va_P (dC, dI) classes (WX h g ca (u2 iv 5 5 w83_i_5_5) lv (u2 (u2 (u2 fa 5 1 w83_a_5_1) 5 2 w83_a_5_2) 5 3 w83_a_5_3) la) H → va_D A (WX h g ca (u2 iv 5 5 w83_i_5_5) lv (u2 (u2 (u2 fa 5 1 w83_a_5_1) 5 2 w83_a_5_2) 5 3 w83_a_5_3) la) → va_S A s.heap H locs → lv_has ls 5 [(4, .int x83_4), (0, .ref (g 11 7)), (1, .int 6), (2, .int mm), (3, .int q)] → W p l e ({ frames := 3, cells := 0, slots := 0, locals := 108 } : Room) s m ([.ref (g 11 7), .int 6, .int mm, .int q] : List Value).toArray below meth c H locs 0 0 (MQ below (va_Qv (fun (u : SS) => ∃ (na_5_1 : Nat → Int32) (na_5_2 : Nat → Int32) (na_5_3 : Nat → Int32) (ni_5_5 : Int32), (∀ x0 bw : Nat, OrP ((iv 5 4).toInt).toNat (mm.toInt).toNat (fa 5 0) (fa 5 1) (fa 5 2) 6 x0 q.toInt → OrB ((iv 5 4).toInt).toNat (mm.toInt).toNat (fa 5 3) (iv 5 5).toInt bw → OrQ ((iv 5 4).toInt).toNat (mm.toInt).toNat (fa 5 0) x0 bw (iv 5 5).toInt ((mm.toInt).toNat ^ (((iv 5 4).toInt).toNat - 6)) (ni_5_5).toInt na_5_3) ∧ (∀ j : Nat, na_5_2 j = (fa 5 2) j) ∧ (∀ j : Nat, j < 6 → na_5_1 j = (fa 5 1) j) ∧ u = ((u2 iv 5 5 ni_5_5), lv, (u2 (u2 (u2 fa 5 1 na_5_1) 5 2 na_5_2) 5 3 na_5_3), la)) (bX (dC, dI) h g ca A) A) ([.ref (g 11 7), .int 6, .int mm, .int q] : List Value).toArray s 0 0 A) (F0 m 43 ls []) := by
        intro nn84
        induction nn84 with
        | zero => intro x83_4 w83_i_5_5 w83_a_5_1 w83_a_5_2 w83_a_5_3 hx83_4 hw83_a_5_1 hw83_a_5_2 hw83_a_5_3 hq84_0 hq84_1 hq84_2 hq84_3 hm84; exfalso; omega
        | succ nn84 ih84 =>
          intro x83_4 w83_i_5_5 w83_a_5_1 w83_a_5_2 w83_a_5_3 hx83_4 hw83_a_5_1 hw83_a_5_2 hw83_a_5_3 hq84_0 hq84_1 hq84_2 hq84_3 hm84 H locs ls hP hD hS hl
          refine lv_iload hx hb dX5_place_43 (lv_at hl 0 rfl) ?_
          refine lv_iload_n hx hb dX5_place_45 rfl (lv_at hl 3 rfl) ?_
          refine lv_icmp_ge (tgt := 114) hx hb dX5_place_46 (by decide) (fun c85 => ?_) (fun c85 => ?_)
          · have fc85 := z_le (rfl : (mm).toInt = _) (rfl : (x83_4).toInt = _) c85
            have hP9 : va_P (dC, dI) classes (WX h g ca (u2 iv 5 5 w83_i_5_5) lv (u2 (u2 (u2 fa 5 1 w83_a_5_1) 5 2 w83_a_5_2) 5 3 w83_a_5_3) la) H := hP
            have hD9 : va_D A (WX h g ca (u2 iv 5 5 w83_i_5_5) lv (u2 (u2 (u2 fa 5 1 w83_a_5_1) 5 2 w83_a_5_2) 5 3 w83_a_5_3) la) := hD
            exact W.vret hx hb hr (fun t ht9 hW => ⟨⟨((u2 iv 5 5 w83_i_5_5), lv, (u2 (u2 (u2 fa 5 1 w83_a_5_1) 5 2 w83_a_5_2) 5 3 w83_a_5_3), la), rfl, ⟨w83_a_5_1, w83_a_5_2, w83_a_5_3, w83_i_5_5, (show ∀ x0 bw : Nat, OrP ((iv 5 4).toInt).toNat ((mm).toInt).toNat (fa 5 0) (fa 5 1) (fa 5 2) 6 x0 (q).toInt → OrB ((iv 5 4).toInt).toNat ((mm).toInt).toNat (fa 5 3) (iv 5 5).toInt bw → OrQ ((iv 5 4).toInt).toNat ((mm).toInt).toNat (fa 5 0) x0 bw (iv 5 5).toInt (((mm).toInt).toNat ^ (((iv 5 4).toInt).toNat - 6)) (w83_i_5_5 : Int32).toInt w83_a_5_3 from (fun x0 bw h1 h2 => by
                  have hq9 := hq84_0 x0 bw h1 h2
                  rw [show ((x83_4 : Int32).toInt).toNat = ((mm).toInt).toNat from by omega, Or_pw (by omega)] at hq9
                  exact hq9)), (show ∀ j : Nat, w83_a_5_2 j = (fa 5 2) j from hq84_1), (show ∀ j : Nat, j < 6 → w83_a_5_1 j = (fa 5 1) j from hq84_2), rfl⟩, by rw [ht9]; exact hP9, hD9⟩, hS.F ht9⟩) hS.2.2 dX5_place_114
          · have fc85 := z_nle (rfl : (mm).toInt = _) (rfl : (x83_4).toInt = _) c85
            refine lv_aload_n hx hb dX5_place_49 rfl (lv_at hl 1 rfl) ?_
            refine gX_5_1 hx hb ht hown hK hP m_336 dX5_place_50 ?_
            refine lv_iload_n hx hb dX5_place_53 rfl (lv_at hl 2 rfl) ?_
            refine lv_iload hx hb dX5_place_54 (lv_at hl 0 rfl) ?_
            refine tX_5_1 hx hb hK hP hD hS (f0 := w83_a_5_1) rfl (i := 6) (x := x83_4) (vp_in_iff.mpr (by decide)) dX5_place_56 (fun f86 ef86 H locs hP hD hS => ?_)
            have hf86 : ∀ j, inb (bA 5 1 j) (f86 j) := fun j => full_i _
            have hP : va_P (dC, dI) classes (WX h g ca (u2 iv 5 5 w83_i_5_5) lv (u2 (u2 (u2 fa 5 1 f86) 5 2 w83_a_5_2) 5 3 w83_a_5_3) la) H := hP
            have hD : va_D A (WX h g ca (u2 iv 5 5 w83_i_5_5) lv (u2 (u2 (u2 fa 5 1 f86) 5 2 w83_a_5_2) 5 3 w83_a_5_3) la) := hD
            refine lv_aload_n hx hb dX5_place_57 rfl (lv_at hl 1 rfl) ?_
            refine gX_5_2 hx hb ht hown hK hP m_337 dX5_place_58 ?_
            refine lv_iload hx hb dX5_place_61 (lv_at hl 0 rfl) ?_
            refine lv_dup2_11 hx hb dX5_place_63 rfl rfl ?_
            refine lX_5_2 hx hb hK hP (f := w83_a_5_2) rfl (vp_in_iff.mpr ⟨by omega, by omega⟩) dX5_place_64 ?_
            refine lv_topi (fun v87 ev87 => ?_)
            refine lv_aload_n hx hb dX5_place_65 rfl (lv_at hl 1 rfl) ?_
            refine gX_5_0 hx hb ht hown hK hP m_335 dX5_place_66 ?_
            refine lv_iload_n hx hb dX5_place_69 rfl (lv_at hl 2 rfl) ?_
            refine lX_5_0 hx hb hK hP (f := (fa 5 0)) rfl (vp_in_iff.mpr (by decide)) dX5_place_70 ?_
            refine lv_topi (fun v88 ev88 => ?_)
            refine lv_iadd hx hb dX5_place_71 ?_
            refine lv_topi (fun v89 ev89 => ?_)
            refine tX_5_2 hx hb hK hP hD hS (f0 := w83_a_5_2) rfl (i := x83_4) (x := v89) (vp_in_iff.mpr ⟨by omega, by omega⟩) dX5_place_72 (fun f90 ef90 H locs hP hD hS => ?_)
            have hf90 : ∀ j, inb (bA 5 2 j) (f90 j) := fun j => full_i _
            have hP : va_P (dC, dI) classes (WX h g ca (u2 iv 5 5 w83_i_5_5) lv (u2 (u2 (u2 fa 5 1 f86) 5 2 f90) 5 3 w83_a_5_3) la) H := hP
            have hD : va_D A (WX h g ca (u2 iv 5 5 w83_i_5_5) lv (u2 (u2 (u2 fa 5 1 f86) 5 2 f90) 5 3 w83_a_5_3) la) := hD
            refine lv_aload_n hx hb dX5_place_73 rfl (lv_at hl 1 rfl) ?_
            refine lv_iload_n hx hb dX5_place_74 rfl (lv_at hl 2 rfl) ?_
            refine lv_iconst (v := 1) hx hb dX5_place_75 (by decide) ?_
            refine lv_iadd hx hb dX5_place_76 ?_
            refine lv_topi (fun v91 ev91 => ?_)
            obtain rfl : 7 = v91 := (ev91.trans (by decide)).symm
            refine lv_iload_n hx hb dX5_place_77 rfl (lv_at hl 3 rfl) ?_
            refine lv_iload_n hx hb dX5_place_78 rfl (lv_at hl 4 rfl) ?_
            refine lv_aload_n hx hb dX5_place_79 rfl (lv_at hl 1 rfl) ?_
            refine gX_5_2 hx hb ht hown hK hP m_337 dX5_place_80 ?_
            refine lv_iload hx hb dX5_place_83 (lv_at hl 0 rfl) ?_
            refine lX_5_2 hx hb hK hP (f := f90) rfl (vp_in_iff.mpr ⟨by omega, by omega⟩) dX5_place_85 ?_
            refine lv_topi (fun v92 ev92 => ?_)
            refine va_mmax hx hb (hml.trans hl.1.symm) hown (ht _ m_1025) (ht _ m_558) (ht _ m_90) (ht _ m_559) (Nat.le_of_ble_eq_true rfl) (Nat.le_of_ble_eq_true rfl) (Nat.le_of_ble_eq_true rfl) (Nat.le_of_ble_eq_true rfl) dX5_place_86 ?_
            refine lv_topi (fun v93 ev93 => ?_)
            have tv93 := mm_or ev93
            have uv93 := mm_max ev93 (rfl : (q).toInt = _) (rfl : (v92).toInt = _)
            have hFc := free_all hD hS hA
            refine va_callv (va_runV (As := [.int 7, .int mm, .int v93]) (rest := []) ⟨hx, hb, hml, hown, ht⟩ (c_X5_place_w7 l dC dI H.size h g ca (u2 iv 5 5 w83_i_5_5) lv (u2 (u2 (u2 fa 5 1 f86) 5 2 f90) 5 3 w83_a_5_3) la (IX_a (c := 5) (k := 3) (IX_a (c := 5) (k := 2) (IX_a (c := 5) (k := 1) (IX_i (c := 5) (k := 5) hI (full_i _)) hf86) hf90) hw83_a_5_3) mm v93 ⟨by omega, by omega⟩) (kV 3 ht m_1018 m_1020 m_41 m_86 m_1021 rfl rfl hd_X5_place_v ⟨Nat.le_of_ble_eq_true rfl, Nat.le_of_ble_eq_true rfl⟩) (vW hP hK hD (rX_5 hK hP)) rfl rfl hl.1 rfl (lv_room (Nat.le_of_ble_eq_true rfl)) dX5_place_89 ⟨Nat.le_of_ble_eq_true rfl, Nat.le_of_ble_eq_true rfl⟩) hS (fun q _ h => hFc q h) hFc (fun u t H1 locs ht9 hvm hr94 hB hz1 hk1 hS => ?_)
            obtain ⟨n95, n96, n97, n98, xr94_0, xr94_1, xr94_2, rfl⟩ := hr94
            have hn95 : ∀ j, inb (bA 5 1 j) (n95 j) := fun j => full_i _
            have hn96 : ∀ j, inb (bA 5 2 j) (n96 j) := fun j => full_i _
            have hn97 : ∀ j, inb (bA 5 3 j) (n97 j) := fun j => full_i _
            obtain ⟨hP, hD⟩ := hB
            rw [ht9] at hP
            generalize H1 = H at hP hS ⊢
            have hP : va_P (dC, dI) classes (WX h g ca (u2 iv 5 5 n98) lv (u2 (u2 (u2 fa 5 1 n95) 5 2 n96) 5 3 n97) la) H := hP
            have hD : va_D A (WX h g ca (u2 iv 5 5 n98) lv (u2 (u2 (u2 fa 5 1 n95) 5 2 n96) 5 3 n97) la) := (show va_D _ (WX h g ca (u2 iv 5 5 n98) lv (u2 (u2 (u2 fa 5 1 n95) 5 2 n96) 5 3 n97) la) from hD).weaken (fun _ _ _ h => hFc _ h)
            have xr94_0 : ∀ x0 bw : Nat, OrP (((iv 5 4) : Int32).toInt).toNat ((mm : Int32).toInt).toNat (fa 5 0) f86 f90 7 x0 (v93 : Int32).toInt → OrB (((iv 5 4) : Int32).toInt).toNat ((mm : Int32).toInt).toNat w83_a_5_3 (w83_i_5_5 : Int32).toInt bw → OrQ (((iv 5 4) : Int32).toInt).toNat ((mm : Int32).toInt).toNat (fa 5 0) x0 bw (w83_i_5_5 : Int32).toInt (((mm : Int32).toInt).toNat ^ ((((iv 5 4) : Int32).toInt).toNat - 7)) (n98 : Int32).toInt n97 := xr94_0
            have xr94_1 : ∀ j : Nat, n96 j = f90 j := xr94_1
            have xr94_2 : ∀ j : Nat, j < 7 → n95 j = f86 j := xr94_2
            refine lv_aload_n hx hb dX5_place_92 rfl (lv_at hl 1 rfl) ?_
            refine gX_5_2 hx hb ht hown hK hP m_337 dX5_place_93 ?_
            refine lv_iload hx hb dX5_place_96 (lv_at hl 0 rfl) ?_
            refine lv_dup2_11 hx hb dX5_place_98 rfl rfl ?_
            refine lX_5_2 hx hb hK hP (f := n96) rfl (vp_in_iff.mpr ⟨by omega, by omega⟩) dX5_place_99 ?_
            refine lv_topi (fun v99 ev99 => ?_)
            refine lv_aload_n hx hb dX5_place_100 rfl (lv_at hl 1 rfl) ?_
            refine gX_5_0 hx hb ht hown hK hP m_335 dX5_place_101 ?_
            refine lv_iload_n hx hb dX5_place_104 rfl (lv_at hl 2 rfl) ?_
            refine lX_5_0 hx hb hK hP (f := (fa 5 0)) rfl (vp_in_iff.mpr (by decide)) dX5_place_105 ?_
            refine lv_topi (fun v100 ev100 => ?_)
            obtain rfl : v88 = v100 := ev88.trans ev100.symm
            refine lv_isub hx hb dX5_place_106 ?_
            refine lv_topi (fun v101 ev101 => ?_)
            refine tX_5_2 hx hb hK hP hD hS (f0 := n96) rfl (i := x83_4) (x := v101) (vp_in_iff.mpr ⟨by omega, by omega⟩) dX5_place_107 (fun f102 ef102 H locs hP hD hS => ?_)
            have hf102 : ∀ j, inb (bA 5 2 j) (f102 j) := fun j => full_i _
            have hP : va_P (dC, dI) classes (WX h g ca (u2 iv 5 5 n98) lv (u2 (u2 (u2 fa 5 1 n95) 5 2 f102) 5 3 n97) la) H := hP
            have hD : va_D A (WX h g ca (u2 iv 5 5 n98) lv (u2 (u2 (u2 fa 5 1 n95) 5 2 f102) 5 3 n97) la) := hD
            obtain ⟨v103, ev103⟩ : ∃ y : Int32, y = x83_4 + 1 := ⟨_, rfl⟩
            have tv103 := z_add ev103 rfl (by decide : (1 : Int32).toInt = 1) (by omega) (by omega)
            refine lv_iinc (v := v103) (lv' := [(4, .int v103), (0, .ref (g 11 7)), (1, .int 6), (2, .int mm), (3, .int q)]) hx hb dX5_place_108 hl (k := 0) rfl (by rw [ev103]; rfl) (by decide) rfl (fun ls hl => ?_)
            refine lv_goto (tgt := 43) hx hb dX5_place_111 (by decide) ?_
            exact ih84 v103 n98 n95 f102 n97 ⟨by omega, by omega⟩ hn95 hf102 hn97 (show ∀ x0 bw : Nat, OrP ((iv 5 4).toInt).toNat ((mm).toInt).toNat (fa 5 0) (fa 5 1) (fa 5 2) 6 x0 (q).toInt → OrB ((iv 5 4).toInt).toNat ((mm).toInt).toNat (fa 5 3) (iv 5 5).toInt bw → OrQ ((iv 5 4).toInt).toNat ((mm).toInt).toNat (fa 5 0) x0 bw (iv 5 5).toInt (((v103 : Int32).toInt).toNat * ((mm).toInt).toNat ^ (((iv 5 4).toInt).toNat - (6 + 1))) (n98 : Int32).toInt n97 from (fun x0 bw h1 h2 => by
                  have z9 : (6 : Int32).toNatClampNeg = 6 := (by decide)
                  have hl9 : (x83_4 : Int32).toNatClampNeg = ((x83_4 : Int32).toInt).toNat := rfl
                  have ht1 : ∀ j : Nat, j < 6 → f86 j = fa 5 1 j := fun j hj => by rw [ef86, z9, upd_ne (by omega : j ≠ 6)]; exact hq84_2 j hj
                  have hv1 : v87 = fa 5 2 ((x83_4 : Int32).toInt).toNat := (show v87 = w83_a_5_2 ((x83_4 : Int32).toInt).toNat from ev87).trans (hq84_1 _)
                  have hv2 : v88 = fa 5 0 6 := (show v88 = fa 5 0 ((6 : Int32).toNatClampNeg) from ev88).trans (by rw [z9])
                  have he1 : f90 ((x83_4 : Int32).toInt).toNat = v89 := by rw [ef90, hl9]; exact upd_eq
                  have he2 : ∀ j : Nat, j ≠ ((x83_4 : Int32).toInt).toNat → f90 j = fa 5 2 j := fun j hj => by rw [ef90, hl9, upd_ne hj]; exact hq84_1 j
                  have hs9 : ((v103 : Int32).toInt).toNat = ((x83_4 : Int32).toInt).toNat + 1 := by omega
                  have hq9 := hq84_0 x0 bw h1 h2
                  have ht2 : f86 6 = x83_4 := by rw [ef86, z9]; exact upd_eq
                  have ht3 : (f86 6).toInt = ((((x83_4 : Int32).toInt).toNat : Nat) : Int) := by rw [ht2]; omega
                  have hv5 := congrArg Int32.toInt (show v92 = f90 ((x83_4 : Int32).toInt).toNat from ev92)
                  have hd9 : OrP ((iv 5 4).toInt).toNat ((mm).toInt).toNat (fa 5 0) f86 f90 7 (x0 + ((x83_4 : Int32).toInt).toNat * ((mm).toInt).toNat ^ (((iv 5 4).toInt).toNat - (6 + 1))) (v93 : Int32).toInt := Or_dn h1 (by omega) (by omega) ht1 ht3 (fun j _ hj => he2 j hj) (he1.trans (ev89.trans (by rw [hv1, hv2]))) (by omega) (by omega) (by omega)
                  exact Or_st hs9 hq9 (xr94_0 _ _ hd9 hq9.2))) (show ∀ j : Nat, f102 j = fa 5 2 j from (fun j => by
                  have z9 : (6 : Int32).toNatClampNeg = 6 := (by decide)
                  have hl9 : (x83_4 : Int32).toNatClampNeg = ((x83_4 : Int32).toInt).toNat := rfl
                  have ht1 : ∀ j : Nat, j < 6 → f86 j = fa 5 1 j := fun j hj => by rw [ef86, z9, upd_ne (by omega : j ≠ 6)]; exact hq84_2 j hj
                  have hv1 : v87 = fa 5 2 ((x83_4 : Int32).toInt).toNat := (show v87 = w83_a_5_2 ((x83_4 : Int32).toInt).toNat from ev87).trans (hq84_1 _)
                  have hv2 : v88 = fa 5 0 6 := (show v88 = fa 5 0 ((6 : Int32).toNatClampNeg) from ev88).trans (by rw [z9])
                  have he1 : f90 ((x83_4 : Int32).toInt).toNat = v89 := by rw [ef90, hl9]; exact upd_eq
                  have he2 : ∀ j : Nat, j ≠ ((x83_4 : Int32).toInt).toNat → f90 j = fa 5 2 j := fun j hj => by rw [ef90, hl9, upd_ne hj]; exact hq84_1 j
                  have hv4 : v99 = v89 := (show v99 = n96 ((x83_4 : Int32).toInt).toNat from ev99).trans ((xr94_1 _).trans he1)
                  by_cases hj : j = ((x83_4 : Int32).toInt).toNat
                  · have hx9 : f102 ((x83_4 : Int32).toInt).toNat = v101 := by rw [ef102, hl9]; exact upd_eq
                    rw [hj, hx9, ev101, hv4, ev89, Int32.add_sub_cancel]
                    exact hv1
                  · rw [ef102, hl9, upd_ne hj, xr94_1 j]; exact he2 j hj)) (show ∀ j : Nat, j < 6 → n95 j = fa 5 1 j from (fun j hj => by
                  have z9 : (6 : Int32).toNatClampNeg = 6 := (by decide)
                  have hl9 : (x83_4 : Int32).toNatClampNeg = ((x83_4 : Int32).toInt).toNat := rfl
                  have ht1 : ∀ j : Nat, j < 6 → f86 j = fa 5 1 j := fun j hj => by rw [ef86, z9, upd_ne (by omega : j ≠ 6)]; exact hq84_2 j hj
                  have hv1 : v87 = fa 5 2 ((x83_4 : Int32).toInt).toNat := (show v87 = w83_a_5_2 ((x83_4 : Int32).toInt).toNat from ev87).trans (hq84_1 _)
                  have hv2 : v88 = fa 5 0 6 := (show v88 = fa 5 0 ((6 : Int32).toNatClampNeg) from ev88).trans (by rw [z9])
                  have he1 : f90 ((x83_4 : Int32).toInt).toNat = v89 := by rw [ef90, hl9]; exact upd_eq
                  have he2 : ∀ j : Nat, j ≠ ((x83_4 : Int32).toInt).toNat → f90 j = fa 5 2 j := fun j hj => by rw [ef90, hl9, upd_ne hj]; exact hq84_1 j
                  rw [xr94_2 j (by omega)]; exact ht1 j hj)) (show (v103 : Int32).toInt ≤ (mm).toInt from by omega) (by omega) _ _ ls hP hD hS (lv_sub hl [0, 1, 2, 3, 4] rfl)
      have : (0 : Int32).toInt = 0 := (by decide)
      exact lp84 4 0 (iv 5 5) (fa 5 1) (fa 5 2) (fa 5 3) ⟨by decide, by decide⟩ (hI.2 5 1) (hI.2 5 2) (hI.2 5 3) (show ∀ x0 bw : Nat, OrP ((iv 5 4).toInt).toNat ((mm).toInt).toNat (fa 5 0) (fa 5 1) (fa 5 2) 6 x0 (q).toInt → OrB ((iv 5 4).toInt).toNat ((mm).toInt).toNat (fa 5 3) (iv 5 5).toInt bw → OrQ ((iv 5 4).toInt).toNat ((mm).toInt).toNat (fa 5 0) x0 bw (iv 5 5).toInt (((0 : Int32).toInt).toNat * ((mm).toInt).toNat ^ (((iv 5 4).toInt).toNat - (6 + 1))) ((iv 5 5) : Int32).toInt (fa 5 3) from (fun x0 bw h1 h2 => by
            have hz : ((0 : Int32).toInt).toNat = 0 := (by decide)
            rw [hz, Nat.zero_mul]
            exact Or_q0 h2)) (show ∀ j : Nat, (fa 5 2) j = fa 5 2 j from (fun j => rfl)) (show ∀ j : Nat, j < 6 → (fa 5 1) j = fa 5 1 j from (fun j hj => rfl)) (show (0 : Int32).toInt ≤ (mm).toInt from by omega) (by first | decide | omega) _ _ ls hP hD hS (lv_sub hl [0, 1, 2, 3, 4] rfl)
    · have fc2 := z_nlt (by decide : (6 : Int32).toInt = 6) (rfl : ((iv 5 4)).toInt = _) c2
      refine lv_aload_n hx hb dX5_place_17 rfl (lv_at hl 0 rfl) ?_
      refine lv_iload_n hx hb dX5_place_18 rfl (lv_at hl 3 rfl) ?_
      refine pX_5_5 (v := q) hx hb ht hown hK hP hD hS m_342 dX5_place_19 (fun H locs hP hD hS => ?_)
      refine lv_aload_n hx hb dX5_place_22 rfl (lv_at hl 0 rfl) ?_
      refine gX_5_1 hx hb ht hown hK hP m_336 dX5_place_23 ?_
      refine lv_iconst (v := 0) hx hb dX5_place_26 (by decide) ?_
      refine lv_aload_n hx hb dX5_place_27 rfl (lv_at hl 0 rfl) ?_
      refine gX_5_3 hx hb ht hown hK hP m_338 dX5_place_28 ?_
      refine lv_iconst (v := 0) hx hb dX5_place_31 (by decide) ?_
      refine lv_aload_n hx hb dX5_place_32 rfl (lv_at hl 0 rfl) ?_
      refine gX_5_4 hx hb ht hown hK hP m_340 (v := (iv 5 4)) rfl dX5_place_33 ?_
      have hn9 : ((iv 5 4) : Int32).toNatClampNeg ≤ 8 := by show ((((iv 5 4) : Int32).toInt).toNat : Nat) ≤ 8; omega
      refine va_copyi (D := (dC, dI)) (ty := .int) (f := (fa 5 1)) (g := (fa 5 3)) hx hb (hml.trans hl.1.symm) hown (ht _ m_1022) (ht _ m_1024) (ht _ m_1023) (ht _ m_95) hK hP hD hS 34 36 21 23 rfl rfl rfl rfl rfl (by decide) (by decide) (fun q9 => by have := Int32.lt_iff_toInt_lt.mp q9; have h0 : (0 : Int32).toInt = 0 := rfl; omega) (by show (0 : Nat) + _ ≤ 8; omega) (by show (0 : Nat) + _ ≤ 8; omega) (fun i hi => rfl) (Nat.le_of_ble_eq_true rfl) (by rw [nfw]; exact Nat.le_of_ble_eq_true rfl) dX5_place_36 (fun H locs hP hD hS => ?_)
      rw [aX_5_3] at hP hD
      obtain ⟨f104, ef104⟩ : ∃ f : Nat → Int32, f = va_cpy (fa 5 1) (fa 5 3) (0 : Int32).toNatClampNeg (0 : Int32).toNatClampNeg ((iv 5 4) : Int32).toNatClampNeg := ⟨_, rfl⟩
      rw [← ef104] at hP hD
      have hf104 : ∀ j, inb (bA 5 3 j) (f104 j) := fun j => full_i _
      have hP9 : va_P (dC, dI) classes (WX h g ca (u2 iv 5 5 q) lv (u2 (u2 (u2 fa 5 1 (fa 5 1)) 5 2 (fa 5 2)) 5 3 f104) la) H := hP
      have hD9 : va_D A (WX h g ca (u2 iv 5 5 q) lv (u2 (u2 (u2 fa 5 1 (fa 5 1)) 5 2 (fa 5 2)) 5 3 f104) la) := hD
      exact W.vret hx hb hr (fun t ht9 hW => ⟨⟨((u2 iv 5 5 q), lv, (u2 (u2 (u2 fa 5 1 (fa 5 1)) 5 2 (fa 5 2)) 5 3 f104), la), rfl, ⟨(fa 5 1), (fa 5 2), f104, q, (show ∀ x0 bw : Nat, OrP ((iv 5 4).toInt).toNat ((mm).toInt).toNat (fa 5 0) (fa 5 1) (fa 5 2) 6 x0 (q).toInt → OrB ((iv 5 4).toInt).toNat ((mm).toInt).toNat (fa 5 3) (iv 5 5).toInt bw → OrQ ((iv 5 4).toInt).toNat ((mm).toInt).toNat (fa 5 0) x0 bw (iv 5 5).toInt (((mm).toInt).toNat ^ (((iv 5 4).toInt).toNat - 6)) (q : Int32).toInt f104 from (fun x0 bw h1 h2 => Or_ql h1 (by omega) (by omega) (fun j hj => by rw [ef104]; exact Or_cpy (by decide) hj))), (show ∀ j : Nat, (fa 5 2) j = (fa 5 2) j from (fun j => rfl)), (show ∀ j : Nat, j < 6 → (fa 5 1) j = (fa 5 1) j from (fun j hj => rfl)), rfl⟩, by rw [ht9]; exact hP9, hD9⟩, hS.F ht9⟩) hS.2.2 dX5_place_39
  · have fc1 := z_nlt (rfl : (q).toInt = _) (rfl : ((iv 5 5)).toInt = _) c1
    have hP9 : va_P (dC, dI) classes (WX h g ca (u2 iv 5 5 (iv 5 5)) lv (u2 (u2 (u2 fa 5 1 (fa 5 1)) 5 2 (fa 5 2)) 5 3 (fa 5 3)) la) s.heap := hP
    have hD9 : va_D A (WX h g ca (u2 iv 5 5 (iv 5 5)) lv (u2 (u2 (u2 fa 5 1 (fa 5 1)) 5 2 (fa 5 2)) 5 3 (fa 5 3)) la) := hD
    exact W.vret hx hb hr (fun t ht9 hW => ⟨⟨((u2 iv 5 5 (iv 5 5)), lv, (u2 (u2 (u2 fa 5 1 (fa 5 1)) 5 2 (fa 5 2)) 5 3 (fa 5 3)), la), rfl, ⟨(fa 5 1), (fa 5 2), (fa 5 3), (iv 5 5), (show ∀ x0 bw : Nat, OrP ((iv 5 4).toInt).toNat ((mm).toInt).toNat (fa 5 0) (fa 5 1) (fa 5 2) 6 x0 (q).toInt → OrB ((iv 5 4).toInt).toNat ((mm).toInt).toNat (fa 5 3) (iv 5 5).toInt bw → OrQ ((iv 5 4).toInt).toNat ((mm).toInt).toNat (fa 5 0) x0 bw (iv 5 5).toInt (((mm).toInt).toNat ^ (((iv 5 4).toInt).toNat - 6)) ((iv 5 5) : Int32).toInt (fa 5 3) from (fun x0 bw h1 h2 => Or_qs h1 h2 (by omega))), (show ∀ j : Nat, (fa 5 2) j = (fa 5 2) j from (fun j => rfl)), (show ∀ j : Nat, j < 6 → (fa 5 1) j = (fa 5 1) j from (fun j hj => rfl)), rfl⟩, by rw [ht9]; exact hP9, hD9⟩, hS.F ht9⟩) hS.2.2 dX5_place_8
set_option maxHeartbeats 4000000 in
set_option maxRecDepth 100000 in
/-- X5_place -/
theorem c_X5_place_w5 (l : Launch) (dC : Nat → ClassId) (dI : Nat → Nat → Nat) (sz : Nat) (h : Nat) (g : Nat → Nat → Nat) (ca : Nat → Nat → ClassId) (iv : Nat → Nat → Int32) (lv : Nat → Nat → Int64) (fa : Nat → Nat → Nat → Int32) (la : Nat → Nat → Nat → Int64) (hI : IX iv fa) (mm : Int32) (q : Int32) (h_mm : 1 ≤ mm.toInt ∧ mm.toInt ≤ 3) : Met l yX5_place (wc yX5_place cX5_place 5 none) ({ frames := 4, cells := 0, slots := 0, locals := 132 } : Room) (pW (dC, dI) classes (WX h g ca iv lv fa la) (TX ca) sz [.ref (g 11 7), .int 5, .int mm, .int q]) (va_Qv (fun (u : SS) => ∃ (na_5_1 : Nat → Int32) (na_5_2 : Nat → Int32) (na_5_3 : Nat → Int32) (ni_5_5 : Int32), (∀ x0 bw : Nat, OrP ((iv 5 4).toInt).toNat (mm.toInt).toNat (fa 5 0) (fa 5 1) (fa 5 2) 5 x0 q.toInt → OrB ((iv 5 4).toInt).toNat (mm.toInt).toNat (fa 5 3) (iv 5 5).toInt bw → OrQ ((iv 5 4).toInt).toNat (mm.toInt).toNat (fa 5 0) x0 bw (iv 5 5).toInt ((mm.toInt).toNat ^ (((iv 5 4).toInt).toNat - 5)) (ni_5_5).toInt na_5_3) ∧ (∀ j : Nat, na_5_2 j = (fa 5 2) j) ∧ (∀ j : Nat, j < 5 → na_5_1 j = (fa 5 1) j) ∧ u = ((u2 iv 5 5 ni_5_5), lv, (u2 (u2 (u2 fa 5 1 na_5_1) 5 2 na_5_2) 5 3 na_5_3), la)) (bX (dC, dI) h g ca (va_A (WX h g ca iv lv fa la) sz)) (va_A (WX h g ca iv lv fa la) sz)) 0 0 (va_A (WX h g ca iv lv fa la) sz) := by
  refine Met.ofW (cc := cX5_place) (maxL := 5) (ret := none) (by decide) rfl ?_
  intro p e s m args below meth c s₁ B hml hv
  obtain ⟨rfl, hsz, hP, hK, hD0⟩ := hv
  have hx := B.exec
  have hb := B.bytes
  have hr := B.returns
  have ht := tb_tl (atoms_spec (ws := wc yX5_place cX5_place 5 none) B.pre)
  have hown : s.vm.findClass RX5 = some m.cls := findClass_of_methodNamed B.named
  have hlocks := B.notSynchronized
  subst hsz
  have hD := hD0.self (sz := s.heap.size)
  generalize hAe : va_A (WX h g ca iv lv fa la) s.heap.size = A at hD ⊢
  have hA : ∀ q : Nat, s.heap.size ≤ q → A q := fun q h => by rw [← hAe]; exact Or.inr h
  have hS : va_S A s.heap s.heap [] := va_S.rf
  have hl := lv_entry [.ref (g 11 7), .int 5, .int mm, .int q] (n := 5) (Nat.le_of_ble_eq_true rfl)
  rw [lg_entry_eq]
  generalize (lg_sl [.ref (g 11 7), .int 5, .int mm, .int q] ++ List.replicate (5 - (lg_sl [.ref (g 11 7), .int 5, .int mm, .int q]).length) Slot.unset).toArray = ls at hl ⊢
  have hl : lv_has ls 5 [(0, .ref (g 11 7)), (1, .int 5), (2, .int mm), (3, .int q)] := hl
  refine lv_iload_n hx hb dX5_place_0 rfl (lv_at hl 3 rfl) ?_
  refine lv_aload_n hx hb dX5_place_1 rfl (lv_at hl 0 rfl) ?_
  refine gX_5_5 hx hb ht hown hK hP m_342 (v := (iv 5 5)) rfl dX5_place_2 ?_
  refine lv_icmp_lt (tgt := 9) hx hb dX5_place_5 (by decide) (fun c1 => ?_) (fun c1 => ?_)
  · have fc1 := z_lt (rfl : (q).toInt = _) (rfl : ((iv 5 5)).toInt = _) c1
    refine lv_iload_n hx hb dX5_place_9 rfl (lv_at hl 1 rfl) ?_
    refine lv_aload_n hx hb dX5_place_10 rfl (lv_at hl 0 rfl) ?_
    have i_5_4 : 0 ≤ (iv 5 4).toInt ∧ (iv 5 4).toInt ≤ 8 := hI.1 5 4
    refine gX_5_4 hx hb ht hown hK hP m_340 (v := (iv 5 4)) rfl dX5_place_11 ?_
    refine lv_icmp_lt (tgt := 40) hx hb dX5_place_14 (by decide) (fun c2 => ?_) (fun c2 => ?_)
    · have fc2 := z_lt (by decide : (5 : Int32).toInt = 5) (rfl : ((iv 5 4)).toInt = _) c2
      refine lv_iconst (v := 0) hx hb dX5_place_40 (by decide) ?_
      refine lv_istore (lv' := [(4, .int 0), (0, .ref (g 11 7)), (1, .int 5), (2, .int mm), (3, .int q)]) hx hb dX5_place_41 hl (by decide) rfl (fun ls hl => ?_)
      have lp84 : ∀ (nn84 : Nat) (x83_4 : Int32) (w83_i_5_5 : Int32) (w83_a_5_1 : Nat → Int32) (w83_a_5_2 : Nat → Int32) (w83_a_5_3 : Nat → Int32), 0 ≤ x83_4.toInt ∧ x83_4.toInt ≤ 3 → (∀ j, inb (bA 5 1 j) (w83_a_5_1 j)) → (∀ j, inb (bA 5 2 j) (w83_a_5_2 j)) → (∀ j, inb (bA 5 3 j) (w83_a_5_3 j)) → (∀ x0 bw : Nat, OrP ((iv 5 4).toInt).toNat ((mm).toInt).toNat (fa 5 0) (fa 5 1) (fa 5 2) 5 x0 (q).toInt → OrB ((iv 5 4).toInt).toNat ((mm).toInt).toNat (fa 5 3) (iv 5 5).toInt bw → OrQ ((iv 5 4).toInt).toNat ((mm).toInt).toNat (fa 5 0) x0 bw (iv 5 5).toInt (((x83_4 : Int32).toInt).toNat * ((mm).toInt).toNat ^ (((iv 5 4).toInt).toNat - (5 + 1))) (w83_i_5_5 : Int32).toInt w83_a_5_3) → (∀ j : Nat, w83_a_5_2 j = fa 5 2 j) → (∀ j : Nat, j < 5 → w83_a_5_1 j = fa 5 1 j) → (x83_4 : Int32).toInt ≤ (mm).toInt → 3 - x83_4.toInt < (nn84 : Int) → ∀ (H : Heap) (locs : List Loc), ∀ (ls : Array Slot), va_P (dC, dI) classes (WX h g ca (u2 iv 5 5 w83_i_5_5) lv (u2 (u2 (u2 fa 5 1 w83_a_5_1) 5 2 w83_a_5_2) 5 3 w83_a_5_3) la) H → va_D A (WX h g ca (u2 iv 5 5 w83_i_5_5) lv (u2 (u2 (u2 fa 5 1 w83_a_5_1) 5 2 w83_a_5_2) 5 3 w83_a_5_3) la) → va_S A s.heap H locs → lv_has ls 5 [(4, .int x83_4), (0, .ref (g 11 7)), (1, .int 5), (2, .int mm), (3, .int q)] → W p l e ({ frames := 4, cells := 0, slots := 0, locals := 132 } : Room) s m ([.ref (g 11 7), .int 5, .int mm, .int q] : List Value).toArray below meth c H locs 0 0 (MQ below (va_Qv (fun (u : SS) => ∃ (na_5_1 : Nat → Int32) (na_5_2 : Nat → Int32) (na_5_3 : Nat → Int32) (ni_5_5 : Int32), (∀ x0 bw : Nat, OrP ((iv 5 4).toInt).toNat (mm.toInt).toNat (fa 5 0) (fa 5 1) (fa 5 2) 5 x0 q.toInt → OrB ((iv 5 4).toInt).toNat (mm.toInt).toNat (fa 5 3) (iv 5 5).toInt bw → OrQ ((iv 5 4).toInt).toNat (mm.toInt).toNat (fa 5 0) x0 bw (iv 5 5).toInt ((mm.toInt).toNat ^ (((iv 5 4).toInt).toNat - 5)) (ni_5_5).toInt na_5_3) ∧ (∀ j : Nat, na_5_2 j = (fa 5 2) j) ∧ (∀ j : Nat, j < 5 → na_5_1 j = (fa 5 1) j) ∧ u = ((u2 iv 5 5 ni_5_5), lv, (u2 (u2 (u2 fa 5 1 na_5_1) 5 2 na_5_2) 5 3 na_5_3), la)) (bX (dC, dI) h g ca A) A) ([.ref (g 11 7), .int 5, .int mm, .int q] : List Value).toArray s 0 0 A) (F0 m 43 ls []) := by
        intro nn84
        induction nn84 with
        | zero => intro x83_4 w83_i_5_5 w83_a_5_1 w83_a_5_2 w83_a_5_3 hx83_4 hw83_a_5_1 hw83_a_5_2 hw83_a_5_3 hq84_0 hq84_1 hq84_2 hq84_3 hm84; exfalso; omega
        | succ nn84 ih84 =>
          intro x83_4 w83_i_5_5 w83_a_5_1 w83_a_5_2 w83_a_5_3 hx83_4 hw83_a_5_1 hw83_a_5_2 hw83_a_5_3 hq84_0 hq84_1 hq84_2 hq84_3 hm84 H locs ls hP hD hS hl
          refine lv_iload hx hb dX5_place_43 (lv_at hl 0 rfl) ?_
          refine lv_iload_n hx hb dX5_place_45 rfl (lv_at hl 3 rfl) ?_
          refine lv_icmp_ge (tgt := 114) hx hb dX5_place_46 (by decide) (fun c85 => ?_) (fun c85 => ?_)
          · have fc85 := z_le (rfl : (mm).toInt = _) (rfl : (x83_4).toInt = _) c85
            have hP9 : va_P (dC, dI) classes (WX h g ca (u2 iv 5 5 w83_i_5_5) lv (u2 (u2 (u2 fa 5 1 w83_a_5_1) 5 2 w83_a_5_2) 5 3 w83_a_5_3) la) H := hP
            have hD9 : va_D A (WX h g ca (u2 iv 5 5 w83_i_5_5) lv (u2 (u2 (u2 fa 5 1 w83_a_5_1) 5 2 w83_a_5_2) 5 3 w83_a_5_3) la) := hD
            exact W.vret hx hb hr (fun t ht9 hW => ⟨⟨((u2 iv 5 5 w83_i_5_5), lv, (u2 (u2 (u2 fa 5 1 w83_a_5_1) 5 2 w83_a_5_2) 5 3 w83_a_5_3), la), rfl, ⟨w83_a_5_1, w83_a_5_2, w83_a_5_3, w83_i_5_5, (show ∀ x0 bw : Nat, OrP ((iv 5 4).toInt).toNat ((mm).toInt).toNat (fa 5 0) (fa 5 1) (fa 5 2) 5 x0 (q).toInt → OrB ((iv 5 4).toInt).toNat ((mm).toInt).toNat (fa 5 3) (iv 5 5).toInt bw → OrQ ((iv 5 4).toInt).toNat ((mm).toInt).toNat (fa 5 0) x0 bw (iv 5 5).toInt (((mm).toInt).toNat ^ (((iv 5 4).toInt).toNat - 5)) (w83_i_5_5 : Int32).toInt w83_a_5_3 from (fun x0 bw h1 h2 => by
                  have hq9 := hq84_0 x0 bw h1 h2
                  rw [show ((x83_4 : Int32).toInt).toNat = ((mm).toInt).toNat from by omega, Or_pw (by omega)] at hq9
                  exact hq9)), (show ∀ j : Nat, w83_a_5_2 j = (fa 5 2) j from hq84_1), (show ∀ j : Nat, j < 5 → w83_a_5_1 j = (fa 5 1) j from hq84_2), rfl⟩, by rw [ht9]; exact hP9, hD9⟩, hS.F ht9⟩) hS.2.2 dX5_place_114
          · have fc85 := z_nle (rfl : (mm).toInt = _) (rfl : (x83_4).toInt = _) c85
            refine lv_aload_n hx hb dX5_place_49 rfl (lv_at hl 1 rfl) ?_
            refine gX_5_1 hx hb ht hown hK hP m_336 dX5_place_50 ?_
            refine lv_iload_n hx hb dX5_place_53 rfl (lv_at hl 2 rfl) ?_
            refine lv_iload hx hb dX5_place_54 (lv_at hl 0 rfl) ?_
            refine tX_5_1 hx hb hK hP hD hS (f0 := w83_a_5_1) rfl (i := 5) (x := x83_4) (vp_in_iff.mpr (by decide)) dX5_place_56 (fun f86 ef86 H locs hP hD hS => ?_)
            have hf86 : ∀ j, inb (bA 5 1 j) (f86 j) := fun j => full_i _
            have hP : va_P (dC, dI) classes (WX h g ca (u2 iv 5 5 w83_i_5_5) lv (u2 (u2 (u2 fa 5 1 f86) 5 2 w83_a_5_2) 5 3 w83_a_5_3) la) H := hP
            have hD : va_D A (WX h g ca (u2 iv 5 5 w83_i_5_5) lv (u2 (u2 (u2 fa 5 1 f86) 5 2 w83_a_5_2) 5 3 w83_a_5_3) la) := hD
            refine lv_aload_n hx hb dX5_place_57 rfl (lv_at hl 1 rfl) ?_
            refine gX_5_2 hx hb ht hown hK hP m_337 dX5_place_58 ?_
            refine lv_iload hx hb dX5_place_61 (lv_at hl 0 rfl) ?_
            refine lv_dup2_11 hx hb dX5_place_63 rfl rfl ?_
            refine lX_5_2 hx hb hK hP (f := w83_a_5_2) rfl (vp_in_iff.mpr ⟨by omega, by omega⟩) dX5_place_64 ?_
            refine lv_topi (fun v87 ev87 => ?_)
            refine lv_aload_n hx hb dX5_place_65 rfl (lv_at hl 1 rfl) ?_
            refine gX_5_0 hx hb ht hown hK hP m_335 dX5_place_66 ?_
            refine lv_iload_n hx hb dX5_place_69 rfl (lv_at hl 2 rfl) ?_
            refine lX_5_0 hx hb hK hP (f := (fa 5 0)) rfl (vp_in_iff.mpr (by decide)) dX5_place_70 ?_
            refine lv_topi (fun v88 ev88 => ?_)
            refine lv_iadd hx hb dX5_place_71 ?_
            refine lv_topi (fun v89 ev89 => ?_)
            refine tX_5_2 hx hb hK hP hD hS (f0 := w83_a_5_2) rfl (i := x83_4) (x := v89) (vp_in_iff.mpr ⟨by omega, by omega⟩) dX5_place_72 (fun f90 ef90 H locs hP hD hS => ?_)
            have hf90 : ∀ j, inb (bA 5 2 j) (f90 j) := fun j => full_i _
            have hP : va_P (dC, dI) classes (WX h g ca (u2 iv 5 5 w83_i_5_5) lv (u2 (u2 (u2 fa 5 1 f86) 5 2 f90) 5 3 w83_a_5_3) la) H := hP
            have hD : va_D A (WX h g ca (u2 iv 5 5 w83_i_5_5) lv (u2 (u2 (u2 fa 5 1 f86) 5 2 f90) 5 3 w83_a_5_3) la) := hD
            refine lv_aload_n hx hb dX5_place_73 rfl (lv_at hl 1 rfl) ?_
            refine lv_iload_n hx hb dX5_place_74 rfl (lv_at hl 2 rfl) ?_
            refine lv_iconst (v := 1) hx hb dX5_place_75 (by decide) ?_
            refine lv_iadd hx hb dX5_place_76 ?_
            refine lv_topi (fun v91 ev91 => ?_)
            obtain rfl : 6 = v91 := (ev91.trans (by decide)).symm
            refine lv_iload_n hx hb dX5_place_77 rfl (lv_at hl 3 rfl) ?_
            refine lv_iload_n hx hb dX5_place_78 rfl (lv_at hl 4 rfl) ?_
            refine lv_aload_n hx hb dX5_place_79 rfl (lv_at hl 1 rfl) ?_
            refine gX_5_2 hx hb ht hown hK hP m_337 dX5_place_80 ?_
            refine lv_iload hx hb dX5_place_83 (lv_at hl 0 rfl) ?_
            refine lX_5_2 hx hb hK hP (f := f90) rfl (vp_in_iff.mpr ⟨by omega, by omega⟩) dX5_place_85 ?_
            refine lv_topi (fun v92 ev92 => ?_)
            refine va_mmax hx hb (hml.trans hl.1.symm) hown (ht _ m_1025) (ht _ m_558) (ht _ m_90) (ht _ m_559) (Nat.le_of_ble_eq_true rfl) (Nat.le_of_ble_eq_true rfl) (Nat.le_of_ble_eq_true rfl) (Nat.le_of_ble_eq_true rfl) dX5_place_86 ?_
            refine lv_topi (fun v93 ev93 => ?_)
            have tv93 := mm_or ev93
            have uv93 := mm_max ev93 (rfl : (q).toInt = _) (rfl : (v92).toInt = _)
            have hFc := free_all hD hS hA
            refine va_callv (va_runV (As := [.int 6, .int mm, .int v93]) (rest := []) ⟨hx, hb, hml, hown, ht⟩ (c_X5_place_w6 l dC dI H.size h g ca (u2 iv 5 5 w83_i_5_5) lv (u2 (u2 (u2 fa 5 1 f86) 5 2 f90) 5 3 w83_a_5_3) la (IX_a (c := 5) (k := 3) (IX_a (c := 5) (k := 2) (IX_a (c := 5) (k := 1) (IX_i (c := 5) (k := 5) hI (full_i _)) hf86) hf90) hw83_a_5_3) mm v93 ⟨by omega, by omega⟩) (kV 3 ht m_1018 m_1020 m_41 m_86 m_1021 rfl rfl hd_X5_place_v ⟨Nat.le_of_ble_eq_true rfl, Nat.le_of_ble_eq_true rfl⟩) (vW hP hK hD (rX_5 hK hP)) rfl rfl hl.1 rfl (lv_room (Nat.le_of_ble_eq_true rfl)) dX5_place_89 ⟨Nat.le_of_ble_eq_true rfl, Nat.le_of_ble_eq_true rfl⟩) hS (fun q _ h => hFc q h) hFc (fun u t H1 locs ht9 hvm hr94 hB hz1 hk1 hS => ?_)
            obtain ⟨n95, n96, n97, n98, xr94_0, xr94_1, xr94_2, rfl⟩ := hr94
            have hn95 : ∀ j, inb (bA 5 1 j) (n95 j) := fun j => full_i _
            have hn96 : ∀ j, inb (bA 5 2 j) (n96 j) := fun j => full_i _
            have hn97 : ∀ j, inb (bA 5 3 j) (n97 j) := fun j => full_i _
            obtain ⟨hP, hD⟩ := hB
            rw [ht9] at hP
            generalize H1 = H at hP hS ⊢
            have hP : va_P (dC, dI) classes (WX h g ca (u2 iv 5 5 n98) lv (u2 (u2 (u2 fa 5 1 n95) 5 2 n96) 5 3 n97) la) H := hP
            have hD : va_D A (WX h g ca (u2 iv 5 5 n98) lv (u2 (u2 (u2 fa 5 1 n95) 5 2 n96) 5 3 n97) la) := (show va_D _ (WX h g ca (u2 iv 5 5 n98) lv (u2 (u2 (u2 fa 5 1 n95) 5 2 n96) 5 3 n97) la) from hD).weaken (fun _ _ _ h => hFc _ h)
            have xr94_0 : ∀ x0 bw : Nat, OrP (((iv 5 4) : Int32).toInt).toNat ((mm : Int32).toInt).toNat (fa 5 0) f86 f90 6 x0 (v93 : Int32).toInt → OrB (((iv 5 4) : Int32).toInt).toNat ((mm : Int32).toInt).toNat w83_a_5_3 (w83_i_5_5 : Int32).toInt bw → OrQ (((iv 5 4) : Int32).toInt).toNat ((mm : Int32).toInt).toNat (fa 5 0) x0 bw (w83_i_5_5 : Int32).toInt (((mm : Int32).toInt).toNat ^ ((((iv 5 4) : Int32).toInt).toNat - 6)) (n98 : Int32).toInt n97 := xr94_0
            have xr94_1 : ∀ j : Nat, n96 j = f90 j := xr94_1
            have xr94_2 : ∀ j : Nat, j < 6 → n95 j = f86 j := xr94_2
            refine lv_aload_n hx hb dX5_place_92 rfl (lv_at hl 1 rfl) ?_
            refine gX_5_2 hx hb ht hown hK hP m_337 dX5_place_93 ?_
            refine lv_iload hx hb dX5_place_96 (lv_at hl 0 rfl) ?_
            refine lv_dup2_11 hx hb dX5_place_98 rfl rfl ?_
            refine lX_5_2 hx hb hK hP (f := n96) rfl (vp_in_iff.mpr ⟨by omega, by omega⟩) dX5_place_99 ?_
            refine lv_topi (fun v99 ev99 => ?_)
            refine lv_aload_n hx hb dX5_place_100 rfl (lv_at hl 1 rfl) ?_
            refine gX_5_0 hx hb ht hown hK hP m_335 dX5_place_101 ?_
            refine lv_iload_n hx hb dX5_place_104 rfl (lv_at hl 2 rfl) ?_
            refine lX_5_0 hx hb hK hP (f := (fa 5 0)) rfl (vp_in_iff.mpr (by decide)) dX5_place_105 ?_
            refine lv_topi (fun v100 ev100 => ?_)
            obtain rfl : v88 = v100 := ev88.trans ev100.symm
            refine lv_isub hx hb dX5_place_106 ?_
            refine lv_topi (fun v101 ev101 => ?_)
            refine tX_5_2 hx hb hK hP hD hS (f0 := n96) rfl (i := x83_4) (x := v101) (vp_in_iff.mpr ⟨by omega, by omega⟩) dX5_place_107 (fun f102 ef102 H locs hP hD hS => ?_)
            have hf102 : ∀ j, inb (bA 5 2 j) (f102 j) := fun j => full_i _
            have hP : va_P (dC, dI) classes (WX h g ca (u2 iv 5 5 n98) lv (u2 (u2 (u2 fa 5 1 n95) 5 2 f102) 5 3 n97) la) H := hP
            have hD : va_D A (WX h g ca (u2 iv 5 5 n98) lv (u2 (u2 (u2 fa 5 1 n95) 5 2 f102) 5 3 n97) la) := hD
            obtain ⟨v103, ev103⟩ : ∃ y : Int32, y = x83_4 + 1 := ⟨_, rfl⟩
            have tv103 := z_add ev103 rfl (by decide : (1 : Int32).toInt = 1) (by omega) (by omega)
            refine lv_iinc (v := v103) (lv' := [(4, .int v103), (0, .ref (g 11 7)), (1, .int 5), (2, .int mm), (3, .int q)]) hx hb dX5_place_108 hl (k := 0) rfl (by rw [ev103]; rfl) (by decide) rfl (fun ls hl => ?_)
            refine lv_goto (tgt := 43) hx hb dX5_place_111 (by decide) ?_
            exact ih84 v103 n98 n95 f102 n97 ⟨by omega, by omega⟩ hn95 hf102 hn97 (show ∀ x0 bw : Nat, OrP ((iv 5 4).toInt).toNat ((mm).toInt).toNat (fa 5 0) (fa 5 1) (fa 5 2) 5 x0 (q).toInt → OrB ((iv 5 4).toInt).toNat ((mm).toInt).toNat (fa 5 3) (iv 5 5).toInt bw → OrQ ((iv 5 4).toInt).toNat ((mm).toInt).toNat (fa 5 0) x0 bw (iv 5 5).toInt (((v103 : Int32).toInt).toNat * ((mm).toInt).toNat ^ (((iv 5 4).toInt).toNat - (5 + 1))) (n98 : Int32).toInt n97 from (fun x0 bw h1 h2 => by
                  have z9 : (5 : Int32).toNatClampNeg = 5 := (by decide)
                  have hl9 : (x83_4 : Int32).toNatClampNeg = ((x83_4 : Int32).toInt).toNat := rfl
                  have ht1 : ∀ j : Nat, j < 5 → f86 j = fa 5 1 j := fun j hj => by rw [ef86, z9, upd_ne (by omega : j ≠ 5)]; exact hq84_2 j hj
                  have hv1 : v87 = fa 5 2 ((x83_4 : Int32).toInt).toNat := (show v87 = w83_a_5_2 ((x83_4 : Int32).toInt).toNat from ev87).trans (hq84_1 _)
                  have hv2 : v88 = fa 5 0 5 := (show v88 = fa 5 0 ((5 : Int32).toNatClampNeg) from ev88).trans (by rw [z9])
                  have he1 : f90 ((x83_4 : Int32).toInt).toNat = v89 := by rw [ef90, hl9]; exact upd_eq
                  have he2 : ∀ j : Nat, j ≠ ((x83_4 : Int32).toInt).toNat → f90 j = fa 5 2 j := fun j hj => by rw [ef90, hl9, upd_ne hj]; exact hq84_1 j
                  have hs9 : ((v103 : Int32).toInt).toNat = ((x83_4 : Int32).toInt).toNat + 1 := by omega
                  have hq9 := hq84_0 x0 bw h1 h2
                  have ht2 : f86 5 = x83_4 := by rw [ef86, z9]; exact upd_eq
                  have ht3 : (f86 5).toInt = ((((x83_4 : Int32).toInt).toNat : Nat) : Int) := by rw [ht2]; omega
                  have hv5 := congrArg Int32.toInt (show v92 = f90 ((x83_4 : Int32).toInt).toNat from ev92)
                  have hd9 : OrP ((iv 5 4).toInt).toNat ((mm).toInt).toNat (fa 5 0) f86 f90 6 (x0 + ((x83_4 : Int32).toInt).toNat * ((mm).toInt).toNat ^ (((iv 5 4).toInt).toNat - (5 + 1))) (v93 : Int32).toInt := Or_dn h1 (by omega) (by omega) ht1 ht3 (fun j _ hj => he2 j hj) (he1.trans (ev89.trans (by rw [hv1, hv2]))) (by omega) (by omega) (by omega)
                  exact Or_st hs9 hq9 (xr94_0 _ _ hd9 hq9.2))) (show ∀ j : Nat, f102 j = fa 5 2 j from (fun j => by
                  have z9 : (5 : Int32).toNatClampNeg = 5 := (by decide)
                  have hl9 : (x83_4 : Int32).toNatClampNeg = ((x83_4 : Int32).toInt).toNat := rfl
                  have ht1 : ∀ j : Nat, j < 5 → f86 j = fa 5 1 j := fun j hj => by rw [ef86, z9, upd_ne (by omega : j ≠ 5)]; exact hq84_2 j hj
                  have hv1 : v87 = fa 5 2 ((x83_4 : Int32).toInt).toNat := (show v87 = w83_a_5_2 ((x83_4 : Int32).toInt).toNat from ev87).trans (hq84_1 _)
                  have hv2 : v88 = fa 5 0 5 := (show v88 = fa 5 0 ((5 : Int32).toNatClampNeg) from ev88).trans (by rw [z9])
                  have he1 : f90 ((x83_4 : Int32).toInt).toNat = v89 := by rw [ef90, hl9]; exact upd_eq
                  have he2 : ∀ j : Nat, j ≠ ((x83_4 : Int32).toInt).toNat → f90 j = fa 5 2 j := fun j hj => by rw [ef90, hl9, upd_ne hj]; exact hq84_1 j
                  have hv4 : v99 = v89 := (show v99 = n96 ((x83_4 : Int32).toInt).toNat from ev99).trans ((xr94_1 _).trans he1)
                  by_cases hj : j = ((x83_4 : Int32).toInt).toNat
                  · have hx9 : f102 ((x83_4 : Int32).toInt).toNat = v101 := by rw [ef102, hl9]; exact upd_eq
                    rw [hj, hx9, ev101, hv4, ev89, Int32.add_sub_cancel]
                    exact hv1
                  · rw [ef102, hl9, upd_ne hj, xr94_1 j]; exact he2 j hj)) (show ∀ j : Nat, j < 5 → n95 j = fa 5 1 j from (fun j hj => by
                  have z9 : (5 : Int32).toNatClampNeg = 5 := (by decide)
                  have hl9 : (x83_4 : Int32).toNatClampNeg = ((x83_4 : Int32).toInt).toNat := rfl
                  have ht1 : ∀ j : Nat, j < 5 → f86 j = fa 5 1 j := fun j hj => by rw [ef86, z9, upd_ne (by omega : j ≠ 5)]; exact hq84_2 j hj
                  have hv1 : v87 = fa 5 2 ((x83_4 : Int32).toInt).toNat := (show v87 = w83_a_5_2 ((x83_4 : Int32).toInt).toNat from ev87).trans (hq84_1 _)
                  have hv2 : v88 = fa 5 0 5 := (show v88 = fa 5 0 ((5 : Int32).toNatClampNeg) from ev88).trans (by rw [z9])
                  have he1 : f90 ((x83_4 : Int32).toInt).toNat = v89 := by rw [ef90, hl9]; exact upd_eq
                  have he2 : ∀ j : Nat, j ≠ ((x83_4 : Int32).toInt).toNat → f90 j = fa 5 2 j := fun j hj => by rw [ef90, hl9, upd_ne hj]; exact hq84_1 j
                  rw [xr94_2 j (by omega)]; exact ht1 j hj)) (show (v103 : Int32).toInt ≤ (mm).toInt from by omega) (by omega) _ _ ls hP hD hS (lv_sub hl [0, 1, 2, 3, 4] rfl)
      have : (0 : Int32).toInt = 0 := (by decide)
      exact lp84 4 0 (iv 5 5) (fa 5 1) (fa 5 2) (fa 5 3) ⟨by decide, by decide⟩ (hI.2 5 1) (hI.2 5 2) (hI.2 5 3) (show ∀ x0 bw : Nat, OrP ((iv 5 4).toInt).toNat ((mm).toInt).toNat (fa 5 0) (fa 5 1) (fa 5 2) 5 x0 (q).toInt → OrB ((iv 5 4).toInt).toNat ((mm).toInt).toNat (fa 5 3) (iv 5 5).toInt bw → OrQ ((iv 5 4).toInt).toNat ((mm).toInt).toNat (fa 5 0) x0 bw (iv 5 5).toInt (((0 : Int32).toInt).toNat * ((mm).toInt).toNat ^ (((iv 5 4).toInt).toNat - (5 + 1))) ((iv 5 5) : Int32).toInt (fa 5 3) from (fun x0 bw h1 h2 => by
            have hz : ((0 : Int32).toInt).toNat = 0 := (by decide)
            rw [hz, Nat.zero_mul]
            exact Or_q0 h2)) (show ∀ j : Nat, (fa 5 2) j = fa 5 2 j from (fun j => rfl)) (show ∀ j : Nat, j < 5 → (fa 5 1) j = fa 5 1 j from (fun j hj => rfl)) (show (0 : Int32).toInt ≤ (mm).toInt from by omega) (by first | decide | omega) _ _ ls hP hD hS (lv_sub hl [0, 1, 2, 3, 4] rfl)
    · have fc2 := z_nlt (by decide : (5 : Int32).toInt = 5) (rfl : ((iv 5 4)).toInt = _) c2
      refine lv_aload_n hx hb dX5_place_17 rfl (lv_at hl 0 rfl) ?_
      refine lv_iload_n hx hb dX5_place_18 rfl (lv_at hl 3 rfl) ?_
      refine pX_5_5 (v := q) hx hb ht hown hK hP hD hS m_342 dX5_place_19 (fun H locs hP hD hS => ?_)
      refine lv_aload_n hx hb dX5_place_22 rfl (lv_at hl 0 rfl) ?_
      refine gX_5_1 hx hb ht hown hK hP m_336 dX5_place_23 ?_
      refine lv_iconst (v := 0) hx hb dX5_place_26 (by decide) ?_
      refine lv_aload_n hx hb dX5_place_27 rfl (lv_at hl 0 rfl) ?_
      refine gX_5_3 hx hb ht hown hK hP m_338 dX5_place_28 ?_
      refine lv_iconst (v := 0) hx hb dX5_place_31 (by decide) ?_
      refine lv_aload_n hx hb dX5_place_32 rfl (lv_at hl 0 rfl) ?_
      refine gX_5_4 hx hb ht hown hK hP m_340 (v := (iv 5 4)) rfl dX5_place_33 ?_
      have hn9 : ((iv 5 4) : Int32).toNatClampNeg ≤ 8 := by show ((((iv 5 4) : Int32).toInt).toNat : Nat) ≤ 8; omega
      refine va_copyi (D := (dC, dI)) (ty := .int) (f := (fa 5 1)) (g := (fa 5 3)) hx hb (hml.trans hl.1.symm) hown (ht _ m_1022) (ht _ m_1024) (ht _ m_1023) (ht _ m_95) hK hP hD hS 34 36 21 23 rfl rfl rfl rfl rfl (by decide) (by decide) (fun q9 => by have := Int32.lt_iff_toInt_lt.mp q9; have h0 : (0 : Int32).toInt = 0 := rfl; omega) (by show (0 : Nat) + _ ≤ 8; omega) (by show (0 : Nat) + _ ≤ 8; omega) (fun i hi => rfl) (Nat.le_of_ble_eq_true rfl) (by rw [nfw]; exact Nat.le_of_ble_eq_true rfl) dX5_place_36 (fun H locs hP hD hS => ?_)
      rw [aX_5_3] at hP hD
      obtain ⟨f104, ef104⟩ : ∃ f : Nat → Int32, f = va_cpy (fa 5 1) (fa 5 3) (0 : Int32).toNatClampNeg (0 : Int32).toNatClampNeg ((iv 5 4) : Int32).toNatClampNeg := ⟨_, rfl⟩
      rw [← ef104] at hP hD
      have hf104 : ∀ j, inb (bA 5 3 j) (f104 j) := fun j => full_i _
      have hP9 : va_P (dC, dI) classes (WX h g ca (u2 iv 5 5 q) lv (u2 (u2 (u2 fa 5 1 (fa 5 1)) 5 2 (fa 5 2)) 5 3 f104) la) H := hP
      have hD9 : va_D A (WX h g ca (u2 iv 5 5 q) lv (u2 (u2 (u2 fa 5 1 (fa 5 1)) 5 2 (fa 5 2)) 5 3 f104) la) := hD
      exact W.vret hx hb hr (fun t ht9 hW => ⟨⟨((u2 iv 5 5 q), lv, (u2 (u2 (u2 fa 5 1 (fa 5 1)) 5 2 (fa 5 2)) 5 3 f104), la), rfl, ⟨(fa 5 1), (fa 5 2), f104, q, (show ∀ x0 bw : Nat, OrP ((iv 5 4).toInt).toNat ((mm).toInt).toNat (fa 5 0) (fa 5 1) (fa 5 2) 5 x0 (q).toInt → OrB ((iv 5 4).toInt).toNat ((mm).toInt).toNat (fa 5 3) (iv 5 5).toInt bw → OrQ ((iv 5 4).toInt).toNat ((mm).toInt).toNat (fa 5 0) x0 bw (iv 5 5).toInt (((mm).toInt).toNat ^ (((iv 5 4).toInt).toNat - 5)) (q : Int32).toInt f104 from (fun x0 bw h1 h2 => Or_ql h1 (by omega) (by omega) (fun j hj => by rw [ef104]; exact Or_cpy (by decide) hj))), (show ∀ j : Nat, (fa 5 2) j = (fa 5 2) j from (fun j => rfl)), (show ∀ j : Nat, j < 5 → (fa 5 1) j = (fa 5 1) j from (fun j hj => rfl)), rfl⟩, by rw [ht9]; exact hP9, hD9⟩, hS.F ht9⟩) hS.2.2 dX5_place_39
  · have fc1 := z_nlt (rfl : (q).toInt = _) (rfl : ((iv 5 5)).toInt = _) c1
    have hP9 : va_P (dC, dI) classes (WX h g ca (u2 iv 5 5 (iv 5 5)) lv (u2 (u2 (u2 fa 5 1 (fa 5 1)) 5 2 (fa 5 2)) 5 3 (fa 5 3)) la) s.heap := hP
    have hD9 : va_D A (WX h g ca (u2 iv 5 5 (iv 5 5)) lv (u2 (u2 (u2 fa 5 1 (fa 5 1)) 5 2 (fa 5 2)) 5 3 (fa 5 3)) la) := hD
    exact W.vret hx hb hr (fun t ht9 hW => ⟨⟨((u2 iv 5 5 (iv 5 5)), lv, (u2 (u2 (u2 fa 5 1 (fa 5 1)) 5 2 (fa 5 2)) 5 3 (fa 5 3)), la), rfl, ⟨(fa 5 1), (fa 5 2), (fa 5 3), (iv 5 5), (show ∀ x0 bw : Nat, OrP ((iv 5 4).toInt).toNat ((mm).toInt).toNat (fa 5 0) (fa 5 1) (fa 5 2) 5 x0 (q).toInt → OrB ((iv 5 4).toInt).toNat ((mm).toInt).toNat (fa 5 3) (iv 5 5).toInt bw → OrQ ((iv 5 4).toInt).toNat ((mm).toInt).toNat (fa 5 0) x0 bw (iv 5 5).toInt (((mm).toInt).toNat ^ (((iv 5 4).toInt).toNat - 5)) ((iv 5 5) : Int32).toInt (fa 5 3) from (fun x0 bw h1 h2 => Or_qs h1 h2 (by omega))), (show ∀ j : Nat, (fa 5 2) j = (fa 5 2) j from (fun j => rfl)), (show ∀ j : Nat, j < 5 → (fa 5 1) j = (fa 5 1) j from (fun j hj => rfl)), rfl⟩, by rw [ht9]; exact hP9, hD9⟩, hS.F ht9⟩) hS.2.2 dX5_place_8
set_option maxHeartbeats 4000000 in
set_option maxRecDepth 100000 in
/-- X5_place -/
theorem c_X5_place_w4 (l : Launch) (dC : Nat → ClassId) (dI : Nat → Nat → Nat) (sz : Nat) (h : Nat) (g : Nat → Nat → Nat) (ca : Nat → Nat → ClassId) (iv : Nat → Nat → Int32) (lv : Nat → Nat → Int64) (fa : Nat → Nat → Nat → Int32) (la : Nat → Nat → Nat → Int64) (hI : IX iv fa) (mm : Int32) (q : Int32) (h_mm : 1 ≤ mm.toInt ∧ mm.toInt ≤ 3) : Met l yX5_place (wc yX5_place cX5_place 5 none) ({ frames := 5, cells := 0, slots := 0, locals := 156 } : Room) (pW (dC, dI) classes (WX h g ca iv lv fa la) (TX ca) sz [.ref (g 11 7), .int 4, .int mm, .int q]) (va_Qv (fun (u : SS) => ∃ (na_5_1 : Nat → Int32) (na_5_2 : Nat → Int32) (na_5_3 : Nat → Int32) (ni_5_5 : Int32), (∀ x0 bw : Nat, OrP ((iv 5 4).toInt).toNat (mm.toInt).toNat (fa 5 0) (fa 5 1) (fa 5 2) 4 x0 q.toInt → OrB ((iv 5 4).toInt).toNat (mm.toInt).toNat (fa 5 3) (iv 5 5).toInt bw → OrQ ((iv 5 4).toInt).toNat (mm.toInt).toNat (fa 5 0) x0 bw (iv 5 5).toInt ((mm.toInt).toNat ^ (((iv 5 4).toInt).toNat - 4)) (ni_5_5).toInt na_5_3) ∧ (∀ j : Nat, na_5_2 j = (fa 5 2) j) ∧ (∀ j : Nat, j < 4 → na_5_1 j = (fa 5 1) j) ∧ u = ((u2 iv 5 5 ni_5_5), lv, (u2 (u2 (u2 fa 5 1 na_5_1) 5 2 na_5_2) 5 3 na_5_3), la)) (bX (dC, dI) h g ca (va_A (WX h g ca iv lv fa la) sz)) (va_A (WX h g ca iv lv fa la) sz)) 0 0 (va_A (WX h g ca iv lv fa la) sz) := by
  refine Met.ofW (cc := cX5_place) (maxL := 5) (ret := none) (by decide) rfl ?_
  intro p e s m args below meth c s₁ B hml hv
  obtain ⟨rfl, hsz, hP, hK, hD0⟩ := hv
  have hx := B.exec
  have hb := B.bytes
  have hr := B.returns
  have ht := tb_tl (atoms_spec (ws := wc yX5_place cX5_place 5 none) B.pre)
  have hown : s.vm.findClass RX5 = some m.cls := findClass_of_methodNamed B.named
  have hlocks := B.notSynchronized
  subst hsz
  have hD := hD0.self (sz := s.heap.size)
  generalize hAe : va_A (WX h g ca iv lv fa la) s.heap.size = A at hD ⊢
  have hA : ∀ q : Nat, s.heap.size ≤ q → A q := fun q h => by rw [← hAe]; exact Or.inr h
  have hS : va_S A s.heap s.heap [] := va_S.rf
  have hl := lv_entry [.ref (g 11 7), .int 4, .int mm, .int q] (n := 5) (Nat.le_of_ble_eq_true rfl)
  rw [lg_entry_eq]
  generalize (lg_sl [.ref (g 11 7), .int 4, .int mm, .int q] ++ List.replicate (5 - (lg_sl [.ref (g 11 7), .int 4, .int mm, .int q]).length) Slot.unset).toArray = ls at hl ⊢
  have hl : lv_has ls 5 [(0, .ref (g 11 7)), (1, .int 4), (2, .int mm), (3, .int q)] := hl
  refine lv_iload_n hx hb dX5_place_0 rfl (lv_at hl 3 rfl) ?_
  refine lv_aload_n hx hb dX5_place_1 rfl (lv_at hl 0 rfl) ?_
  refine gX_5_5 hx hb ht hown hK hP m_342 (v := (iv 5 5)) rfl dX5_place_2 ?_
  refine lv_icmp_lt (tgt := 9) hx hb dX5_place_5 (by decide) (fun c1 => ?_) (fun c1 => ?_)
  · have fc1 := z_lt (rfl : (q).toInt = _) (rfl : ((iv 5 5)).toInt = _) c1
    refine lv_iload_n hx hb dX5_place_9 rfl (lv_at hl 1 rfl) ?_
    refine lv_aload_n hx hb dX5_place_10 rfl (lv_at hl 0 rfl) ?_
    have i_5_4 : 0 ≤ (iv 5 4).toInt ∧ (iv 5 4).toInt ≤ 8 := hI.1 5 4
    refine gX_5_4 hx hb ht hown hK hP m_340 (v := (iv 5 4)) rfl dX5_place_11 ?_
    refine lv_icmp_lt (tgt := 40) hx hb dX5_place_14 (by decide) (fun c2 => ?_) (fun c2 => ?_)
    · have fc2 := z_lt (by decide : (4 : Int32).toInt = 4) (rfl : ((iv 5 4)).toInt = _) c2
      refine lv_iconst (v := 0) hx hb dX5_place_40 (by decide) ?_
      refine lv_istore (lv' := [(4, .int 0), (0, .ref (g 11 7)), (1, .int 4), (2, .int mm), (3, .int q)]) hx hb dX5_place_41 hl (by decide) rfl (fun ls hl => ?_)
      have lp84 : ∀ (nn84 : Nat) (x83_4 : Int32) (w83_i_5_5 : Int32) (w83_a_5_1 : Nat → Int32) (w83_a_5_2 : Nat → Int32) (w83_a_5_3 : Nat → Int32), 0 ≤ x83_4.toInt ∧ x83_4.toInt ≤ 3 → (∀ j, inb (bA 5 1 j) (w83_a_5_1 j)) → (∀ j, inb (bA 5 2 j) (w83_a_5_2 j)) → (∀ j, inb (bA 5 3 j) (w83_a_5_3 j)) → (∀ x0 bw : Nat, OrP ((iv 5 4).toInt).toNat ((mm).toInt).toNat (fa 5 0) (fa 5 1) (fa 5 2) 4 x0 (q).toInt → OrB ((iv 5 4).toInt).toNat ((mm).toInt).toNat (fa 5 3) (iv 5 5).toInt bw → OrQ ((iv 5 4).toInt).toNat ((mm).toInt).toNat (fa 5 0) x0 bw (iv 5 5).toInt (((x83_4 : Int32).toInt).toNat * ((mm).toInt).toNat ^ (((iv 5 4).toInt).toNat - (4 + 1))) (w83_i_5_5 : Int32).toInt w83_a_5_3) → (∀ j : Nat, w83_a_5_2 j = fa 5 2 j) → (∀ j : Nat, j < 4 → w83_a_5_1 j = fa 5 1 j) → (x83_4 : Int32).toInt ≤ (mm).toInt → 3 - x83_4.toInt < (nn84 : Int) → ∀ (H : Heap) (locs : List Loc), ∀ (ls : Array Slot), va_P (dC, dI) classes (WX h g ca (u2 iv 5 5 w83_i_5_5) lv (u2 (u2 (u2 fa 5 1 w83_a_5_1) 5 2 w83_a_5_2) 5 3 w83_a_5_3) la) H → va_D A (WX h g ca (u2 iv 5 5 w83_i_5_5) lv (u2 (u2 (u2 fa 5 1 w83_a_5_1) 5 2 w83_a_5_2) 5 3 w83_a_5_3) la) → va_S A s.heap H locs → lv_has ls 5 [(4, .int x83_4), (0, .ref (g 11 7)), (1, .int 4), (2, .int mm), (3, .int q)] → W p l e ({ frames := 5, cells := 0, slots := 0, locals := 156 } : Room) s m ([.ref (g 11 7), .int 4, .int mm, .int q] : List Value).toArray below meth c H locs 0 0 (MQ below (va_Qv (fun (u : SS) => ∃ (na_5_1 : Nat → Int32) (na_5_2 : Nat → Int32) (na_5_3 : Nat → Int32) (ni_5_5 : Int32), (∀ x0 bw : Nat, OrP ((iv 5 4).toInt).toNat (mm.toInt).toNat (fa 5 0) (fa 5 1) (fa 5 2) 4 x0 q.toInt → OrB ((iv 5 4).toInt).toNat (mm.toInt).toNat (fa 5 3) (iv 5 5).toInt bw → OrQ ((iv 5 4).toInt).toNat (mm.toInt).toNat (fa 5 0) x0 bw (iv 5 5).toInt ((mm.toInt).toNat ^ (((iv 5 4).toInt).toNat - 4)) (ni_5_5).toInt na_5_3) ∧ (∀ j : Nat, na_5_2 j = (fa 5 2) j) ∧ (∀ j : Nat, j < 4 → na_5_1 j = (fa 5 1) j) ∧ u = ((u2 iv 5 5 ni_5_5), lv, (u2 (u2 (u2 fa 5 1 na_5_1) 5 2 na_5_2) 5 3 na_5_3), la)) (bX (dC, dI) h g ca A) A) ([.ref (g 11 7), .int 4, .int mm, .int q] : List Value).toArray s 0 0 A) (F0 m 43 ls []) := by
        intro nn84
        induction nn84 with
        | zero => intro x83_4 w83_i_5_5 w83_a_5_1 w83_a_5_2 w83_a_5_3 hx83_4 hw83_a_5_1 hw83_a_5_2 hw83_a_5_3 hq84_0 hq84_1 hq84_2 hq84_3 hm84; exfalso; omega
        | succ nn84 ih84 =>
          intro x83_4 w83_i_5_5 w83_a_5_1 w83_a_5_2 w83_a_5_3 hx83_4 hw83_a_5_1 hw83_a_5_2 hw83_a_5_3 hq84_0 hq84_1 hq84_2 hq84_3 hm84 H locs ls hP hD hS hl
          refine lv_iload hx hb dX5_place_43 (lv_at hl 0 rfl) ?_
          refine lv_iload_n hx hb dX5_place_45 rfl (lv_at hl 3 rfl) ?_
          refine lv_icmp_ge (tgt := 114) hx hb dX5_place_46 (by decide) (fun c85 => ?_) (fun c85 => ?_)
          · have fc85 := z_le (rfl : (mm).toInt = _) (rfl : (x83_4).toInt = _) c85
            have hP9 : va_P (dC, dI) classes (WX h g ca (u2 iv 5 5 w83_i_5_5) lv (u2 (u2 (u2 fa 5 1 w83_a_5_1) 5 2 w83_a_5_2) 5 3 w83_a_5_3) la) H := hP
            have hD9 : va_D A (WX h g ca (u2 iv 5 5 w83_i_5_5) lv (u2 (u2 (u2 fa 5 1 w83_a_5_1) 5 2 w83_a_5_2) 5 3 w83_a_5_3) la) := hD
            exact W.vret hx hb hr (fun t ht9 hW => ⟨⟨((u2 iv 5 5 w83_i_5_5), lv, (u2 (u2 (u2 fa 5 1 w83_a_5_1) 5 2 w83_a_5_2) 5 3 w83_a_5_3), la), rfl, ⟨w83_a_5_1, w83_a_5_2, w83_a_5_3, w83_i_5_5, (show ∀ x0 bw : Nat, OrP ((iv 5 4).toInt).toNat ((mm).toInt).toNat (fa 5 0) (fa 5 1) (fa 5 2) 4 x0 (q).toInt → OrB ((iv 5 4).toInt).toNat ((mm).toInt).toNat (fa 5 3) (iv 5 5).toInt bw → OrQ ((iv 5 4).toInt).toNat ((mm).toInt).toNat (fa 5 0) x0 bw (iv 5 5).toInt (((mm).toInt).toNat ^ (((iv 5 4).toInt).toNat - 4)) (w83_i_5_5 : Int32).toInt w83_a_5_3 from (fun x0 bw h1 h2 => by
                  have hq9 := hq84_0 x0 bw h1 h2
                  rw [show ((x83_4 : Int32).toInt).toNat = ((mm).toInt).toNat from by omega, Or_pw (by omega)] at hq9
                  exact hq9)), (show ∀ j : Nat, w83_a_5_2 j = (fa 5 2) j from hq84_1), (show ∀ j : Nat, j < 4 → w83_a_5_1 j = (fa 5 1) j from hq84_2), rfl⟩, by rw [ht9]; exact hP9, hD9⟩, hS.F ht9⟩) hS.2.2 dX5_place_114
          · have fc85 := z_nle (rfl : (mm).toInt = _) (rfl : (x83_4).toInt = _) c85
            refine lv_aload_n hx hb dX5_place_49 rfl (lv_at hl 1 rfl) ?_
            refine gX_5_1 hx hb ht hown hK hP m_336 dX5_place_50 ?_
            refine lv_iload_n hx hb dX5_place_53 rfl (lv_at hl 2 rfl) ?_
            refine lv_iload hx hb dX5_place_54 (lv_at hl 0 rfl) ?_
            refine tX_5_1 hx hb hK hP hD hS (f0 := w83_a_5_1) rfl (i := 4) (x := x83_4) (vp_in_iff.mpr (by decide)) dX5_place_56 (fun f86 ef86 H locs hP hD hS => ?_)
            have hf86 : ∀ j, inb (bA 5 1 j) (f86 j) := fun j => full_i _
            have hP : va_P (dC, dI) classes (WX h g ca (u2 iv 5 5 w83_i_5_5) lv (u2 (u2 (u2 fa 5 1 f86) 5 2 w83_a_5_2) 5 3 w83_a_5_3) la) H := hP
            have hD : va_D A (WX h g ca (u2 iv 5 5 w83_i_5_5) lv (u2 (u2 (u2 fa 5 1 f86) 5 2 w83_a_5_2) 5 3 w83_a_5_3) la) := hD
            refine lv_aload_n hx hb dX5_place_57 rfl (lv_at hl 1 rfl) ?_
            refine gX_5_2 hx hb ht hown hK hP m_337 dX5_place_58 ?_
            refine lv_iload hx hb dX5_place_61 (lv_at hl 0 rfl) ?_
            refine lv_dup2_11 hx hb dX5_place_63 rfl rfl ?_
            refine lX_5_2 hx hb hK hP (f := w83_a_5_2) rfl (vp_in_iff.mpr ⟨by omega, by omega⟩) dX5_place_64 ?_
            refine lv_topi (fun v87 ev87 => ?_)
            refine lv_aload_n hx hb dX5_place_65 rfl (lv_at hl 1 rfl) ?_
            refine gX_5_0 hx hb ht hown hK hP m_335 dX5_place_66 ?_
            refine lv_iload_n hx hb dX5_place_69 rfl (lv_at hl 2 rfl) ?_
            refine lX_5_0 hx hb hK hP (f := (fa 5 0)) rfl (vp_in_iff.mpr (by decide)) dX5_place_70 ?_
            refine lv_topi (fun v88 ev88 => ?_)
            refine lv_iadd hx hb dX5_place_71 ?_
            refine lv_topi (fun v89 ev89 => ?_)
            refine tX_5_2 hx hb hK hP hD hS (f0 := w83_a_5_2) rfl (i := x83_4) (x := v89) (vp_in_iff.mpr ⟨by omega, by omega⟩) dX5_place_72 (fun f90 ef90 H locs hP hD hS => ?_)
            have hf90 : ∀ j, inb (bA 5 2 j) (f90 j) := fun j => full_i _
            have hP : va_P (dC, dI) classes (WX h g ca (u2 iv 5 5 w83_i_5_5) lv (u2 (u2 (u2 fa 5 1 f86) 5 2 f90) 5 3 w83_a_5_3) la) H := hP
            have hD : va_D A (WX h g ca (u2 iv 5 5 w83_i_5_5) lv (u2 (u2 (u2 fa 5 1 f86) 5 2 f90) 5 3 w83_a_5_3) la) := hD
            refine lv_aload_n hx hb dX5_place_73 rfl (lv_at hl 1 rfl) ?_
            refine lv_iload_n hx hb dX5_place_74 rfl (lv_at hl 2 rfl) ?_
            refine lv_iconst (v := 1) hx hb dX5_place_75 (by decide) ?_
            refine lv_iadd hx hb dX5_place_76 ?_
            refine lv_topi (fun v91 ev91 => ?_)
            obtain rfl : 5 = v91 := (ev91.trans (by decide)).symm
            refine lv_iload_n hx hb dX5_place_77 rfl (lv_at hl 3 rfl) ?_
            refine lv_iload_n hx hb dX5_place_78 rfl (lv_at hl 4 rfl) ?_
            refine lv_aload_n hx hb dX5_place_79 rfl (lv_at hl 1 rfl) ?_
            refine gX_5_2 hx hb ht hown hK hP m_337 dX5_place_80 ?_
            refine lv_iload hx hb dX5_place_83 (lv_at hl 0 rfl) ?_
            refine lX_5_2 hx hb hK hP (f := f90) rfl (vp_in_iff.mpr ⟨by omega, by omega⟩) dX5_place_85 ?_
            refine lv_topi (fun v92 ev92 => ?_)
            refine va_mmax hx hb (hml.trans hl.1.symm) hown (ht _ m_1025) (ht _ m_558) (ht _ m_90) (ht _ m_559) (Nat.le_of_ble_eq_true rfl) (Nat.le_of_ble_eq_true rfl) (Nat.le_of_ble_eq_true rfl) (Nat.le_of_ble_eq_true rfl) dX5_place_86 ?_
            refine lv_topi (fun v93 ev93 => ?_)
            have tv93 := mm_or ev93
            have uv93 := mm_max ev93 (rfl : (q).toInt = _) (rfl : (v92).toInt = _)
            have hFc := free_all hD hS hA
            refine va_callv (va_runV (As := [.int 5, .int mm, .int v93]) (rest := []) ⟨hx, hb, hml, hown, ht⟩ (c_X5_place_w5 l dC dI H.size h g ca (u2 iv 5 5 w83_i_5_5) lv (u2 (u2 (u2 fa 5 1 f86) 5 2 f90) 5 3 w83_a_5_3) la (IX_a (c := 5) (k := 3) (IX_a (c := 5) (k := 2) (IX_a (c := 5) (k := 1) (IX_i (c := 5) (k := 5) hI (full_i _)) hf86) hf90) hw83_a_5_3) mm v93 ⟨by omega, by omega⟩) (kV 3 ht m_1018 m_1020 m_41 m_86 m_1021 rfl rfl hd_X5_place_v ⟨Nat.le_of_ble_eq_true rfl, Nat.le_of_ble_eq_true rfl⟩) (vW hP hK hD (rX_5 hK hP)) rfl rfl hl.1 rfl (lv_room (Nat.le_of_ble_eq_true rfl)) dX5_place_89 ⟨Nat.le_of_ble_eq_true rfl, Nat.le_of_ble_eq_true rfl⟩) hS (fun q _ h => hFc q h) hFc (fun u t H1 locs ht9 hvm hr94 hB hz1 hk1 hS => ?_)
            obtain ⟨n95, n96, n97, n98, xr94_0, xr94_1, xr94_2, rfl⟩ := hr94
            have hn95 : ∀ j, inb (bA 5 1 j) (n95 j) := fun j => full_i _
            have hn96 : ∀ j, inb (bA 5 2 j) (n96 j) := fun j => full_i _
            have hn97 : ∀ j, inb (bA 5 3 j) (n97 j) := fun j => full_i _
            obtain ⟨hP, hD⟩ := hB
            rw [ht9] at hP
            generalize H1 = H at hP hS ⊢
            have hP : va_P (dC, dI) classes (WX h g ca (u2 iv 5 5 n98) lv (u2 (u2 (u2 fa 5 1 n95) 5 2 n96) 5 3 n97) la) H := hP
            have hD : va_D A (WX h g ca (u2 iv 5 5 n98) lv (u2 (u2 (u2 fa 5 1 n95) 5 2 n96) 5 3 n97) la) := (show va_D _ (WX h g ca (u2 iv 5 5 n98) lv (u2 (u2 (u2 fa 5 1 n95) 5 2 n96) 5 3 n97) la) from hD).weaken (fun _ _ _ h => hFc _ h)
            have xr94_0 : ∀ x0 bw : Nat, OrP (((iv 5 4) : Int32).toInt).toNat ((mm : Int32).toInt).toNat (fa 5 0) f86 f90 5 x0 (v93 : Int32).toInt → OrB (((iv 5 4) : Int32).toInt).toNat ((mm : Int32).toInt).toNat w83_a_5_3 (w83_i_5_5 : Int32).toInt bw → OrQ (((iv 5 4) : Int32).toInt).toNat ((mm : Int32).toInt).toNat (fa 5 0) x0 bw (w83_i_5_5 : Int32).toInt (((mm : Int32).toInt).toNat ^ ((((iv 5 4) : Int32).toInt).toNat - 5)) (n98 : Int32).toInt n97 := xr94_0
            have xr94_1 : ∀ j : Nat, n96 j = f90 j := xr94_1
            have xr94_2 : ∀ j : Nat, j < 5 → n95 j = f86 j := xr94_2
            refine lv_aload_n hx hb dX5_place_92 rfl (lv_at hl 1 rfl) ?_
            refine gX_5_2 hx hb ht hown hK hP m_337 dX5_place_93 ?_
            refine lv_iload hx hb dX5_place_96 (lv_at hl 0 rfl) ?_
            refine lv_dup2_11 hx hb dX5_place_98 rfl rfl ?_
            refine lX_5_2 hx hb hK hP (f := n96) rfl (vp_in_iff.mpr ⟨by omega, by omega⟩) dX5_place_99 ?_
            refine lv_topi (fun v99 ev99 => ?_)
            refine lv_aload_n hx hb dX5_place_100 rfl (lv_at hl 1 rfl) ?_
            refine gX_5_0 hx hb ht hown hK hP m_335 dX5_place_101 ?_
            refine lv_iload_n hx hb dX5_place_104 rfl (lv_at hl 2 rfl) ?_
            refine lX_5_0 hx hb hK hP (f := (fa 5 0)) rfl (vp_in_iff.mpr (by decide)) dX5_place_105 ?_
            refine lv_topi (fun v100 ev100 => ?_)
            obtain rfl : v88 = v100 := ev88.trans ev100.symm
            refine lv_isub hx hb dX5_place_106 ?_
            refine lv_topi (fun v101 ev101 => ?_)
            refine tX_5_2 hx hb hK hP hD hS (f0 := n96) rfl (i := x83_4) (x := v101) (vp_in_iff.mpr ⟨by omega, by omega⟩) dX5_place_107 (fun f102 ef102 H locs hP hD hS => ?_)
            have hf102 : ∀ j, inb (bA 5 2 j) (f102 j) := fun j => full_i _
            have hP : va_P (dC, dI) classes (WX h g ca (u2 iv 5 5 n98) lv (u2 (u2 (u2 fa 5 1 n95) 5 2 f102) 5 3 n97) la) H := hP
            have hD : va_D A (WX h g ca (u2 iv 5 5 n98) lv (u2 (u2 (u2 fa 5 1 n95) 5 2 f102) 5 3 n97) la) := hD
            obtain ⟨v103, ev103⟩ : ∃ y : Int32, y = x83_4 + 1 := ⟨_, rfl⟩
            have tv103 := z_add ev103 rfl (by decide : (1 : Int32).toInt = 1) (by omega) (by omega)
            refine lv_iinc (v := v103) (lv' := [(4, .int v103), (0, .ref (g 11 7)), (1, .int 4), (2, .int mm), (3, .int q)]) hx hb dX5_place_108 hl (k := 0) rfl (by rw [ev103]; rfl) (by decide) rfl (fun ls hl => ?_)
            refine lv_goto (tgt := 43) hx hb dX5_place_111 (by decide) ?_
            exact ih84 v103 n98 n95 f102 n97 ⟨by omega, by omega⟩ hn95 hf102 hn97 (show ∀ x0 bw : Nat, OrP ((iv 5 4).toInt).toNat ((mm).toInt).toNat (fa 5 0) (fa 5 1) (fa 5 2) 4 x0 (q).toInt → OrB ((iv 5 4).toInt).toNat ((mm).toInt).toNat (fa 5 3) (iv 5 5).toInt bw → OrQ ((iv 5 4).toInt).toNat ((mm).toInt).toNat (fa 5 0) x0 bw (iv 5 5).toInt (((v103 : Int32).toInt).toNat * ((mm).toInt).toNat ^ (((iv 5 4).toInt).toNat - (4 + 1))) (n98 : Int32).toInt n97 from (fun x0 bw h1 h2 => by
                  have z9 : (4 : Int32).toNatClampNeg = 4 := (by decide)
                  have hl9 : (x83_4 : Int32).toNatClampNeg = ((x83_4 : Int32).toInt).toNat := rfl
                  have ht1 : ∀ j : Nat, j < 4 → f86 j = fa 5 1 j := fun j hj => by rw [ef86, z9, upd_ne (by omega : j ≠ 4)]; exact hq84_2 j hj
                  have hv1 : v87 = fa 5 2 ((x83_4 : Int32).toInt).toNat := (show v87 = w83_a_5_2 ((x83_4 : Int32).toInt).toNat from ev87).trans (hq84_1 _)
                  have hv2 : v88 = fa 5 0 4 := (show v88 = fa 5 0 ((4 : Int32).toNatClampNeg) from ev88).trans (by rw [z9])
                  have he1 : f90 ((x83_4 : Int32).toInt).toNat = v89 := by rw [ef90, hl9]; exact upd_eq
                  have he2 : ∀ j : Nat, j ≠ ((x83_4 : Int32).toInt).toNat → f90 j = fa 5 2 j := fun j hj => by rw [ef90, hl9, upd_ne hj]; exact hq84_1 j
                  have hs9 : ((v103 : Int32).toInt).toNat = ((x83_4 : Int32).toInt).toNat + 1 := by omega
                  have hq9 := hq84_0 x0 bw h1 h2
                  have ht2 : f86 4 = x83_4 := by rw [ef86, z9]; exact upd_eq
                  have ht3 : (f86 4).toInt = ((((x83_4 : Int32).toInt).toNat : Nat) : Int) := by rw [ht2]; omega
                  have hv5 := congrArg Int32.toInt (show v92 = f90 ((x83_4 : Int32).toInt).toNat from ev92)
                  have hd9 : OrP ((iv 5 4).toInt).toNat ((mm).toInt).toNat (fa 5 0) f86 f90 5 (x0 + ((x83_4 : Int32).toInt).toNat * ((mm).toInt).toNat ^ (((iv 5 4).toInt).toNat - (4 + 1))) (v93 : Int32).toInt := Or_dn h1 (by omega) (by omega) ht1 ht3 (fun j _ hj => he2 j hj) (he1.trans (ev89.trans (by rw [hv1, hv2]))) (by omega) (by omega) (by omega)
                  exact Or_st hs9 hq9 (xr94_0 _ _ hd9 hq9.2))) (show ∀ j : Nat, f102 j = fa 5 2 j from (fun j => by
                  have z9 : (4 : Int32).toNatClampNeg = 4 := (by decide)
                  have hl9 : (x83_4 : Int32).toNatClampNeg = ((x83_4 : Int32).toInt).toNat := rfl
                  have ht1 : ∀ j : Nat, j < 4 → f86 j = fa 5 1 j := fun j hj => by rw [ef86, z9, upd_ne (by omega : j ≠ 4)]; exact hq84_2 j hj
                  have hv1 : v87 = fa 5 2 ((x83_4 : Int32).toInt).toNat := (show v87 = w83_a_5_2 ((x83_4 : Int32).toInt).toNat from ev87).trans (hq84_1 _)
                  have hv2 : v88 = fa 5 0 4 := (show v88 = fa 5 0 ((4 : Int32).toNatClampNeg) from ev88).trans (by rw [z9])
                  have he1 : f90 ((x83_4 : Int32).toInt).toNat = v89 := by rw [ef90, hl9]; exact upd_eq
                  have he2 : ∀ j : Nat, j ≠ ((x83_4 : Int32).toInt).toNat → f90 j = fa 5 2 j := fun j hj => by rw [ef90, hl9, upd_ne hj]; exact hq84_1 j
                  have hv4 : v99 = v89 := (show v99 = n96 ((x83_4 : Int32).toInt).toNat from ev99).trans ((xr94_1 _).trans he1)
                  by_cases hj : j = ((x83_4 : Int32).toInt).toNat
                  · have hx9 : f102 ((x83_4 : Int32).toInt).toNat = v101 := by rw [ef102, hl9]; exact upd_eq
                    rw [hj, hx9, ev101, hv4, ev89, Int32.add_sub_cancel]
                    exact hv1
                  · rw [ef102, hl9, upd_ne hj, xr94_1 j]; exact he2 j hj)) (show ∀ j : Nat, j < 4 → n95 j = fa 5 1 j from (fun j hj => by
                  have z9 : (4 : Int32).toNatClampNeg = 4 := (by decide)
                  have hl9 : (x83_4 : Int32).toNatClampNeg = ((x83_4 : Int32).toInt).toNat := rfl
                  have ht1 : ∀ j : Nat, j < 4 → f86 j = fa 5 1 j := fun j hj => by rw [ef86, z9, upd_ne (by omega : j ≠ 4)]; exact hq84_2 j hj
                  have hv1 : v87 = fa 5 2 ((x83_4 : Int32).toInt).toNat := (show v87 = w83_a_5_2 ((x83_4 : Int32).toInt).toNat from ev87).trans (hq84_1 _)
                  have hv2 : v88 = fa 5 0 4 := (show v88 = fa 5 0 ((4 : Int32).toNatClampNeg) from ev88).trans (by rw [z9])
                  have he1 : f90 ((x83_4 : Int32).toInt).toNat = v89 := by rw [ef90, hl9]; exact upd_eq
                  have he2 : ∀ j : Nat, j ≠ ((x83_4 : Int32).toInt).toNat → f90 j = fa 5 2 j := fun j hj => by rw [ef90, hl9, upd_ne hj]; exact hq84_1 j
                  rw [xr94_2 j (by omega)]; exact ht1 j hj)) (show (v103 : Int32).toInt ≤ (mm).toInt from by omega) (by omega) _ _ ls hP hD hS (lv_sub hl [0, 1, 2, 3, 4] rfl)
      have : (0 : Int32).toInt = 0 := (by decide)
      exact lp84 4 0 (iv 5 5) (fa 5 1) (fa 5 2) (fa 5 3) ⟨by decide, by decide⟩ (hI.2 5 1) (hI.2 5 2) (hI.2 5 3) (show ∀ x0 bw : Nat, OrP ((iv 5 4).toInt).toNat ((mm).toInt).toNat (fa 5 0) (fa 5 1) (fa 5 2) 4 x0 (q).toInt → OrB ((iv 5 4).toInt).toNat ((mm).toInt).toNat (fa 5 3) (iv 5 5).toInt bw → OrQ ((iv 5 4).toInt).toNat ((mm).toInt).toNat (fa 5 0) x0 bw (iv 5 5).toInt (((0 : Int32).toInt).toNat * ((mm).toInt).toNat ^ (((iv 5 4).toInt).toNat - (4 + 1))) ((iv 5 5) : Int32).toInt (fa 5 3) from (fun x0 bw h1 h2 => by
            have hz : ((0 : Int32).toInt).toNat = 0 := (by decide)
            rw [hz, Nat.zero_mul]
            exact Or_q0 h2)) (show ∀ j : Nat, (fa 5 2) j = fa 5 2 j from (fun j => rfl)) (show ∀ j : Nat, j < 4 → (fa 5 1) j = fa 5 1 j from (fun j hj => rfl)) (show (0 : Int32).toInt ≤ (mm).toInt from by omega) (by first | decide | omega) _ _ ls hP hD hS (lv_sub hl [0, 1, 2, 3, 4] rfl)
    · have fc2 := z_nlt (by decide : (4 : Int32).toInt = 4) (rfl : ((iv 5 4)).toInt = _) c2
      refine lv_aload_n hx hb dX5_place_17 rfl (lv_at hl 0 rfl) ?_
      refine lv_iload_n hx hb dX5_place_18 rfl (lv_at hl 3 rfl) ?_
      refine pX_5_5 (v := q) hx hb ht hown hK hP hD hS m_342 dX5_place_19 (fun H locs hP hD hS => ?_)
      refine lv_aload_n hx hb dX5_place_22 rfl (lv_at hl 0 rfl) ?_
      refine gX_5_1 hx hb ht hown hK hP m_336 dX5_place_23 ?_
      refine lv_iconst (v := 0) hx hb dX5_place_26 (by decide) ?_
      refine lv_aload_n hx hb dX5_place_27 rfl (lv_at hl 0 rfl) ?_
      refine gX_5_3 hx hb ht hown hK hP m_338 dX5_place_28 ?_
      refine lv_iconst (v := 0) hx hb dX5_place_31 (by decide) ?_
      refine lv_aload_n hx hb dX5_place_32 rfl (lv_at hl 0 rfl) ?_
      refine gX_5_4 hx hb ht hown hK hP m_340 (v := (iv 5 4)) rfl dX5_place_33 ?_
      have hn9 : ((iv 5 4) : Int32).toNatClampNeg ≤ 8 := by show ((((iv 5 4) : Int32).toInt).toNat : Nat) ≤ 8; omega
      refine va_copyi (D := (dC, dI)) (ty := .int) (f := (fa 5 1)) (g := (fa 5 3)) hx hb (hml.trans hl.1.symm) hown (ht _ m_1022) (ht _ m_1024) (ht _ m_1023) (ht _ m_95) hK hP hD hS 34 36 21 23 rfl rfl rfl rfl rfl (by decide) (by decide) (fun q9 => by have := Int32.lt_iff_toInt_lt.mp q9; have h0 : (0 : Int32).toInt = 0 := rfl; omega) (by show (0 : Nat) + _ ≤ 8; omega) (by show (0 : Nat) + _ ≤ 8; omega) (fun i hi => rfl) (Nat.le_of_ble_eq_true rfl) (by rw [nfw]; exact Nat.le_of_ble_eq_true rfl) dX5_place_36 (fun H locs hP hD hS => ?_)
      rw [aX_5_3] at hP hD
      obtain ⟨f104, ef104⟩ : ∃ f : Nat → Int32, f = va_cpy (fa 5 1) (fa 5 3) (0 : Int32).toNatClampNeg (0 : Int32).toNatClampNeg ((iv 5 4) : Int32).toNatClampNeg := ⟨_, rfl⟩
      rw [← ef104] at hP hD
      have hf104 : ∀ j, inb (bA 5 3 j) (f104 j) := fun j => full_i _
      have hP9 : va_P (dC, dI) classes (WX h g ca (u2 iv 5 5 q) lv (u2 (u2 (u2 fa 5 1 (fa 5 1)) 5 2 (fa 5 2)) 5 3 f104) la) H := hP
      have hD9 : va_D A (WX h g ca (u2 iv 5 5 q) lv (u2 (u2 (u2 fa 5 1 (fa 5 1)) 5 2 (fa 5 2)) 5 3 f104) la) := hD
      exact W.vret hx hb hr (fun t ht9 hW => ⟨⟨((u2 iv 5 5 q), lv, (u2 (u2 (u2 fa 5 1 (fa 5 1)) 5 2 (fa 5 2)) 5 3 f104), la), rfl, ⟨(fa 5 1), (fa 5 2), f104, q, (show ∀ x0 bw : Nat, OrP ((iv 5 4).toInt).toNat ((mm).toInt).toNat (fa 5 0) (fa 5 1) (fa 5 2) 4 x0 (q).toInt → OrB ((iv 5 4).toInt).toNat ((mm).toInt).toNat (fa 5 3) (iv 5 5).toInt bw → OrQ ((iv 5 4).toInt).toNat ((mm).toInt).toNat (fa 5 0) x0 bw (iv 5 5).toInt (((mm).toInt).toNat ^ (((iv 5 4).toInt).toNat - 4)) (q : Int32).toInt f104 from (fun x0 bw h1 h2 => Or_ql h1 (by omega) (by omega) (fun j hj => by rw [ef104]; exact Or_cpy (by decide) hj))), (show ∀ j : Nat, (fa 5 2) j = (fa 5 2) j from (fun j => rfl)), (show ∀ j : Nat, j < 4 → (fa 5 1) j = (fa 5 1) j from (fun j hj => rfl)), rfl⟩, by rw [ht9]; exact hP9, hD9⟩, hS.F ht9⟩) hS.2.2 dX5_place_39
  · have fc1 := z_nlt (rfl : (q).toInt = _) (rfl : ((iv 5 5)).toInt = _) c1
    have hP9 : va_P (dC, dI) classes (WX h g ca (u2 iv 5 5 (iv 5 5)) lv (u2 (u2 (u2 fa 5 1 (fa 5 1)) 5 2 (fa 5 2)) 5 3 (fa 5 3)) la) s.heap := hP
    have hD9 : va_D A (WX h g ca (u2 iv 5 5 (iv 5 5)) lv (u2 (u2 (u2 fa 5 1 (fa 5 1)) 5 2 (fa 5 2)) 5 3 (fa 5 3)) la) := hD
    exact W.vret hx hb hr (fun t ht9 hW => ⟨⟨((u2 iv 5 5 (iv 5 5)), lv, (u2 (u2 (u2 fa 5 1 (fa 5 1)) 5 2 (fa 5 2)) 5 3 (fa 5 3)), la), rfl, ⟨(fa 5 1), (fa 5 2), (fa 5 3), (iv 5 5), (show ∀ x0 bw : Nat, OrP ((iv 5 4).toInt).toNat ((mm).toInt).toNat (fa 5 0) (fa 5 1) (fa 5 2) 4 x0 (q).toInt → OrB ((iv 5 4).toInt).toNat ((mm).toInt).toNat (fa 5 3) (iv 5 5).toInt bw → OrQ ((iv 5 4).toInt).toNat ((mm).toInt).toNat (fa 5 0) x0 bw (iv 5 5).toInt (((mm).toInt).toNat ^ (((iv 5 4).toInt).toNat - 4)) ((iv 5 5) : Int32).toInt (fa 5 3) from (fun x0 bw h1 h2 => Or_qs h1 h2 (by omega))), (show ∀ j : Nat, (fa 5 2) j = (fa 5 2) j from (fun j => rfl)), (show ∀ j : Nat, j < 4 → (fa 5 1) j = (fa 5 1) j from (fun j hj => rfl)), rfl⟩, by rw [ht9]; exact hP9, hD9⟩, hS.F ht9⟩) hS.2.2 dX5_place_8
set_option maxHeartbeats 4000000 in
set_option maxRecDepth 100000 in
/-- X5_place -/
theorem c_X5_place_w3 (l : Launch) (dC : Nat → ClassId) (dI : Nat → Nat → Nat) (sz : Nat) (h : Nat) (g : Nat → Nat → Nat) (ca : Nat → Nat → ClassId) (iv : Nat → Nat → Int32) (lv : Nat → Nat → Int64) (fa : Nat → Nat → Nat → Int32) (la : Nat → Nat → Nat → Int64) (hI : IX iv fa) (mm : Int32) (q : Int32) (h_mm : 1 ≤ mm.toInt ∧ mm.toInt ≤ 3) : Met l yX5_place (wc yX5_place cX5_place 5 none) ({ frames := 6, cells := 0, slots := 0, locals := 180 } : Room) (pW (dC, dI) classes (WX h g ca iv lv fa la) (TX ca) sz [.ref (g 11 7), .int 3, .int mm, .int q]) (va_Qv (fun (u : SS) => ∃ (na_5_1 : Nat → Int32) (na_5_2 : Nat → Int32) (na_5_3 : Nat → Int32) (ni_5_5 : Int32), (∀ x0 bw : Nat, OrP ((iv 5 4).toInt).toNat (mm.toInt).toNat (fa 5 0) (fa 5 1) (fa 5 2) 3 x0 q.toInt → OrB ((iv 5 4).toInt).toNat (mm.toInt).toNat (fa 5 3) (iv 5 5).toInt bw → OrQ ((iv 5 4).toInt).toNat (mm.toInt).toNat (fa 5 0) x0 bw (iv 5 5).toInt ((mm.toInt).toNat ^ (((iv 5 4).toInt).toNat - 3)) (ni_5_5).toInt na_5_3) ∧ (∀ j : Nat, na_5_2 j = (fa 5 2) j) ∧ (∀ j : Nat, j < 3 → na_5_1 j = (fa 5 1) j) ∧ u = ((u2 iv 5 5 ni_5_5), lv, (u2 (u2 (u2 fa 5 1 na_5_1) 5 2 na_5_2) 5 3 na_5_3), la)) (bX (dC, dI) h g ca (va_A (WX h g ca iv lv fa la) sz)) (va_A (WX h g ca iv lv fa la) sz)) 0 0 (va_A (WX h g ca iv lv fa la) sz) := by
  refine Met.ofW (cc := cX5_place) (maxL := 5) (ret := none) (by decide) rfl ?_
  intro p e s m args below meth c s₁ B hml hv
  obtain ⟨rfl, hsz, hP, hK, hD0⟩ := hv
  have hx := B.exec
  have hb := B.bytes
  have hr := B.returns
  have ht := tb_tl (atoms_spec (ws := wc yX5_place cX5_place 5 none) B.pre)
  have hown : s.vm.findClass RX5 = some m.cls := findClass_of_methodNamed B.named
  have hlocks := B.notSynchronized
  subst hsz
  have hD := hD0.self (sz := s.heap.size)
  generalize hAe : va_A (WX h g ca iv lv fa la) s.heap.size = A at hD ⊢
  have hA : ∀ q : Nat, s.heap.size ≤ q → A q := fun q h => by rw [← hAe]; exact Or.inr h
  have hS : va_S A s.heap s.heap [] := va_S.rf
  have hl := lv_entry [.ref (g 11 7), .int 3, .int mm, .int q] (n := 5) (Nat.le_of_ble_eq_true rfl)
  rw [lg_entry_eq]
  generalize (lg_sl [.ref (g 11 7), .int 3, .int mm, .int q] ++ List.replicate (5 - (lg_sl [.ref (g 11 7), .int 3, .int mm, .int q]).length) Slot.unset).toArray = ls at hl ⊢
  have hl : lv_has ls 5 [(0, .ref (g 11 7)), (1, .int 3), (2, .int mm), (3, .int q)] := hl
  refine lv_iload_n hx hb dX5_place_0 rfl (lv_at hl 3 rfl) ?_
  refine lv_aload_n hx hb dX5_place_1 rfl (lv_at hl 0 rfl) ?_
  refine gX_5_5 hx hb ht hown hK hP m_342 (v := (iv 5 5)) rfl dX5_place_2 ?_
  refine lv_icmp_lt (tgt := 9) hx hb dX5_place_5 (by decide) (fun c1 => ?_) (fun c1 => ?_)
  · have fc1 := z_lt (rfl : (q).toInt = _) (rfl : ((iv 5 5)).toInt = _) c1
    refine lv_iload_n hx hb dX5_place_9 rfl (lv_at hl 1 rfl) ?_
    refine lv_aload_n hx hb dX5_place_10 rfl (lv_at hl 0 rfl) ?_
    have i_5_4 : 0 ≤ (iv 5 4).toInt ∧ (iv 5 4).toInt ≤ 8 := hI.1 5 4
    refine gX_5_4 hx hb ht hown hK hP m_340 (v := (iv 5 4)) rfl dX5_place_11 ?_
    refine lv_icmp_lt (tgt := 40) hx hb dX5_place_14 (by decide) (fun c2 => ?_) (fun c2 => ?_)
    · have fc2 := z_lt (by decide : (3 : Int32).toInt = 3) (rfl : ((iv 5 4)).toInt = _) c2
      refine lv_iconst (v := 0) hx hb dX5_place_40 (by decide) ?_
      refine lv_istore (lv' := [(4, .int 0), (0, .ref (g 11 7)), (1, .int 3), (2, .int mm), (3, .int q)]) hx hb dX5_place_41 hl (by decide) rfl (fun ls hl => ?_)
      have lp84 : ∀ (nn84 : Nat) (x83_4 : Int32) (w83_i_5_5 : Int32) (w83_a_5_1 : Nat → Int32) (w83_a_5_2 : Nat → Int32) (w83_a_5_3 : Nat → Int32), 0 ≤ x83_4.toInt ∧ x83_4.toInt ≤ 3 → (∀ j, inb (bA 5 1 j) (w83_a_5_1 j)) → (∀ j, inb (bA 5 2 j) (w83_a_5_2 j)) → (∀ j, inb (bA 5 3 j) (w83_a_5_3 j)) → (∀ x0 bw : Nat, OrP ((iv 5 4).toInt).toNat ((mm).toInt).toNat (fa 5 0) (fa 5 1) (fa 5 2) 3 x0 (q).toInt → OrB ((iv 5 4).toInt).toNat ((mm).toInt).toNat (fa 5 3) (iv 5 5).toInt bw → OrQ ((iv 5 4).toInt).toNat ((mm).toInt).toNat (fa 5 0) x0 bw (iv 5 5).toInt (((x83_4 : Int32).toInt).toNat * ((mm).toInt).toNat ^ (((iv 5 4).toInt).toNat - (3 + 1))) (w83_i_5_5 : Int32).toInt w83_a_5_3) → (∀ j : Nat, w83_a_5_2 j = fa 5 2 j) → (∀ j : Nat, j < 3 → w83_a_5_1 j = fa 5 1 j) → (x83_4 : Int32).toInt ≤ (mm).toInt → 3 - x83_4.toInt < (nn84 : Int) → ∀ (H : Heap) (locs : List Loc), ∀ (ls : Array Slot), va_P (dC, dI) classes (WX h g ca (u2 iv 5 5 w83_i_5_5) lv (u2 (u2 (u2 fa 5 1 w83_a_5_1) 5 2 w83_a_5_2) 5 3 w83_a_5_3) la) H → va_D A (WX h g ca (u2 iv 5 5 w83_i_5_5) lv (u2 (u2 (u2 fa 5 1 w83_a_5_1) 5 2 w83_a_5_2) 5 3 w83_a_5_3) la) → va_S A s.heap H locs → lv_has ls 5 [(4, .int x83_4), (0, .ref (g 11 7)), (1, .int 3), (2, .int mm), (3, .int q)] → W p l e ({ frames := 6, cells := 0, slots := 0, locals := 180 } : Room) s m ([.ref (g 11 7), .int 3, .int mm, .int q] : List Value).toArray below meth c H locs 0 0 (MQ below (va_Qv (fun (u : SS) => ∃ (na_5_1 : Nat → Int32) (na_5_2 : Nat → Int32) (na_5_3 : Nat → Int32) (ni_5_5 : Int32), (∀ x0 bw : Nat, OrP ((iv 5 4).toInt).toNat (mm.toInt).toNat (fa 5 0) (fa 5 1) (fa 5 2) 3 x0 q.toInt → OrB ((iv 5 4).toInt).toNat (mm.toInt).toNat (fa 5 3) (iv 5 5).toInt bw → OrQ ((iv 5 4).toInt).toNat (mm.toInt).toNat (fa 5 0) x0 bw (iv 5 5).toInt ((mm.toInt).toNat ^ (((iv 5 4).toInt).toNat - 3)) (ni_5_5).toInt na_5_3) ∧ (∀ j : Nat, na_5_2 j = (fa 5 2) j) ∧ (∀ j : Nat, j < 3 → na_5_1 j = (fa 5 1) j) ∧ u = ((u2 iv 5 5 ni_5_5), lv, (u2 (u2 (u2 fa 5 1 na_5_1) 5 2 na_5_2) 5 3 na_5_3), la)) (bX (dC, dI) h g ca A) A) ([.ref (g 11 7), .int 3, .int mm, .int q] : List Value).toArray s 0 0 A) (F0 m 43 ls []) := by
        intro nn84
        induction nn84 with
        | zero => intro x83_4 w83_i_5_5 w83_a_5_1 w83_a_5_2 w83_a_5_3 hx83_4 hw83_a_5_1 hw83_a_5_2 hw83_a_5_3 hq84_0 hq84_1 hq84_2 hq84_3 hm84; exfalso; omega
        | succ nn84 ih84 =>
          intro x83_4 w83_i_5_5 w83_a_5_1 w83_a_5_2 w83_a_5_3 hx83_4 hw83_a_5_1 hw83_a_5_2 hw83_a_5_3 hq84_0 hq84_1 hq84_2 hq84_3 hm84 H locs ls hP hD hS hl
          refine lv_iload hx hb dX5_place_43 (lv_at hl 0 rfl) ?_
          refine lv_iload_n hx hb dX5_place_45 rfl (lv_at hl 3 rfl) ?_
          refine lv_icmp_ge (tgt := 114) hx hb dX5_place_46 (by decide) (fun c85 => ?_) (fun c85 => ?_)
          · have fc85 := z_le (rfl : (mm).toInt = _) (rfl : (x83_4).toInt = _) c85
            have hP9 : va_P (dC, dI) classes (WX h g ca (u2 iv 5 5 w83_i_5_5) lv (u2 (u2 (u2 fa 5 1 w83_a_5_1) 5 2 w83_a_5_2) 5 3 w83_a_5_3) la) H := hP
            have hD9 : va_D A (WX h g ca (u2 iv 5 5 w83_i_5_5) lv (u2 (u2 (u2 fa 5 1 w83_a_5_1) 5 2 w83_a_5_2) 5 3 w83_a_5_3) la) := hD
            exact W.vret hx hb hr (fun t ht9 hW => ⟨⟨((u2 iv 5 5 w83_i_5_5), lv, (u2 (u2 (u2 fa 5 1 w83_a_5_1) 5 2 w83_a_5_2) 5 3 w83_a_5_3), la), rfl, ⟨w83_a_5_1, w83_a_5_2, w83_a_5_3, w83_i_5_5, (show ∀ x0 bw : Nat, OrP ((iv 5 4).toInt).toNat ((mm).toInt).toNat (fa 5 0) (fa 5 1) (fa 5 2) 3 x0 (q).toInt → OrB ((iv 5 4).toInt).toNat ((mm).toInt).toNat (fa 5 3) (iv 5 5).toInt bw → OrQ ((iv 5 4).toInt).toNat ((mm).toInt).toNat (fa 5 0) x0 bw (iv 5 5).toInt (((mm).toInt).toNat ^ (((iv 5 4).toInt).toNat - 3)) (w83_i_5_5 : Int32).toInt w83_a_5_3 from (fun x0 bw h1 h2 => by
                  have hq9 := hq84_0 x0 bw h1 h2
                  rw [show ((x83_4 : Int32).toInt).toNat = ((mm).toInt).toNat from by omega, Or_pw (by omega)] at hq9
                  exact hq9)), (show ∀ j : Nat, w83_a_5_2 j = (fa 5 2) j from hq84_1), (show ∀ j : Nat, j < 3 → w83_a_5_1 j = (fa 5 1) j from hq84_2), rfl⟩, by rw [ht9]; exact hP9, hD9⟩, hS.F ht9⟩) hS.2.2 dX5_place_114
          · have fc85 := z_nle (rfl : (mm).toInt = _) (rfl : (x83_4).toInt = _) c85
            refine lv_aload_n hx hb dX5_place_49 rfl (lv_at hl 1 rfl) ?_
            refine gX_5_1 hx hb ht hown hK hP m_336 dX5_place_50 ?_
            refine lv_iload_n hx hb dX5_place_53 rfl (lv_at hl 2 rfl) ?_
            refine lv_iload hx hb dX5_place_54 (lv_at hl 0 rfl) ?_
            refine tX_5_1 hx hb hK hP hD hS (f0 := w83_a_5_1) rfl (i := 3) (x := x83_4) (vp_in_iff.mpr (by decide)) dX5_place_56 (fun f86 ef86 H locs hP hD hS => ?_)
            have hf86 : ∀ j, inb (bA 5 1 j) (f86 j) := fun j => full_i _
            have hP : va_P (dC, dI) classes (WX h g ca (u2 iv 5 5 w83_i_5_5) lv (u2 (u2 (u2 fa 5 1 f86) 5 2 w83_a_5_2) 5 3 w83_a_5_3) la) H := hP
            have hD : va_D A (WX h g ca (u2 iv 5 5 w83_i_5_5) lv (u2 (u2 (u2 fa 5 1 f86) 5 2 w83_a_5_2) 5 3 w83_a_5_3) la) := hD
            refine lv_aload_n hx hb dX5_place_57 rfl (lv_at hl 1 rfl) ?_
            refine gX_5_2 hx hb ht hown hK hP m_337 dX5_place_58 ?_
            refine lv_iload hx hb dX5_place_61 (lv_at hl 0 rfl) ?_
            refine lv_dup2_11 hx hb dX5_place_63 rfl rfl ?_
            refine lX_5_2 hx hb hK hP (f := w83_a_5_2) rfl (vp_in_iff.mpr ⟨by omega, by omega⟩) dX5_place_64 ?_
            refine lv_topi (fun v87 ev87 => ?_)
            refine lv_aload_n hx hb dX5_place_65 rfl (lv_at hl 1 rfl) ?_
            refine gX_5_0 hx hb ht hown hK hP m_335 dX5_place_66 ?_
            refine lv_iload_n hx hb dX5_place_69 rfl (lv_at hl 2 rfl) ?_
            refine lX_5_0 hx hb hK hP (f := (fa 5 0)) rfl (vp_in_iff.mpr (by decide)) dX5_place_70 ?_
            refine lv_topi (fun v88 ev88 => ?_)
            refine lv_iadd hx hb dX5_place_71 ?_
            refine lv_topi (fun v89 ev89 => ?_)
            refine tX_5_2 hx hb hK hP hD hS (f0 := w83_a_5_2) rfl (i := x83_4) (x := v89) (vp_in_iff.mpr ⟨by omega, by omega⟩) dX5_place_72 (fun f90 ef90 H locs hP hD hS => ?_)
            have hf90 : ∀ j, inb (bA 5 2 j) (f90 j) := fun j => full_i _
            have hP : va_P (dC, dI) classes (WX h g ca (u2 iv 5 5 w83_i_5_5) lv (u2 (u2 (u2 fa 5 1 f86) 5 2 f90) 5 3 w83_a_5_3) la) H := hP
            have hD : va_D A (WX h g ca (u2 iv 5 5 w83_i_5_5) lv (u2 (u2 (u2 fa 5 1 f86) 5 2 f90) 5 3 w83_a_5_3) la) := hD
            refine lv_aload_n hx hb dX5_place_73 rfl (lv_at hl 1 rfl) ?_
            refine lv_iload_n hx hb dX5_place_74 rfl (lv_at hl 2 rfl) ?_
            refine lv_iconst (v := 1) hx hb dX5_place_75 (by decide) ?_
            refine lv_iadd hx hb dX5_place_76 ?_
            refine lv_topi (fun v91 ev91 => ?_)
            obtain rfl : 4 = v91 := (ev91.trans (by decide)).symm
            refine lv_iload_n hx hb dX5_place_77 rfl (lv_at hl 3 rfl) ?_
            refine lv_iload_n hx hb dX5_place_78 rfl (lv_at hl 4 rfl) ?_
            refine lv_aload_n hx hb dX5_place_79 rfl (lv_at hl 1 rfl) ?_
            refine gX_5_2 hx hb ht hown hK hP m_337 dX5_place_80 ?_
            refine lv_iload hx hb dX5_place_83 (lv_at hl 0 rfl) ?_
            refine lX_5_2 hx hb hK hP (f := f90) rfl (vp_in_iff.mpr ⟨by omega, by omega⟩) dX5_place_85 ?_
            refine lv_topi (fun v92 ev92 => ?_)
            refine va_mmax hx hb (hml.trans hl.1.symm) hown (ht _ m_1025) (ht _ m_558) (ht _ m_90) (ht _ m_559) (Nat.le_of_ble_eq_true rfl) (Nat.le_of_ble_eq_true rfl) (Nat.le_of_ble_eq_true rfl) (Nat.le_of_ble_eq_true rfl) dX5_place_86 ?_
            refine lv_topi (fun v93 ev93 => ?_)
            have tv93 := mm_or ev93
            have uv93 := mm_max ev93 (rfl : (q).toInt = _) (rfl : (v92).toInt = _)
            have hFc := free_all hD hS hA
            refine va_callv (va_runV (As := [.int 4, .int mm, .int v93]) (rest := []) ⟨hx, hb, hml, hown, ht⟩ (c_X5_place_w4 l dC dI H.size h g ca (u2 iv 5 5 w83_i_5_5) lv (u2 (u2 (u2 fa 5 1 f86) 5 2 f90) 5 3 w83_a_5_3) la (IX_a (c := 5) (k := 3) (IX_a (c := 5) (k := 2) (IX_a (c := 5) (k := 1) (IX_i (c := 5) (k := 5) hI (full_i _)) hf86) hf90) hw83_a_5_3) mm v93 ⟨by omega, by omega⟩) (kV 3 ht m_1018 m_1020 m_41 m_86 m_1021 rfl rfl hd_X5_place_v ⟨Nat.le_of_ble_eq_true rfl, Nat.le_of_ble_eq_true rfl⟩) (vW hP hK hD (rX_5 hK hP)) rfl rfl hl.1 rfl (lv_room (Nat.le_of_ble_eq_true rfl)) dX5_place_89 ⟨Nat.le_of_ble_eq_true rfl, Nat.le_of_ble_eq_true rfl⟩) hS (fun q _ h => hFc q h) hFc (fun u t H1 locs ht9 hvm hr94 hB hz1 hk1 hS => ?_)
            obtain ⟨n95, n96, n97, n98, xr94_0, xr94_1, xr94_2, rfl⟩ := hr94
            have hn95 : ∀ j, inb (bA 5 1 j) (n95 j) := fun j => full_i _
            have hn96 : ∀ j, inb (bA 5 2 j) (n96 j) := fun j => full_i _
            have hn97 : ∀ j, inb (bA 5 3 j) (n97 j) := fun j => full_i _
            obtain ⟨hP, hD⟩ := hB
            rw [ht9] at hP
            generalize H1 = H at hP hS ⊢
            have hP : va_P (dC, dI) classes (WX h g ca (u2 iv 5 5 n98) lv (u2 (u2 (u2 fa 5 1 n95) 5 2 n96) 5 3 n97) la) H := hP
            have hD : va_D A (WX h g ca (u2 iv 5 5 n98) lv (u2 (u2 (u2 fa 5 1 n95) 5 2 n96) 5 3 n97) la) := (show va_D _ (WX h g ca (u2 iv 5 5 n98) lv (u2 (u2 (u2 fa 5 1 n95) 5 2 n96) 5 3 n97) la) from hD).weaken (fun _ _ _ h => hFc _ h)
            have xr94_0 : ∀ x0 bw : Nat, OrP (((iv 5 4) : Int32).toInt).toNat ((mm : Int32).toInt).toNat (fa 5 0) f86 f90 4 x0 (v93 : Int32).toInt → OrB (((iv 5 4) : Int32).toInt).toNat ((mm : Int32).toInt).toNat w83_a_5_3 (w83_i_5_5 : Int32).toInt bw → OrQ (((iv 5 4) : Int32).toInt).toNat ((mm : Int32).toInt).toNat (fa 5 0) x0 bw (w83_i_5_5 : Int32).toInt (((mm : Int32).toInt).toNat ^ ((((iv 5 4) : Int32).toInt).toNat - 4)) (n98 : Int32).toInt n97 := xr94_0
            have xr94_1 : ∀ j : Nat, n96 j = f90 j := xr94_1
            have xr94_2 : ∀ j : Nat, j < 4 → n95 j = f86 j := xr94_2
            refine lv_aload_n hx hb dX5_place_92 rfl (lv_at hl 1 rfl) ?_
            refine gX_5_2 hx hb ht hown hK hP m_337 dX5_place_93 ?_
            refine lv_iload hx hb dX5_place_96 (lv_at hl 0 rfl) ?_
            refine lv_dup2_11 hx hb dX5_place_98 rfl rfl ?_
            refine lX_5_2 hx hb hK hP (f := n96) rfl (vp_in_iff.mpr ⟨by omega, by omega⟩) dX5_place_99 ?_
            refine lv_topi (fun v99 ev99 => ?_)
            refine lv_aload_n hx hb dX5_place_100 rfl (lv_at hl 1 rfl) ?_
            refine gX_5_0 hx hb ht hown hK hP m_335 dX5_place_101 ?_
            refine lv_iload_n hx hb dX5_place_104 rfl (lv_at hl 2 rfl) ?_
            refine lX_5_0 hx hb hK hP (f := (fa 5 0)) rfl (vp_in_iff.mpr (by decide)) dX5_place_105 ?_
            refine lv_topi (fun v100 ev100 => ?_)
            obtain rfl : v88 = v100 := ev88.trans ev100.symm
            refine lv_isub hx hb dX5_place_106 ?_
            refine lv_topi (fun v101 ev101 => ?_)
            refine tX_5_2 hx hb hK hP hD hS (f0 := n96) rfl (i := x83_4) (x := v101) (vp_in_iff.mpr ⟨by omega, by omega⟩) dX5_place_107 (fun f102 ef102 H locs hP hD hS => ?_)
            have hf102 : ∀ j, inb (bA 5 2 j) (f102 j) := fun j => full_i _
            have hP : va_P (dC, dI) classes (WX h g ca (u2 iv 5 5 n98) lv (u2 (u2 (u2 fa 5 1 n95) 5 2 f102) 5 3 n97) la) H := hP
            have hD : va_D A (WX h g ca (u2 iv 5 5 n98) lv (u2 (u2 (u2 fa 5 1 n95) 5 2 f102) 5 3 n97) la) := hD
            obtain ⟨v103, ev103⟩ : ∃ y : Int32, y = x83_4 + 1 := ⟨_, rfl⟩
            have tv103 := z_add ev103 rfl (by decide : (1 : Int32).toInt = 1) (by omega) (by omega)
            refine lv_iinc (v := v103) (lv' := [(4, .int v103), (0, .ref (g 11 7)), (1, .int 3), (2, .int mm), (3, .int q)]) hx hb dX5_place_108 hl (k := 0) rfl (by rw [ev103]; rfl) (by decide) rfl (fun ls hl => ?_)
            refine lv_goto (tgt := 43) hx hb dX5_place_111 (by decide) ?_
            exact ih84 v103 n98 n95 f102 n97 ⟨by omega, by omega⟩ hn95 hf102 hn97 (show ∀ x0 bw : Nat, OrP ((iv 5 4).toInt).toNat ((mm).toInt).toNat (fa 5 0) (fa 5 1) (fa 5 2) 3 x0 (q).toInt → OrB ((iv 5 4).toInt).toNat ((mm).toInt).toNat (fa 5 3) (iv 5 5).toInt bw → OrQ ((iv 5 4).toInt).toNat ((mm).toInt).toNat (fa 5 0) x0 bw (iv 5 5).toInt (((v103 : Int32).toInt).toNat * ((mm).toInt).toNat ^ (((iv 5 4).toInt).toNat - (3 + 1))) (n98 : Int32).toInt n97 from (fun x0 bw h1 h2 => by
                  have z9 : (3 : Int32).toNatClampNeg = 3 := (by decide)
                  have hl9 : (x83_4 : Int32).toNatClampNeg = ((x83_4 : Int32).toInt).toNat := rfl
                  have ht1 : ∀ j : Nat, j < 3 → f86 j = fa 5 1 j := fun j hj => by rw [ef86, z9, upd_ne (by omega : j ≠ 3)]; exact hq84_2 j hj
                  have hv1 : v87 = fa 5 2 ((x83_4 : Int32).toInt).toNat := (show v87 = w83_a_5_2 ((x83_4 : Int32).toInt).toNat from ev87).trans (hq84_1 _)
                  have hv2 : v88 = fa 5 0 3 := (show v88 = fa 5 0 ((3 : Int32).toNatClampNeg) from ev88).trans (by rw [z9])
                  have he1 : f90 ((x83_4 : Int32).toInt).toNat = v89 := by rw [ef90, hl9]; exact upd_eq
                  have he2 : ∀ j : Nat, j ≠ ((x83_4 : Int32).toInt).toNat → f90 j = fa 5 2 j := fun j hj => by rw [ef90, hl9, upd_ne hj]; exact hq84_1 j
                  have hs9 : ((v103 : Int32).toInt).toNat = ((x83_4 : Int32).toInt).toNat + 1 := by omega
                  have hq9 := hq84_0 x0 bw h1 h2
                  have ht2 : f86 3 = x83_4 := by rw [ef86, z9]; exact upd_eq
                  have ht3 : (f86 3).toInt = ((((x83_4 : Int32).toInt).toNat : Nat) : Int) := by rw [ht2]; omega
                  have hv5 := congrArg Int32.toInt (show v92 = f90 ((x83_4 : Int32).toInt).toNat from ev92)
                  have hd9 : OrP ((iv 5 4).toInt).toNat ((mm).toInt).toNat (fa 5 0) f86 f90 4 (x0 + ((x83_4 : Int32).toInt).toNat * ((mm).toInt).toNat ^ (((iv 5 4).toInt).toNat - (3 + 1))) (v93 : Int32).toInt := Or_dn h1 (by omega) (by omega) ht1 ht3 (fun j _ hj => he2 j hj) (he1.trans (ev89.trans (by rw [hv1, hv2]))) (by omega) (by omega) (by omega)
                  exact Or_st hs9 hq9 (xr94_0 _ _ hd9 hq9.2))) (show ∀ j : Nat, f102 j = fa 5 2 j from (fun j => by
                  have z9 : (3 : Int32).toNatClampNeg = 3 := (by decide)
                  have hl9 : (x83_4 : Int32).toNatClampNeg = ((x83_4 : Int32).toInt).toNat := rfl
                  have ht1 : ∀ j : Nat, j < 3 → f86 j = fa 5 1 j := fun j hj => by rw [ef86, z9, upd_ne (by omega : j ≠ 3)]; exact hq84_2 j hj
                  have hv1 : v87 = fa 5 2 ((x83_4 : Int32).toInt).toNat := (show v87 = w83_a_5_2 ((x83_4 : Int32).toInt).toNat from ev87).trans (hq84_1 _)
                  have hv2 : v88 = fa 5 0 3 := (show v88 = fa 5 0 ((3 : Int32).toNatClampNeg) from ev88).trans (by rw [z9])
                  have he1 : f90 ((x83_4 : Int32).toInt).toNat = v89 := by rw [ef90, hl9]; exact upd_eq
                  have he2 : ∀ j : Nat, j ≠ ((x83_4 : Int32).toInt).toNat → f90 j = fa 5 2 j := fun j hj => by rw [ef90, hl9, upd_ne hj]; exact hq84_1 j
                  have hv4 : v99 = v89 := (show v99 = n96 ((x83_4 : Int32).toInt).toNat from ev99).trans ((xr94_1 _).trans he1)
                  by_cases hj : j = ((x83_4 : Int32).toInt).toNat
                  · have hx9 : f102 ((x83_4 : Int32).toInt).toNat = v101 := by rw [ef102, hl9]; exact upd_eq
                    rw [hj, hx9, ev101, hv4, ev89, Int32.add_sub_cancel]
                    exact hv1
                  · rw [ef102, hl9, upd_ne hj, xr94_1 j]; exact he2 j hj)) (show ∀ j : Nat, j < 3 → n95 j = fa 5 1 j from (fun j hj => by
                  have z9 : (3 : Int32).toNatClampNeg = 3 := (by decide)
                  have hl9 : (x83_4 : Int32).toNatClampNeg = ((x83_4 : Int32).toInt).toNat := rfl
                  have ht1 : ∀ j : Nat, j < 3 → f86 j = fa 5 1 j := fun j hj => by rw [ef86, z9, upd_ne (by omega : j ≠ 3)]; exact hq84_2 j hj
                  have hv1 : v87 = fa 5 2 ((x83_4 : Int32).toInt).toNat := (show v87 = w83_a_5_2 ((x83_4 : Int32).toInt).toNat from ev87).trans (hq84_1 _)
                  have hv2 : v88 = fa 5 0 3 := (show v88 = fa 5 0 ((3 : Int32).toNatClampNeg) from ev88).trans (by rw [z9])
                  have he1 : f90 ((x83_4 : Int32).toInt).toNat = v89 := by rw [ef90, hl9]; exact upd_eq
                  have he2 : ∀ j : Nat, j ≠ ((x83_4 : Int32).toInt).toNat → f90 j = fa 5 2 j := fun j hj => by rw [ef90, hl9, upd_ne hj]; exact hq84_1 j
                  rw [xr94_2 j (by omega)]; exact ht1 j hj)) (show (v103 : Int32).toInt ≤ (mm).toInt from by omega) (by omega) _ _ ls hP hD hS (lv_sub hl [0, 1, 2, 3, 4] rfl)
      have : (0 : Int32).toInt = 0 := (by decide)
      exact lp84 4 0 (iv 5 5) (fa 5 1) (fa 5 2) (fa 5 3) ⟨by decide, by decide⟩ (hI.2 5 1) (hI.2 5 2) (hI.2 5 3) (show ∀ x0 bw : Nat, OrP ((iv 5 4).toInt).toNat ((mm).toInt).toNat (fa 5 0) (fa 5 1) (fa 5 2) 3 x0 (q).toInt → OrB ((iv 5 4).toInt).toNat ((mm).toInt).toNat (fa 5 3) (iv 5 5).toInt bw → OrQ ((iv 5 4).toInt).toNat ((mm).toInt).toNat (fa 5 0) x0 bw (iv 5 5).toInt (((0 : Int32).toInt).toNat * ((mm).toInt).toNat ^ (((iv 5 4).toInt).toNat - (3 + 1))) ((iv 5 5) : Int32).toInt (fa 5 3) from (fun x0 bw h1 h2 => by
            have hz : ((0 : Int32).toInt).toNat = 0 := (by decide)
            rw [hz, Nat.zero_mul]
            exact Or_q0 h2)) (show ∀ j : Nat, (fa 5 2) j = fa 5 2 j from (fun j => rfl)) (show ∀ j : Nat, j < 3 → (fa 5 1) j = fa 5 1 j from (fun j hj => rfl)) (show (0 : Int32).toInt ≤ (mm).toInt from by omega) (by first | decide | omega) _ _ ls hP hD hS (lv_sub hl [0, 1, 2, 3, 4] rfl)
    · have fc2 := z_nlt (by decide : (3 : Int32).toInt = 3) (rfl : ((iv 5 4)).toInt = _) c2
      refine lv_aload_n hx hb dX5_place_17 rfl (lv_at hl 0 rfl) ?_
      refine lv_iload_n hx hb dX5_place_18 rfl (lv_at hl 3 rfl) ?_
      refine pX_5_5 (v := q) hx hb ht hown hK hP hD hS m_342 dX5_place_19 (fun H locs hP hD hS => ?_)
      refine lv_aload_n hx hb dX5_place_22 rfl (lv_at hl 0 rfl) ?_
      refine gX_5_1 hx hb ht hown hK hP m_336 dX5_place_23 ?_
      refine lv_iconst (v := 0) hx hb dX5_place_26 (by decide) ?_
      refine lv_aload_n hx hb dX5_place_27 rfl (lv_at hl 0 rfl) ?_
      refine gX_5_3 hx hb ht hown hK hP m_338 dX5_place_28 ?_
      refine lv_iconst (v := 0) hx hb dX5_place_31 (by decide) ?_
      refine lv_aload_n hx hb dX5_place_32 rfl (lv_at hl 0 rfl) ?_
      refine gX_5_4 hx hb ht hown hK hP m_340 (v := (iv 5 4)) rfl dX5_place_33 ?_
      have hn9 : ((iv 5 4) : Int32).toNatClampNeg ≤ 8 := by show ((((iv 5 4) : Int32).toInt).toNat : Nat) ≤ 8; omega
      refine va_copyi (D := (dC, dI)) (ty := .int) (f := (fa 5 1)) (g := (fa 5 3)) hx hb (hml.trans hl.1.symm) hown (ht _ m_1022) (ht _ m_1024) (ht _ m_1023) (ht _ m_95) hK hP hD hS 34 36 21 23 rfl rfl rfl rfl rfl (by decide) (by decide) (fun q9 => by have := Int32.lt_iff_toInt_lt.mp q9; have h0 : (0 : Int32).toInt = 0 := rfl; omega) (by show (0 : Nat) + _ ≤ 8; omega) (by show (0 : Nat) + _ ≤ 8; omega) (fun i hi => rfl) (Nat.le_of_ble_eq_true rfl) (by rw [nfw]; exact Nat.le_of_ble_eq_true rfl) dX5_place_36 (fun H locs hP hD hS => ?_)
      rw [aX_5_3] at hP hD
      obtain ⟨f104, ef104⟩ : ∃ f : Nat → Int32, f = va_cpy (fa 5 1) (fa 5 3) (0 : Int32).toNatClampNeg (0 : Int32).toNatClampNeg ((iv 5 4) : Int32).toNatClampNeg := ⟨_, rfl⟩
      rw [← ef104] at hP hD
      have hf104 : ∀ j, inb (bA 5 3 j) (f104 j) := fun j => full_i _
      have hP9 : va_P (dC, dI) classes (WX h g ca (u2 iv 5 5 q) lv (u2 (u2 (u2 fa 5 1 (fa 5 1)) 5 2 (fa 5 2)) 5 3 f104) la) H := hP
      have hD9 : va_D A (WX h g ca (u2 iv 5 5 q) lv (u2 (u2 (u2 fa 5 1 (fa 5 1)) 5 2 (fa 5 2)) 5 3 f104) la) := hD
      exact W.vret hx hb hr (fun t ht9 hW => ⟨⟨((u2 iv 5 5 q), lv, (u2 (u2 (u2 fa 5 1 (fa 5 1)) 5 2 (fa 5 2)) 5 3 f104), la), rfl, ⟨(fa 5 1), (fa 5 2), f104, q, (show ∀ x0 bw : Nat, OrP ((iv 5 4).toInt).toNat ((mm).toInt).toNat (fa 5 0) (fa 5 1) (fa 5 2) 3 x0 (q).toInt → OrB ((iv 5 4).toInt).toNat ((mm).toInt).toNat (fa 5 3) (iv 5 5).toInt bw → OrQ ((iv 5 4).toInt).toNat ((mm).toInt).toNat (fa 5 0) x0 bw (iv 5 5).toInt (((mm).toInt).toNat ^ (((iv 5 4).toInt).toNat - 3)) (q : Int32).toInt f104 from (fun x0 bw h1 h2 => Or_ql h1 (by omega) (by omega) (fun j hj => by rw [ef104]; exact Or_cpy (by decide) hj))), (show ∀ j : Nat, (fa 5 2) j = (fa 5 2) j from (fun j => rfl)), (show ∀ j : Nat, j < 3 → (fa 5 1) j = (fa 5 1) j from (fun j hj => rfl)), rfl⟩, by rw [ht9]; exact hP9, hD9⟩, hS.F ht9⟩) hS.2.2 dX5_place_39
  · have fc1 := z_nlt (rfl : (q).toInt = _) (rfl : ((iv 5 5)).toInt = _) c1
    have hP9 : va_P (dC, dI) classes (WX h g ca (u2 iv 5 5 (iv 5 5)) lv (u2 (u2 (u2 fa 5 1 (fa 5 1)) 5 2 (fa 5 2)) 5 3 (fa 5 3)) la) s.heap := hP
    have hD9 : va_D A (WX h g ca (u2 iv 5 5 (iv 5 5)) lv (u2 (u2 (u2 fa 5 1 (fa 5 1)) 5 2 (fa 5 2)) 5 3 (fa 5 3)) la) := hD
    exact W.vret hx hb hr (fun t ht9 hW => ⟨⟨((u2 iv 5 5 (iv 5 5)), lv, (u2 (u2 (u2 fa 5 1 (fa 5 1)) 5 2 (fa 5 2)) 5 3 (fa 5 3)), la), rfl, ⟨(fa 5 1), (fa 5 2), (fa 5 3), (iv 5 5), (show ∀ x0 bw : Nat, OrP ((iv 5 4).toInt).toNat ((mm).toInt).toNat (fa 5 0) (fa 5 1) (fa 5 2) 3 x0 (q).toInt → OrB ((iv 5 4).toInt).toNat ((mm).toInt).toNat (fa 5 3) (iv 5 5).toInt bw → OrQ ((iv 5 4).toInt).toNat ((mm).toInt).toNat (fa 5 0) x0 bw (iv 5 5).toInt (((mm).toInt).toNat ^ (((iv 5 4).toInt).toNat - 3)) ((iv 5 5) : Int32).toInt (fa 5 3) from (fun x0 bw h1 h2 => Or_qs h1 h2 (by omega))), (show ∀ j : Nat, (fa 5 2) j = (fa 5 2) j from (fun j => rfl)), (show ∀ j : Nat, j < 3 → (fa 5 1) j = (fa 5 1) j from (fun j hj => rfl)), rfl⟩, by rw [ht9]; exact hP9, hD9⟩, hS.F ht9⟩) hS.2.2 dX5_place_8
set_option maxHeartbeats 4000000 in
set_option maxRecDepth 100000 in
/-- X5_place -/
theorem c_X5_place_w2 (l : Launch) (dC : Nat → ClassId) (dI : Nat → Nat → Nat) (sz : Nat) (h : Nat) (g : Nat → Nat → Nat) (ca : Nat → Nat → ClassId) (iv : Nat → Nat → Int32) (lv : Nat → Nat → Int64) (fa : Nat → Nat → Nat → Int32) (la : Nat → Nat → Nat → Int64) (hI : IX iv fa) (mm : Int32) (q : Int32) (h_mm : 1 ≤ mm.toInt ∧ mm.toInt ≤ 3) : Met l yX5_place (wc yX5_place cX5_place 5 none) ({ frames := 7, cells := 0, slots := 0, locals := 204 } : Room) (pW (dC, dI) classes (WX h g ca iv lv fa la) (TX ca) sz [.ref (g 11 7), .int 2, .int mm, .int q]) (va_Qv (fun (u : SS) => ∃ (na_5_1 : Nat → Int32) (na_5_2 : Nat → Int32) (na_5_3 : Nat → Int32) (ni_5_5 : Int32), (∀ x0 bw : Nat, OrP ((iv 5 4).toInt).toNat (mm.toInt).toNat (fa 5 0) (fa 5 1) (fa 5 2) 2 x0 q.toInt → OrB ((iv 5 4).toInt).toNat (mm.toInt).toNat (fa 5 3) (iv 5 5).toInt bw → OrQ ((iv 5 4).toInt).toNat (mm.toInt).toNat (fa 5 0) x0 bw (iv 5 5).toInt ((mm.toInt).toNat ^ (((iv 5 4).toInt).toNat - 2)) (ni_5_5).toInt na_5_3) ∧ (∀ j : Nat, na_5_2 j = (fa 5 2) j) ∧ (∀ j : Nat, j < 2 → na_5_1 j = (fa 5 1) j) ∧ u = ((u2 iv 5 5 ni_5_5), lv, (u2 (u2 (u2 fa 5 1 na_5_1) 5 2 na_5_2) 5 3 na_5_3), la)) (bX (dC, dI) h g ca (va_A (WX h g ca iv lv fa la) sz)) (va_A (WX h g ca iv lv fa la) sz)) 0 0 (va_A (WX h g ca iv lv fa la) sz) := by
  refine Met.ofW (cc := cX5_place) (maxL := 5) (ret := none) (by decide) rfl ?_
  intro p e s m args below meth c s₁ B hml hv
  obtain ⟨rfl, hsz, hP, hK, hD0⟩ := hv
  have hx := B.exec
  have hb := B.bytes
  have hr := B.returns
  have ht := tb_tl (atoms_spec (ws := wc yX5_place cX5_place 5 none) B.pre)
  have hown : s.vm.findClass RX5 = some m.cls := findClass_of_methodNamed B.named
  have hlocks := B.notSynchronized
  subst hsz
  have hD := hD0.self (sz := s.heap.size)
  generalize hAe : va_A (WX h g ca iv lv fa la) s.heap.size = A at hD ⊢
  have hA : ∀ q : Nat, s.heap.size ≤ q → A q := fun q h => by rw [← hAe]; exact Or.inr h
  have hS : va_S A s.heap s.heap [] := va_S.rf
  have hl := lv_entry [.ref (g 11 7), .int 2, .int mm, .int q] (n := 5) (Nat.le_of_ble_eq_true rfl)
  rw [lg_entry_eq]
  generalize (lg_sl [.ref (g 11 7), .int 2, .int mm, .int q] ++ List.replicate (5 - (lg_sl [.ref (g 11 7), .int 2, .int mm, .int q]).length) Slot.unset).toArray = ls at hl ⊢
  have hl : lv_has ls 5 [(0, .ref (g 11 7)), (1, .int 2), (2, .int mm), (3, .int q)] := hl
  refine lv_iload_n hx hb dX5_place_0 rfl (lv_at hl 3 rfl) ?_
  refine lv_aload_n hx hb dX5_place_1 rfl (lv_at hl 0 rfl) ?_
  refine gX_5_5 hx hb ht hown hK hP m_342 (v := (iv 5 5)) rfl dX5_place_2 ?_
  refine lv_icmp_lt (tgt := 9) hx hb dX5_place_5 (by decide) (fun c1 => ?_) (fun c1 => ?_)
  · have fc1 := z_lt (rfl : (q).toInt = _) (rfl : ((iv 5 5)).toInt = _) c1
    refine lv_iload_n hx hb dX5_place_9 rfl (lv_at hl 1 rfl) ?_
    refine lv_aload_n hx hb dX5_place_10 rfl (lv_at hl 0 rfl) ?_
    have i_5_4 : 0 ≤ (iv 5 4).toInt ∧ (iv 5 4).toInt ≤ 8 := hI.1 5 4
    refine gX_5_4 hx hb ht hown hK hP m_340 (v := (iv 5 4)) rfl dX5_place_11 ?_
    refine lv_icmp_lt (tgt := 40) hx hb dX5_place_14 (by decide) (fun c2 => ?_) (fun c2 => ?_)
    · have fc2 := z_lt (by decide : (2 : Int32).toInt = 2) (rfl : ((iv 5 4)).toInt = _) c2
      refine lv_iconst (v := 0) hx hb dX5_place_40 (by decide) ?_
      refine lv_istore (lv' := [(4, .int 0), (0, .ref (g 11 7)), (1, .int 2), (2, .int mm), (3, .int q)]) hx hb dX5_place_41 hl (by decide) rfl (fun ls hl => ?_)
      have lp84 : ∀ (nn84 : Nat) (x83_4 : Int32) (w83_i_5_5 : Int32) (w83_a_5_1 : Nat → Int32) (w83_a_5_2 : Nat → Int32) (w83_a_5_3 : Nat → Int32), 0 ≤ x83_4.toInt ∧ x83_4.toInt ≤ 3 → (∀ j, inb (bA 5 1 j) (w83_a_5_1 j)) → (∀ j, inb (bA 5 2 j) (w83_a_5_2 j)) → (∀ j, inb (bA 5 3 j) (w83_a_5_3 j)) → (∀ x0 bw : Nat, OrP ((iv 5 4).toInt).toNat ((mm).toInt).toNat (fa 5 0) (fa 5 1) (fa 5 2) 2 x0 (q).toInt → OrB ((iv 5 4).toInt).toNat ((mm).toInt).toNat (fa 5 3) (iv 5 5).toInt bw → OrQ ((iv 5 4).toInt).toNat ((mm).toInt).toNat (fa 5 0) x0 bw (iv 5 5).toInt (((x83_4 : Int32).toInt).toNat * ((mm).toInt).toNat ^ (((iv 5 4).toInt).toNat - (2 + 1))) (w83_i_5_5 : Int32).toInt w83_a_5_3) → (∀ j : Nat, w83_a_5_2 j = fa 5 2 j) → (∀ j : Nat, j < 2 → w83_a_5_1 j = fa 5 1 j) → (x83_4 : Int32).toInt ≤ (mm).toInt → 3 - x83_4.toInt < (nn84 : Int) → ∀ (H : Heap) (locs : List Loc), ∀ (ls : Array Slot), va_P (dC, dI) classes (WX h g ca (u2 iv 5 5 w83_i_5_5) lv (u2 (u2 (u2 fa 5 1 w83_a_5_1) 5 2 w83_a_5_2) 5 3 w83_a_5_3) la) H → va_D A (WX h g ca (u2 iv 5 5 w83_i_5_5) lv (u2 (u2 (u2 fa 5 1 w83_a_5_1) 5 2 w83_a_5_2) 5 3 w83_a_5_3) la) → va_S A s.heap H locs → lv_has ls 5 [(4, .int x83_4), (0, .ref (g 11 7)), (1, .int 2), (2, .int mm), (3, .int q)] → W p l e ({ frames := 7, cells := 0, slots := 0, locals := 204 } : Room) s m ([.ref (g 11 7), .int 2, .int mm, .int q] : List Value).toArray below meth c H locs 0 0 (MQ below (va_Qv (fun (u : SS) => ∃ (na_5_1 : Nat → Int32) (na_5_2 : Nat → Int32) (na_5_3 : Nat → Int32) (ni_5_5 : Int32), (∀ x0 bw : Nat, OrP ((iv 5 4).toInt).toNat (mm.toInt).toNat (fa 5 0) (fa 5 1) (fa 5 2) 2 x0 q.toInt → OrB ((iv 5 4).toInt).toNat (mm.toInt).toNat (fa 5 3) (iv 5 5).toInt bw → OrQ ((iv 5 4).toInt).toNat (mm.toInt).toNat (fa 5 0) x0 bw (iv 5 5).toInt ((mm.toInt).toNat ^ (((iv 5 4).toInt).toNat - 2)) (ni_5_5).toInt na_5_3) ∧ (∀ j : Nat, na_5_2 j = (fa 5 2) j) ∧ (∀ j : Nat, j < 2 → na_5_1 j = (fa 5 1) j) ∧ u = ((u2 iv 5 5 ni_5_5), lv, (u2 (u2 (u2 fa 5 1 na_5_1) 5 2 na_5_2) 5 3 na_5_3), la)) (bX (dC, dI) h g ca A) A) ([.ref (g 11 7), .int 2, .int mm, .int q] : List Value).toArray s 0 0 A) (F0 m 43 ls []) := by
        intro nn84
        induction nn84 with
        | zero => intro x83_4 w83_i_5_5 w83_a_5_1 w83_a_5_2 w83_a_5_3 hx83_4 hw83_a_5_1 hw83_a_5_2 hw83_a_5_3 hq84_0 hq84_1 hq84_2 hq84_3 hm84; exfalso; omega
        | succ nn84 ih84 =>
          intro x83_4 w83_i_5_5 w83_a_5_1 w83_a_5_2 w83_a_5_3 hx83_4 hw83_a_5_1 hw83_a_5_2 hw83_a_5_3 hq84_0 hq84_1 hq84_2 hq84_3 hm84 H locs ls hP hD hS hl
          refine lv_iload hx hb dX5_place_43 (lv_at hl 0 rfl) ?_
          refine lv_iload_n hx hb dX5_place_45 rfl (lv_at hl 3 rfl) ?_
          refine lv_icmp_ge (tgt := 114) hx hb dX5_place_46 (by decide) (fun c85 => ?_) (fun c85 => ?_)
          · have fc85 := z_le (rfl : (mm).toInt = _) (rfl : (x83_4).toInt = _) c85
            have hP9 : va_P (dC, dI) classes (WX h g ca (u2 iv 5 5 w83_i_5_5) lv (u2 (u2 (u2 fa 5 1 w83_a_5_1) 5 2 w83_a_5_2) 5 3 w83_a_5_3) la) H := hP
            have hD9 : va_D A (WX h g ca (u2 iv 5 5 w83_i_5_5) lv (u2 (u2 (u2 fa 5 1 w83_a_5_1) 5 2 w83_a_5_2) 5 3 w83_a_5_3) la) := hD
            exact W.vret hx hb hr (fun t ht9 hW => ⟨⟨((u2 iv 5 5 w83_i_5_5), lv, (u2 (u2 (u2 fa 5 1 w83_a_5_1) 5 2 w83_a_5_2) 5 3 w83_a_5_3), la), rfl, ⟨w83_a_5_1, w83_a_5_2, w83_a_5_3, w83_i_5_5, (show ∀ x0 bw : Nat, OrP ((iv 5 4).toInt).toNat ((mm).toInt).toNat (fa 5 0) (fa 5 1) (fa 5 2) 2 x0 (q).toInt → OrB ((iv 5 4).toInt).toNat ((mm).toInt).toNat (fa 5 3) (iv 5 5).toInt bw → OrQ ((iv 5 4).toInt).toNat ((mm).toInt).toNat (fa 5 0) x0 bw (iv 5 5).toInt (((mm).toInt).toNat ^ (((iv 5 4).toInt).toNat - 2)) (w83_i_5_5 : Int32).toInt w83_a_5_3 from (fun x0 bw h1 h2 => by
                  have hq9 := hq84_0 x0 bw h1 h2
                  rw [show ((x83_4 : Int32).toInt).toNat = ((mm).toInt).toNat from by omega, Or_pw (by omega)] at hq9
                  exact hq9)), (show ∀ j : Nat, w83_a_5_2 j = (fa 5 2) j from hq84_1), (show ∀ j : Nat, j < 2 → w83_a_5_1 j = (fa 5 1) j from hq84_2), rfl⟩, by rw [ht9]; exact hP9, hD9⟩, hS.F ht9⟩) hS.2.2 dX5_place_114
          · have fc85 := z_nle (rfl : (mm).toInt = _) (rfl : (x83_4).toInt = _) c85
            refine lv_aload_n hx hb dX5_place_49 rfl (lv_at hl 1 rfl) ?_
            refine gX_5_1 hx hb ht hown hK hP m_336 dX5_place_50 ?_
            refine lv_iload_n hx hb dX5_place_53 rfl (lv_at hl 2 rfl) ?_
            refine lv_iload hx hb dX5_place_54 (lv_at hl 0 rfl) ?_
            refine tX_5_1 hx hb hK hP hD hS (f0 := w83_a_5_1) rfl (i := 2) (x := x83_4) (vp_in_iff.mpr (by decide)) dX5_place_56 (fun f86 ef86 H locs hP hD hS => ?_)
            have hf86 : ∀ j, inb (bA 5 1 j) (f86 j) := fun j => full_i _
            have hP : va_P (dC, dI) classes (WX h g ca (u2 iv 5 5 w83_i_5_5) lv (u2 (u2 (u2 fa 5 1 f86) 5 2 w83_a_5_2) 5 3 w83_a_5_3) la) H := hP
            have hD : va_D A (WX h g ca (u2 iv 5 5 w83_i_5_5) lv (u2 (u2 (u2 fa 5 1 f86) 5 2 w83_a_5_2) 5 3 w83_a_5_3) la) := hD
            refine lv_aload_n hx hb dX5_place_57 rfl (lv_at hl 1 rfl) ?_
            refine gX_5_2 hx hb ht hown hK hP m_337 dX5_place_58 ?_
            refine lv_iload hx hb dX5_place_61 (lv_at hl 0 rfl) ?_
            refine lv_dup2_11 hx hb dX5_place_63 rfl rfl ?_
            refine lX_5_2 hx hb hK hP (f := w83_a_5_2) rfl (vp_in_iff.mpr ⟨by omega, by omega⟩) dX5_place_64 ?_
            refine lv_topi (fun v87 ev87 => ?_)
            refine lv_aload_n hx hb dX5_place_65 rfl (lv_at hl 1 rfl) ?_
            refine gX_5_0 hx hb ht hown hK hP m_335 dX5_place_66 ?_
            refine lv_iload_n hx hb dX5_place_69 rfl (lv_at hl 2 rfl) ?_
            refine lX_5_0 hx hb hK hP (f := (fa 5 0)) rfl (vp_in_iff.mpr (by decide)) dX5_place_70 ?_
            refine lv_topi (fun v88 ev88 => ?_)
            refine lv_iadd hx hb dX5_place_71 ?_
            refine lv_topi (fun v89 ev89 => ?_)
            refine tX_5_2 hx hb hK hP hD hS (f0 := w83_a_5_2) rfl (i := x83_4) (x := v89) (vp_in_iff.mpr ⟨by omega, by omega⟩) dX5_place_72 (fun f90 ef90 H locs hP hD hS => ?_)
            have hf90 : ∀ j, inb (bA 5 2 j) (f90 j) := fun j => full_i _
            have hP : va_P (dC, dI) classes (WX h g ca (u2 iv 5 5 w83_i_5_5) lv (u2 (u2 (u2 fa 5 1 f86) 5 2 f90) 5 3 w83_a_5_3) la) H := hP
            have hD : va_D A (WX h g ca (u2 iv 5 5 w83_i_5_5) lv (u2 (u2 (u2 fa 5 1 f86) 5 2 f90) 5 3 w83_a_5_3) la) := hD
            refine lv_aload_n hx hb dX5_place_73 rfl (lv_at hl 1 rfl) ?_
            refine lv_iload_n hx hb dX5_place_74 rfl (lv_at hl 2 rfl) ?_
            refine lv_iconst (v := 1) hx hb dX5_place_75 (by decide) ?_
            refine lv_iadd hx hb dX5_place_76 ?_
            refine lv_topi (fun v91 ev91 => ?_)
            obtain rfl : 3 = v91 := (ev91.trans (by decide)).symm
            refine lv_iload_n hx hb dX5_place_77 rfl (lv_at hl 3 rfl) ?_
            refine lv_iload_n hx hb dX5_place_78 rfl (lv_at hl 4 rfl) ?_
            refine lv_aload_n hx hb dX5_place_79 rfl (lv_at hl 1 rfl) ?_
            refine gX_5_2 hx hb ht hown hK hP m_337 dX5_place_80 ?_
            refine lv_iload hx hb dX5_place_83 (lv_at hl 0 rfl) ?_
            refine lX_5_2 hx hb hK hP (f := f90) rfl (vp_in_iff.mpr ⟨by omega, by omega⟩) dX5_place_85 ?_
            refine lv_topi (fun v92 ev92 => ?_)
            refine va_mmax hx hb (hml.trans hl.1.symm) hown (ht _ m_1025) (ht _ m_558) (ht _ m_90) (ht _ m_559) (Nat.le_of_ble_eq_true rfl) (Nat.le_of_ble_eq_true rfl) (Nat.le_of_ble_eq_true rfl) (Nat.le_of_ble_eq_true rfl) dX5_place_86 ?_
            refine lv_topi (fun v93 ev93 => ?_)
            have tv93 := mm_or ev93
            have uv93 := mm_max ev93 (rfl : (q).toInt = _) (rfl : (v92).toInt = _)
            have hFc := free_all hD hS hA
            refine va_callv (va_runV (As := [.int 3, .int mm, .int v93]) (rest := []) ⟨hx, hb, hml, hown, ht⟩ (c_X5_place_w3 l dC dI H.size h g ca (u2 iv 5 5 w83_i_5_5) lv (u2 (u2 (u2 fa 5 1 f86) 5 2 f90) 5 3 w83_a_5_3) la (IX_a (c := 5) (k := 3) (IX_a (c := 5) (k := 2) (IX_a (c := 5) (k := 1) (IX_i (c := 5) (k := 5) hI (full_i _)) hf86) hf90) hw83_a_5_3) mm v93 ⟨by omega, by omega⟩) (kV 3 ht m_1018 m_1020 m_41 m_86 m_1021 rfl rfl hd_X5_place_v ⟨Nat.le_of_ble_eq_true rfl, Nat.le_of_ble_eq_true rfl⟩) (vW hP hK hD (rX_5 hK hP)) rfl rfl hl.1 rfl (lv_room (Nat.le_of_ble_eq_true rfl)) dX5_place_89 ⟨Nat.le_of_ble_eq_true rfl, Nat.le_of_ble_eq_true rfl⟩) hS (fun q _ h => hFc q h) hFc (fun u t H1 locs ht9 hvm hr94 hB hz1 hk1 hS => ?_)
            obtain ⟨n95, n96, n97, n98, xr94_0, xr94_1, xr94_2, rfl⟩ := hr94
            have hn95 : ∀ j, inb (bA 5 1 j) (n95 j) := fun j => full_i _
            have hn96 : ∀ j, inb (bA 5 2 j) (n96 j) := fun j => full_i _
            have hn97 : ∀ j, inb (bA 5 3 j) (n97 j) := fun j => full_i _
            obtain ⟨hP, hD⟩ := hB
            rw [ht9] at hP
            generalize H1 = H at hP hS ⊢
            have hP : va_P (dC, dI) classes (WX h g ca (u2 iv 5 5 n98) lv (u2 (u2 (u2 fa 5 1 n95) 5 2 n96) 5 3 n97) la) H := hP
            have hD : va_D A (WX h g ca (u2 iv 5 5 n98) lv (u2 (u2 (u2 fa 5 1 n95) 5 2 n96) 5 3 n97) la) := (show va_D _ (WX h g ca (u2 iv 5 5 n98) lv (u2 (u2 (u2 fa 5 1 n95) 5 2 n96) 5 3 n97) la) from hD).weaken (fun _ _ _ h => hFc _ h)
            have xr94_0 : ∀ x0 bw : Nat, OrP (((iv 5 4) : Int32).toInt).toNat ((mm : Int32).toInt).toNat (fa 5 0) f86 f90 3 x0 (v93 : Int32).toInt → OrB (((iv 5 4) : Int32).toInt).toNat ((mm : Int32).toInt).toNat w83_a_5_3 (w83_i_5_5 : Int32).toInt bw → OrQ (((iv 5 4) : Int32).toInt).toNat ((mm : Int32).toInt).toNat (fa 5 0) x0 bw (w83_i_5_5 : Int32).toInt (((mm : Int32).toInt).toNat ^ ((((iv 5 4) : Int32).toInt).toNat - 3)) (n98 : Int32).toInt n97 := xr94_0
            have xr94_1 : ∀ j : Nat, n96 j = f90 j := xr94_1
            have xr94_2 : ∀ j : Nat, j < 3 → n95 j = f86 j := xr94_2
            refine lv_aload_n hx hb dX5_place_92 rfl (lv_at hl 1 rfl) ?_
            refine gX_5_2 hx hb ht hown hK hP m_337 dX5_place_93 ?_
            refine lv_iload hx hb dX5_place_96 (lv_at hl 0 rfl) ?_
            refine lv_dup2_11 hx hb dX5_place_98 rfl rfl ?_
            refine lX_5_2 hx hb hK hP (f := n96) rfl (vp_in_iff.mpr ⟨by omega, by omega⟩) dX5_place_99 ?_
            refine lv_topi (fun v99 ev99 => ?_)
            refine lv_aload_n hx hb dX5_place_100 rfl (lv_at hl 1 rfl) ?_
            refine gX_5_0 hx hb ht hown hK hP m_335 dX5_place_101 ?_
            refine lv_iload_n hx hb dX5_place_104 rfl (lv_at hl 2 rfl) ?_
            refine lX_5_0 hx hb hK hP (f := (fa 5 0)) rfl (vp_in_iff.mpr (by decide)) dX5_place_105 ?_
            refine lv_topi (fun v100 ev100 => ?_)
            obtain rfl : v88 = v100 := ev88.trans ev100.symm
            refine lv_isub hx hb dX5_place_106 ?_
            refine lv_topi (fun v101 ev101 => ?_)
            refine tX_5_2 hx hb hK hP hD hS (f0 := n96) rfl (i := x83_4) (x := v101) (vp_in_iff.mpr ⟨by omega, by omega⟩) dX5_place_107 (fun f102 ef102 H locs hP hD hS => ?_)
            have hf102 : ∀ j, inb (bA 5 2 j) (f102 j) := fun j => full_i _
            have hP : va_P (dC, dI) classes (WX h g ca (u2 iv 5 5 n98) lv (u2 (u2 (u2 fa 5 1 n95) 5 2 f102) 5 3 n97) la) H := hP
            have hD : va_D A (WX h g ca (u2 iv 5 5 n98) lv (u2 (u2 (u2 fa 5 1 n95) 5 2 f102) 5 3 n97) la) := hD
            obtain ⟨v103, ev103⟩ : ∃ y : Int32, y = x83_4 + 1 := ⟨_, rfl⟩
            have tv103 := z_add ev103 rfl (by decide : (1 : Int32).toInt = 1) (by omega) (by omega)
            refine lv_iinc (v := v103) (lv' := [(4, .int v103), (0, .ref (g 11 7)), (1, .int 2), (2, .int mm), (3, .int q)]) hx hb dX5_place_108 hl (k := 0) rfl (by rw [ev103]; rfl) (by decide) rfl (fun ls hl => ?_)
            refine lv_goto (tgt := 43) hx hb dX5_place_111 (by decide) ?_
            exact ih84 v103 n98 n95 f102 n97 ⟨by omega, by omega⟩ hn95 hf102 hn97 (show ∀ x0 bw : Nat, OrP ((iv 5 4).toInt).toNat ((mm).toInt).toNat (fa 5 0) (fa 5 1) (fa 5 2) 2 x0 (q).toInt → OrB ((iv 5 4).toInt).toNat ((mm).toInt).toNat (fa 5 3) (iv 5 5).toInt bw → OrQ ((iv 5 4).toInt).toNat ((mm).toInt).toNat (fa 5 0) x0 bw (iv 5 5).toInt (((v103 : Int32).toInt).toNat * ((mm).toInt).toNat ^ (((iv 5 4).toInt).toNat - (2 + 1))) (n98 : Int32).toInt n97 from (fun x0 bw h1 h2 => by
                  have z9 : (2 : Int32).toNatClampNeg = 2 := (by decide)
                  have hl9 : (x83_4 : Int32).toNatClampNeg = ((x83_4 : Int32).toInt).toNat := rfl
                  have ht1 : ∀ j : Nat, j < 2 → f86 j = fa 5 1 j := fun j hj => by rw [ef86, z9, upd_ne (by omega : j ≠ 2)]; exact hq84_2 j hj
                  have hv1 : v87 = fa 5 2 ((x83_4 : Int32).toInt).toNat := (show v87 = w83_a_5_2 ((x83_4 : Int32).toInt).toNat from ev87).trans (hq84_1 _)
                  have hv2 : v88 = fa 5 0 2 := (show v88 = fa 5 0 ((2 : Int32).toNatClampNeg) from ev88).trans (by rw [z9])
                  have he1 : f90 ((x83_4 : Int32).toInt).toNat = v89 := by rw [ef90, hl9]; exact upd_eq
                  have he2 : ∀ j : Nat, j ≠ ((x83_4 : Int32).toInt).toNat → f90 j = fa 5 2 j := fun j hj => by rw [ef90, hl9, upd_ne hj]; exact hq84_1 j
                  have hs9 : ((v103 : Int32).toInt).toNat = ((x83_4 : Int32).toInt).toNat + 1 := by omega
                  have hq9 := hq84_0 x0 bw h1 h2
                  have ht2 : f86 2 = x83_4 := by rw [ef86, z9]; exact upd_eq
                  have ht3 : (f86 2).toInt = ((((x83_4 : Int32).toInt).toNat : Nat) : Int) := by rw [ht2]; omega
                  have hv5 := congrArg Int32.toInt (show v92 = f90 ((x83_4 : Int32).toInt).toNat from ev92)
                  have hd9 : OrP ((iv 5 4).toInt).toNat ((mm).toInt).toNat (fa 5 0) f86 f90 3 (x0 + ((x83_4 : Int32).toInt).toNat * ((mm).toInt).toNat ^ (((iv 5 4).toInt).toNat - (2 + 1))) (v93 : Int32).toInt := Or_dn h1 (by omega) (by omega) ht1 ht3 (fun j _ hj => he2 j hj) (he1.trans (ev89.trans (by rw [hv1, hv2]))) (by omega) (by omega) (by omega)
                  exact Or_st hs9 hq9 (xr94_0 _ _ hd9 hq9.2))) (show ∀ j : Nat, f102 j = fa 5 2 j from (fun j => by
                  have z9 : (2 : Int32).toNatClampNeg = 2 := (by decide)
                  have hl9 : (x83_4 : Int32).toNatClampNeg = ((x83_4 : Int32).toInt).toNat := rfl
                  have ht1 : ∀ j : Nat, j < 2 → f86 j = fa 5 1 j := fun j hj => by rw [ef86, z9, upd_ne (by omega : j ≠ 2)]; exact hq84_2 j hj
                  have hv1 : v87 = fa 5 2 ((x83_4 : Int32).toInt).toNat := (show v87 = w83_a_5_2 ((x83_4 : Int32).toInt).toNat from ev87).trans (hq84_1 _)
                  have hv2 : v88 = fa 5 0 2 := (show v88 = fa 5 0 ((2 : Int32).toNatClampNeg) from ev88).trans (by rw [z9])
                  have he1 : f90 ((x83_4 : Int32).toInt).toNat = v89 := by rw [ef90, hl9]; exact upd_eq
                  have he2 : ∀ j : Nat, j ≠ ((x83_4 : Int32).toInt).toNat → f90 j = fa 5 2 j := fun j hj => by rw [ef90, hl9, upd_ne hj]; exact hq84_1 j
                  have hv4 : v99 = v89 := (show v99 = n96 ((x83_4 : Int32).toInt).toNat from ev99).trans ((xr94_1 _).trans he1)
                  by_cases hj : j = ((x83_4 : Int32).toInt).toNat
                  · have hx9 : f102 ((x83_4 : Int32).toInt).toNat = v101 := by rw [ef102, hl9]; exact upd_eq
                    rw [hj, hx9, ev101, hv4, ev89, Int32.add_sub_cancel]
                    exact hv1
                  · rw [ef102, hl9, upd_ne hj, xr94_1 j]; exact he2 j hj)) (show ∀ j : Nat, j < 2 → n95 j = fa 5 1 j from (fun j hj => by
                  have z9 : (2 : Int32).toNatClampNeg = 2 := (by decide)
                  have hl9 : (x83_4 : Int32).toNatClampNeg = ((x83_4 : Int32).toInt).toNat := rfl
                  have ht1 : ∀ j : Nat, j < 2 → f86 j = fa 5 1 j := fun j hj => by rw [ef86, z9, upd_ne (by omega : j ≠ 2)]; exact hq84_2 j hj
                  have hv1 : v87 = fa 5 2 ((x83_4 : Int32).toInt).toNat := (show v87 = w83_a_5_2 ((x83_4 : Int32).toInt).toNat from ev87).trans (hq84_1 _)
                  have hv2 : v88 = fa 5 0 2 := (show v88 = fa 5 0 ((2 : Int32).toNatClampNeg) from ev88).trans (by rw [z9])
                  have he1 : f90 ((x83_4 : Int32).toInt).toNat = v89 := by rw [ef90, hl9]; exact upd_eq
                  have he2 : ∀ j : Nat, j ≠ ((x83_4 : Int32).toInt).toNat → f90 j = fa 5 2 j := fun j hj => by rw [ef90, hl9, upd_ne hj]; exact hq84_1 j
                  rw [xr94_2 j (by omega)]; exact ht1 j hj)) (show (v103 : Int32).toInt ≤ (mm).toInt from by omega) (by omega) _ _ ls hP hD hS (lv_sub hl [0, 1, 2, 3, 4] rfl)
      have : (0 : Int32).toInt = 0 := (by decide)
      exact lp84 4 0 (iv 5 5) (fa 5 1) (fa 5 2) (fa 5 3) ⟨by decide, by decide⟩ (hI.2 5 1) (hI.2 5 2) (hI.2 5 3) (show ∀ x0 bw : Nat, OrP ((iv 5 4).toInt).toNat ((mm).toInt).toNat (fa 5 0) (fa 5 1) (fa 5 2) 2 x0 (q).toInt → OrB ((iv 5 4).toInt).toNat ((mm).toInt).toNat (fa 5 3) (iv 5 5).toInt bw → OrQ ((iv 5 4).toInt).toNat ((mm).toInt).toNat (fa 5 0) x0 bw (iv 5 5).toInt (((0 : Int32).toInt).toNat * ((mm).toInt).toNat ^ (((iv 5 4).toInt).toNat - (2 + 1))) ((iv 5 5) : Int32).toInt (fa 5 3) from (fun x0 bw h1 h2 => by
            have hz : ((0 : Int32).toInt).toNat = 0 := (by decide)
            rw [hz, Nat.zero_mul]
            exact Or_q0 h2)) (show ∀ j : Nat, (fa 5 2) j = fa 5 2 j from (fun j => rfl)) (show ∀ j : Nat, j < 2 → (fa 5 1) j = fa 5 1 j from (fun j hj => rfl)) (show (0 : Int32).toInt ≤ (mm).toInt from by omega) (by first | decide | omega) _ _ ls hP hD hS (lv_sub hl [0, 1, 2, 3, 4] rfl)
    · have fc2 := z_nlt (by decide : (2 : Int32).toInt = 2) (rfl : ((iv 5 4)).toInt = _) c2
      refine lv_aload_n hx hb dX5_place_17 rfl (lv_at hl 0 rfl) ?_
      refine lv_iload_n hx hb dX5_place_18 rfl (lv_at hl 3 rfl) ?_
      refine pX_5_5 (v := q) hx hb ht hown hK hP hD hS m_342 dX5_place_19 (fun H locs hP hD hS => ?_)
      refine lv_aload_n hx hb dX5_place_22 rfl (lv_at hl 0 rfl) ?_
      refine gX_5_1 hx hb ht hown hK hP m_336 dX5_place_23 ?_
      refine lv_iconst (v := 0) hx hb dX5_place_26 (by decide) ?_
      refine lv_aload_n hx hb dX5_place_27 rfl (lv_at hl 0 rfl) ?_
      refine gX_5_3 hx hb ht hown hK hP m_338 dX5_place_28 ?_
      refine lv_iconst (v := 0) hx hb dX5_place_31 (by decide) ?_
      refine lv_aload_n hx hb dX5_place_32 rfl (lv_at hl 0 rfl) ?_
      refine gX_5_4 hx hb ht hown hK hP m_340 (v := (iv 5 4)) rfl dX5_place_33 ?_
      have hn9 : ((iv 5 4) : Int32).toNatClampNeg ≤ 8 := by show ((((iv 5 4) : Int32).toInt).toNat : Nat) ≤ 8; omega
      refine va_copyi (D := (dC, dI)) (ty := .int) (f := (fa 5 1)) (g := (fa 5 3)) hx hb (hml.trans hl.1.symm) hown (ht _ m_1022) (ht _ m_1024) (ht _ m_1023) (ht _ m_95) hK hP hD hS 34 36 21 23 rfl rfl rfl rfl rfl (by decide) (by decide) (fun q9 => by have := Int32.lt_iff_toInt_lt.mp q9; have h0 : (0 : Int32).toInt = 0 := rfl; omega) (by show (0 : Nat) + _ ≤ 8; omega) (by show (0 : Nat) + _ ≤ 8; omega) (fun i hi => rfl) (Nat.le_of_ble_eq_true rfl) (by rw [nfw]; exact Nat.le_of_ble_eq_true rfl) dX5_place_36 (fun H locs hP hD hS => ?_)
      rw [aX_5_3] at hP hD
      obtain ⟨f104, ef104⟩ : ∃ f : Nat → Int32, f = va_cpy (fa 5 1) (fa 5 3) (0 : Int32).toNatClampNeg (0 : Int32).toNatClampNeg ((iv 5 4) : Int32).toNatClampNeg := ⟨_, rfl⟩
      rw [← ef104] at hP hD
      have hf104 : ∀ j, inb (bA 5 3 j) (f104 j) := fun j => full_i _
      have hP9 : va_P (dC, dI) classes (WX h g ca (u2 iv 5 5 q) lv (u2 (u2 (u2 fa 5 1 (fa 5 1)) 5 2 (fa 5 2)) 5 3 f104) la) H := hP
      have hD9 : va_D A (WX h g ca (u2 iv 5 5 q) lv (u2 (u2 (u2 fa 5 1 (fa 5 1)) 5 2 (fa 5 2)) 5 3 f104) la) := hD
      exact W.vret hx hb hr (fun t ht9 hW => ⟨⟨((u2 iv 5 5 q), lv, (u2 (u2 (u2 fa 5 1 (fa 5 1)) 5 2 (fa 5 2)) 5 3 f104), la), rfl, ⟨(fa 5 1), (fa 5 2), f104, q, (show ∀ x0 bw : Nat, OrP ((iv 5 4).toInt).toNat ((mm).toInt).toNat (fa 5 0) (fa 5 1) (fa 5 2) 2 x0 (q).toInt → OrB ((iv 5 4).toInt).toNat ((mm).toInt).toNat (fa 5 3) (iv 5 5).toInt bw → OrQ ((iv 5 4).toInt).toNat ((mm).toInt).toNat (fa 5 0) x0 bw (iv 5 5).toInt (((mm).toInt).toNat ^ (((iv 5 4).toInt).toNat - 2)) (q : Int32).toInt f104 from (fun x0 bw h1 h2 => Or_ql h1 (by omega) (by omega) (fun j hj => by rw [ef104]; exact Or_cpy (by decide) hj))), (show ∀ j : Nat, (fa 5 2) j = (fa 5 2) j from (fun j => rfl)), (show ∀ j : Nat, j < 2 → (fa 5 1) j = (fa 5 1) j from (fun j hj => rfl)), rfl⟩, by rw [ht9]; exact hP9, hD9⟩, hS.F ht9⟩) hS.2.2 dX5_place_39
  · have fc1 := z_nlt (rfl : (q).toInt = _) (rfl : ((iv 5 5)).toInt = _) c1
    have hP9 : va_P (dC, dI) classes (WX h g ca (u2 iv 5 5 (iv 5 5)) lv (u2 (u2 (u2 fa 5 1 (fa 5 1)) 5 2 (fa 5 2)) 5 3 (fa 5 3)) la) s.heap := hP
    have hD9 : va_D A (WX h g ca (u2 iv 5 5 (iv 5 5)) lv (u2 (u2 (u2 fa 5 1 (fa 5 1)) 5 2 (fa 5 2)) 5 3 (fa 5 3)) la) := hD
    exact W.vret hx hb hr (fun t ht9 hW => ⟨⟨((u2 iv 5 5 (iv 5 5)), lv, (u2 (u2 (u2 fa 5 1 (fa 5 1)) 5 2 (fa 5 2)) 5 3 (fa 5 3)), la), rfl, ⟨(fa 5 1), (fa 5 2), (fa 5 3), (iv 5 5), (show ∀ x0 bw : Nat, OrP ((iv 5 4).toInt).toNat ((mm).toInt).toNat (fa 5 0) (fa 5 1) (fa 5 2) 2 x0 (q).toInt → OrB ((iv 5 4).toInt).toNat ((mm).toInt).toNat (fa 5 3) (iv 5 5).toInt bw → OrQ ((iv 5 4).toInt).toNat ((mm).toInt).toNat (fa 5 0) x0 bw (iv 5 5).toInt (((mm).toInt).toNat ^ (((iv 5 4).toInt).toNat - 2)) ((iv 5 5) : Int32).toInt (fa 5 3) from (fun x0 bw h1 h2 => Or_qs h1 h2 (by omega))), (show ∀ j : Nat, (fa 5 2) j = (fa 5 2) j from (fun j => rfl)), (show ∀ j : Nat, j < 2 → (fa 5 1) j = (fa 5 1) j from (fun j hj => rfl)), rfl⟩, by rw [ht9]; exact hP9, hD9⟩, hS.F ht9⟩) hS.2.2 dX5_place_8
set_option maxHeartbeats 4000000 in
set_option maxRecDepth 100000 in
/-- X5_place -/
theorem c_X5_place_w1 (l : Launch) (dC : Nat → ClassId) (dI : Nat → Nat → Nat) (sz : Nat) (h : Nat) (g : Nat → Nat → Nat) (ca : Nat → Nat → ClassId) (iv : Nat → Nat → Int32) (lv : Nat → Nat → Int64) (fa : Nat → Nat → Nat → Int32) (la : Nat → Nat → Nat → Int64) (hI : IX iv fa) (mm : Int32) (q : Int32) (h_mm : 1 ≤ mm.toInt ∧ mm.toInt ≤ 3) : Met l yX5_place (wc yX5_place cX5_place 5 none) ({ frames := 8, cells := 0, slots := 0, locals := 228 } : Room) (pW (dC, dI) classes (WX h g ca iv lv fa la) (TX ca) sz [.ref (g 11 7), .int 1, .int mm, .int q]) (va_Qv (fun (u : SS) => ∃ (na_5_1 : Nat → Int32) (na_5_2 : Nat → Int32) (na_5_3 : Nat → Int32) (ni_5_5 : Int32), (∀ x0 bw : Nat, OrP ((iv 5 4).toInt).toNat (mm.toInt).toNat (fa 5 0) (fa 5 1) (fa 5 2) 1 x0 q.toInt → OrB ((iv 5 4).toInt).toNat (mm.toInt).toNat (fa 5 3) (iv 5 5).toInt bw → OrQ ((iv 5 4).toInt).toNat (mm.toInt).toNat (fa 5 0) x0 bw (iv 5 5).toInt ((mm.toInt).toNat ^ (((iv 5 4).toInt).toNat - 1)) (ni_5_5).toInt na_5_3) ∧ (∀ j : Nat, na_5_2 j = (fa 5 2) j) ∧ (∀ j : Nat, j < 1 → na_5_1 j = (fa 5 1) j) ∧ u = ((u2 iv 5 5 ni_5_5), lv, (u2 (u2 (u2 fa 5 1 na_5_1) 5 2 na_5_2) 5 3 na_5_3), la)) (bX (dC, dI) h g ca (va_A (WX h g ca iv lv fa la) sz)) (va_A (WX h g ca iv lv fa la) sz)) 0 0 (va_A (WX h g ca iv lv fa la) sz) := by
  refine Met.ofW (cc := cX5_place) (maxL := 5) (ret := none) (by decide) rfl ?_
  intro p e s m args below meth c s₁ B hml hv
  obtain ⟨rfl, hsz, hP, hK, hD0⟩ := hv
  have hx := B.exec
  have hb := B.bytes
  have hr := B.returns
  have ht := tb_tl (atoms_spec (ws := wc yX5_place cX5_place 5 none) B.pre)
  have hown : s.vm.findClass RX5 = some m.cls := findClass_of_methodNamed B.named
  have hlocks := B.notSynchronized
  subst hsz
  have hD := hD0.self (sz := s.heap.size)
  generalize hAe : va_A (WX h g ca iv lv fa la) s.heap.size = A at hD ⊢
  have hA : ∀ q : Nat, s.heap.size ≤ q → A q := fun q h => by rw [← hAe]; exact Or.inr h
  have hS : va_S A s.heap s.heap [] := va_S.rf
  have hl := lv_entry [.ref (g 11 7), .int 1, .int mm, .int q] (n := 5) (Nat.le_of_ble_eq_true rfl)
  rw [lg_entry_eq]
  generalize (lg_sl [.ref (g 11 7), .int 1, .int mm, .int q] ++ List.replicate (5 - (lg_sl [.ref (g 11 7), .int 1, .int mm, .int q]).length) Slot.unset).toArray = ls at hl ⊢
  have hl : lv_has ls 5 [(0, .ref (g 11 7)), (1, .int 1), (2, .int mm), (3, .int q)] := hl
  refine lv_iload_n hx hb dX5_place_0 rfl (lv_at hl 3 rfl) ?_
  refine lv_aload_n hx hb dX5_place_1 rfl (lv_at hl 0 rfl) ?_
  refine gX_5_5 hx hb ht hown hK hP m_342 (v := (iv 5 5)) rfl dX5_place_2 ?_
  refine lv_icmp_lt (tgt := 9) hx hb dX5_place_5 (by decide) (fun c1 => ?_) (fun c1 => ?_)
  · have fc1 := z_lt (rfl : (q).toInt = _) (rfl : ((iv 5 5)).toInt = _) c1
    refine lv_iload_n hx hb dX5_place_9 rfl (lv_at hl 1 rfl) ?_
    refine lv_aload_n hx hb dX5_place_10 rfl (lv_at hl 0 rfl) ?_
    have i_5_4 : 0 ≤ (iv 5 4).toInt ∧ (iv 5 4).toInt ≤ 8 := hI.1 5 4
    refine gX_5_4 hx hb ht hown hK hP m_340 (v := (iv 5 4)) rfl dX5_place_11 ?_
    refine lv_icmp_lt (tgt := 40) hx hb dX5_place_14 (by decide) (fun c2 => ?_) (fun c2 => ?_)
    · have fc2 := z_lt (by decide : (1 : Int32).toInt = 1) (rfl : ((iv 5 4)).toInt = _) c2
      refine lv_iconst (v := 0) hx hb dX5_place_40 (by decide) ?_
      refine lv_istore (lv' := [(4, .int 0), (0, .ref (g 11 7)), (1, .int 1), (2, .int mm), (3, .int q)]) hx hb dX5_place_41 hl (by decide) rfl (fun ls hl => ?_)
      have lp84 : ∀ (nn84 : Nat) (x83_4 : Int32) (w83_i_5_5 : Int32) (w83_a_5_1 : Nat → Int32) (w83_a_5_2 : Nat → Int32) (w83_a_5_3 : Nat → Int32), 0 ≤ x83_4.toInt ∧ x83_4.toInt ≤ 3 → (∀ j, inb (bA 5 1 j) (w83_a_5_1 j)) → (∀ j, inb (bA 5 2 j) (w83_a_5_2 j)) → (∀ j, inb (bA 5 3 j) (w83_a_5_3 j)) → (∀ x0 bw : Nat, OrP ((iv 5 4).toInt).toNat ((mm).toInt).toNat (fa 5 0) (fa 5 1) (fa 5 2) 1 x0 (q).toInt → OrB ((iv 5 4).toInt).toNat ((mm).toInt).toNat (fa 5 3) (iv 5 5).toInt bw → OrQ ((iv 5 4).toInt).toNat ((mm).toInt).toNat (fa 5 0) x0 bw (iv 5 5).toInt (((x83_4 : Int32).toInt).toNat * ((mm).toInt).toNat ^ (((iv 5 4).toInt).toNat - (1 + 1))) (w83_i_5_5 : Int32).toInt w83_a_5_3) → (∀ j : Nat, w83_a_5_2 j = fa 5 2 j) → (∀ j : Nat, j < 1 → w83_a_5_1 j = fa 5 1 j) → (x83_4 : Int32).toInt ≤ (mm).toInt → 3 - x83_4.toInt < (nn84 : Int) → ∀ (H : Heap) (locs : List Loc), ∀ (ls : Array Slot), va_P (dC, dI) classes (WX h g ca (u2 iv 5 5 w83_i_5_5) lv (u2 (u2 (u2 fa 5 1 w83_a_5_1) 5 2 w83_a_5_2) 5 3 w83_a_5_3) la) H → va_D A (WX h g ca (u2 iv 5 5 w83_i_5_5) lv (u2 (u2 (u2 fa 5 1 w83_a_5_1) 5 2 w83_a_5_2) 5 3 w83_a_5_3) la) → va_S A s.heap H locs → lv_has ls 5 [(4, .int x83_4), (0, .ref (g 11 7)), (1, .int 1), (2, .int mm), (3, .int q)] → W p l e ({ frames := 8, cells := 0, slots := 0, locals := 228 } : Room) s m ([.ref (g 11 7), .int 1, .int mm, .int q] : List Value).toArray below meth c H locs 0 0 (MQ below (va_Qv (fun (u : SS) => ∃ (na_5_1 : Nat → Int32) (na_5_2 : Nat → Int32) (na_5_3 : Nat → Int32) (ni_5_5 : Int32), (∀ x0 bw : Nat, OrP ((iv 5 4).toInt).toNat (mm.toInt).toNat (fa 5 0) (fa 5 1) (fa 5 2) 1 x0 q.toInt → OrB ((iv 5 4).toInt).toNat (mm.toInt).toNat (fa 5 3) (iv 5 5).toInt bw → OrQ ((iv 5 4).toInt).toNat (mm.toInt).toNat (fa 5 0) x0 bw (iv 5 5).toInt ((mm.toInt).toNat ^ (((iv 5 4).toInt).toNat - 1)) (ni_5_5).toInt na_5_3) ∧ (∀ j : Nat, na_5_2 j = (fa 5 2) j) ∧ (∀ j : Nat, j < 1 → na_5_1 j = (fa 5 1) j) ∧ u = ((u2 iv 5 5 ni_5_5), lv, (u2 (u2 (u2 fa 5 1 na_5_1) 5 2 na_5_2) 5 3 na_5_3), la)) (bX (dC, dI) h g ca A) A) ([.ref (g 11 7), .int 1, .int mm, .int q] : List Value).toArray s 0 0 A) (F0 m 43 ls []) := by
        intro nn84
        induction nn84 with
        | zero => intro x83_4 w83_i_5_5 w83_a_5_1 w83_a_5_2 w83_a_5_3 hx83_4 hw83_a_5_1 hw83_a_5_2 hw83_a_5_3 hq84_0 hq84_1 hq84_2 hq84_3 hm84; exfalso; omega
        | succ nn84 ih84 =>
          intro x83_4 w83_i_5_5 w83_a_5_1 w83_a_5_2 w83_a_5_3 hx83_4 hw83_a_5_1 hw83_a_5_2 hw83_a_5_3 hq84_0 hq84_1 hq84_2 hq84_3 hm84 H locs ls hP hD hS hl
          refine lv_iload hx hb dX5_place_43 (lv_at hl 0 rfl) ?_
          refine lv_iload_n hx hb dX5_place_45 rfl (lv_at hl 3 rfl) ?_
          refine lv_icmp_ge (tgt := 114) hx hb dX5_place_46 (by decide) (fun c85 => ?_) (fun c85 => ?_)
          · have fc85 := z_le (rfl : (mm).toInt = _) (rfl : (x83_4).toInt = _) c85
            have hP9 : va_P (dC, dI) classes (WX h g ca (u2 iv 5 5 w83_i_5_5) lv (u2 (u2 (u2 fa 5 1 w83_a_5_1) 5 2 w83_a_5_2) 5 3 w83_a_5_3) la) H := hP
            have hD9 : va_D A (WX h g ca (u2 iv 5 5 w83_i_5_5) lv (u2 (u2 (u2 fa 5 1 w83_a_5_1) 5 2 w83_a_5_2) 5 3 w83_a_5_3) la) := hD
            exact W.vret hx hb hr (fun t ht9 hW => ⟨⟨((u2 iv 5 5 w83_i_5_5), lv, (u2 (u2 (u2 fa 5 1 w83_a_5_1) 5 2 w83_a_5_2) 5 3 w83_a_5_3), la), rfl, ⟨w83_a_5_1, w83_a_5_2, w83_a_5_3, w83_i_5_5, (show ∀ x0 bw : Nat, OrP ((iv 5 4).toInt).toNat ((mm).toInt).toNat (fa 5 0) (fa 5 1) (fa 5 2) 1 x0 (q).toInt → OrB ((iv 5 4).toInt).toNat ((mm).toInt).toNat (fa 5 3) (iv 5 5).toInt bw → OrQ ((iv 5 4).toInt).toNat ((mm).toInt).toNat (fa 5 0) x0 bw (iv 5 5).toInt (((mm).toInt).toNat ^ (((iv 5 4).toInt).toNat - 1)) (w83_i_5_5 : Int32).toInt w83_a_5_3 from (fun x0 bw h1 h2 => by
                  have hq9 := hq84_0 x0 bw h1 h2
                  rw [show ((x83_4 : Int32).toInt).toNat = ((mm).toInt).toNat from by omega, Or_pw (by omega)] at hq9
                  exact hq9)), (show ∀ j : Nat, w83_a_5_2 j = (fa 5 2) j from hq84_1), (show ∀ j : Nat, j < 1 → w83_a_5_1 j = (fa 5 1) j from hq84_2), rfl⟩, by rw [ht9]; exact hP9, hD9⟩, hS.F ht9⟩) hS.2.2 dX5_place_114
          · have fc85 := z_nle (rfl : (mm).toInt = _) (rfl : (x83_4).toInt = _) c85
            refine lv_aload_n hx hb dX5_place_49 rfl (lv_at hl 1 rfl) ?_
            refine gX_5_1 hx hb ht hown hK hP m_336 dX5_place_50 ?_
            refine lv_iload_n hx hb dX5_place_53 rfl (lv_at hl 2 rfl) ?_
            refine lv_iload hx hb dX5_place_54 (lv_at hl 0 rfl) ?_
            refine tX_5_1 hx hb hK hP hD hS (f0 := w83_a_5_1) rfl (i := 1) (x := x83_4) (vp_in_iff.mpr (by decide)) dX5_place_56 (fun f86 ef86 H locs hP hD hS => ?_)
            have hf86 : ∀ j, inb (bA 5 1 j) (f86 j) := fun j => full_i _
            have hP : va_P (dC, dI) classes (WX h g ca (u2 iv 5 5 w83_i_5_5) lv (u2 (u2 (u2 fa 5 1 f86) 5 2 w83_a_5_2) 5 3 w83_a_5_3) la) H := hP
            have hD : va_D A (WX h g ca (u2 iv 5 5 w83_i_5_5) lv (u2 (u2 (u2 fa 5 1 f86) 5 2 w83_a_5_2) 5 3 w83_a_5_3) la) := hD
            refine lv_aload_n hx hb dX5_place_57 rfl (lv_at hl 1 rfl) ?_
            refine gX_5_2 hx hb ht hown hK hP m_337 dX5_place_58 ?_
            refine lv_iload hx hb dX5_place_61 (lv_at hl 0 rfl) ?_
            refine lv_dup2_11 hx hb dX5_place_63 rfl rfl ?_
            refine lX_5_2 hx hb hK hP (f := w83_a_5_2) rfl (vp_in_iff.mpr ⟨by omega, by omega⟩) dX5_place_64 ?_
            refine lv_topi (fun v87 ev87 => ?_)
            refine lv_aload_n hx hb dX5_place_65 rfl (lv_at hl 1 rfl) ?_
            refine gX_5_0 hx hb ht hown hK hP m_335 dX5_place_66 ?_
            refine lv_iload_n hx hb dX5_place_69 rfl (lv_at hl 2 rfl) ?_
            refine lX_5_0 hx hb hK hP (f := (fa 5 0)) rfl (vp_in_iff.mpr (by decide)) dX5_place_70 ?_
            refine lv_topi (fun v88 ev88 => ?_)
            refine lv_iadd hx hb dX5_place_71 ?_
            refine lv_topi (fun v89 ev89 => ?_)
            refine tX_5_2 hx hb hK hP hD hS (f0 := w83_a_5_2) rfl (i := x83_4) (x := v89) (vp_in_iff.mpr ⟨by omega, by omega⟩) dX5_place_72 (fun f90 ef90 H locs hP hD hS => ?_)
            have hf90 : ∀ j, inb (bA 5 2 j) (f90 j) := fun j => full_i _
            have hP : va_P (dC, dI) classes (WX h g ca (u2 iv 5 5 w83_i_5_5) lv (u2 (u2 (u2 fa 5 1 f86) 5 2 f90) 5 3 w83_a_5_3) la) H := hP
            have hD : va_D A (WX h g ca (u2 iv 5 5 w83_i_5_5) lv (u2 (u2 (u2 fa 5 1 f86) 5 2 f90) 5 3 w83_a_5_3) la) := hD
            refine lv_aload_n hx hb dX5_place_73 rfl (lv_at hl 1 rfl) ?_
            refine lv_iload_n hx hb dX5_place_74 rfl (lv_at hl 2 rfl) ?_
            refine lv_iconst (v := 1) hx hb dX5_place_75 (by decide) ?_
            refine lv_iadd hx hb dX5_place_76 ?_
            refine lv_topi (fun v91 ev91 => ?_)
            obtain rfl : 2 = v91 := (ev91.trans (by decide)).symm
            refine lv_iload_n hx hb dX5_place_77 rfl (lv_at hl 3 rfl) ?_
            refine lv_iload_n hx hb dX5_place_78 rfl (lv_at hl 4 rfl) ?_
            refine lv_aload_n hx hb dX5_place_79 rfl (lv_at hl 1 rfl) ?_
            refine gX_5_2 hx hb ht hown hK hP m_337 dX5_place_80 ?_
            refine lv_iload hx hb dX5_place_83 (lv_at hl 0 rfl) ?_
            refine lX_5_2 hx hb hK hP (f := f90) rfl (vp_in_iff.mpr ⟨by omega, by omega⟩) dX5_place_85 ?_
            refine lv_topi (fun v92 ev92 => ?_)
            refine va_mmax hx hb (hml.trans hl.1.symm) hown (ht _ m_1025) (ht _ m_558) (ht _ m_90) (ht _ m_559) (Nat.le_of_ble_eq_true rfl) (Nat.le_of_ble_eq_true rfl) (Nat.le_of_ble_eq_true rfl) (Nat.le_of_ble_eq_true rfl) dX5_place_86 ?_
            refine lv_topi (fun v93 ev93 => ?_)
            have tv93 := mm_or ev93
            have uv93 := mm_max ev93 (rfl : (q).toInt = _) (rfl : (v92).toInt = _)
            have hFc := free_all hD hS hA
            refine va_callv (va_runV (As := [.int 2, .int mm, .int v93]) (rest := []) ⟨hx, hb, hml, hown, ht⟩ (c_X5_place_w2 l dC dI H.size h g ca (u2 iv 5 5 w83_i_5_5) lv (u2 (u2 (u2 fa 5 1 f86) 5 2 f90) 5 3 w83_a_5_3) la (IX_a (c := 5) (k := 3) (IX_a (c := 5) (k := 2) (IX_a (c := 5) (k := 1) (IX_i (c := 5) (k := 5) hI (full_i _)) hf86) hf90) hw83_a_5_3) mm v93 ⟨by omega, by omega⟩) (kV 3 ht m_1018 m_1020 m_41 m_86 m_1021 rfl rfl hd_X5_place_v ⟨Nat.le_of_ble_eq_true rfl, Nat.le_of_ble_eq_true rfl⟩) (vW hP hK hD (rX_5 hK hP)) rfl rfl hl.1 rfl (lv_room (Nat.le_of_ble_eq_true rfl)) dX5_place_89 ⟨Nat.le_of_ble_eq_true rfl, Nat.le_of_ble_eq_true rfl⟩) hS (fun q _ h => hFc q h) hFc (fun u t H1 locs ht9 hvm hr94 hB hz1 hk1 hS => ?_)
            obtain ⟨n95, n96, n97, n98, xr94_0, xr94_1, xr94_2, rfl⟩ := hr94
            have hn95 : ∀ j, inb (bA 5 1 j) (n95 j) := fun j => full_i _
            have hn96 : ∀ j, inb (bA 5 2 j) (n96 j) := fun j => full_i _
            have hn97 : ∀ j, inb (bA 5 3 j) (n97 j) := fun j => full_i _
            obtain ⟨hP, hD⟩ := hB
            rw [ht9] at hP
            generalize H1 = H at hP hS ⊢
            have hP : va_P (dC, dI) classes (WX h g ca (u2 iv 5 5 n98) lv (u2 (u2 (u2 fa 5 1 n95) 5 2 n96) 5 3 n97) la) H := hP
            have hD : va_D A (WX h g ca (u2 iv 5 5 n98) lv (u2 (u2 (u2 fa 5 1 n95) 5 2 n96) 5 3 n97) la) := (show va_D _ (WX h g ca (u2 iv 5 5 n98) lv (u2 (u2 (u2 fa 5 1 n95) 5 2 n96) 5 3 n97) la) from hD).weaken (fun _ _ _ h => hFc _ h)
            have xr94_0 : ∀ x0 bw : Nat, OrP (((iv 5 4) : Int32).toInt).toNat ((mm : Int32).toInt).toNat (fa 5 0) f86 f90 2 x0 (v93 : Int32).toInt → OrB (((iv 5 4) : Int32).toInt).toNat ((mm : Int32).toInt).toNat w83_a_5_3 (w83_i_5_5 : Int32).toInt bw → OrQ (((iv 5 4) : Int32).toInt).toNat ((mm : Int32).toInt).toNat (fa 5 0) x0 bw (w83_i_5_5 : Int32).toInt (((mm : Int32).toInt).toNat ^ ((((iv 5 4) : Int32).toInt).toNat - 2)) (n98 : Int32).toInt n97 := xr94_0
            have xr94_1 : ∀ j : Nat, n96 j = f90 j := xr94_1
            have xr94_2 : ∀ j : Nat, j < 2 → n95 j = f86 j := xr94_2
            refine lv_aload_n hx hb dX5_place_92 rfl (lv_at hl 1 rfl) ?_
            refine gX_5_2 hx hb ht hown hK hP m_337 dX5_place_93 ?_
            refine lv_iload hx hb dX5_place_96 (lv_at hl 0 rfl) ?_
            refine lv_dup2_11 hx hb dX5_place_98 rfl rfl ?_
            refine lX_5_2 hx hb hK hP (f := n96) rfl (vp_in_iff.mpr ⟨by omega, by omega⟩) dX5_place_99 ?_
            refine lv_topi (fun v99 ev99 => ?_)
            refine lv_aload_n hx hb dX5_place_100 rfl (lv_at hl 1 rfl) ?_
            refine gX_5_0 hx hb ht hown hK hP m_335 dX5_place_101 ?_
            refine lv_iload_n hx hb dX5_place_104 rfl (lv_at hl 2 rfl) ?_
            refine lX_5_0 hx hb hK hP (f := (fa 5 0)) rfl (vp_in_iff.mpr (by decide)) dX5_place_105 ?_
            refine lv_topi (fun v100 ev100 => ?_)
            obtain rfl : v88 = v100 := ev88.trans ev100.symm
            refine lv_isub hx hb dX5_place_106 ?_
            refine lv_topi (fun v101 ev101 => ?_)
            refine tX_5_2 hx hb hK hP hD hS (f0 := n96) rfl (i := x83_4) (x := v101) (vp_in_iff.mpr ⟨by omega, by omega⟩) dX5_place_107 (fun f102 ef102 H locs hP hD hS => ?_)
            have hf102 : ∀ j, inb (bA 5 2 j) (f102 j) := fun j => full_i _
            have hP : va_P (dC, dI) classes (WX h g ca (u2 iv 5 5 n98) lv (u2 (u2 (u2 fa 5 1 n95) 5 2 f102) 5 3 n97) la) H := hP
            have hD : va_D A (WX h g ca (u2 iv 5 5 n98) lv (u2 (u2 (u2 fa 5 1 n95) 5 2 f102) 5 3 n97) la) := hD
            obtain ⟨v103, ev103⟩ : ∃ y : Int32, y = x83_4 + 1 := ⟨_, rfl⟩
            have tv103 := z_add ev103 rfl (by decide : (1 : Int32).toInt = 1) (by omega) (by omega)
            refine lv_iinc (v := v103) (lv' := [(4, .int v103), (0, .ref (g 11 7)), (1, .int 1), (2, .int mm), (3, .int q)]) hx hb dX5_place_108 hl (k := 0) rfl (by rw [ev103]; rfl) (by decide) rfl (fun ls hl => ?_)
            refine lv_goto (tgt := 43) hx hb dX5_place_111 (by decide) ?_
            exact ih84 v103 n98 n95 f102 n97 ⟨by omega, by omega⟩ hn95 hf102 hn97 (show ∀ x0 bw : Nat, OrP ((iv 5 4).toInt).toNat ((mm).toInt).toNat (fa 5 0) (fa 5 1) (fa 5 2) 1 x0 (q).toInt → OrB ((iv 5 4).toInt).toNat ((mm).toInt).toNat (fa 5 3) (iv 5 5).toInt bw → OrQ ((iv 5 4).toInt).toNat ((mm).toInt).toNat (fa 5 0) x0 bw (iv 5 5).toInt (((v103 : Int32).toInt).toNat * ((mm).toInt).toNat ^ (((iv 5 4).toInt).toNat - (1 + 1))) (n98 : Int32).toInt n97 from (fun x0 bw h1 h2 => by
                  have z9 : (1 : Int32).toNatClampNeg = 1 := (by decide)
                  have hl9 : (x83_4 : Int32).toNatClampNeg = ((x83_4 : Int32).toInt).toNat := rfl
                  have ht1 : ∀ j : Nat, j < 1 → f86 j = fa 5 1 j := fun j hj => by rw [ef86, z9, upd_ne (by omega : j ≠ 1)]; exact hq84_2 j hj
                  have hv1 : v87 = fa 5 2 ((x83_4 : Int32).toInt).toNat := (show v87 = w83_a_5_2 ((x83_4 : Int32).toInt).toNat from ev87).trans (hq84_1 _)
                  have hv2 : v88 = fa 5 0 1 := (show v88 = fa 5 0 ((1 : Int32).toNatClampNeg) from ev88).trans (by rw [z9])
                  have he1 : f90 ((x83_4 : Int32).toInt).toNat = v89 := by rw [ef90, hl9]; exact upd_eq
                  have he2 : ∀ j : Nat, j ≠ ((x83_4 : Int32).toInt).toNat → f90 j = fa 5 2 j := fun j hj => by rw [ef90, hl9, upd_ne hj]; exact hq84_1 j
                  have hs9 : ((v103 : Int32).toInt).toNat = ((x83_4 : Int32).toInt).toNat + 1 := by omega
                  have hq9 := hq84_0 x0 bw h1 h2
                  have ht2 : f86 1 = x83_4 := by rw [ef86, z9]; exact upd_eq
                  have ht3 : (f86 1).toInt = ((((x83_4 : Int32).toInt).toNat : Nat) : Int) := by rw [ht2]; omega
                  have hv5 := congrArg Int32.toInt (show v92 = f90 ((x83_4 : Int32).toInt).toNat from ev92)
                  have hd9 : OrP ((iv 5 4).toInt).toNat ((mm).toInt).toNat (fa 5 0) f86 f90 2 (x0 + ((x83_4 : Int32).toInt).toNat * ((mm).toInt).toNat ^ (((iv 5 4).toInt).toNat - (1 + 1))) (v93 : Int32).toInt := Or_dn h1 (by omega) (by omega) ht1 ht3 (fun j _ hj => he2 j hj) (he1.trans (ev89.trans (by rw [hv1, hv2]))) (by omega) (by omega) (by omega)
                  exact Or_st hs9 hq9 (xr94_0 _ _ hd9 hq9.2))) (show ∀ j : Nat, f102 j = fa 5 2 j from (fun j => by
                  have z9 : (1 : Int32).toNatClampNeg = 1 := (by decide)
                  have hl9 : (x83_4 : Int32).toNatClampNeg = ((x83_4 : Int32).toInt).toNat := rfl
                  have ht1 : ∀ j : Nat, j < 1 → f86 j = fa 5 1 j := fun j hj => by rw [ef86, z9, upd_ne (by omega : j ≠ 1)]; exact hq84_2 j hj
                  have hv1 : v87 = fa 5 2 ((x83_4 : Int32).toInt).toNat := (show v87 = w83_a_5_2 ((x83_4 : Int32).toInt).toNat from ev87).trans (hq84_1 _)
                  have hv2 : v88 = fa 5 0 1 := (show v88 = fa 5 0 ((1 : Int32).toNatClampNeg) from ev88).trans (by rw [z9])
                  have he1 : f90 ((x83_4 : Int32).toInt).toNat = v89 := by rw [ef90, hl9]; exact upd_eq
                  have he2 : ∀ j : Nat, j ≠ ((x83_4 : Int32).toInt).toNat → f90 j = fa 5 2 j := fun j hj => by rw [ef90, hl9, upd_ne hj]; exact hq84_1 j
                  have hv4 : v99 = v89 := (show v99 = n96 ((x83_4 : Int32).toInt).toNat from ev99).trans ((xr94_1 _).trans he1)
                  by_cases hj : j = ((x83_4 : Int32).toInt).toNat
                  · have hx9 : f102 ((x83_4 : Int32).toInt).toNat = v101 := by rw [ef102, hl9]; exact upd_eq
                    rw [hj, hx9, ev101, hv4, ev89, Int32.add_sub_cancel]
                    exact hv1
                  · rw [ef102, hl9, upd_ne hj, xr94_1 j]; exact he2 j hj)) (show ∀ j : Nat, j < 1 → n95 j = fa 5 1 j from (fun j hj => by
                  have z9 : (1 : Int32).toNatClampNeg = 1 := (by decide)
                  have hl9 : (x83_4 : Int32).toNatClampNeg = ((x83_4 : Int32).toInt).toNat := rfl
                  have ht1 : ∀ j : Nat, j < 1 → f86 j = fa 5 1 j := fun j hj => by rw [ef86, z9, upd_ne (by omega : j ≠ 1)]; exact hq84_2 j hj
                  have hv1 : v87 = fa 5 2 ((x83_4 : Int32).toInt).toNat := (show v87 = w83_a_5_2 ((x83_4 : Int32).toInt).toNat from ev87).trans (hq84_1 _)
                  have hv2 : v88 = fa 5 0 1 := (show v88 = fa 5 0 ((1 : Int32).toNatClampNeg) from ev88).trans (by rw [z9])
                  have he1 : f90 ((x83_4 : Int32).toInt).toNat = v89 := by rw [ef90, hl9]; exact upd_eq
                  have he2 : ∀ j : Nat, j ≠ ((x83_4 : Int32).toInt).toNat → f90 j = fa 5 2 j := fun j hj => by rw [ef90, hl9, upd_ne hj]; exact hq84_1 j
                  rw [xr94_2 j (by omega)]; exact ht1 j hj)) (show (v103 : Int32).toInt ≤ (mm).toInt from by omega) (by omega) _ _ ls hP hD hS (lv_sub hl [0, 1, 2, 3, 4] rfl)
      have : (0 : Int32).toInt = 0 := (by decide)
      exact lp84 4 0 (iv 5 5) (fa 5 1) (fa 5 2) (fa 5 3) ⟨by decide, by decide⟩ (hI.2 5 1) (hI.2 5 2) (hI.2 5 3) (show ∀ x0 bw : Nat, OrP ((iv 5 4).toInt).toNat ((mm).toInt).toNat (fa 5 0) (fa 5 1) (fa 5 2) 1 x0 (q).toInt → OrB ((iv 5 4).toInt).toNat ((mm).toInt).toNat (fa 5 3) (iv 5 5).toInt bw → OrQ ((iv 5 4).toInt).toNat ((mm).toInt).toNat (fa 5 0) x0 bw (iv 5 5).toInt (((0 : Int32).toInt).toNat * ((mm).toInt).toNat ^ (((iv 5 4).toInt).toNat - (1 + 1))) ((iv 5 5) : Int32).toInt (fa 5 3) from (fun x0 bw h1 h2 => by
            have hz : ((0 : Int32).toInt).toNat = 0 := (by decide)
            rw [hz, Nat.zero_mul]
            exact Or_q0 h2)) (show ∀ j : Nat, (fa 5 2) j = fa 5 2 j from (fun j => rfl)) (show ∀ j : Nat, j < 1 → (fa 5 1) j = fa 5 1 j from (fun j hj => rfl)) (show (0 : Int32).toInt ≤ (mm).toInt from by omega) (by first | decide | omega) _ _ ls hP hD hS (lv_sub hl [0, 1, 2, 3, 4] rfl)
    · have fc2 := z_nlt (by decide : (1 : Int32).toInt = 1) (rfl : ((iv 5 4)).toInt = _) c2
      refine lv_aload_n hx hb dX5_place_17 rfl (lv_at hl 0 rfl) ?_
      refine lv_iload_n hx hb dX5_place_18 rfl (lv_at hl 3 rfl) ?_
      refine pX_5_5 (v := q) hx hb ht hown hK hP hD hS m_342 dX5_place_19 (fun H locs hP hD hS => ?_)
      refine lv_aload_n hx hb dX5_place_22 rfl (lv_at hl 0 rfl) ?_
      refine gX_5_1 hx hb ht hown hK hP m_336 dX5_place_23 ?_
      refine lv_iconst (v := 0) hx hb dX5_place_26 (by decide) ?_
      refine lv_aload_n hx hb dX5_place_27 rfl (lv_at hl 0 rfl) ?_
      refine gX_5_3 hx hb ht hown hK hP m_338 dX5_place_28 ?_
      refine lv_iconst (v := 0) hx hb dX5_place_31 (by decide) ?_
      refine lv_aload_n hx hb dX5_place_32 rfl (lv_at hl 0 rfl) ?_
      refine gX_5_4 hx hb ht hown hK hP m_340 (v := (iv 5 4)) rfl dX5_place_33 ?_
      have hn9 : ((iv 5 4) : Int32).toNatClampNeg ≤ 8 := by show ((((iv 5 4) : Int32).toInt).toNat : Nat) ≤ 8; omega
      refine va_copyi (D := (dC, dI)) (ty := .int) (f := (fa 5 1)) (g := (fa 5 3)) hx hb (hml.trans hl.1.symm) hown (ht _ m_1022) (ht _ m_1024) (ht _ m_1023) (ht _ m_95) hK hP hD hS 34 36 21 23 rfl rfl rfl rfl rfl (by decide) (by decide) (fun q9 => by have := Int32.lt_iff_toInt_lt.mp q9; have h0 : (0 : Int32).toInt = 0 := rfl; omega) (by show (0 : Nat) + _ ≤ 8; omega) (by show (0 : Nat) + _ ≤ 8; omega) (fun i hi => rfl) (Nat.le_of_ble_eq_true rfl) (by rw [nfw]; exact Nat.le_of_ble_eq_true rfl) dX5_place_36 (fun H locs hP hD hS => ?_)
      rw [aX_5_3] at hP hD
      obtain ⟨f104, ef104⟩ : ∃ f : Nat → Int32, f = va_cpy (fa 5 1) (fa 5 3) (0 : Int32).toNatClampNeg (0 : Int32).toNatClampNeg ((iv 5 4) : Int32).toNatClampNeg := ⟨_, rfl⟩
      rw [← ef104] at hP hD
      have hf104 : ∀ j, inb (bA 5 3 j) (f104 j) := fun j => full_i _
      have hP9 : va_P (dC, dI) classes (WX h g ca (u2 iv 5 5 q) lv (u2 (u2 (u2 fa 5 1 (fa 5 1)) 5 2 (fa 5 2)) 5 3 f104) la) H := hP
      have hD9 : va_D A (WX h g ca (u2 iv 5 5 q) lv (u2 (u2 (u2 fa 5 1 (fa 5 1)) 5 2 (fa 5 2)) 5 3 f104) la) := hD
      exact W.vret hx hb hr (fun t ht9 hW => ⟨⟨((u2 iv 5 5 q), lv, (u2 (u2 (u2 fa 5 1 (fa 5 1)) 5 2 (fa 5 2)) 5 3 f104), la), rfl, ⟨(fa 5 1), (fa 5 2), f104, q, (show ∀ x0 bw : Nat, OrP ((iv 5 4).toInt).toNat ((mm).toInt).toNat (fa 5 0) (fa 5 1) (fa 5 2) 1 x0 (q).toInt → OrB ((iv 5 4).toInt).toNat ((mm).toInt).toNat (fa 5 3) (iv 5 5).toInt bw → OrQ ((iv 5 4).toInt).toNat ((mm).toInt).toNat (fa 5 0) x0 bw (iv 5 5).toInt (((mm).toInt).toNat ^ (((iv 5 4).toInt).toNat - 1)) (q : Int32).toInt f104 from (fun x0 bw h1 h2 => Or_ql h1 (by omega) (by omega) (fun j hj => by rw [ef104]; exact Or_cpy (by decide) hj))), (show ∀ j : Nat, (fa 5 2) j = (fa 5 2) j from (fun j => rfl)), (show ∀ j : Nat, j < 1 → (fa 5 1) j = (fa 5 1) j from (fun j hj => rfl)), rfl⟩, by rw [ht9]; exact hP9, hD9⟩, hS.F ht9⟩) hS.2.2 dX5_place_39
  · have fc1 := z_nlt (rfl : (q).toInt = _) (rfl : ((iv 5 5)).toInt = _) c1
    have hP9 : va_P (dC, dI) classes (WX h g ca (u2 iv 5 5 (iv 5 5)) lv (u2 (u2 (u2 fa 5 1 (fa 5 1)) 5 2 (fa 5 2)) 5 3 (fa 5 3)) la) s.heap := hP
    have hD9 : va_D A (WX h g ca (u2 iv 5 5 (iv 5 5)) lv (u2 (u2 (u2 fa 5 1 (fa 5 1)) 5 2 (fa 5 2)) 5 3 (fa 5 3)) la) := hD
    exact W.vret hx hb hr (fun t ht9 hW => ⟨⟨((u2 iv 5 5 (iv 5 5)), lv, (u2 (u2 (u2 fa 5 1 (fa 5 1)) 5 2 (fa 5 2)) 5 3 (fa 5 3)), la), rfl, ⟨(fa 5 1), (fa 5 2), (fa 5 3), (iv 5 5), (show ∀ x0 bw : Nat, OrP ((iv 5 4).toInt).toNat ((mm).toInt).toNat (fa 5 0) (fa 5 1) (fa 5 2) 1 x0 (q).toInt → OrB ((iv 5 4).toInt).toNat ((mm).toInt).toNat (fa 5 3) (iv 5 5).toInt bw → OrQ ((iv 5 4).toInt).toNat ((mm).toInt).toNat (fa 5 0) x0 bw (iv 5 5).toInt (((mm).toInt).toNat ^ (((iv 5 4).toInt).toNat - 1)) ((iv 5 5) : Int32).toInt (fa 5 3) from (fun x0 bw h1 h2 => Or_qs h1 h2 (by omega))), (show ∀ j : Nat, (fa 5 2) j = (fa 5 2) j from (fun j => rfl)), (show ∀ j : Nat, j < 1 → (fa 5 1) j = (fa 5 1) j from (fun j hj => rfl)), rfl⟩, by rw [ht9]; exact hP9, hD9⟩, hS.F ht9⟩) hS.2.2 dX5_place_8
set_option maxHeartbeats 4000000 in
set_option maxRecDepth 100000 in
/-- X5_place -/
theorem c_X5_place_w0 (l : Launch) (dC : Nat → ClassId) (dI : Nat → Nat → Nat) (sz : Nat) (h : Nat) (g : Nat → Nat → Nat) (ca : Nat → Nat → ClassId) (iv : Nat → Nat → Int32) (lv : Nat → Nat → Int64) (fa : Nat → Nat → Nat → Int32) (la : Nat → Nat → Nat → Int64) (hI : IX iv fa) (mm : Int32) (q : Int32) (h_mm : 1 ≤ mm.toInt ∧ mm.toInt ≤ 3) : Met l yX5_place (wc yX5_place cX5_place 5 none) ({ frames := 9, cells := 0, slots := 0, locals := 252 } : Room) (pW (dC, dI) classes (WX h g ca iv lv fa la) (TX ca) sz [.ref (g 11 7), .int 0, .int mm, .int q]) (va_Qv (fun (u : SS) => ∃ (na_5_1 : Nat → Int32) (na_5_2 : Nat → Int32) (na_5_3 : Nat → Int32) (ni_5_5 : Int32), (∀ x0 bw : Nat, OrP ((iv 5 4).toInt).toNat (mm.toInt).toNat (fa 5 0) (fa 5 1) (fa 5 2) 0 x0 q.toInt → OrB ((iv 5 4).toInt).toNat (mm.toInt).toNat (fa 5 3) (iv 5 5).toInt bw → OrQ ((iv 5 4).toInt).toNat (mm.toInt).toNat (fa 5 0) x0 bw (iv 5 5).toInt ((mm.toInt).toNat ^ (((iv 5 4).toInt).toNat - 0)) (ni_5_5).toInt na_5_3) ∧ (∀ j : Nat, na_5_2 j = (fa 5 2) j) ∧ (∀ j : Nat, j < 0 → na_5_1 j = (fa 5 1) j) ∧ u = ((u2 iv 5 5 ni_5_5), lv, (u2 (u2 (u2 fa 5 1 na_5_1) 5 2 na_5_2) 5 3 na_5_3), la)) (bX (dC, dI) h g ca (va_A (WX h g ca iv lv fa la) sz)) (va_A (WX h g ca iv lv fa la) sz)) 0 0 (va_A (WX h g ca iv lv fa la) sz) := by
  refine Met.ofW (cc := cX5_place) (maxL := 5) (ret := none) (by decide) rfl ?_
  intro p e s m args below meth c s₁ B hml hv
  obtain ⟨rfl, hsz, hP, hK, hD0⟩ := hv
  have hx := B.exec
  have hb := B.bytes
  have hr := B.returns
  have ht := tb_tl (atoms_spec (ws := wc yX5_place cX5_place 5 none) B.pre)
  have hown : s.vm.findClass RX5 = some m.cls := findClass_of_methodNamed B.named
  have hlocks := B.notSynchronized
  subst hsz
  have hD := hD0.self (sz := s.heap.size)
  generalize hAe : va_A (WX h g ca iv lv fa la) s.heap.size = A at hD ⊢
  have hA : ∀ q : Nat, s.heap.size ≤ q → A q := fun q h => by rw [← hAe]; exact Or.inr h
  have hS : va_S A s.heap s.heap [] := va_S.rf
  have hl := lv_entry [.ref (g 11 7), .int 0, .int mm, .int q] (n := 5) (Nat.le_of_ble_eq_true rfl)
  rw [lg_entry_eq]
  generalize (lg_sl [.ref (g 11 7), .int 0, .int mm, .int q] ++ List.replicate (5 - (lg_sl [.ref (g 11 7), .int 0, .int mm, .int q]).length) Slot.unset).toArray = ls at hl ⊢
  have hl : lv_has ls 5 [(0, .ref (g 11 7)), (1, .int 0), (2, .int mm), (3, .int q)] := hl
  refine lv_iload_n hx hb dX5_place_0 rfl (lv_at hl 3 rfl) ?_
  refine lv_aload_n hx hb dX5_place_1 rfl (lv_at hl 0 rfl) ?_
  refine gX_5_5 hx hb ht hown hK hP m_342 (v := (iv 5 5)) rfl dX5_place_2 ?_
  refine lv_icmp_lt (tgt := 9) hx hb dX5_place_5 (by decide) (fun c1 => ?_) (fun c1 => ?_)
  · have fc1 := z_lt (rfl : (q).toInt = _) (rfl : ((iv 5 5)).toInt = _) c1
    refine lv_iload_n hx hb dX5_place_9 rfl (lv_at hl 1 rfl) ?_
    refine lv_aload_n hx hb dX5_place_10 rfl (lv_at hl 0 rfl) ?_
    have i_5_4 : 0 ≤ (iv 5 4).toInt ∧ (iv 5 4).toInt ≤ 8 := hI.1 5 4
    refine gX_5_4 hx hb ht hown hK hP m_340 (v := (iv 5 4)) rfl dX5_place_11 ?_
    refine lv_icmp_lt (tgt := 40) hx hb dX5_place_14 (by decide) (fun c2 => ?_) (fun c2 => ?_)
    · have fc2 := z_lt (by decide : (0 : Int32).toInt = 0) (rfl : ((iv 5 4)).toInt = _) c2
      refine lv_iconst (v := 0) hx hb dX5_place_40 (by decide) ?_
      refine lv_istore (lv' := [(4, .int 0), (0, .ref (g 11 7)), (1, .int 0), (2, .int mm), (3, .int q)]) hx hb dX5_place_41 hl (by decide) rfl (fun ls hl => ?_)
      have lp84 : ∀ (nn84 : Nat) (x83_4 : Int32) (w83_i_5_5 : Int32) (w83_a_5_1 : Nat → Int32) (w83_a_5_2 : Nat → Int32) (w83_a_5_3 : Nat → Int32), 0 ≤ x83_4.toInt ∧ x83_4.toInt ≤ 3 → (∀ j, inb (bA 5 1 j) (w83_a_5_1 j)) → (∀ j, inb (bA 5 2 j) (w83_a_5_2 j)) → (∀ j, inb (bA 5 3 j) (w83_a_5_3 j)) → (∀ x0 bw : Nat, OrP ((iv 5 4).toInt).toNat ((mm).toInt).toNat (fa 5 0) (fa 5 1) (fa 5 2) 0 x0 (q).toInt → OrB ((iv 5 4).toInt).toNat ((mm).toInt).toNat (fa 5 3) (iv 5 5).toInt bw → OrQ ((iv 5 4).toInt).toNat ((mm).toInt).toNat (fa 5 0) x0 bw (iv 5 5).toInt (((x83_4 : Int32).toInt).toNat * ((mm).toInt).toNat ^ (((iv 5 4).toInt).toNat - (0 + 1))) (w83_i_5_5 : Int32).toInt w83_a_5_3) → (∀ j : Nat, w83_a_5_2 j = fa 5 2 j) → (∀ j : Nat, j < 0 → w83_a_5_1 j = fa 5 1 j) → (x83_4 : Int32).toInt ≤ (mm).toInt → 3 - x83_4.toInt < (nn84 : Int) → ∀ (H : Heap) (locs : List Loc), ∀ (ls : Array Slot), va_P (dC, dI) classes (WX h g ca (u2 iv 5 5 w83_i_5_5) lv (u2 (u2 (u2 fa 5 1 w83_a_5_1) 5 2 w83_a_5_2) 5 3 w83_a_5_3) la) H → va_D A (WX h g ca (u2 iv 5 5 w83_i_5_5) lv (u2 (u2 (u2 fa 5 1 w83_a_5_1) 5 2 w83_a_5_2) 5 3 w83_a_5_3) la) → va_S A s.heap H locs → lv_has ls 5 [(4, .int x83_4), (0, .ref (g 11 7)), (1, .int 0), (2, .int mm), (3, .int q)] → W p l e ({ frames := 9, cells := 0, slots := 0, locals := 252 } : Room) s m ([.ref (g 11 7), .int 0, .int mm, .int q] : List Value).toArray below meth c H locs 0 0 (MQ below (va_Qv (fun (u : SS) => ∃ (na_5_1 : Nat → Int32) (na_5_2 : Nat → Int32) (na_5_3 : Nat → Int32) (ni_5_5 : Int32), (∀ x0 bw : Nat, OrP ((iv 5 4).toInt).toNat (mm.toInt).toNat (fa 5 0) (fa 5 1) (fa 5 2) 0 x0 q.toInt → OrB ((iv 5 4).toInt).toNat (mm.toInt).toNat (fa 5 3) (iv 5 5).toInt bw → OrQ ((iv 5 4).toInt).toNat (mm.toInt).toNat (fa 5 0) x0 bw (iv 5 5).toInt ((mm.toInt).toNat ^ (((iv 5 4).toInt).toNat - 0)) (ni_5_5).toInt na_5_3) ∧ (∀ j : Nat, na_5_2 j = (fa 5 2) j) ∧ (∀ j : Nat, j < 0 → na_5_1 j = (fa 5 1) j) ∧ u = ((u2 iv 5 5 ni_5_5), lv, (u2 (u2 (u2 fa 5 1 na_5_1) 5 2 na_5_2) 5 3 na_5_3), la)) (bX (dC, dI) h g ca A) A) ([.ref (g 11 7), .int 0, .int mm, .int q] : List Value).toArray s 0 0 A) (F0 m 43 ls []) := by
        intro nn84
        induction nn84 with
        | zero => intro x83_4 w83_i_5_5 w83_a_5_1 w83_a_5_2 w83_a_5_3 hx83_4 hw83_a_5_1 hw83_a_5_2 hw83_a_5_3 hq84_0 hq84_1 hq84_2 hq84_3 hm84; exfalso; omega
        | succ nn84 ih84 =>
          intro x83_4 w83_i_5_5 w83_a_5_1 w83_a_5_2 w83_a_5_3 hx83_4 hw83_a_5_1 hw83_a_5_2 hw83_a_5_3 hq84_0 hq84_1 hq84_2 hq84_3 hm84 H locs ls hP hD hS hl
          refine lv_iload hx hb dX5_place_43 (lv_at hl 0 rfl) ?_
          refine lv_iload_n hx hb dX5_place_45 rfl (lv_at hl 3 rfl) ?_
          refine lv_icmp_ge (tgt := 114) hx hb dX5_place_46 (by decide) (fun c85 => ?_) (fun c85 => ?_)
          · have fc85 := z_le (rfl : (mm).toInt = _) (rfl : (x83_4).toInt = _) c85
            have hP9 : va_P (dC, dI) classes (WX h g ca (u2 iv 5 5 w83_i_5_5) lv (u2 (u2 (u2 fa 5 1 w83_a_5_1) 5 2 w83_a_5_2) 5 3 w83_a_5_3) la) H := hP
            have hD9 : va_D A (WX h g ca (u2 iv 5 5 w83_i_5_5) lv (u2 (u2 (u2 fa 5 1 w83_a_5_1) 5 2 w83_a_5_2) 5 3 w83_a_5_3) la) := hD
            exact W.vret hx hb hr (fun t ht9 hW => ⟨⟨((u2 iv 5 5 w83_i_5_5), lv, (u2 (u2 (u2 fa 5 1 w83_a_5_1) 5 2 w83_a_5_2) 5 3 w83_a_5_3), la), rfl, ⟨w83_a_5_1, w83_a_5_2, w83_a_5_3, w83_i_5_5, (show ∀ x0 bw : Nat, OrP ((iv 5 4).toInt).toNat ((mm).toInt).toNat (fa 5 0) (fa 5 1) (fa 5 2) 0 x0 (q).toInt → OrB ((iv 5 4).toInt).toNat ((mm).toInt).toNat (fa 5 3) (iv 5 5).toInt bw → OrQ ((iv 5 4).toInt).toNat ((mm).toInt).toNat (fa 5 0) x0 bw (iv 5 5).toInt (((mm).toInt).toNat ^ (((iv 5 4).toInt).toNat - 0)) (w83_i_5_5 : Int32).toInt w83_a_5_3 from (fun x0 bw h1 h2 => by
                  have hq9 := hq84_0 x0 bw h1 h2
                  rw [show ((x83_4 : Int32).toInt).toNat = ((mm).toInt).toNat from by omega, Or_pw (by omega)] at hq9
                  exact hq9)), (show ∀ j : Nat, w83_a_5_2 j = (fa 5 2) j from hq84_1), (show ∀ j : Nat, j < 0 → w83_a_5_1 j = (fa 5 1) j from hq84_2), rfl⟩, by rw [ht9]; exact hP9, hD9⟩, hS.F ht9⟩) hS.2.2 dX5_place_114
          · have fc85 := z_nle (rfl : (mm).toInt = _) (rfl : (x83_4).toInt = _) c85
            refine lv_aload_n hx hb dX5_place_49 rfl (lv_at hl 1 rfl) ?_
            refine gX_5_1 hx hb ht hown hK hP m_336 dX5_place_50 ?_
            refine lv_iload_n hx hb dX5_place_53 rfl (lv_at hl 2 rfl) ?_
            refine lv_iload hx hb dX5_place_54 (lv_at hl 0 rfl) ?_
            refine tX_5_1 hx hb hK hP hD hS (f0 := w83_a_5_1) rfl (i := 0) (x := x83_4) (vp_in_iff.mpr (by decide)) dX5_place_56 (fun f86 ef86 H locs hP hD hS => ?_)
            have hf86 : ∀ j, inb (bA 5 1 j) (f86 j) := fun j => full_i _
            have hP : va_P (dC, dI) classes (WX h g ca (u2 iv 5 5 w83_i_5_5) lv (u2 (u2 (u2 fa 5 1 f86) 5 2 w83_a_5_2) 5 3 w83_a_5_3) la) H := hP
            have hD : va_D A (WX h g ca (u2 iv 5 5 w83_i_5_5) lv (u2 (u2 (u2 fa 5 1 f86) 5 2 w83_a_5_2) 5 3 w83_a_5_3) la) := hD
            refine lv_aload_n hx hb dX5_place_57 rfl (lv_at hl 1 rfl) ?_
            refine gX_5_2 hx hb ht hown hK hP m_337 dX5_place_58 ?_
            refine lv_iload hx hb dX5_place_61 (lv_at hl 0 rfl) ?_
            refine lv_dup2_11 hx hb dX5_place_63 rfl rfl ?_
            refine lX_5_2 hx hb hK hP (f := w83_a_5_2) rfl (vp_in_iff.mpr ⟨by omega, by omega⟩) dX5_place_64 ?_
            refine lv_topi (fun v87 ev87 => ?_)
            refine lv_aload_n hx hb dX5_place_65 rfl (lv_at hl 1 rfl) ?_
            refine gX_5_0 hx hb ht hown hK hP m_335 dX5_place_66 ?_
            refine lv_iload_n hx hb dX5_place_69 rfl (lv_at hl 2 rfl) ?_
            refine lX_5_0 hx hb hK hP (f := (fa 5 0)) rfl (vp_in_iff.mpr (by decide)) dX5_place_70 ?_
            refine lv_topi (fun v88 ev88 => ?_)
            refine lv_iadd hx hb dX5_place_71 ?_
            refine lv_topi (fun v89 ev89 => ?_)
            refine tX_5_2 hx hb hK hP hD hS (f0 := w83_a_5_2) rfl (i := x83_4) (x := v89) (vp_in_iff.mpr ⟨by omega, by omega⟩) dX5_place_72 (fun f90 ef90 H locs hP hD hS => ?_)
            have hf90 : ∀ j, inb (bA 5 2 j) (f90 j) := fun j => full_i _
            have hP : va_P (dC, dI) classes (WX h g ca (u2 iv 5 5 w83_i_5_5) lv (u2 (u2 (u2 fa 5 1 f86) 5 2 f90) 5 3 w83_a_5_3) la) H := hP
            have hD : va_D A (WX h g ca (u2 iv 5 5 w83_i_5_5) lv (u2 (u2 (u2 fa 5 1 f86) 5 2 f90) 5 3 w83_a_5_3) la) := hD
            refine lv_aload_n hx hb dX5_place_73 rfl (lv_at hl 1 rfl) ?_
            refine lv_iload_n hx hb dX5_place_74 rfl (lv_at hl 2 rfl) ?_
            refine lv_iconst (v := 1) hx hb dX5_place_75 (by decide) ?_
            refine lv_iadd hx hb dX5_place_76 ?_
            refine lv_topi (fun v91 ev91 => ?_)
            obtain rfl : 1 = v91 := (ev91.trans (by decide)).symm
            refine lv_iload_n hx hb dX5_place_77 rfl (lv_at hl 3 rfl) ?_
            refine lv_iload_n hx hb dX5_place_78 rfl (lv_at hl 4 rfl) ?_
            refine lv_aload_n hx hb dX5_place_79 rfl (lv_at hl 1 rfl) ?_
            refine gX_5_2 hx hb ht hown hK hP m_337 dX5_place_80 ?_
            refine lv_iload hx hb dX5_place_83 (lv_at hl 0 rfl) ?_
            refine lX_5_2 hx hb hK hP (f := f90) rfl (vp_in_iff.mpr ⟨by omega, by omega⟩) dX5_place_85 ?_
            refine lv_topi (fun v92 ev92 => ?_)
            refine va_mmax hx hb (hml.trans hl.1.symm) hown (ht _ m_1025) (ht _ m_558) (ht _ m_90) (ht _ m_559) (Nat.le_of_ble_eq_true rfl) (Nat.le_of_ble_eq_true rfl) (Nat.le_of_ble_eq_true rfl) (Nat.le_of_ble_eq_true rfl) dX5_place_86 ?_
            refine lv_topi (fun v93 ev93 => ?_)
            have tv93 := mm_or ev93
            have uv93 := mm_max ev93 (rfl : (q).toInt = _) (rfl : (v92).toInt = _)
            have hFc := free_all hD hS hA
            refine va_callv (va_runV (As := [.int 1, .int mm, .int v93]) (rest := []) ⟨hx, hb, hml, hown, ht⟩ (c_X5_place_w1 l dC dI H.size h g ca (u2 iv 5 5 w83_i_5_5) lv (u2 (u2 (u2 fa 5 1 f86) 5 2 f90) 5 3 w83_a_5_3) la (IX_a (c := 5) (k := 3) (IX_a (c := 5) (k := 2) (IX_a (c := 5) (k := 1) (IX_i (c := 5) (k := 5) hI (full_i _)) hf86) hf90) hw83_a_5_3) mm v93 ⟨by omega, by omega⟩) (kV 3 ht m_1018 m_1020 m_41 m_86 m_1021 rfl rfl hd_X5_place_v ⟨Nat.le_of_ble_eq_true rfl, Nat.le_of_ble_eq_true rfl⟩) (vW hP hK hD (rX_5 hK hP)) rfl rfl hl.1 rfl (lv_room (Nat.le_of_ble_eq_true rfl)) dX5_place_89 ⟨Nat.le_of_ble_eq_true rfl, Nat.le_of_ble_eq_true rfl⟩) hS (fun q _ h => hFc q h) hFc (fun u t H1 locs ht9 hvm hr94 hB hz1 hk1 hS => ?_)
            obtain ⟨n95, n96, n97, n98, xr94_0, xr94_1, xr94_2, rfl⟩ := hr94
            have hn95 : ∀ j, inb (bA 5 1 j) (n95 j) := fun j => full_i _
            have hn96 : ∀ j, inb (bA 5 2 j) (n96 j) := fun j => full_i _
            have hn97 : ∀ j, inb (bA 5 3 j) (n97 j) := fun j => full_i _
            obtain ⟨hP, hD⟩ := hB
            rw [ht9] at hP
            generalize H1 = H at hP hS ⊢
            have hP : va_P (dC, dI) classes (WX h g ca (u2 iv 5 5 n98) lv (u2 (u2 (u2 fa 5 1 n95) 5 2 n96) 5 3 n97) la) H := hP
            have hD : va_D A (WX h g ca (u2 iv 5 5 n98) lv (u2 (u2 (u2 fa 5 1 n95) 5 2 n96) 5 3 n97) la) := (show va_D _ (WX h g ca (u2 iv 5 5 n98) lv (u2 (u2 (u2 fa 5 1 n95) 5 2 n96) 5 3 n97) la) from hD).weaken (fun _ _ _ h => hFc _ h)
            have xr94_0 : ∀ x0 bw : Nat, OrP (((iv 5 4) : Int32).toInt).toNat ((mm : Int32).toInt).toNat (fa 5 0) f86 f90 1 x0 (v93 : Int32).toInt → OrB (((iv 5 4) : Int32).toInt).toNat ((mm : Int32).toInt).toNat w83_a_5_3 (w83_i_5_5 : Int32).toInt bw → OrQ (((iv 5 4) : Int32).toInt).toNat ((mm : Int32).toInt).toNat (fa 5 0) x0 bw (w83_i_5_5 : Int32).toInt (((mm : Int32).toInt).toNat ^ ((((iv 5 4) : Int32).toInt).toNat - 1)) (n98 : Int32).toInt n97 := xr94_0
            have xr94_1 : ∀ j : Nat, n96 j = f90 j := xr94_1
            have xr94_2 : ∀ j : Nat, j < 1 → n95 j = f86 j := xr94_2
            refine lv_aload_n hx hb dX5_place_92 rfl (lv_at hl 1 rfl) ?_
            refine gX_5_2 hx hb ht hown hK hP m_337 dX5_place_93 ?_
            refine lv_iload hx hb dX5_place_96 (lv_at hl 0 rfl) ?_
            refine lv_dup2_11 hx hb dX5_place_98 rfl rfl ?_
            refine lX_5_2 hx hb hK hP (f := n96) rfl (vp_in_iff.mpr ⟨by omega, by omega⟩) dX5_place_99 ?_
            refine lv_topi (fun v99 ev99 => ?_)
            refine lv_aload_n hx hb dX5_place_100 rfl (lv_at hl 1 rfl) ?_
            refine gX_5_0 hx hb ht hown hK hP m_335 dX5_place_101 ?_
            refine lv_iload_n hx hb dX5_place_104 rfl (lv_at hl 2 rfl) ?_
            refine lX_5_0 hx hb hK hP (f := (fa 5 0)) rfl (vp_in_iff.mpr (by decide)) dX5_place_105 ?_
            refine lv_topi (fun v100 ev100 => ?_)
            obtain rfl : v88 = v100 := ev88.trans ev100.symm
            refine lv_isub hx hb dX5_place_106 ?_
            refine lv_topi (fun v101 ev101 => ?_)
            refine tX_5_2 hx hb hK hP hD hS (f0 := n96) rfl (i := x83_4) (x := v101) (vp_in_iff.mpr ⟨by omega, by omega⟩) dX5_place_107 (fun f102 ef102 H locs hP hD hS => ?_)
            have hf102 : ∀ j, inb (bA 5 2 j) (f102 j) := fun j => full_i _
            have hP : va_P (dC, dI) classes (WX h g ca (u2 iv 5 5 n98) lv (u2 (u2 (u2 fa 5 1 n95) 5 2 f102) 5 3 n97) la) H := hP
            have hD : va_D A (WX h g ca (u2 iv 5 5 n98) lv (u2 (u2 (u2 fa 5 1 n95) 5 2 f102) 5 3 n97) la) := hD
            obtain ⟨v103, ev103⟩ : ∃ y : Int32, y = x83_4 + 1 := ⟨_, rfl⟩
            have tv103 := z_add ev103 rfl (by decide : (1 : Int32).toInt = 1) (by omega) (by omega)
            refine lv_iinc (v := v103) (lv' := [(4, .int v103), (0, .ref (g 11 7)), (1, .int 0), (2, .int mm), (3, .int q)]) hx hb dX5_place_108 hl (k := 0) rfl (by rw [ev103]; rfl) (by decide) rfl (fun ls hl => ?_)
            refine lv_goto (tgt := 43) hx hb dX5_place_111 (by decide) ?_
            exact ih84 v103 n98 n95 f102 n97 ⟨by omega, by omega⟩ hn95 hf102 hn97 (show ∀ x0 bw : Nat, OrP ((iv 5 4).toInt).toNat ((mm).toInt).toNat (fa 5 0) (fa 5 1) (fa 5 2) 0 x0 (q).toInt → OrB ((iv 5 4).toInt).toNat ((mm).toInt).toNat (fa 5 3) (iv 5 5).toInt bw → OrQ ((iv 5 4).toInt).toNat ((mm).toInt).toNat (fa 5 0) x0 bw (iv 5 5).toInt (((v103 : Int32).toInt).toNat * ((mm).toInt).toNat ^ (((iv 5 4).toInt).toNat - (0 + 1))) (n98 : Int32).toInt n97 from (fun x0 bw h1 h2 => by
                  have z9 : (0 : Int32).toNatClampNeg = 0 := (by decide)
                  have hl9 : (x83_4 : Int32).toNatClampNeg = ((x83_4 : Int32).toInt).toNat := rfl
                  have ht1 : ∀ j : Nat, j < 0 → f86 j = fa 5 1 j := fun j hj => by rw [ef86, z9, upd_ne (by omega : j ≠ 0)]; exact hq84_2 j hj
                  have hv1 : v87 = fa 5 2 ((x83_4 : Int32).toInt).toNat := (show v87 = w83_a_5_2 ((x83_4 : Int32).toInt).toNat from ev87).trans (hq84_1 _)
                  have hv2 : v88 = fa 5 0 0 := (show v88 = fa 5 0 ((0 : Int32).toNatClampNeg) from ev88).trans (by rw [z9])
                  have he1 : f90 ((x83_4 : Int32).toInt).toNat = v89 := by rw [ef90, hl9]; exact upd_eq
                  have he2 : ∀ j : Nat, j ≠ ((x83_4 : Int32).toInt).toNat → f90 j = fa 5 2 j := fun j hj => by rw [ef90, hl9, upd_ne hj]; exact hq84_1 j
                  have hs9 : ((v103 : Int32).toInt).toNat = ((x83_4 : Int32).toInt).toNat + 1 := by omega
                  have hq9 := hq84_0 x0 bw h1 h2
                  have ht2 : f86 0 = x83_4 := by rw [ef86, z9]; exact upd_eq
                  have ht3 : (f86 0).toInt = ((((x83_4 : Int32).toInt).toNat : Nat) : Int) := by rw [ht2]; omega
                  have hv5 := congrArg Int32.toInt (show v92 = f90 ((x83_4 : Int32).toInt).toNat from ev92)
                  have hd9 : OrP ((iv 5 4).toInt).toNat ((mm).toInt).toNat (fa 5 0) f86 f90 1 (x0 + ((x83_4 : Int32).toInt).toNat * ((mm).toInt).toNat ^ (((iv 5 4).toInt).toNat - (0 + 1))) (v93 : Int32).toInt := Or_dn h1 (by omega) (by omega) ht1 ht3 (fun j _ hj => he2 j hj) (he1.trans (ev89.trans (by rw [hv1, hv2]))) (by omega) (by omega) (by omega)
                  exact Or_st hs9 hq9 (xr94_0 _ _ hd9 hq9.2))) (show ∀ j : Nat, f102 j = fa 5 2 j from (fun j => by
                  have z9 : (0 : Int32).toNatClampNeg = 0 := (by decide)
                  have hl9 : (x83_4 : Int32).toNatClampNeg = ((x83_4 : Int32).toInt).toNat := rfl
                  have ht1 : ∀ j : Nat, j < 0 → f86 j = fa 5 1 j := fun j hj => by rw [ef86, z9, upd_ne (by omega : j ≠ 0)]; exact hq84_2 j hj
                  have hv1 : v87 = fa 5 2 ((x83_4 : Int32).toInt).toNat := (show v87 = w83_a_5_2 ((x83_4 : Int32).toInt).toNat from ev87).trans (hq84_1 _)
                  have hv2 : v88 = fa 5 0 0 := (show v88 = fa 5 0 ((0 : Int32).toNatClampNeg) from ev88).trans (by rw [z9])
                  have he1 : f90 ((x83_4 : Int32).toInt).toNat = v89 := by rw [ef90, hl9]; exact upd_eq
                  have he2 : ∀ j : Nat, j ≠ ((x83_4 : Int32).toInt).toNat → f90 j = fa 5 2 j := fun j hj => by rw [ef90, hl9, upd_ne hj]; exact hq84_1 j
                  have hv4 : v99 = v89 := (show v99 = n96 ((x83_4 : Int32).toInt).toNat from ev99).trans ((xr94_1 _).trans he1)
                  by_cases hj : j = ((x83_4 : Int32).toInt).toNat
                  · have hx9 : f102 ((x83_4 : Int32).toInt).toNat = v101 := by rw [ef102, hl9]; exact upd_eq
                    rw [hj, hx9, ev101, hv4, ev89, Int32.add_sub_cancel]
                    exact hv1
                  · rw [ef102, hl9, upd_ne hj, xr94_1 j]; exact he2 j hj)) (show ∀ j : Nat, j < 0 → n95 j = fa 5 1 j from (fun j hj => by
                  have z9 : (0 : Int32).toNatClampNeg = 0 := (by decide)
                  have hl9 : (x83_4 : Int32).toNatClampNeg = ((x83_4 : Int32).toInt).toNat := rfl
                  have ht1 : ∀ j : Nat, j < 0 → f86 j = fa 5 1 j := fun j hj => by rw [ef86, z9, upd_ne (by omega : j ≠ 0)]; exact hq84_2 j hj
                  have hv1 : v87 = fa 5 2 ((x83_4 : Int32).toInt).toNat := (show v87 = w83_a_5_2 ((x83_4 : Int32).toInt).toNat from ev87).trans (hq84_1 _)
                  have hv2 : v88 = fa 5 0 0 := (show v88 = fa 5 0 ((0 : Int32).toNatClampNeg) from ev88).trans (by rw [z9])
                  have he1 : f90 ((x83_4 : Int32).toInt).toNat = v89 := by rw [ef90, hl9]; exact upd_eq
                  have he2 : ∀ j : Nat, j ≠ ((x83_4 : Int32).toInt).toNat → f90 j = fa 5 2 j := fun j hj => by rw [ef90, hl9, upd_ne hj]; exact hq84_1 j
                  rw [xr94_2 j (by omega)]; exact ht1 j hj)) (show (v103 : Int32).toInt ≤ (mm).toInt from by omega) (by omega) _ _ ls hP hD hS (lv_sub hl [0, 1, 2, 3, 4] rfl)
      have : (0 : Int32).toInt = 0 := (by decide)
      exact lp84 4 0 (iv 5 5) (fa 5 1) (fa 5 2) (fa 5 3) ⟨by decide, by decide⟩ (hI.2 5 1) (hI.2 5 2) (hI.2 5 3) (show ∀ x0 bw : Nat, OrP ((iv 5 4).toInt).toNat ((mm).toInt).toNat (fa 5 0) (fa 5 1) (fa 5 2) 0 x0 (q).toInt → OrB ((iv 5 4).toInt).toNat ((mm).toInt).toNat (fa 5 3) (iv 5 5).toInt bw → OrQ ((iv 5 4).toInt).toNat ((mm).toInt).toNat (fa 5 0) x0 bw (iv 5 5).toInt (((0 : Int32).toInt).toNat * ((mm).toInt).toNat ^ (((iv 5 4).toInt).toNat - (0 + 1))) ((iv 5 5) : Int32).toInt (fa 5 3) from (fun x0 bw h1 h2 => by
            have hz : ((0 : Int32).toInt).toNat = 0 := (by decide)
            rw [hz, Nat.zero_mul]
            exact Or_q0 h2)) (show ∀ j : Nat, (fa 5 2) j = fa 5 2 j from (fun j => rfl)) (show ∀ j : Nat, j < 0 → (fa 5 1) j = fa 5 1 j from (fun j hj => rfl)) (show (0 : Int32).toInt ≤ (mm).toInt from by omega) (by first | decide | omega) _ _ ls hP hD hS (lv_sub hl [0, 1, 2, 3, 4] rfl)
    · have fc2 := z_nlt (by decide : (0 : Int32).toInt = 0) (rfl : ((iv 5 4)).toInt = _) c2
      refine lv_aload_n hx hb dX5_place_17 rfl (lv_at hl 0 rfl) ?_
      refine lv_iload_n hx hb dX5_place_18 rfl (lv_at hl 3 rfl) ?_
      refine pX_5_5 (v := q) hx hb ht hown hK hP hD hS m_342 dX5_place_19 (fun H locs hP hD hS => ?_)
      refine lv_aload_n hx hb dX5_place_22 rfl (lv_at hl 0 rfl) ?_
      refine gX_5_1 hx hb ht hown hK hP m_336 dX5_place_23 ?_
      refine lv_iconst (v := 0) hx hb dX5_place_26 (by decide) ?_
      refine lv_aload_n hx hb dX5_place_27 rfl (lv_at hl 0 rfl) ?_
      refine gX_5_3 hx hb ht hown hK hP m_338 dX5_place_28 ?_
      refine lv_iconst (v := 0) hx hb dX5_place_31 (by decide) ?_
      refine lv_aload_n hx hb dX5_place_32 rfl (lv_at hl 0 rfl) ?_
      refine gX_5_4 hx hb ht hown hK hP m_340 (v := (iv 5 4)) rfl dX5_place_33 ?_
      have hn9 : ((iv 5 4) : Int32).toNatClampNeg ≤ 8 := by show ((((iv 5 4) : Int32).toInt).toNat : Nat) ≤ 8; omega
      refine va_copyi (D := (dC, dI)) (ty := .int) (f := (fa 5 1)) (g := (fa 5 3)) hx hb (hml.trans hl.1.symm) hown (ht _ m_1022) (ht _ m_1024) (ht _ m_1023) (ht _ m_95) hK hP hD hS 34 36 21 23 rfl rfl rfl rfl rfl (by decide) (by decide) (fun q9 => by have := Int32.lt_iff_toInt_lt.mp q9; have h0 : (0 : Int32).toInt = 0 := rfl; omega) (by show (0 : Nat) + _ ≤ 8; omega) (by show (0 : Nat) + _ ≤ 8; omega) (fun i hi => rfl) (Nat.le_of_ble_eq_true rfl) (by rw [nfw]; exact Nat.le_of_ble_eq_true rfl) dX5_place_36 (fun H locs hP hD hS => ?_)
      rw [aX_5_3] at hP hD
      obtain ⟨f104, ef104⟩ : ∃ f : Nat → Int32, f = va_cpy (fa 5 1) (fa 5 3) (0 : Int32).toNatClampNeg (0 : Int32).toNatClampNeg ((iv 5 4) : Int32).toNatClampNeg := ⟨_, rfl⟩
      rw [← ef104] at hP hD
      have hf104 : ∀ j, inb (bA 5 3 j) (f104 j) := fun j => full_i _
      have hP9 : va_P (dC, dI) classes (WX h g ca (u2 iv 5 5 q) lv (u2 (u2 (u2 fa 5 1 (fa 5 1)) 5 2 (fa 5 2)) 5 3 f104) la) H := hP
      have hD9 : va_D A (WX h g ca (u2 iv 5 5 q) lv (u2 (u2 (u2 fa 5 1 (fa 5 1)) 5 2 (fa 5 2)) 5 3 f104) la) := hD
      exact W.vret hx hb hr (fun t ht9 hW => ⟨⟨((u2 iv 5 5 q), lv, (u2 (u2 (u2 fa 5 1 (fa 5 1)) 5 2 (fa 5 2)) 5 3 f104), la), rfl, ⟨(fa 5 1), (fa 5 2), f104, q, (show ∀ x0 bw : Nat, OrP ((iv 5 4).toInt).toNat ((mm).toInt).toNat (fa 5 0) (fa 5 1) (fa 5 2) 0 x0 (q).toInt → OrB ((iv 5 4).toInt).toNat ((mm).toInt).toNat (fa 5 3) (iv 5 5).toInt bw → OrQ ((iv 5 4).toInt).toNat ((mm).toInt).toNat (fa 5 0) x0 bw (iv 5 5).toInt (((mm).toInt).toNat ^ (((iv 5 4).toInt).toNat - 0)) (q : Int32).toInt f104 from (fun x0 bw h1 h2 => Or_ql h1 (by omega) (by omega) (fun j hj => by rw [ef104]; exact Or_cpy (by decide) hj))), (show ∀ j : Nat, (fa 5 2) j = (fa 5 2) j from (fun j => rfl)), (show ∀ j : Nat, j < 0 → (fa 5 1) j = (fa 5 1) j from (fun j hj => rfl)), rfl⟩, by rw [ht9]; exact hP9, hD9⟩, hS.F ht9⟩) hS.2.2 dX5_place_39
  · have fc1 := z_nlt (rfl : (q).toInt = _) (rfl : ((iv 5 5)).toInt = _) c1
    have hP9 : va_P (dC, dI) classes (WX h g ca (u2 iv 5 5 (iv 5 5)) lv (u2 (u2 (u2 fa 5 1 (fa 5 1)) 5 2 (fa 5 2)) 5 3 (fa 5 3)) la) s.heap := hP
    have hD9 : va_D A (WX h g ca (u2 iv 5 5 (iv 5 5)) lv (u2 (u2 (u2 fa 5 1 (fa 5 1)) 5 2 (fa 5 2)) 5 3 (fa 5 3)) la) := hD
    exact W.vret hx hb hr (fun t ht9 hW => ⟨⟨((u2 iv 5 5 (iv 5 5)), lv, (u2 (u2 (u2 fa 5 1 (fa 5 1)) 5 2 (fa 5 2)) 5 3 (fa 5 3)), la), rfl, ⟨(fa 5 1), (fa 5 2), (fa 5 3), (iv 5 5), (show ∀ x0 bw : Nat, OrP ((iv 5 4).toInt).toNat ((mm).toInt).toNat (fa 5 0) (fa 5 1) (fa 5 2) 0 x0 (q).toInt → OrB ((iv 5 4).toInt).toNat ((mm).toInt).toNat (fa 5 3) (iv 5 5).toInt bw → OrQ ((iv 5 4).toInt).toNat ((mm).toInt).toNat (fa 5 0) x0 bw (iv 5 5).toInt (((mm).toInt).toNat ^ (((iv 5 4).toInt).toNat - 0)) ((iv 5 5) : Int32).toInt (fa 5 3) from (fun x0 bw h1 h2 => Or_qs h1 h2 (by omega))), (show ∀ j : Nat, (fa 5 2) j = (fa 5 2) j from (fun j => rfl)), (show ∀ j : Nat, j < 0 → (fa 5 1) j = (fa 5 1) j from (fun j hj => rfl)), rfl⟩, by rw [ht9]; exact hP9, hD9⟩, hS.F ht9⟩) hS.2.2 dX5_place_8
