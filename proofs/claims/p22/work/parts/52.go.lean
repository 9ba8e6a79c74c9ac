/-! ===== go ===== -/
set_option maxHeartbeats 4000000 in
set_option maxRecDepth 100000 in
/-- X0_bring -/
theorem c_X0_bring_x (l : Launch) (dC : Nat → ClassId) (dI : Nat → Nat → Nat) (sz : Nat) (h : Nat) (g : Nat → Nat → Nat) (ca : Nat → Nat → ClassId) (iv : Nat → Nat → Int32) (lv : Nat → Nat → Int64) (fa : Nat → Nat → Nat → Int32) (la : Nat → Nat → Nat → Int64) (hI : IX iv fa) (a : Int32) (q_0_7 : 0 ≤ (iv 0 7).toInt ∧ (iv 0 7).toInt ≤ 9) : Met l yX0_bring (wc yX0_bring cX0_bring 2 (some .int)) ({ frames := 0, cells := 0, slots := 0, locals := 0 } : Room) (pW (dC, dI) classes (WX h g ca iv lv fa la) (TX ca) sz [.ref (g 11 2), .int a]) (va_Qi (fun r (u : SS) => ∃ (na_0_0 : Nat → Int32) (ni_0_7 : Int32), inb (bI 0 7) ni_0_7 ∧ ni_0_7.toInt = (iv 0 7).toInt + 1 ∧ (r.toInt = (iv 0 7).toInt) ∧ (0 ≤ r.toInt ∧ r.toInt ≤ 9) ∧ u = ((u2 iv 0 7 ni_0_7), lv, (u2 fa 0 0 na_0_0), la)) (bX (dC, dI) h g ca (va_A (WX h g ca iv lv fa la) sz)) (va_A (WX h g ca iv lv fa la) sz)) 0 0 (va_A (WX h g ca iv lv fa la) sz) := by
  refine Met.ofW (cc := cX0_bring) (maxL := 2) (ret := (some .int)) (by decide) rfl ?_
  intro p e s m args below meth c s₁ B hml hv
  obtain ⟨rfl, hsz, hP, hK, hD0⟩ := hv
  have hx := B.exec
  have hb := B.bytes
  have hr := B.returns
  have ht := tb_tl (atoms_spec (ws := wc yX0_bring cX0_bring 2 (some .int)) B.pre)
  have hown : s.vm.findClass RX0 = some m.cls := findClass_of_methodNamed B.named
  have hlocks := B.notSynchronized
  subst hsz
  have hD := hD0.self (sz := s.heap.size)
  generalize hAe : va_A (WX h g ca iv lv fa la) s.heap.size = A at hD ⊢
  have hA : ∀ q : Nat, s.heap.size ≤ q → A q := fun q h => by rw [← hAe]; exact Or.inr h
  have hS : va_S A s.heap s.heap [] := va_S.rf
  have hl := lv_entry [.ref (g 11 2), .int a] (n := 2) (Nat.le_of_ble_eq_true rfl)
  rw [lg_entry_eq]
  generalize (lg_sl [.ref (g 11 2), .int a] ++ List.replicate (2 - (lg_sl [.ref (g 11 2), .int a]).length) Slot.unset).toArray = ls at hl ⊢
  have hl : lv_has ls 2 [(0, .ref (g 11 2)), (1, .int a)] := hl
  refine lv_aload_n hx hb dX0_bring_0 rfl (lv_at hl 0 rfl) ?_
  refine gX_0_0 hx hb ht hown hK hP m_152 dX0_bring_1 ?_
  refine lv_aload_n hx hb dX0_bring_4 rfl (lv_at hl 0 rfl) ?_
  have i_0_7 : 0 ≤ (iv 0 7).toInt ∧ (iv 0 7).toInt ≤ 10 := hI.1 0 7
  refine gX_0_7 hx hb ht hown hK hP m_164 (v := (iv 0 7)) rfl dX0_bring_5 ?_
  refine lv_iload_n hx hb dX0_bring_8 rfl (lv_at hl 1 rfl) ?_
  refine tX_0_0 hx hb hK hP hD hS (f0 := (fa 0 0)) rfl (i := (iv 0 7)) (x := a) (vp_in_iff.mpr ⟨by omega, by omega⟩) dX0_bring_9 (fun f1 ef1 H locs hP hD hS => ?_)
  have hf1 : ∀ j, inb (bA 0 0 j) (f1 j) := fun j => full_i _
  refine lv_aload_n hx hb dX0_bring_10 rfl (lv_at hl 0 rfl) ?_
  refine lv_dup hx hb dX0_bring_11 rfl ?_
  refine gX_0_7 hx hb ht hown hK hP m_164 (v := (iv 0 7)) rfl dX0_bring_12 ?_
  refine lv_iconst (v := 1) hx hb dX0_bring_15 (by decide) ?_
  refine lv_iadd hx hb dX0_bring_16 ?_
  refine lv_topi (fun v2 ev2 => ?_)
  have tv2 := z_add ev2 (rfl : ((iv 0 7)).toInt = _) (by decide : (1 : Int32).toInt = 1) (by omega) (by omega)
  refine pX_0_7 (v := v2) hx hb ht hown hK hP hD hS m_164 dX0_bring_17 (fun H locs hP hD hS => ?_)
  refine lv_aload_n hx hb dX0_bring_20 rfl (lv_at hl 0 rfl) ?_
  refine gX_0_7 hx hb ht hown hK hP m_164 (v := v2) rfl dX0_bring_21 ?_
  refine lv_iconst (v := 1) hx hb dX0_bring_24 (by decide) ?_
  refine lv_isub hx hb dX0_bring_25 ?_
  refine lv_topi (fun v3 ev3 => ?_)
  have tv3 := z_sub ev3 (rfl : (v2).toInt = _) (by decide : (1 : Int32).toInt = 1) (by omega) (by omega)
  have hP9 : va_P (dC, dI) classes (WX h g ca (u2 iv 0 7 v2) lv (u2 fa 0 0 f1) la) H := hP
  have hD9 : va_D A (WX h g ca (u2 iv 0 7 v2) lv (u2 fa 0 0 f1) la) := hD
  exact W.iret (v := v3) hx hb hr (fun t ht9 hW => ⟨⟨v3, ((u2 iv 0 7 v2), lv, (u2 fa 0 0 f1), la), rfl, ⟨f1, v2, (show inb (0, 10) v2 from ⟨by omega, by omega⟩), (by omega), (show (v3 : Int32).toInt = (iv 0 7).toInt from by omega), ⟨by omega, by omega⟩, rfl⟩, by rw [ht9]; exact hP9, hD9⟩, hS.F ht9⟩) hS.2.2 dX0_bring_26
set_option maxHeartbeats 4000000 in
set_option maxRecDepth 100000 in
/-- X11_bale -/
theorem c_X11_bale_x (l : Launch) (dC : Nat → ClassId) (dI : Nat → Nat → Nat) (sz : Nat) (h : Nat) (g : Nat → Nat → Nat) (ca : Nat → Nat → ClassId) (iv : Nat → Nat → Int32) (lv : Nat → Nat → Int64) (fa : Nat → Nat → Nat → Int32) (la : Nat → Nat → Nat → Int64) (hI : IX iv fa) (n : Int32) : Met l yX11_bale (wc yX11_bale cX11_bale 2 (some .int)) ({ frames := 1, cells := 0, slots := 0, locals := 22 } : Room) (pW (dC, dI) classes (WX h g ca iv lv fa la) (TX ca) sz [.ref h, .int n]) (va_Qi (fun r (u : SS) => ∃ (na_0_0 : Nat → Int32) (ni_0_7 : Int32), inb (bI 0 7) ni_0_7 ∧ (((r.toInt = -100002 ∧ ¬ (1 ≤ n.toInt ∧ n.toInt ≤ 99999) ∧ (ni_0_7).toInt = (iv 0 7).toInt) ∨ (r.toInt = -100004 ∧ (1 ≤ n.toInt ∧ n.toInt ≤ 99999) ∧ 10 ≤ (iv 0 7).toInt ∧ (ni_0_7).toInt = (iv 0 7).toInt) ∨ ((1 ≤ n.toInt ∧ n.toInt ≤ 99999) ∧ (iv 0 7).toInt < 10 ∧ r.toInt = (iv 0 7).toInt ∧ (ni_0_7).toInt = (iv 0 7).toInt + 1))) ∧ ((-100004) ≤ r.toInt ∧ r.toInt ≤ 9) ∧ u = ((u2 iv 0 7 ni_0_7), lv, (u2 fa 0 0 na_0_0), la)) (bX (dC, dI) h g ca (va_A (WX h g ca iv lv fa la) sz)) (va_A (WX h g ca iv lv fa la) sz)) 0 0 (va_A (WX h g ca iv lv fa la) sz) := by
  refine Met.ofW (cc := cX11_bale) (maxL := 2) (ret := (some .int)) (by decide) rfl ?_
  intro p e s m args below meth c s₁ B hml hv
  obtain ⟨rfl, hsz, hP, hK, hD0⟩ := hv
  have hx := B.exec
  have hb := B.bytes
  have hr := B.returns
  have ht := tb_tl (atoms_spec (ws := wc yX11_bale cX11_bale 2 (some .int)) B.pre)
  have hown : s.vm.findClass RX11 = some m.cls := findClass_of_methodNamed B.named
  have hlocks := B.notSynchronized
  subst hsz
  have hD := hD0.self (sz := s.heap.size)
  generalize hAe : va_A (WX h g ca iv lv fa la) s.heap.size = A at hD ⊢
  have hA : ∀ q : Nat, s.heap.size ≤ q → A q := fun q h => by rw [← hAe]; exact Or.inr h
  have hS : va_S A s.heap s.heap [] := va_S.rf
  have hl := lv_entry [.ref h, .int n] (n := 2) (Nat.le_of_ble_eq_true rfl)
  rw [lg_entry_eq]
  generalize (lg_sl [.ref h, .int n] ++ List.replicate (2 - (lg_sl [.ref h, .int n]).length) Slot.unset).toArray = ls at hl ⊢
  have hl : lv_has ls 2 [(0, .ref h), (1, .int n)] := hl
  refine lv_iload_n hx hb dX11_bale_0 rfl (lv_at hl 1 rfl) ?_
  refine lv_iconst (v := 1) hx hb dX11_bale_1 (by decide) ?_
  refine lv_ldc hx hb hown (ht _ m_462) dX11_bale_2 ?_
  refine vp_callSi (W.runS (As := [.int n, .int 1, .int 99999]) (rest := []) ⟨hx, hb, hml, hown, ht⟩ (c_X11_within l dC dI n 1 99999 (n.toInt) (1) (99999) (rfl : (n).toInt = _) (by decide : (1 : Int32).toInt = 1) (by decide : (99999 : Int32).toInt = 99999)) (kS 3 ht m_453 m_454 m_77 m_455 rfl rfl hd_X11_within_v ⟨Nat.le_of_ble_eq_true rfl, Nat.le_of_ble_eq_true rfl⟩) (sR noP (hK.sub (tys' := []) [] rfl)) rfl rfl hl.1 rfl (lv_room (Nat.le_of_ble_eq_true rfl)) dX11_bale_4 ⟨Nat.le_of_ble_eq_true rfl, Nat.le_of_ble_eq_true rfl⟩) (fun r1 hr1 => ?_)
  rcases hr1 with ⟨rfl, fr1⟩ | ⟨rfl, fr1⟩
  · skip
    refine lv_if_ne (tgt := 13) hx hb dX11_bale_7 (by decide) (fun c2 => ?_) (fun c2 => ?_)
    · skip
      refine lv_aload_n hx hb dX11_bale_13 rfl (lv_at hl 0 rfl) ?_
      refine gX_11_2 hx hb ht hown hK hP m_417 dX11_bale_14 ?_
      have i_0_7 : 0 ≤ (iv 0 7).toInt ∧ (iv 0 7).toInt ≤ 10 := hI.1 0 7
      refine gX_0_7 hx hb ht hown hK hP m_165 (v := (iv 0 7)) rfl dX11_bale_17 ?_
      refine lv_bipush (v := 10) hx hb dX11_bale_20 (by decide) ?_
      refine lv_icmp_lt (tgt := 28) hx hb dX11_bale_22 (by decide) (fun c3 => ?_) (fun c3 => ?_)
      · have fc3 := z_lt (rfl : ((iv 0 7)).toInt = _) (by decide : (10 : Int32).toInt = 10) c3
        refine lv_aload_n hx hb dX11_bale_28 rfl (lv_at hl 0 rfl) ?_
        refine gX_11_2 hx hb ht hown hK hP m_417 dX11_bale_29 ?_
        refine lv_iload_n hx hb dX11_bale_32 rfl (lv_at hl 1 rfl) ?_
        have hFc := free_all hD hS hA
        refine va_calli (va_runV (As := [.int n]) (rest := []) ⟨hx, hb, hml, hown, ht⟩ (c_X0_bring_x l dC dI s.heap.size h g ca iv lv fa la hI n (show 0 ≤ ((iv 0 7) : Int32).toInt ∧ ((iv 0 7) : Int32).toInt ≤ 9 from ⟨by omega, by omega⟩)) (kV 1 ht m_464 m_465 m_466 m_80 m_467 rfl rfl hd_X0_bring_v ⟨Nat.le_of_ble_eq_true rfl, Nat.le_of_ble_eq_true rfl⟩) (vW hP hK hD (rX_0 hK hP)) rfl rfl hl.1 rfl (lv_room (Nat.le_of_ble_eq_true rfl)) dX11_bale_33 ⟨Nat.le_of_ble_eq_true rfl, Nat.le_of_ble_eq_true rfl⟩) hS (fun q _ h => hFc q h) hFc (fun r4 u t H1 locs ht9 hvm hr4 hB hz1 hk1 hS => ?_)
        obtain ⟨n5, n6, hn6, dn6, xr4_0, hr4, rfl⟩ := hr4
        have hn5 : ∀ j, inb (bA 0 0 j) (n5 j) := fun j => full_i _
        have dn6 : n6.toInt = ((iv 0 7) : Int32).toInt + 1 := dn6
        have hn6 : 0 ≤ n6.toInt ∧ n6.toInt ≤ 10 := hn6
        obtain ⟨hP, hD⟩ := hB
        rw [ht9] at hP
        generalize H1 = H at hP hS ⊢
        have hP : va_P (dC, dI) classes (WX h g ca (u2 iv 0 7 n6) lv (u2 fa 0 0 n5) la) H := hP
        have hD : va_D A (WX h g ca (u2 iv 0 7 n6) lv (u2 fa 0 0 n5) la) := (show va_D _ (WX h g ca (u2 iv 0 7 n6) lv (u2 fa 0 0 n5) la) from hD).weaken (fun _ _ _ h => hFc _ h)
        have xr4_0 : (r4 : Int32).toInt = ((iv 0 7) : Int32).toInt := xr4_0
        have hP9 : va_P (dC, dI) classes (WX h g ca (u2 iv 0 7 n6) lv (u2 fa 0 0 n5) la) H := hP
        have hD9 : va_D A (WX h g ca (u2 iv 0 7 n6) lv (u2 fa 0 0 n5) la) := hD
        exact W.iret (v := r4) hx hb hr (fun t ht9 hW => ⟨⟨r4, ((u2 iv 0 7 n6), lv, (u2 fa 0 0 n5), la), rfl, ⟨n5, n6, (show inb (0, 10) n6 from ⟨by omega, by omega⟩), (show (((r4 : Int32).toInt = -100002 ∧ ¬ (1 ≤ (n).toInt ∧ (n).toInt ≤ 99999) ∧ (n6 : Int32).toInt = (iv 0 7).toInt) ∨ ((r4 : Int32).toInt = -100004 ∧ (1 ≤ (n).toInt ∧ (n).toInt ≤ 99999) ∧ 10 ≤ (iv 0 7).toInt ∧ (n6 : Int32).toInt = (iv 0 7).toInt) ∨ ((1 ≤ (n).toInt ∧ (n).toInt ≤ 99999) ∧ (iv 0 7).toInt < 10 ∧ (r4 : Int32).toInt = (iv 0 7).toInt ∧ (n6 : Int32).toInt = (iv 0 7).toInt + 1)) from by omega), ⟨by omega, by omega⟩, rfl⟩, by rw [ht9]; exact hP9, hD9⟩, hS.F ht9⟩) hS.2.2 dX11_bale_36
      · have fc3 := z_nlt (rfl : ((iv 0 7)).toInt = _) (by decide : (10 : Int32).toInt = 10) c3
        refine lv_ldc hx hb hown (ht _ m_463) dX11_bale_25 ?_
        have : ((-100004) : Int32).toInt = (-100004) := (by decide)
        have hP9 : va_P (dC, dI) classes (WX h g ca (u2 iv 0 7 (iv 0 7)) lv (u2 fa 0 0 (fa 0 0)) la) s.heap := hP
        have hD9 : va_D A (WX h g ca (u2 iv 0 7 (iv 0 7)) lv (u2 fa 0 0 (fa 0 0)) la) := hD
        exact W.iret (v := (-100004)) hx hb hr (fun t ht9 hW => ⟨⟨(-100004), ((u2 iv 0 7 (iv 0 7)), lv, (u2 fa 0 0 (fa 0 0)), la), rfl, ⟨(fa 0 0), (iv 0 7), (hI.1 0 7), (show ((((-100004) : Int32).toInt = -100002 ∧ ¬ (1 ≤ (n).toInt ∧ (n).toInt ≤ 99999) ∧ ((iv 0 7) : Int32).toInt = (iv 0 7).toInt) ∨ (((-100004) : Int32).toInt = -100004 ∧ (1 ≤ (n).toInt ∧ (n).toInt ≤ 99999) ∧ 10 ≤ (iv 0 7).toInt ∧ ((iv 0 7) : Int32).toInt = (iv 0 7).toInt) ∨ ((1 ≤ (n).toInt ∧ (n).toInt ≤ 99999) ∧ (iv 0 7).toInt < 10 ∧ ((-100004) : Int32).toInt = (iv 0 7).toInt ∧ ((iv 0 7) : Int32).toInt = (iv 0 7).toInt + 1)) from by omega), ⟨by decide, by decide⟩, rfl⟩, by rw [ht9]; exact hP9, hD9⟩, hS.F ht9⟩) hS.2.2 dX11_bale_27
    · exact absurd c2 (by decide)
  · skip
    refine lv_if_ne (tgt := 13) hx hb dX11_bale_7 (by decide) (fun c7 => ?_) (fun c7 => ?_)
    · exact absurd rfl c7
    · skip
      refine lv_ldc hx hb hown (ht _ m_456) dX11_bale_10 ?_
      have : ((-100002) : Int32).toInt = (-100002) := (by decide)
      have i_0_7 : 0 ≤ (iv 0 7).toInt ∧ (iv 0 7).toInt ≤ 10 := hI.1 0 7
      have hP9 : va_P (dC, dI) classes (WX h g ca (u2 iv 0 7 (iv 0 7)) lv (u2 fa 0 0 (fa 0 0)) la) s.heap := hP
      have hD9 : va_D A (WX h g ca (u2 iv 0 7 (iv 0 7)) lv (u2 fa 0 0 (fa 0 0)) la) := hD
      exact W.iret (v := (-100002)) hx hb hr (fun t ht9 hW => ⟨⟨(-100002), ((u2 iv 0 7 (iv 0 7)), lv, (u2 fa 0 0 (fa 0 0)), la), rfl, ⟨(fa 0 0), (iv 0 7), (hI.1 0 7), (show ((((-100002) : Int32).toInt = -100002 ∧ ¬ (1 ≤ (n).toInt ∧ (n).toInt ≤ 99999) ∧ ((iv 0 7) : Int32).toInt = (iv 0 7).toInt) ∨ (((-100002) : Int32).toInt = -100004 ∧ (1 ≤ (n).toInt ∧ (n).toInt ≤ 99999) ∧ 10 ≤ (iv 0 7).toInt ∧ ((iv 0 7) : Int32).toInt = (iv 0 7).toInt) ∨ ((1 ≤ (n).toInt ∧ (n).toInt ≤ 99999) ∧ (iv 0 7).toInt < 10 ∧ ((-100002) : Int32).toInt = (iv 0 7).toInt ∧ ((iv 0 7) : Int32).toInt = (iv 0 7).toInt + 1)) from by omega), ⟨by decide, by decide⟩, rfl⟩, by rw [ht9]; exact hP9, hD9⟩, hS.F ht9⟩) hS.2.2 dX11_bale_12
set_option maxHeartbeats 4000000 in
set_option maxRecDepth 100000 in
/-- X12_bale -/
theorem c_X12_bale_x (l : Launch) (dC : Nat → ClassId) (dI : Nat → Nat → Nat) (sz : Nat) (h : Nat) (g : Nat → Nat → Nat) (ca : Nat → Nat → ClassId) (iv : Nat → Nat → Int32) (lv : Nat → Nat → Int64) (fa : Nat → Nat → Nat → Int32) (la : Nat → Nat → Nat → Int64) (hI : IX iv fa) (n : Int32) : Met l yX12_bale (wc yX12_bale cX12_bale 2 (some .int)) ({ frames := 1, cells := 0, slots := 0, locals := 25 } : Room) (pW (dC, dI) classes (WM h g ca iv lv fa la) (TM ca) sz [.ref h, .int n]) (va_Qi (fun r (u : SS) => ∃ (na_12_2 : Nat → Int32) (na_12_51 : Nat → Int32) (na_12_53 : Nat → Int32) (ni_12_1 : Int32), (∀ j, inb (bA 12 51 j) (na_12_51 j)) ∧ (∀ j, inb (bA 12 53 j) (na_12_53 j)) ∧ inb (bI 12 1) ni_12_1 ∧ (((r.toInt = -100002 ∧ ¬ (1 ≤ n.toInt ∧ n.toInt ≤ 99999) ∧ (ni_12_1).toInt = (iv 12 1).toInt) ∨ (r.toInt = -100004 ∧ (1 ≤ n.toInt ∧ n.toInt ≤ 99999) ∧ 10 ≤ (iv 12 1).toInt ∧ (ni_12_1).toInt = (iv 12 1).toInt) ∨ ((1 ≤ n.toInt ∧ n.toInt ≤ 99999) ∧ (iv 12 1).toInt < 10 ∧ r.toInt = (iv 12 1).toInt ∧ (ni_12_1).toInt = (iv 12 1).toInt + 1))) ∧ (∀ j : Nat, j ≠ (iv 12 1).toNatClampNeg → na_12_51 j = (fa 12 51) j) ∧ ((na_12_51 (iv 12 1).toNatClampNeg = (fa 12 51) (iv 12 1).toNatClampNeg ∨ na_12_51 (iv 12 1).toNatClampNeg = 0)) ∧ ((-100004) ≤ r.toInt ∧ r.toInt ≤ 9) ∧ u = ((u2 iv 12 1 ni_12_1), lv, (u2 (u2 (u2 fa 12 2 na_12_2) 12 51 na_12_51) 12 53 na_12_53), la)) (bM (dC, dI) h g ca (va_A (WM h g ca iv lv fa la) sz)) (va_A (WM h g ca iv lv fa la) sz)) 0 0 (va_A (WM h g ca iv lv fa la) sz) := by
  refine Met.ofW (cc := cX12_bale) (maxL := 2) (ret := (some .int)) (by decide) rfl ?_
  intro p e s m args below meth c s₁ B hml hv
  obtain ⟨rfl, hsz, hP, hK, hD0⟩ := hv
  have hx := B.exec
  have hb := B.bytes
  have hr := B.returns
  have ht := tb_tl (atoms_spec (ws := wc yX12_bale cX12_bale 2 (some .int)) B.pre)
  have hown : s.vm.findClass RX12 = some m.cls := findClass_of_methodNamed B.named
  have hlocks := B.notSynchronized
  subst hsz
  have hD := hD0.self (sz := s.heap.size)
  generalize hAe : va_A (WM h g ca iv lv fa la) s.heap.size = A at hD ⊢
  have hA : ∀ q : Nat, s.heap.size ≤ q → A q := fun q h => by rw [← hAe]; exact Or.inr h
  have hS : va_S A s.heap s.heap [] := va_S.rf
  have hl := lv_entry [.ref h, .int n] (n := 2) (Nat.le_of_ble_eq_true rfl)
  rw [lg_entry_eq]
  generalize (lg_sl [.ref h, .int n] ++ List.replicate (2 - (lg_sl [.ref h, .int n]).length) Slot.unset).toArray = ls at hl ⊢
  have hl : lv_has ls 2 [(0, .ref h), (1, .int n)] := hl
  refine lv_iload_n hx hb dX12_bale_0 rfl (lv_at hl 1 rfl) ?_
  refine lv_i2l (v := (n.toInt64)) hx hb dX12_bale_1 rfl ?_
  refine lv_lconst (v := 1) hx hb dX12_bale_2 (by decide) ?_
  refine lv_ldc2 hx hb hown (ht _ m_1379) dX12_bale_3 ?_
  refine vp_callSi (W.runS (As := [.long (n.toInt64), .long 1, .long 99999]) (rest := []) ⟨hx, hb, hml, hown, ht⟩ (c_X12_in l dC dI (n.toInt64) 1 99999 (n.toInt) (1) (99999) ((Int32.toInt_toInt64 n).trans rfl) (by decide : (1 : Int64).toInt = 1) (by decide : (99999 : Int64).toInt = 99999)) (kS 3 ht m_1370 m_1371 m_89 m_1372 rfl rfl hd_X12_in_v ⟨Nat.le_of_ble_eq_true rfl, Nat.le_of_ble_eq_true rfl⟩) (sR noP (hK.sub (tys' := []) [] rfl)) rfl rfl hl.1 rfl (lv_room (Nat.le_of_ble_eq_true rfl)) dX12_bale_6 ⟨Nat.le_of_ble_eq_true rfl, Nat.le_of_ble_eq_true rfl⟩) (fun r1 hr1 => ?_)
  rcases hr1 with ⟨rfl, fr1⟩ | ⟨rfl, fr1⟩
  · skip
    refine lv_if_ne (tgt := 15) hx hb dX12_bale_9 (by decide) (fun c2 => ?_) (fun c2 => ?_)
    · skip
      refine lv_aload_n hx hb dX12_bale_15 rfl (lv_at hl 0 rfl) ?_
      have i_12_1 : 0 ≤ (iv 12 1).toInt ∧ (iv 12 1).toInt ≤ 10 := hI.1 12 1
      refine gM_12_1 hx hb ht hown hK hP m_1140 (v := (iv 12 1)) rfl dX12_bale_16 ?_
      refine lv_bipush (v := 10) hx hb dX12_bale_19 (by decide) ?_
      refine lv_icmp_ne (tgt := 27) hx hb dX12_bale_21 (by decide) (fun c3 => ?_) (fun c3 => ?_)
      · have fc3 := z_ne (rfl : ((iv 12 1)).toInt = _) (by decide : (10 : Int32).toInt = 10) c3
        refine lv_aload_n hx hb dX12_bale_27 rfl (lv_at hl 0 rfl) ?_
        refine gM_12_2 hx hb ht hown hK hP m_1141 dX12_bale_28 ?_
        refine lv_aload_n hx hb dX12_bale_31 rfl (lv_at hl 0 rfl) ?_
        refine gM_12_1 hx hb ht hown hK hP m_1140 (v := (iv 12 1)) rfl dX12_bale_32 ?_
        refine lv_iload_n hx hb dX12_bale_35 rfl (lv_at hl 1 rfl) ?_
        refine tM_12_2 hx hb hK hP hD hS (f0 := (fa 12 2)) rfl (i := (iv 12 1)) (x := n) (vp_in_iff.mpr ⟨by omega, by omega⟩) dX12_bale_36 (fun f4 ef4 H locs hP hD hS => ?_)
        have hf4 : ∀ j, inb (bA 12 2 j) (f4 j) := fun j => full_i _
        refine lv_aload_n hx hb dX12_bale_37 rfl (lv_at hl 0 rfl) ?_
        refine gM_12_51 hx hb ht hown hK hP m_1190 dX12_bale_38 ?_
        refine lv_aload_n hx hb dX12_bale_41 rfl (lv_at hl 0 rfl) ?_
        refine gM_12_1 hx hb ht hown hK hP m_1140 (v := (iv 12 1)) rfl dX12_bale_42 ?_
        refine lv_iconst (v := 0) hx hb dX12_bale_45 (by decide) ?_
        refine tM_12_51 hx hb hK hP hD hS (f0 := (fa 12 51)) rfl (i := (iv 12 1)) (x := 0) (vp_in_iff.mpr ⟨by omega, by omega⟩) dX12_bale_46 (fun f5 ef5 H locs hP hD hS => ?_)
        have hf5 : ∀ j, inb (bA 12 51 j) (f5 j) := by rw [ef5]; exact upd_b (b := bA 12 51) (hI.2 12 51) (show inb (0, 12) 0 from ⟨by decide, by decide⟩)
        refine lv_aload_n hx hb dX12_bale_47 rfl (lv_at hl 0 rfl) ?_
        refine gM_12_53 hx hb ht hown hK hP m_1192 dX12_bale_48 ?_
        refine lv_aload_n hx hb dX12_bale_51 rfl (lv_at hl 0 rfl) ?_
        refine gM_12_1 hx hb ht hown hK hP m_1140 (v := (iv 12 1)) rfl dX12_bale_52 ?_
        refine lv_iconst (v := 0) hx hb dX12_bale_55 (by decide) ?_
        refine tM_12_53 hx hb hK hP hD hS (f0 := (fa 12 53)) rfl (i := (iv 12 1)) (x := 0) (vp_in_iff.mpr ⟨by omega, by omega⟩) dX12_bale_56 (fun f6 ef6 H locs hP hD hS => ?_)
        have hf6 : ∀ j, inb (bA 12 53 j) (f6 j) := by rw [ef6]; exact upd_b (b := bA 12 53) (hI.2 12 53) (show inb (0, 8) 0 from ⟨by decide, by decide⟩)
        refine lv_aload_n hx hb dX12_bale_57 rfl (lv_at hl 0 rfl) ?_
        refine lv_dup hx hb dX12_bale_58 rfl ?_
        refine gM_12_1 hx hb ht hown hK hP m_1140 (v := (iv 12 1)) rfl dX12_bale_59 ?_
        refine lv_iconst (v := 1) hx hb dX12_bale_62 (by decide) ?_
        refine lv_iadd hx hb dX12_bale_63 ?_
        refine lv_topi (fun v7 ev7 => ?_)
        have tv7 := z_add ev7 (rfl : ((iv 12 1)).toInt = _) (by decide : (1 : Int32).toInt = 1) (by omega) (by omega)
        refine pM_12_1 (v := v7) hx hb ht hown hK hP hD hS m_1140 dX12_bale_64 (fun H locs hP hD hS => ?_)
        refine lv_aload_n hx hb dX12_bale_67 rfl (lv_at hl 0 rfl) ?_
        refine gM_12_1 hx hb ht hown hK hP m_1140 (v := v7) rfl dX12_bale_68 ?_
        refine lv_iconst (v := 1) hx hb dX12_bale_71 (by decide) ?_
        refine lv_isub hx hb dX12_bale_72 ?_
        refine lv_topi (fun v8 ev8 => ?_)
        have tv8 := z_sub ev8 (rfl : (v7).toInt = _) (by decide : (1 : Int32).toInt = 1) (by omega) (by omega)
        have hP9 : va_P (dC, dI) classes (WM h g ca (u2 iv 12 1 v7) lv (u2 (u2 (u2 fa 12 2 f4) 12 51 f5) 12 53 f6) la) H := hP
        have hD9 : va_D A (WM h g ca (u2 iv 12 1 v7) lv (u2 (u2 (u2 fa 12 2 f4) 12 51 f5) 12 53 f6) la) := hD
        exact W.iret (v := v8) hx hb hr (fun t ht9 hW => ⟨⟨v8, ((u2 iv 12 1 v7), lv, (u2 (u2 (u2 fa 12 2 f4) 12 51 f5) 12 53 f6), la), rfl, ⟨f4, f5, f6, v7, hf5, hf6, (show inb (0, 10) v7 from ⟨by omega, by omega⟩), (show (((v8 : Int32).toInt = -100002 ∧ ¬ (1 ≤ (n).toInt ∧ (n).toInt ≤ 99999) ∧ (v7 : Int32).toInt = (iv 12 1).toInt) ∨ ((v8 : Int32).toInt = -100004 ∧ (1 ≤ (n).toInt ∧ (n).toInt ≤ 99999) ∧ 10 ≤ (iv 12 1).toInt ∧ (v7 : Int32).toInt = (iv 12 1).toInt) ∨ ((1 ≤ (n).toInt ∧ (n).toInt ≤ 99999) ∧ (iv 12 1).toInt < 10 ∧ (v8 : Int32).toInt = (iv 12 1).toInt ∧ (v7 : Int32).toInt = (iv 12 1).toInt + 1)) from by omega), (show ∀ j : Nat, j ≠ (iv 12 1).toNatClampNeg → f5 j = (fa 12 51) j from fun j hj => by rw [ef5, upd_ne hj]), (show (f5 (iv 12 1).toNatClampNeg = (fa 12 51) (iv 12 1).toNatClampNeg ∨ f5 (iv 12 1).toNatClampNeg = 0) from Or.inr (by rw [ef5]; exact upd_eq)), ⟨by omega, by omega⟩, rfl⟩, by rw [ht9]; exact hP9, hD9⟩, hS.F ht9⟩) hS.2.2 dX12_bale_73
      · have fc3 := z_eq (rfl : ((iv 12 1)).toInt = _) (by decide : (10 : Int32).toInt = 10) c3
        refine lv_ldc hx hb hown (ht _ m_1380) dX12_bale_24 ?_
        have : ((-100004) : Int32).toInt = (-100004) := (by decide)
        have hP9 : va_P (dC, dI) classes (WM h g ca (u2 iv 12 1 (iv 12 1)) lv (u2 (u2 (u2 fa 12 2 (fa 12 2)) 12 51 (fa 12 51)) 12 53 (fa 12 53)) la) s.heap := hP
        have hD9 : va_D A (WM h g ca (u2 iv 12 1 (iv 12 1)) lv (u2 (u2 (u2 fa 12 2 (fa 12 2)) 12 51 (fa 12 51)) 12 53 (fa 12 53)) la) := hD
        exact W.iret (v := (-100004)) hx hb hr (fun t ht9 hW => ⟨⟨(-100004), ((u2 iv 12 1 (iv 12 1)), lv, (u2 (u2 (u2 fa 12 2 (fa 12 2)) 12 51 (fa 12 51)) 12 53 (fa 12 53)), la), rfl, ⟨(fa 12 2), (fa 12 51), (fa 12 53), (iv 12 1), (hI.2 12 51), (hI.2 12 53), (hI.1 12 1), (show ((((-100004) : Int32).toInt = -100002 ∧ ¬ (1 ≤ (n).toInt ∧ (n).toInt ≤ 99999) ∧ ((iv 12 1) : Int32).toInt = (iv 12 1).toInt) ∨ (((-100004) : Int32).toInt = -100004 ∧ (1 ≤ (n).toInt ∧ (n).toInt ≤ 99999) ∧ 10 ≤ (iv 12 1).toInt ∧ ((iv 12 1) : Int32).toInt = (iv 12 1).toInt) ∨ ((1 ≤ (n).toInt ∧ (n).toInt ≤ 99999) ∧ (iv 12 1).toInt < 10 ∧ ((-100004) : Int32).toInt = (iv 12 1).toInt ∧ ((iv 12 1) : Int32).toInt = (iv 12 1).toInt + 1)) from by omega), (show ∀ j : Nat, j ≠ (iv 12 1).toNatClampNeg → (fa 12 51) j = (fa 12 51) j from fun j hj => rfl), (show ((fa 12 51) (iv 12 1).toNatClampNeg = (fa 12 51) (iv 12 1).toNatClampNeg ∨ (fa 12 51) (iv 12 1).toNatClampNeg = 0) from Or.inl rfl), ⟨by decide, by decide⟩, rfl⟩, by rw [ht9]; exact hP9, hD9⟩, hS.F ht9⟩) hS.2.2 dX12_bale_26
    · exact absurd c2 (by decide)
  · skip
    refine lv_if_ne (tgt := 15) hx hb dX12_bale_9 (by decide) (fun c9 => ?_) (fun c9 => ?_)
    · exact absurd rfl c9
    · skip
      refine lv_ldc hx hb hown (ht _ m_1373) dX12_bale_12 ?_
      have : ((-100002) : Int32).toInt = (-100002) := (by decide)
      have i_12_1 : 0 ≤ (iv 12 1).toInt ∧ (iv 12 1).toInt ≤ 10 := hI.1 12 1
      have hP9 : va_P (dC, dI) classes (WM h g ca (u2 iv 12 1 (iv 12 1)) lv (u2 (u2 (u2 fa 12 2 (fa 12 2)) 12 51 (fa 12 51)) 12 53 (fa 12 53)) la) s.heap := hP
      have hD9 : va_D A (WM h g ca (u2 iv 12 1 (iv 12 1)) lv (u2 (u2 (u2 fa 12 2 (fa 12 2)) 12 51 (fa 12 51)) 12 53 (fa 12 53)) la) := hD
      exact W.iret (v := (-100002)) hx hb hr (fun t ht9 hW => ⟨⟨(-100002), ((u2 iv 12 1 (iv 12 1)), lv, (u2 (u2 (u2 fa 12 2 (fa 12 2)) 12 51 (fa 12 51)) 12 53 (fa 12 53)), la), rfl, ⟨(fa 12 2), (fa 12 51), (fa 12 53), (iv 12 1), (hI.2 12 51), (hI.2 12 53), (hI.1 12 1), (show ((((-100002) : Int32).toInt = -100002 ∧ ¬ (1 ≤ (n).toInt ∧ (n).toInt ≤ 99999) ∧ ((iv 12 1) : Int32).toInt = (iv 12 1).toInt) ∨ (((-100002) : Int32).toInt = -100004 ∧ (1 ≤ (n).toInt ∧ (n).toInt ≤ 99999) ∧ 10 ≤ (iv 12 1).toInt ∧ ((iv 12 1) : Int32).toInt = (iv 12 1).toInt) ∨ ((1 ≤ (n).toInt ∧ (n).toInt ≤ 99999) ∧ (iv 12 1).toInt < 10 ∧ ((-100002) : Int32).toInt = (iv 12 1).toInt ∧ ((iv 12 1) : Int32).toInt = (iv 12 1).toInt + 1)) from by omega), (show ∀ j : Nat, j ≠ (iv 12 1).toNatClampNeg → (fa 12 51) j = (fa 12 51) j from fun j hj => rfl), (show ((fa 12 51) (iv 12 1).toNatClampNeg = (fa 12 51) (iv 12 1).toNatClampNeg ∨ (fa 12 51) (iv 12 1).toNatClampNeg = 0) from Or.inl rfl), ⟨by decide, by decide⟩, rfl⟩, by rw [ht9]; exact hP9, hD9⟩, hS.F ht9⟩) hS.2.2 dX12_bale_14
set_option maxHeartbeats 4000000 in
set_option maxRecDepth 100000 in
/-- X0_reel -/
theorem c_X0_reel_x (l : Launch) (dC : Nat → ClassId) (dI : Nat → Nat → Nat) (sz : Nat) (h : Nat) (g : Nat → Nat → Nat) (ca : Nat → Nat → ClassId) (iv : Nat → Nat → Int32) (lv : Nat → Nat → Int64) (fa : Nat → Nat → Nat → Int32) (la : Nat → Nat → Nat → Int64) (hI : IX iv fa) (b : Int32) (a : Int32) (z_0_1 : 0 ≤ (fa 0 1 b.toNatClampNeg).toInt ∧ (fa 0 1 b.toNatClampNeg).toInt ≤ 11) (h_b : 0 ≤ b.toInt ∧ b.toInt ≤ 9) : Met l yX0_reel (wc yX0_reel cX0_reel 3 (some .int)) ({ frames := 0, cells := 0, slots := 0, locals := 0 } : Room) (pW (dC, dI) classes (WX h g ca iv lv fa la) (TX ca) sz [.ref (g 11 2), .int b, .int a]) (va_Qi (fun r (u : SS) => ∃ (na_0_1 : Nat → Int32) (na_0_5 : Nat → Int32), (∀ j, inb (bA 0 1 j) (na_0_1 j)) ∧ (∀ j : Nat, j ≠ b.toNatClampNeg → na_0_1 j = (fa 0 1) j) ∧ (r.toInt = ((fa 0 1) b.toNatClampNeg).toInt + 1) ∧ ((na_0_1 b.toNatClampNeg).toInt = r.toInt) ∧ (0 ≤ r.toInt ∧ r.toInt ≤ 12) ∧ u = (iv, lv, (u2 (u2 fa 0 1 na_0_1) 0 5 na_0_5), la)) (bX (dC, dI) h g ca (va_A (WX h g ca iv lv fa la) sz)) (va_A (WX h g ca iv lv fa la) sz)) 0 0 (va_A (WX h g ca iv lv fa la) sz) := by
  refine Met.ofW (cc := cX0_reel) (maxL := 3) (ret := (some .int)) (by decide) rfl ?_
  intro p e s m args below meth c s₁ B hml hv
  obtain ⟨rfl, hsz, hP, hK, hD0⟩ := hv
  have hx := B.exec
  have hb := B.bytes
  have hr := B.returns
  have ht := tb_tl (atoms_spec (ws := wc yX0_reel cX0_reel 3 (some .int)) B.pre)
  have hown : s.vm.findClass RX0 = some m.cls := findClass_of_methodNamed B.named
  have hlocks := B.notSynchronized
  subst hsz
  have hD := hD0.self (sz := s.heap.size)
  generalize hAe : va_A (WX h g ca iv lv fa la) s.heap.size = A at hD ⊢
  have hA : ∀ q : Nat, s.heap.size ≤ q → A q := fun q h => by rw [← hAe]; exact Or.inr h
  have hS : va_S A s.heap s.heap [] := va_S.rf
  have hl := lv_entry [.ref (g 11 2), .int b, .int a] (n := 3) (Nat.le_of_ble_eq_true rfl)
  rw [lg_entry_eq]
  generalize (lg_sl [.ref (g 11 2), .int b, .int a] ++ List.replicate (3 - (lg_sl [.ref (g 11 2), .int b, .int a]).length) Slot.unset).toArray = ls at hl ⊢
  have hl : lv_has ls 3 [(0, .ref (g 11 2)), (1, .int b), (2, .int a)] := hl
  refine lv_aload_n hx hb dX0_reel_0 rfl (lv_at hl 0 rfl) ?_
  refine gX_0_5 hx hb ht hown hK hP m_162 dX0_reel_1 ?_
  refine lv_iload_n hx hb dX0_reel_4 rfl (lv_at hl 1 rfl) ?_
  refine lv_bipush (v := 12) hx hb dX0_reel_5 (by decide) ?_
  refine lv_imul hx hb dX0_reel_7 ?_
  refine lv_topi (fun v1 ev1 => ?_)
  have tv1 := z_mul ev1 (rfl : (b).toInt = _) (by decide : (12 : Int32).toInt = 12) (by omega) (by omega)
  refine lv_aload_n hx hb dX0_reel_8 rfl (lv_at hl 0 rfl) ?_
  refine gX_0_1 hx hb ht hown hK hP m_154 dX0_reel_9 ?_
  refine lv_iload_n hx hb dX0_reel_12 rfl (lv_at hl 1 rfl) ?_
  refine lX_0_1 hx hb hK hP (f := (fa 0 1)) rfl (vp_in_iff.mpr ⟨by omega, by omega⟩) dX0_reel_13 ?_
  refine lv_topi (fun v2 ev2 => ?_)
  have tv2 : 0 ≤ v2.toInt ∧ v2.toInt ≤ 11 := by rw [ev2]; exact z_0_1
  refine lv_iadd hx hb dX0_reel_14 ?_
  refine lv_topi (fun v3 ev3 => ?_)
  have tv3 := z_add ev3 (rfl : (v1).toInt = _) (rfl : (v2).toInt = _) (by omega) (by omega)
  refine lv_iconst (v := 2) hx hb dX0_reel_15 (by decide) ?_
  refine lv_iload_n hx hb dX0_reel_16 rfl (lv_at hl 2 rfl) ?_
  refine lv_imul hx hb dX0_reel_17 ?_
  refine lv_topi (fun v4 ev4 => ?_)
  refine tX_0_5 hx hb hK hP hD hS (f0 := (fa 0 5)) rfl (i := v3) (x := v4) (vp_in_iff.mpr ⟨by omega, by omega⟩) dX0_reel_18 (fun f5 ef5 H locs hP hD hS => ?_)
  have hf5 : ∀ j, inb (bA 0 5 j) (f5 j) := fun j => full_i _
  refine lv_aload_n hx hb dX0_reel_19 rfl (lv_at hl 0 rfl) ?_
  refine gX_0_1 hx hb ht hown hK hP m_154 dX0_reel_20 ?_
  refine lv_iload_n hx hb dX0_reel_23 rfl (lv_at hl 1 rfl) ?_
  refine lv_dup2_11 hx hb dX0_reel_24 rfl rfl ?_
  refine lX_0_1 hx hb hK hP (f := (fa 0 1)) rfl (vp_in_iff.mpr ⟨by omega, by omega⟩) dX0_reel_25 ?_
  refine lv_topi (fun v6 ev6 => ?_)
  obtain rfl : v2 = v6 := ev2.trans ev6.symm
  refine lv_iconst (v := 1) hx hb dX0_reel_26 (by decide) ?_
  refine lv_iadd hx hb dX0_reel_27 ?_
  refine lv_topi (fun v7 ev7 => ?_)
  have tv7 := z_add ev7 (rfl : (v2).toInt = _) (by decide : (1 : Int32).toInt = 1) (by omega) (by omega)
  refine tX_0_1 hx hb hK hP hD hS (f0 := (fa 0 1)) rfl (i := b) (x := v7) (vp_in_iff.mpr ⟨by omega, by omega⟩) dX0_reel_28 (fun f8 ef8 H locs hP hD hS => ?_)
  have hf8 : ∀ j, inb (bA 0 1 j) (f8 j) := by rw [ef8]; exact upd_b (b := bA 0 1) (hI.2 0 1) (show inb (0, 12) v7 from ⟨by omega, by omega⟩)
  refine lv_aload_n hx hb dX0_reel_29 rfl (lv_at hl 0 rfl) ?_
  refine gX_0_1 hx hb ht hown hK hP m_154 dX0_reel_30 ?_
  refine lv_iload_n hx hb dX0_reel_33 rfl (lv_at hl 1 rfl) ?_
  refine lX_0_1 hx hb hK hP (f := f8) rfl (vp_in_iff.mpr ⟨by omega, by omega⟩) dX0_reel_34 ?_
  refine lv_topi (fun v9 ev9 => ?_)
  have tv9 : 0 ≤ v9.toInt ∧ v9.toInt ≤ 12 := by rw [ev9]; exact hf8 _
  have hP9 : va_P (dC, dI) classes (WX h g ca iv lv (u2 (u2 fa 0 1 f8) 0 5 f5) la) H := hP
  have hD9 : va_D A (WX h g ca iv lv (u2 (u2 fa 0 1 f8) 0 5 f5) la) := hD
  exact W.iret (v := v9) hx hb hr (fun t ht9 hW => ⟨⟨v9, (iv, lv, (u2 (u2 fa 0 1 f8) 0 5 f5), la), rfl, ⟨f8, f5, hf8, (show ∀ j : Nat, j ≠ b.toNatClampNeg → f8 j = (fa 0 1) j from fun j hj => by rw [ef8, upd_ne hj]), (show (v9 : Int32).toInt = ((fa 0 1) b.toNatClampNeg).toInt + 1 from (by have h1 := congrArg Int32.toInt ev2; have h2 := congrArg Int32.toInt (ev9.trans (show f8 (b : Int32).toNatClampNeg = v7 from (by rw [ef8]; exact upd_eq))); omega)), (show (f8 b.toNatClampNeg).toInt = (v9 : Int32).toInt from (congrArg Int32.toInt ev9).symm), ⟨by omega, by omega⟩, rfl⟩, by rw [ht9]; exact hP9, hD9⟩, hS.F ht9⟩) hS.2.2 dX0_reel_35
set_option maxHeartbeats 4000000 in
set_option maxRecDepth 100000 in
/-- X11_thread -/
theorem c_X11_thread_x (l : Launch) (dC : Nat → ClassId) (dI : Nat → Nat → Nat) (sz : Nat) (h : Nat) (g : Nat → Nat → Nat) (ca : Nat → Nat → ClassId) (iv : Nat → Nat → Int32) (lv : Nat → Nat → Int64) (fa : Nat → Nat → Nat → Int32) (la : Nat → Nat → Nat → Int64) (hI : IX iv fa) (a : Int32) (b : Int32) : Met l yX11_thread (wc yX11_thread cX11_thread 3 (some .int)) ({ frames := 1, cells := 0, slots := 0, locals := 22 } : Room) (pW (dC, dI) classes (WX h g ca iv lv fa la) (TX ca) sz [.ref h, .int a, .int b]) (va_Qi (fun r (u : SS) => ∃ (na_0_1 : Nat → Int32) (na_0_5 : Nat → Int32), (∀ j, inb (bA 0 1 j) (na_0_1 j)) ∧ (((r.toInt = -100001 ∧ ¬ (0 ≤ a.toInt ∧ a.toInt < (iv 0 7).toInt)) ∨ (r.toInt = -100002 ∧ 0 ≤ a.toInt ∧ a.toInt < (iv 0 7).toInt ∧ ¬ (1 ≤ b.toInt ∧ b.toInt ≤ 999)) ∨ (r.toInt = -100004 ∧ 0 ≤ a.toInt ∧ a.toInt < (iv 0 7).toInt ∧ 1 ≤ b.toInt ∧ b.toInt ≤ 999 ∧ 12 ≤ ((fa 0 1) a.toNatClampNeg).toInt) ∨ (0 ≤ a.toInt ∧ a.toInt < (iv 0 7).toInt ∧ 1 ≤ b.toInt ∧ b.toInt ≤ 999 ∧ ((fa 0 1) a.toNatClampNeg).toInt < 12 ∧ r.toInt = ((fa 0 1) a.toNatClampNeg).toInt + 1))) ∧ (∀ j : Nat, j ≠ a.toNatClampNeg → na_0_1 j = (fa 0 1) j) ∧ (((r.toInt < 0 ∧ (na_0_1 a.toNatClampNeg) = ((fa 0 1) a.toNatClampNeg)) ∨ (0 ≤ r.toInt ∧ (na_0_1 a.toNatClampNeg).toInt = r.toInt))) ∧ ((-100004) ≤ r.toInt ∧ r.toInt ≤ 12) ∧ u = (iv, lv, (u2 (u2 fa 0 1 na_0_1) 0 5 na_0_5), la)) (bX (dC, dI) h g ca (va_A (WX h g ca iv lv fa la) sz)) (va_A (WX h g ca iv lv fa la) sz)) 0 0 (va_A (WX h g ca iv lv fa la) sz) := by
  refine Met.ofW (cc := cX11_thread) (maxL := 3) (ret := (some .int)) (by decide) rfl ?_
  intro p e s m args below meth c s₁ B hml hv
  obtain ⟨rfl, hsz, hP, hK, hD0⟩ := hv
  have hx := B.exec
  have hb := B.bytes
  have hr := B.returns
  have ht := tb_tl (atoms_spec (ws := wc yX11_thread cX11_thread 3 (some .int)) B.pre)
  have hown : s.vm.findClass RX11 = some m.cls := findClass_of_methodNamed B.named
  have hlocks := B.notSynchronized
  subst hsz
  have hD := hD0.self (sz := s.heap.size)
  generalize hAe : va_A (WX h g ca iv lv fa la) s.heap.size = A at hD ⊢
  have hA : ∀ q : Nat, s.heap.size ≤ q → A q := fun q h => by rw [← hAe]; exact Or.inr h
  have hS : va_S A s.heap s.heap [] := va_S.rf
  have hl := lv_entry [.ref h, .int a, .int b] (n := 3) (Nat.le_of_ble_eq_true rfl)
  rw [lg_entry_eq]
  generalize (lg_sl [.ref h, .int a, .int b] ++ List.replicate (3 - (lg_sl [.ref h, .int a, .int b]).length) Slot.unset).toArray = ls at hl ⊢
  have hl : lv_has ls 3 [(0, .ref h), (1, .int a), (2, .int b)] := hl
  refine lv_aload_n hx hb dX11_thread_0 rfl (lv_at hl 0 rfl) ?_
  refine gX_11_2 hx hb ht hown hK hP m_417 dX11_thread_1 ?_
  refine lv_iload_n hx hb dX11_thread_4 rfl (lv_at hl 1 rfl) ?_
  refine vp_callSi (W.runV (As := [.int a]) (rest := []) ⟨hx, hb, hml, hown, ht⟩ (c_X0_has l dC dI h g ca iv lv fa la hI a) (kV 1 ht m_472 m_473 m_474 m_80 m_475 rfl rfl hd_X0_has_v ⟨Nat.le_of_ble_eq_true rfl, Nat.le_of_ble_eq_true rfl⟩) (vR hP hK (rX_0 hK hP)) rfl rfl hl.1 rfl (lv_room (Nat.le_of_ble_eq_true rfl)) dX11_thread_5 ⟨Nat.le_of_ble_eq_true rfl, Nat.le_of_ble_eq_true rfl⟩) (fun r1 hr1 => ?_)
  rcases hr1 with ⟨rfl, fr1⟩ | ⟨rfl, fr1⟩
  · skip
    have i_0_7 : 0 ≤ (iv 0 7).toInt ∧ (iv 0 7).toInt ≤ 10 := hI.1 0 7
    have fr1 : (0 ≤ (a : Int32).toInt ∧ (a : Int32).toInt < ((iv 0 7) : Int32).toInt) := fr1
    refine lv_if_ne (tgt := 14) hx hb dX11_thread_8 (by decide) (fun c2 => ?_) (fun c2 => ?_)
    · skip
      refine lv_iload_n hx hb dX11_thread_14 rfl (lv_at hl 2 rfl) ?_
      refine lv_iconst (v := 1) hx hb dX11_thread_15 (by decide) ?_
      refine lv_sipush (v := 999) hx hb dX11_thread_16 (by decide) ?_
      refine vp_callSi (W.runS (As := [.int b, .int 1, .int 999]) (rest := []) ⟨hx, hb, hml, hown, ht⟩ (c_X11_within l dC dI b 1 999 (b.toInt) (1) (999) (rfl : (b).toInt = _) (by decide : (1 : Int32).toInt = 1) (by decide : (999 : Int32).toInt = 999)) (kS 3 ht m_453 m_454 m_77 m_455 rfl rfl hd_X11_within_v ⟨Nat.le_of_ble_eq_true rfl, Nat.le_of_ble_eq_true rfl⟩) (sR noP (hK.sub (tys' := []) [] rfl)) rfl rfl hl.1 rfl (lv_room (Nat.le_of_ble_eq_true rfl)) dX11_thread_19 ⟨Nat.le_of_ble_eq_true rfl, Nat.le_of_ble_eq_true rfl⟩) (fun r3 hr3 => ?_)
      rcases hr3 with ⟨rfl, fr3⟩ | ⟨rfl, fr3⟩
      · skip
        refine lv_if_ne (tgt := 28) hx hb dX11_thread_22 (by decide) (fun c4 => ?_) (fun c4 => ?_)
        · skip
          refine lv_aload_n hx hb dX11_thread_28 rfl (lv_at hl 0 rfl) ?_
          refine gX_11_2 hx hb ht hown hK hP m_417 dX11_thread_29 ?_
          refine gX_0_1 hx hb ht hown hK hP m_155 dX11_thread_32 ?_
          refine lv_iload_n hx hb dX11_thread_35 rfl (lv_at hl 1 rfl) ?_
          refine lX_0_1 hx hb hK hP (f := (fa 0 1)) rfl (vp_in_iff.mpr ⟨by omega, by omega⟩) dX11_thread_36 ?_
          refine lv_topi (fun v5 ev5 => ?_)
          have tv5 : 0 ≤ v5.toInt ∧ v5.toInt ≤ 12 := by rw [ev5]; exact hI.2 0 1 _
          refine lv_bipush (v := 12) hx hb dX11_thread_37 (by decide) ?_
          refine lv_icmp_lt (tgt := 47) hx hb dX11_thread_39 (by decide) (fun c6 => ?_) (fun c6 => ?_)
          · have fc6 := z_lt (rfl : (v5).toInt = _) (by decide : (12 : Int32).toInt = 12) c6
            refine lv_aload_n hx hb dX11_thread_47 rfl (lv_at hl 0 rfl) ?_
            refine gX_11_2 hx hb ht hown hK hP m_417 dX11_thread_48 ?_
            refine lv_iload_n hx hb dX11_thread_51 rfl (lv_at hl 1 rfl) ?_
            refine lv_iload_n hx hb dX11_thread_52 rfl (lv_at hl 2 rfl) ?_
            have hFc := free_all hD hS hA
            refine va_calli (va_runV (As := [.int a, .int b]) (rest := []) ⟨hx, hb, hml, hown, ht⟩ (c_X0_reel_x l dC dI s.heap.size h g ca iv lv fa la hI a b (show 0 ≤ ((fa 0 1) (a : Int32).toNatClampNeg).toInt ∧ ((fa 0 1) (a : Int32).toNatClampNeg).toInt ≤ 11 from by rw [← ev5]; exact ⟨by omega, by omega⟩) ⟨by omega, by omega⟩) (kV 2 ht m_945 m_946 m_947 m_80 m_948 rfl rfl hd_X0_reel_v ⟨Nat.le_of_ble_eq_true rfl, Nat.le_of_ble_eq_true rfl⟩) (vW hP hK hD (rX_0 hK hP)) rfl rfl hl.1 rfl (lv_room (Nat.le_of_ble_eq_true rfl)) dX11_thread_53 ⟨Nat.le_of_ble_eq_true rfl, Nat.le_of_ble_eq_true rfl⟩) hS (fun q _ h => hFc q h) hFc (fun r7 u t H1 locs ht9 hvm hr7 hB hz1 hk1 hS => ?_)
            obtain ⟨n8, n9, hn8, xr7_0, xr7_1, xr7_2, hr7, rfl⟩ := hr7
            have hn9 : ∀ j, inb (bA 0 5 j) (n9 j) := fun j => full_i _
            obtain ⟨hP, hD⟩ := hB
            rw [ht9] at hP
            generalize H1 = H at hP hS ⊢
            have hP : va_P (dC, dI) classes (WX h g ca iv lv (u2 (u2 fa 0 1 n8) 0 5 n9) la) H := hP
            have hD : va_D A (WX h g ca iv lv (u2 (u2 fa 0 1 n8) 0 5 n9) la) := (show va_D _ (WX h g ca iv lv (u2 (u2 fa 0 1 n8) 0 5 n9) la) from hD).weaken (fun _ _ _ h => hFc _ h)
            have xr7_0 : ∀ j : Nat, j ≠ (a : Int32).toNatClampNeg → n8 j = (fa 0 1) j := xr7_0
            have xr7_1 : (r7 : Int32).toInt = ((fa 0 1) (a : Int32).toNatClampNeg).toInt + 1 := xr7_1
            have xr7_2 : (n8 (a : Int32).toNatClampNeg).toInt = (r7 : Int32).toInt := xr7_2
            have hP9 : va_P (dC, dI) classes (WX h g ca iv lv (u2 (u2 fa 0 1 n8) 0 5 n9) la) H := hP
            have hD9 : va_D A (WX h g ca iv lv (u2 (u2 fa 0 1 n8) 0 5 n9) la) := hD
            exact W.iret (v := r7) hx hb hr (fun t ht9 hW => ⟨⟨r7, (iv, lv, (u2 (u2 fa 0 1 n8) 0 5 n9), la), rfl, ⟨n8, n9, hn8, (show (((r7 : Int32).toInt = -100001 ∧ ¬ (0 ≤ (a).toInt ∧ (a).toInt < (iv 0 7).toInt)) ∨ ((r7 : Int32).toInt = -100002 ∧ 0 ≤ (a).toInt ∧ (a).toInt < (iv 0 7).toInt ∧ ¬ (1 ≤ (b).toInt ∧ (b).toInt ≤ 999)) ∨ ((r7 : Int32).toInt = -100004 ∧ 0 ≤ (a).toInt ∧ (a).toInt < (iv 0 7).toInt ∧ 1 ≤ (b).toInt ∧ (b).toInt ≤ 999 ∧ 12 ≤ ((fa 0 1) a.toNatClampNeg).toInt) ∨ (0 ≤ (a).toInt ∧ (a).toInt < (iv 0 7).toInt ∧ 1 ≤ (b).toInt ∧ (b).toInt ≤ 999 ∧ ((fa 0 1) a.toNatClampNeg).toInt < 12 ∧ (r7 : Int32).toInt = ((fa 0 1) a.toNatClampNeg).toInt + 1)) from (by have := congrArg Int32.toInt ev5; have := xr7_1; omega)), (show ∀ j : Nat, j ≠ a.toNatClampNeg → n8 j = (fa 0 1) j from xr7_0), (show (((r7 : Int32).toInt < 0 ∧ (n8 a.toNatClampNeg) = ((fa 0 1) a.toNatClampNeg)) ∨ (0 ≤ (r7 : Int32).toInt ∧ (n8 a.toNatClampNeg).toInt = (r7 : Int32).toInt)) from (by have := congrArg Int32.toInt ev5; have h1 := xr7_1; have h2 := xr7_2; exact Or.inr ⟨by omega, by omega⟩)), ⟨by omega, by omega⟩, rfl⟩, by rw [ht9]; exact hP9, hD9⟩, hS.F ht9⟩) hS.2.2 dX11_thread_56
          · have fc6 := z_nlt (rfl : (v5).toInt = _) (by decide : (12 : Int32).toInt = 12) c6
            refine lv_ldc hx hb hown (ht _ m_463) dX11_thread_42 ?_
            refine lv_goto (tgt := 56) hx hb dX11_thread_44 (by decide) ?_
            have : ((-100004) : Int32).toInt = (-100004) := (by decide)
            have hP9 : va_P (dC, dI) classes (WX h g ca iv lv (u2 (u2 fa 0 1 (fa 0 1)) 0 5 (fa 0 5)) la) s.heap := hP
            have hD9 : va_D A (WX h g ca iv lv (u2 (u2 fa 0 1 (fa 0 1)) 0 5 (fa 0 5)) la) := hD
            exact W.iret (v := (-100004)) hx hb hr (fun t ht9 hW => ⟨⟨(-100004), (iv, lv, (u2 (u2 fa 0 1 (fa 0 1)) 0 5 (fa 0 5)), la), rfl, ⟨(fa 0 1), (fa 0 5), (hI.2 0 1), (show ((((-100004) : Int32).toInt = -100001 ∧ ¬ (0 ≤ (a).toInt ∧ (a).toInt < (iv 0 7).toInt)) ∨ (((-100004) : Int32).toInt = -100002 ∧ 0 ≤ (a).toInt ∧ (a).toInt < (iv 0 7).toInt ∧ ¬ (1 ≤ (b).toInt ∧ (b).toInt ≤ 999)) ∨ (((-100004) : Int32).toInt = -100004 ∧ 0 ≤ (a).toInt ∧ (a).toInt < (iv 0 7).toInt ∧ 1 ≤ (b).toInt ∧ (b).toInt ≤ 999 ∧ 12 ≤ ((fa 0 1) a.toNatClampNeg).toInt) ∨ (0 ≤ (a).toInt ∧ (a).toInt < (iv 0 7).toInt ∧ 1 ≤ (b).toInt ∧ (b).toInt ≤ 999 ∧ ((fa 0 1) a.toNatClampNeg).toInt < 12 ∧ ((-100004) : Int32).toInt = ((fa 0 1) a.toNatClampNeg).toInt + 1)) from (by have := congrArg Int32.toInt ev5; omega)), (show ∀ j : Nat, j ≠ a.toNatClampNeg → (fa 0 1) j = (fa 0 1) j from fun j hj => rfl), (show ((((-100004) : Int32).toInt < 0 ∧ ((fa 0 1) a.toNatClampNeg) = ((fa 0 1) a.toNatClampNeg)) ∨ (0 ≤ ((-100004) : Int32).toInt ∧ ((fa 0 1) a.toNatClampNeg).toInt = ((-100004) : Int32).toInt)) from Or.inl ⟨by omega, rfl⟩), ⟨by decide, by decide⟩, rfl⟩, by rw [ht9]; exact hP9, hD9⟩, hS.F ht9⟩) hS.2.2 dX11_thread_56
        · exact absurd c4 (by decide)
      · skip
        refine lv_if_ne (tgt := 28) hx hb dX11_thread_22 (by decide) (fun c10 => ?_) (fun c10 => ?_)
        · exact absurd rfl c10
        · skip
          refine lv_ldc hx hb hown (ht _ m_456) dX11_thread_25 ?_
          have : ((-100002) : Int32).toInt = (-100002) := (by decide)
          have hP9 : va_P (dC, dI) classes (WX h g ca iv lv (u2 (u2 fa 0 1 (fa 0 1)) 0 5 (fa 0 5)) la) s.heap := hP
          have hD9 : va_D A (WX h g ca iv lv (u2 (u2 fa 0 1 (fa 0 1)) 0 5 (fa 0 5)) la) := hD
          exact W.iret (v := (-100002)) hx hb hr (fun t ht9 hW => ⟨⟨(-100002), (iv, lv, (u2 (u2 fa 0 1 (fa 0 1)) 0 5 (fa 0 5)), la), rfl, ⟨(fa 0 1), (fa 0 5), (hI.2 0 1), (show ((((-100002) : Int32).toInt = -100001 ∧ ¬ (0 ≤ (a).toInt ∧ (a).toInt < (iv 0 7).toInt)) ∨ (((-100002) : Int32).toInt = -100002 ∧ 0 ≤ (a).toInt ∧ (a).toInt < (iv 0 7).toInt ∧ ¬ (1 ≤ (b).toInt ∧ (b).toInt ≤ 999)) ∨ (((-100002) : Int32).toInt = -100004 ∧ 0 ≤ (a).toInt ∧ (a).toInt < (iv 0 7).toInt ∧ 1 ≤ (b).toInt ∧ (b).toInt ≤ 999 ∧ 12 ≤ ((fa 0 1) a.toNatClampNeg).toInt) ∨ (0 ≤ (a).toInt ∧ (a).toInt < (iv 0 7).toInt ∧ 1 ≤ (b).toInt ∧ (b).toInt ≤ 999 ∧ ((fa 0 1) a.toNatClampNeg).toInt < 12 ∧ ((-100002) : Int32).toInt = ((fa 0 1) a.toNatClampNeg).toInt + 1)) from (by omega)), (show ∀ j : Nat, j ≠ a.toNatClampNeg → (fa 0 1) j = (fa 0 1) j from fun j hj => rfl), (show ((((-100002) : Int32).toInt < 0 ∧ ((fa 0 1) a.toNatClampNeg) = ((fa 0 1) a.toNatClampNeg)) ∨ (0 ≤ ((-100002) : Int32).toInt ∧ ((fa 0 1) a.toNatClampNeg).toInt = ((-100002) : Int32).toInt)) from Or.inl ⟨by omega, rfl⟩), ⟨by decide, by decide⟩, rfl⟩, by rw [ht9]; exact hP9, hD9⟩, hS.F ht9⟩) hS.2.2 dX11_thread_27
    · exact absurd c2 (by decide)
  · skip
    have i_0_7 : 0 ≤ (iv 0 7).toInt ∧ (iv 0 7).toInt ≤ 10 := hI.1 0 7
    have fr1 : ¬ (0 ≤ (a : Int32).toInt ∧ (a : Int32).toInt < ((iv 0 7) : Int32).toInt) := fr1
    refine lv_if_ne (tgt := 14) hx hb dX11_thread_8 (by decide) (fun c11 => ?_) (fun c11 => ?_)
    · exact absurd rfl c11
    · skip
      refine lv_ldc hx hb hown (ht _ m_476) dX11_thread_11 ?_
      have : ((-100001) : Int32).toInt = (-100001) := (by decide)
      have hP9 : va_P (dC, dI) classes (WX h g ca iv lv (u2 (u2 fa 0 1 (fa 0 1)) 0 5 (fa 0 5)) la) s.heap := hP
      have hD9 : va_D A (WX h g ca iv lv (u2 (u2 fa 0 1 (fa 0 1)) 0 5 (fa 0 5)) la) := hD
      exact W.iret (v := (-100001)) hx hb hr (fun t ht9 hW => ⟨⟨(-100001), (iv, lv, (u2 (u2 fa 0 1 (fa 0 1)) 0 5 (fa 0 5)), la), rfl, ⟨(fa 0 1), (fa 0 5), (hI.2 0 1), (show ((((-100001) : Int32).toInt = -100001 ∧ ¬ (0 ≤ (a).toInt ∧ (a).toInt < (iv 0 7).toInt)) ∨ (((-100001) : Int32).toInt = -100002 ∧ 0 ≤ (a).toInt ∧ (a).toInt < (iv 0 7).toInt ∧ ¬ (1 ≤ (b).toInt ∧ (b).toInt ≤ 999)) ∨ (((-100001) : Int32).toInt = -100004 ∧ 0 ≤ (a).toInt ∧ (a).toInt < (iv 0 7).toInt ∧ 1 ≤ (b).toInt ∧ (b).toInt ≤ 999 ∧ 12 ≤ ((fa 0 1) a.toNatClampNeg).toInt) ∨ (0 ≤ (a).toInt ∧ (a).toInt < (iv 0 7).toInt ∧ 1 ≤ (b).toInt ∧ (b).toInt ≤ 999 ∧ ((fa 0 1) a.toNatClampNeg).toInt < 12 ∧ ((-100001) : Int32).toInt = ((fa 0 1) a.toNatClampNeg).toInt + 1)) from (by omega)), (show ∀ j : Nat, j ≠ a.toNatClampNeg → (fa 0 1) j = (fa 0 1) j from fun j hj => rfl), (show ((((-100001) : Int32).toInt < 0 ∧ ((fa 0 1) a.toNatClampNeg) = ((fa 0 1) a.toNatClampNeg)) ∨ (0 ≤ ((-100001) : Int32).toInt ∧ ((fa 0 1) a.toNatClampNeg).toInt = ((-100001) : Int32).toInt)) from Or.inl ⟨by omega, rfl⟩), ⟨by decide, by decide⟩, rfl⟩, by rw [ht9]; exact hP9, hD9⟩, hS.F ht9⟩) hS.2.2 dX11_thread_13
set_option maxHeartbeats 4000000 in
set_option maxRecDepth 100000 in
/-- X12_thread -/
theorem c_X12_thread_x (l : Launch) (dC : Nat → ClassId) (dI : Nat → Nat → Nat) (sz : Nat) (h : Nat) (g : Nat → Nat → Nat) (ca : Nat → Nat → ClassId) (iv : Nat → Nat → Int32) (lv : Nat → Nat → Int64) (fa : Nat → Nat → Nat → Int32) (la : Nat → Nat → Nat → Int64) (hI : IX iv fa) (a : Int32) (b : Int32) : Met l yX12_thread (wc yX12_thread cX12_thread 3 (some .int)) ({ frames := 2, cells := 0, slots := 0, locals := 46 } : Room) (pW (dC, dI) classes (WM h g ca iv lv fa la) (TM ca) sz [.ref h, .int a, .int b]) (va_Qi (fun r (u : SS) => ∃ (na_12_51 : Nat → Int32) (na_12_52 : Nat → Int32), (∀ j, inb (bA 12 51 j) (na_12_51 j)) ∧ (((r.toInt = -100001 ∧ ¬ (0 ≤ a.toInt ∧ a.toInt < (iv 12 1).toInt)) ∨ (r.toInt = -100002 ∧ 0 ≤ a.toInt ∧ a.toInt < (iv 12 1).toInt ∧ ¬ (1 ≤ b.toInt ∧ b.toInt ≤ 999)) ∨ (r.toInt = -100004 ∧ 0 ≤ a.toInt ∧ a.toInt < (iv 12 1).toInt ∧ 1 ≤ b.toInt ∧ b.toInt ≤ 999 ∧ 12 ≤ ((fa 12 51) a.toNatClampNeg).toInt) ∨ (0 ≤ a.toInt ∧ a.toInt < (iv 12 1).toInt ∧ 1 ≤ b.toInt ∧ b.toInt ≤ 999 ∧ ((fa 12 51) a.toNatClampNeg).toInt < 12 ∧ r.toInt = ((fa 12 51) a.toNatClampNeg).toInt + 1))) ∧ (∀ j : Nat, j ≠ a.toNatClampNeg → na_12_51 j = (fa 12 51) j) ∧ (((r.toInt < 0 ∧ (na_12_51 a.toNatClampNeg) = ((fa 12 51) a.toNatClampNeg)) ∨ (0 ≤ r.toInt ∧ (na_12_51 a.toNatClampNeg).toInt = r.toInt))) ∧ ((-100004) ≤ r.toInt ∧ r.toInt ≤ 12) ∧ u = (iv, lv, (u2 (u2 fa 12 51 na_12_51) 12 52 na_12_52), la)) (bM (dC, dI) h g ca (va_A (WM h g ca iv lv fa la) sz)) (va_A (WM h g ca iv lv fa la) sz)) 0 0 (va_A (WM h g ca iv lv fa la) sz) := by
  refine Met.ofW (cc := cX12_thread) (maxL := 3) (ret := (some .int)) (by decide) rfl ?_
  intro p e s m args below meth c s₁ B hml hv
  obtain ⟨rfl, hsz, hP, hK, hD0⟩ := hv
  have hx := B.exec
  have hb := B.bytes
  have hr := B.returns
  have ht := tb_tl (atoms_spec (ws := wc yX12_thread cX12_thread 3 (some .int)) B.pre)
  have hown : s.vm.findClass RX12 = some m.cls := findClass_of_methodNamed B.named
  have hlocks := B.notSynchronized
  subst hsz
  have hD := hD0.self (sz := s.heap.size)
  generalize hAe : va_A (WM h g ca iv lv fa la) s.heap.size = A at hD ⊢
  have hA : ∀ q : Nat, s.heap.size ≤ q → A q := fun q h => by rw [← hAe]; exact Or.inr h
  have hS : va_S A s.heap s.heap [] := va_S.rf
  have hl := lv_entry [.ref h, .int a, .int b] (n := 3) (Nat.le_of_ble_eq_true rfl)
  rw [lg_entry_eq]
  generalize (lg_sl [.ref h, .int a, .int b] ++ List.replicate (3 - (lg_sl [.ref h, .int a, .int b]).length) Slot.unset).toArray = ls at hl ⊢
  have hl : lv_has ls 3 [(0, .ref h), (1, .int a), (2, .int b)] := hl
  refine lv_aload_n hx hb dX12_thread_0 rfl (lv_at hl 0 rfl) ?_
  refine lv_iload_n hx hb dX12_thread_1 rfl (lv_at hl 1 rfl) ?_
  refine vp_callSi (W.runV (As := [.int a]) (rest := []) ⟨hx, hb, hml, hown, ht⟩ (c_X12_noBale l dC dI h g ca iv lv fa la hI a) (kV 1 ht m_1385 m_1387 m_42 m_89 m_1388 rfl rfl hd_X12_noBale_v ⟨Nat.le_of_ble_eq_true rfl, Nat.le_of_ble_eq_true rfl⟩) (vR hP hK (rM_12 hK hP)) rfl rfl hl.1 rfl (lv_room (Nat.le_of_ble_eq_true rfl)) dX12_thread_2 ⟨Nat.le_of_ble_eq_true rfl, Nat.le_of_ble_eq_true rfl⟩) (fun r1 hr1 => ?_)
  rcases hr1 with ⟨rfl, fr1⟩ | ⟨rfl, fr1⟩
  · skip
    have i_12_1 : 0 ≤ (iv 12 1).toInt ∧ (iv 12 1).toInt ≤ 10 := hI.1 12 1
    have fr1 : ¬ (0 ≤ (a : Int32).toInt ∧ (a : Int32).toInt < ((iv 12 1) : Int32).toInt) := fr1
    refine lv_if_eq (tgt := 11) hx hb dX12_thread_5 (by decide) (fun c2 => ?_) (fun c2 => ?_)
    · exact absurd c2 (by decide)
    · skip
      refine lv_ldc hx hb hown (ht _ m_1389) dX12_thread_8 ?_
      have : ((-100001) : Int32).toInt = (-100001) := (by decide)
      have hP9 : va_P (dC, dI) classes (WM h g ca iv lv (u2 (u2 fa 12 51 (fa 12 51)) 12 52 (fa 12 52)) la) s.heap := hP
      have hD9 : va_D A (WM h g ca iv lv (u2 (u2 fa 12 51 (fa 12 51)) 12 52 (fa 12 52)) la) := hD
      exact W.iret (v := (-100001)) hx hb hr (fun t ht9 hW => ⟨⟨(-100001), (iv, lv, (u2 (u2 fa 12 51 (fa 12 51)) 12 52 (fa 12 52)), la), rfl, ⟨(fa 12 51), (fa 12 52), (hI.2 12 51), (show ((((-100001) : Int32).toInt = -100001 ∧ ¬ (0 ≤ (a).toInt ∧ (a).toInt < (iv 12 1).toInt)) ∨ (((-100001) : Int32).toInt = -100002 ∧ 0 ≤ (a).toInt ∧ (a).toInt < (iv 12 1).toInt ∧ ¬ (1 ≤ (b).toInt ∧ (b).toInt ≤ 999)) ∨ (((-100001) : Int32).toInt = -100004 ∧ 0 ≤ (a).toInt ∧ (a).toInt < (iv 12 1).toInt ∧ 1 ≤ (b).toInt ∧ (b).toInt ≤ 999 ∧ 12 ≤ ((fa 12 51) a.toNatClampNeg).toInt) ∨ (0 ≤ (a).toInt ∧ (a).toInt < (iv 12 1).toInt ∧ 1 ≤ (b).toInt ∧ (b).toInt ≤ 999 ∧ ((fa 12 51) a.toNatClampNeg).toInt < 12 ∧ ((-100001) : Int32).toInt = ((fa 12 51) a.toNatClampNeg).toInt + 1)) from (by omega)), (show ∀ j : Nat, j ≠ a.toNatClampNeg → (fa 12 51) j = (fa 12 51) j from fun j hj => rfl), (show ((((-100001) : Int32).toInt < 0 ∧ ((fa 12 51) a.toNatClampNeg) = ((fa 12 51) a.toNatClampNeg)) ∨ (0 ≤ ((-100001) : Int32).toInt ∧ ((fa 12 51) a.toNatClampNeg).toInt = ((-100001) : Int32).toInt)) from Or.inl ⟨by omega, rfl⟩), ⟨by decide, by decide⟩, rfl⟩, by rw [ht9]; exact hP9, hD9⟩, hS.F ht9⟩) hS.2.2 dX12_thread_10
  · skip
    have i_12_1 : 0 ≤ (iv 12 1).toInt ∧ (iv 12 1).toInt ≤ 10 := hI.1 12 1
    have fr1 : (0 ≤ (a : Int32).toInt ∧ (a : Int32).toInt < ((iv 12 1) : Int32).toInt) := Decidable.not_not.mp fr1
    refine lv_if_eq (tgt := 11) hx hb dX12_thread_5 (by decide) (fun c3 => ?_) (fun c3 => ?_)
    · skip
      refine lv_iload_n hx hb dX12_thread_11 rfl (lv_at hl 2 rfl) ?_
      refine lv_i2l (v := (b.toInt64)) hx hb dX12_thread_12 rfl ?_
      refine lv_lconst (v := 1) hx hb dX12_thread_13 (by decide) ?_
      refine lv_ldc2 hx hb hown (ht _ m_1369) dX12_thread_14 ?_
      refine vp_callSi (W.runS (As := [.long (b.toInt64), .long 1, .long 999]) (rest := []) ⟨hx, hb, hml, hown, ht⟩ (c_X12_in l dC dI (b.toInt64) 1 999 (b.toInt) (1) (999) ((Int32.toInt_toInt64 b).trans rfl) (by decide : (1 : Int64).toInt = 1) (by decide : (999 : Int64).toInt = 999)) (kS 3 ht m_1370 m_1371 m_89 m_1372 rfl rfl hd_X12_in_v ⟨Nat.le_of_ble_eq_true rfl, Nat.le_of_ble_eq_true rfl⟩) (sR noP (hK.sub (tys' := []) [] rfl)) rfl rfl hl.1 rfl (lv_room (Nat.le_of_ble_eq_true rfl)) dX12_thread_17 ⟨Nat.le_of_ble_eq_true rfl, Nat.le_of_ble_eq_true rfl⟩) (fun r4 hr4 => ?_)
      rcases hr4 with ⟨rfl, fr4⟩ | ⟨rfl, fr4⟩
      · skip
        refine lv_if_ne (tgt := 26) hx hb dX12_thread_20 (by decide) (fun c5 => ?_) (fun c5 => ?_)
        · skip
          refine lv_aload_n hx hb dX12_thread_26 rfl (lv_at hl 0 rfl) ?_
          refine gM_12_51 hx hb ht hown hK hP m_1190 dX12_thread_27 ?_
          refine lv_iload_n hx hb dX12_thread_30 rfl (lv_at hl 1 rfl) ?_
          refine lM_12_51 hx hb hK hP (f := (fa 12 51)) rfl (vp_in_iff.mpr ⟨by omega, by omega⟩) dX12_thread_31 ?_
          refine lv_topi (fun v6 ev6 => ?_)
          have tv6 : 0 ≤ v6.toInt ∧ v6.toInt ≤ 12 := by rw [ev6]; exact hI.2 12 51 _
          refine lv_bipush (v := 12) hx hb dX12_thread_32 (by decide) ?_
          refine lv_icmp_ne (tgt := 40) hx hb dX12_thread_34 (by decide) (fun c7 => ?_) (fun c7 => ?_)
          · have fc7 := z_ne (rfl : (v6).toInt = _) (by decide : (12 : Int32).toInt = 12) c7
            refine lv_aload_n hx hb dX12_thread_40 rfl (lv_at hl 0 rfl) ?_
            refine gM_12_52 hx hb ht hown hK hP m_1191 dX12_thread_41 ?_
            refine lv_bipush (v := 12) hx hb dX12_thread_44 (by decide) ?_
            refine lv_iload_n hx hb dX12_thread_46 rfl (lv_at hl 1 rfl) ?_
            refine lv_imul hx hb dX12_thread_47 ?_
            refine lv_topi (fun v8 ev8 => ?_)
            have tv8 := z_mul ev8 (by decide : (12 : Int32).toInt = 12) (rfl : (a).toInt = _) (by omega) (by omega)
            refine lv_aload_n hx hb dX12_thread_48 rfl (lv_at hl 0 rfl) ?_
            refine gM_12_51 hx hb ht hown hK hP m_1190 dX12_thread_49 ?_
            refine lv_iload_n hx hb dX12_thread_52 rfl (lv_at hl 1 rfl) ?_
            refine lM_12_51 hx hb hK hP (f := (fa 12 51)) rfl (vp_in_iff.mpr ⟨by omega, by omega⟩) dX12_thread_53 ?_
            refine lv_topi (fun v9 ev9 => ?_)
            obtain rfl : v6 = v9 := ev6.trans ev9.symm
            refine lv_iadd hx hb dX12_thread_54 ?_
            refine lv_topi (fun v10 ev10 => ?_)
            have tv10 := z_add ev10 (rfl : (v8).toInt = _) (rfl : (v6).toInt = _) (by omega) (by omega)
            refine lv_iload_n hx hb dX12_thread_55 rfl (lv_at hl 2 rfl) ?_
            refine tM_12_52 hx hb hK hP hD hS (f0 := (fa 12 52)) rfl (i := v10) (x := b) (vp_in_iff.mpr ⟨by omega, by omega⟩) dX12_thread_56 (fun f11 ef11 H locs hP hD hS => ?_)
            have hf11 : ∀ j, inb (bA 12 52 j) (f11 j) := fun j => full_i _
            refine lv_aload_n hx hb dX12_thread_57 rfl (lv_at hl 0 rfl) ?_
            refine gM_12_51 hx hb ht hown hK hP m_1190 dX12_thread_58 ?_
            refine lv_iload_n hx hb dX12_thread_61 rfl (lv_at hl 1 rfl) ?_
            refine lv_dup2_11 hx hb dX12_thread_62 rfl rfl ?_
            refine lM_12_51 hx hb hK hP (f := (fa 12 51)) rfl (vp_in_iff.mpr ⟨by omega, by omega⟩) dX12_thread_63 ?_
            refine lv_topi (fun v12 ev12 => ?_)
            obtain rfl : v6 = v12 := ev6.trans ev12.symm
            refine lv_iconst (v := 1) hx hb dX12_thread_64 (by decide) ?_
            refine lv_iadd hx hb dX12_thread_65 ?_
            refine lv_topi (fun v13 ev13 => ?_)
            have tv13 := z_add ev13 (rfl : (v6).toInt = _) (by decide : (1 : Int32).toInt = 1) (by omega) (by omega)
            refine tM_12_51 hx hb hK hP hD hS (f0 := (fa 12 51)) rfl (i := a) (x := v13) (vp_in_iff.mpr ⟨by omega, by omega⟩) dX12_thread_66 (fun f14 ef14 H locs hP hD hS => ?_)
            have hf14 : ∀ j, inb (bA 12 51 j) (f14 j) := by rw [ef14]; exact upd_b (b := bA 12 51) (hI.2 12 51) (show inb (0, 12) v13 from ⟨by omega, by omega⟩)
            refine lv_aload_n hx hb dX12_thread_67 rfl (lv_at hl 0 rfl) ?_
            refine gM_12_51 hx hb ht hown hK hP m_1190 dX12_thread_68 ?_
            refine lv_iload_n hx hb dX12_thread_71 rfl (lv_at hl 1 rfl) ?_
            refine lM_12_51 hx hb hK hP (f := f14) rfl (vp_in_iff.mpr ⟨by omega, by omega⟩) dX12_thread_72 ?_
            refine lv_topi (fun v15 ev15 => ?_)
            have tv15 : 0 ≤ v15.toInt ∧ v15.toInt ≤ 12 := by rw [ev15]; exact hf14 _
            have hP9 : va_P (dC, dI) classes (WM h g ca iv lv (u2 (u2 fa 12 51 f14) 12 52 f11) la) H := hP
            have hD9 : va_D A (WM h g ca iv lv (u2 (u2 fa 12 51 f14) 12 52 f11) la) := hD
            exact W.iret (v := v15) hx hb hr (fun t ht9 hW => ⟨⟨v15, (iv, lv, (u2 (u2 fa 12 51 f14) 12 52 f11), la), rfl, ⟨f14, f11, hf14, (show (((v15 : Int32).toInt = -100001 ∧ ¬ (0 ≤ (a).toInt ∧ (a).toInt < (iv 12 1).toInt)) ∨ ((v15 : Int32).toInt = -100002 ∧ 0 ≤ (a).toInt ∧ (a).toInt < (iv 12 1).toInt ∧ ¬ (1 ≤ (b).toInt ∧ (b).toInt ≤ 999)) ∨ ((v15 : Int32).toInt = -100004 ∧ 0 ≤ (a).toInt ∧ (a).toInt < (iv 12 1).toInt ∧ 1 ≤ (b).toInt ∧ (b).toInt ≤ 999 ∧ 12 ≤ ((fa 12 51) a.toNatClampNeg).toInt) ∨ (0 ≤ (a).toInt ∧ (a).toInt < (iv 12 1).toInt ∧ 1 ≤ (b).toInt ∧ (b).toInt ≤ 999 ∧ ((fa 12 51) a.toNatClampNeg).toInt < 12 ∧ (v15 : Int32).toInt = ((fa 12 51) a.toNatClampNeg).toInt + 1)) from (by have := congrArg Int32.toInt ev6; have := congrArg Int32.toInt (ev15.trans (show f14 (a : Int32).toNatClampNeg = v13 from (by rw [ef14]; exact upd_eq))); omega)), (show ∀ j : Nat, j ≠ a.toNatClampNeg → f14 j = (fa 12 51) j from fun j hj => by rw [ef14, upd_ne hj]), (show (((v15 : Int32).toInt < 0 ∧ (f14 a.toNatClampNeg) = ((fa 12 51) a.toNatClampNeg)) ∨ (0 ≤ (v15 : Int32).toInt ∧ (f14 a.toNatClampNeg).toInt = (v15 : Int32).toInt)) from (Or.inr ⟨by omega, (congrArg Int32.toInt ev15).symm⟩)), ⟨by omega, by omega⟩, rfl⟩, by rw [ht9]; exact hP9, hD9⟩, hS.F ht9⟩) hS.2.2 dX12_thread_73
          · have fc7 := z_eq (rfl : (v6).toInt = _) (by decide : (12 : Int32).toInt = 12) c7
            refine lv_ldc hx hb hown (ht _ m_1380) dX12_thread_37 ?_
            have : ((-100004) : Int32).toInt = (-100004) := (by decide)
            have hP9 : va_P (dC, dI) classes (WM h g ca iv lv (u2 (u2 fa 12 51 (fa 12 51)) 12 52 (fa 12 52)) la) s.heap := hP
            have hD9 : va_D A (WM h g ca iv lv (u2 (u2 fa 12 51 (fa 12 51)) 12 52 (fa 12 52)) la) := hD
            exact W.iret (v := (-100004)) hx hb hr (fun t ht9 hW => ⟨⟨(-100004), (iv, lv, (u2 (u2 fa 12 51 (fa 12 51)) 12 52 (fa 12 52)), la), rfl, ⟨(fa 12 51), (fa 12 52), (hI.2 12 51), (show ((((-100004) : Int32).toInt = -100001 ∧ ¬ (0 ≤ (a).toInt ∧ (a).toInt < (iv 12 1).toInt)) ∨ (((-100004) : Int32).toInt = -100002 ∧ 0 ≤ (a).toInt ∧ (a).toInt < (iv 12 1).toInt ∧ ¬ (1 ≤ (b).toInt ∧ (b).toInt ≤ 999)) ∨ (((-100004) : Int32).toInt = -100004 ∧ 0 ≤ (a).toInt ∧ (a).toInt < (iv 12 1).toInt ∧ 1 ≤ (b).toInt ∧ (b).toInt ≤ 999 ∧ 12 ≤ ((fa 12 51) a.toNatClampNeg).toInt) ∨ (0 ≤ (a).toInt ∧ (a).toInt < (iv 12 1).toInt ∧ 1 ≤ (b).toInt ∧ (b).toInt ≤ 999 ∧ ((fa 12 51) a.toNatClampNeg).toInt < 12 ∧ ((-100004) : Int32).toInt = ((fa 12 51) a.toNatClampNeg).toInt + 1)) from (by have := congrArg Int32.toInt ev6; omega)), (show ∀ j : Nat, j ≠ a.toNatClampNeg → (fa 12 51) j = (fa 12 51) j from fun j hj => rfl), (show ((((-100004) : Int32).toInt < 0 ∧ ((fa 12 51) a.toNatClampNeg) = ((fa 12 51) a.toNatClampNeg)) ∨ (0 ≤ ((-100004) : Int32).toInt ∧ ((fa 12 51) a.toNatClampNeg).toInt = ((-100004) : Int32).toInt)) from Or.inl ⟨by omega, rfl⟩), ⟨by decide, by decide⟩, rfl⟩, by rw [ht9]; exact hP9, hD9⟩, hS.F ht9⟩) hS.2.2 dX12_thread_39
        · exact absurd c5 (by decide)
      · skip
        refine lv_if_ne (tgt := 26) hx hb dX12_thread_20 (by decide) (fun c16 => ?_) (fun c16 => ?_)
        · exact absurd rfl c16
        · skip
          refine lv_ldc hx hb hown (ht _ m_1373) dX12_thread_23 ?_
          have : ((-100002) : Int32).toInt = (-100002) := (by decide)
          have hP9 : va_P (dC, dI) classes (WM h g ca iv lv (u2 (u2 fa 12 51 (fa 12 51)) 12 52 (fa 12 52)) la) s.heap := hP
          have hD9 : va_D A (WM h g ca iv lv (u2 (u2 fa 12 51 (fa 12 51)) 12 52 (fa 12 52)) la) := hD
          exact W.iret (v := (-100002)) hx hb hr (fun t ht9 hW => ⟨⟨(-100002), (iv, lv, (u2 (u2 fa 12 51 (fa 12 51)) 12 52 (fa 12 52)), la), rfl, ⟨(fa 12 51), (fa 12 52), (hI.2 12 51), (show ((((-100002) : Int32).toInt = -100001 ∧ ¬ (0 ≤ (a).toInt ∧ (a).toInt < (iv 12 1).toInt)) ∨ (((-100002) : Int32).toInt = -100002 ∧ 0 ≤ (a).toInt ∧ (a).toInt < (iv 12 1).toInt ∧ ¬ (1 ≤ (b).toInt ∧ (b).toInt ≤ 999)) ∨ (((-100002) : Int32).toInt = -100004 ∧ 0 ≤ (a).toInt ∧ (a).toInt < (iv 12 1).toInt ∧ 1 ≤ (b).toInt ∧ (b).toInt ≤ 999 ∧ 12 ≤ ((fa 12 51) a.toNatClampNeg).toInt) ∨ (0 ≤ (a).toInt ∧ (a).toInt < (iv 12 1).toInt ∧ 1 ≤ (b).toInt ∧ (b).toInt ≤ 999 ∧ ((fa 12 51) a.toNatClampNeg).toInt < 12 ∧ ((-100002) : Int32).toInt = ((fa 12 51) a.toNatClampNeg).toInt + 1)) from (by omega)), (show ∀ j : Nat, j ≠ a.toNatClampNeg → (fa 12 51) j = (fa 12 51) j from fun j hj => rfl), (show ((((-100002) : Int32).toInt < 0 ∧ ((fa 12 51) a.toNatClampNeg) = ((fa 12 51) a.toNatClampNeg)) ∨ (0 ≤ ((-100002) : Int32).toInt ∧ ((fa 12 51) a.toNatClampNeg).toInt = ((-100002) : Int32).toInt)) from Or.inl ⟨by omega, rfl⟩), ⟨by decide, by decide⟩, rfl⟩, by rw [ht9]; exact hP9, hD9⟩, hS.F ht9⟩) hS.2.2 dX12_thread_25
    · exact absurd rfl c3
