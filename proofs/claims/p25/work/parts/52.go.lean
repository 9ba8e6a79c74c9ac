/-! ===== go ===== -/
set_option maxHeartbeats 4000000 in
set_option maxRecDepth 100000 in
/-- X0_bring -/
theorem c_X0_bring_x (l : Launch) (dC : Nat → ClassId) (dI : Nat → Nat → Nat) (sz : Nat) (h : Nat) (g : Nat → Nat → Nat) (ca : Nat → Nat → ClassId) (iv : Nat → Nat → Int32) (lv : Nat → Nat → Int64) (fa : Nat → Nat → Nat → Int32) (la : Nat → Nat → Nat → Int64) (hI : IX iv fa) (a : Int32) (q_0_7 : 0 ≤ (iv 0 7).toInt ∧ (iv 0 7).toInt ≤ 9) : Met l yX0_bring (wc yX0_bring cX0_bring 2 (some .int)) ({ frames := 0, cells := 0, slots := 0, locals := 0 } : Room) (pW (dC, dI) classes (WX h g ca iv lv fa la) (TX ca) sz [.ref (g 11 2), .int a]) (va_Qi (fun r (u : SS) => ∃ (na_0_0 : Nat → Int32) (ni_0_7 : Int32), inb (bI 0 7) ni_0_7 ∧ ni_0_7.toInt = (iv 0 7).toInt + 1 ∧ (r.toInt = (iv 0 7).toInt) ∧ (0 ≤ r.toInt ∧ r.toInt ≤ 9) ∧ u = ((u2 iv 0 7 ni_0_7), lv, (u2 fa 0 0 na_0_0), la)) (bX (dC, dI) h g ca (va_A (WX h g ca iv lv fa la) sz)) (va_A (WX h g ca iv lv fa la) sz)) 0 0 (va_A (WX h g ca iv lv fa la) sz) := by
  refine Met.ofW (cc := cX0_bring) (maxL := 2) (ret := (some .int)) (by decide) rfl ?_
  intro p e s m args below meth c s₁ B hml hv
  obtain ⟨rfl, hsz, hP, hK, hD0⟩ := hv
  have hx := B.exec
  have hb := B.bytes
  have hr := B.returns
  have ht := tb_tl (atoms_spec (ws := wc yX0_bring cX0_bring 2 (some .int)) B.pre)
  have hown : s.vm.findClass RX0 = some m.cls := findClass_of_methodNamed B.named
  have hlocks := B.notSynchronized
  subst hsz
  have hD := hD0.self (sz := s.heap.size)
  generalize hAe : va_A (WX h g ca iv lv fa la) s.heap.size = A at hD ⊢
  have hA : ∀ q : Nat, s.heap.size ≤ q → A q := fun q h => by rw [← hAe]; exact Or.inr h
  have hS : va_S A s.heap s.heap [] := va_S.rf
  have hl := lv_entry [.ref (g 11 2), .int a] (n := 2) (Nat.le_of_ble_eq_true rfl)
  rw [lg_entry_eq]
  generalize (lg_sl [.ref (g 11 2), .int a] ++ List.replicate (2 - (lg_sl [.ref (g 11 2), .int a]).length) Slot.unset).toArray = ls at hl ⊢
  have hl : lv_has ls 2 [(0, .ref (g 11 2)), (1, .int a)] := hl
  refine lv_aload_n hx hb dX0_bring_0 rfl (lv_at hl 0 rfl) ?_
  refine gX_0_0 hx hb ht hown hK hP m_152 dX0_bring_1 ?_
  refine lv_aload_n hx hb dX0_bring_4 rfl (lv_at hl 0 rfl) ?_
  have i_0_7 : 0 ≤ (iv 0 7).toInt ∧ (iv 0 7).toInt ≤ 10 := hI.1 0 7
  refine gX_0_7 hx hb ht hown hK hP m_164 (v := (iv 0 7)) rfl dX0_bring_5 ?_
  refine lv_iload_n hx hb dX0_bring_8 rfl (lv_at hl 1 rfl) ?_
  refine tX_0_0 hx hb hK hP hD hS (f0 := (fa 0 0)) rfl (i := (iv 0 7)) (x := a) (vp_in_iff.mpr ⟨by omega, by omega⟩) dX0_bring_9 (fun f1 ef1 H locs hP hD hS => ?_)
  have hf1 : ∀ j, inb (bA 0 0 j) (f1 j) := fun j => full_i _
  refine lv_aload_n hx hb dX0_bring_10 rfl (lv_at hl 0 rfl) ?_
  refine lv_dup hx hb dX0_bring_11 rfl ?_
  refine gX_0_7 hx hb ht hown hK hP m_164 (v := (iv 0 7)) rfl dX0_bring_12 ?_
  refine lv_iconst (v := 1) hx hb dX0_bring_15 (by decide) ?_
  refine lv_iadd hx hb dX0_bring_16 ?_
  refine lv_topi (fun v2 ev2 => ?_)
  have tv2 := z_add ev2 (rfl : ((iv 0 7)).toInt = _) (by decide : (1 : Int32).toInt = 1) (by omega) (by omega)
  refine pX_0_7 (v := v2) hx hb ht hown hK hP hD hS m_164 dX0_bring_17 (fun H locs hP hD hS => ?_)
  refine lv_aload_n hx hb dX0_bring_20 rfl (lv_at hl 0 rfl) ?_
  refine gX_0_7 hx hb ht hown hK hP m_164 (v := v2) rfl dX0_bring_21 ?_
  refine lv_iconst (v := 1) hx hb dX0_bring_24 (by decide) ?_
  refine lv_isub hx hb dX0_bring_25 ?_
  refine lv_topi (fun v3 ev3 => ?_)
  have tv3 := z_sub ev3 (rfl : (v2).toInt = _) (by decide : (1 : Int32).toInt = 1) (by omega) (by omega)
  have hP9 : va_P (dC, dI) classes (WX h g ca (u2 iv 0 7 v2) lv (u2 fa 0 0 f1) la) H := hP
  have hD9 : va_D A (WX h g ca (u2 iv 0 7 v2) lv (u2 fa 0 0 f1) la) := hD
  exact W.iret (v := v3) hx hb hr (fun t ht9 hW => ⟨⟨v3, ((u2 iv 0 7 v2), lv, (u2 fa 0 0 f1), la), rfl, ⟨f1, v2, (show inb (0, 10) v2 from ⟨by omega, by omega⟩), (by omega), (show (v3 : Int32).toInt = (iv 0 7).toInt from by omega), ⟨by omega, by omega⟩, rfl⟩, by rw [ht9]; exact hP9, hD9⟩, hS.F ht9⟩) hS.2.2 dX0_bring_26
set_option maxHeartbeats 4000000 in
set_option maxRecDepth 100000 in
/-- X11_bale -/
theorem c_X11_bale_x (l : Launch) (dC : Nat → ClassId) (dI : Nat → Nat → Nat) (sz : Nat) (h : Nat) (g : Nat → Nat → Nat) (ca : Nat → Nat → ClassId) (iv : Nat → Nat → Int32) (lv : Nat → Nat → Int64) (fa : Nat → Nat → Nat → Int32) (la : Nat → Nat → Nat → Int64) (hI : IX iv fa) (n : Int32) : Met l yX11_bale (wc yX11_bale cX11_bale 2 (some .int)) ({ frames := 1, cells := 0, slots := 0, locals := 22 } : Room) (pW (dC, dI) classes (WX h g ca iv lv fa la) (TX ca) sz [.ref h, .int n]) (va_Qi (fun r (u : SS) => ∃ (na_0_0 : Nat → Int32) (ni_0_7 : Int32), inb (bI 0 7) ni_0_7 ∧ (((r.toInt = -100002 ∧ ¬ (1 ≤ n.toInt ∧ n.toInt ≤ 99999) ∧ (ni_0_7).toInt = (iv 0 7).toInt) ∨ (r.toInt = -100004 ∧ (1 ≤ n.toInt ∧ n.toInt ≤ 99999) ∧ 10 ≤ (iv 0 7).toInt ∧ (ni_0_7).toInt = (iv 0 7).toInt) ∨ ((1 ≤ n.toInt ∧ n.toInt ≤ 99999) ∧ (iv 0 7).toInt < 10 ∧ r.toInt = (iv 0 7).toInt ∧ (ni_0_7).toInt = (iv 0 7).toInt + 1))) ∧ ((-100004) ≤ r.toInt ∧ r.toInt ≤ 9) ∧ u = ((u2 iv 0 7 ni_0_7), lv, (u2 fa 0 0 na_0_0), la)) (bX (dC, dI) h g ca (va_A (WX h g ca iv lv fa la) sz)) (va_A (WX h g ca iv lv fa la) sz)) 0 0 (va_A (WX h g ca iv lv fa la) sz) := by
  refine Met.ofW (cc := cX11_bale) (maxL := 2) (ret := (some .int)) (by decide) rfl ?_
  intro p e s m args below meth c s₁ B hml hv
  obtain ⟨rfl, hsz, hP, hK, hD0⟩ := hv
  have hx := B.exec
  have hb := B.bytes
  have hr := B.returns
  have ht := tb_tl (atoms_spec (ws := wc yX11_bale cX11_bale 2 (some .int)) B.pre)
  have hown : s.vm.findClass RX11 = some m.cls := findClass_of_methodNamed B.named
  have hlocks := B.notSynchronized
  subst hsz
  have hD := hD0.self (sz := s.heap.size)
  generalize hAe : va_A (WX h g ca iv lv fa la) s.heap.size = A at hD ⊢
  have hA : ∀ q : Nat, s.heap.size ≤ q → A q := fun q h => by rw [← hAe]; exact Or.inr h
  have hS : va_S A s.heap s.heap [] := va_S.rf
  have hl := lv_entry [.ref h, .int n] (n := 2) (Nat.le_of_ble_eq_true rfl)
  rw [lg_entry_eq]
  generalize (lg_sl [.ref h, .int n] ++ List.replicate (2 - (lg_sl [.ref h, .int n]).length) Slot.unset).toArray = ls at hl ⊢
  have hl : lv_has ls 2 [(0, .ref h), (1, .int n)] := hl
  refine lv_iload_n hx hb dX11_bale_0 rfl (lv_at hl 1 rfl) ?_
  refine lv_iconst (v := 1) hx hb dX11_bale_1 (by decide) ?_
  refine lv_ldc hx hb hown (ht _ m_462) dX11_bale_2 ?_
  refine vp_callSi (W.runS (As := [.int n, .int 1, .int 99999]) (rest := []) ⟨hx, hb, hml, hown, ht⟩ (c_X11_within l dC dI n 1 99999 (n.toInt) (1) (99999) (rfl : (n).toInt = _) (by decide : (1 : Int32).toInt = 1) (by decide : (99999 : Int32).toInt = 99999)) (kS 3 ht m_453 m_454 m_77 m_455 rfl rfl hd_X11_within_v ⟨Nat.le_of_ble_eq_true rfl, Nat.le_of_ble_eq_true rfl⟩) (sR noP (hK.sub (tys' := []) [] rfl)) rfl rfl hl.1 rfl (lv_room (Nat.le_of_ble_eq_true rfl)) dX11_bale_4 ⟨Nat.le_of_ble_eq_true rfl, Nat.le_of_ble_eq_true rfl⟩) (fun r1 hr1 => ?_)
  rcases hr1 with ⟨rfl, fr1⟩ | ⟨rfl, fr1⟩
  · skip
    refine lv_if_ne (tgt := 13) hx hb dX11_bale_7 (by decide) (fun c2 => ?_) (fun c2 => ?_)
    · skip
      refine lv_aload_n hx hb dX11_bale_13 rfl (lv_at hl 0 rfl) ?_
      refine gX_11_2 hx hb ht hown hK hP m_417 dX11_bale_14 ?_
      have i_0_7 : 0 ≤ (iv 0 7).toInt ∧ (iv 0 7).toInt ≤ 10 := hI.1 0 7
      refine gX_0_7 hx hb ht hown hK hP m_165 (v := (iv 0 7)) rfl dX11_bale_17 ?_
      refine lv_bipush (v := 10) hx hb dX11_bale_20 (by decide) ?_
      refine lv_icmp_lt (tgt := 28) hx hb dX11_bale_22 (by decide) (fun c3 => ?_) (fun c3 => ?_)
      · have fc3 := z_lt (rfl : ((iv 0 7)).toInt = _) (by decide : (10 : Int32).toInt = 10) c3
        refine lv_aload_n hx hb dX11_bale_28 rfl (lv_at hl 0 rfl) ?_
        refine gX_11_2 hx hb ht hown hK hP m_417 dX11_bale_29 ?_
        refine lv_iload_n hx hb dX11_bale_32 rfl (lv_at hl 1 rfl) ?_
        have hFc := free_all hD hS hA
        refine va_calli (va_runV (As := [.int n]) (rest := []) ⟨hx, hb, hml, hown, ht⟩ (c_X0_bring_x l dC dI s.heap.size h g ca iv lv fa la hI n (show 0 ≤ ((iv 0 7) : Int32).toInt ∧ ((iv 0 7) : Int32).toInt ≤ 9 from ⟨by omega, by omega⟩)) (kV 1 ht m_464 m_465 m_466 m_80 m_467 rfl rfl hd_X0_bring_v ⟨Nat.le_of_ble_eq_true rfl, Nat.le_of_ble_eq_true rfl⟩) (vW hP hK hD (rX_0 hK hP)) rfl rfl hl.1 rfl (lv_room (Nat.le_of_ble_eq_true rfl)) dX11_bale_33 ⟨Nat.le_of_ble_eq_true rfl, Nat.le_of_ble_eq_true rfl⟩) hS (fun q _ h => hFc q h) hFc (fun r4 u t H1 locs ht9 hvm hr4 hB hz1 hk1 hS => ?_)
        obtain ⟨n5, n6, hn6, dn6, xr4_0, hr4, rfl⟩ := hr4
        have hn5 : ∀ j, inb (bA 0 0 j) (n5 j) := fun j => full_i _
        have dn6 : n6.toInt = ((iv 0 7) : Int32).toInt + 1 := dn6
        have hn6 : 0 ≤ n6.toInt ∧ n6.toInt ≤ 10 := hn6
        obtain ⟨hP, hD⟩ := hB
        rw [ht9] at hP
        generalize H1 = H at hP hS ⊢
        have hP : va_P (dC, dI) classes (WX h g ca (u2 iv 0 7 n6) lv (u2 fa 0 0 n5) la) H := hP
        have hD : va_D A (WX h g ca (u2 iv 0 7 n6) lv (u2 fa 0 0 n5) la) := (show va_D _ (WX h g ca (u2 iv 0 7 n6) lv (u2 fa 0 0 n5) la) from hD).weaken (fun _ _ _ h => hFc _ h)
        have xr4_0 : (r4 : Int32).toInt = ((iv 0 7) : Int32).toInt := xr4_0
        have hP9 : va_P (dC, dI) classes (WX h g ca (u2 iv 0 7 n6) lv (u2 fa 0 0 n5) la) H := hP
        have hD9 : va_D A (WX h g ca (u2 iv 0 7 n6) lv (u2 fa 0 0 n5) la) := hD
        exact W.iret (v := r4) hx hb hr (fun t ht9 hW => ⟨⟨r4, ((u2 iv 0 7 n6), lv, (u2 fa 0 0 n5), la), rfl, ⟨n5, n6, (show inb (0, 10) n6 from ⟨by omega, by omega⟩), (show (((r4 : Int32).toInt = -100002 ∧ ¬ (1 ≤ (n).toInt ∧ (n).toInt ≤ 99999) ∧ (n6 : Int32).toInt = (iv 0 7).toInt) ∨ ((r4 : Int32).toInt = -100004 ∧ (1 ≤ (n).toInt ∧ (n).toInt ≤ 99999) ∧ 10 ≤ (iv 0 7).toInt ∧ (n6 : Int32).toInt = (iv 0 7).toInt) ∨ ((1 ≤ (n).toInt ∧ (n).toInt ≤ 99999) ∧ (iv 0 7).toInt < 10 ∧ (r4 : Int32).toInt = (iv 0 7).toInt ∧ (n6 : Int32).toInt = (iv 0 7).toInt + 1)) from by omega), ⟨by omega, by omega⟩, rfl⟩, by rw [ht9]; exact hP9, hD9⟩, hS.F ht9⟩) hS.2.2 dX11_bale_36
      · have fc3 := z_nlt (rfl : ((iv 0 7)).toInt = _) (by decide : (10 : Int32).toInt = 10) c3
        refine lv_ldc hx hb hown (ht _ m_463) dX11_bale_25 ?_
        have : ((-100004) : Int32).toInt = (-100004) := (by decide)
        have hP9 : va_P (dC, dI) classes (WX h g ca (u2 iv 0 7 (iv 0 7)) lv (u2 fa 0 0 (fa 0 0)) la) s.heap := hP
        have hD9 : va_D A (WX h g ca (u2 iv 0 7 (iv 0 7)) lv (u2 fa 0 0 (fa 0 0)) la) := hD
        exact W.iret (v := (-100004)) hx hb hr (fun t ht9 hW => ⟨⟨(-100004), ((u2 iv 0 7 (iv 0 7)), lv, (u2 fa 0 0 (fa 0 0)), la), rfl, ⟨(fa 0 0), (iv 0 7), (hI.1 0 7), (show ((((-100004) : Int32).toInt = -100002 ∧ ¬ (1 ≤ (n).toInt ∧ (n).toInt ≤ 99999) ∧ ((iv 0 7) : Int32).toInt = (iv 0 7).toInt) ∨ (((-100004) : Int32).toInt = -100004 ∧ (1 ≤ (n).toInt ∧ (n).toInt ≤ 99999) ∧ 10 ≤ (iv 0 7).toInt ∧ ((iv 0 7) : Int32).toInt = (iv 0 7).toInt) ∨ ((1 ≤ (n).toInt ∧ (n).toInt ≤ 99999) ∧ (iv 0 7).toInt < 10 ∧ ((-100004) : Int32).toInt = (iv 0 7).toInt ∧ ((iv 0 7) : Int32).toInt = (iv 0 7).toInt + 1)) from by omega), ⟨by decide, by decide⟩, rfl⟩, by rw [ht9]; exact hP9, hD9⟩, hS.F ht9⟩) hS.2.2 dX11_bale_27
    · exact absurd c2 (by decide)
  · skip
    refine lv_if_ne (tgt := 13) hx hb dX11_bale_7 (by decide) (fun c7 => ?_) (fun c7 => ?_)
    · exact absurd rfl c7
    · skip
      refine lv_ldc hx hb hown (ht _ m_456) dX11_bale_10 ?_
      have : ((-100002) : Int32).toInt = (-100002) := (by decide)
      have i_0_7 : 0 ≤ (iv 0 7).toInt ∧ (iv 0 7).toInt ≤ 10 := hI.1 0 7
      have hP9 : va_P (dC, dI) classes (WX h g ca (u2 iv 0 7 (iv 0 7)) lv (u2 fa 0 0 (fa 0 0)) la) s.heap := hP
      have hD9 : va_D A (WX h g ca (u2 iv 0 7 (iv 0 7)) lv (u2 fa 0 0 (fa 0 0)) la) := hD
      exact W.iret (v := (-100002)) hx hb hr (fun t ht9 hW => ⟨⟨(-100002), ((u2 iv 0 7 (iv 0 7)), lv, (u2 fa 0 0 (fa 0 0)), la), rfl, ⟨(fa 0 0), (iv 0 7), (hI.1 0 7), (show ((((-100002) : Int32).toInt = -100002 ∧ ¬ (1 ≤ (n).toInt ∧ (n).toInt ≤ 99999) ∧ ((iv 0 7) : Int32).toInt = (iv 0 7).toInt) ∨ (((-100002) : Int32).toInt = -100004 ∧ (1 ≤ (n).toInt ∧ (n).toInt ≤ 99999) ∧ 10 ≤ (iv 0 7).toInt ∧ ((iv 0 7) : Int32).toInt = (iv 0 7).toInt) ∨ ((1 ≤ (n).toInt ∧ (n).toInt ≤ 99999) ∧ (iv 0 7).toInt < 10 ∧ ((-100002) : Int32).toInt = (iv 0 7).toInt ∧ ((iv 0 7) : Int32).toInt = (iv 0 7).toInt + 1)) from by omega), ⟨by decide, by decide⟩, rfl⟩, by rw [ht9]; exact hP9, hD9⟩, hS.F ht9⟩) hS.2.2 dX11_bale_12
set_option maxHeartbeats 4000000 in
set_option maxRecDepth 100000 in
/-- X12_bale -/
theorem c_X12_bale_x (l : Launch) (dC : Nat → ClassId) (dI : Nat → Nat → Nat) (sz : Nat) (h : Nat) (g : Nat → Nat → Nat) (ca : Nat → Nat → ClassId) (iv : Nat → Nat → Int32) (lv : Nat → Nat → Int64) (fa : Nat → Nat → Nat → Int32) (la : Nat → Nat → Nat → Int64) (hI : IX iv fa) (n : Int32) : Met l yX12_bale (wc yX12_bale cX12_bale 2 (some .int)) ({ frames := 1, cells := 0, slots := 0, locals := 25 } : Room) (pW (dC, dI) classes (WM h g ca iv lv fa la) (TM ca) sz [.ref h, .int n]) (va_Qi (fun r (u : SS) => ∃ (na_12_2 : Nat → Int32) (na_12_51 : Nat → Int32) (na_12_53 : Nat → Int32) (ni_12_1 : Int32), (∀ j, inb (bA 12 51 j) (na_12_51 j)) ∧ (∀ j, inb (bA 12 53 j) (na_12_53 j)) ∧ inb (bI 12 1) ni_12_1 ∧ (((r.toInt = -100002 ∧ ¬ (1 ≤ n.toInt ∧ n.toInt ≤ 99999) ∧ (ni_12_1).toInt = (iv 12 1).toInt) ∨ (r.toInt = -100004 ∧ (1 ≤ n.toInt ∧ n.toInt ≤ 99999) ∧ 10 ≤ (iv 12 1).toInt ∧ (ni_12_1).toInt = (iv 12 1).toInt) ∨ ((1 ≤ n.toInt ∧ n.toInt ≤ 99999) ∧ (iv 12 1).toInt < 10 ∧ r.toInt = (iv 12 1).toInt ∧ (ni_12_1).toInt = (iv 12 1).toInt + 1))) ∧ (∀ j : Nat, j ≠ (iv 12 1).toNatClampNeg → na_12_53 j = (fa 12 53) j) ∧ ((na_12_53 (iv 12 1).toNatClampNeg = (fa 12 53) (iv 12 1).toNatClampNeg ∨ na_12_53 (iv 12 1).toNatClampNeg = 0)) ∧ ((-100004) ≤ r.toInt ∧ r.toInt ≤ 9) ∧ u = ((u2 iv 12 1 ni_12_1), lv, (u2 (u2 (u2 fa 12 2 na_12_2) 12 51 na_12_51) 12 53 na_12_53), la)) (bM (dC, dI) h g ca (va_A (WM h g ca iv lv fa la) sz)) (va_A (WM h g ca iv lv fa la) sz)) 0 0 (va_A (WM h g ca iv lv fa la) sz) := by
  refine Met.ofW (cc := cX12_bale) (maxL := 2) (ret := (some .int)) (by decide) rfl ?_
  intro p e s m args below meth c s₁ B hml hv
  obtain ⟨rfl, hsz, hP, hK, hD0⟩ := hv
  have hx := B.exec
  have hb := B.bytes
  have hr := B.returns
  have ht := tb_tl (atoms_spec (ws := wc yX12_bale cX12_bale 2 (some .int)) B.pre)
  have hown : s.vm.findClass RX12 = some m.cls := findClass_of_methodNamed B.named
  have hlocks := B.notSynchronized
  subst hsz
  have hD := hD0.self (sz := s.heap.size)
  generalize hAe : va_A (WM h g ca iv lv fa la) s.heap.size = A at hD ⊢
  have hA : ∀ q : Nat, s.heap.size ≤ q → A q := fun q h => by rw [← hAe]; exact Or.inr h
  have hS : va_S A s.heap s.heap [] := va_S.rf
  have hl := lv_entry [.ref h, .int n] (n := 2) (Nat.le_of_ble_eq_true rfl)
  rw [lg_entry_eq]
  generalize (lg_sl [.ref h, .int n] ++ List.replicate (2 - (lg_sl [.ref h, .int n]).length) Slot.unset).toArray = ls at hl ⊢
  have hl : lv_has ls 2 [(0, .ref h), (1, .int n)] := hl
  refine lv_iload_n hx hb dX12_bale_0 rfl (lv_at hl 1 rfl) ?_
  refine lv_i2l (v := (n.toInt64)) hx hb dX12_bale_1 rfl ?_
  refine lv_lconst (v := 1) hx hb dX12_bale_2 (by decide) ?_
  refine lv_ldc2 hx hb hown (ht _ m_1379) dX12_bale_3 ?_
  refine vp_callSi (W.runS (As := [.long (n.toInt64), .long 1, .long 99999]) (rest := []) ⟨hx, hb, hml, hown, ht⟩ (c_X12_in l dC dI (n.toInt64) 1 99999 (n.toInt) (1) (99999) ((Int32.toInt_toInt64 n).trans rfl) (by decide : (1 : Int64).toInt = 1) (by decide : (99999 : Int64).toInt = 99999)) (kS 3 ht m_1370 m_1371 m_89 m_1372 rfl rfl hd_X12_in_v ⟨Nat.le_of_ble_eq_true rfl, Nat.le_of_ble_eq_true rfl⟩) (sR noP (hK.sub (tys' := []) [] rfl)) rfl rfl hl.1 rfl (lv_room (Nat.le_of_ble_eq_true rfl)) dX12_bale_6 ⟨Nat.le_of_ble_eq_true rfl, Nat.le_of_ble_eq_true rfl⟩) (fun r1 hr1 => ?_)
  rcases hr1 with ⟨rfl, fr1⟩ | ⟨rfl, fr1⟩
  · skip
    refine lv_if_ne (tgt := 15) hx hb dX12_bale_9 (by decide) (fun c2 => ?_) (fun c2 => ?_)
    · skip
      refine lv_aload_n hx hb dX12_bale_15 rfl (lv_at hl 0 rfl) ?_
      have i_12_1 : 0 ≤ (iv 12 1).toInt ∧ (iv 12 1).toInt ≤ 10 := hI.1 12 1
      refine gM_12_1 hx hb ht hown hK hP m_1140 (v := (iv 12 1)) rfl dX12_bale_16 ?_
      refine lv_bipush (v := 10) hx hb dX12_bale_19 (by decide) ?_
      refine lv_icmp_ne (tgt := 27) hx hb dX12_bale_21 (by decide) (fun c3 => ?_) (fun c3 => ?_)
      · have fc3 := z_ne (rfl : ((iv 12 1)).toInt = _) (by decide : (10 : Int32).toInt = 10) c3
        refine lv_aload_n hx hb dX12_bale_27 rfl (lv_at hl 0 rfl) ?_
        refine gM_12_2 hx hb ht hown hK hP m_1141 dX12_bale_28 ?_
        refine lv_aload_n hx hb dX12_bale_31 rfl (lv_at hl 0 rfl) ?_
        refine gM_12_1 hx hb ht hown hK hP m_1140 (v := (iv 12 1)) rfl dX12_bale_32 ?_
        refine lv_iload_n hx hb dX12_bale_35 rfl (lv_at hl 1 rfl) ?_
        refine tM_12_2 hx hb hK hP hD hS (f0 := (fa 12 2)) rfl (i := (iv 12 1)) (x := n) (vp_in_iff.mpr ⟨by omega, by omega⟩) dX12_bale_36 (fun f4 ef4 H locs hP hD hS => ?_)
        have hf4 : ∀ j, inb (bA 12 2 j) (f4 j) := fun j => full_i _
        refine lv_aload_n hx hb dX12_bale_37 rfl (lv_at hl 0 rfl) ?_
        refine gM_12_51 hx hb ht hown hK hP m_1190 dX12_bale_38 ?_
        refine lv_aload_n hx hb dX12_bale_41 rfl (lv_at hl 0 rfl) ?_
        refine gM_12_1 hx hb ht hown hK hP m_1140 (v := (iv 12 1)) rfl dX12_bale_42 ?_
        refine lv_iconst (v := 0) hx hb dX12_bale_45 (by decide) ?_
        refine tM_12_51 hx hb hK hP hD hS (f0 := (fa 12 51)) rfl (i := (iv 12 1)) (x := 0) (vp_in_iff.mpr ⟨by omega, by omega⟩) dX12_bale_46 (fun f5 ef5 H locs hP hD hS => ?_)
        have hf5 : ∀ j, inb (bA 12 51 j) (f5 j) := by rw [ef5]; exact upd_b (b := bA 12 51) (hI.2 12 51) (show inb (0, 12) 0 from ⟨by decide, by decide⟩)
        refine lv_aload_n hx hb dX12_bale_47 rfl (lv_at hl 0 rfl) ?_
        refine gM_12_53 hx hb ht hown hK hP m_1192 dX12_bale_48 ?_
        refine lv_aload_n hx hb dX12_bale_51 rfl (lv_at hl 0 rfl) ?_
        refine gM_12_1 hx hb ht hown hK hP m_1140 (v := (iv 12 1)) rfl dX12_bale_52 ?_
        refine lv_iconst (v := 0) hx hb dX12_bale_55 (by decide) ?_
        refine tM_12_53 hx hb hK hP hD hS (f0 := (fa 12 53)) rfl (i := (iv 12 1)) (x := 0) (vp_in_iff.mpr ⟨by omega, by omega⟩) dX12_bale_56 (fun f6 ef6 H locs hP hD hS => ?_)
        have hf6 : ∀ j, inb (bA 12 53 j) (f6 j) := by rw [ef6]; exact upd_b (b := bA 12 53) (hI.2 12 53) (show inb (0, 8) 0 from ⟨by decide, by decide⟩)
        refine lv_aload_n hx hb dX12_bale_57 rfl (lv_at hl 0 rfl) ?_
        refine lv_dup hx hb dX12_bale_58 rfl ?_
        refine gM_12_1 hx hb ht hown hK hP m_1140 (v := (iv 12 1)) rfl dX12_bale_59 ?_
        refine lv_iconst (v := 1) hx hb dX12_bale_62 (by decide) ?_
        refine lv_iadd hx hb dX12_bale_63 ?_
        refine lv_topi (fun v7 ev7 => ?_)
        have tv7 := z_add ev7 (rfl : ((iv 12 1)).toInt = _) (by decide : (1 : Int32).toInt = 1) (by omega) (by omega)
        refine pM_12_1 (v := v7) hx hb ht hown hK hP hD hS m_1140 dX12_bale_64 (fun H locs hP hD hS => ?_)
        refine lv_aload_n hx hb dX12_bale_67 rfl (lv_at hl 0 rfl) ?_
        refine gM_12_1 hx hb ht hown hK hP m_1140 (v := v7) rfl dX12_bale_68 ?_
        refine lv_iconst (v := 1) hx hb dX12_bale_71 (by decide) ?_
        refine lv_isub hx hb dX12_bale_72 ?_
        refine lv_topi (fun v8 ev8 => ?_)
        have tv8 := z_sub ev8 (rfl : (v7).toInt = _) (by decide : (1 : Int32).toInt = 1) (by omega) (by omega)
        have hP9 : va_P (dC, dI) classes (WM h g ca (u2 iv 12 1 v7) lv (u2 (u2 (u2 fa 12 2 f4) 12 51 f5) 12 53 f6) la) H := hP
        have hD9 : va_D A (WM h g ca (u2 iv 12 1 v7) lv (u2 (u2 (u2 fa 12 2 f4) 12 51 f5) 12 53 f6) la) := hD
        exact W.iret (v := v8) hx hb hr (fun t ht9 hW => ⟨⟨v8, ((u2 iv 12 1 v7), lv, (u2 (u2 (u2 fa 12 2 f4) 12 51 f5) 12 53 f6), la), rfl, ⟨f4, f5, f6, v7, hf5, hf6, (show inb (0, 10) v7 from ⟨by omega, by omega⟩), (show (((v8 : Int32).toInt = -100002 ∧ ¬ (1 ≤ (n).toInt ∧ (n).toInt ≤ 99999) ∧ (v7 : Int32).toInt = (iv 12 1).toInt) ∨ ((v8 : Int32).toInt = -100004 ∧ (1 ≤ (n).toInt ∧ (n).toInt ≤ 99999) ∧ 10 ≤ (iv 12 1).toInt ∧ (v7 : Int32).toInt = (iv 12 1).toInt) ∨ ((1 ≤ (n).toInt ∧ (n).toInt ≤ 99999) ∧ (iv 12 1).toInt < 10 ∧ (v8 : Int32).toInt = (iv 12 1).toInt ∧ (v7 : Int32).toInt = (iv 12 1).toInt + 1)) from by omega), (show ∀ j : Nat, j ≠ (iv 12 1).toNatClampNeg → f6 j = (fa 12 53) j from fun j hj => by rw [ef6, upd_ne hj]), (show (f6 (iv 12 1).toNatClampNeg = (fa 12 53) (iv 12 1).toNatClampNeg ∨ f6 (iv 12 1).toNatClampNeg = 0) from Or.inr (by rw [ef6]; exact upd_eq)), ⟨by omega, by omega⟩, rfl⟩, by rw [ht9]; exact hP9, hD9⟩, hS.F ht9⟩) hS.2.2 dX12_bale_73
      · have fc3 := z_eq (rfl : ((iv 12 1)).toInt = _) (by decide : (10 : Int32).toInt = 10) c3
        refine lv_ldc hx hb hown (ht _ m_1380) dX12_bale_24 ?_
        have : ((-100004) : Int32).toInt = (-100004) := (by decide)
        have hP9 : va_P (dC, dI) classes (WM h g ca (u2 iv 12 1 (iv 12 1)) lv (u2 (u2 (u2 fa 12 2 (fa 12 2)) 12 51 (fa 12 51)) 12 53 (fa 12 53)) la) s.heap := hP
        have hD9 : va_D A (WM h g ca (u2 iv 12 1 (iv 12 1)) lv (u2 (u2 (u2 fa 12 2 (fa 12 2)) 12 51 (fa 12 51)) 12 53 (fa 12 53)) la) := hD
        exact W.iret (v := (-100004)) hx hb hr (fun t ht9 hW => ⟨⟨(-100004), ((u2 iv 12 1 (iv 12 1)), lv, (u2 (u2 (u2 fa 12 2 (fa 12 2)) 12 51 (fa 12 51)) 12 53 (fa 12 53)), la), rfl, ⟨(fa 12 2), (fa 12 51), (fa 12 53), (iv 12 1), (hI.2 12 51), (hI.2 12 53), (hI.1 12 1), (show ((((-100004) : Int32).toInt = -100002 ∧ ¬ (1 ≤ (n).toInt ∧ (n).toInt ≤ 99999) ∧ ((iv 12 1) : Int32).toInt = (iv 12 1).toInt) ∨ (((-100004) : Int32).toInt = -100004 ∧ (1 ≤ (n).toInt ∧ (n).toInt ≤ 99999) ∧ 10 ≤ (iv 12 1).toInt ∧ ((iv 12 1) : Int32).toInt = (iv 12 1).toInt) ∨ ((1 ≤ (n).toInt ∧ (n).toInt ≤ 99999) ∧ (iv 12 1).toInt < 10 ∧ ((-100004) : Int32).toInt = (iv 12 1).toInt ∧ ((iv 12 1) : Int32).toInt = (iv 12 1).toInt + 1)) from by omega), (show ∀ j : Nat, j ≠ (iv 12 1).toNatClampNeg → (fa 12 53) j = (fa 12 53) j from fun j hj => rfl), (show ((fa 12 53) (iv 12 1).toNatClampNeg = (fa 12 53) (iv 12 1).toNatClampNeg ∨ (fa 12 53) (iv 12 1).toNatClampNeg = 0) from Or.inl rfl), ⟨by decide, by decide⟩, rfl⟩, by rw [ht9]; exact hP9, hD9⟩, hS.F ht9⟩) hS.2.2 dX12_bale_26
    · exact absurd c2 (by decide)
  · skip
    refine lv_if_ne (tgt := 15) hx hb dX12_bale_9 (by decide) (fun c9 => ?_) (fun c9 => ?_)
    · exact absurd rfl c9
    · skip
      refine lv_ldc hx hb hown (ht _ m_1373) dX12_bale_12 ?_
      have : ((-100002) : Int32).toInt = (-100002) := (by decide)
      have i_12_1 : 0 ≤ (iv 12 1).toInt ∧ (iv 12 1).toInt ≤ 10 := hI.1 12 1
      have hP9 : va_P (dC, dI) classes (WM h g ca (u2 iv 12 1 (iv 12 1)) lv (u2 (u2 (u2 fa 12 2 (fa 12 2)) 12 51 (fa 12 51)) 12 53 (fa 12 53)) la) s.heap := hP
      have hD9 : va_D A (WM h g ca (u2 iv 12 1 (iv 12 1)) lv (u2 (u2 (u2 fa 12 2 (fa 12 2)) 12 51 (fa 12 51)) 12 53 (fa 12 53)) la) := hD
      exact W.iret (v := (-100002)) hx hb hr (fun t ht9 hW => ⟨⟨(-100002), ((u2 iv 12 1 (iv 12 1)), lv, (u2 (u2 (u2 fa 12 2 (fa 12 2)) 12 51 (fa 12 51)) 12 53 (fa 12 53)), la), rfl, ⟨(fa 12 2), (fa 12 51), (fa 12 53), (iv 12 1), (hI.2 12 51), (hI.2 12 53), (hI.1 12 1), (show ((((-100002) : Int32).toInt = -100002 ∧ ¬ (1 ≤ (n).toInt ∧ (n).toInt ≤ 99999) ∧ ((iv 12 1) : Int32).toInt = (iv 12 1).toInt) ∨ (((-100002) : Int32).toInt = -100004 ∧ (1 ≤ (n).toInt ∧ (n).toInt ≤ 99999) ∧ 10 ≤ (iv 12 1).toInt ∧ ((iv 12 1) : Int32).toInt = (iv 12 1).toInt) ∨ ((1 ≤ (n).toInt ∧ (n).toInt ≤ 99999) ∧ (iv 12 1).toInt < 10 ∧ ((-100002) : Int32).toInt = (iv 12 1).toInt ∧ ((iv 12 1) : Int32).toInt = (iv 12 1).toInt + 1)) from by omega), (show ∀ j : Nat, j ≠ (iv 12 1).toNatClampNeg → (fa 12 53) j = (fa 12 53) j from fun j hj => rfl), (show ((fa 12 53) (iv 12 1).toNatClampNeg = (fa 12 53) (iv 12 1).toNatClampNeg ∨ (fa 12 53) (iv 12 1).toNatClampNeg = 0) from Or.inl rfl), ⟨by decide, by decide⟩, rfl⟩, by rw [ht9]; exact hP9, hD9⟩, hS.F ht9⟩) hS.2.2 dX12_bale_14
set_option maxHeartbeats 4000000 in
set_option maxRecDepth 100000 in
/-- X0_untwist -/
theorem c_X0_untwist_x (l : Launch) (dC : Nat → ClassId) (dI : Nat → Nat → Nat) (sz : Nat) (h : Nat) (g : Nat → Nat → Nat) (ca : Nat → Nat → ClassId) (iv : Nat → Nat → Int32) (lv : Nat → Nat → Int64) (fa : Nat → Nat → Nat → Int32) (la : Nat → Nat → Nat → Int64) (hI : IX iv fa) (b : Int32) (a : Int32) (z_0_2 : 0 ≤ (fa 0 2 b.toNatClampNeg).toInt ∧ (fa 0 2 b.toNatClampNeg).toInt ≤ 7) (h_b : 0 ≤ b.toInt ∧ b.toInt ≤ 9) : Met l yX0_untwist (wc yX0_untwist cX0_untwist 5 (some .int)) ({ frames := 0, cells := 0, slots := 0, locals := 0 } : Room) (pW (dC, dI) classes (WX h g ca iv lv fa la) (TX ca) sz [.ref (g 11 2), .int b, .int a]) (va_Qi (fun r (u : SS) => ∃ (na_0_2 : Nat → Int32) (na_0_6 : Nat → Int32), (∀ j, inb (bA 0 2 j) (na_0_2 j)) ∧ (∀ j : Nat, j ≠ b.toNatClampNeg → na_0_2 j = (fa 0 2) j) ∧ (r.toInt = ((fa 0 2) b.toNatClampNeg).toInt + 1) ∧ ((na_0_2 b.toNatClampNeg).toInt = r.toInt) ∧ (0 ≤ r.toInt ∧ r.toInt ≤ 8) ∧ u = (iv, lv, (u2 (u2 fa 0 2 na_0_2) 0 6 na_0_6), la)) (bX (dC, dI) h g ca (va_A (WX h g ca iv lv fa la) sz)) (va_A (WX h g ca iv lv fa la) sz)) 0 0 (va_A (WX h g ca iv lv fa la) sz) := by
  refine Met.ofW (cc := cX0_untwist) (maxL := 5) (ret := (some .int)) (by decide) rfl ?_
  intro p e s m args below meth c s₁ B hml hv
  obtain ⟨rfl, hsz, hP, hK, hD0⟩ := hv
  have hx := B.exec
  have hb := B.bytes
  have hr := B.returns
  have ht := tb_tl (atoms_spec (ws := wc yX0_untwist cX0_untwist 5 (some .int)) B.pre)
  have hown : s.vm.findClass RX0 = some m.cls := findClass_of_methodNamed B.named
  have hlocks := B.notSynchronized
  subst hsz
  have hD := hD0.self (sz := s.heap.size)
  generalize hAe : va_A (WX h g ca iv lv fa la) s.heap.size = A at hD ⊢
  have hA : ∀ q : Nat, s.heap.size ≤ q → A q := fun q h => by rw [← hAe]; exact Or.inr h
  have hS : va_S A s.heap s.heap [] := va_S.rf
  have hl := lv_entry [.ref (g 11 2), .int b, .int a] (n := 5) (Nat.le_of_ble_eq_true rfl)
  rw [lg_entry_eq]
  generalize (lg_sl [.ref (g 11 2), .int b, .int a] ++ List.replicate (5 - (lg_sl [.ref (g 11 2), .int b, .int a]).length) Slot.unset).toArray = ls at hl ⊢
  have hl : lv_has ls 5 [(0, .ref (g 11 2)), (1, .int b), (2, .int a)] := hl
  refine lv_iload_n hx hb dX0_untwist_0 rfl (lv_at hl 1 rfl) ?_
  refine lv_bipush (v := 8) hx hb dX0_untwist_1 (by decide) ?_
  refine lv_imul hx hb dX0_untwist_3 ?_
  refine lv_topi (fun v1 ev1 => ?_)
  have tv1 := z_mul ev1 (rfl : (b).toInt = _) (by decide : (8 : Int32).toInt = 8) (by omega) (by omega)
  refine lv_istore_n (lv' := [(3, .int v1), (0, .ref (g 11 2)), (1, .int b), (2, .int a)]) hx hb dX0_untwist_4 rfl hl (by decide) rfl (fun ls hl => ?_)
  refine lv_iload_n hx hb dX0_untwist_5 rfl (lv_at hl 0 rfl) ?_
  refine lv_aload_n hx hb dX0_untwist_6 rfl (lv_at hl 1 rfl) ?_
  refine gX_0_2 hx hb ht hown hK hP m_156 dX0_untwist_7 ?_
  refine lv_iload_n hx hb dX0_untwist_10 rfl (lv_at hl 2 rfl) ?_
  refine lX_0_2 hx hb hK hP (f := (fa 0 2)) rfl (vp_in_iff.mpr ⟨by omega, by omega⟩) dX0_untwist_11 ?_
  refine lv_topi (fun v2 ev2 => ?_)
  have tv2 : 0 ≤ v2.toInt ∧ v2.toInt ≤ 7 := by rw [ev2]; exact z_0_2
  refine lv_iadd hx hb dX0_untwist_12 ?_
  refine lv_topi (fun v3 ev3 => ?_)
  have tv3 := z_add ev3 (rfl : (v1).toInt = _) (rfl : (v2).toInt = _) (by omega) (by omega)
  refine lv_istore (lv' := [(4, .int v3), (3, .int v1), (0, .ref (g 11 2)), (1, .int b), (2, .int a)]) hx hb dX0_untwist_13 hl (by decide) rfl (fun ls hl => ?_)
  have lp43 : ∀ (nn43 : Nat) (x42_4 : Int32) (w42_a_0_6 : Nat → Int32), 0 ≤ x42_4.toInt ∧ x42_4.toInt ≤ 79 → (∀ j, inb (bA 0 6 j) (w42_a_0_6 j)) → x42_4.toInt - 0 < (nn43 : Int) → ∀ (H : Heap) (locs : List Loc), ∀ (ls : Array Slot), va_P (dC, dI) classes (WX h g ca iv lv (u2 fa 0 6 w42_a_0_6) la) H → va_D A (WX h g ca iv lv (u2 fa 0 6 w42_a_0_6) la) → va_S A s.heap H locs → lv_has ls 5 [(4, .int x42_4), (3, .int v1), (0, .ref (g 11 2)), (1, .int b), (2, .int a)] → W p l e ({ frames := 0, cells := 0, slots := 0, locals := 0 } : Room) s m ([.ref (g 11 2), .int b, .int a] : List Value).toArray below meth c H locs 0 0 (MQ below (va_Qi (fun r (u : SS) => ∃ (na_0_2 : Nat → Int32) (na_0_6 : Nat → Int32), (∀ j, inb (bA 0 2 j) (na_0_2 j)) ∧ (∀ j : Nat, j ≠ b.toNatClampNeg → na_0_2 j = (fa 0 2) j) ∧ (r.toInt = ((fa 0 2) b.toNatClampNeg).toInt + 1) ∧ ((na_0_2 b.toNatClampNeg).toInt = r.toInt) ∧ (0 ≤ r.toInt ∧ r.toInt ≤ 8) ∧ u = (iv, lv, (u2 (u2 fa 0 2 na_0_2) 0 6 na_0_6), la)) (bX (dC, dI) h g ca A) A) ([.ref (g 11 2), .int b, .int a] : List Value).toArray s 0 0 A) (F0 m 15 ls []) := by
    intro nn43
    induction nn43 with
    | zero => intro x42_4 w42_a_0_6 hx42_4 hw42_a_0_6 hm43; exfalso; omega
    | succ nn43 ih43 =>
      intro x42_4 w42_a_0_6 hx42_4 hw42_a_0_6 hm43 H locs ls hP hD hS hl
      refine lv_iload hx hb dX0_untwist_15 (lv_at hl 0 rfl) ?_
      refine lv_iload_n hx hb dX0_untwist_17 rfl (lv_at hl 1 rfl) ?_
      refine lv_icmp_le (tgt := 56) hx hb dX0_untwist_18 (by decide) (fun c44 => ?_) (fun c44 => ?_)
      · have fc44 := z_le (rfl : (x42_4).toInt = _) (rfl : (v1).toInt = _) c44
        refine lv_aload_n hx hb dX0_untwist_56 rfl (lv_at hl 2 rfl) ?_
        refine gX_0_6 hx hb ht hown hK hP m_163 dX0_untwist_57 ?_
        refine lv_iload hx hb dX0_untwist_60 (lv_at hl 0 rfl) ?_
        refine lv_iload_n hx hb dX0_untwist_62 rfl (lv_at hl 4 rfl) ?_
        refine tX_0_6 hx hb hK hP hD hS (f0 := w42_a_0_6) rfl (i := x42_4) (x := a) (vp_in_iff.mpr ⟨by omega, by omega⟩) dX0_untwist_63 (fun f45 ef45 H locs hP hD hS => ?_)
        have hf45 : ∀ j, inb (bA 0 6 j) (f45 j) := fun j => full_i _
        have hP : va_P (dC, dI) classes (WX h g ca iv lv (u2 fa 0 6 f45) la) H := hP
        have hD : va_D A (WX h g ca iv lv (u2 fa 0 6 f45) la) := hD
        refine lv_aload_n hx hb dX0_untwist_64 rfl (lv_at hl 2 rfl) ?_
        refine gX_0_2 hx hb ht hown hK hP m_156 dX0_untwist_65 ?_
        refine lv_iload_n hx hb dX0_untwist_68 rfl (lv_at hl 3 rfl) ?_
        refine lv_dup2_11 hx hb dX0_untwist_69 rfl rfl ?_
        refine lX_0_2 hx hb hK hP (f := (fa 0 2)) rfl (vp_in_iff.mpr ⟨by omega, by omega⟩) dX0_untwist_70 ?_
        refine lv_topi (fun v46 ev46 => ?_)
        obtain rfl : v2 = v46 := ev2.trans ev46.symm
        refine lv_iconst (v := 1) hx hb dX0_untwist_71 (by decide) ?_
        refine lv_iadd hx hb dX0_untwist_72 ?_
        refine lv_topi (fun v47 ev47 => ?_)
        have tv47 := z_add ev47 (rfl : (v2).toInt = _) (by decide : (1 : Int32).toInt = 1) (by omega) (by omega)
        refine tX_0_2 hx hb hK hP hD hS (f0 := (fa 0 2)) rfl (i := b) (x := v47) (vp_in_iff.mpr ⟨by omega, by omega⟩) dX0_untwist_73 (fun f48 ef48 H locs hP hD hS => ?_)
        have hf48 : ∀ j, inb (bA 0 2 j) (f48 j) := by rw [ef48]; exact upd_b (b := bA 0 2) (hI.2 0 2) (show inb (0, 8) v47 from ⟨by omega, by omega⟩)
        refine lv_aload_n hx hb dX0_untwist_74 rfl (lv_at hl 2 rfl) ?_
        refine gX_0_2 hx hb ht hown hK hP m_156 dX0_untwist_75 ?_
        refine lv_iload_n hx hb dX0_untwist_78 rfl (lv_at hl 3 rfl) ?_
        refine lX_0_2 hx hb hK hP (f := f48) rfl (vp_in_iff.mpr ⟨by omega, by omega⟩) dX0_untwist_79 ?_
        refine lv_topi (fun v49 ev49 => ?_)
        have tv49 : 0 ≤ v49.toInt ∧ v49.toInt ≤ 8 := by rw [ev49]; exact hf48 _
        have hP9 : va_P (dC, dI) classes (WX h g ca iv lv (u2 (u2 fa 0 2 f48) 0 6 f45) la) H := hP
        have hD9 : va_D A (WX h g ca iv lv (u2 (u2 fa 0 2 f48) 0 6 f45) la) := hD
        exact W.iret (v := v49) hx hb hr (fun t ht9 hW => ⟨⟨v49, (iv, lv, (u2 (u2 fa 0 2 f48) 0 6 f45), la), rfl, ⟨f48, f45, hf48, (show ∀ j : Nat, j ≠ b.toNatClampNeg → f48 j = (fa 0 2) j from fun j hj => by rw [ef48, upd_ne hj]), (show (v49 : Int32).toInt = ((fa 0 2) b.toNatClampNeg).toInt + 1 from (by have h1 := congrArg Int32.toInt ev2; have h2 := congrArg Int32.toInt (ev49.trans (show f48 (b : Int32).toNatClampNeg = v47 from (by rw [ef48]; exact upd_eq))); omega)), (show (f48 b.toNatClampNeg).toInt = (v49 : Int32).toInt from (congrArg Int32.toInt ev49).symm), ⟨by omega, by omega⟩, rfl⟩, by rw [ht9]; exact hP9, hD9⟩, hS.F ht9⟩) hS.2.2 dX0_untwist_80
      · have fc44 := z_nle (rfl : (x42_4).toInt = _) (rfl : (v1).toInt = _) c44
        refine lv_aload_n hx hb dX0_untwist_21 rfl (lv_at hl 2 rfl) ?_
        refine gX_0_6 hx hb ht hown hK hP m_163 dX0_untwist_22 ?_
        refine lv_iload hx hb dX0_untwist_25 (lv_at hl 0 rfl) ?_
        refine lv_iconst (v := 1) hx hb dX0_untwist_27 (by decide) ?_
        refine lv_isub hx hb dX0_untwist_28 ?_
        refine lv_topi (fun v50 ev50 => ?_)
        have tv50 := z_sub ev50 (rfl : (x42_4).toInt = _) (by decide : (1 : Int32).toInt = 1) (by omega) (by omega)
        refine lX_0_6 hx hb hK hP (f := w42_a_0_6) rfl (vp_in_iff.mpr ⟨by omega, by omega⟩) dX0_untwist_29 ?_
        refine lv_topi (fun v51 ev51 => ?_)
        refine lv_iload_n hx hb dX0_untwist_30 rfl (lv_at hl 4 rfl) ?_
        refine lv_icmp_le (tgt := 56) hx hb dX0_untwist_31 (by decide) (fun c52 => ?_) (fun c52 => ?_)
        · have fc52 := z_le (rfl : (v51).toInt = _) (rfl : (a).toInt = _) c52
          refine lv_aload_n hx hb dX0_untwist_56 rfl (lv_at hl 2 rfl) ?_
          refine gX_0_6 hx hb ht hown hK hP m_163 dX0_untwist_57 ?_
          refine lv_iload hx hb dX0_untwist_60 (lv_at hl 0 rfl) ?_
          refine lv_iload_n hx hb dX0_untwist_62 rfl (lv_at hl 4 rfl) ?_
          refine tX_0_6 hx hb hK hP hD hS (f0 := w42_a_0_6) rfl (i := x42_4) (x := a) (vp_in_iff.mpr ⟨by omega, by omega⟩) dX0_untwist_63 (fun f53 ef53 H locs hP hD hS => ?_)
          have hf53 : ∀ j, inb (bA 0 6 j) (f53 j) := fun j => full_i _
          have hP : va_P (dC, dI) classes (WX h g ca iv lv (u2 fa 0 6 f53) la) H := hP
          have hD : va_D A (WX h g ca iv lv (u2 fa 0 6 f53) la) := hD
          refine lv_aload_n hx hb dX0_untwist_64 rfl (lv_at hl 2 rfl) ?_
          refine gX_0_2 hx hb ht hown hK hP m_156 dX0_untwist_65 ?_
          refine lv_iload_n hx hb dX0_untwist_68 rfl (lv_at hl 3 rfl) ?_
          refine lv_dup2_11 hx hb dX0_untwist_69 rfl rfl ?_
          refine lX_0_2 hx hb hK hP (f := (fa 0 2)) rfl (vp_in_iff.mpr ⟨by omega, by omega⟩) dX0_untwist_70 ?_
          refine lv_topi (fun v54 ev54 => ?_)
          obtain rfl : v2 = v54 := ev2.trans ev54.symm
          refine lv_iconst (v := 1) hx hb dX0_untwist_71 (by decide) ?_
          refine lv_iadd hx hb dX0_untwist_72 ?_
          refine lv_topi (fun v55 ev55 => ?_)
          have tv55 := z_add ev55 (rfl : (v2).toInt = _) (by decide : (1 : Int32).toInt = 1) (by omega) (by omega)
          refine tX_0_2 hx hb hK hP hD hS (f0 := (fa 0 2)) rfl (i := b) (x := v55) (vp_in_iff.mpr ⟨by omega, by omega⟩) dX0_untwist_73 (fun f56 ef56 H locs hP hD hS => ?_)
          have hf56 : ∀ j, inb (bA 0 2 j) (f56 j) := by rw [ef56]; exact upd_b (b := bA 0 2) (hI.2 0 2) (show inb (0, 8) v55 from ⟨by omega, by omega⟩)
          refine lv_aload_n hx hb dX0_untwist_74 rfl (lv_at hl 2 rfl) ?_
          refine gX_0_2 hx hb ht hown hK hP m_156 dX0_untwist_75 ?_
          refine lv_iload_n hx hb dX0_untwist_78 rfl (lv_at hl 3 rfl) ?_
          refine lX_0_2 hx hb hK hP (f := f56) rfl (vp_in_iff.mpr ⟨by omega, by omega⟩) dX0_untwist_79 ?_
          refine lv_topi (fun v57 ev57 => ?_)
          have tv57 : 0 ≤ v57.toInt ∧ v57.toInt ≤ 8 := by rw [ev57]; exact hf56 _
          have hP9 : va_P (dC, dI) classes (WX h g ca iv lv (u2 (u2 fa 0 2 f56) 0 6 f53) la) H := hP
          have hD9 : va_D A (WX h g ca iv lv (u2 (u2 fa 0 2 f56) 0 6 f53) la) := hD
          exact W.iret (v := v57) hx hb hr (fun t ht9 hW => ⟨⟨v57, (iv, lv, (u2 (u2 fa 0 2 f56) 0 6 f53), la), rfl, ⟨f56, f53, hf56, (show ∀ j : Nat, j ≠ b.toNatClampNeg → f56 j = (fa 0 2) j from fun j hj => by rw [ef56, upd_ne hj]), (show (v57 : Int32).toInt = ((fa 0 2) b.toNatClampNeg).toInt + 1 from (by have h1 := congrArg Int32.toInt ev2; have h2 := congrArg Int32.toInt (ev57.trans (show f56 (b : Int32).toNatClampNeg = v55 from (by rw [ef56]; exact upd_eq))); omega)), (show (f56 b.toNatClampNeg).toInt = (v57 : Int32).toInt from (congrArg Int32.toInt ev57).symm), ⟨by omega, by omega⟩, rfl⟩, by rw [ht9]; exact hP9, hD9⟩, hS.F ht9⟩) hS.2.2 dX0_untwist_80
        · have fc52 := z_nle (rfl : (v51).toInt = _) (rfl : (a).toInt = _) c52
          refine lv_aload_n hx hb dX0_untwist_34 rfl (lv_at hl 2 rfl) ?_
          refine gX_0_6 hx hb ht hown hK hP m_163 dX0_untwist_35 ?_
          refine lv_iload hx hb dX0_untwist_38 (lv_at hl 0 rfl) ?_
          refine lv_aload_n hx hb dX0_untwist_40 rfl (lv_at hl 2 rfl) ?_
          refine gX_0_6 hx hb ht hown hK hP m_163 dX0_untwist_41 ?_
          refine lv_iload hx hb dX0_untwist_44 (lv_at hl 0 rfl) ?_
          refine lv_iconst (v := 1) hx hb dX0_untwist_46 (by decide) ?_
          refine lv_isub hx hb dX0_untwist_47 ?_
          refine lv_topi (fun v58 ev58 => ?_)
          obtain rfl : v50 = v58 := ev50.trans ev58.symm
          refine lX_0_6 hx hb hK hP (f := w42_a_0_6) rfl (vp_in_iff.mpr ⟨by omega, by omega⟩) dX0_untwist_48 ?_
          refine lv_topi (fun v59 ev59 => ?_)
          obtain rfl : v51 = v59 := ev51.trans ev59.symm
          refine tX_0_6 hx hb hK hP hD hS (f0 := w42_a_0_6) rfl (i := x42_4) (x := v51) (vp_in_iff.mpr ⟨by omega, by omega⟩) dX0_untwist_49 (fun f60 ef60 H locs hP hD hS => ?_)
          have hf60 : ∀ j, inb (bA 0 6 j) (f60 j) := fun j => full_i _
          have hP : va_P (dC, dI) classes (WX h g ca iv lv (u2 fa 0 6 f60) la) H := hP
          have hD : va_D A (WX h g ca iv lv (u2 fa 0 6 f60) la) := hD
          obtain ⟨v61, ev61⟩ : ∃ y : Int32, y = x42_4 + (-1) := ⟨_, rfl⟩
          have tv61 := z_add ev61 rfl (by decide : ((-1) : Int32).toInt = (-1)) (by omega) (by omega)
          refine lv_iinc (v := v61) (lv' := [(4, .int v61), (3, .int v1), (0, .ref (g 11 2)), (1, .int b), (2, .int a)]) hx hb dX0_untwist_50 hl (k := 0) rfl (by rw [ev61]; rfl) (by decide) rfl (fun ls hl => ?_)
          refine lv_goto (tgt := 15) hx hb dX0_untwist_53 (by decide) ?_
          exact ih43 v61 f60 ⟨by omega, by omega⟩ hf60 (by omega) _ _ ls hP hD hS (lv_sub hl [0, 1, 2, 3, 4] rfl)
  exact lp43 80 v3 (fa 0 6) ⟨by omega, by omega⟩ (hI.2 0 6) (by first | decide | omega) _ _ ls hP hD hS (lv_sub hl [0, 1, 2, 3, 4] rfl)
set_option maxHeartbeats 4000000 in
set_option maxRecDepth 100000 in
/-- X11_turns -/
theorem c_X11_turns_x (l : Launch) (dC : Nat → ClassId) (dI : Nat → Nat → Nat) (sz : Nat) (h : Nat) (g : Nat → Nat → Nat) (ca : Nat → Nat → ClassId) (iv : Nat → Nat → Int32) (lv : Nat → Nat → Int64) (fa : Nat → Nat → Nat → Int32) (la : Nat → Nat → Nat → Int64) (hI : IX iv fa) (a : Int32) (b : Int32) : Met l yX11_turns (wc yX11_turns cX11_turns 3 (some .int)) ({ frames := 1, cells := 0, slots := 0, locals := 24 } : Room) (pW (dC, dI) classes (WX h g ca iv lv fa la) (TX ca) sz [.ref h, .int a, .int b]) (va_Qi (fun r (u : SS) => ∃ (na_0_2 : Nat → Int32) (na_0_6 : Nat → Int32), (∀ j, inb (bA 0 2 j) (na_0_2 j)) ∧ (((r.toInt = -100001 ∧ ¬ (0 ≤ a.toInt ∧ a.toInt < (iv 0 7).toInt)) ∨ (r.toInt = -100002 ∧ 0 ≤ a.toInt ∧ a.toInt < (iv 0 7).toInt ∧ ¬ (0 ≤ b.toInt ∧ b.toInt ≤ 999)) ∨ (r.toInt = -100004 ∧ 0 ≤ a.toInt ∧ a.toInt < (iv 0 7).toInt ∧ 0 ≤ b.toInt ∧ b.toInt ≤ 999 ∧ 8 ≤ ((fa 0 2) a.toNatClampNeg).toInt) ∨ (0 ≤ a.toInt ∧ a.toInt < (iv 0 7).toInt ∧ 0 ≤ b.toInt ∧ b.toInt ≤ 999 ∧ ((fa 0 2) a.toNatClampNeg).toInt < 8 ∧ r.toInt = ((fa 0 2) a.toNatClampNeg).toInt + 1))) ∧ (∀ j : Nat, j ≠ a.toNatClampNeg → na_0_2 j = (fa 0 2) j) ∧ (((r.toInt < 0 ∧ (na_0_2 a.toNatClampNeg) = ((fa 0 2) a.toNatClampNeg)) ∨ (0 ≤ r.toInt ∧ (na_0_2 a.toNatClampNeg).toInt = r.toInt))) ∧ ((-100004) ≤ r.toInt ∧ r.toInt ≤ 8) ∧ u = (iv, lv, (u2 (u2 fa 0 2 na_0_2) 0 6 na_0_6), la)) (bX (dC, dI) h g ca (va_A (WX h g ca iv lv fa la) sz)) (va_A (WX h g ca iv lv fa la) sz)) 0 0 (va_A (WX h g ca iv lv fa la) sz) := by
  refine Met.ofW (cc := cX11_turns) (maxL := 3) (ret := (some .int)) (by decide) rfl ?_
  intro p e s m args below meth c s₁ B hml hv
  obtain ⟨rfl, hsz, hP, hK, hD0⟩ := hv
  have hx := B.exec
  have hb := B.bytes
  have hr := B.returns
  have ht := tb_tl (atoms_spec (ws := wc yX11_turns cX11_turns 3 (some .int)) B.pre)
  have hown : s.vm.findClass RX11 = some m.cls := findClass_of_methodNamed B.named
  have hlocks := B.notSynchronized
  subst hsz
  have hD := hD0.self (sz := s.heap.size)
  generalize hAe : va_A (WX h g ca iv lv fa la) s.heap.size = A at hD ⊢
  have hA : ∀ q : Nat, s.heap.size ≤ q → A q := fun q h => by rw [← hAe]; exact Or.inr h
  have hS : va_S A s.heap s.heap [] := va_S.rf
  have hl := lv_entry [.ref h, .int a, .int b] (n := 3) (Nat.le_of_ble_eq_true rfl)
  rw [lg_entry_eq]
  generalize (lg_sl [.ref h, .int a, .int b] ++ List.replicate (3 - (lg_sl [.ref h, .int a, .int b]).length) Slot.unset).toArray = ls at hl ⊢
  have hl : lv_has ls 3 [(0, .ref h), (1, .int a), (2, .int b)] := hl
  refine lv_aload_n hx hb dX11_turns_0 rfl (lv_at hl 0 rfl) ?_
  refine gX_11_2 hx hb ht hown hK hP m_417 dX11_turns_1 ?_
  refine lv_iload_n hx hb dX11_turns_4 rfl (lv_at hl 1 rfl) ?_
  refine vp_callSi (W.runV (As := [.int a]) (rest := []) ⟨hx, hb, hml, hown, ht⟩ (c_X0_has l dC dI h g ca iv lv fa la hI a) (kV 1 ht m_472 m_473 m_474 m_80 m_475 rfl rfl hd_X0_has_v ⟨Nat.le_of_ble_eq_true rfl, Nat.le_of_ble_eq_true rfl⟩) (vR hP hK (rX_0 hK hP)) rfl rfl hl.1 rfl (lv_room (Nat.le_of_ble_eq_true rfl)) dX11_turns_5 ⟨Nat.le_of_ble_eq_true rfl, Nat.le_of_ble_eq_true rfl⟩) (fun r1 hr1 => ?_)
  rcases hr1 with ⟨rfl, fr1⟩ | ⟨rfl, fr1⟩
  · skip
    have i_0_7 : 0 ≤ (iv 0 7).toInt ∧ (iv 0 7).toInt ≤ 10 := hI.1 0 7
    have fr1 : (0 ≤ (a : Int32).toInt ∧ (a : Int32).toInt < ((iv 0 7) : Int32).toInt) := fr1
    refine lv_if_ne (tgt := 14) hx hb dX11_turns_8 (by decide) (fun c2 => ?_) (fun c2 => ?_)
    · skip
      refine lv_iload_n hx hb dX11_turns_14 rfl (lv_at hl 2 rfl) ?_
      refine lv_iconst (v := 0) hx hb dX11_turns_15 (by decide) ?_
      refine lv_sipush (v := 999) hx hb dX11_turns_16 (by decide) ?_
      refine vp_callSi (W.runS (As := [.int b, .int 0, .int 999]) (rest := []) ⟨hx, hb, hml, hown, ht⟩ (c_X11_within l dC dI b 0 999 (b.toInt) (0) (999) (rfl : (b).toInt = _) (by decide : (0 : Int32).toInt = 0) (by decide : (999 : Int32).toInt = 999)) (kS 3 ht m_453 m_454 m_77 m_455 rfl rfl hd_X11_within_v ⟨Nat.le_of_ble_eq_true rfl, Nat.le_of_ble_eq_true rfl⟩) (sR noP (hK.sub (tys' := []) [] rfl)) rfl rfl hl.1 rfl (lv_room (Nat.le_of_ble_eq_true rfl)) dX11_turns_19 ⟨Nat.le_of_ble_eq_true rfl, Nat.le_of_ble_eq_true rfl⟩) (fun r3 hr3 => ?_)
      rcases hr3 with ⟨rfl, fr3⟩ | ⟨rfl, fr3⟩
      · skip
        refine lv_if_ne (tgt := 28) hx hb dX11_turns_22 (by decide) (fun c4 => ?_) (fun c4 => ?_)
        · skip
          refine lv_aload_n hx hb dX11_turns_28 rfl (lv_at hl 0 rfl) ?_
          refine gX_11_2 hx hb ht hown hK hP m_417 dX11_turns_29 ?_
          refine gX_0_2 hx hb ht hown hK hP m_157 dX11_turns_32 ?_
          refine lv_iload_n hx hb dX11_turns_35 rfl (lv_at hl 1 rfl) ?_
          refine lX_0_2 hx hb hK hP (f := (fa 0 2)) rfl (vp_in_iff.mpr ⟨by omega, by omega⟩) dX11_turns_36 ?_
          refine lv_topi (fun v5 ev5 => ?_)
          have tv5 : 0 ≤ v5.toInt ∧ v5.toInt ≤ 8 := by rw [ev5]; exact hI.2 0 2 _
          refine lv_bipush (v := 8) hx hb dX11_turns_37 (by decide) ?_
          refine lv_icmp_lt (tgt := 47) hx hb dX11_turns_39 (by decide) (fun c6 => ?_) (fun c6 => ?_)
          · have fc6 := z_lt (rfl : (v5).toInt = _) (by decide : (8 : Int32).toInt = 8) c6
            refine lv_aload_n hx hb dX11_turns_47 rfl (lv_at hl 0 rfl) ?_
            refine gX_11_2 hx hb ht hown hK hP m_417 dX11_turns_48 ?_
            refine lv_iload_n hx hb dX11_turns_51 rfl (lv_at hl 1 rfl) ?_
            refine lv_iload_n hx hb dX11_turns_52 rfl (lv_at hl 2 rfl) ?_
            have hFc := free_all hD hS hA
            refine va_calli (va_runV (As := [.int a, .int b]) (rest := []) ⟨hx, hb, hml, hown, ht⟩ (c_X0_untwist_x l dC dI s.heap.size h g ca iv lv fa la hI a b (show 0 ≤ ((fa 0 2) (a : Int32).toNatClampNeg).toInt ∧ ((fa 0 2) (a : Int32).toNatClampNeg).toInt ≤ 7 from by rw [← ev5]; exact ⟨by omega, by omega⟩) ⟨by omega, by omega⟩) (kV 2 ht m_977 m_978 m_979 m_80 m_980 rfl rfl hd_X0_untwist_v ⟨Nat.le_of_ble_eq_true rfl, Nat.le_of_ble_eq_true rfl⟩) (vW hP hK hD (rX_0 hK hP)) rfl rfl hl.1 rfl (lv_room (Nat.le_of_ble_eq_true rfl)) dX11_turns_53 ⟨Nat.le_of_ble_eq_true rfl, Nat.le_of_ble_eq_true rfl⟩) hS (fun q _ h => hFc q h) hFc (fun r7 u t H1 locs ht9 hvm hr7 hB hz1 hk1 hS => ?_)
            obtain ⟨n8, n9, hn8, xr7_0, xr7_1, xr7_2, hr7, rfl⟩ := hr7
            have hn9 : ∀ j, inb (bA 0 6 j) (n9 j) := fun j => full_i _
            obtain ⟨hP, hD⟩ := hB
            rw [ht9] at hP
            generalize H1 = H at hP hS ⊢
            have hP : va_P (dC, dI) classes (WX h g ca iv lv (u2 (u2 fa 0 2 n8) 0 6 n9) la) H := hP
            have hD : va_D A (WX h g ca iv lv (u2 (u2 fa 0 2 n8) 0 6 n9) la) := (show va_D _ (WX h g ca iv lv (u2 (u2 fa 0 2 n8) 0 6 n9) la) from hD).weaken (fun _ _ _ h => hFc _ h)
            have xr7_0 : ∀ j : Nat, j ≠ (a : Int32).toNatClampNeg → n8 j = (fa 0 2) j := xr7_0
            have xr7_1 : (r7 : Int32).toInt = ((fa 0 2) (a : Int32).toNatClampNeg).toInt + 1 := xr7_1
            have xr7_2 : (n8 (a : Int32).toNatClampNeg).toInt = (r7 : Int32).toInt := xr7_2
            have hP9 : va_P (dC, dI) classes (WX h g ca iv lv (u2 (u2 fa 0 2 n8) 0 6 n9) la) H := hP
            have hD9 : va_D A (WX h g ca iv lv (u2 (u2 fa 0 2 n8) 0 6 n9) la) := hD
            exact W.iret (v := r7) hx hb hr (fun t ht9 hW => ⟨⟨r7, (iv, lv, (u2 (u2 fa 0 2 n8) 0 6 n9), la), rfl, ⟨n8, n9, hn8, (show (((r7 : Int32).toInt = -100001 ∧ ¬ (0 ≤ (a).toInt ∧ (a).toInt < (iv 0 7).toInt)) ∨ ((r7 : Int32).toInt = -100002 ∧ 0 ≤ (a).toInt ∧ (a).toInt < (iv 0 7).toInt ∧ ¬ (0 ≤ (b).toInt ∧ (b).toInt ≤ 999)) ∨ ((r7 : Int32).toInt = -100004 ∧ 0 ≤ (a).toInt ∧ (a).toInt < (iv 0 7).toInt ∧ 0 ≤ (b).toInt ∧ (b).toInt ≤ 999 ∧ 8 ≤ ((fa 0 2) a.toNatClampNeg).toInt) ∨ (0 ≤ (a).toInt ∧ (a).toInt < (iv 0 7).toInt ∧ 0 ≤ (b).toInt ∧ (b).toInt ≤ 999 ∧ ((fa 0 2) a.toNatClampNeg).toInt < 8 ∧ (r7 : Int32).toInt = ((fa 0 2) a.toNatClampNeg).toInt + 1)) from (by have := congrArg Int32.toInt ev5; have := xr7_1; omega)), (show ∀ j : Nat, j ≠ a.toNatClampNeg → n8 j = (fa 0 2) j from xr7_0), (show (((r7 : Int32).toInt < 0 ∧ (n8 a.toNatClampNeg) = ((fa 0 2) a.toNatClampNeg)) ∨ (0 ≤ (r7 : Int32).toInt ∧ (n8 a.toNatClampNeg).toInt = (r7 : Int32).toInt)) from (by have := congrArg Int32.toInt ev5; have h1 := xr7_1; have h2 := xr7_2; exact Or.inr ⟨by omega, by omega⟩)), ⟨by omega, by omega⟩, rfl⟩, by rw [ht9]; exact hP9, hD9⟩, hS.F ht9⟩) hS.2.2 dX11_turns_56
          · have fc6 := z_nlt (rfl : (v5).toInt = _) (by decide : (8 : Int32).toInt = 8) c6
            refine lv_ldc hx hb hown (ht _ m_463) dX11_turns_42 ?_
            refine lv_goto (tgt := 56) hx hb dX11_turns_44 (by decide) ?_
            have : ((-100004) : Int32).toInt = (-100004) := (by decide)
            have hP9 : va_P (dC, dI) classes (WX h g ca iv lv (u2 (u2 fa 0 2 (fa 0 2)) 0 6 (fa 0 6)) la) s.heap := hP
            have hD9 : va_D A (WX h g ca iv lv (u2 (u2 fa 0 2 (fa 0 2)) 0 6 (fa 0 6)) la) := hD
            exact W.iret (v := (-100004)) hx hb hr (fun t ht9 hW => ⟨⟨(-100004), (iv, lv, (u2 (u2 fa 0 2 (fa 0 2)) 0 6 (fa 0 6)), la), rfl, ⟨(fa 0 2), (fa 0 6), (hI.2 0 2), (show ((((-100004) : Int32).toInt = -100001 ∧ ¬ (0 ≤ (a).toInt ∧ (a).toInt < (iv 0 7).toInt)) ∨ (((-100004) : Int32).toInt = -100002 ∧ 0 ≤ (a).toInt ∧ (a).toInt < (iv 0 7).toInt ∧ ¬ (0 ≤ (b).toInt ∧ (b).toInt ≤ 999)) ∨ (((-100004) : Int32).toInt = -100004 ∧ 0 ≤ (a).toInt ∧ (a).toInt < (iv 0 7).toInt ∧ 0 ≤ (b).toInt ∧ (b).toInt ≤ 999 ∧ 8 ≤ ((fa 0 2) a.toNatClampNeg).toInt) ∨ (0 ≤ (a).toInt ∧ (a).toInt < (iv 0 7).toInt ∧ 0 ≤ (b).toInt ∧ (b).toInt ≤ 999 ∧ ((fa 0 2) a.toNatClampNeg).toInt < 8 ∧ ((-100004) : Int32).toInt = ((fa 0 2) a.toNatClampNeg).toInt + 1)) from (by have := congrArg Int32.toInt ev5; omega)), (show ∀ j : Nat, j ≠ a.toNatClampNeg → (fa 0 2) j = (fa 0 2) j from fun j hj => rfl), (show ((((-100004) : Int32).toInt < 0 ∧ ((fa 0 2) a.toNatClampNeg) = ((fa 0 2) a.toNatClampNeg)) ∨ (0 ≤ ((-100004) : Int32).toInt ∧ ((fa 0 2) a.toNatClampNeg).toInt = ((-100004) : Int32).toInt)) from Or.inl ⟨by omega, rfl⟩), ⟨by decide, by decide⟩, rfl⟩, by rw [ht9]; exact hP9, hD9⟩, hS.F ht9⟩) hS.2.2 dX11_turns_56
        · exact absurd c4 (by decide)
      · skip
        refine lv_if_ne (tgt := 28) hx hb dX11_turns_22 (by decide) (fun c10 => ?_) (fun c10 => ?_)
        · exact absurd rfl c10
        · skip
          refine lv_ldc hx hb hown (ht _ m_456) dX11_turns_25 ?_
          have : ((-100002) : Int32).toInt = (-100002) := (by decide)
          have hP9 : va_P (dC, dI) classes (WX h g ca iv lv (u2 (u2 fa 0 2 (fa 0 2)) 0 6 (fa 0 6)) la) s.heap := hP
          have hD9 : va_D A (WX h g ca iv lv (u2 (u2 fa 0 2 (fa 0 2)) 0 6 (fa 0 6)) la) := hD
          exact W.iret (v := (-100002)) hx hb hr (fun t ht9 hW => ⟨⟨(-100002), (iv, lv, (u2 (u2 fa 0 2 (fa 0 2)) 0 6 (fa 0 6)), la), rfl, ⟨(fa 0 2), (fa 0 6), (hI.2 0 2), (show ((((-100002) : Int32).toInt = -100001 ∧ ¬ (0 ≤ (a).toInt ∧ (a).toInt < (iv 0 7).toInt)) ∨ (((-100002) : Int32).toInt = -100002 ∧ 0 ≤ (a).toInt ∧ (a).toInt < (iv 0 7).toInt ∧ ¬ (0 ≤ (b).toInt ∧ (b).toInt ≤ 999)) ∨ (((-100002) : Int32).toInt = -100004 ∧ 0 ≤ (a).toInt ∧ (a).toInt < (iv 0 7).toInt ∧ 0 ≤ (b).toInt ∧ (b).toInt ≤ 999 ∧ 8 ≤ ((fa 0 2) a.toNatClampNeg).toInt) ∨ (0 ≤ (a).toInt ∧ (a).toInt < (iv 0 7).toInt ∧ 0 ≤ (b).toInt ∧ (b).toInt ≤ 999 ∧ ((fa 0 2) a.toNatClampNeg).toInt < 8 ∧ ((-100002) : Int32).toInt = ((fa 0 2) a.toNatClampNeg).toInt + 1)) from (by omega)), (show ∀ j : Nat, j ≠ a.toNatClampNeg → (fa 0 2) j = (fa 0 2) j from fun j hj => rfl), (show ((((-100002) : Int32).toInt < 0 ∧ ((fa 0 2) a.toNatClampNeg) = ((fa 0 2) a.toNatClampNeg)) ∨ (0 ≤ ((-100002) : Int32).toInt ∧ ((fa 0 2) a.toNatClampNeg).toInt = ((-100002) : Int32).toInt)) from Or.inl ⟨by omega, rfl⟩), ⟨by decide, by decide⟩, rfl⟩, by rw [ht9]; exact hP9, hD9⟩, hS.F ht9⟩) hS.2.2 dX11_turns_27
    · exact absurd c2 (by decide)
  · skip
    have i_0_7 : 0 ≤ (iv 0 7).toInt ∧ (iv 0 7).toInt ≤ 10 := hI.1 0 7
    have fr1 : ¬ (0 ≤ (a : Int32).toInt ∧ (a : Int32).toInt < ((iv 0 7) : Int32).toInt) := fr1
    refine lv_if_ne (tgt := 14) hx hb dX11_turns_8 (by decide) (fun c11 => ?_) (fun c11 => ?_)
    · exact absurd rfl c11
    · skip
      refine lv_ldc hx hb hown (ht _ m_476) dX11_turns_11 ?_
      have : ((-100001) : Int32).toInt = (-100001) := (by decide)
      have hP9 : va_P (dC, dI) classes (WX h g ca iv lv (u2 (u2 fa 0 2 (fa 0 2)) 0 6 (fa 0 6)) la) s.heap := hP
      have hD9 : va_D A (WX h g ca iv lv (u2 (u2 fa 0 2 (fa 0 2)) 0 6 (fa 0 6)) la) := hD
      exact W.iret (v := (-100001)) hx hb hr (fun t ht9 hW => ⟨⟨(-100001), (iv, lv, (u2 (u2 fa 0 2 (fa 0 2)) 0 6 (fa 0 6)), la), rfl, ⟨(fa 0 2), (fa 0 6), (hI.2 0 2), (show ((((-100001) : Int32).toInt = -100001 ∧ ¬ (0 ≤ (a).toInt ∧ (a).toInt < (iv 0 7).toInt)) ∨ (((-100001) : Int32).toInt = -100002 ∧ 0 ≤ (a).toInt ∧ (a).toInt < (iv 0 7).toInt ∧ ¬ (0 ≤ (b).toInt ∧ (b).toInt ≤ 999)) ∨ (((-100001) : Int32).toInt = -100004 ∧ 0 ≤ (a).toInt ∧ (a).toInt < (iv 0 7).toInt ∧ 0 ≤ (b).toInt ∧ (b).toInt ≤ 999 ∧ 8 ≤ ((fa 0 2) a.toNatClampNeg).toInt) ∨ (0 ≤ (a).toInt ∧ (a).toInt < (iv 0 7).toInt ∧ 0 ≤ (b).toInt ∧ (b).toInt ≤ 999 ∧ ((fa 0 2) a.toNatClampNeg).toInt < 8 ∧ ((-100001) : Int32).toInt = ((fa 0 2) a.toNatClampNeg).toInt + 1)) from (by omega)), (show ∀ j : Nat, j ≠ a.toNatClampNeg → (fa 0 2) j = (fa 0 2) j from fun j hj => rfl), (show ((((-100001) : Int32).toInt < 0 ∧ ((fa 0 2) a.toNatClampNeg) = ((fa 0 2) a.toNatClampNeg)) ∨ (0 ≤ ((-100001) : Int32).toInt ∧ ((fa 0 2) a.toNatClampNeg).toInt = ((-100001) : Int32).toInt)) from Or.inl ⟨by omega, rfl⟩), ⟨by decide, by decide⟩, rfl⟩, by rw [ht9]; exact hP9, hD9⟩, hS.F ht9⟩) hS.2.2 dX11_turns_13
set_option maxHeartbeats 4000000 in
set_option maxRecDepth 100000 in
/-- X12_turns -/
theorem c_X12_turns_x (l : Launch) (dC : Nat → ClassId) (dI : Nat → Nat → Nat) (sz : Nat) (h : Nat) (g : Nat → Nat → Nat) (ca : Nat → Nat → ClassId) (iv : Nat → Nat → Int32) (lv : Nat → Nat → Int64) (fa : Nat → Nat → Nat → Int32) (la : Nat → Nat → Nat → Int64) (hI : IX iv fa) (a : Int32) (b : Int32) : Met l yX12_turns (wc yX12_turns cX12_turns 3 (some .int)) ({ frames := 2, cells := 0, slots := 0, locals := 46 } : Room) (pW (dC, dI) classes (WM h g ca iv lv fa la) (TM ca) sz [.ref h, .int a, .int b]) (va_Qi (fun r (u : SS) => ∃ (na_12_53 : Nat → Int32) (na_12_54 : Nat → Int32), (∀ j, inb (bA 12 53 j) (na_12_53 j)) ∧ (((r.toInt = -100001 ∧ ¬ (0 ≤ a.toInt ∧ a.toInt < (iv 12 1).toInt)) ∨ (r.toInt = -100002 ∧ 0 ≤ a.toInt ∧ a.toInt < (iv 12 1).toInt ∧ ¬ (0 ≤ b.toInt ∧ b.toInt ≤ 999)) ∨ (r.toInt = -100004 ∧ 0 ≤ a.toInt ∧ a.toInt < (iv 12 1).toInt ∧ 0 ≤ b.toInt ∧ b.toInt ≤ 999 ∧ 8 ≤ ((fa 12 53) a.toNatClampNeg).toInt) ∨ (0 ≤ a.toInt ∧ a.toInt < (iv 12 1).toInt ∧ 0 ≤ b.toInt ∧ b.toInt ≤ 999 ∧ ((fa 12 53) a.toNatClampNeg).toInt < 8 ∧ r.toInt = ((fa 12 53) a.toNatClampNeg).toInt + 1))) ∧ (∀ j : Nat, j ≠ a.toNatClampNeg → na_12_53 j = (fa 12 53) j) ∧ (((r.toInt < 0 ∧ (na_12_53 a.toNatClampNeg) = ((fa 12 53) a.toNatClampNeg)) ∨ (0 ≤ r.toInt ∧ (na_12_53 a.toNatClampNeg).toInt = r.toInt))) ∧ ((-100004) ≤ r.toInt ∧ r.toInt ≤ 8) ∧ u = (iv, lv, (u2 (u2 fa 12 53 na_12_53) 12 54 na_12_54), la)) (bM (dC, dI) h g ca (va_A (WM h g ca iv lv fa la) sz)) (va_A (WM h g ca iv lv fa la) sz)) 0 0 (va_A (WM h g ca iv lv fa la) sz) := by
  refine Met.ofW (cc := cX12_turns) (maxL := 3) (ret := (some .int)) (by decide) rfl ?_
  intro p e s m args below meth c s₁ B hml hv
  obtain ⟨rfl, hsz, hP, hK, hD0⟩ := hv
  have hx := B.exec
  have hb := B.bytes
  have hr := B.returns
  have ht := tb_tl (atoms_spec (ws := wc yX12_turns cX12_turns 3 (some .int)) B.pre)
  have hown : s.vm.findClass RX12 = some m.cls := findClass_of_methodNamed B.named
  have hlocks := B.notSynchronized
  subst hsz
  have hD := hD0.self (sz := s.heap.size)
  generalize hAe : va_A (WM h g ca iv lv fa la) s.heap.size = A at hD ⊢
  have hA : ∀ q : Nat, s.heap.size ≤ q → A q := fun q h => by rw [← hAe]; exact Or.inr h
  have hS : va_S A s.heap s.heap [] := va_S.rf
  have hl := lv_entry [.ref h, .int a, .int b] (n := 3) (Nat.le_of_ble_eq_true rfl)
  rw [lg_entry_eq]
  generalize (lg_sl [.ref h, .int a, .int b] ++ List.replicate (3 - (lg_sl [.ref h, .int a, .int b]).length) Slot.unset).toArray = ls at hl ⊢
  have hl : lv_has ls 3 [(0, .ref h), (1, .int a), (2, .int b)] := hl
  refine lv_aload_n hx hb dX12_turns_0 rfl (lv_at hl 0 rfl) ?_
  refine lv_iload_n hx hb dX12_turns_1 rfl (lv_at hl 1 rfl) ?_
  refine vp_callSi (W.runV (As := [.int a]) (rest := []) ⟨hx, hb, hml, hown, ht⟩ (c_X12_noBale l dC dI h g ca iv lv fa la hI a) (kV 1 ht m_1385 m_1387 m_42 m_89 m_1388 rfl rfl hd_X12_noBale_v ⟨Nat.le_of_ble_eq_true rfl, Nat.le_of_ble_eq_true rfl⟩) (vR hP hK (rM_12 hK hP)) rfl rfl hl.1 rfl (lv_room (Nat.le_of_ble_eq_true rfl)) dX12_turns_2 ⟨Nat.le_of_ble_eq_true rfl, Nat.le_of_ble_eq_true rfl⟩) (fun r1 hr1 => ?_)
  rcases hr1 with ⟨rfl, fr1⟩ | ⟨rfl, fr1⟩
  · skip
    have i_12_1 : 0 ≤ (iv 12 1).toInt ∧ (iv 12 1).toInt ≤ 10 := hI.1 12 1
    have fr1 : ¬ (0 ≤ (a : Int32).toInt ∧ (a : Int32).toInt < ((iv 12 1) : Int32).toInt) := fr1
    refine lv_if_eq (tgt := 11) hx hb dX12_turns_5 (by decide) (fun c2 => ?_) (fun c2 => ?_)
    · exact absurd c2 (by decide)
    · skip
      refine lv_ldc hx hb hown (ht _ m_1389) dX12_turns_8 ?_
      have : ((-100001) : Int32).toInt = (-100001) := (by decide)
      have hP9 : va_P (dC, dI) classes (WM h g ca iv lv (u2 (u2 fa 12 53 (fa 12 53)) 12 54 (fa 12 54)) la) s.heap := hP
      have hD9 : va_D A (WM h g ca iv lv (u2 (u2 fa 12 53 (fa 12 53)) 12 54 (fa 12 54)) la) := hD
      exact W.iret (v := (-100001)) hx hb hr (fun t ht9 hW => ⟨⟨(-100001), (iv, lv, (u2 (u2 fa 12 53 (fa 12 53)) 12 54 (fa 12 54)), la), rfl, ⟨(fa 12 53), (fa 12 54), (hI.2 12 53), (show ((((-100001) : Int32).toInt = -100001 ∧ ¬ (0 ≤ (a).toInt ∧ (a).toInt < (iv 12 1).toInt)) ∨ (((-100001) : Int32).toInt = -100002 ∧ 0 ≤ (a).toInt ∧ (a).toInt < (iv 12 1).toInt ∧ ¬ (0 ≤ (b).toInt ∧ (b).toInt ≤ 999)) ∨ (((-100001) : Int32).toInt = -100004 ∧ 0 ≤ (a).toInt ∧ (a).toInt < (iv 12 1).toInt ∧ 0 ≤ (b).toInt ∧ (b).toInt ≤ 999 ∧ 8 ≤ ((fa 12 53) a.toNatClampNeg).toInt) ∨ (0 ≤ (a).toInt ∧ (a).toInt < (iv 12 1).toInt ∧ 0 ≤ (b).toInt ∧ (b).toInt ≤ 999 ∧ ((fa 12 53) a.toNatClampNeg).toInt < 8 ∧ ((-100001) : Int32).toInt = ((fa 12 53) a.toNatClampNeg).toInt + 1)) from (by omega)), (show ∀ j : Nat, j ≠ a.toNatClampNeg → (fa 12 53) j = (fa 12 53) j from fun j hj => rfl), (show ((((-100001) : Int32).toInt < 0 ∧ ((fa 12 53) a.toNatClampNeg) = ((fa 12 53) a.toNatClampNeg)) ∨ (0 ≤ ((-100001) : Int32).toInt ∧ ((fa 12 53) a.toNatClampNeg).toInt = ((-100001) : Int32).toInt)) from Or.inl ⟨by omega, rfl⟩), ⟨by decide, by decide⟩, rfl⟩, by rw [ht9]; exact hP9, hD9⟩, hS.F ht9⟩) hS.2.2 dX12_turns_10
  · skip
    have i_12_1 : 0 ≤ (iv 12 1).toInt ∧ (iv 12 1).toInt ≤ 10 := hI.1 12 1
    have fr1 : (0 ≤ (a : Int32).toInt ∧ (a : Int32).toInt < ((iv 12 1) : Int32).toInt) := Decidable.not_not.mp fr1
    refine lv_if_eq (tgt := 11) hx hb dX12_turns_5 (by decide) (fun c3 => ?_) (fun c3 => ?_)
    · skip
      refine lv_iload_n hx hb dX12_turns_11 rfl (lv_at hl 2 rfl) ?_
      refine lv_i2l (v := (b.toInt64)) hx hb dX12_turns_12 rfl ?_
      refine lv_lconst (v := 0) hx hb dX12_turns_13 (by decide) ?_
      refine lv_ldc2 hx hb hown (ht _ m_1369) dX12_turns_14 ?_
      refine vp_callSi (W.runS (As := [.long (b.toInt64), .long 0, .long 999]) (rest := []) ⟨hx, hb, hml, hown, ht⟩ (c_X12_in l dC dI (b.toInt64) 0 999 (b.toInt) (0) (999) ((Int32.toInt_toInt64 b).trans rfl) (by decide : (0 : Int64).toInt = 0) (by decide : (999 : Int64).toInt = 999)) (kS 3 ht m_1370 m_1371 m_89 m_1372 rfl rfl hd_X12_in_v ⟨Nat.le_of_ble_eq_true rfl, Nat.le_of_ble_eq_true rfl⟩) (sR noP (hK.sub (tys' := []) [] rfl)) rfl rfl hl.1 rfl (lv_room (Nat.le_of_ble_eq_true rfl)) dX12_turns_17 ⟨Nat.le_of_ble_eq_true rfl, Nat.le_of_ble_eq_true rfl⟩) (fun r4 hr4 => ?_)
      rcases hr4 with ⟨rfl, fr4⟩ | ⟨rfl, fr4⟩
      · skip
        refine lv_if_ne (tgt := 26) hx hb dX12_turns_20 (by decide) (fun c5 => ?_) (fun c5 => ?_)
        · skip
          refine lv_aload_n hx hb dX12_turns_26 rfl (lv_at hl 0 rfl) ?_
          refine gM_12_53 hx hb ht hown hK hP m_1192 dX12_turns_27 ?_
          refine lv_iload_n hx hb dX12_turns_30 rfl (lv_at hl 1 rfl) ?_
          refine lM_12_53 hx hb hK hP (f := (fa 12 53)) rfl (vp_in_iff.mpr ⟨by omega, by omega⟩) dX12_turns_31 ?_
          refine lv_topi (fun v6 ev6 => ?_)
          have tv6 : 0 ≤ v6.toInt ∧ v6.toInt ≤ 8 := by rw [ev6]; exact hI.2 12 53 _
          refine lv_bipush (v := 8) hx hb dX12_turns_32 (by decide) ?_
          refine lv_icmp_ne (tgt := 40) hx hb dX12_turns_34 (by decide) (fun c7 => ?_) (fun c7 => ?_)
          · have fc7 := z_ne (rfl : (v6).toInt = _) (by decide : (8 : Int32).toInt = 8) c7
            refine lv_aload_n hx hb dX12_turns_40 rfl (lv_at hl 0 rfl) ?_
            refine gM_12_54 hx hb ht hown hK hP m_1193 dX12_turns_41 ?_
            refine lv_bipush (v := 8) hx hb dX12_turns_44 (by decide) ?_
            refine lv_iload_n hx hb dX12_turns_46 rfl (lv_at hl 1 rfl) ?_
            refine lv_imul hx hb dX12_turns_47 ?_
            refine lv_topi (fun v8 ev8 => ?_)
            have tv8 := z_mul ev8 (by decide : (8 : Int32).toInt = 8) (rfl : (a).toInt = _) (by omega) (by omega)
            refine lv_aload_n hx hb dX12_turns_48 rfl (lv_at hl 0 rfl) ?_
            refine gM_12_53 hx hb ht hown hK hP m_1192 dX12_turns_49 ?_
            refine lv_iload_n hx hb dX12_turns_52 rfl (lv_at hl 1 rfl) ?_
            refine lM_12_53 hx hb hK hP (f := (fa 12 53)) rfl (vp_in_iff.mpr ⟨by omega, by omega⟩) dX12_turns_53 ?_
            refine lv_topi (fun v9 ev9 => ?_)
            obtain rfl : v6 = v9 := ev6.trans ev9.symm
            refine lv_iadd hx hb dX12_turns_54 ?_
            refine lv_topi (fun v10 ev10 => ?_)
            have tv10 := z_add ev10 (rfl : (v8).toInt = _) (rfl : (v6).toInt = _) (by omega) (by omega)
            refine lv_iload_n hx hb dX12_turns_55 rfl (lv_at hl 2 rfl) ?_
            refine tM_12_54 hx hb hK hP hD hS (f0 := (fa 12 54)) rfl (i := v10) (x := b) (vp_in_iff.mpr ⟨by omega, by omega⟩) dX12_turns_56 (fun f11 ef11 H locs hP hD hS => ?_)
            have hf11 : ∀ j, inb (bA 12 54 j) (f11 j) := fun j => full_i _
            refine lv_aload_n hx hb dX12_turns_57 rfl (lv_at hl 0 rfl) ?_
            refine gM_12_53 hx hb ht hown hK hP m_1192 dX12_turns_58 ?_
            refine lv_iload_n hx hb dX12_turns_61 rfl (lv_at hl 1 rfl) ?_
            refine lv_dup2_11 hx hb dX12_turns_62 rfl rfl ?_
            refine lM_12_53 hx hb hK hP (f := (fa 12 53)) rfl (vp_in_iff.mpr ⟨by omega, by omega⟩) dX12_turns_63 ?_
            refine lv_topi (fun v12 ev12 => ?_)
            obtain rfl : v6 = v12 := ev6.trans ev12.symm
            refine lv_iconst (v := 1) hx hb dX12_turns_64 (by decide) ?_
            refine lv_iadd hx hb dX12_turns_65 ?_
            refine lv_topi (fun v13 ev13 => ?_)
            have tv13 := z_add ev13 (rfl : (v6).toInt = _) (by decide : (1 : Int32).toInt = 1) (by omega) (by omega)
            refine tM_12_53 hx hb hK hP hD hS (f0 := (fa 12 53)) rfl (i := a) (x := v13) (vp_in_iff.mpr ⟨by omega, by omega⟩) dX12_turns_66 (fun f14 ef14 H locs hP hD hS => ?_)
            have hf14 : ∀ j, inb (bA 12 53 j) (f14 j) := by rw [ef14]; exact upd_b (b := bA 12 53) (hI.2 12 53) (show inb (0, 8) v13 from ⟨by omega, by omega⟩)
            refine lv_aload_n hx hb dX12_turns_67 rfl (lv_at hl 0 rfl) ?_
            refine gM_12_53 hx hb ht hown hK hP m_1192 dX12_turns_68 ?_
            refine lv_iload_n hx hb dX12_turns_71 rfl (lv_at hl 1 rfl) ?_
            refine lM_12_53 hx hb hK hP (f := f14) rfl (vp_in_iff.mpr ⟨by omega, by omega⟩) dX12_turns_72 ?_
            refine lv_topi (fun v15 ev15 => ?_)
            have tv15 : 0 ≤ v15.toInt ∧ v15.toInt ≤ 8 := by rw [ev15]; exact hf14 _
            have hP9 : va_P (dC, dI) classes (WM h g ca iv lv (u2 (u2 fa 12 53 f14) 12 54 f11) la) H := hP
            have hD9 : va_D A (WM h g ca iv lv (u2 (u2 fa 12 53 f14) 12 54 f11) la) := hD
            exact W.iret (v := v15) hx hb hr (fun t ht9 hW => ⟨⟨v15, (iv, lv, (u2 (u2 fa 12 53 f14) 12 54 f11), la), rfl, ⟨f14, f11, hf14, (show (((v15 : Int32).toInt = -100001 ∧ ¬ (0 ≤ (a).toInt ∧ (a).toInt < (iv 12 1).toInt)) ∨ ((v15 : Int32).toInt = -100002 ∧ 0 ≤ (a).toInt ∧ (a).toInt < (iv 12 1).toInt ∧ ¬ (0 ≤ (b).toInt ∧ (b).toInt ≤ 999)) ∨ ((v15 : Int32).toInt = -100004 ∧ 0 ≤ (a).toInt ∧ (a).toInt < (iv 12 1).toInt ∧ 0 ≤ (b).toInt ∧ (b).toInt ≤ 999 ∧ 8 ≤ ((fa 12 53) a.toNatClampNeg).toInt) ∨ (0 ≤ (a).toInt ∧ (a).toInt < (iv 12 1).toInt ∧ 0 ≤ (b).toInt ∧ (b).toInt ≤ 999 ∧ ((fa 12 53) a.toNatClampNeg).toInt < 8 ∧ (v15 : Int32).toInt = ((fa 12 53) a.toNatClampNeg).toInt + 1)) from (by have := congrArg Int32.toInt ev6; have := congrArg Int32.toInt (ev15.trans (show f14 (a : Int32).toNatClampNeg = v13 from (by rw [ef14]; exact upd_eq))); omega)), (show ∀ j : Nat, j ≠ a.toNatClampNeg → f14 j = (fa 12 53) j from fun j hj => by rw [ef14, upd_ne hj]), (show (((v15 : Int32).toInt < 0 ∧ (f14 a.toNatClampNeg) = ((fa 12 53) a.toNatClampNeg)) ∨ (0 ≤ (v15 : Int32).toInt ∧ (f14 a.toNatClampNeg).toInt = (v15 : Int32).toInt)) from (Or.inr ⟨by omega, (congrArg Int32.toInt ev15).symm⟩)), ⟨by omega, by omega⟩, rfl⟩, by rw [ht9]; exact hP9, hD9⟩, hS.F ht9⟩) hS.2.2 dX12_turns_73
          · have fc7 := z_eq (rfl : (v6).toInt = _) (by decide : (8 : Int32).toInt = 8) c7
            refine lv_ldc hx hb hown (ht _ m_1380) dX12_turns_37 ?_
            have : ((-100004) : Int32).toInt = (-100004) := (by decide)
            have hP9 : va_P (dC, dI) classes (WM h g ca iv lv (u2 (u2 fa 12 53 (fa 12 53)) 12 54 (fa 12 54)) la) s.heap := hP
            have hD9 : va_D A (WM h g ca iv lv (u2 (u2 fa 12 53 (fa 12 53)) 12 54 (fa 12 54)) la) := hD
            exact W.iret (v := (-100004)) hx hb hr (fun t ht9 hW => ⟨⟨(-100004), (iv, lv, (u2 (u2 fa 12 53 (fa 12 53)) 12 54 (fa 12 54)), la), rfl, ⟨(fa 12 53), (fa 12 54), (hI.2 12 53), (show ((((-100004) : Int32).toInt = -100001 ∧ ¬ (0 ≤ (a).toInt ∧ (a).toInt < (iv 12 1).toInt)) ∨ (((-100004) : Int32).toInt = -100002 ∧ 0 ≤ (a).toInt ∧ (a).toInt < (iv 12 1).toInt ∧ ¬ (0 ≤ (b).toInt ∧ (b).toInt ≤ 999)) ∨ (((-100004) : Int32).toInt = -100004 ∧ 0 ≤ (a).toInt ∧ (a).toInt < (iv 12 1).toInt ∧ 0 ≤ (b).toInt ∧ (b).toInt ≤ 999 ∧ 8 ≤ ((fa 12 53) a.toNatClampNeg).toInt) ∨ (0 ≤ (a).toInt ∧ (a).toInt < (iv 12 1).toInt ∧ 0 ≤ (b).toInt ∧ (b).toInt ≤ 999 ∧ ((fa 12 53) a.toNatClampNeg).toInt < 8 ∧ ((-100004) : Int32).toInt = ((fa 12 53) a.toNatClampNeg).toInt + 1)) from (by have := congrArg Int32.toInt ev6; omega)), (show ∀ j : Nat, j ≠ a.toNatClampNeg → (fa 12 53) j = (fa 12 53) j from fun j hj => rfl), (show ((((-100004) : Int32).toInt < 0 ∧ ((fa 12 53) a.toNatClampNeg) = ((fa 12 53) a.toNatClampNeg)) ∨ (0 ≤ ((-100004) : Int32).toInt ∧ ((fa 12 53) a.toNatClampNeg).toInt = ((-100004) : Int32).toInt)) from Or.inl ⟨by omega, rfl⟩), ⟨by decide, by decide⟩, rfl⟩, by rw [ht9]; exact hP9, hD9⟩, hS.F ht9⟩) hS.2.2 dX12_turns_39
        · exact absurd c5 (by decide)
      · skip
        refine lv_if_ne (tgt := 26) hx hb dX12_turns_20 (by decide) (fun c16 => ?_) (fun c16 => ?_)
        · exact absurd rfl c16
        · skip
          refine lv_ldc hx hb hown (ht _ m_1373) dX12_turns_23 ?_
          have : ((-100002) : Int32).toInt = (-100002) := (by decide)
          have hP9 : va_P (dC, dI) classes (WM h g ca iv lv (u2 (u2 fa 12 53 (fa 12 53)) 12 54 (fa 12 54)) la) s.heap := hP
          have hD9 : va_D A (WM h g ca iv lv (u2 (u2 fa 12 53 (fa 12 53)) 12 54 (fa 12 54)) la) := hD
          exact W.iret (v := (-100002)) hx hb hr (fun t ht9 hW => ⟨⟨(-100002), (iv, lv, (u2 (u2 fa 12 53 (fa 12 53)) 12 54 (fa 12 54)), la), rfl, ⟨(fa 12 53), (fa 12 54), (hI.2 12 53), (show ((((-100002) : Int32).toInt = -100001 ∧ ¬ (0 ≤ (a).toInt ∧ (a).toInt < (iv 12 1).toInt)) ∨ (((-100002) : Int32).toInt = -100002 ∧ 0 ≤ (a).toInt ∧ (a).toInt < (iv 12 1).toInt ∧ ¬ (0 ≤ (b).toInt ∧ (b).toInt ≤ 999)) ∨ (((-100002) : Int32).toInt = -100004 ∧ 0 ≤ (a).toInt ∧ (a).toInt < (iv 12 1).toInt ∧ 0 ≤ (b).toInt ∧ (b).toInt ≤ 999 ∧ 8 ≤ ((fa 12 53) a.toNatClampNeg).toInt) ∨ (0 ≤ (a).toInt ∧ (a).toInt < (iv 12 1).toInt ∧ 0 ≤ (b).toInt ∧ (b).toInt ≤ 999 ∧ ((fa 12 53) a.toNatClampNeg).toInt < 8 ∧ ((-100002) : Int32).toInt = ((fa 12 53) a.toNatClampNeg).toInt + 1)) from (by omega)), (show ∀ j : Nat, j ≠ a.toNatClampNeg → (fa 12 53) j = (fa 12 53) j from fun j hj => rfl), (show ((((-100002) : Int32).toInt < 0 ∧ ((fa 12 53) a.toNatClampNeg) = ((fa 12 53) a.toNatClampNeg)) ∨ (0 ≤ ((-100002) : Int32).toInt ∧ ((fa 12 53) a.toNatClampNeg).toInt = ((-100002) : Int32).toInt)) from Or.inl ⟨by omega, rfl⟩), ⟨by decide, by decide⟩, rfl⟩, by rw [ht9]; exact hP9, hD9⟩, hS.F ht9⟩) hS.2.2 dX12_turns_25
    · exact absurd rfl c3
