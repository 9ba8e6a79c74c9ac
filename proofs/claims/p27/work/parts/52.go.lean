/-! ===== go ===== -/
set_option maxHeartbeats 4000000 in
set_option maxRecDepth 100000 in
/-- X0_bring -/
theorem c_X0_bring_x (l : Launch) (dC : Nat → ClassId) (dI : Nat → Nat → Nat) (sz : Nat) (h : Nat) (g : Nat → Nat → Nat) (ca : Nat → Nat → ClassId) (iv : Nat → Nat → Int32) (lv : Nat → Nat → Int64) (fa : Nat → Nat → Nat → Int32) (la : Nat → Nat → Nat → Int64) (hI : IX iv fa) (a : Int32) (q_0_7 : 0 ≤ (iv 0 7).toInt ∧ (iv 0 7).toInt ≤ 9) : Met l yX0_bring (wc yX0_bring cX0_bring 2 (some .int)) ({ frames := 0, cells := 0, slots := 0, locals := 0 } : Room) (pW (dC, dI) classes (WX h g ca iv lv fa la) (TX ca) sz [.ref (g 11 2), .int a]) (va_Qi (fun r (u : SS) => ∃ (na_0_0 : Nat → Int32) (ni_0_7 : Int32), inb (bI 0 7) ni_0_7 ∧ ni_0_7.toInt = (iv 0 7).toInt + 1 ∧ (r.toInt = (iv 0 7).toInt) ∧ (0 ≤ r.toInt ∧ r.toInt ≤ 9) ∧ u = ((u2 iv 0 7 ni_0_7), lv, (u2 fa 0 0 na_0_0), la)) (bX (dC, dI) h g ca (va_A (WX h g ca iv lv fa la) sz)) (va_A (WX h g ca iv lv fa la) sz)) 0 0 (va_A (WX h g ca iv lv fa la) sz) := by
  refine Met.ofW (cc := cX0_bring) (maxL := 2) (ret := (some .int)) (by decide) rfl ?_
  intro p e s m args below meth c s₁ B hml hv
  obtain ⟨rfl, hsz, hP, hK, hD0⟩ := hv
  have hx := B.exec
  have hb := B.bytes
  have hr := B.returns
  have ht := tb_tl (atoms_spec (ws := wc yX0_bring cX0_bring 2 (some .int)) B.pre)
  have hown : s.vm.findClass RX0 = some m.cls := findClass_of_methodNamed B.named
  have hlocks := B.notSynchronized
  subst hsz
  have hD := hD0.self (sz := s.heap.size)
  generalize hAe : va_A (WX h g ca iv lv fa la) s.heap.size = A at hD ⊢
  have hA : ∀ q : Nat, s.heap.size ≤ q → A q := fun q h => by rw [← hAe]; exact Or.inr h
  have hS : va_S A s.heap s.heap [] := va_S.rf
  have hl := lv_entry [.ref (g 11 2), .int a] (n := 2) (Nat.le_of_ble_eq_true rfl)
  rw [lg_entry_eq]
  generalize (lg_sl [.ref (g 11 2), .int a] ++ List.replicate (2 - (lg_sl [.ref (g 11 2), .int a]).length) Slot.unset).toArray = ls at hl ⊢
  have hl : lv_has ls 2 [(0, .ref (g 11 2)), (1, .int a)] := hl
  refine lv_aload_n hx hb dX0_bring_0 rfl (lv_at hl 0 rfl) ?_
  refine gX_0_0 hx hb ht hown hK hP m_152 dX0_bring_1 ?_
  refine lv_aload_n hx hb dX0_bring_4 rfl (lv_at hl 0 rfl) ?_
  have i_0_7 : 0 ≤ (iv 0 7).toInt ∧ (iv 0 7).toInt ≤ 10 := hI.1 0 7
  refine gX_0_7 hx hb ht hown hK hP m_164 (v := (iv 0 7)) rfl dX0_bring_5 ?_
  refine lv_iload_n hx hb dX0_bring_8 rfl (lv_at hl 1 rfl) ?_
  refine tX_0_0 hx hb hK hP hD hS (f0 := (fa 0 0)) rfl (i := (iv 0 7)) (x := a) (vp_in_iff.mpr ⟨by omega, by omega⟩) dX0_bring_9 (fun f1 ef1 H locs hP hD hS => ?_)
  have hf1 : ∀ j, inb (bA 0 0 j) (f1 j) := fun j => full_i _
  refine lv_aload_n hx hb dX0_bring_10 rfl (lv_at hl 0 rfl) ?_
  refine lv_dup hx hb dX0_bring_11 rfl ?_
  refine gX_0_7 hx hb ht hown hK hP m_164 (v := (iv 0 7)) rfl dX0_bring_12 ?_
  refine lv_iconst (v := 1) hx hb dX0_bring_15 (by decide) ?_
  refine lv_iadd hx hb dX0_bring_16 ?_
  refine lv_topi (fun v2 ev2 => ?_)
  have tv2 := z_add ev2 (rfl : ((iv 0 7)).toInt = _) (by decide : (1 : Int32).toInt = 1) (by omega) (by omega)
  refine pX_0_7 (v := v2) hx hb ht hown hK hP hD hS m_164 dX0_bring_17 (fun H locs hP hD hS => ?_)
  refine lv_aload_n hx hb dX0_bring_20 rfl (lv_at hl 0 rfl) ?_
  refine gX_0_7 hx hb ht hown hK hP m_164 (v := v2) rfl dX0_bring_21 ?_
  refine lv_iconst (v := 1) hx hb dX0_bring_24 (by decide) ?_
  refine lv_isub hx hb dX0_bring_25 ?_
  refine lv_topi (fun v3 ev3 => ?_)
  have tv3 := z_sub ev3 (rfl : (v2).toInt = _) (by decide : (1 : Int32).toInt = 1) (by omega) (by omega)
  have hP9 : va_P (dC, dI) classes (WX h g ca (u2 iv 0 7 v2) lv (u2 fa 0 0 f1) la) H := hP
  have hD9 : va_D A (WX h g ca (u2 iv 0 7 v2) lv (u2 fa 0 0 f1) la) := hD
  exact W.iret (v := v3) hx hb hr (fun t ht9 hW => ⟨⟨v3, ((u2 iv 0 7 v2), lv, (u2 fa 0 0 f1), la), rfl, ⟨f1, v2, (show inb (0, 10) v2 from ⟨by omega, by omega⟩), (by omega), (show (v3 : Int32).toInt = (iv 0 7).toInt from by omega), ⟨by omega, by omega⟩, rfl⟩, by rw [ht9]; exact hP9, hD9⟩, hS.F ht9⟩) hS.2.2 dX0_bring_26
set_option maxHeartbeats 4000000 in
set_option maxRecDepth 100000 in
/-- X11_bale -/
theorem c_X11_bale_x (l : Launch) (dC : Nat → ClassId) (dI : Nat → Nat → Nat) (sz : Nat) (h : Nat) (g : Nat → Nat → Nat) (ca : Nat → Nat → ClassId) (iv : Nat → Nat → Int32) (lv : Nat → Nat → Int64) (fa : Nat → Nat → Nat → Int32) (la : Nat → Nat → Nat → Int64) (hI : IX iv fa) (n : Int32) : Met l yX11_bale (wc yX11_bale cX11_bale 2 (some .int)) ({ frames := 1, cells := 0, slots := 0, locals := 22 } : Room) (pW (dC, dI) classes (WX h g ca iv lv fa la) (TX ca) sz [.ref h, .int n]) (va_Qi (fun r (u : SS) => ∃ (na_0_0 : Nat → Int32) (ni_0_7 : Int32), inb (bI 0 7) ni_0_7 ∧ (((r.toInt = -100002 ∧ ¬ (1 ≤ n.toInt ∧ n.toInt ≤ 99999) ∧ (ni_0_7).toInt = (iv 0 7).toInt) ∨ (r.toInt = -100004 ∧ (1 ≤ n.toInt ∧ n.toInt ≤ 99999) ∧ 10 ≤ (iv 0 7).toInt ∧ (ni_0_7).toInt = (iv 0 7).toInt) ∨ ((1 ≤ n.toInt ∧ n.toInt ≤ 99999) ∧ (iv 0 7).toInt < 10 ∧ r.toInt = (iv 0 7).toInt ∧ (ni_0_7).toInt = (iv 0 7).toInt + 1))) ∧ ((-100004) ≤ r.toInt ∧ r.toInt ≤ 9) ∧ u = ((u2 iv 0 7 ni_0_7), lv, (u2 fa 0 0 na_0_0), la)) (bX (dC, dI) h g ca (va_A (WX h g ca iv lv fa la) sz)) (va_A (WX h g ca iv lv fa la) sz)) 0 0 (va_A (WX h g ca iv lv fa la) sz) := by
  refine Met.ofW (cc := cX11_bale) (maxL := 2) (ret := (some .int)) (by decide) rfl ?_
  intro p e s m args below meth c s₁ B hml hv
  obtain ⟨rfl, hsz, hP, hK, hD0⟩ := hv
  have hx := B.exec
  have hb := B.bytes
  have hr := B.returns
  have ht := tb_tl (atoms_spec (ws := wc yX11_bale cX11_bale 2 (some .int)) B.pre)
  have hown : s.vm.findClass RX11 = some m.cls := findClass_of_methodNamed B.named
  have hlocks := B.notSynchronized
  subst hsz
  have hD := hD0.self (sz := s.heap.size)
  generalize hAe : va_A (WX h g ca iv lv fa la) s.heap.size = A at hD ⊢
  have hA : ∀ q : Nat, s.heap.size ≤ q → A q := fun q h => by rw [← hAe]; exact Or.inr h
  have hS : va_S A s.heap s.heap [] := va_S.rf
  have hl := lv_entry [.ref h, .int n] (n := 2) (Nat.le_of_ble_eq_true rfl)
  rw [lg_entry_eq]
  generalize (lg_sl [.ref h, .int n] ++ List.replicate (2 - (lg_sl [.ref h, .int n]).length) Slot.unset).toArray = ls at hl ⊢
  have hl : lv_has ls 2 [(0, .ref h), (1, .int n)] := hl
  refine lv_iload_n hx hb dX11_bale_0 rfl (lv_at hl 1 rfl) ?_
  refine lv_iconst (v := 1) hx hb dX11_bale_1 (by decide) ?_
  refine lv_ldc hx hb hown (ht _ m_462) dX11_bale_2 ?_
  refine vp_callSi (W.runS (As := [.int n, .int 1, .int 99999]) (rest := []) ⟨hx, hb, hml, hown, ht⟩ (c_X11_within l dC dI n 1 99999 (n.toInt) (1) (99999) (rfl : (n).toInt = _) (by decide : (1 : Int32).toInt = 1) (by decide : (99999 : Int32).toInt = 99999)) (kS 3 ht m_453 m_454 m_77 m_455 rfl rfl hd_X11_within_v ⟨Nat.le_of_ble_eq_true rfl, Nat.le_of_ble_eq_true rfl⟩) (sR noP (hK.sub (tys' := []) [] rfl)) rfl rfl hl.1 rfl (lv_room (Nat.le_of_ble_eq_true rfl)) dX11_bale_4 ⟨Nat.le_of_ble_eq_true rfl, Nat.le_of_ble_eq_true rfl⟩) (fun r1 hr1 => ?_)
  rcases hr1 with ⟨rfl, fr1⟩ | ⟨rfl, fr1⟩
  · skip
    refine lv_if_ne (tgt := 13) hx hb dX11_bale_7 (by decide) (fun c2 => ?_) (fun c2 => ?_)
    · skip
      refine lv_aload_n hx hb dX11_bale_13 rfl (lv_at hl 0 rfl) ?_
      refine gX_11_2 hx hb ht hown hK hP m_417 dX11_bale_14 ?_
      have i_0_7 : 0 ≤ (iv 0 7).toInt ∧ (iv 0 7).toInt ≤ 10 := hI.1 0 7
      refine gX_0_7 hx hb ht hown hK hP m_165 (v := (iv 0 7)) rfl dX11_bale_17 ?_
      refine lv_bipush (v := 10) hx hb dX11_bale_20 (by decide) ?_
      refine lv_icmp_lt (tgt := 28) hx hb dX11_bale_22 (by decide) (fun c3 => ?_) (fun c3 => ?_)
      · have fc3 := z_lt (rfl : ((iv 0 7)).toInt = _) (by decide : (10 : Int32).toInt = 10) c3
        refine lv_aload_n hx hb dX11_bale_28 rfl (lv_at hl 0 rfl) ?_
        refine gX_11_2 hx hb ht hown hK hP m_417 dX11_bale_29 ?_
        refine lv_iload_n hx hb dX11_bale_32 rfl (lv_at hl 1 rfl) ?_
        have hFc := free_all hD hS hA
        refine va_calli (va_runV (As := [.int n]) (rest := []) ⟨hx, hb, hml, hown, ht⟩ (c_X0_bring_x l dC dI s.heap.size h g ca iv lv fa la hI n (show 0 ≤ ((iv 0 7) : Int32).toInt ∧ ((iv 0 7) : Int32).toInt ≤ 9 from ⟨by omega, by omega⟩)) (kV 1 ht m_464 m_465 m_466 m_80 m_467 rfl rfl hd_X0_bring_v ⟨Nat.le_of_ble_eq_true rfl, Nat.le_of_ble_eq_true rfl⟩) (vW hP hK hD (rX_0 hK hP)) rfl rfl hl.1 rfl (lv_room (Nat.le_of_ble_eq_true rfl)) dX11_bale_33 ⟨Nat.le_of_ble_eq_true rfl, Nat.le_of_ble_eq_true rfl⟩) hS (fun q _ h => hFc q h) hFc (fun r4 u t H1 locs ht9 hvm hr4 hB hz1 hk1 hS => ?_)
        obtain ⟨n5, n6, hn6, dn6, xr4_0, hr4, rfl⟩ := hr4
        have hn5 : ∀ j, inb (bA 0 0 j) (n5 j) := fun j => full_i _
        have dn6 : n6.toInt = ((iv 0 7) : Int32).toInt + 1 := dn6
        have hn6 : 0 ≤ n6.toInt ∧ n6.toInt ≤ 10 := hn6
        obtain ⟨hP, hD⟩ := hB
        rw [ht9] at hP
        generalize H1 = H at hP hS ⊢
        have hP : va_P (dC, dI) classes (WX h g ca (u2 iv 0 7 n6) lv (u2 fa 0 0 n5) la) H := hP
        have hD : va_D A (WX h g ca (u2 iv 0 7 n6) lv (u2 fa 0 0 n5) la) := (show va_D _ (WX h g ca (u2 iv 0 7 n6) lv (u2 fa 0 0 n5) la) from hD).weaken (fun _ _ _ h => hFc _ h)
        have xr4_0 : (r4 : Int32).toInt = ((iv 0 7) : Int32).toInt := xr4_0
        have hP9 : va_P (dC, dI) classes (WX h g ca (u2 iv 0 7 n6) lv (u2 fa 0 0 n5) la) H := hP
        have hD9 : va_D A (WX h g ca (u2 iv 0 7 n6) lv (u2 fa 0 0 n5) la) := hD
        exact W.iret (v := r4) hx hb hr (fun t ht9 hW => ⟨⟨r4, ((u2 iv 0 7 n6), lv, (u2 fa 0 0 n5), la), rfl, ⟨n5, n6, (show inb (0, 10) n6 from ⟨by omega, by omega⟩), (show (((r4 : Int32).toInt = -100002 ∧ ¬ (1 ≤ (n).toInt ∧ (n).toInt ≤ 99999) ∧ (n6 : Int32).toInt = (iv 0 7).toInt) ∨ ((r4 : Int32).toInt = -100004 ∧ (1 ≤ (n).toInt ∧ (n).toInt ≤ 99999) ∧ 10 ≤ (iv 0 7).toInt ∧ (n6 : Int32).toInt = (iv 0 7).toInt) ∨ ((1 ≤ (n).toInt ∧ (n).toInt ≤ 99999) ∧ (iv 0 7).toInt < 10 ∧ (r4 : Int32).toInt = (iv 0 7).toInt ∧ (n6 : Int32).toInt = (iv 0 7).toInt + 1)) from by omega), ⟨by omega, by omega⟩, rfl⟩, by rw [ht9]; exact hP9, hD9⟩, hS.F ht9⟩) hS.2.2 dX11_bale_36
      · have fc3 := z_nlt (rfl : ((iv 0 7)).toInt = _) (by decide : (10 : Int32).toInt = 10) c3
        refine lv_ldc hx hb hown (ht _ m_463) dX11_bale_25 ?_
        have : ((-100004) : Int32).toInt = (-100004) := (by decide)
        have hP9 : va_P (dC, dI) classes (WX h g ca (u2 iv 0 7 (iv 0 7)) lv (u2 fa 0 0 (fa 0 0)) la) s.heap := hP
        have hD9 : va_D A (WX h g ca (u2 iv 0 7 (iv 0 7)) lv (u2 fa 0 0 (fa 0 0)) la) := hD
        exact W.iret (v := (-100004)) hx hb hr (fun t ht9 hW => ⟨⟨(-100004), ((u2 iv 0 7 (iv 0 7)), lv, (u2 fa 0 0 (fa 0 0)), la), rfl, ⟨(fa 0 0), (iv 0 7), (hI.1 0 7), (show ((((-100004) : Int32).toInt = -100002 ∧ ¬ (1 ≤ (n).toInt ∧ (n).toInt ≤ 99999) ∧ ((iv 0 7) : Int32).toInt = (iv 0 7).toInt) ∨ (((-100004) : Int32).toInt = -100004 ∧ (1 ≤ (n).toInt ∧ (n).toInt ≤ 99999) ∧ 10 ≤ (iv 0 7).toInt ∧ ((iv 0 7) : Int32).toInt = (iv 0 7).toInt) ∨ ((1 ≤ (n).toInt ∧ (n).toInt ≤ 99999) ∧ (iv 0 7).toInt < 10 ∧ ((-100004) : Int32).toInt = (iv 0 7).toInt ∧ ((iv 0 7) : Int32).toInt = (iv 0 7).toInt + 1)) from by omega), ⟨by decide, by decide⟩, rfl⟩, by rw [ht9]; exact hP9, hD9⟩, hS.F ht9⟩) hS.2.2 dX11_bale_27
    · exact absurd c2 (by decide)
  · skip
    refine lv_if_ne (tgt := 13) hx hb dX11_bale_7 (by decide) (fun c7 => ?_) (fun c7 => ?_)
    · exact absurd rfl c7
    · skip
      refine lv_ldc hx hb hown (ht _ m_456) dX11_bale_10 ?_
      have : ((-100002) : Int32).toInt = (-100002) := (by decide)
      have i_0_7 : 0 ≤ (iv 0 7).toInt ∧ (iv 0 7).toInt ≤ 10 := hI.1 0 7
      have hP9 : va_P (dC, dI) classes (WX h g ca (u2 iv 0 7 (iv 0 7)) lv (u2 fa 0 0 (fa 0 0)) la) s.heap := hP
      have hD9 : va_D A (WX h g ca (u2 iv 0 7 (iv 0 7)) lv (u2 fa 0 0 (fa 0 0)) la) := hD
      exact W.iret (v := (-100002)) hx hb hr (fun t ht9 hW => ⟨⟨(-100002), ((u2 iv 0 7 (iv 0 7)), lv, (u2 fa 0 0 (fa 0 0)), la), rfl, ⟨(fa 0 0), (iv 0 7), (hI.1 0 7), (show ((((-100002) : Int32).toInt = -100002 ∧ ¬ (1 ≤ (n).toInt ∧ (n).toInt ≤ 99999) ∧ ((iv 0 7) : Int32).toInt = (iv 0 7).toInt) ∨ (((-100002) : Int32).toInt = -100004 ∧ (1 ≤ (n).toInt ∧ (n).toInt ≤ 99999) ∧ 10 ≤ (iv 0 7).toInt ∧ ((iv 0 7) : Int32).toInt = (iv 0 7).toInt) ∨ ((1 ≤ (n).toInt ∧ (n).toInt ≤ 99999) ∧ (iv 0 7).toInt < 10 ∧ ((-100002) : Int32).toInt = (iv 0 7).toInt ∧ ((iv 0 7) : Int32).toInt = (iv 0 7).toInt + 1)) from by omega), ⟨by decide, by decide⟩, rfl⟩, by rw [ht9]; exact hP9, hD9⟩, hS.F ht9⟩) hS.2.2 dX11_bale_12
set_option maxHeartbeats 4000000 in
set_option maxRecDepth 100000 in
/-- X12_bale -/
theorem c_X12_bale_x (l : Launch) (dC : Nat → ClassId) (dI : Nat → Nat → Nat) (sz : Nat) (h : Nat) (g : Nat → Nat → Nat) (ca : Nat → Nat → ClassId) (iv : Nat → Nat → Int32) (lv : Nat → Nat → Int64) (fa : Nat → Nat → Nat → Int32) (la : Nat → Nat → Nat → Int64) (hI : IX iv fa) (n : Int32) : Met l yX12_bale (wc yX12_bale cX12_bale 2 (some .int)) ({ frames := 1, cells := 0, slots := 0, locals := 25 } : Room) (pW (dC, dI) classes (WM h g ca iv lv fa la) (TM ca) sz [.ref h, .int n]) (va_Qi (fun r (u : SS) => ∃ (na_12_2 : Nat → Int32) (na_12_51 : Nat → Int32) (na_12_53 : Nat → Int32) (ni_12_1 : Int32), (∀ j, inb (bA 12 51 j) (na_12_51 j)) ∧ (∀ j, inb (bA 12 53 j) (na_12_53 j)) ∧ inb (bI 12 1) ni_12_1 ∧ (((r.toInt = -100002 ∧ ¬ (1 ≤ n.toInt ∧ n.toInt ≤ 99999) ∧ (ni_12_1).toInt = (iv 12 1).toInt) ∨ (r.toInt = -100004 ∧ (1 ≤ n.toInt ∧ n.toInt ≤ 99999) ∧ 10 ≤ (iv 12 1).toInt ∧ (ni_12_1).toInt = (iv 12 1).toInt) ∨ ((1 ≤ n.toInt ∧ n.toInt ≤ 99999) ∧ (iv 12 1).toInt < 10 ∧ r.toInt = (iv 12 1).toInt ∧ (ni_12_1).toInt = (iv 12 1).toInt + 1))) ∧ ((-100004) ≤ r.toInt ∧ r.toInt ≤ 9) ∧ u = ((u2 iv 12 1 ni_12_1), lv, (u2 (u2 (u2 fa 12 2 na_12_2) 12 51 na_12_51) 12 53 na_12_53), la)) (bM (dC, dI) h g ca (va_A (WM h g ca iv lv fa la) sz)) (va_A (WM h g ca iv lv fa la) sz)) 0 0 (va_A (WM h g ca iv lv fa la) sz) := by
  refine Met.ofW (cc := cX12_bale) (maxL := 2) (ret := (some .int)) (by decide) rfl ?_
  intro p e s m args below meth c s₁ B hml hv
  obtain ⟨rfl, hsz, hP, hK, hD0⟩ := hv
  have hx := B.exec
  have hb := B.bytes
  have hr := B.returns
  have ht := tb_tl (atoms_spec (ws := wc yX12_bale cX12_bale 2 (some .int)) B.pre)
  have hown : s.vm.findClass RX12 = some m.cls := findClass_of_methodNamed B.named
  have hlocks := B.notSynchronized
  subst hsz
  have hD := hD0.self (sz := s.heap.size)
  generalize hAe : va_A (WM h g ca iv lv fa la) s.heap.size = A at hD ⊢
  have hA : ∀ q : Nat, s.heap.size ≤ q → A q := fun q h => by rw [← hAe]; exact Or.inr h
  have hS : va_S A s.heap s.heap [] := va_S.rf
  have hl := lv_entry [.ref h, .int n] (n := 2) (Nat.le_of_ble_eq_true rfl)
  rw [lg_entry_eq]
  generalize (lg_sl [.ref h, .int n] ++ List.replicate (2 - (lg_sl [.ref h, .int n]).length) Slot.unset).toArray = ls at hl ⊢
  have hl : lv_has ls 2 [(0, .ref h), (1, .int n)] := hl
  refine lv_iload_n hx hb dX12_bale_0 rfl (lv_at hl 1 rfl) ?_
  refine lv_i2l (v := (n.toInt64)) hx hb dX12_bale_1 rfl ?_
  refine lv_lconst (v := 1) hx hb dX12_bale_2 (by decide) ?_
  refine lv_ldc2 hx hb hown (ht _ m_1379) dX12_bale_3 ?_
  refine vp_callSi (W.runS (As := [.long (n.toInt64), .long 1, .long 99999]) (rest := []) ⟨hx, hb, hml, hown, ht⟩ (c_X12_in l dC dI (n.toInt64) 1 99999 (n.toInt) (1) (99999) ((Int32.toInt_toInt64 n).trans rfl) (by decide : (1 : Int64).toInt = 1) (by decide : (99999 : Int64).toInt = 99999)) (kS 3 ht m_1370 m_1371 m_89 m_1372 rfl rfl hd_X12_in_v ⟨Nat.le_of_ble_eq_true rfl, Nat.le_of_ble_eq_true rfl⟩) (sR noP (hK.sub (tys' := []) [] rfl)) rfl rfl hl.1 rfl (lv_room (Nat.le_of_ble_eq_true rfl)) dX12_bale_6 ⟨Nat.le_of_ble_eq_true rfl, Nat.le_of_ble_eq_true rfl⟩) (fun r1 hr1 => ?_)
  rcases hr1 with ⟨rfl, fr1⟩ | ⟨rfl, fr1⟩
  · skip
    refine lv_if_ne (tgt := 15) hx hb dX12_bale_9 (by decide) (fun c2 => ?_) (fun c2 => ?_)
    · skip
      refine lv_aload_n hx hb dX12_bale_15 rfl (lv_at hl 0 rfl) ?_
      have i_12_1 : 0 ≤ (iv 12 1).toInt ∧ (iv 12 1).toInt ≤ 10 := hI.1 12 1
      refine gM_12_1 hx hb ht hown hK hP m_1140 (v := (iv 12 1)) rfl dX12_bale_16 ?_
      refine lv_bipush (v := 10) hx hb dX12_bale_19 (by decide) ?_
      refine lv_icmp_ne (tgt := 27) hx hb dX12_bale_21 (by decide) (fun c3 => ?_) (fun c3 => ?_)
      · have fc3 := z_ne (rfl : ((iv 12 1)).toInt = _) (by decide : (10 : Int32).toInt = 10) c3
        refine lv_aload_n hx hb dX12_bale_27 rfl (lv_at hl 0 rfl) ?_
        refine gM_12_2 hx hb ht hown hK hP m_1141 dX12_bale_28 ?_
        refine lv_aload_n hx hb dX12_bale_31 rfl (lv_at hl 0 rfl) ?_
        refine gM_12_1 hx hb ht hown hK hP m_1140 (v := (iv 12 1)) rfl dX12_bale_32 ?_
        refine lv_iload_n hx hb dX12_bale_35 rfl (lv_at hl 1 rfl) ?_
        refine tM_12_2 hx hb hK hP hD hS (f0 := (fa 12 2)) rfl (i := (iv 12 1)) (x := n) (vp_in_iff.mpr ⟨by omega, by omega⟩) dX12_bale_36 (fun f4 ef4 H locs hP hD hS => ?_)
        have hf4 : ∀ j, inb (bA 12 2 j) (f4 j) := fun j => full_i _
        refine lv_aload_n hx hb dX12_bale_37 rfl (lv_at hl 0 rfl) ?_
        refine gM_12_51 hx hb ht hown hK hP m_1190 dX12_bale_38 ?_
        refine lv_aload_n hx hb dX12_bale_41 rfl (lv_at hl 0 rfl) ?_
        refine gM_12_1 hx hb ht hown hK hP m_1140 (v := (iv 12 1)) rfl dX12_bale_42 ?_
        refine lv_iconst (v := 0) hx hb dX12_bale_45 (by decide) ?_
        refine tM_12_51 hx hb hK hP hD hS (f0 := (fa 12 51)) rfl (i := (iv 12 1)) (x := 0) (vp_in_iff.mpr ⟨by omega, by omega⟩) dX12_bale_46 (fun f5 ef5 H locs hP hD hS => ?_)
        have hf5 : ∀ j, inb (bA 12 51 j) (f5 j) := by rw [ef5]; exact upd_b (b := bA 12 51) (hI.2 12 51) (show inb (0, 12) 0 from ⟨by decide, by decide⟩)
        refine lv_aload_n hx hb dX12_bale_47 rfl (lv_at hl 0 rfl) ?_
        refine gM_12_53 hx hb ht hown hK hP m_1192 dX12_bale_48 ?_
        refine lv_aload_n hx hb dX12_bale_51 rfl (lv_at hl 0 rfl) ?_
        refine gM_12_1 hx hb ht hown hK hP m_1140 (v := (iv 12 1)) rfl dX12_bale_52 ?_
        refine lv_iconst (v := 0) hx hb dX12_bale_55 (by decide) ?_
        refine tM_12_53 hx hb hK hP hD hS (f0 := (fa 12 53)) rfl (i := (iv 12 1)) (x := 0) (vp_in_iff.mpr ⟨by omega, by omega⟩) dX12_bale_56 (fun f6 ef6 H locs hP hD hS => ?_)
        have hf6 : ∀ j, inb (bA 12 53 j) (f6 j) := by rw [ef6]; exact upd_b (b := bA 12 53) (hI.2 12 53) (show inb (0, 8) 0 from ⟨by decide, by decide⟩)
        refine lv_aload_n hx hb dX12_bale_57 rfl (lv_at hl 0 rfl) ?_
        refine lv_dup hx hb dX12_bale_58 rfl ?_
        refine gM_12_1 hx hb ht hown hK hP m_1140 (v := (iv 12 1)) rfl dX12_bale_59 ?_
        refine lv_iconst (v := 1) hx hb dX12_bale_62 (by decide) ?_
        refine lv_iadd hx hb dX12_bale_63 ?_
        refine lv_topi (fun v7 ev7 => ?_)
        have tv7 := z_add ev7 (rfl : ((iv 12 1)).toInt = _) (by decide : (1 : Int32).toInt = 1) (by omega) (by omega)
        refine pM_12_1 (v := v7) hx hb ht hown hK hP hD hS m_1140 dX12_bale_64 (fun H locs hP hD hS => ?_)
        refine lv_aload_n hx hb dX12_bale_67 rfl (lv_at hl 0 rfl) ?_
        refine gM_12_1 hx hb ht hown hK hP m_1140 (v := v7) rfl dX12_bale_68 ?_
        refine lv_iconst (v := 1) hx hb dX12_bale_71 (by decide) ?_
        refine lv_isub hx hb dX12_bale_72 ?_
        refine lv_topi (fun v8 ev8 => ?_)
        have tv8 := z_sub ev8 (rfl : (v7).toInt = _) (by decide : (1 : Int32).toInt = 1) (by omega) (by omega)
        have hP9 : va_P (dC, dI) classes (WM h g ca (u2 iv 12 1 v7) lv (u2 (u2 (u2 fa 12 2 f4) 12 51 f5) 12 53 f6) la) H := hP
        have hD9 : va_D A (WM h g ca (u2 iv 12 1 v7) lv (u2 (u2 (u2 fa 12 2 f4) 12 51 f5) 12 53 f6) la) := hD
        exact W.iret (v := v8) hx hb hr (fun t ht9 hW => ⟨⟨v8, ((u2 iv 12 1 v7), lv, (u2 (u2 (u2 fa 12 2 f4) 12 51 f5) 12 53 f6), la), rfl, ⟨f4, f5, f6, v7, hf5, hf6, (show inb (0, 10) v7 from ⟨by omega, by omega⟩), (show (((v8 : Int32).toInt = -100002 ∧ ¬ (1 ≤ (n).toInt ∧ (n).toInt ≤ 99999) ∧ (v7 : Int32).toInt = (iv 12 1).toInt) ∨ ((v8 : Int32).toInt = -100004 ∧ (1 ≤ (n).toInt ∧ (n).toInt ≤ 99999) ∧ 10 ≤ (iv 12 1).toInt ∧ (v7 : Int32).toInt = (iv 12 1).toInt) ∨ ((1 ≤ (n).toInt ∧ (n).toInt ≤ 99999) ∧ (iv 12 1).toInt < 10 ∧ (v8 : Int32).toInt = (iv 12 1).toInt ∧ (v7 : Int32).toInt = (iv 12 1).toInt + 1)) from by omega), ⟨by omega, by omega⟩, rfl⟩, by rw [ht9]; exact hP9, hD9⟩, hS.F ht9⟩) hS.2.2 dX12_bale_73
      · have fc3 := z_eq (rfl : ((iv 12 1)).toInt = _) (by decide : (10 : Int32).toInt = 10) c3
        refine lv_ldc hx hb hown (ht _ m_1380) dX12_bale_24 ?_
        have : ((-100004) : Int32).toInt = (-100004) := (by decide)
        have hP9 : va_P (dC, dI) classes (WM h g ca (u2 iv 12 1 (iv 12 1)) lv (u2 (u2 (u2 fa 12 2 (fa 12 2)) 12 51 (fa 12 51)) 12 53 (fa 12 53)) la) s.heap := hP
        have hD9 : va_D A (WM h g ca (u2 iv 12 1 (iv 12 1)) lv (u2 (u2 (u2 fa 12 2 (fa 12 2)) 12 51 (fa 12 51)) 12 53 (fa 12 53)) la) := hD
        exact W.iret (v := (-100004)) hx hb hr (fun t ht9 hW => ⟨⟨(-100004), ((u2 iv 12 1 (iv 12 1)), lv, (u2 (u2 (u2 fa 12 2 (fa 12 2)) 12 51 (fa 12 51)) 12 53 (fa 12 53)), la), rfl, ⟨(fa 12 2), (fa 12 51), (fa 12 53), (iv 12 1), (hI.2 12 51), (hI.2 12 53), (hI.1 12 1), (show ((((-100004) : Int32).toInt = -100002 ∧ ¬ (1 ≤ (n).toInt ∧ (n).toInt ≤ 99999) ∧ ((iv 12 1) : Int32).toInt = (iv 12 1).toInt) ∨ (((-100004) : Int32).toInt = -100004 ∧ (1 ≤ (n).toInt ∧ (n).toInt ≤ 99999) ∧ 10 ≤ (iv 12 1).toInt ∧ ((iv 12 1) : Int32).toInt = (iv 12 1).toInt) ∨ ((1 ≤ (n).toInt ∧ (n).toInt ≤ 99999) ∧ (iv 12 1).toInt < 10 ∧ ((-100004) : Int32).toInt = (iv 12 1).toInt ∧ ((iv 12 1) : Int32).toInt = (iv 12 1).toInt + 1)) from by omega), ⟨by decide, by decide⟩, rfl⟩, by rw [ht9]; exact hP9, hD9⟩, hS.F ht9⟩) hS.2.2 dX12_bale_26
    · exact absurd c2 (by decide)
  · skip
    refine lv_if_ne (tgt := 15) hx hb dX12_bale_9 (by decide) (fun c9 => ?_) (fun c9 => ?_)
    · exact absurd rfl c9
    · skip
      refine lv_ldc hx hb hown (ht _ m_1373) dX12_bale_12 ?_
      have : ((-100002) : Int32).toInt = (-100002) := (by decide)
      have i_12_1 : 0 ≤ (iv 12 1).toInt ∧ (iv 12 1).toInt ≤ 10 := hI.1 12 1
      have hP9 : va_P (dC, dI) classes (WM h g ca (u2 iv 12 1 (iv 12 1)) lv (u2 (u2 (u2 fa 12 2 (fa 12 2)) 12 51 (fa 12 51)) 12 53 (fa 12 53)) la) s.heap := hP
      have hD9 : va_D A (WM h g ca (u2 iv 12 1 (iv 12 1)) lv (u2 (u2 (u2 fa 12 2 (fa 12 2)) 12 51 (fa 12 51)) 12 53 (fa 12 53)) la) := hD
      exact W.iret (v := (-100002)) hx hb hr (fun t ht9 hW => ⟨⟨(-100002), ((u2 iv 12 1 (iv 12 1)), lv, (u2 (u2 (u2 fa 12 2 (fa 12 2)) 12 51 (fa 12 51)) 12 53 (fa 12 53)), la), rfl, ⟨(fa 12 2), (fa 12 51), (fa 12 53), (iv 12 1), (hI.2 12 51), (hI.2 12 53), (hI.1 12 1), (show ((((-100002) : Int32).toInt = -100002 ∧ ¬ (1 ≤ (n).toInt ∧ (n).toInt ≤ 99999) ∧ ((iv 12 1) : Int32).toInt = (iv 12 1).toInt) ∨ (((-100002) : Int32).toInt = -100004 ∧ (1 ≤ (n).toInt ∧ (n).toInt ≤ 99999) ∧ 10 ≤ (iv 12 1).toInt ∧ ((iv 12 1) : Int32).toInt = (iv 12 1).toInt) ∨ ((1 ≤ (n).toInt ∧ (n).toInt ≤ 99999) ∧ (iv 12 1).toInt < 10 ∧ ((-100002) : Int32).toInt = (iv 12 1).toInt ∧ ((iv 12 1) : Int32).toInt = (iv 12 1).toInt + 1)) from by omega), ⟨by decide, by decide⟩, rfl⟩, by rw [ht9]; exact hP9, hD9⟩, hS.F ht9⟩) hS.2.2 dX12_bale_14
set_option maxHeartbeats 4000000 in
set_option maxRecDepth 100000 in
/-- X11_burnt -/
theorem c_X11_burnt_x (l : Launch) (dC : Nat → ClassId) (dI : Nat → Nat → Nat) (sz : Nat) (h : Nat) (g : Nat → Nat → Nat) (ca : Nat → Nat → ClassId) (iv : Nat → Nat → Int32) (lv : Nat → Nat → Int64) (fa : Nat → Nat → Nat → Int32) (la : Nat → Nat → Nat → Int64) (hI : IX iv fa) (a : Int32) (b : Int32) (d : Int32) (k : Int32) : Met l yX11_burnt (wc yX11_burnt cX11_burnt 5 (some .int)) ({ frames := 1, cells := 0, slots := 0, locals := 22 } : Room) (pW (dC, dI) classes (WX h g ca iv lv fa la) (TX ca) sz [.ref h, .int a, .int b, .int d, .int k]) (va_Qi (fun r (u : SS) => ∃ (na_0_3 : Nat → Int32) (na_0_4 : Nat → Int32), (((r.toInt = -100001 ∧ ¬ (0 ≤ a.toInt ∧ a.toInt < (iv 0 7).toInt)) ∨ (r.toInt = -100002 ∧ 0 ≤ a.toInt ∧ a.toInt < (iv 0 7).toInt ∧ ¬ (0 ≤ b.toInt ∧ b.toInt ≤ 1 ∧ 0 ≤ d.toInt ∧ d.toInt ≤ k.toInt ∧ k.toInt ≤ 999)) ∨ (r.toInt = 1 ∧ 0 ≤ a.toInt ∧ a.toInt < (iv 0 7).toInt ∧ 0 ≤ b.toInt ∧ b.toInt ≤ 1 ∧ 0 ≤ d.toInt ∧ d.toInt ≤ k.toInt ∧ k.toInt ≤ 999))) ∧ ((-100002) ≤ r.toInt ∧ r.toInt ≤ 1) ∧ u = (iv, lv, (u2 (u2 fa 0 3 na_0_3) 0 4 na_0_4), la)) (bX (dC, dI) h g ca (va_A (WX h g ca iv lv fa la) sz)) (va_A (WX h g ca iv lv fa la) sz)) 0 0 (va_A (WX h g ca iv lv fa la) sz) := by
  refine Met.ofW (cc := cX11_burnt) (maxL := 5) (ret := (some .int)) (by decide) rfl ?_
  intro p e s m args below meth c s₁ B hml hv
  obtain ⟨rfl, hsz, hP, hK, hD0⟩ := hv
  have hx := B.exec
  have hb := B.bytes
  have hr := B.returns
  have ht := tb_tl (atoms_spec (ws := wc yX11_burnt cX11_burnt 5 (some .int)) B.pre)
  have hown : s.vm.findClass RX11 = some m.cls := findClass_of_methodNamed B.named
  have hlocks := B.notSynchronized
  subst hsz
  have hD := hD0.self (sz := s.heap.size)
  generalize hAe : va_A (WX h g ca iv lv fa la) s.heap.size = A at hD ⊢
  have hA : ∀ q : Nat, s.heap.size ≤ q → A q := fun q h => by rw [← hAe]; exact Or.inr h
  have hS : va_S A s.heap s.heap [] := va_S.rf
  have hl := lv_entry [.ref h, .int a, .int b, .int d, .int k] (n := 5) (Nat.le_of_ble_eq_true rfl)
  rw [lg_entry_eq]
  generalize (lg_sl [.ref h, .int a, .int b, .int d, .int k] ++ List.replicate (5 - (lg_sl [.ref h, .int a, .int b, .int d, .int k]).length) Slot.unset).toArray = ls at hl ⊢
  have hl : lv_has ls 5 [(0, .ref h), (1, .int a), (2, .int b), (3, .int d), (4, .int k)] := hl
  refine lv_aload_n hx hb dX11_burnt_0 rfl (lv_at hl 0 rfl) ?_
  refine gX_11_2 hx hb ht hown hK hP m_417 dX11_burnt_1 ?_
  refine lv_iload_n hx hb dX11_burnt_4 rfl (lv_at hl 1 rfl) ?_
  refine vp_callSi (W.runV (As := [.int a]) (rest := []) ⟨hx, hb, hml, hown, ht⟩ (c_X0_has l dC dI h g ca iv lv fa la hI a) (kV 1 ht m_472 m_473 m_474 m_80 m_475 rfl rfl hd_X0_has_v ⟨Nat.le_of_ble_eq_true rfl, Nat.le_of_ble_eq_true rfl⟩) (vR hP hK (rX_0 hK hP)) rfl rfl hl.1 rfl (lv_room (Nat.le_of_ble_eq_true rfl)) dX11_burnt_5 ⟨Nat.le_of_ble_eq_true rfl, Nat.le_of_ble_eq_true rfl⟩) (fun r1 hr1 => ?_)
  rcases hr1 with ⟨rfl, fr1⟩ | ⟨rfl, fr1⟩
  · skip
    have i_0_7 : 0 ≤ (iv 0 7).toInt ∧ (iv 0 7).toInt ≤ 10 := hI.1 0 7
    have fr1 : (0 ≤ (a : Int32).toInt ∧ (a : Int32).toInt < ((iv 0 7) : Int32).toInt) := fr1
    refine lv_if_ne (tgt := 14) hx hb dX11_burnt_8 (by decide) (fun c2 => ?_) (fun c2 => ?_)
    · skip
      refine lv_iload_n hx hb dX11_burnt_14 rfl (lv_at hl 2 rfl) ?_
      refine lv_iconst (v := 0) hx hb dX11_burnt_15 (by decide) ?_
      refine lv_iconst (v := 1) hx hb dX11_burnt_16 (by decide) ?_
      refine vp_callSi (W.runS (As := [.int b, .int 0, .int 1]) (rest := []) ⟨hx, hb, hml, hown, ht⟩ (c_X11_within l dC dI b 0 1 (b.toInt) (0) (1) (rfl : (b).toInt = _) (by decide : (0 : Int32).toInt = 0) (by decide : (1 : Int32).toInt = 1)) (kS 3 ht m_453 m_454 m_77 m_455 rfl rfl hd_X11_within_v ⟨Nat.le_of_ble_eq_true rfl, Nat.le_of_ble_eq_true rfl⟩) (sR noP (hK.sub (tys' := []) [] rfl)) rfl rfl hl.1 rfl (lv_room (Nat.le_of_ble_eq_true rfl)) dX11_burnt_17 ⟨Nat.le_of_ble_eq_true rfl, Nat.le_of_ble_eq_true rfl⟩) (fun r3 hr3 => ?_)
      rcases hr3 with ⟨rfl, fr3⟩ | ⟨rfl, fr3⟩
      · skip
        refine lv_if_eq (tgt := 46) hx hb dX11_burnt_20 (by decide) (fun c4 => ?_) (fun c4 => ?_)
        · exact absurd c4 (by decide)
        · skip
          refine lv_iload_n hx hb dX11_burnt_23 rfl (lv_at hl 3 rfl) ?_
          refine lv_iconst (v := 0) hx hb dX11_burnt_24 (by decide) ?_
          refine lv_sipush (v := 999) hx hb dX11_burnt_25 (by decide) ?_
          refine vp_callSi (W.runS (As := [.int d, .int 0, .int 999]) (rest := []) ⟨hx, hb, hml, hown, ht⟩ (c_X11_within l dC dI d 0 999 (d.toInt) (0) (999) (rfl : (d).toInt = _) (by decide : (0 : Int32).toInt = 0) (by decide : (999 : Int32).toInt = 999)) (kS 3 ht m_453 m_454 m_77 m_455 rfl rfl hd_X11_within_v ⟨Nat.le_of_ble_eq_true rfl, Nat.le_of_ble_eq_true rfl⟩) (sR noP (hK.sub (tys' := []) [] rfl)) rfl rfl hl.1 rfl (lv_room (Nat.le_of_ble_eq_true rfl)) dX11_burnt_28 ⟨Nat.le_of_ble_eq_true rfl, Nat.le_of_ble_eq_true rfl⟩) (fun r5 hr5 => ?_)
          rcases hr5 with ⟨rfl, fr5⟩ | ⟨rfl, fr5⟩
          · skip
            refine lv_if_eq (tgt := 46) hx hb dX11_burnt_31 (by decide) (fun c6 => ?_) (fun c6 => ?_)
            · exact absurd c6 (by decide)
            · skip
              refine lv_iload hx hb dX11_burnt_34 (lv_at hl 4 rfl) ?_
              refine lv_iload_n hx hb dX11_burnt_36 rfl (lv_at hl 3 rfl) ?_
              refine lv_sipush (v := 999) hx hb dX11_burnt_37 (by decide) ?_
              refine vp_callSi (W.runS (As := [.int k, .int d, .int 999]) (rest := []) ⟨hx, hb, hml, hown, ht⟩ (c_X11_within l dC dI k d 999 (k.toInt) (d.toInt) (999) (rfl : (k).toInt = _) (rfl : (d).toInt = _) (by decide : (999 : Int32).toInt = 999)) (kS 3 ht m_453 m_454 m_77 m_455 rfl rfl hd_X11_within_v ⟨Nat.le_of_ble_eq_true rfl, Nat.le_of_ble_eq_true rfl⟩) (sR noP (hK.sub (tys' := []) [] rfl)) rfl rfl hl.1 rfl (lv_room (Nat.le_of_ble_eq_true rfl)) dX11_burnt_40 ⟨Nat.le_of_ble_eq_true rfl, Nat.le_of_ble_eq_true rfl⟩) (fun r7 hr7 => ?_)
              rcases hr7 with ⟨rfl, fr7⟩ | ⟨rfl, fr7⟩
              · skip
                refine lv_if_ne (tgt := 49) hx hb dX11_burnt_43 (by decide) (fun c8 => ?_) (fun c8 => ?_)
                · skip
                  refine lv_iload_n hx hb dX11_burnt_49 rfl (lv_at hl 2 rfl) ?_
                  refine lv_if_ne (tgt := 66) hx hb dX11_burnt_50 (by decide) (fun c9 => ?_) (fun c9 => ?_)
                  · have fc9 := z_ne (rfl : (b).toInt = _) (by decide : (0 : Int32).toInt = 0) c9
                    refine lv_aload_n hx hb dX11_burnt_66 rfl (lv_at hl 0 rfl) ?_
                    refine gX_11_2 hx hb ht hown hK hP m_417 dX11_burnt_67 ?_
                    refine gX_0_4 hx hb ht hown hK hP m_161 dX11_burnt_70 ?_
                    refine lv_iload_n hx hb dX11_burnt_73 rfl (lv_at hl 1 rfl) ?_
                    refine lv_iload_n hx hb dX11_burnt_74 rfl (lv_at hl 3 rfl) ?_
                    refine tX_0_4 hx hb hK hP hD hS (f0 := (fa 0 4)) rfl (i := a) (x := d) (vp_in_iff.mpr ⟨by omega, by omega⟩) dX11_burnt_75 (fun f10 ef10 H locs hP hD hS => ?_)
                    have hf10 : ∀ j, inb (bA 0 4 j) (f10 j) := fun j => full_i _
                    refine lv_iconst (v := 1) hx hb dX11_burnt_76 (by decide) ?_
                    have : (1 : Int32).toInt = 1 := (by decide)
                    have hP9 : va_P (dC, dI) classes (WX h g ca iv lv (u2 (u2 fa 0 3 (fa 0 3)) 0 4 f10) la) H := hP
                    have hD9 : va_D A (WX h g ca iv lv (u2 (u2 fa 0 3 (fa 0 3)) 0 4 f10) la) := hD
                    exact W.iret (v := 1) hx hb hr (fun t ht9 hW => ⟨⟨1, (iv, lv, (u2 (u2 fa 0 3 (fa 0 3)) 0 4 f10), la), rfl, ⟨(fa 0 3), f10, (show (((1 : Int32).toInt = -100001 ∧ ¬ (0 ≤ (a).toInt ∧ (a).toInt < (iv 0 7).toInt)) ∨ ((1 : Int32).toInt = -100002 ∧ 0 ≤ (a).toInt ∧ (a).toInt < (iv 0 7).toInt ∧ ¬ (0 ≤ (b).toInt ∧ (b).toInt ≤ 1 ∧ 0 ≤ (d).toInt ∧ (d).toInt ≤ (k).toInt ∧ (k).toInt ≤ 999)) ∨ ((1 : Int32).toInt = 1 ∧ 0 ≤ (a).toInt ∧ (a).toInt < (iv 0 7).toInt ∧ 0 ≤ (b).toInt ∧ (b).toInt ≤ 1 ∧ 0 ≤ (d).toInt ∧ (d).toInt ≤ (k).toInt ∧ (k).toInt ≤ 999)) from by omega), ⟨by decide, by decide⟩, rfl⟩, by rw [ht9]; exact hP9, hD9⟩, hS.F ht9⟩) hS.2.2 dX11_burnt_77
                  · have fc9 := z_eq (rfl : (b).toInt = _) (by decide : (0 : Int32).toInt = 0) c9
                    refine lv_aload_n hx hb dX11_burnt_53 rfl (lv_at hl 0 rfl) ?_
                    refine gX_11_2 hx hb ht hown hK hP m_417 dX11_burnt_54 ?_
                    refine gX_0_3 hx hb ht hown hK hP m_159 dX11_burnt_57 ?_
                    refine lv_iload_n hx hb dX11_burnt_60 rfl (lv_at hl 1 rfl) ?_
                    refine lv_iload_n hx hb dX11_burnt_61 rfl (lv_at hl 3 rfl) ?_
                    refine tX_0_3 hx hb hK hP hD hS (f0 := (fa 0 3)) rfl (i := a) (x := d) (vp_in_iff.mpr ⟨by omega, by omega⟩) dX11_burnt_62 (fun f11 ef11 H locs hP hD hS => ?_)
                    have hf11 : ∀ j, inb (bA 0 3 j) (f11 j) := fun j => full_i _
                    refine lv_goto (tgt := 76) hx hb dX11_burnt_63 (by decide) ?_
                    refine lv_iconst (v := 1) hx hb dX11_burnt_76 (by decide) ?_
                    have : (1 : Int32).toInt = 1 := (by decide)
                    have hP9 : va_P (dC, dI) classes (WX h g ca iv lv (u2 (u2 fa 0 3 f11) 0 4 (fa 0 4)) la) H := hP
                    have hD9 : va_D A (WX h g ca iv lv (u2 (u2 fa 0 3 f11) 0 4 (fa 0 4)) la) := hD
                    exact W.iret (v := 1) hx hb hr (fun t ht9 hW => ⟨⟨1, (iv, lv, (u2 (u2 fa 0 3 f11) 0 4 (fa 0 4)), la), rfl, ⟨f11, (fa 0 4), (show (((1 : Int32).toInt = -100001 ∧ ¬ (0 ≤ (a).toInt ∧ (a).toInt < (iv 0 7).toInt)) ∨ ((1 : Int32).toInt = -100002 ∧ 0 ≤ (a).toInt ∧ (a).toInt < (iv 0 7).toInt ∧ ¬ (0 ≤ (b).toInt ∧ (b).toInt ≤ 1 ∧ 0 ≤ (d).toInt ∧ (d).toInt ≤ (k).toInt ∧ (k).toInt ≤ 999)) ∨ ((1 : Int32).toInt = 1 ∧ 0 ≤ (a).toInt ∧ (a).toInt < (iv 0 7).toInt ∧ 0 ≤ (b).toInt ∧ (b).toInt ≤ 1 ∧ 0 ≤ (d).toInt ∧ (d).toInt ≤ (k).toInt ∧ (k).toInt ≤ 999)) from by omega), ⟨by decide, by decide⟩, rfl⟩, by rw [ht9]; exact hP9, hD9⟩, hS.F ht9⟩) hS.2.2 dX11_burnt_77
                · exact absurd c8 (by decide)
              · skip
                refine lv_if_ne (tgt := 49) hx hb dX11_burnt_43 (by decide) (fun c12 => ?_) (fun c12 => ?_)
                · exact absurd rfl c12
                · skip
                  refine lv_ldc hx hb hown (ht _ m_456) dX11_burnt_46 ?_
                  have : ((-100002) : Int32).toInt = (-100002) := (by decide)
                  have hP9 : va_P (dC, dI) classes (WX h g ca iv lv (u2 (u2 fa 0 3 (fa 0 3)) 0 4 (fa 0 4)) la) s.heap := hP
                  have hD9 : va_D A (WX h g ca iv lv (u2 (u2 fa 0 3 (fa 0 3)) 0 4 (fa 0 4)) la) := hD
                  exact W.iret (v := (-100002)) hx hb hr (fun t ht9 hW => ⟨⟨(-100002), (iv, lv, (u2 (u2 fa 0 3 (fa 0 3)) 0 4 (fa 0 4)), la), rfl, ⟨(fa 0 3), (fa 0 4), (show ((((-100002) : Int32).toInt = -100001 ∧ ¬ (0 ≤ (a).toInt ∧ (a).toInt < (iv 0 7).toInt)) ∨ (((-100002) : Int32).toInt = -100002 ∧ 0 ≤ (a).toInt ∧ (a).toInt < (iv 0 7).toInt ∧ ¬ (0 ≤ (b).toInt ∧ (b).toInt ≤ 1 ∧ 0 ≤ (d).toInt ∧ (d).toInt ≤ (k).toInt ∧ (k).toInt ≤ 999)) ∨ (((-100002) : Int32).toInt = 1 ∧ 0 ≤ (a).toInt ∧ (a).toInt < (iv 0 7).toInt ∧ 0 ≤ (b).toInt ∧ (b).toInt ≤ 1 ∧ 0 ≤ (d).toInt ∧ (d).toInt ≤ (k).toInt ∧ (k).toInt ≤ 999)) from by omega), ⟨by decide, by decide⟩, rfl⟩, by rw [ht9]; exact hP9, hD9⟩, hS.F ht9⟩) hS.2.2 dX11_burnt_48
          · skip
            refine lv_if_eq (tgt := 46) hx hb dX11_burnt_31 (by decide) (fun c13 => ?_) (fun c13 => ?_)
            · skip
              refine lv_ldc hx hb hown (ht _ m_456) dX11_burnt_46 ?_
              have : ((-100002) : Int32).toInt = (-100002) := (by decide)
              have hP9 : va_P (dC, dI) classes (WX h g ca iv lv (u2 (u2 fa 0 3 (fa 0 3)) 0 4 (fa 0 4)) la) s.heap := hP
              have hD9 : va_D A (WX h g ca iv lv (u2 (u2 fa 0 3 (fa 0 3)) 0 4 (fa 0 4)) la) := hD
              exact W.iret (v := (-100002)) hx hb hr (fun t ht9 hW => ⟨⟨(-100002), (iv, lv, (u2 (u2 fa 0 3 (fa 0 3)) 0 4 (fa 0 4)), la), rfl, ⟨(fa 0 3), (fa 0 4), (show ((((-100002) : Int32).toInt = -100001 ∧ ¬ (0 ≤ (a).toInt ∧ (a).toInt < (iv 0 7).toInt)) ∨ (((-100002) : Int32).toInt = -100002 ∧ 0 ≤ (a).toInt ∧ (a).toInt < (iv 0 7).toInt ∧ ¬ (0 ≤ (b).toInt ∧ (b).toInt ≤ 1 ∧ 0 ≤ (d).toInt ∧ (d).toInt ≤ (k).toInt ∧ (k).toInt ≤ 999)) ∨ (((-100002) : Int32).toInt = 1 ∧ 0 ≤ (a).toInt ∧ (a).toInt < (iv 0 7).toInt ∧ 0 ≤ (b).toInt ∧ (b).toInt ≤ 1 ∧ 0 ≤ (d).toInt ∧ (d).toInt ≤ (k).toInt ∧ (k).toInt ≤ 999)) from by omega), ⟨by decide, by decide⟩, rfl⟩, by rw [ht9]; exact hP9, hD9⟩, hS.F ht9⟩) hS.2.2 dX11_burnt_48
            · exact absurd rfl c13
      · skip
        refine lv_if_eq (tgt := 46) hx hb dX11_burnt_20 (by decide) (fun c14 => ?_) (fun c14 => ?_)
        · skip
          refine lv_ldc hx hb hown (ht _ m_456) dX11_burnt_46 ?_
          have : ((-100002) : Int32).toInt = (-100002) := (by decide)
          have hP9 : va_P (dC, dI) classes (WX h g ca iv lv (u2 (u2 fa 0 3 (fa 0 3)) 0 4 (fa 0 4)) la) s.heap := hP
          have hD9 : va_D A (WX h g ca iv lv (u2 (u2 fa 0 3 (fa 0 3)) 0 4 (fa 0 4)) la) := hD
          exact W.iret (v := (-100002)) hx hb hr (fun t ht9 hW => ⟨⟨(-100002), (iv, lv, (u2 (u2 fa 0 3 (fa 0 3)) 0 4 (fa 0 4)), la), rfl, ⟨(fa 0 3), (fa 0 4), (show ((((-100002) : Int32).toInt = -100001 ∧ ¬ (0 ≤ (a).toInt ∧ (a).toInt < (iv 0 7).toInt)) ∨ (((-100002) : Int32).toInt = -100002 ∧ 0 ≤ (a).toInt ∧ (a).toInt < (iv 0 7).toInt ∧ ¬ (0 ≤ (b).toInt ∧ (b).toInt ≤ 1 ∧ 0 ≤ (d).toInt ∧ (d).toInt ≤ (k).toInt ∧ (k).toInt ≤ 999)) ∨ (((-100002) : Int32).toInt = 1 ∧ 0 ≤ (a).toInt ∧ (a).toInt < (iv 0 7).toInt ∧ 0 ≤ (b).toInt ∧ (b).toInt ≤ 1 ∧ 0 ≤ (d).toInt ∧ (d).toInt ≤ (k).toInt ∧ (k).toInt ≤ 999)) from by omega), ⟨by decide, by decide⟩, rfl⟩, by rw [ht9]; exact hP9, hD9⟩, hS.F ht9⟩) hS.2.2 dX11_burnt_48
        · exact absurd rfl c14
    · exact absurd c2 (by decide)
  · skip
    have i_0_7 : 0 ≤ (iv 0 7).toInt ∧ (iv 0 7).toInt ≤ 10 := hI.1 0 7
    have fr1 : ¬ (0 ≤ (a : Int32).toInt ∧ (a : Int32).toInt < ((iv 0 7) : Int32).toInt) := fr1
    refine lv_if_ne (tgt := 14) hx hb dX11_burnt_8 (by decide) (fun c15 => ?_) (fun c15 => ?_)
    · exact absurd rfl c15
    · skip
      refine lv_ldc hx hb hown (ht _ m_476) dX11_burnt_11 ?_
      have : ((-100001) : Int32).toInt = (-100001) := (by decide)
      have hP9 : va_P (dC, dI) classes (WX h g ca iv lv (u2 (u2 fa 0 3 (fa 0 3)) 0 4 (fa 0 4)) la) s.heap := hP
      have hD9 : va_D A (WX h g ca iv lv (u2 (u2 fa 0 3 (fa 0 3)) 0 4 (fa 0 4)) la) := hD
      exact W.iret (v := (-100001)) hx hb hr (fun t ht9 hW => ⟨⟨(-100001), (iv, lv, (u2 (u2 fa 0 3 (fa 0 3)) 0 4 (fa 0 4)), la), rfl, ⟨(fa 0 3), (fa 0 4), (show ((((-100001) : Int32).toInt = -100001 ∧ ¬ (0 ≤ (a).toInt ∧ (a).toInt < (iv 0 7).toInt)) ∨ (((-100001) : Int32).toInt = -100002 ∧ 0 ≤ (a).toInt ∧ (a).toInt < (iv 0 7).toInt ∧ ¬ (0 ≤ (b).toInt ∧ (b).toInt ≤ 1 ∧ 0 ≤ (d).toInt ∧ (d).toInt ≤ (k).toInt ∧ (k).toInt ≤ 999)) ∨ (((-100001) : Int32).toInt = 1 ∧ 0 ≤ (a).toInt ∧ (a).toInt < (iv 0 7).toInt ∧ 0 ≤ (b).toInt ∧ (b).toInt ≤ 1 ∧ 0 ≤ (d).toInt ∧ (d).toInt ≤ (k).toInt ∧ (k).toInt ≤ 999)) from by omega), ⟨by decide, by decide⟩, rfl⟩, by rw [ht9]; exact hP9, hD9⟩, hS.F ht9⟩) hS.2.2 dX11_burnt_13
set_option maxHeartbeats 4000000 in
set_option maxRecDepth 100000 in
/-- X12_burnt -/
theorem c_X12_burnt_x (l : Launch) (dC : Nat → ClassId) (dI : Nat → Nat → Nat) (sz : Nat) (h : Nat) (g : Nat → Nat → Nat) (ca : Nat → Nat → ClassId) (iv : Nat → Nat → Int32) (lv : Nat → Nat → Int64) (fa : Nat → Nat → Nat → Int32) (la : Nat → Nat → Nat → Int64) (hI : IX iv fa) (a : Int32) (b : Int32) (d : Int32) (k : Int32) : Met l yX12_burnt (wc yX12_burnt cX12_burnt 5 (some .int)) ({ frames := 2, cells := 0, slots := 0, locals := 46 } : Room) (pW (dC, dI) classes (WM h g ca iv lv fa la) (TM ca) sz [.ref h, .int a, .int b, .int d, .int k]) (va_Qi (fun r (u : SS) => ∃ (na_12_55 : Nat → Int32) (na_12_56 : Nat → Int32), (((r.toInt = -100001 ∧ ¬ (0 ≤ a.toInt ∧ a.toInt < (iv 12 1).toInt)) ∨ (r.toInt = -100002 ∧ 0 ≤ a.toInt ∧ a.toInt < (iv 12 1).toInt ∧ ¬ (0 ≤ b.toInt ∧ b.toInt ≤ 1 ∧ 0 ≤ d.toInt ∧ d.toInt ≤ k.toInt ∧ k.toInt ≤ 999)) ∨ (r.toInt = 1 ∧ 0 ≤ a.toInt ∧ a.toInt < (iv 12 1).toInt ∧ 0 ≤ b.toInt ∧ b.toInt ≤ 1 ∧ 0 ≤ d.toInt ∧ d.toInt ≤ k.toInt ∧ k.toInt ≤ 999))) ∧ ((-100002) ≤ r.toInt ∧ r.toInt ≤ 1) ∧ u = (iv, lv, (u2 (u2 fa 12 55 na_12_55) 12 56 na_12_56), la)) (bM (dC, dI) h g ca (va_A (WM h g ca iv lv fa la) sz)) (va_A (WM h g ca iv lv fa la) sz)) 0 0 (va_A (WM h g ca iv lv fa la) sz) := by
  refine Met.ofW (cc := cX12_burnt) (maxL := 5) (ret := (some .int)) (by decide) rfl ?_
  intro p e s m args below meth c s₁ B hml hv
  obtain ⟨rfl, hsz, hP, hK, hD0⟩ := hv
  have hx := B.exec
  have hb := B.bytes
  have hr := B.returns
  have ht := tb_tl (atoms_spec (ws := wc yX12_burnt cX12_burnt 5 (some .int)) B.pre)
  have hown : s.vm.findClass RX12 = some m.cls := findClass_of_methodNamed B.named
  have hlocks := B.notSynchronized
  subst hsz
  have hD := hD0.self (sz := s.heap.size)
  generalize hAe : va_A (WM h g ca iv lv fa la) s.heap.size = A at hD ⊢
  have hA : ∀ q : Nat, s.heap.size ≤ q → A q := fun q h => by rw [← hAe]; exact Or.inr h
  have hS : va_S A s.heap s.heap [] := va_S.rf
  have hl := lv_entry [.ref h, .int a, .int b, .int d, .int k] (n := 5) (Nat.le_of_ble_eq_true rfl)
  rw [lg_entry_eq]
  generalize (lg_sl [.ref h, .int a, .int b, .int d, .int k] ++ List.replicate (5 - (lg_sl [.ref h, .int a, .int b, .int d, .int k]).length) Slot.unset).toArray = ls at hl ⊢
  have hl : lv_has ls 5 [(0, .ref h), (1, .int a), (2, .int b), (3, .int d), (4, .int k)] := hl
  refine lv_aload_n hx hb dX12_burnt_0 rfl (lv_at hl 0 rfl) ?_
  refine lv_iload_n hx hb dX12_burnt_1 rfl (lv_at hl 1 rfl) ?_
  refine vp_callSi (W.runV (As := [.int a]) (rest := []) ⟨hx, hb, hml, hown, ht⟩ (c_X12_noBale l dC dI h g ca iv lv fa la hI a) (kV 1 ht m_1385 m_1387 m_42 m_89 m_1388 rfl rfl hd_X12_noBale_v ⟨Nat.le_of_ble_eq_true rfl, Nat.le_of_ble_eq_true rfl⟩) (vR hP hK (rM_12 hK hP)) rfl rfl hl.1 rfl (lv_room (Nat.le_of_ble_eq_true rfl)) dX12_burnt_2 ⟨Nat.le_of_ble_eq_true rfl, Nat.le_of_ble_eq_true rfl⟩) (fun r1 hr1 => ?_)
  rcases hr1 with ⟨rfl, fr1⟩ | ⟨rfl, fr1⟩
  · skip
    have i_12_1 : 0 ≤ (iv 12 1).toInt ∧ (iv 12 1).toInt ≤ 10 := hI.1 12 1
    have fr1 : ¬ (0 ≤ (a : Int32).toInt ∧ (a : Int32).toInt < ((iv 12 1) : Int32).toInt) := fr1
    refine lv_if_eq (tgt := 11) hx hb dX12_burnt_5 (by decide) (fun c2 => ?_) (fun c2 => ?_)
    · exact absurd c2 (by decide)
    · skip
      refine lv_ldc hx hb hown (ht _ m_1389) dX12_burnt_8 ?_
      have : ((-100001) : Int32).toInt = (-100001) := (by decide)
      have hP9 : va_P (dC, dI) classes (WM h g ca iv lv (u2 (u2 fa 12 55 (fa 12 55)) 12 56 (fa 12 56)) la) s.heap := hP
      have hD9 : va_D A (WM h g ca iv lv (u2 (u2 fa 12 55 (fa 12 55)) 12 56 (fa 12 56)) la) := hD
      exact W.iret (v := (-100001)) hx hb hr (fun t ht9 hW => ⟨⟨(-100001), (iv, lv, (u2 (u2 fa 12 55 (fa 12 55)) 12 56 (fa 12 56)), la), rfl, ⟨(fa 12 55), (fa 12 56), (show ((((-100001) : Int32).toInt = -100001 ∧ ¬ (0 ≤ (a).toInt ∧ (a).toInt < (iv 12 1).toInt)) ∨ (((-100001) : Int32).toInt = -100002 ∧ 0 ≤ (a).toInt ∧ (a).toInt < (iv 12 1).toInt ∧ ¬ (0 ≤ (b).toInt ∧ (b).toInt ≤ 1 ∧ 0 ≤ (d).toInt ∧ (d).toInt ≤ (k).toInt ∧ (k).toInt ≤ 999)) ∨ (((-100001) : Int32).toInt = 1 ∧ 0 ≤ (a).toInt ∧ (a).toInt < (iv 12 1).toInt ∧ 0 ≤ (b).toInt ∧ (b).toInt ≤ 1 ∧ 0 ≤ (d).toInt ∧ (d).toInt ≤ (k).toInt ∧ (k).toInt ≤ 999)) from by omega), ⟨by decide, by decide⟩, rfl⟩, by rw [ht9]; exact hP9, hD9⟩, hS.F ht9⟩) hS.2.2 dX12_burnt_10
  · skip
    have i_12_1 : 0 ≤ (iv 12 1).toInt ∧ (iv 12 1).toInt ≤ 10 := hI.1 12 1
    have fr1 : (0 ≤ (a : Int32).toInt ∧ (a : Int32).toInt < ((iv 12 1) : Int32).toInt) := Decidable.not_not.mp fr1
    refine lv_if_eq (tgt := 11) hx hb dX12_burnt_5 (by decide) (fun c3 => ?_) (fun c3 => ?_)
    · skip
      refine lv_iload_n hx hb dX12_burnt_11 rfl (lv_at hl 2 rfl) ?_
      refine lv_i2l (v := (b.toInt64)) hx hb dX12_burnt_12 rfl ?_
      refine lv_lconst (v := 0) hx hb dX12_burnt_13 (by decide) ?_
      refine lv_lconst (v := 1) hx hb dX12_burnt_14 (by decide) ?_
      refine vp_callSi (W.runS (As := [.long (b.toInt64), .long 0, .long 1]) (rest := []) ⟨hx, hb, hml, hown, ht⟩ (c_X12_in l dC dI (b.toInt64) 0 1 (b.toInt) (0) (1) ((Int32.toInt_toInt64 b).trans rfl) (by decide : (0 : Int64).toInt = 0) (by decide : (1 : Int64).toInt = 1)) (kS 3 ht m_1370 m_1371 m_89 m_1372 rfl rfl hd_X12_in_v ⟨Nat.le_of_ble_eq_true rfl, Nat.le_of_ble_eq_true rfl⟩) (sR noP (hK.sub (tys' := []) [] rfl)) rfl rfl hl.1 rfl (lv_room (Nat.le_of_ble_eq_true rfl)) dX12_burnt_15 ⟨Nat.le_of_ble_eq_true rfl, Nat.le_of_ble_eq_true rfl⟩) (fun r4 hr4 => ?_)
      rcases hr4 with ⟨rfl, fr4⟩ | ⟨rfl, fr4⟩
      · skip
        refine lv_if_eq (tgt := 41) hx hb dX12_burnt_18 (by decide) (fun c5 => ?_) (fun c5 => ?_)
        · exact absurd c5 (by decide)
        · skip
          refine lv_iload_n hx hb dX12_burnt_21 rfl (lv_at hl 3 rfl) ?_
          refine lv_i2l (v := (d.toInt64)) hx hb dX12_burnt_22 rfl ?_
          refine lv_lconst (v := 0) hx hb dX12_burnt_23 (by decide) ?_
          refine lv_iload hx hb dX12_burnt_24 (lv_at hl 4 rfl) ?_
          refine lv_i2l (v := (k.toInt64)) hx hb dX12_burnt_26 rfl ?_
          refine vp_callSi (W.runS (As := [.long (d.toInt64), .long 0, .long (k.toInt64)]) (rest := []) ⟨hx, hb, hml, hown, ht⟩ (c_X12_in l dC dI (d.toInt64) 0 (k.toInt64) (d.toInt) (0) (k.toInt) ((Int32.toInt_toInt64 d).trans rfl) (by decide : (0 : Int64).toInt = 0) ((Int32.toInt_toInt64 k).trans rfl)) (kS 3 ht m_1370 m_1371 m_89 m_1372 rfl rfl hd_X12_in_v ⟨Nat.le_of_ble_eq_true rfl, Nat.le_of_ble_eq_true rfl⟩) (sR noP (hK.sub (tys' := []) [] rfl)) rfl rfl hl.1 rfl (lv_room (Nat.le_of_ble_eq_true rfl)) dX12_burnt_27 ⟨Nat.le_of_ble_eq_true rfl, Nat.le_of_ble_eq_true rfl⟩) (fun r6 hr6 => ?_)
          rcases hr6 with ⟨rfl, fr6⟩ | ⟨rfl, fr6⟩
          · skip
            refine lv_if_eq (tgt := 41) hx hb dX12_burnt_30 (by decide) (fun c7 => ?_) (fun c7 => ?_)
            · exact absurd c7 (by decide)
            · skip
              refine lv_iload hx hb dX12_burnt_33 (lv_at hl 4 rfl) ?_
              refine lv_sipush (v := 999) hx hb dX12_burnt_35 (by decide) ?_
              refine lv_icmp_le (tgt := 44) hx hb dX12_burnt_38 (by decide) (fun c8 => ?_) (fun c8 => ?_)
              · have fc8 := z_le (rfl : (k).toInt = _) (by decide : (999 : Int32).toInt = 999) c8
                refine lv_iload_n hx hb dX12_burnt_44 rfl (lv_at hl 2 rfl) ?_
                refine lv_if_ne (tgt := 58) hx hb dX12_burnt_45 (by decide) (fun c9 => ?_) (fun c9 => ?_)
                · have fc9 := z_ne (rfl : (b).toInt = _) (by decide : (0 : Int32).toInt = 0) c9
                  refine lv_aload_n hx hb dX12_burnt_58 rfl (lv_at hl 0 rfl) ?_
                  refine gM_12_56 hx hb ht hown hK hP m_1195 dX12_burnt_59 ?_
                  refine lv_iload_n hx hb dX12_burnt_62 rfl (lv_at hl 1 rfl) ?_
                  refine lv_iload_n hx hb dX12_burnt_63 rfl (lv_at hl 3 rfl) ?_
                  refine tM_12_56 hx hb hK hP hD hS (f0 := (fa 12 56)) rfl (i := a) (x := d) (vp_in_iff.mpr ⟨by omega, by omega⟩) dX12_burnt_64 (fun f10 ef10 H locs hP hD hS => ?_)
                  have hf10 : ∀ j, inb (bA 12 56 j) (f10 j) := fun j => full_i _
                  refine lv_iconst (v := 1) hx hb dX12_burnt_65 (by decide) ?_
                  have : (1 : Int32).toInt = 1 := (by decide)
                  have hP9 : va_P (dC, dI) classes (WM h g ca iv lv (u2 (u2 fa 12 55 (fa 12 55)) 12 56 f10) la) H := hP
                  have hD9 : va_D A (WM h g ca iv lv (u2 (u2 fa 12 55 (fa 12 55)) 12 56 f10) la) := hD
                  exact W.iret (v := 1) hx hb hr (fun t ht9 hW => ⟨⟨1, (iv, lv, (u2 (u2 fa 12 55 (fa 12 55)) 12 56 f10), la), rfl, ⟨(fa 12 55), f10, (show (((1 : Int32).toInt = -100001 ∧ ¬ (0 ≤ (a).toInt ∧ (a).toInt < (iv 12 1).toInt)) ∨ ((1 : Int32).toInt = -100002 ∧ 0 ≤ (a).toInt ∧ (a).toInt < (iv 12 1).toInt ∧ ¬ (0 ≤ (b).toInt ∧ (b).toInt ≤ 1 ∧ 0 ≤ (d).toInt ∧ (d).toInt ≤ (k).toInt ∧ (k).toInt ≤ 999)) ∨ ((1 : Int32).toInt = 1 ∧ 0 ≤ (a).toInt ∧ (a).toInt < (iv 12 1).toInt ∧ 0 ≤ (b).toInt ∧ (b).toInt ≤ 1 ∧ 0 ≤ (d).toInt ∧ (d).toInt ≤ (k).toInt ∧ (k).toInt ≤ 999)) from by omega), ⟨by decide, by decide⟩, rfl⟩, by rw [ht9]; exact hP9, hD9⟩, hS.F ht9⟩) hS.2.2 dX12_burnt_66
                · have fc9 := z_eq (rfl : (b).toInt = _) (by decide : (0 : Int32).toInt = 0) c9
                  refine lv_aload_n hx hb dX12_burnt_48 rfl (lv_at hl 0 rfl) ?_
                  refine gM_12_55 hx hb ht hown hK hP m_1194 dX12_burnt_49 ?_
                  refine lv_iload_n hx hb dX12_burnt_52 rfl (lv_at hl 1 rfl) ?_
                  refine lv_iload_n hx hb dX12_burnt_53 rfl (lv_at hl 3 rfl) ?_
                  refine tM_12_55 hx hb hK hP hD hS (f0 := (fa 12 55)) rfl (i := a) (x := d) (vp_in_iff.mpr ⟨by omega, by omega⟩) dX12_burnt_54 (fun f11 ef11 H locs hP hD hS => ?_)
                  have hf11 : ∀ j, inb (bA 12 55 j) (f11 j) := fun j => full_i _
                  refine lv_goto (tgt := 65) hx hb dX12_burnt_55 (by decide) ?_
                  refine lv_iconst (v := 1) hx hb dX12_burnt_65 (by decide) ?_
                  have : (1 : Int32).toInt = 1 := (by decide)
                  have hP9 : va_P (dC, dI) classes (WM h g ca iv lv (u2 (u2 fa 12 55 f11) 12 56 (fa 12 56)) la) H := hP
                  have hD9 : va_D A (WM h g ca iv lv (u2 (u2 fa 12 55 f11) 12 56 (fa 12 56)) la) := hD
                  exact W.iret (v := 1) hx hb hr (fun t ht9 hW => ⟨⟨1, (iv, lv, (u2 (u2 fa 12 55 f11) 12 56 (fa 12 56)), la), rfl, ⟨f11, (fa 12 56), (show (((1 : Int32).toInt = -100001 ∧ ¬ (0 ≤ (a).toInt ∧ (a).toInt < (iv 12 1).toInt)) ∨ ((1 : Int32).toInt = -100002 ∧ 0 ≤ (a).toInt ∧ (a).toInt < (iv 12 1).toInt ∧ ¬ (0 ≤ (b).toInt ∧ (b).toInt ≤ 1 ∧ 0 ≤ (d).toInt ∧ (d).toInt ≤ (k).toInt ∧ (k).toInt ≤ 999)) ∨ ((1 : Int32).toInt = 1 ∧ 0 ≤ (a).toInt ∧ (a).toInt < (iv 12 1).toInt ∧ 0 ≤ (b).toInt ∧ (b).toInt ≤ 1 ∧ 0 ≤ (d).toInt ∧ (d).toInt ≤ (k).toInt ∧ (k).toInt ≤ 999)) from by omega), ⟨by decide, by decide⟩, rfl⟩, by rw [ht9]; exact hP9, hD9⟩, hS.F ht9⟩) hS.2.2 dX12_burnt_66
              · have fc8 := z_nle (rfl : (k).toInt = _) (by decide : (999 : Int32).toInt = 999) c8
                refine lv_ldc hx hb hown (ht _ m_1373) dX12_burnt_41 ?_
                have : ((-100002) : Int32).toInt = (-100002) := (by decide)
                have hP9 : va_P (dC, dI) classes (WM h g ca iv lv (u2 (u2 fa 12 55 (fa 12 55)) 12 56 (fa 12 56)) la) s.heap := hP
                have hD9 : va_D A (WM h g ca iv lv (u2 (u2 fa 12 55 (fa 12 55)) 12 56 (fa 12 56)) la) := hD
                exact W.iret (v := (-100002)) hx hb hr (fun t ht9 hW => ⟨⟨(-100002), (iv, lv, (u2 (u2 fa 12 55 (fa 12 55)) 12 56 (fa 12 56)), la), rfl, ⟨(fa 12 55), (fa 12 56), (show ((((-100002) : Int32).toInt = -100001 ∧ ¬ (0 ≤ (a).toInt ∧ (a).toInt < (iv 12 1).toInt)) ∨ (((-100002) : Int32).toInt = -100002 ∧ 0 ≤ (a).toInt ∧ (a).toInt < (iv 12 1).toInt ∧ ¬ (0 ≤ (b).toInt ∧ (b).toInt ≤ 1 ∧ 0 ≤ (d).toInt ∧ (d).toInt ≤ (k).toInt ∧ (k).toInt ≤ 999)) ∨ (((-100002) : Int32).toInt = 1 ∧ 0 ≤ (a).toInt ∧ (a).toInt < (iv 12 1).toInt ∧ 0 ≤ (b).toInt ∧ (b).toInt ≤ 1 ∧ 0 ≤ (d).toInt ∧ (d).toInt ≤ (k).toInt ∧ (k).toInt ≤ 999)) from by omega), ⟨by decide, by decide⟩, rfl⟩, by rw [ht9]; exact hP9, hD9⟩, hS.F ht9⟩) hS.2.2 dX12_burnt_43
          · skip
            refine lv_if_eq (tgt := 41) hx hb dX12_burnt_30 (by decide) (fun c12 => ?_) (fun c12 => ?_)
            · skip
              refine lv_ldc hx hb hown (ht _ m_1373) dX12_burnt_41 ?_
              have : ((-100002) : Int32).toInt = (-100002) := (by decide)
              have hP9 : va_P (dC, dI) classes (WM h g ca iv lv (u2 (u2 fa 12 55 (fa 12 55)) 12 56 (fa 12 56)) la) s.heap := hP
              have hD9 : va_D A (WM h g ca iv lv (u2 (u2 fa 12 55 (fa 12 55)) 12 56 (fa 12 56)) la) := hD
              exact W.iret (v := (-100002)) hx hb hr (fun t ht9 hW => ⟨⟨(-100002), (iv, lv, (u2 (u2 fa 12 55 (fa 12 55)) 12 56 (fa 12 56)), la), rfl, ⟨(fa 12 55), (fa 12 56), (show ((((-100002) : Int32).toInt = -100001 ∧ ¬ (0 ≤ (a).toInt ∧ (a).toInt < (iv 12 1).toInt)) ∨ (((-100002) : Int32).toInt = -100002 ∧ 0 ≤ (a).toInt ∧ (a).toInt < (iv 12 1).toInt ∧ ¬ (0 ≤ (b).toInt ∧ (b).toInt ≤ 1 ∧ 0 ≤ (d).toInt ∧ (d).toInt ≤ (k).toInt ∧ (k).toInt ≤ 999)) ∨ (((-100002) : Int32).toInt = 1 ∧ 0 ≤ (a).toInt ∧ (a).toInt < (iv 12 1).toInt ∧ 0 ≤ (b).toInt ∧ (b).toInt ≤ 1 ∧ 0 ≤ (d).toInt ∧ (d).toInt ≤ (k).toInt ∧ (k).toInt ≤ 999)) from by omega), ⟨by decide, by decide⟩, rfl⟩, by rw [ht9]; exact hP9, hD9⟩, hS.F ht9⟩) hS.2.2 dX12_burnt_43
            · exact absurd rfl c12
      · skip
        refine lv_if_eq (tgt := 41) hx hb dX12_burnt_18 (by decide) (fun c13 => ?_) (fun c13 => ?_)
        · skip
          refine lv_ldc hx hb hown (ht _ m_1373) dX12_burnt_41 ?_
          have : ((-100002) : Int32).toInt = (-100002) := (by decide)
          have hP9 : va_P (dC, dI) classes (WM h g ca iv lv (u2 (u2 fa 12 55 (fa 12 55)) 12 56 (fa 12 56)) la) s.heap := hP
          have hD9 : va_D A (WM h g ca iv lv (u2 (u2 fa 12 55 (fa 12 55)) 12 56 (fa 12 56)) la) := hD
          exact W.iret (v := (-100002)) hx hb hr (fun t ht9 hW => ⟨⟨(-100002), (iv, lv, (u2 (u2 fa 12 55 (fa 12 55)) 12 56 (fa 12 56)), la), rfl, ⟨(fa 12 55), (fa 12 56), (show ((((-100002) : Int32).toInt = -100001 ∧ ¬ (0 ≤ (a).toInt ∧ (a).toInt < (iv 12 1).toInt)) ∨ (((-100002) : Int32).toInt = -100002 ∧ 0 ≤ (a).toInt ∧ (a).toInt < (iv 12 1).toInt ∧ ¬ (0 ≤ (b).toInt ∧ (b).toInt ≤ 1 ∧ 0 ≤ (d).toInt ∧ (d).toInt ≤ (k).toInt ∧ (k).toInt ≤ 999)) ∨ (((-100002) : Int32).toInt = 1 ∧ 0 ≤ (a).toInt ∧ (a).toInt < (iv 12 1).toInt ∧ 0 ≤ (b).toInt ∧ (b).toInt ≤ 1 ∧ 0 ≤ (d).toInt ∧ (d).toInt ≤ (k).toInt ∧ (k).toInt ≤ 999)) from by omega), ⟨by decide, by decide⟩, rfl⟩, by rw [ht9]; exact hP9, hD9⟩, hS.F ht9⟩) hS.2.2 dX12_burnt_43
        · exact absurd rfl c13
    · exact absurd rfl c3
