/-! ===== go ===== -/
set_option maxHeartbeats 4000000 in
set_option maxRecDepth 100000 in
/-- X5_bring -/
theorem c_X5_bring_x (l : Launch) (dC : Nat → ClassId) (dI : Nat → Nat → Nat) (sz : Nat) (h : Nat) (g : Nat → Nat → Nat) (ca : Nat → Nat → ClassId) (iv : Nat → Nat → Int32) (lv : Nat → Nat → Int64) (fa : Nat → Nat → Nat → Int32) (la : Nat → Nat → Nat → Int64) (hI : IX iv fa) (a : Int32) (q_5_4 : 0 ≤ (iv 5 4).toInt ∧ (iv 5 4).toInt ≤ 7) : Met l yX5_bring (wc yX5_bring cX5_bring 2 (some .int)) ({ frames := 0, cells := 0, slots := 0, locals := 0 } : Room) (pW (dC, dI) classes (WX h g ca iv lv fa la) (TX ca) sz [.ref (g 11 7), .int a]) (va_Qi (fun r (u : SS) => ∃ (na_5_0 : Nat → Int32) (ni_5_4 : Int32) (ni_5_6 : Int32), inb (bI 5 4) ni_5_4 ∧ ni_5_4.toInt = (iv 5 4).toInt + 1 ∧ (r.toInt = (iv 5 4).toInt + 1) ∧ (1 ≤ r.toInt ∧ r.toInt ≤ 8) ∧ u = ((u2 (u2 iv 5 4 ni_5_4) 5 6 ni_5_6), lv, (u2 fa 5 0 na_5_0), la)) (bX (dC, dI) h g ca (va_A (WX h g ca iv lv fa la) sz)) (va_A (WX h g ca iv lv fa la) sz)) 0 0 (va_A (WX h g ca iv lv fa la) sz) := by
  refine Met.ofW (cc := cX5_bring) (maxL := 2) (ret := (some .int)) (by decide) rfl ?_
  intro p e s m args below meth c s₁ B hml hv
  obtain ⟨rfl, hsz, hP, hK, hD0⟩ := hv
  have hx := B.exec
  have hb := B.bytes
  have hr := B.returns
  have ht := tb_tl (atoms_spec (ws := wc yX5_bring cX5_bring 2 (some .int)) B.pre)
  have hown : s.vm.findClass RX5 = some m.cls := findClass_of_methodNamed B.named
  have hlocks := B.notSynchronized
  subst hsz
  have hD := hD0.self (sz := s.heap.size)
  generalize hAe : va_A (WX h g ca iv lv fa la) s.heap.size = A at hD ⊢
  have hA : ∀ q : Nat, s.heap.size ≤ q → A q := fun q h => by rw [← hAe]; exact Or.inr h
  have hS : va_S A s.heap s.heap [] := va_S.rf
  have hl := lv_entry [.ref (g 11 7), .int a] (n := 2) (Nat.le_of_ble_eq_true rfl)
  rw [lg_entry_eq]
  generalize (lg_sl [.ref (g 11 7), .int a] ++ List.replicate (2 - (lg_sl [.ref (g 11 7), .int a]).length) Slot.unset).toArray = ls at hl ⊢
  have hl : lv_has ls 2 [(0, .ref (g 11 7)), (1, .int a)] := hl
  refine lv_aload_n hx hb dX5_bring_0 rfl (lv_at hl 0 rfl) ?_
  refine va_get (D := (dC, dI)) (ci := 5) (v := .ref (g 5 0)) (fs := fX5 h g iv lv) (C := RX5) (T := TX5) (N := 7) hx hb ht inX5 hown hK hP 8 rfl rfl 0 (by decide) (ht _ m_335) (fun _ h9 => h9) rfl dX5_bring_1 ?_
  refine lv_aload_n hx hb dX5_bring_4 rfl (lv_at hl 0 rfl) ?_
  have i_5_4 : 0 ≤ (iv 5 4).toInt ∧ (iv 5 4).toInt ≤ 8 := hI.1 5 4
  refine va_get (D := (dC, dI)) (ci := 5) (v := .int (iv 5 4)) (fs := fX5 h g iv lv) (C := RX5) (T := TX5) (N := 7) hx hb ht inX5 hown hK hP 8 rfl rfl 4 (by decide) (ht _ m_340) (fun _ h9 => h9) rfl dX5_bring_5 ?_
  refine lv_iload_n hx hb dX5_bring_8 rfl (lv_at hl 1 rfl) ?_
  refine va_iast (D := (dC, dI)) hx hb hK hP hD hS 33 20 (f := (fa 5 0)) rfl rfl (vp_in_iff.mpr ⟨by omega, by omega⟩) dX5_bring_9 (fun H locs hP hD hS => ?_)
  rw [aX_5_0] at hP hD
  obtain ⟨f1, ef1⟩ : ∃ f : Nat → Int32, f = upd (fa 5 0) (((iv 5 4) : Int32).toNatClampNeg) a := ⟨_, rfl⟩
  rw [← ef1] at hP hD
  have hf1 : ∀ j, inb (bA 5 0 j) (f1 j) := fun j => full_i _
  refine lv_aload_n hx hb dX5_bring_10 rfl (lv_at hl 0 rfl) ?_
  refine lv_dup hx hb dX5_bring_11 rfl ?_
  refine va_get (D := (dC, dI)) (ci := 5) (v := .int (iv 5 4)) (fs := fX5 h g iv lv) (C := RX5) (T := TX5) (N := 7) hx hb ht inX5 hown hK hP 8 rfl rfl 4 (by decide) (ht _ m_340) (fun _ h9 => h9) rfl dX5_bring_12 ?_
  refine lv_iconst (v := 1) hx hb dX5_bring_15 (by decide) ?_
  refine lv_iadd hx hb dX5_bring_16 ?_
  refine lv_topi (fun v2 ev2 => ?_)
  have tv2 := z_add ev2 (rfl : ((iv 5 4)).toInt = _) (by decide : (1 : Int32).toInt = 1) (by omega) (by omega)
  refine va_put (D := (dC, dI)) (ci := 5) (v := .int v2) (ty := (.int)) (fs := fX5 h g iv lv) (C := RX5) (T := TX5) (N := 7) hx hb ht inX5 tyX5 tyX5_ok nmX5 hown hK hP hD hS 8 rfl rfl 4 (by decide) (ht _ m_340) (fun _ h9 => h9) rfl (by decide +kernel) rfl rfl (Nat.le_of_ble_eq_true rfl) dX5_bring_17 (fun H locs hP hD hS => ?_)
  rw [sX_5_4] at hP hD
  refine lv_aload_n hx hb dX5_bring_20 rfl (lv_at hl 0 rfl) ?_
  refine lv_iconst (v := 0) hx hb dX5_bring_21 (by decide) ?_
  refine va_put (D := (dC, dI)) (ci := 5) (v := .int 0) (ty := (.int)) (fs := fX5 h g (u2 iv 5 4 v2) lv) (C := RX5) (T := TX5) (N := 7) hx hb ht inX5 tyX5 tyX5_ok nmX5 hown hK hP hD hS 8 rfl rfl 6 (by decide) (ht _ m_344) (fun _ h9 => h9) rfl (by decide +kernel) rfl rfl (Nat.le_of_ble_eq_true rfl) dX5_bring_22 (fun H locs hP hD hS => ?_)
  rw [sX_5_6] at hP hD
  refine lv_aload_n hx hb dX5_bring_25 rfl (lv_at hl 0 rfl) ?_
  refine va_get (D := (dC, dI)) (ci := 5) (v := .int v2) (fs := fX5 h g (u2 (u2 iv 5 4 v2) 5 6 0) lv) (C := RX5) (T := TX5) (N := 7) hx hb ht inX5 hown hK hP 8 rfl rfl 4 (by decide) (ht _ m_340) (fun _ h9 => h9) rfl dX5_bring_26 ?_
  have hP9 : va_P (dC, dI) classes (WX h g ca (u2 (u2 iv 5 4 v2) 5 6 0) lv (u2 fa 5 0 f1) la) H := hP
  have hD9 : va_D A (WX h g ca (u2 (u2 iv 5 4 v2) 5 6 0) lv (u2 fa 5 0 f1) la) := hD
  exact W.iret (v := v2) hx hb hr (fun t ht9 hW => ⟨⟨v2, ((u2 (u2 iv 5 4 v2) 5 6 0), lv, (u2 fa 5 0 f1), la), rfl, ⟨f1, v2, 0, (show inb (0, 8) v2 from ⟨by omega, by omega⟩), (by omega), (show (v2 : Int32).toInt = (iv 5 4).toInt + 1 from by omega), ⟨by omega, by omega⟩, rfl⟩, by rw [ht9]; exact hP9, hD9⟩, hS.F ht9⟩) hS.2.2 dX5_bring_29
set_option maxHeartbeats 4000000 in
set_option maxRecDepth 100000 in
/-- X11_load -/
theorem c_X11_load_x (l : Launch) (dC : Nat → ClassId) (dI : Nat → Nat → Nat) (sz : Nat) (h : Nat) (g : Nat → Nat → Nat) (ca : Nat → Nat → ClassId) (iv : Nat → Nat → Int32) (lv : Nat → Nat → Int64) (fa : Nat → Nat → Nat → Int32) (la : Nat → Nat → Nat → Int64) (hI : IX iv fa) (a : Int32) : Met l yX11_load (wc yX11_load cX11_load 2 (some .int)) ({ frames := 1, cells := 0, slots := 0, locals := 22 } : Room) (pW (dC, dI) classes (WX h g ca iv lv fa la) (TX ca) sz [.ref h, .int a]) (va_Qi (fun r (u : SS) => ∃ (na_5_0 : Nat → Int32) (ni_5_4 : Int32) (ni_5_6 : Int32), inb (bI 5 4) ni_5_4 ∧ (((r.toInt = -100002 ∧ ¬ (1 ≤ a.toInt ∧ a.toInt ≤ 999) ∧ (ni_5_4).toInt = (iv 5 4).toInt) ∨ (r.toInt = -100004 ∧ (1 ≤ a.toInt ∧ a.toInt ≤ 999) ∧ 8 ≤ (iv 5 4).toInt ∧ (ni_5_4).toInt = (iv 5 4).toInt) ∨ ((1 ≤ a.toInt ∧ a.toInt ≤ 999) ∧ (iv 5 4).toInt < 8 ∧ r.toInt = (iv 5 4).toInt + 1 ∧ (ni_5_4).toInt = (iv 5 4).toInt + 1))) ∧ ((-100004) ≤ r.toInt ∧ r.toInt ≤ 8) ∧ u = ((u2 (u2 iv 5 4 ni_5_4) 5 6 ni_5_6), lv, (u2 fa 5 0 na_5_0), la)) (bX (dC, dI) h g ca (va_A (WX h g ca iv lv fa la) sz)) (va_A (WX h g ca iv lv fa la) sz)) 0 0 (va_A (WX h g ca iv lv fa la) sz) := by
  refine Met.ofW (cc := cX11_load) (maxL := 2) (ret := (some .int)) (by decide) rfl ?_
  intro p e s m args below meth c s₁ B hml hv
  obtain ⟨rfl, hsz, hP, hK, hD0⟩ := hv
  have hx := B.exec
  have hb := B.bytes
  have hr := B.returns
  have ht := tb_tl (atoms_spec (ws := wc yX11_load cX11_load 2 (some .int)) B.pre)
  have hown : s.vm.findClass RX11 = some m.cls := findClass_of_methodNamed B.named
  have hlocks := B.notSynchronized
  subst hsz
  have hD := hD0.self (sz := s.heap.size)
  generalize hAe : va_A (WX h g ca iv lv fa la) s.heap.size = A at hD ⊢
  have hA : ∀ q : Nat, s.heap.size ≤ q → A q := fun q h => by rw [← hAe]; exact Or.inr h
  have hS : va_S A s.heap s.heap [] := va_S.rf
  have hl := lv_entry [.ref h, .int a] (n := 2) (Nat.le_of_ble_eq_true rfl)
  rw [lg_entry_eq]
  generalize (lg_sl [.ref h, .int a] ++ List.replicate (2 - (lg_sl [.ref h, .int a]).length) Slot.unset).toArray = ls at hl ⊢
  have hl : lv_has ls 2 [(0, .ref h), (1, .int a)] := hl
  refine lv_iload_n hx hb dX11_load_0 rfl (lv_at hl 1 rfl) ?_
  refine lv_iconst (v := 1) hx hb dX11_load_1 (by decide) ?_
  refine lv_sipush (v := 999) hx hb dX11_load_2 (by decide) ?_
  refine vp_callSi (W.runS (As := [.int a, .int 1, .int 999]) (rest := []) ⟨hx, hb, hml, hown, ht⟩ (c_X11_within l dC dI a 1 999 (a.toInt) (1) (999) (rfl : (a).toInt = _) (by decide : (1 : Int32).toInt = 1) (by decide : (999 : Int32).toInt = 999)) (kS 3 ht m_453 m_454 m_77 m_455 rfl rfl hd_X11_within_v ⟨Nat.le_of_ble_eq_true rfl, Nat.le_of_ble_eq_true rfl⟩) (sR noP (hK.sub (tys' := []) [] rfl)) rfl rfl hl.1 rfl (lv_room (Nat.le_of_ble_eq_true rfl)) dX11_load_5 ⟨Nat.le_of_ble_eq_true rfl, Nat.le_of_ble_eq_true rfl⟩) (fun r1 hr1 => ?_)
  rcases hr1 with ⟨rfl, fr1⟩ | ⟨rfl, fr1⟩
  · skip
    refine lv_if_ne (tgt := 14) hx hb dX11_load_8 (by decide) (fun c2 => ?_) (fun c2 => ?_)
    · skip
      refine lv_aload_n hx hb dX11_load_14 rfl (lv_at hl 0 rfl) ?_
      refine va_get (D := (dC, dI)) (ci := 11) (v := .ref (g 11 7)) (fs := fX11 h g iv lv) (C := RX11) (T := TX11) (N := 11) hx hb ht inX11 hown hK hP 0 rfl rfl 7 (by decide) (ht _ m_422) (fun _ h9 => h9) rfl dX11_load_15 ?_
      have i_5_4 : 0 ≤ (iv 5 4).toInt ∧ (iv 5 4).toInt ≤ 8 := hI.1 5 4
      refine va_get (D := (dC, dI)) (ci := 5) (v := .int (iv 5 4)) (fs := fX5 h g iv lv) (C := RX5) (T := TX5) (N := 7) hx hb ht inX5 hown hK hP 8 rfl rfl 4 (by decide) (ht _ m_341) (fun _ h9 => h9) rfl dX11_load_18 ?_
      refine lv_bipush (v := 8) hx hb dX11_load_21 (by decide) ?_
      refine lv_icmp_lt (tgt := 31) hx hb dX11_load_23 (by decide) (fun c3 => ?_) (fun c3 => ?_)
      · have fc3 := z_lt (rfl : ((iv 5 4)).toInt = _) (by decide : (8 : Int32).toInt = 8) c3
        refine lv_aload_n hx hb dX11_load_31 rfl (lv_at hl 0 rfl) ?_
        refine va_get (D := (dC, dI)) (ci := 11) (v := .ref (g 11 7)) (fs := fX11 h g iv lv) (C := RX11) (T := TX11) (N := 11) hx hb ht inX11 hown hK hP 0 rfl rfl 7 (by decide) (ht _ m_422) (fun _ h9 => h9) rfl dX11_load_32 ?_
        refine lv_iload_n hx hb dX11_load_35 rfl (lv_at hl 1 rfl) ?_
        have hFc := free_all hD hS hA
        refine va_calli (va_runV (As := [.int a]) (rest := []) ⟨hx, hb, hml, hown, ht⟩ (c_X5_bring_x l dC dI s.heap.size h g ca iv lv fa la hI a (show 0 ≤ ((iv 5 4) : Int32).toInt ∧ ((iv 5 4) : Int32).toInt ≤ 7 from ⟨by omega, by omega⟩)) (kV 1 ht m_1005 m_1006 m_1007 m_86 m_1008 rfl rfl hd_X5_bring_v ⟨Nat.le_of_ble_eq_true rfl, Nat.le_of_ble_eq_true rfl⟩) (vW hP hK hD (va_recv hK hP (ci := 5) (q0 := 8) rfl rfl)) rfl rfl hl.1 rfl (lv_room (Nat.le_of_ble_eq_true rfl)) dX11_load_36 ⟨Nat.le_of_ble_eq_true rfl, Nat.le_of_ble_eq_true rfl⟩) hS (fun q _ h => hFc q h) hFc (fun r4 u t H1 locs ht9 hvm hr4 hB hz1 hk1 hS => ?_)
        obtain ⟨n5, n6, n7, hn6, dn6, xr4_0, hr4, rfl⟩ := hr4
        have hn5 : ∀ j, inb (bA 5 0 j) (n5 j) := fun j => full_i _
        have dn6 : n6.toInt = ((iv 5 4) : Int32).toInt + 1 := dn6
        have hn6 : 0 ≤ n6.toInt ∧ n6.toInt ≤ 8 := hn6
        obtain ⟨hP, hD⟩ := hB
        rw [ht9] at hP
        generalize H1 = H at hP hS ⊢
        have hP : va_P (dC, dI) classes (WX h g ca (u2 (u2 iv 5 4 n6) 5 6 n7) lv (u2 fa 5 0 n5) la) H := hP
        have hD : va_D A (WX h g ca (u2 (u2 iv 5 4 n6) 5 6 n7) lv (u2 fa 5 0 n5) la) := (show va_D _ (WX h g ca (u2 (u2 iv 5 4 n6) 5 6 n7) lv (u2 fa 5 0 n5) la) from hD).weaken (fun _ _ _ h => hFc _ h)
        have xr4_0 : (r4 : Int32).toInt = ((iv 5 4) : Int32).toInt + 1 := xr4_0
        have hP9 : va_P (dC, dI) classes (WX h g ca (u2 (u2 iv 5 4 n6) 5 6 n7) lv (u2 fa 5 0 n5) la) H := hP
        have hD9 : va_D A (WX h g ca (u2 (u2 iv 5 4 n6) 5 6 n7) lv (u2 fa 5 0 n5) la) := hD
        exact W.iret (v := r4) hx hb hr (fun t ht9 hW => ⟨⟨r4, ((u2 (u2 iv 5 4 n6) 5 6 n7), lv, (u2 fa 5 0 n5), la), rfl, ⟨n5, n6, n7, (show inb (0, 8) n6 from ⟨by omega, by omega⟩), (show (((r4 : Int32).toInt = -100002 ∧ ¬ (1 ≤ (a).toInt ∧ (a).toInt ≤ 999) ∧ (n6 : Int32).toInt = (iv 5 4).toInt) ∨ ((r4 : Int32).toInt = -100004 ∧ (1 ≤ (a).toInt ∧ (a).toInt ≤ 999) ∧ 8 ≤ (iv 5 4).toInt ∧ (n6 : Int32).toInt = (iv 5 4).toInt) ∨ ((1 ≤ (a).toInt ∧ (a).toInt ≤ 999) ∧ (iv 5 4).toInt < 8 ∧ (r4 : Int32).toInt = (iv 5 4).toInt + 1 ∧ (n6 : Int32).toInt = (iv 5 4).toInt + 1)) from by omega), ⟨by omega, by omega⟩, rfl⟩, by rw [ht9]; exact hP9, hD9⟩, hS.F ht9⟩) hS.2.2 dX11_load_39
      · have fc3 := z_nlt (rfl : ((iv 5 4)).toInt = _) (by decide : (8 : Int32).toInt = 8) c3
        refine lv_ldc hx hb hown (ht _ m_463) dX11_load_26 ?_
        refine lv_goto (tgt := 39) hx hb dX11_load_28 (by decide) ?_
        have : ((-100004) : Int32).toInt = (-100004) := (by decide)
        have hP9 : va_P (dC, dI) classes (WX h g ca (u2 (u2 iv 5 4 (iv 5 4)) 5 6 (iv 5 6)) lv (u2 fa 5 0 (fa 5 0)) la) s.heap := hP
        have hD9 : va_D A (WX h g ca (u2 (u2 iv 5 4 (iv 5 4)) 5 6 (iv 5 6)) lv (u2 fa 5 0 (fa 5 0)) la) := hD
        exact W.iret (v := (-100004)) hx hb hr (fun t ht9 hW => ⟨⟨(-100004), ((u2 (u2 iv 5 4 (iv 5 4)) 5 6 (iv 5 6)), lv, (u2 fa 5 0 (fa 5 0)), la), rfl, ⟨(fa 5 0), (iv 5 4), (iv 5 6), (hI.1 5 4), (show ((((-100004) : Int32).toInt = -100002 ∧ ¬ (1 ≤ (a).toInt ∧ (a).toInt ≤ 999) ∧ ((iv 5 4) : Int32).toInt = (iv 5 4).toInt) ∨ (((-100004) : Int32).toInt = -100004 ∧ (1 ≤ (a).toInt ∧ (a).toInt ≤ 999) ∧ 8 ≤ (iv 5 4).toInt ∧ ((iv 5 4) : Int32).toInt = (iv 5 4).toInt) ∨ ((1 ≤ (a).toInt ∧ (a).toInt ≤ 999) ∧ (iv 5 4).toInt < 8 ∧ ((-100004) : Int32).toInt = (iv 5 4).toInt + 1 ∧ ((iv 5 4) : Int32).toInt = (iv 5 4).toInt + 1)) from by omega), ⟨by decide, by decide⟩, rfl⟩, by rw [ht9]; exact hP9, hD9⟩, hS.F ht9⟩) hS.2.2 dX11_load_39
    · exact absurd c2 (by decide)
  · skip
    refine lv_if_ne (tgt := 14) hx hb dX11_load_8 (by decide) (fun c8 => ?_) (fun c8 => ?_)
    · exact absurd rfl c8
    · skip
      refine lv_ldc hx hb hown (ht _ m_456) dX11_load_11 ?_
      have : ((-100002) : Int32).toInt = (-100002) := (by decide)
      have i_5_4 : 0 ≤ (iv 5 4).toInt ∧ (iv 5 4).toInt ≤ 8 := hI.1 5 4
      have hP9 : va_P (dC, dI) classes (WX h g ca (u2 (u2 iv 5 4 (iv 5 4)) 5 6 (iv 5 6)) lv (u2 fa 5 0 (fa 5 0)) la) s.heap := hP
      have hD9 : va_D A (WX h g ca (u2 (u2 iv 5 4 (iv 5 4)) 5 6 (iv 5 6)) lv (u2 fa 5 0 (fa 5 0)) la) := hD
      exact W.iret (v := (-100002)) hx hb hr (fun t ht9 hW => ⟨⟨(-100002), ((u2 (u2 iv 5 4 (iv 5 4)) 5 6 (iv 5 6)), lv, (u2 fa 5 0 (fa 5 0)), la), rfl, ⟨(fa 5 0), (iv 5 4), (iv 5 6), (hI.1 5 4), (show ((((-100002) : Int32).toInt = -100002 ∧ ¬ (1 ≤ (a).toInt ∧ (a).toInt ≤ 999) ∧ ((iv 5 4) : Int32).toInt = (iv 5 4).toInt) ∨ (((-100002) : Int32).toInt = -100004 ∧ (1 ≤ (a).toInt ∧ (a).toInt ≤ 999) ∧ 8 ≤ (iv 5 4).toInt ∧ ((iv 5 4) : Int32).toInt = (iv 5 4).toInt) ∨ ((1 ≤ (a).toInt ∧ (a).toInt ≤ 999) ∧ (iv 5 4).toInt < 8 ∧ ((-100002) : Int32).toInt = (iv 5 4).toInt + 1 ∧ ((iv 5 4) : Int32).toInt = (iv 5 4).toInt + 1)) from by omega), ⟨by decide, by decide⟩, rfl⟩, by rw [ht9]; exact hP9, hD9⟩, hS.F ht9⟩) hS.2.2 dX11_load_13
set_option maxHeartbeats 4000000 in
set_option maxRecDepth 100000 in
/-- X12_load -/
theorem c_X12_load_x (l : Launch) (dC : Nat → ClassId) (dI : Nat → Nat → Nat) (sz : Nat) (h : Nat) (g : Nat → Nat → Nat) (ca : Nat → Nat → ClassId) (iv : Nat → Nat → Int32) (lv : Nat → Nat → Int64) (fa : Nat → Nat → Nat → Int32) (la : Nat → Nat → Nat → Int64) (hI : IX iv fa) (a : Int32) : Met l yX12_load (wc yX12_load cX12_load 2 (some .int)) ({ frames := 1, cells := 0, slots := 0, locals := 25 } : Room) (pW (dC, dI) classes (WM h g ca iv lv fa la) (TM ca) sz [.ref h, .int a]) (va_Qi (fun r (u : SS) => ∃ (na_12_58 : Nat → Int32) (ni_12_57 : Int32), inb (bI 12 57) ni_12_57 ∧ (((r.toInt = -100002 ∧ ¬ (1 ≤ a.toInt ∧ a.toInt ≤ 999) ∧ (ni_12_57).toInt = (iv 12 57).toInt) ∨ (r.toInt = -100004 ∧ (1 ≤ a.toInt ∧ a.toInt ≤ 999) ∧ 8 ≤ (iv 12 57).toInt ∧ (ni_12_57).toInt = (iv 12 57).toInt) ∨ ((1 ≤ a.toInt ∧ a.toInt ≤ 999) ∧ (iv 12 57).toInt < 8 ∧ r.toInt = (iv 12 57).toInt + 1 ∧ (ni_12_57).toInt = (iv 12 57).toInt + 1))) ∧ ((-100004) ≤ r.toInt ∧ r.toInt ≤ 8) ∧ u = ((u2 iv 12 57 ni_12_57), lv, (u2 fa 12 58 na_12_58), la)) (bM (dC, dI) h g ca (va_A (WM h g ca iv lv fa la) sz)) (va_A (WM h g ca iv lv fa la) sz)) 0 0 (va_A (WM h g ca iv lv fa la) sz) := by
  refine Met.ofW (cc := cX12_load) (maxL := 2) (ret := (some .int)) (by decide) rfl ?_
  intro p e s m args below meth c s₁ B hml hv
  obtain ⟨rfl, hsz, hP, hK, hD0⟩ := hv
  have hx := B.exec
  have hb := B.bytes
  have hr := B.returns
  have ht := tb_tl (atoms_spec (ws := wc yX12_load cX12_load 2 (some .int)) B.pre)
  have hown : s.vm.findClass RX12 = some m.cls := findClass_of_methodNamed B.named
  have hlocks := B.notSynchronized
  subst hsz
  have hD := hD0.self (sz := s.heap.size)
  generalize hAe : va_A (WM h g ca iv lv fa la) s.heap.size = A at hD ⊢
  have hA : ∀ q : Nat, s.heap.size ≤ q → A q := fun q h => by rw [← hAe]; exact Or.inr h
  have hS : va_S A s.heap s.heap [] := va_S.rf
  have hl := lv_entry [.ref h, .int a] (n := 2) (Nat.le_of_ble_eq_true rfl)
  rw [lg_entry_eq]
  generalize (lg_sl [.ref h, .int a] ++ List.replicate (2 - (lg_sl [.ref h, .int a]).length) Slot.unset).toArray = ls at hl ⊢
  have hl : lv_has ls 2 [(0, .ref h), (1, .int a)] := hl
  refine lv_iload_n hx hb dX12_load_0 rfl (lv_at hl 1 rfl) ?_
  refine lv_i2l (v := (a.toInt64)) hx hb dX12_load_1 rfl ?_
  refine lv_lconst (v := 1) hx hb dX12_load_2 (by decide) ?_
  refine lv_ldc2 hx hb hown (ht _ m_1369) dX12_load_3 ?_
  refine vp_callSi (W.runS (As := [.long (a.toInt64), .long 1, .long 999]) (rest := []) ⟨hx, hb, hml, hown, ht⟩ (c_X12_in l dC dI (a.toInt64) 1 999 (a.toInt) (1) (999) ((Int32.toInt_toInt64 a).trans rfl) (by decide : (1 : Int64).toInt = 1) (by decide : (999 : Int64).toInt = 999)) (kS 3 ht m_1370 m_1371 m_89 m_1372 rfl rfl hd_X12_in_v ⟨Nat.le_of_ble_eq_true rfl, Nat.le_of_ble_eq_true rfl⟩) (sR noP (hK.sub (tys' := []) [] rfl)) rfl rfl hl.1 rfl (lv_room (Nat.le_of_ble_eq_true rfl)) dX12_load_6 ⟨Nat.le_of_ble_eq_true rfl, Nat.le_of_ble_eq_true rfl⟩) (fun r1 hr1 => ?_)
  rcases hr1 with ⟨rfl, fr1⟩ | ⟨rfl, fr1⟩
  · skip
    refine lv_if_ne (tgt := 15) hx hb dX12_load_9 (by decide) (fun c2 => ?_) (fun c2 => ?_)
    · skip
      refine lv_aload_n hx hb dX12_load_15 rfl (lv_at hl 0 rfl) ?_
      have i_12_57 : 0 ≤ (iv 12 57).toInt ∧ (iv 12 57).toInt ≤ 8 := hI.1 12 57
      refine va_get (D := (dC, dI)) (ci := 12) (v := .int (iv 12 57)) (fs := fM12 h g iv lv) (C := RX12) (T := TX12) (N := 75) hx hb ht inX12 hown hK hP 0 rfl rfl 57 (by decide) (ht _ m_1196) (fun _ h9 => h9) rfl dX12_load_16 ?_
      refine lv_bipush (v := 8) hx hb dX12_load_19 (by decide) ?_
      refine lv_icmp_ne (tgt := 27) hx hb dX12_load_21 (by decide) (fun c3 => ?_) (fun c3 => ?_)
      · have fc3 := z_ne (rfl : ((iv 12 57)).toInt = _) (by decide : (8 : Int32).toInt = 8) c3
        refine lv_aload_n hx hb dX12_load_27 rfl (lv_at hl 0 rfl) ?_
        refine va_get (D := (dC, dI)) (ci := 12) (v := .ref (g 12 58)) (fs := fM12 h g iv lv) (C := RX12) (T := TX12) (N := 75) hx hb ht inX12 hown hK hP 0 rfl rfl 58 (by decide) (ht _ m_1197) (fun _ h9 => h9) rfl dX12_load_28 ?_
        refine lv_aload_n hx hb dX12_load_31 rfl (lv_at hl 0 rfl) ?_
        refine va_get (D := (dC, dI)) (ci := 12) (v := .int (iv 12 57)) (fs := fM12 h g iv lv) (C := RX12) (T := TX12) (N := 75) hx hb ht inX12 hown hK hP 0 rfl rfl 57 (by decide) (ht _ m_1196) (fun _ h9 => h9) rfl dX12_load_32 ?_
        refine lv_iload_n hx hb dX12_load_35 rfl (lv_at hl 1 rfl) ?_
        refine va_iast (D := (dC, dI)) hx hb hK hP hD hS 35 34 (f := (fa 12 58)) rfl rfl (vp_in_iff.mpr ⟨by omega, by omega⟩) dX12_load_36 (fun H locs hP hD hS => ?_)
        rw [aM_12_58] at hP hD
        obtain ⟨f4, ef4⟩ : ∃ f : Nat → Int32, f = upd (fa 12 58) (((iv 12 57) : Int32).toNatClampNeg) a := ⟨_, rfl⟩
        rw [← ef4] at hP hD
        have hf4 : ∀ j, inb (bA 12 58 j) (f4 j) := fun j => full_i _
        refine lv_aload_n hx hb dX12_load_37 rfl (lv_at hl 0 rfl) ?_
        refine lv_dup hx hb dX12_load_38 rfl ?_
        refine va_get (D := (dC, dI)) (ci := 12) (v := .int (iv 12 57)) (fs := fM12 h g iv lv) (C := RX12) (T := TX12) (N := 75) hx hb ht inX12 hown hK hP 0 rfl rfl 57 (by decide) (ht _ m_1196) (fun _ h9 => h9) rfl dX12_load_39 ?_
        refine lv_iconst (v := 1) hx hb dX12_load_42 (by decide) ?_
        refine lv_iadd hx hb dX12_load_43 ?_
        refine lv_topi (fun v5 ev5 => ?_)
        have tv5 := z_add ev5 (rfl : ((iv 12 57)).toInt = _) (by decide : (1 : Int32).toInt = 1) (by omega) (by omega)
        refine va_put (D := (dC, dI)) (ci := 12) (v := .int v5) (ty := (.int)) (fs := fM12 h g iv lv) (C := RX12) (T := TX12) (N := 75) hx hb ht inX12 tyX12 tyX12_ok nmX12 hown hK hP hD hS 0 rfl rfl 57 (by decide) (ht _ m_1196) (fun _ h9 => h9) rfl (by decide +kernel) rfl rfl (Nat.le_of_ble_eq_true rfl) dX12_load_44 (fun H locs hP hD hS => ?_)
        rw [sM_12_57] at hP hD
        refine lv_aload_n hx hb dX12_load_47 rfl (lv_at hl 0 rfl) ?_
        refine va_get (D := (dC, dI)) (ci := 12) (v := .int v5) (fs := fM12 h g (u2 iv 12 57 v5) lv) (C := RX12) (T := TX12) (N := 75) hx hb ht inX12 hown hK hP 0 rfl rfl 57 (by decide) (ht _ m_1196) (fun _ h9 => h9) rfl dX12_load_48 ?_
        have hP9 : va_P (dC, dI) classes (WM h g ca (u2 iv 12 57 v5) lv (u2 fa 12 58 f4) la) H := hP
        have hD9 : va_D A (WM h g ca (u2 iv 12 57 v5) lv (u2 fa 12 58 f4) la) := hD
        exact W.iret (v := v5) hx hb hr (fun t ht9 hW => ⟨⟨v5, ((u2 iv 12 57 v5), lv, (u2 fa 12 58 f4), la), rfl, ⟨f4, v5, (show inb (0, 8) v5 from ⟨by omega, by omega⟩), (show (((v5 : Int32).toInt = -100002 ∧ ¬ (1 ≤ (a).toInt ∧ (a).toInt ≤ 999) ∧ (v5 : Int32).toInt = (iv 12 57).toInt) ∨ ((v5 : Int32).toInt = -100004 ∧ (1 ≤ (a).toInt ∧ (a).toInt ≤ 999) ∧ 8 ≤ (iv 12 57).toInt ∧ (v5 : Int32).toInt = (iv 12 57).toInt) ∨ ((1 ≤ (a).toInt ∧ (a).toInt ≤ 999) ∧ (iv 12 57).toInt < 8 ∧ (v5 : Int32).toInt = (iv 12 57).toInt + 1 ∧ (v5 : Int32).toInt = (iv 12 57).toInt + 1)) from by omega), ⟨by omega, by omega⟩, rfl⟩, by rw [ht9]; exact hP9, hD9⟩, hS.F ht9⟩) hS.2.2 dX12_load_51
      · have fc3 := z_eq (rfl : ((iv 12 57)).toInt = _) (by decide : (8 : Int32).toInt = 8) c3
        refine lv_ldc hx hb hown (ht _ m_1380) dX12_load_24 ?_
        have : ((-100004) : Int32).toInt = (-100004) := (by decide)
        have hP9 : va_P (dC, dI) classes (WM h g ca (u2 iv 12 57 (iv 12 57)) lv (u2 fa 12 58 (fa 12 58)) la) s.heap := hP
        have hD9 : va_D A (WM h g ca (u2 iv 12 57 (iv 12 57)) lv (u2 fa 12 58 (fa 12 58)) la) := hD
        exact W.iret (v := (-100004)) hx hb hr (fun t ht9 hW => ⟨⟨(-100004), ((u2 iv 12 57 (iv 12 57)), lv, (u2 fa 12 58 (fa 12 58)), la), rfl, ⟨(fa 12 58), (iv 12 57), (hI.1 12 57), (show ((((-100004) : Int32).toInt = -100002 ∧ ¬ (1 ≤ (a).toInt ∧ (a).toInt ≤ 999) ∧ ((iv 12 57) : Int32).toInt = (iv 12 57).toInt) ∨ (((-100004) : Int32).toInt = -100004 ∧ (1 ≤ (a).toInt ∧ (a).toInt ≤ 999) ∧ 8 ≤ (iv 12 57).toInt ∧ ((iv 12 57) : Int32).toInt = (iv 12 57).toInt) ∨ ((1 ≤ (a).toInt ∧ (a).toInt ≤ 999) ∧ (iv 12 57).toInt < 8 ∧ ((-100004) : Int32).toInt = (iv 12 57).toInt + 1 ∧ ((iv 12 57) : Int32).toInt = (iv 12 57).toInt + 1)) from by omega), ⟨by decide, by decide⟩, rfl⟩, by rw [ht9]; exact hP9, hD9⟩, hS.F ht9⟩) hS.2.2 dX12_load_26
    · exact absurd c2 (by decide)
  · skip
    refine lv_if_ne (tgt := 15) hx hb dX12_load_9 (by decide) (fun c6 => ?_) (fun c6 => ?_)
    · exact absurd rfl c6
    · skip
      refine lv_ldc hx hb hown (ht _ m_1373) dX12_load_12 ?_
      have : ((-100002) : Int32).toInt = (-100002) := (by decide)
      have i_12_57 : 0 ≤ (iv 12 57).toInt ∧ (iv 12 57).toInt ≤ 8 := hI.1 12 57
      have hP9 : va_P (dC, dI) classes (WM h g ca (u2 iv 12 57 (iv 12 57)) lv (u2 fa 12 58 (fa 12 58)) la) s.heap := hP
      have hD9 : va_D A (WM h g ca (u2 iv 12 57 (iv 12 57)) lv (u2 fa 12 58 (fa 12 58)) la) := hD
      exact W.iret (v := (-100002)) hx hb hr (fun t ht9 hW => ⟨⟨(-100002), ((u2 iv 12 57 (iv 12 57)), lv, (u2 fa 12 58 (fa 12 58)), la), rfl, ⟨(fa 12 58), (iv 12 57), (hI.1 12 57), (show ((((-100002) : Int32).toInt = -100002 ∧ ¬ (1 ≤ (a).toInt ∧ (a).toInt ≤ 999) ∧ ((iv 12 57) : Int32).toInt = (iv 12 57).toInt) ∨ (((-100002) : Int32).toInt = -100004 ∧ (1 ≤ (a).toInt ∧ (a).toInt ≤ 999) ∧ 8 ≤ (iv 12 57).toInt ∧ ((iv 12 57) : Int32).toInt = (iv 12 57).toInt) ∨ ((1 ≤ (a).toInt ∧ (a).toInt ≤ 999) ∧ (iv 12 57).toInt < 8 ∧ ((-100002) : Int32).toInt = (iv 12 57).toInt + 1 ∧ ((iv 12 57) : Int32).toInt = (iv 12 57).toInt + 1)) from by omega), ⟨by decide, by decide⟩, rfl⟩, by rw [ht9]; exact hP9, hD9⟩, hS.F ht9⟩) hS.2.2 dX12_load_14
set_option maxHeartbeats 4000000 in
set_option maxRecDepth 100000 in
/-- X5_clear -/
theorem c_X5_clear_x (l : Launch) (dC : Nat → ClassId) (dI : Nat → Nat → Nat) (sz : Nat) (h : Nat) (g : Nat → Nat → Nat) (ca : Nat → Nat → ClassId) (iv : Nat → Nat → Int32) (lv : Nat → Nat → Int64) (fa : Nat → Nat → Nat → Int32) (la : Nat → Nat → Nat → Int64) (hI : IX iv fa) : Met l yX5_clear (wc yX5_clear cX5_clear 2 (some .int)) ({ frames := 0, cells := 0, slots := 0, locals := 0 } : Room) (pW (dC, dI) classes (WX h g ca iv lv fa la) (TX ca) sz [.ref (g 11 7)]) (va_Qi (fun r (u : SS) => ∃ (ni_5_4 : Int32) (ni_5_6 : Int32), inb (bI 5 4) ni_5_4 ∧ (r.toInt = (iv 5 4).toInt) ∧ ((ni_5_4).toInt = 0) ∧ (0 ≤ r.toInt ∧ r.toInt ≤ 8) ∧ u = ((u2 (u2 iv 5 4 ni_5_4) 5 6 ni_5_6), lv, fa, la)) (bX (dC, dI) h g ca (va_A (WX h g ca iv lv fa la) sz)) (va_A (WX h g ca iv lv fa la) sz)) 0 0 (va_A (WX h g ca iv lv fa la) sz) := by
  refine Met.ofW (cc := cX5_clear) (maxL := 2) (ret := (some .int)) (by decide) rfl ?_
  intro p e s m args below meth c s₁ B hml hv
  obtain ⟨rfl, hsz, hP, hK, hD0⟩ := hv
  have hx := B.exec
  have hb := B.bytes
  have hr := B.returns
  have ht := tb_tl (atoms_spec (ws := wc yX5_clear cX5_clear 2 (some .int)) B.pre)
  have hown : s.vm.findClass RX5 = some m.cls := findClass_of_methodNamed B.named
  have hlocks := B.notSynchronized
  subst hsz
  have hD := hD0.self (sz := s.heap.size)
  generalize hAe : va_A (WX h g ca iv lv fa la) s.heap.size = A at hD ⊢
  have hA : ∀ q : Nat, s.heap.size ≤ q → A q := fun q h => by rw [← hAe]; exact Or.inr h
  have hS : va_S A s.heap s.heap [] := va_S.rf
  have hl := lv_entry [.ref (g 11 7)] (n := 2) (Nat.le_of_ble_eq_true rfl)
  rw [lg_entry_eq]
  generalize (lg_sl [.ref (g 11 7)] ++ List.replicate (2 - (lg_sl [.ref (g 11 7)]).length) Slot.unset).toArray = ls at hl ⊢
  have hl : lv_has ls 2 [(0, .ref (g 11 7))] := hl
  refine lv_aload_n hx hb dX5_clear_0 rfl (lv_at hl 0 rfl) ?_
  have i_5_4 : 0 ≤ (iv 5 4).toInt ∧ (iv 5 4).toInt ≤ 8 := hI.1 5 4
  refine va_get (D := (dC, dI)) (ci := 5) (v := .int (iv 5 4)) (fs := fX5 h g iv lv) (C := RX5) (T := TX5) (N := 7) hx hb ht inX5 hown hK hP 8 rfl rfl 4 (by decide) (ht _ m_340) (fun _ h9 => h9) rfl dX5_clear_1 ?_
  refine lv_istore_n (lv' := [(1, .int (iv 5 4)), (0, .ref (g 11 7))]) hx hb dX5_clear_4 rfl hl (by decide) rfl (fun ls hl => ?_)
  refine lv_aload_n hx hb dX5_clear_5 rfl (lv_at hl 1 rfl) ?_
  refine lv_iconst (v := 0) hx hb dX5_clear_6 (by decide) ?_
  refine va_put (D := (dC, dI)) (ci := 5) (v := .int 0) (ty := (.int)) (fs := fX5 h g iv lv) (C := RX5) (T := TX5) (N := 7) hx hb ht inX5 tyX5 tyX5_ok nmX5 hown hK hP hD hS 8 rfl rfl 4 (by decide) (ht _ m_340) (fun _ h9 => h9) rfl (by decide +kernel) rfl rfl (Nat.le_of_ble_eq_true rfl) dX5_clear_7 (fun H locs hP hD hS => ?_)
  rw [sX_5_4] at hP hD
  refine lv_aload_n hx hb dX5_clear_10 rfl (lv_at hl 1 rfl) ?_
  refine lv_iconst (v := 0) hx hb dX5_clear_11 (by decide) ?_
  refine va_put (D := (dC, dI)) (ci := 5) (v := .int 0) (ty := (.int)) (fs := fX5 h g (u2 iv 5 4 0) lv) (C := RX5) (T := TX5) (N := 7) hx hb ht inX5 tyX5 tyX5_ok nmX5 hown hK hP hD hS 8 rfl rfl 6 (by decide) (ht _ m_344) (fun _ h9 => h9) rfl (by decide +kernel) rfl rfl (Nat.le_of_ble_eq_true rfl) dX5_clear_12 (fun H locs hP hD hS => ?_)
  rw [sX_5_6] at hP hD
  refine lv_iload_n hx hb dX5_clear_15 rfl (lv_at hl 0 rfl) ?_
  have : (0 : Int32).toInt = 0 := (by decide)
  have hP9 : va_P (dC, dI) classes (WX h g ca (u2 (u2 iv 5 4 0) 5 6 0) lv fa la) H := hP
  have hD9 : va_D A (WX h g ca (u2 (u2 iv 5 4 0) 5 6 0) lv fa la) := hD
  exact W.iret (v := (iv 5 4)) hx hb hr (fun t ht9 hW => ⟨⟨(iv 5 4), ((u2 (u2 iv 5 4 0) 5 6 0), lv, fa, la), rfl, ⟨0, 0, (show inb (0, 8) 0 from ⟨by decide, by decide⟩), (show ((iv 5 4) : Int32).toInt = (iv 5 4).toInt from by omega), (show (0 : Int32).toInt = 0 from by omega), ⟨by omega, by omega⟩, rfl⟩, by rw [ht9]; exact hP9, hD9⟩, hS.F ht9⟩) hS.2.2 dX5_clear_16
set_option maxHeartbeats 4000000 in
set_option maxRecDepth 100000 in
/-- X11_empty -/
theorem c_X11_empty_x (l : Launch) (dC : Nat → ClassId) (dI : Nat → Nat → Nat) (sz : Nat) (h : Nat) (g : Nat → Nat → Nat) (ca : Nat → Nat → ClassId) (iv : Nat → Nat → Int32) (lv : Nat → Nat → Int64) (fa : Nat → Nat → Nat → Int32) (la : Nat → Nat → Nat → Int64) (hI : IX iv fa) : Met l yX11_empty (wc yX11_empty cX11_empty 1 (some .int)) ({ frames := 1, cells := 0, slots := 0, locals := 21 } : Room) (pW (dC, dI) classes (WX h g ca iv lv fa la) (TX ca) sz [.ref h]) (va_Qi (fun r (u : SS) => ∃ (ni_5_4 : Int32) (ni_5_6 : Int32), inb (bI 5 4) ni_5_4 ∧ ((r.toInt = (iv 5 4).toInt ∧ (ni_5_4).toInt = 0)) ∧ (0 ≤ r.toInt ∧ r.toInt ≤ 8) ∧ u = ((u2 (u2 iv 5 4 ni_5_4) 5 6 ni_5_6), lv, fa, la)) (bX (dC, dI) h g ca (va_A (WX h g ca iv lv fa la) sz)) (va_A (WX h g ca iv lv fa la) sz)) 0 0 (va_A (WX h g ca iv lv fa la) sz) := by
  refine Met.ofW (cc := cX11_empty) (maxL := 1) (ret := (some .int)) (by decide) rfl ?_
  intro p e s m args below meth c s₁ B hml hv
  obtain ⟨rfl, hsz, hP, hK, hD0⟩ := hv
  have hx := B.exec
  have hb := B.bytes
  have hr := B.returns
  have ht := tb_tl (atoms_spec (ws := wc yX11_empty cX11_empty 1 (some .int)) B.pre)
  have hown : s.vm.findClass RX11 = some m.cls := findClass_of_methodNamed B.named
  have hlocks := B.notSynchronized
  subst hsz
  have hD := hD0.self (sz := s.heap.size)
  generalize hAe : va_A (WX h g ca iv lv fa la) s.heap.size = A at hD ⊢
  have hA : ∀ q : Nat, s.heap.size ≤ q → A q := fun q h => by rw [← hAe]; exact Or.inr h
  have hS : va_S A s.heap s.heap [] := va_S.rf
  have hl := lv_entry [.ref h] (n := 1) (Nat.le_of_ble_eq_true rfl)
  rw [lg_entry_eq]
  generalize (lg_sl [.ref h] ++ List.replicate (1 - (lg_sl [.ref h]).length) Slot.unset).toArray = ls at hl ⊢
  have hl : lv_has ls 1 [(0, .ref h)] := hl
  refine lv_aload_n hx hb dX11_empty_0 rfl (lv_at hl 0 rfl) ?_
  refine va_get (D := (dC, dI)) (ci := 11) (v := .ref (g 11 7)) (fs := fX11 h g iv lv) (C := RX11) (T := TX11) (N := 11) hx hb ht inX11 hown hK hP 0 rfl rfl 7 (by decide) (ht _ m_422) (fun _ h9 => h9) rfl dX11_empty_1 ?_
  have i_5_4 : 0 ≤ (iv 5 4).toInt ∧ (iv 5 4).toInt ≤ 8 := hI.1 5 4
  have hFc := free_all hD hS hA
  refine va_calli (va_runV (As := []) (rest := []) ⟨hx, hb, hml, hown, ht⟩ (c_X5_clear_x l dC dI s.heap.size h g ca iv lv fa la hI) (kV 0 ht m_1030 m_1031 m_1032 m_86 m_1033 rfl rfl hd_X5_clear_v ⟨Nat.le_of_ble_eq_true rfl, Nat.le_of_ble_eq_true rfl⟩) (vW hP hK hD (va_recv hK hP (ci := 5) (q0 := 8) rfl rfl)) rfl rfl hl.1 rfl (lv_room (Nat.le_of_ble_eq_true rfl)) dX11_empty_4 ⟨Nat.le_of_ble_eq_true rfl, Nat.le_of_ble_eq_true rfl⟩) hS (fun q _ h => hFc q h) hFc (fun r1 u t H1 locs ht9 hvm hr1 hB hz1 hk1 hS => ?_)
  obtain ⟨n2, n3, hn2, xr1_0, xr1_1, hr1, rfl⟩ := hr1
  have hn2 : 0 ≤ n2.toInt ∧ n2.toInt ≤ 8 := hn2
  obtain ⟨hP, hD⟩ := hB
  rw [ht9] at hP
  generalize H1 = H at hP hS ⊢
  have hP : va_P (dC, dI) classes (WX h g ca (u2 (u2 iv 5 4 n2) 5 6 n3) lv fa la) H := hP
  have hD : va_D A (WX h g ca (u2 (u2 iv 5 4 n2) 5 6 n3) lv fa la) := (show va_D _ (WX h g ca (u2 (u2 iv 5 4 n2) 5 6 n3) lv fa la) from hD).weaken (fun _ _ _ h => hFc _ h)
  have xr1_0 : (r1 : Int32).toInt = ((iv 5 4) : Int32).toInt := xr1_0
  have xr1_1 : (n2 : Int32).toInt = 0 := xr1_1
  have hP9 : va_P (dC, dI) classes (WX h g ca (u2 (u2 iv 5 4 n2) 5 6 n3) lv fa la) H := hP
  have hD9 : va_D A (WX h g ca (u2 (u2 iv 5 4 n2) 5 6 n3) lv fa la) := hD
  exact W.iret (v := r1) hx hb hr (fun t ht9 hW => ⟨⟨r1, ((u2 (u2 iv 5 4 n2) 5 6 n3), lv, fa, la), rfl, ⟨n2, n3, (show inb (0, 8) n2 from ⟨by omega, by omega⟩), (show ((r1 : Int32).toInt = (iv 5 4).toInt ∧ (n2 : Int32).toInt = 0) from by omega), ⟨by omega, by omega⟩, rfl⟩, by rw [ht9]; exact hP9, hD9⟩, hS.F ht9⟩) hS.2.2 dX11_empty_7
set_option maxHeartbeats 4000000 in
set_option maxRecDepth 100000 in
/-- X12_empty -/
theorem c_X12_empty_x (l : Launch) (dC : Nat → ClassId) (dI : Nat → Nat → Nat) (sz : Nat) (h : Nat) (g : Nat → Nat → Nat) (ca : Nat → Nat → ClassId) (iv : Nat → Nat → Int32) (lv : Nat → Nat → Int64) (fa : Nat → Nat → Nat → Int32) (la : Nat → Nat → Nat → Int64) (hI : IX iv fa) : Met l yX12_empty (wc yX12_empty cX12_empty 2 (some .int)) ({ frames := 0, cells := 0, slots := 0, locals := 0 } : Room) (pW (dC, dI) classes (WM h g ca iv lv fa la) (TM ca) sz [.ref h]) (va_Qi (fun r (u : SS) => ∃ (ni_12_57 : Int32), inb (bI 12 57) ni_12_57 ∧ ((r.toInt = (iv 12 57).toInt ∧ (ni_12_57).toInt = 0)) ∧ (0 ≤ r.toInt ∧ r.toInt ≤ 8) ∧ u = ((u2 iv 12 57 ni_12_57), lv, fa, la)) (bM (dC, dI) h g ca (va_A (WM h g ca iv lv fa la) sz)) (va_A (WM h g ca iv lv fa la) sz)) 0 0 (va_A (WM h g ca iv lv fa la) sz) := by
  refine Met.ofW (cc := cX12_empty) (maxL := 2) (ret := (some .int)) (by decide) rfl ?_
  intro p e s m args below meth c s₁ B hml hv
  obtain ⟨rfl, hsz, hP, hK, hD0⟩ := hv
  have hx := B.exec
  have hb := B.bytes
  have hr := B.returns
  have ht := tb_tl (atoms_spec (ws := wc yX12_empty cX12_empty 2 (some .int)) B.pre)
  have hown : s.vm.findClass RX12 = some m.cls := findClass_of_methodNamed B.named
  have hlocks := B.notSynchronized
  subst hsz
  have hD := hD0.self (sz := s.heap.size)
  generalize hAe : va_A (WM h g ca iv lv fa la) s.heap.size = A at hD ⊢
  have hA : ∀ q : Nat, s.heap.size ≤ q → A q := fun q h => by rw [← hAe]; exact Or.inr h
  have hS : va_S A s.heap s.heap [] := va_S.rf
  have hl := lv_entry [.ref h] (n := 2) (Nat.le_of_ble_eq_true rfl)
  rw [lg_entry_eq]
  generalize (lg_sl [.ref h] ++ List.replicate (2 - (lg_sl [.ref h]).length) Slot.unset).toArray = ls at hl ⊢
  have hl : lv_has ls 2 [(0, .ref h)] := hl
  refine lv_aload_n hx hb dX12_empty_0 rfl (lv_at hl 0 rfl) ?_
  have i_12_57 : 0 ≤ (iv 12 57).toInt ∧ (iv 12 57).toInt ≤ 8 := hI.1 12 57
  refine va_get (D := (dC, dI)) (ci := 12) (v := .int (iv 12 57)) (fs := fM12 h g iv lv) (C := RX12) (T := TX12) (N := 75) hx hb ht inX12 hown hK hP 0 rfl rfl 57 (by decide) (ht _ m_1196) (fun _ h9 => h9) rfl dX12_empty_1 ?_
  refine lv_istore_n (lv' := [(1, .int (iv 12 57)), (0, .ref h)]) hx hb dX12_empty_4 rfl hl (by decide) rfl (fun ls hl => ?_)
  refine lv_aload_n hx hb dX12_empty_5 rfl (lv_at hl 1 rfl) ?_
  refine lv_iconst (v := 0) hx hb dX12_empty_6 (by decide) ?_
  refine va_put (D := (dC, dI)) (ci := 12) (v := .int 0) (ty := (.int)) (fs := fM12 h g iv lv) (C := RX12) (T := TX12) (N := 75) hx hb ht inX12 tyX12 tyX12_ok nmX12 hown hK hP hD hS 0 rfl rfl 57 (by decide) (ht _ m_1196) (fun _ h9 => h9) rfl (by decide +kernel) rfl rfl (Nat.le_of_ble_eq_true rfl) dX12_empty_7 (fun H locs hP hD hS => ?_)
  rw [sM_12_57] at hP hD
  refine lv_iload_n hx hb dX12_empty_10 rfl (lv_at hl 0 rfl) ?_
  have : (0 : Int32).toInt = 0 := (by decide)
  have hP9 : va_P (dC, dI) classes (WM h g ca (u2 iv 12 57 0) lv fa la) H := hP
  have hD9 : va_D A (WM h g ca (u2 iv 12 57 0) lv fa la) := hD
  exact W.iret (v := (iv 12 57)) hx hb hr (fun t ht9 hW => ⟨⟨(iv 12 57), ((u2 iv 12 57 0), lv, fa, la), rfl, ⟨0, (show inb (0, 8) 0 from ⟨by decide, by decide⟩), (show (((iv 12 57) : Int32).toInt = (iv 12 57).toInt ∧ (0 : Int32).toInt = 0) from by omega), ⟨by omega, by omega⟩, rfl⟩, by rw [ht9]; exact hP9, hD9⟩, hS.F ht9⟩) hS.2.2 dX12_empty_11
