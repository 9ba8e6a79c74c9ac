/-! ===== go ===== -/
set_option maxHeartbeats 4000000 in
set_option maxRecDepth 100000 in
/-- X11_go -/
theorem c_X11_go_x (l : Launch) (dC : Nat → ClassId) (dI : Nat → Nat → Nat) (sz : Nat) (h : Nat) (g : Nat → Nat → Nat) (ca : Nat → Nat → ClassId) (iv : Nat → Nat → Int32) (lv : Nat → Nat → Int64) (fa : Nat → Nat → Nat → Int32) (la : Nat → Nat → Nat → Int64) (hI : IX iv fa) (n : Int32) : Met l yX11_go (wc yX11_go cX11_go 2 (some .int)) ({ frames := 1, cells := 0, slots := 0, locals := 22 } : Room) (pW (dC, dI) classes (WX h g ca iv lv fa la) (TX ca) sz [.ref h, .int n]) (va_Qi (fun r (u : SS) => ∃ (ni_11_10 : Int32), inb (bI 11 10) ni_11_10 ∧ (((r.toInt = -100002 ∧ ¬ (0 ≤ n.toInt ∧ n.toInt ≤ 999) ∧ (ni_11_10).toInt = (iv 11 10).toInt) ∨ (r.toInt = -100003 ∧ 0 ≤ n.toInt ∧ n.toInt ≤ 999 ∧ 3000 < (iv 11 10).toInt + n.toInt ∧ (ni_11_10).toInt = (iv 11 10).toInt) ∨ (0 ≤ n.toInt ∧ n.toInt ≤ 999 ∧ (iv 11 10).toInt + n.toInt ≤ 3000 ∧ r.toInt = (iv 11 10).toInt + n.toInt ∧ (ni_11_10).toInt = (iv 11 10).toInt + n.toInt))) ∧ ((-100003) ≤ r.toInt ∧ r.toInt ≤ 3000) ∧ u = ((u2 iv 11 10 ni_11_10), lv, fa, la)) (bX (dC, dI) h g ca (va_A (WX h g ca iv lv fa la) sz)) (va_A (WX h g ca iv lv fa la) sz)) 0 0 (va_A (WX h g ca iv lv fa la) sz) := by
  refine Met.ofW (cc := cX11_go) (maxL := 2) (ret := (some .int)) (by decide) rfl ?_
  intro p e s m args below meth c s₁ B hml hv
  obtain ⟨rfl, hsz, hP, hK, hD0⟩ := hv
  have hx := B.exec
  have hb := B.bytes
  have hr := B.returns
  have ht := tb_tl (atoms_spec (ws := wc yX11_go cX11_go 2 (some .int)) B.pre)
  have hown : s.vm.findClass RX11 = some m.cls := findClass_of_methodNamed B.named
  have hlocks := B.notSynchronized
  subst hsz
  have hD := hD0.self (sz := s.heap.size)
  generalize hAe : va_A (WX h g ca iv lv fa la) s.heap.size = A at hD ⊢
  have hA : ∀ q : Nat, s.heap.size ≤ q → A q := fun q h => by rw [← hAe]; exact Or.inr h
  have hS : va_S A s.heap s.heap [] := va_S.rf
  have hl := lv_entry [.ref h, .int n] (n := 2) (Nat.le_of_ble_eq_true rfl)
  rw [lg_entry_eq]
  generalize (lg_sl [.ref h, .int n] ++ List.replicate (2 - (lg_sl [.ref h, .int n]).length) Slot.unset).toArray = ls at hl ⊢
  have hl : lv_has ls 2 [(0, .ref h), (1, .int n)] := hl
  refine lv_iload_n hx hb dX11_go_0 rfl (lv_at hl 1 rfl) ?_
  refine lv_iconst (v := 0) hx hb dX11_go_1 (by decide) ?_
  refine lv_sipush (v := 999) hx hb dX11_go_2 (by decide) ?_
  refine vp_callSi (W.runS (As := [.int n, .int 0, .int 999]) (rest := []) ⟨hx, hb, hml, hown, ht⟩ (c_X11_within l dC dI n 0 999 (n.toInt) (0) (999) (rfl : (n).toInt = _) (by decide : (0 : Int32).toInt = 0) (by decide : (999 : Int32).toInt = 999)) (kS 3 ht m_453 m_454 m_77 m_455 rfl rfl hd_X11_within_v ⟨Nat.le_of_ble_eq_true rfl, Nat.le_of_ble_eq_true rfl⟩) (sR noP (hK.sub (tys' := []) [] rfl)) rfl rfl hl.1 rfl (lv_room (Nat.le_of_ble_eq_true rfl)) dX11_go_5 ⟨Nat.le_of_ble_eq_true rfl, Nat.le_of_ble_eq_true rfl⟩) (fun r1 hr1 => ?_)
  rcases hr1 with ⟨rfl, fr1⟩ | ⟨rfl, fr1⟩
  · skip
    refine lv_if_ne (tgt := 14) hx hb dX11_go_8 (by decide) (fun c2 => ?_) (fun c2 => ?_)
    · skip
      refine lv_aload_n hx hb dX11_go_14 rfl (lv_at hl 0 rfl) ?_
      have i_11_10 : 0 ≤ (iv 11 10).toInt ∧ (iv 11 10).toInt ≤ 3000 := hI.1 11 10
      refine gX_11_10 hx hb ht hown hK hP m_425 (v := (iv 11 10)) rfl dX11_go_15 ?_
      refine lv_iload_n hx hb dX11_go_18 rfl (lv_at hl 1 rfl) ?_
      refine lv_iadd hx hb dX11_go_19 ?_
      refine lv_topi (fun v3 ev3 => ?_)
      have tv3 := z_add ev3 (rfl : ((iv 11 10)).toInt = _) (rfl : (n).toInt = _) (by omega) (by omega)
      refine lv_sipush (v := 3000) hx hb dX11_go_20 (by decide) ?_
      refine lv_icmp_le (tgt := 29) hx hb dX11_go_23 (by decide) (fun c4 => ?_) (fun c4 => ?_)
      · have fc4 := z_le (rfl : (v3).toInt = _) (by decide : (3000 : Int32).toInt = 3000) c4
        refine lv_aload_n hx hb dX11_go_29 rfl (lv_at hl 0 rfl) ?_
        refine lv_dup hx hb dX11_go_30 rfl ?_
        refine gX_11_10 hx hb ht hown hK hP m_425 (v := (iv 11 10)) rfl dX11_go_31 ?_
        refine lv_iload_n hx hb dX11_go_34 rfl (lv_at hl 1 rfl) ?_
        refine lv_iadd hx hb dX11_go_35 ?_
        refine lv_topi (fun v5 ev5 => ?_)
        obtain rfl : v3 = v5 := ev3.trans ev5.symm
        refine pX_11_10 (v := v3) hx hb ht hown hK hP hD hS m_425 dX11_go_36 (fun H locs hP hD hS => ?_)
        refine lv_aload_n hx hb dX11_go_39 rfl (lv_at hl 0 rfl) ?_
        refine gX_11_10 hx hb ht hown hK hP m_425 (v := v3) rfl dX11_go_40 ?_
        have hP9 : va_P (dC, dI) classes (WX h g ca (u2 iv 11 10 v3) lv fa la) H := hP
        have hD9 : va_D A (WX h g ca (u2 iv 11 10 v3) lv fa la) := hD
        exact W.iret (v := v3) hx hb hr (fun t ht9 hW => ⟨⟨v3, ((u2 iv 11 10 v3), lv, fa, la), rfl, ⟨v3, (show inb (0, 3000) v3 from ⟨by omega, by omega⟩), (show (((v3 : Int32).toInt = -100002 ∧ ¬ (0 ≤ (n).toInt ∧ (n).toInt ≤ 999) ∧ (v3 : Int32).toInt = (iv 11 10).toInt) ∨ ((v3 : Int32).toInt = -100003 ∧ 0 ≤ (n).toInt ∧ (n).toInt ≤ 999 ∧ 3000 < (iv 11 10).toInt + (n).toInt ∧ (v3 : Int32).toInt = (iv 11 10).toInt) ∨ (0 ≤ (n).toInt ∧ (n).toInt ≤ 999 ∧ (iv 11 10).toInt + (n).toInt ≤ 3000 ∧ (v3 : Int32).toInt = (iv 11 10).toInt + (n).toInt ∧ (v3 : Int32).toInt = (iv 11 10).toInt + (n).toInt)) from by omega), ⟨by omega, by omega⟩, rfl⟩, by rw [ht9]; exact hP9, hD9⟩, hS.F ht9⟩) hS.2.2 dX11_go_43
      · have fc4 := z_nle (rfl : (v3).toInt = _) (by decide : (3000 : Int32).toInt = 3000) c4
        refine lv_ldc hx hb hown (ht _ m_457) dX11_go_26 ?_
        have : ((-100003) : Int32).toInt = (-100003) := (by decide)
        have hP9 : va_P (dC, dI) classes (WX h g ca (u2 iv 11 10 (iv 11 10)) lv fa la) s.heap := hP
        have hD9 : va_D A (WX h g ca (u2 iv 11 10 (iv 11 10)) lv fa la) := hD
        exact W.iret (v := (-100003)) hx hb hr (fun t ht9 hW => ⟨⟨(-100003), ((u2 iv 11 10 (iv 11 10)), lv, fa, la), rfl, ⟨(iv 11 10), (hI.1 11 10), (show ((((-100003) : Int32).toInt = -100002 ∧ ¬ (0 ≤ (n).toInt ∧ (n).toInt ≤ 999) ∧ ((iv 11 10) : Int32).toInt = (iv 11 10).toInt) ∨ (((-100003) : Int32).toInt = -100003 ∧ 0 ≤ (n).toInt ∧ (n).toInt ≤ 999 ∧ 3000 < (iv 11 10).toInt + (n).toInt ∧ ((iv 11 10) : Int32).toInt = (iv 11 10).toInt) ∨ (0 ≤ (n).toInt ∧ (n).toInt ≤ 999 ∧ (iv 11 10).toInt + (n).toInt ≤ 3000 ∧ ((-100003) : Int32).toInt = (iv 11 10).toInt + (n).toInt ∧ ((iv 11 10) : Int32).toInt = (iv 11 10).toInt + (n).toInt)) from by omega), ⟨by decide, by decide⟩, rfl⟩, by rw [ht9]; exact hP9, hD9⟩, hS.F ht9⟩) hS.2.2 dX11_go_28
    · exact absurd c2 (by decide)
  · skip
    refine lv_if_ne (tgt := 14) hx hb dX11_go_8 (by decide) (fun c6 => ?_) (fun c6 => ?_)
    · exact absurd rfl c6
    · skip
      refine lv_ldc hx hb hown (ht _ m_456) dX11_go_11 ?_
      have : ((-100002) : Int32).toInt = (-100002) := (by decide)
      have i_11_10 : 0 ≤ (iv 11 10).toInt ∧ (iv 11 10).toInt ≤ 3000 := hI.1 11 10
      have hP9 : va_P (dC, dI) classes (WX h g ca (u2 iv 11 10 (iv 11 10)) lv fa la) s.heap := hP
      have hD9 : va_D A (WX h g ca (u2 iv 11 10 (iv 11 10)) lv fa la) := hD
      exact W.iret (v := (-100002)) hx hb hr (fun t ht9 hW => ⟨⟨(-100002), ((u2 iv 11 10 (iv 11 10)), lv, fa, la), rfl, ⟨(iv 11 10), (hI.1 11 10), (show ((((-100002) : Int32).toInt = -100002 ∧ ¬ (0 ≤ (n).toInt ∧ (n).toInt ≤ 999) ∧ ((iv 11 10) : Int32).toInt = (iv 11 10).toInt) ∨ (((-100002) : Int32).toInt = -100003 ∧ 0 ≤ (n).toInt ∧ (n).toInt ≤ 999 ∧ 3000 < (iv 11 10).toInt + (n).toInt ∧ ((iv 11 10) : Int32).toInt = (iv 11 10).toInt) ∨ (0 ≤ (n).toInt ∧ (n).toInt ≤ 999 ∧ (iv 11 10).toInt + (n).toInt ≤ 3000 ∧ ((-100002) : Int32).toInt = (iv 11 10).toInt + (n).toInt ∧ ((iv 11 10) : Int32).toInt = (iv 11 10).toInt + (n).toInt)) from by omega), ⟨by decide, by decide⟩, rfl⟩, by rw [ht9]; exact hP9, hD9⟩, hS.F ht9⟩) hS.2.2 dX11_go_13
set_option maxHeartbeats 4000000 in
set_option maxRecDepth 100000 in
/-- X12_go -/
theorem c_X12_go_x (l : Launch) (dC : Nat → ClassId) (dI : Nat → Nat → Nat) (sz : Nat) (h : Nat) (g : Nat → Nat → Nat) (ca : Nat → Nat → ClassId) (iv : Nat → Nat → Int32) (lv : Nat → Nat → Int64) (fa : Nat → Nat → Nat → Int32) (la : Nat → Nat → Nat → Int64) (hI : IX iv fa) (n : Int32) : Met l yX12_go (wc yX12_go cX12_go 2 (some .int)) ({ frames := 1, cells := 0, slots := 0, locals := 25 } : Room) (pW (dC, dI) classes (WM h g ca iv lv fa la) (TM ca) sz [.ref h, .int n]) (va_Qi (fun r (u : SS) => ∃ (ni_12_0 : Int32), inb (bI 12 0) ni_12_0 ∧ (((r.toInt = -100002 ∧ ¬ (0 ≤ n.toInt ∧ n.toInt ≤ 999) ∧ (ni_12_0).toInt = (iv 12 0).toInt) ∨ (r.toInt = -100003 ∧ 0 ≤ n.toInt ∧ n.toInt ≤ 999 ∧ 3000 < (iv 12 0).toInt + n.toInt ∧ (ni_12_0).toInt = (iv 12 0).toInt) ∨ (0 ≤ n.toInt ∧ n.toInt ≤ 999 ∧ (iv 12 0).toInt + n.toInt ≤ 3000 ∧ r.toInt = (iv 12 0).toInt + n.toInt ∧ (ni_12_0).toInt = (iv 12 0).toInt + n.toInt))) ∧ ((-100003) ≤ r.toInt ∧ r.toInt ≤ 3000) ∧ u = ((u2 iv 12 0 ni_12_0), lv, fa, la)) (bM (dC, dI) h g ca (va_A (WM h g ca iv lv fa la) sz)) (va_A (WM h g ca iv lv fa la) sz)) 0 0 (va_A (WM h g ca iv lv fa la) sz) := by
  refine Met.ofW (cc := cX12_go) (maxL := 2) (ret := (some .int)) (by decide) rfl ?_
  intro p e s m args below meth c s₁ B hml hv
  obtain ⟨rfl, hsz, hP, hK, hD0⟩ := hv
  have hx := B.exec
  have hb := B.bytes
  have hr := B.returns
  have ht := tb_tl (atoms_spec (ws := wc yX12_go cX12_go 2 (some .int)) B.pre)
  have hown : s.vm.findClass RX12 = some m.cls := findClass_of_methodNamed B.named
  have hlocks := B.notSynchronized
  subst hsz
  have hD := hD0.self (sz := s.heap.size)
  generalize hAe : va_A (WM h g ca iv lv fa la) s.heap.size = A at hD ⊢
  have hA : ∀ q : Nat, s.heap.size ≤ q → A q := fun q h => by rw [← hAe]; exact Or.inr h
  have hS : va_S A s.heap s.heap [] := va_S.rf
  have hl := lv_entry [.ref h, .int n] (n := 2) (Nat.le_of_ble_eq_true rfl)
  rw [lg_entry_eq]
  generalize (lg_sl [.ref h, .int n] ++ List.replicate (2 - (lg_sl [.ref h, .int n]).length) Slot.unset).toArray = ls at hl ⊢
  have hl : lv_has ls 2 [(0, .ref h), (1, .int n)] := hl
  refine lv_iload_n hx hb dX12_go_0 rfl (lv_at hl 1 rfl) ?_
  refine lv_i2l (v := (n.toInt64)) hx hb dX12_go_1 rfl ?_
  refine lv_lconst (v := 0) hx hb dX12_go_2 (by decide) ?_
  refine lv_ldc2 hx hb hown (ht _ m_1369) dX12_go_3 ?_
  refine vp_callSi (W.runS (As := [.long (n.toInt64), .long 0, .long 999]) (rest := []) ⟨hx, hb, hml, hown, ht⟩ (c_X12_in l dC dI (n.toInt64) 0 999 (n.toInt) (0) (999) ((Int32.toInt_toInt64 n).trans rfl) (by decide : (0 : Int64).toInt = 0) (by decide : (999 : Int64).toInt = 999)) (kS 3 ht m_1370 m_1371 m_89 m_1372 rfl rfl hd_X12_in_v ⟨Nat.le_of_ble_eq_true rfl, Nat.le_of_ble_eq_true rfl⟩) (sR noP (hK.sub (tys' := []) [] rfl)) rfl rfl hl.1 rfl (lv_room (Nat.le_of_ble_eq_true rfl)) dX12_go_6 ⟨Nat.le_of_ble_eq_true rfl, Nat.le_of_ble_eq_true rfl⟩) (fun r1 hr1 => ?_)
  rcases hr1 with ⟨rfl, fr1⟩ | ⟨rfl, fr1⟩
  · skip
    refine lv_if_ne (tgt := 15) hx hb dX12_go_9 (by decide) (fun c2 => ?_) (fun c2 => ?_)
    · skip
      refine lv_aload_n hx hb dX12_go_15 rfl (lv_at hl 0 rfl) ?_
      have i_12_0 : 0 ≤ (iv 12 0).toInt ∧ (iv 12 0).toInt ≤ 3000 := hI.1 12 0
      refine gM_12_0 hx hb ht hown hK hP m_1139 (v := (iv 12 0)) rfl dX12_go_16 ?_
      refine lv_iload_n hx hb dX12_go_19 rfl (lv_at hl 1 rfl) ?_
      refine lv_iadd hx hb dX12_go_20 ?_
      refine lv_topi (fun v3 ev3 => ?_)
      have tv3 := z_add ev3 (rfl : ((iv 12 0)).toInt = _) (rfl : (n).toInt = _) (by omega) (by omega)
      refine lv_sipush (v := 3000) hx hb dX12_go_21 (by decide) ?_
      refine lv_icmp_le (tgt := 30) hx hb dX12_go_24 (by decide) (fun c4 => ?_) (fun c4 => ?_)
      · have fc4 := z_le (rfl : (v3).toInt = _) (by decide : (3000 : Int32).toInt = 3000) c4
        refine lv_aload_n hx hb dX12_go_30 rfl (lv_at hl 0 rfl) ?_
        refine lv_dup hx hb dX12_go_31 rfl ?_
        refine gM_12_0 hx hb ht hown hK hP m_1139 (v := (iv 12 0)) rfl dX12_go_32 ?_
        refine lv_iload_n hx hb dX12_go_35 rfl (lv_at hl 1 rfl) ?_
        refine lv_iadd hx hb dX12_go_36 ?_
        refine lv_topi (fun v5 ev5 => ?_)
        obtain rfl : v3 = v5 := ev3.trans ev5.symm
        refine pM_12_0 (v := v3) hx hb ht hown hK hP hD hS m_1139 dX12_go_37 (fun H locs hP hD hS => ?_)
        refine lv_aload_n hx hb dX12_go_40 rfl (lv_at hl 0 rfl) ?_
        refine gM_12_0 hx hb ht hown hK hP m_1139 (v := v3) rfl dX12_go_41 ?_
        have hP9 : va_P (dC, dI) classes (WM h g ca (u2 iv 12 0 v3) lv fa la) H := hP
        have hD9 : va_D A (WM h g ca (u2 iv 12 0 v3) lv fa la) := hD
        exact W.iret (v := v3) hx hb hr (fun t ht9 hW => ⟨⟨v3, ((u2 iv 12 0 v3), lv, fa, la), rfl, ⟨v3, (show inb (0, 3000) v3 from ⟨by omega, by omega⟩), (show (((v3 : Int32).toInt = -100002 ∧ ¬ (0 ≤ (n).toInt ∧ (n).toInt ≤ 999) ∧ (v3 : Int32).toInt = (iv 12 0).toInt) ∨ ((v3 : Int32).toInt = -100003 ∧ 0 ≤ (n).toInt ∧ (n).toInt ≤ 999 ∧ 3000 < (iv 12 0).toInt + (n).toInt ∧ (v3 : Int32).toInt = (iv 12 0).toInt) ∨ (0 ≤ (n).toInt ∧ (n).toInt ≤ 999 ∧ (iv 12 0).toInt + (n).toInt ≤ 3000 ∧ (v3 : Int32).toInt = (iv 12 0).toInt + (n).toInt ∧ (v3 : Int32).toInt = (iv 12 0).toInt + (n).toInt)) from by omega), ⟨by omega, by omega⟩, rfl⟩, by rw [ht9]; exact hP9, hD9⟩, hS.F ht9⟩) hS.2.2 dX12_go_44
      · have fc4 := z_nle (rfl : (v3).toInt = _) (by decide : (3000 : Int32).toInt = 3000) c4
        refine lv_ldc hx hb hown (ht _ m_1374) dX12_go_27 ?_
        have : ((-100003) : Int32).toInt = (-100003) := (by decide)
        have hP9 : va_P (dC, dI) classes (WM h g ca (u2 iv 12 0 (iv 12 0)) lv fa la) s.heap := hP
        have hD9 : va_D A (WM h g ca (u2 iv 12 0 (iv 12 0)) lv fa la) := hD
        exact W.iret (v := (-100003)) hx hb hr (fun t ht9 hW => ⟨⟨(-100003), ((u2 iv 12 0 (iv 12 0)), lv, fa, la), rfl, ⟨(iv 12 0), (hI.1 12 0), (show ((((-100003) : Int32).toInt = -100002 ∧ ¬ (0 ≤ (n).toInt ∧ (n).toInt ≤ 999) ∧ ((iv 12 0) : Int32).toInt = (iv 12 0).toInt) ∨ (((-100003) : Int32).toInt = -100003 ∧ 0 ≤ (n).toInt ∧ (n).toInt ≤ 999 ∧ 3000 < (iv 12 0).toInt + (n).toInt ∧ ((iv 12 0) : Int32).toInt = (iv 12 0).toInt) ∨ (0 ≤ (n).toInt ∧ (n).toInt ≤ 999 ∧ (iv 12 0).toInt + (n).toInt ≤ 3000 ∧ ((-100003) : Int32).toInt = (iv 12 0).toInt + (n).toInt ∧ ((iv 12 0) : Int32).toInt = (iv 12 0).toInt + (n).toInt)) from by omega), ⟨by decide, by decide⟩, rfl⟩, by rw [ht9]; exact hP9, hD9⟩, hS.F ht9⟩) hS.2.2 dX12_go_29
    · exact absurd c2 (by decide)
  · skip
    refine lv_if_ne (tgt := 15) hx hb dX12_go_9 (by decide) (fun c6 => ?_) (fun c6 => ?_)
    · exact absurd rfl c6
    · skip
      refine lv_ldc hx hb hown (ht _ m_1373) dX12_go_12 ?_
      have : ((-100002) : Int32).toInt = (-100002) := (by decide)
      have i_12_0 : 0 ≤ (iv 12 0).toInt ∧ (iv 12 0).toInt ≤ 3000 := hI.1 12 0
      have hP9 : va_P (dC, dI) classes (WM h g ca (u2 iv 12 0 (iv 12 0)) lv fa la) s.heap := hP
      have hD9 : va_D A (WM h g ca (u2 iv 12 0 (iv 12 0)) lv fa la) := hD
      exact W.iret (v := (-100002)) hx hb hr (fun t ht9 hW => ⟨⟨(-100002), ((u2 iv 12 0 (iv 12 0)), lv, fa, la), rfl, ⟨(iv 12 0), (hI.1 12 0), (show ((((-100002) : Int32).toInt = -100002 ∧ ¬ (0 ≤ (n).toInt ∧ (n).toInt ≤ 999) ∧ ((iv 12 0) : Int32).toInt = (iv 12 0).toInt) ∨ (((-100002) : Int32).toInt = -100003 ∧ 0 ≤ (n).toInt ∧ (n).toInt ≤ 999 ∧ 3000 < (iv 12 0).toInt + (n).toInt ∧ ((iv 12 0) : Int32).toInt = (iv 12 0).toInt) ∨ (0 ≤ (n).toInt ∧ (n).toInt ≤ 999 ∧ (iv 12 0).toInt + (n).toInt ≤ 3000 ∧ ((-100002) : Int32).toInt = (iv 12 0).toInt + (n).toInt ∧ ((iv 12 0) : Int32).toInt = (iv 12 0).toInt + (n).toInt)) from by omega), ⟨by decide, by decide⟩, rfl⟩, by rw [ht9]; exact hP9, hD9⟩, hS.F ht9⟩) hS.2.2 dX12_go_14
set_option maxHeartbeats 4000000 in
set_option maxRecDepth 100000 in
/-- X0_bring -/
theorem c_X0_bring_x (l : Launch) (dC : Nat → ClassId) (dI : Nat → Nat → Nat) (sz : Nat) (h : Nat) (g : Nat → Nat → Nat) (ca : Nat → Nat → ClassId) (iv : Nat → Nat → Int32) (lv : Nat → Nat → Int64) (fa : Nat → Nat → Nat → Int32) (la : Nat → Nat → Nat → Int64) (hI : IX iv fa) (a : Int32) (q_0_7 : 0 ≤ (iv 0 7).toInt ∧ (iv 0 7).toInt ≤ 9) : Met l yX0_bring (wc yX0_bring cX0_bring 2 (some .int)) ({ frames := 0, cells := 0, slots := 0, locals := 0 } : Room) (pW (dC, dI) classes (WX h g ca iv lv fa la) (TX ca) sz [.ref (g 11 2), .int a]) (va_Qi (fun r (u : SS) => ∃ (na_0_0 : Nat → Int32) (ni_0_7 : Int32), inb (bI 0 7) ni_0_7 ∧ ni_0_7.toInt = (iv 0 7).toInt + 1 ∧ (r.toInt = (iv 0 7).toInt) ∧ (0 ≤ r.toInt ∧ r.toInt ≤ 9) ∧ u = ((u2 iv 0 7 ni_0_7), lv, (u2 fa 0 0 na_0_0), la)) (bX (dC, dI) h g ca (va_A (WX h g ca iv lv fa la) sz)) (va_A (WX h g ca iv lv fa la) sz)) 0 0 (va_A (WX h g ca iv lv fa la) sz) := by
  refine Met.ofW (cc := cX0_bring) (maxL := 2) (ret := (some .int)) (by decide) rfl ?_
  intro p e s m args below meth c s₁ B hml hv
  obtain ⟨rfl, hsz, hP, hK, hD0⟩ := hv
  have hx := B.exec
  have hb := B.bytes
  have hr := B.returns
  have ht := tb_tl (atoms_spec (ws := wc yX0_bring cX0_bring 2 (some .int)) B.pre)
  have hown : s.vm.findClass RX0 = some m.cls := findClass_of_methodNamed B.named
  have hlocks := B.notSynchronized
  subst hsz
  have hD := hD0.self (sz := s.heap.size)
  generalize hAe : va_A (WX h g ca iv lv fa la) s.heap.size = A at hD ⊢
  have hA : ∀ q : Nat, s.heap.size ≤ q → A q := fun q h => by rw [← hAe]; exact Or.inr h
  have hS : va_S A s.heap s.heap [] := va_S.rf
  have hl := lv_entry [.ref (g 11 2), .int a] (n := 2) (Nat.le_of_ble_eq_true rfl)
  rw [lg_entry_eq]
  generalize (lg_sl [.ref (g 11 2), .int a] ++ List.replicate (2 - (lg_sl [.ref (g 11 2), .int a]).length) Slot.unset).toArray = ls at hl ⊢
  have hl : lv_has ls 2 [(0, .ref (g 11 2)), (1, .int a)] := hl
  refine lv_aload_n hx hb dX0_bring_0 rfl (lv_at hl 0 rfl) ?_
  refine gX_0_0 hx hb ht hown hK hP m_152 dX0_bring_1 ?_
  refine lv_aload_n hx hb dX0_bring_4 rfl (lv_at hl 0 rfl) ?_
  have i_0_7 : 0 ≤ (iv 0 7).toInt ∧ (iv 0 7).toInt ≤ 10 := hI.1 0 7
  refine gX_0_7 hx hb ht hown hK hP m_164 (v := (iv 0 7)) rfl dX0_bring_5 ?_
  refine lv_iload_n hx hb dX0_bring_8 rfl (lv_at hl 1 rfl) ?_
  refine tX_0_0 hx hb hK hP hD hS (f0 := (fa 0 0)) rfl (i := (iv 0 7)) (x := a) (vp_in_iff.mpr ⟨by omega, by omega⟩) dX0_bring_9 (fun f1 ef1 H locs hP hD hS => ?_)
  have hf1 : ∀ j, inb (bA 0 0 j) (f1 j) := fun j => full_i _
  refine lv_aload_n hx hb dX0_bring_10 rfl (lv_at hl 0 rfl) ?_
  refine lv_dup hx hb dX0_bring_11 rfl ?_
  refine gX_0_7 hx hb ht hown hK hP m_164 (v := (iv 0 7)) rfl dX0_bring_12 ?_
  refine lv_iconst (v := 1) hx hb dX0_bring_15 (by decide) ?_
  refine lv_iadd hx hb dX0_bring_16 ?_
  refine lv_topi (fun v2 ev2 => ?_)
  have tv2 := z_add ev2 (rfl : ((iv 0 7)).toInt = _) (by decide : (1 : Int32).toInt = 1) (by omega) (by omega)
  refine pX_0_7 (v := v2) hx hb ht hown hK hP hD hS m_164 dX0_bring_17 (fun H locs hP hD hS => ?_)
  refine lv_aload_n hx hb dX0_bring_20 rfl (lv_at hl 0 rfl) ?_
  refine gX_0_7 hx hb ht hown hK hP m_164 (v := v2) rfl dX0_bring_21 ?_
  refine lv_iconst (v := 1) hx hb dX0_bring_24 (by decide) ?_
  refine lv_isub hx hb dX0_bring_25 ?_
  refine lv_topi (fun v3 ev3 => ?_)
  have tv3 := z_sub ev3 (rfl : (v2).toInt = _) (by decide : (1 : Int32).toInt = 1) (by omega) (by omega)
  have hP9 : va_P (dC, dI) classes (WX h g ca (u2 iv 0 7 v2) lv (u2 fa 0 0 f1) la) H := hP
  have hD9 : va_D A (WX h g ca (u2 iv 0 7 v2) lv (u2 fa 0 0 f1) la) := hD
  exact W.iret (v := v3) hx hb hr (fun t ht9 hW => ⟨⟨v3, ((u2 iv 0 7 v2), lv, (u2 fa 0 0 f1), la), rfl, ⟨f1, v2, (show inb (0, 10) v2 from ⟨by omega, by omega⟩), (by omega), (show (v3 : Int32).toInt = (iv 0 7).toInt from by omega), ⟨by omega, by omega⟩, rfl⟩, by rw [ht9]; exact hP9, hD9⟩, hS.F ht9⟩) hS.2.2 dX0_bring_26
set_option maxHeartbeats 4000000 in
set_option maxRecDepth 100000 in
/-- X11_bale -/
theorem c_X11_bale_x (l : Launch) (dC : Nat → ClassId) (dI : Nat → Nat → Nat) (sz : Nat) (h : Nat) (g : Nat → Nat → Nat) (ca : Nat → Nat → ClassId) (iv : Nat → Nat → Int32) (lv : Nat → Nat → Int64) (fa : Nat → Nat → Nat → Int32) (la : Nat → Nat → Nat → Int64) (hI : IX iv fa) (n : Int32) : Met l yX11_bale (wc yX11_bale cX11_bale 2 (some .int)) ({ frames := 1, cells := 0, slots := 0, locals := 22 } : Room) (pW (dC, dI) classes (WX h g ca iv lv fa la) (TX ca) sz [.ref h, .int n]) (va_Qi (fun r (u : SS) => ∃ (na_0_0 : Nat → Int32) (ni_0_7 : Int32), inb (bI 0 7) ni_0_7 ∧ (((r.toInt = -100002 ∧ ¬ (1 ≤ n.toInt ∧ n.toInt ≤ 99999) ∧ (ni_0_7).toInt = (iv 0 7).toInt) ∨ (r.toInt = -100004 ∧ (1 ≤ n.toInt ∧ n.toInt ≤ 99999) ∧ 10 ≤ (iv 0 7).toInt ∧ (ni_0_7).toInt = (iv 0 7).toInt) ∨ ((1 ≤ n.toInt ∧ n.toInt ≤ 99999) ∧ (iv 0 7).toInt < 10 ∧ r.toInt = (iv 0 7).toInt ∧ (ni_0_7).toInt = (iv 0 7).toInt + 1))) ∧ ((-100004) ≤ r.toInt ∧ r.toInt ≤ 9) ∧ u = ((u2 iv 0 7 ni_0_7), lv, (u2 fa 0 0 na_0_0), la)) (bX (dC, dI) h g ca (va_A (WX h g ca iv lv fa la) sz)) (va_A (WX h g ca iv lv fa la) sz)) 0 0 (va_A (WX h g ca iv lv fa la) sz) := by
  refine Met.ofW (cc := cX11_bale) (maxL := 2) (ret := (some .int)) (by decide) rfl ?_
  intro p e s m args below meth c s₁ B hml hv
  obtain ⟨rfl, hsz, hP, hK, hD0⟩ := hv
  have hx := B.exec
  have hb := B.bytes
  have hr := B.returns
  have ht := tb_tl (atoms_spec (ws := wc yX11_bale cX11_bale 2 (some .int)) B.pre)
  have hown : s.vm.findClass RX11 = some m.cls := findClass_of_methodNamed B.named
  have hlocks := B.notSynchronized
  subst hsz
  have hD := hD0.self (sz := s.heap.size)
  generalize hAe : va_A (WX h g ca iv lv fa la) s.heap.size = A at hD ⊢
  have hA : ∀ q : Nat, s.heap.size ≤ q → A q := fun q h => by rw [← hAe]; exact Or.inr h
  have hS : va_S A s.heap s.heap [] := va_S.rf
  have hl := lv_entry [.ref h, .int n] (n := 2) (Nat.le_of_ble_eq_true rfl)
  rw [lg_entry_eq]
  generalize (lg_sl [.ref h, .int n] ++ List.replicate (2 - (lg_sl [.ref h, .int n]).length) Slot.unset).toArray = ls at hl ⊢
  have hl : lv_has ls 2 [(0, .ref h), (1, .int n)] := hl
  refine lv_iload_n hx hb dX11_bale_0 rfl (lv_at hl 1 rfl) ?_
  refine lv_iconst (v := 1) hx hb dX11_bale_1 (by decide) ?_
  refine lv_ldc hx hb hown (ht _ m_462) dX11_bale_2 ?_
  refine vp_callSi (W.runS (As := [.int n, .int 1, .int 99999]) (rest := []) ⟨hx, hb, hml, hown, ht⟩ (c_X11_within l dC dI n 1 99999 (n.toInt) (1) (99999) (rfl : (n).toInt = _) (by decide : (1 : Int32).toInt = 1) (by decide : (99999 : Int32).toInt = 99999)) (kS 3 ht m_453 m_454 m_77 m_455 rfl rfl hd_X11_within_v ⟨Nat.le_of_ble_eq_true rfl, Nat.le_of_ble_eq_true rfl⟩) (sR noP (hK.sub (tys' := []) [] rfl)) rfl rfl hl.1 rfl (lv_room (Nat.le_of_ble_eq_true rfl)) dX11_bale_4 ⟨Nat.le_of_ble_eq_true rfl, Nat.le_of_ble_eq_true rfl⟩) (fun r1 hr1 => ?_)
  rcases hr1 with ⟨rfl, fr1⟩ | ⟨rfl, fr1⟩
  · skip
    refine lv_if_ne (tgt := 13) hx hb dX11_bale_7 (by decide) (fun c2 => ?_) (fun c2 => ?_)
    · skip
      refine lv_aload_n hx hb dX11_bale_13 rfl (lv_at hl 0 rfl) ?_
      refine gX_11_2 hx hb ht hown hK hP m_417 dX11_bale_14 ?_
      have i_0_7 : 0 ≤ (iv 0 7).toInt ∧ (iv 0 7).toInt ≤ 10 := hI.1 0 7
      refine gX_0_7 hx hb ht hown hK hP m_165 (v := (iv 0 7)) rfl dX11_bale_17 ?_
      refine lv_bipush (v := 10) hx hb dX11_bale_20 (by decide) ?_
      refine lv_icmp_lt (tgt := 28) hx hb dX11_bale_22 (by decide) (fun c3 => ?_) (fun c3 => ?_)
      · have fc3 := z_lt (rfl : ((iv 0 7)).toInt = _) (by decide : (10 : Int32).toInt = 10) c3
        refine lv_aload_n hx hb dX11_bale_28 rfl (lv_at hl 0 rfl) ?_
        refine gX_11_2 hx hb ht hown hK hP m_417 dX11_bale_29 ?_
        refine lv_iload_n hx hb dX11_bale_32 rfl (lv_at hl 1 rfl) ?_
        have hFc := free_all hD hS hA
        refine va_calli (va_runV (As := [.int n]) (rest := []) ⟨hx, hb, hml, hown, ht⟩ (c_X0_bring_x l dC dI s.heap.size h g ca iv lv fa la hI n (show 0 ≤ ((iv 0 7) : Int32).toInt ∧ ((iv 0 7) : Int32).toInt ≤ 9 from ⟨by omega, by omega⟩)) (kV 1 ht m_464 m_465 m_466 m_80 m_467 rfl rfl hd_X0_bring_v ⟨Nat.le_of_ble_eq_true rfl, Nat.le_of_ble_eq_true rfl⟩) (vW hP hK hD (rX_0 hK hP)) rfl rfl hl.1 rfl (lv_room (Nat.le_of_ble_eq_true rfl)) dX11_bale_33 ⟨Nat.le_of_ble_eq_true rfl, Nat.le_of_ble_eq_true rfl⟩) hS (fun q _ h => hFc q h) hFc (fun r4 u t H1 locs ht9 hvm hr4 hB hz1 hk1 hS => ?_)
        obtain ⟨n5, n6, hn6, dn6, xr4_0, hr4, rfl⟩ := hr4
        have hn5 : ∀ j, inb (bA 0 0 j) (n5 j) := fun j => full_i _
        have dn6 : n6.toInt = ((iv 0 7) : Int32).toInt + 1 := dn6
        have hn6 : 0 ≤ n6.toInt ∧ n6.toInt ≤ 10 := hn6
        obtain ⟨hP, hD⟩ := hB
        rw [ht9] at hP
        generalize H1 = H at hP hS ⊢
        have hP : va_P (dC, dI) classes (WX h g ca (u2 iv 0 7 n6) lv (u2 fa 0 0 n5) la) H := hP
        have hD : va_D A (WX h g ca (u2 iv 0 7 n6) lv (u2 fa 0 0 n5) la) := (show va_D _ (WX h g ca (u2 iv 0 7 n6) lv (u2 fa 0 0 n5) la) from hD).weaken (fun _ _ _ h => hFc _ h)
        have xr4_0 : (r4 : Int32).toInt = ((iv 0 7) : Int32).toInt := xr4_0
        have hP9 : va_P (dC, dI) classes (WX h g ca (u2 iv 0 7 n6) lv (u2 fa 0 0 n5) la) H := hP
        have hD9 : va_D A (WX h g ca (u2 iv 0 7 n6) lv (u2 fa 0 0 n5) la) := hD
        exact W.iret (v := r4) hx hb hr (fun t ht9 hW => ⟨⟨r4, ((u2 iv 0 7 n6), lv, (u2 fa 0 0 n5), la), rfl, ⟨n5, n6, (show inb (0, 10) n6 from ⟨by omega, by omega⟩), (show (((r4 : Int32).toInt = -100002 ∧ ¬ (1 ≤ (n).toInt ∧ (n).toInt ≤ 99999) ∧ (n6 : Int32).toInt = (iv 0 7).toInt) ∨ ((r4 : Int32).toInt = -100004 ∧ (1 ≤ (n).toInt ∧ (n).toInt ≤ 99999) ∧ 10 ≤ (iv 0 7).toInt ∧ (n6 : Int32).toInt = (iv 0 7).toInt) ∨ ((1 ≤ (n).toInt ∧ (n).toInt ≤ 99999) ∧ (iv 0 7).toInt < 10 ∧ (r4 : Int32).toInt = (iv 0 7).toInt ∧ (n6 : Int32).toInt = (iv 0 7).toInt + 1)) from by omega), ⟨by omega, by omega⟩, rfl⟩, by rw [ht9]; exact hP9, hD9⟩, hS.F ht9⟩) hS.2.2 dX11_bale_36
      · have fc3 := z_nlt (rfl : ((iv 0 7)).toInt = _) (by decide : (10 : Int32).toInt = 10) c3
        refine lv_ldc hx hb hown (ht _ m_463) dX11_bale_25 ?_
        have : ((-100004) : Int32).toInt = (-100004) := (by decide)
        have hP9 : va_P (dC, dI) classes (WX h g ca (u2 iv 0 7 (iv 0 7)) lv (u2 fa 0 0 (fa 0 0)) la) s.heap := hP
        have hD9 : va_D A (WX h g ca (u2 iv 0 7 (iv 0 7)) lv (u2 fa 0 0 (fa 0 0)) la) := hD
        exact W.iret (v := (-100004)) hx hb hr (fun t ht9 hW => ⟨⟨(-100004), ((u2 iv 0 7 (iv 0 7)), lv, (u2 fa 0 0 (fa 0 0)), la), rfl, ⟨(fa 0 0), (iv 0 7), (hI.1 0 7), (show ((((-100004) : Int32).toInt = -100002 ∧ ¬ (1 ≤ (n).toInt ∧ (n).toInt ≤ 99999) ∧ ((iv 0 7) : Int32).toInt = (iv 0 7).toInt) ∨ (((-100004) : Int32).toInt = -100004 ∧ (1 ≤ (n).toInt ∧ (n).toInt ≤ 99999) ∧ 10 ≤ (iv 0 7).toInt ∧ ((iv 0 7) : Int32).toInt = (iv 0 7).toInt) ∨ ((1 ≤ (n).toInt ∧ (n).toInt ≤ 99999) ∧ (iv 0 7).toInt < 10 ∧ ((-100004) : Int32).toInt = (iv 0 7).toInt ∧ ((iv 0 7) : Int32).toInt = (iv 0 7).toInt + 1)) from by omega), ⟨by decide, by decide⟩, rfl⟩, by rw [ht9]; exact hP9, hD9⟩, hS.F ht9⟩) hS.2.2 dX11_bale_27
    · exact absurd c2 (by decide)
  · skip
    refine lv_if_ne (tgt := 13) hx hb dX11_bale_7 (by decide) (fun c7 => ?_) (fun c7 => ?_)
    · exact absurd rfl c7
    · skip
      refine lv_ldc hx hb hown (ht _ m_456) dX11_bale_10 ?_
      have : ((-100002) : Int32).toInt = (-100002) := (by decide)
      have i_0_7 : 0 ≤ (iv 0 7).toInt ∧ (iv 0 7).toInt ≤ 10 := hI.1 0 7
      have hP9 : va_P (dC, dI) classes (WX h g ca (u2 iv 0 7 (iv 0 7)) lv (u2 fa 0 0 (fa 0 0)) la) s.heap := hP
      have hD9 : va_D A (WX h g ca (u2 iv 0 7 (iv 0 7)) lv (u2 fa 0 0 (fa 0 0)) la) := hD
      exact W.iret (v := (-100002)) hx hb hr (fun t ht9 hW => ⟨⟨(-100002), ((u2 iv 0 7 (iv 0 7)), lv, (u2 fa 0 0 (fa 0 0)), la), rfl, ⟨(fa 0 0), (iv 0 7), (hI.1 0 7), (show ((((-100002) : Int32).toInt = -100002 ∧ ¬ (1 ≤ (n).toInt ∧ (n).toInt ≤ 99999) ∧ ((iv 0 7) : Int32).toInt = (iv 0 7).toInt) ∨ (((-100002) : Int32).toInt = -100004 ∧ (1 ≤ (n).toInt ∧ (n).toInt ≤ 99999) ∧ 10 ≤ (iv 0 7).toInt ∧ ((iv 0 7) : Int32).toInt = (iv 0 7).toInt) ∨ ((1 ≤ (n).toInt ∧ (n).toInt ≤ 99999) ∧ (iv 0 7).toInt < 10 ∧ ((-100002) : Int32).toInt = (iv 0 7).toInt ∧ ((iv 0 7) : Int32).toInt = (iv 0 7).toInt + 1)) from by omega), ⟨by decide, by decide⟩, rfl⟩, by rw [ht9]; exact hP9, hD9⟩, hS.F ht9⟩) hS.2.2 dX11_bale_12
set_option maxHeartbeats 4000000 in
set_option maxRecDepth 100000 in
/-- X12_bale -/
theorem c_X12_bale_x (l : Launch) (dC : Nat → ClassId) (dI : Nat → Nat → Nat) (sz : Nat) (h : Nat) (g : Nat → Nat → Nat) (ca : Nat → Nat → ClassId) (iv : Nat → Nat → Int32) (lv : Nat → Nat → Int64) (fa : Nat → Nat → Nat → Int32) (la : Nat → Nat → Nat → Int64) (hI : IX iv fa) (n : Int32) : Met l yX12_bale (wc yX12_bale cX12_bale 2 (some .int)) ({ frames := 1, cells := 0, slots := 0, locals := 25 } : Room) (pW (dC, dI) classes (WM h g ca iv lv fa la) (TM ca) sz [.ref h, .int n]) (va_Qi (fun r (u : SS) => ∃ (na_12_2 : Nat → Int32) (na_12_51 : Nat → Int32) (na_12_53 : Nat → Int32) (ni_12_1 : Int32), (∀ j, inb (bA 12 51 j) (na_12_51 j)) ∧ (∀ j, inb (bA 12 53 j) (na_12_53 j)) ∧ inb (bI 12 1) ni_12_1 ∧ (((r.toInt = -100002 ∧ ¬ (1 ≤ n.toInt ∧ n.toInt ≤ 99999) ∧ (ni_12_1).toInt = (iv 12 1).toInt) ∨ (r.toInt = -100004 ∧ (1 ≤ n.toInt ∧ n.toInt ≤ 99999) ∧ 10 ≤ (iv 12 1).toInt ∧ (ni_12_1).toInt = (iv 12 1).toInt) ∨ ((1 ≤ n.toInt ∧ n.toInt ≤ 99999) ∧ (iv 12 1).toInt < 10 ∧ r.toInt = (iv 12 1).toInt ∧ (ni_12_1).toInt = (iv 12 1).toInt + 1))) ∧ ((-100004) ≤ r.toInt ∧ r.toInt ≤ 9) ∧ u = ((u2 iv 12 1 ni_12_1), lv, (u2 (u2 (u2 fa 12 2 na_12_2) 12 51 na_12_51) 12 53 na_12_53), la)) (bM (dC, dI) h g ca (va_A (WM h g ca iv lv fa la) sz)) (va_A (WM h g ca iv lv fa la) sz)) 0 0 (va_A (WM h g ca iv lv fa la) sz) := by
  refine Met.ofW (cc := cX12_bale) (maxL := 2) (ret := (some .int)) (by decide) rfl ?_
  intro p e s m args below meth c s₁ B hml hv
  obtain ⟨rfl, hsz, hP, hK, hD0⟩ := hv
  have hx := B.exec
  have hb := B.bytes
  have hr := B.returns
  have ht := tb_tl (atoms_spec (ws := wc yX12_bale cX12_bale 2 (some .int)) B.pre)
  have hown : s.vm.findClass RX12 = some m.cls := findClass_of_methodNamed B.named
  have hlocks := B.notSynchronized
  subst hsz
  have hD := hD0.self (sz := s.heap.size)
  generalize hAe : va_A (WM h g ca iv lv fa la) s.heap.size = A at hD ⊢
  have hA : ∀ q : Nat, s.heap.size ≤ q → A q := fun q h => by rw [← hAe]; exact Or.inr h
  have hS : va_S A s.heap s.heap [] := va_S.rf
  have hl := lv_entry [.ref h, .int n] (n := 2) (Nat.le_of_ble_eq_true rfl)
  rw [lg_entry_eq]
  generalize (lg_sl [.ref h, .int n] ++ List.replicate (2 - (lg_sl [.ref h, .int n]).length) Slot.unset).toArray = ls at hl ⊢
  have hl : lv_has ls 2 [(0, .ref h), (1, .int n)] := hl
  refine lv_iload_n hx hb dX12_bale_0 rfl (lv_at hl 1 rfl) ?_
  refine lv_i2l (v := (n.toInt64)) hx hb dX12_bale_1 rfl ?_
  refine lv_lconst (v := 1) hx hb dX12_bale_2 (by decide) ?_
  refine lv_ldc2 hx hb hown (ht _ m_1379) dX12_bale_3 ?_
  refine vp_callSi (W.runS (As := [.long (n.toInt64), .long 1, .long 99999]) (rest := []) ⟨hx, hb, hml, hown, ht⟩ (c_X12_in l dC dI (n.toInt64) 1 99999 (n.toInt) (1) (99999) ((Int32.toInt_toInt64 n).trans rfl) (by decide : (1 : Int64).toInt = 1) (by decide : (99999 : Int64).toInt = 99999)) (kS 3 ht m_1370 m_1371 m_89 m_1372 rfl rfl hd_X12_in_v ⟨Nat.le_of_ble_eq_true rfl, Nat.le_of_ble_eq_true rfl⟩) (sR noP (hK.sub (tys' := []) [] rfl)) rfl rfl hl.1 rfl (lv_room (Nat.le_of_ble_eq_true rfl)) dX12_bale_6 ⟨Nat.le_of_ble_eq_true rfl, Nat.le_of_ble_eq_true rfl⟩) (fun r1 hr1 => ?_)
  rcases hr1 with ⟨rfl, fr1⟩ | ⟨rfl, fr1⟩
  · skip
    refine lv_if_ne (tgt := 15) hx hb dX12_bale_9 (by decide) (fun c2 => ?_) (fun c2 => ?_)
    · skip
      refine lv_aload_n hx hb dX12_bale_15 rfl (lv_at hl 0 rfl) ?_
      have i_12_1 : 0 ≤ (iv 12 1).toInt ∧ (iv 12 1).toInt ≤ 10 := hI.1 12 1
      refine gM_12_1 hx hb ht hown hK hP m_1140 (v := (iv 12 1)) rfl dX12_bale_16 ?_
      refine lv_bipush (v := 10) hx hb dX12_bale_19 (by decide) ?_
      refine lv_icmp_ne (tgt := 27) hx hb dX12_bale_21 (by decide) (fun c3 => ?_) (fun c3 => ?_)
      · have fc3 := z_ne (rfl : ((iv 12 1)).toInt = _) (by decide : (10 : Int32).toInt = 10) c3
        refine lv_aload_n hx hb dX12_bale_27 rfl (lv_at hl 0 rfl) ?_
        refine gM_12_2 hx hb ht hown hK hP m_1141 dX12_bale_28 ?_
        refine lv_aload_n hx hb dX12_bale_31 rfl (lv_at hl 0 rfl) ?_
        refine gM_12_1 hx hb ht hown hK hP m_1140 (v := (iv 12 1)) rfl dX12_bale_32 ?_
        refine lv_iload_n hx hb dX12_bale_35 rfl (lv_at hl 1 rfl) ?_
        refine tM_12_2 hx hb hK hP hD hS (f0 := (fa 12 2)) rfl (i := (iv 12 1)) (x := n) (vp_in_iff.mpr ⟨by omega, by omega⟩) dX12_bale_36 (fun f4 ef4 H locs hP hD hS => ?_)
        have hf4 : ∀ j, inb (bA 12 2 j) (f4 j) := fun j => full_i _
        refine lv_aload_n hx hb dX12_bale_37 rfl (lv_at hl 0 rfl) ?_
        refine gM_12_51 hx hb ht hown hK hP m_1190 dX12_bale_38 ?_
        refine lv_aload_n hx hb dX12_bale_41 rfl (lv_at hl 0 rfl) ?_
        refine gM_12_1 hx hb ht hown hK hP m_1140 (v := (iv 12 1)) rfl dX12_bale_42 ?_
        refine lv_iconst (v := 0) hx hb dX12_bale_45 (by decide) ?_
        refine tM_12_51 hx hb hK hP hD hS (f0 := (fa 12 51)) rfl (i := (iv 12 1)) (x := 0) (vp_in_iff.mpr ⟨by omega, by omega⟩) dX12_bale_46 (fun f5 ef5 H locs hP hD hS => ?_)
        have hf5 : ∀ j, inb (bA 12 51 j) (f5 j) := by rw [ef5]; exact upd_b (b := bA 12 51) (hI.2 12 51) (show inb (0, 12) 0 from ⟨by decide, by decide⟩)
        refine lv_aload_n hx hb dX12_bale_47 rfl (lv_at hl 0 rfl) ?_
        refine gM_12_53 hx hb ht hown hK hP m_1192 dX12_bale_48 ?_
        refine lv_aload_n hx hb dX12_bale_51 rfl (lv_at hl 0 rfl) ?_
        refine gM_12_1 hx hb ht hown hK hP m_1140 (v := (iv 12 1)) rfl dX12_bale_52 ?_
        refine lv_iconst (v := 0) hx hb dX12_bale_55 (by decide) ?_
        refine tM_12_53 hx hb hK hP hD hS (f0 := (fa 12 53)) rfl (i := (iv 12 1)) (x := 0) (vp_in_iff.mpr ⟨by omega, by omega⟩) dX12_bale_56 (fun f6 ef6 H locs hP hD hS => ?_)
        have hf6 : ∀ j, inb (bA 12 53 j) (f6 j) := by rw [ef6]; exact upd_b (b := bA 12 53) (hI.2 12 53) (show inb (0, 8) 0 from ⟨by decide, by decide⟩)
        refine lv_aload_n hx hb dX12_bale_57 rfl (lv_at hl 0 rfl) ?_
        refine lv_dup hx hb dX12_bale_58 rfl ?_
        refine gM_12_1 hx hb ht hown hK hP m_1140 (v := (iv 12 1)) rfl dX12_bale_59 ?_
        refine lv_iconst (v := 1) hx hb dX12_bale_62 (by decide) ?_
        refine lv_iadd hx hb dX12_bale_63 ?_
        refine lv_topi (fun v7 ev7 => ?_)
        have tv7 := z_add ev7 (rfl : ((iv 12 1)).toInt = _) (by decide : (1 : Int32).toInt = 1) (by omega) (by omega)
        refine pM_12_1 (v := v7) hx hb ht hown hK hP hD hS m_1140 dX12_bale_64 (fun H locs hP hD hS => ?_)
        refine lv_aload_n hx hb dX12_bale_67 rfl (lv_at hl 0 rfl) ?_
        refine gM_12_1 hx hb ht hown hK hP m_1140 (v := v7) rfl dX12_bale_68 ?_
        refine lv_iconst (v := 1) hx hb dX12_bale_71 (by decide) ?_
        refine lv_isub hx hb dX12_bale_72 ?_
        refine lv_topi (fun v8 ev8 => ?_)
        have tv8 := z_sub ev8 (rfl : (v7).toInt = _) (by decide : (1 : Int32).toInt = 1) (by omega) (by omega)
        have hP9 : va_P (dC, dI) classes (WM h g ca (u2 iv 12 1 v7) lv (u2 (u2 (u2 fa 12 2 f4) 12 51 f5) 12 53 f6) la) H := hP
        have hD9 : va_D A (WM h g ca (u2 iv 12 1 v7) lv (u2 (u2 (u2 fa 12 2 f4) 12 51 f5) 12 53 f6) la) := hD
        exact W.iret (v := v8) hx hb hr (fun t ht9 hW => ⟨⟨v8, ((u2 iv 12 1 v7), lv, (u2 (u2 (u2 fa 12 2 f4) 12 51 f5) 12 53 f6), la), rfl, ⟨f4, f5, f6, v7, hf5, hf6, (show inb (0, 10) v7 from ⟨by omega, by omega⟩), (show (((v8 : Int32).toInt = -100002 ∧ ¬ (1 ≤ (n).toInt ∧ (n).toInt ≤ 99999) ∧ (v7 : Int32).toInt = (iv 12 1).toInt) ∨ ((v8 : Int32).toInt = -100004 ∧ (1 ≤ (n).toInt ∧ (n).toInt ≤ 99999) ∧ 10 ≤ (iv 12 1).toInt ∧ (v7 : Int32).toInt = (iv 12 1).toInt) ∨ ((1 ≤ (n).toInt ∧ (n).toInt ≤ 99999) ∧ (iv 12 1).toInt < 10 ∧ (v8 : Int32).toInt = (iv 12 1).toInt ∧ (v7 : Int32).toInt = (iv 12 1).toInt + 1)) from by omega), ⟨by omega, by omega⟩, rfl⟩, by rw [ht9]; exact hP9, hD9⟩, hS.F ht9⟩) hS.2.2 dX12_bale_73
      · have fc3 := z_eq (rfl : ((iv 12 1)).toInt = _) (by decide : (10 : Int32).toInt = 10) c3
        refine lv_ldc hx hb hown (ht _ m_1380) dX12_bale_24 ?_
        have : ((-100004) : Int32).toInt = (-100004) := (by decide)
        have hP9 : va_P (dC, dI) classes (WM h g ca (u2 iv 12 1 (iv 12 1)) lv (u2 (u2 (u2 fa 12 2 (fa 12 2)) 12 51 (fa 12 51)) 12 53 (fa 12 53)) la) s.heap := hP
        have hD9 : va_D A (WM h g ca (u2 iv 12 1 (iv 12 1)) lv (u2 (u2 (u2 fa 12 2 (fa 12 2)) 12 51 (fa 12 51)) 12 53 (fa 12 53)) la) := hD
        exact W.iret (v := (-100004)) hx hb hr (fun t ht9 hW => ⟨⟨(-100004), ((u2 iv 12 1 (iv 12 1)), lv, (u2 (u2 (u2 fa 12 2 (fa 12 2)) 12 51 (fa 12 51)) 12 53 (fa 12 53)), la), rfl, ⟨(fa 12 2), (fa 12 51), (fa 12 53), (iv 12 1), (hI.2 12 51), (hI.2 12 53), (hI.1 12 1), (show ((((-100004) : Int32).toInt = -100002 ∧ ¬ (1 ≤ (n).toInt ∧ (n).toInt ≤ 99999) ∧ ((iv 12 1) : Int32).toInt = (iv 12 1).toInt) ∨ (((-100004) : Int32).toInt = -100004 ∧ (1 ≤ (n).toInt ∧ (n).toInt ≤ 99999) ∧ 10 ≤ (iv 12 1).toInt ∧ ((iv 12 1) : Int32).toInt = (iv 12 1).toInt) ∨ ((1 ≤ (n).toInt ∧ (n).toInt ≤ 99999) ∧ (iv 12 1).toInt < 10 ∧ ((-100004) : Int32).toInt = (iv 12 1).toInt ∧ ((iv 12 1) : Int32).toInt = (iv 12 1).toInt + 1)) from by omega), ⟨by decide, by decide⟩, rfl⟩, by rw [ht9]; exact hP9, hD9⟩, hS.F ht9⟩) hS.2.2 dX12_bale_26
    · exact absurd c2 (by decide)
  · skip
    refine lv_if_ne (tgt := 15) hx hb dX12_bale_9 (by decide) (fun c9 => ?_) (fun c9 => ?_)
    · exact absurd rfl c9
    · skip
      refine lv_ldc hx hb hown (ht _ m_1373) dX12_bale_12 ?_
      have : ((-100002) : Int32).toInt = (-100002) := (by decide)
      have i_12_1 : 0 ≤ (iv 12 1).toInt ∧ (iv 12 1).toInt ≤ 10 := hI.1 12 1
      have hP9 : va_P (dC, dI) classes (WM h g ca (u2 iv 12 1 (iv 12 1)) lv (u2 (u2 (u2 fa 12 2 (fa 12 2)) 12 51 (fa 12 51)) 12 53 (fa 12 53)) la) s.heap := hP
      have hD9 : va_D A (WM h g ca (u2 iv 12 1 (iv 12 1)) lv (u2 (u2 (u2 fa 12 2 (fa 12 2)) 12 51 (fa 12 51)) 12 53 (fa 12 53)) la) := hD
      exact W.iret (v := (-100002)) hx hb hr (fun t ht9 hW => ⟨⟨(-100002), ((u2 iv 12 1 (iv 12 1)), lv, (u2 (u2 (u2 fa 12 2 (fa 12 2)) 12 51 (fa 12 51)) 12 53 (fa 12 53)), la), rfl, ⟨(fa 12 2), (fa 12 51), (fa 12 53), (iv 12 1), (hI.2 12 51), (hI.2 12 53), (hI.1 12 1), (show ((((-100002) : Int32).toInt = -100002 ∧ ¬ (1 ≤ (n).toInt ∧ (n).toInt ≤ 99999) ∧ ((iv 12 1) : Int32).toInt = (iv 12 1).toInt) ∨ (((-100002) : Int32).toInt = -100004 ∧ (1 ≤ (n).toInt ∧ (n).toInt ≤ 99999) ∧ 10 ≤ (iv 12 1).toInt ∧ ((iv 12 1) : Int32).toInt = (iv 12 1).toInt) ∨ ((1 ≤ (n).toInt ∧ (n).toInt ≤ 99999) ∧ (iv 12 1).toInt < 10 ∧ ((-100002) : Int32).toInt = (iv 12 1).toInt ∧ ((iv 12 1) : Int32).toInt = (iv 12 1).toInt + 1)) from by omega), ⟨by decide, by decide⟩, rfl⟩, by rw [ht9]; exact hP9, hD9⟩, hS.F ht9⟩) hS.2.2 dX12_bale_14
