/-! ===== go ===== -/
set_option maxHeartbeats 4000000 in
set_option maxRecDepth 100000 in
/-- X11_go -/
theorem c_X11_go_x (l : Launch) (dC : Nat → ClassId) (dI : Nat → Nat → Nat) (sz : Nat) (h : Nat) (g : Nat → Nat → Nat) (ca : Nat → Nat → ClassId) (iv : Nat → Nat → Int32) (lv : Nat → Nat → Int64) (fa : Nat → Nat → Nat → Int32) (la : Nat → Nat → Nat → Int64) (hI : IX iv fa) (n : Int32) : Met l yX11_go (wc yX11_go cX11_go 2 (some .int)) ({ frames := 1, cells := 0, slots := 0, locals := 22 } : Room) (pW (dC, dI) classes (WX h g ca iv lv fa la) (TX ca) sz [.ref h, .int n]) (va_Qi (fun r (u : SS) => ∃ (ni_11_10 : Int32), inb (bI 11 10) ni_11_10 ∧ (((r.toInt = -100002 ∧ ¬ (0 ≤ n.toInt ∧ n.toInt ≤ 999) ∧ (ni_11_10).toInt = (iv 11 10).toInt) ∨ (r.toInt = -100003 ∧ 0 ≤ n.toInt ∧ n.toInt ≤ 999 ∧ 3000 < (iv 11 10).toInt + n.toInt ∧ (ni_11_10).toInt = (iv 11 10).toInt) ∨ (0 ≤ n.toInt ∧ n.toInt ≤ 999 ∧ (iv 11 10).toInt + n.toInt ≤ 3000 ∧ r.toInt = (iv 11 10).toInt + n.toInt ∧ (ni_11_10).toInt = (iv 11 10).toInt + n.toInt))) ∧ ((-100003) ≤ r.toInt ∧ r.toInt ≤ 3000) ∧ u = ((u2 iv 11 10 ni_11_10), lv, fa, la)) (bX (dC, dI) h g ca (va_A (WX h g ca iv lv fa la) sz)) (va_A (WX h g ca iv lv fa la) sz)) 0 0 (va_A (WX h g ca iv lv fa la) sz) := by
  refine Met.ofW (cc := cX11_go) (maxL := 2) (ret := (some .int)) (by decide) rfl ?_
  intro p e s m args below meth c s₁ B hml hv
  obtain ⟨rfl, hsz, hP, hK, hD0⟩ := hv
  have hx := B.exec
  have hb := B.bytes
  have hr := B.returns
  have ht := tb_tl (atoms_spec (ws := wc yX11_go cX11_go 2 (some .int)) B.pre)
  have hown : s.vm.findClass RX11 = some m.cls := findClass_of_methodNamed B.named
  have hlocks := B.notSynchronized
  subst hsz
  have hD := hD0.self (sz := s.heap.size)
  generalize hAe : va_A (WX h g ca iv lv fa la) s.heap.size = A at hD ⊢
  have hA : ∀ q : Nat, s.heap.size ≤ q → A q := fun q h => by rw [← hAe]; exact Or.inr h
  have hS : va_S A s.heap s.heap [] := va_S.rf
  have hl := lv_entry [.ref h, .int n] (n := 2) (Nat.le_of_ble_eq_true rfl)
  rw [lg_entry_eq]
  generalize (lg_sl [.ref h, .int n] ++ List.replicate (2 - (lg_sl [.ref h, .int n]).length) Slot.unset).toArray = ls at hl ⊢
  have hl : lv_has ls 2 [(0, .ref h), (1, .int n)] := hl
  refine lv_iload_n hx hb dX11_go_0 rfl (lv_at hl 1 rfl) ?_
  refine lv_iconst (v := 0) hx hb dX11_go_1 (by decide) ?_
  refine lv_sipush (v := 999) hx hb dX11_go_2 (by decide) ?_
  refine vp_callSi (W.runS (As := [.int n, .int 0, .int 999]) (rest := []) ⟨hx, hb, hml, hown, ht⟩ (c_X11_within l dC dI n 0 999 (n.toInt) (0) (999) (rfl : (n).toInt = _) (by decide : (0 : Int32).toInt = 0) (by decide : (999 : Int32).toInt = 999)) (kS 3 ht m_453 m_454 m_77 m_455 rfl rfl hd_X11_within_v ⟨Nat.le_of_ble_eq_true rfl, Nat.le_of_ble_eq_true rfl⟩) (sR noP (hK.sub (tys' := []) [] rfl)) rfl rfl hl.1 rfl (lv_room (Nat.le_of_ble_eq_true rfl)) dX11_go_5 ⟨Nat.le_of_ble_eq_true rfl, Nat.le_of_ble_eq_true rfl⟩) (fun r1 hr1 => ?_)
  rcases hr1 with ⟨rfl, fr1⟩ | ⟨rfl, fr1⟩
  · skip
    refine lv_if_ne (tgt := 14) hx hb dX11_go_8 (by decide) (fun c2 => ?_) (fun c2 => ?_)
    · skip
      refine lv_aload_n hx hb dX11_go_14 rfl (lv_at hl 0 rfl) ?_
      have i_11_10 : 0 ≤ (iv 11 10).toInt ∧ (iv 11 10).toInt ≤ 3000 := hI.1 11 10
      refine gX_11_10 hx hb ht hown hK hP m_425 (v := (iv 11 10)) rfl dX11_go_15 ?_
      refine lv_iload_n hx hb dX11_go_18 rfl (lv_at hl 1 rfl) ?_
      refine lv_iadd hx hb dX11_go_19 ?_
      refine lv_topi (fun v3 ev3 => ?_)
      have tv3 := z_add ev3 (rfl : ((iv 11 10)).toInt = _) (rfl : (n).toInt = _) (by omega) (by omega)
      refine lv_sipush (v := 3000) hx hb dX11_go_20 (by decide) ?_
      refine lv_icmp_le (tgt := 29) hx hb dX11_go_23 (by decide) (fun c4 => ?_) (fun c4 => ?_)
      · have fc4 := z_le (rfl : (v3).toInt = _) (by decide : (3000 : Int32).toInt = 3000) c4
        refine lv_aload_n hx hb dX11_go_29 rfl (lv_at hl 0 rfl) ?_
        refine lv_dup hx hb dX11_go_30 rfl ?_
        refine gX_11_10 hx hb ht hown hK hP m_425 (v := (iv 11 10)) rfl dX11_go_31 ?_
        refine lv_iload_n hx hb dX11_go_34 rfl (lv_at hl 1 rfl) ?_
        refine lv_iadd hx hb dX11_go_35 ?_
        refine lv_topi (fun v5 ev5 => ?_)
        obtain rfl : v3 = v5 := ev3.trans ev5.symm
        refine pX_11_10 (v := v3) hx hb ht hown hK hP hD hS m_425 dX11_go_36 (fun H locs hP hD hS => ?_)
        refine lv_aload_n hx hb dX11_go_39 rfl (lv_at hl 0 rfl) ?_
        refine gX_11_10 hx hb ht hown hK hP m_425 (v := v3) rfl dX11_go_40 ?_
        have hP9 : va_P (dC, dI) classes (WX h g ca (u2 iv 11 10 v3) lv fa la) H := hP
        have hD9 : va_D A (WX h g ca (u2 iv 11 10 v3) lv fa la) := hD
        exact W.iret (v := v3) hx hb hr (fun t ht9 hW => ⟨⟨v3, ((u2 iv 11 10 v3), lv, fa, la), rfl, ⟨v3, (show inb (0, 3000) v3 from ⟨by omega, by omega⟩), (show (((v3 : Int32).toInt = -100002 ∧ ¬ (0 ≤ (n).toInt ∧ (n).toInt ≤ 999) ∧ (v3 : Int32).toInt = (iv 11 10).toInt) ∨ ((v3 : Int32).toInt = -100003 ∧ 0 ≤ (n).toInt ∧ (n).toInt ≤ 999 ∧ 3000 < (iv 11 10).toInt + (n).toInt ∧ (v3 : Int32).toInt = (iv 11 10).toInt) ∨ (0 ≤ (n).toInt ∧ (n).toInt ≤ 999 ∧ (iv 11 10).toInt + (n).toInt ≤ 3000 ∧ (v3 : Int32).toInt = (iv 11 10).toInt + (n).toInt ∧ (v3 : Int32).toInt = (iv 11 10).toInt + (n).toInt)) from by omega), ⟨by omega, by omega⟩, rfl⟩, by rw [ht9]; exact hP9, hD9⟩, hS.F ht9⟩) hS.2.2 dX11_go_43
      · have fc4 := z_nle (rfl : (v3).toInt = _) (by decide : (3000 : Int32).toInt = 3000) c4
        refine lv_ldc hx hb hown (ht _ m_457) dX11_go_26 ?_
        have : ((-100003) : Int32).toInt = (-100003) := (by decide)
        have hP9 : va_P (dC, dI) classes (WX h g ca (u2 iv 11 10 (iv 11 10)) lv fa la) s.heap := hP
        have hD9 : va_D A (WX h g ca (u2 iv 11 10 (iv 11 10)) lv fa la) := hD
        exact W.iret (v := (-100003)) hx hb hr (fun t ht9 hW => ⟨⟨(-100003), ((u2 iv 11 10 (iv 11 10)), lv, fa, la), rfl, ⟨(iv 11 10), (hI.1 11 10), (show ((((-100003) : Int32).toInt = -100002 ∧ ¬ (0 ≤ (n).toInt ∧ (n).toInt ≤ 999) ∧ ((iv 11 10) : Int32).toInt = (iv 11 10).toInt) ∨ (((-100003) : Int32).toInt = -100003 ∧ 0 ≤ (n).toInt ∧ (n).toInt ≤ 999 ∧ 3000 < (iv 11 10).toInt + (n).toInt ∧ ((iv 11 10) : Int32).toInt = (iv 11 10).toInt) ∨ (0 ≤ (n).toInt ∧ (n).toInt ≤ 999 ∧ (iv 11 10).toInt + (n).toInt ≤ 3000 ∧ ((-100003) : Int32).toInt = (iv 11 10).toInt + (n).toInt ∧ ((iv 11 10) : Int32).toInt = (iv 11 10).toInt + (n).toInt)) from by omega), ⟨by decide, by decide⟩, rfl⟩, by rw [ht9]; exact hP9, hD9⟩, hS.F ht9⟩) hS.2.2 dX11_go_28
    · exact absurd c2 (by decide)
  · skip
    refine lv_if_ne (tgt := 14) hx hb dX11_go_8 (by decide) (fun c6 => ?_) (fun c6 => ?_)
    · exact absurd rfl c6
    · skip
      refine lv_ldc hx hb hown (ht _ m_456) dX11_go_11 ?_
      have : ((-100002) : Int32).toInt = (-100002) := (by decide)
      have i_11_10 : 0 ≤ (iv 11 10).toInt ∧ (iv 11 10).toInt ≤ 3000 := hI.1 11 10
      have hP9 : va_P (dC, dI) classes (WX h g ca (u2 iv 11 10 (iv 11 10)) lv fa la) s.heap := hP
      have hD9 : va_D A (WX h g ca (u2 iv 11 10 (iv 11 10)) lv fa la) := hD
      exact W.iret (v := (-100002)) hx hb hr (fun t ht9 hW => ⟨⟨(-100002), ((u2 iv 11 10 (iv 11 10)), lv, fa, la), rfl, ⟨(iv 11 10), (hI.1 11 10), (show ((((-100002) : Int32).toInt = -100002 ∧ ¬ (0 ≤ (n).toInt ∧ (n).toInt ≤ 999) ∧ ((iv 11 10) : Int32).toInt = (iv 11 10).toInt) ∨ (((-100002) : Int32).toInt = -100003 ∧ 0 ≤ (n).toInt ∧ (n).toInt ≤ 999 ∧ 3000 < (iv 11 10).toInt + (n).toInt ∧ ((iv 11 10) : Int32).toInt = (iv 11 10).toInt) ∨ (0 ≤ (n).toInt ∧ (n).toInt ≤ 999 ∧ (iv 11 10).toInt + (n).toInt ≤ 3000 ∧ ((-100002) : Int32).toInt = (iv 11 10).toInt + (n).toInt ∧ ((iv 11 10) : Int32).toInt = (iv 11 10).toInt + (n).toInt)) from by omega), ⟨by decide, by decide⟩, rfl⟩, by rw [ht9]; exact hP9, hD9⟩, hS.F ht9⟩) hS.2.2 dX11_go_13
set_option maxHeartbeats 4000000 in
set_option maxRecDepth 100000 in
/-- X12_go -/
theorem c_X12_go_x (l : Launch) (dC : Nat → ClassId) (dI : Nat → Nat → Nat) (sz : Nat) (h : Nat) (g : Nat → Nat → Nat) (ca : Nat → Nat → ClassId) (iv : Nat → Nat → Int32) (lv : Nat → Nat → Int64) (fa : Nat → Nat → Nat → Int32) (la : Nat → Nat → Nat → Int64) (hI : IX iv fa) (n : Int32) : Met l yX12_go (wc yX12_go cX12_go 2 (some .int)) ({ frames := 1, cells := 0, slots := 0, locals := 25 } : Room) (pW (dC, dI) classes (WM h g ca iv lv fa la) (TM ca) sz [.ref h, .int n]) (va_Qi (fun r (u : SS) => ∃ (ni_12_0 : Int32), inb (bI 12 0) ni_12_0 ∧ (((r.toInt = -100002 ∧ ¬ (0 ≤ n.toInt ∧ n.toInt ≤ 999) ∧ (ni_12_0).toInt = (iv 12 0).toInt) ∨ (r.toInt = -100003 ∧ 0 ≤ n.toInt ∧ n.toInt ≤ 999 ∧ 3000 < (iv 12 0).toInt + n.toInt ∧ (ni_12_0).toInt = (iv 12 0).toInt) ∨ (0 ≤ n.toInt ∧ n.toInt ≤ 999 ∧ (iv 12 0).toInt + n.toInt ≤ 3000 ∧ r.toInt = (iv 12 0).toInt + n.toInt ∧ (ni_12_0).toInt = (iv 12 0).toInt + n.toInt))) ∧ ((-100003) ≤ r.toInt ∧ r.toInt ≤ 3000) ∧ u = ((u2 iv 12 0 ni_12_0), lv, fa, la)) (bM (dC, dI) h g ca (va_A (WM h g ca iv lv fa la) sz)) (va_A (WM h g ca iv lv fa la) sz)) 0 0 (va_A (WM h g ca iv lv fa la) sz) := by
  refine Met.ofW (cc := cX12_go) (maxL := 2) (ret := (some .int)) (by decide) rfl ?_
  intro p e s m args below meth c s₁ B hml hv
  obtain ⟨rfl, hsz, hP, hK, hD0⟩ := hv
  have hx := B.exec
  have hb := B.bytes
  have hr := B.returns
  have ht := tb_tl (atoms_spec (ws := wc yX12_go cX12_go 2 (some .int)) B.pre)
  have hown : s.vm.findClass RX12 = some m.cls := findClass_of_methodNamed B.named
  have hlocks := B.notSynchronized
  subst hsz
  have hD := hD0.self (sz := s.heap.size)
  generalize hAe : va_A (WM h g ca iv lv fa la) s.heap.size = A at hD ⊢
  have hA : ∀ q : Nat, s.heap.size ≤ q → A q := fun q h => by rw [← hAe]; exact Or.inr h
  have hS : va_S A s.heap s.heap [] := va_S.rf
  have hl := lv_entry [.ref h, .int n] (n := 2) (Nat.le_of_ble_eq_true rfl)
  rw [lg_entry_eq]
  generalize (lg_sl [.ref h, .int n] ++ List.replicate (2 - (lg_sl [.ref h, .int n]).length) Slot.unset).toArray = ls at hl ⊢
  have hl : lv_has ls 2 [(0, .ref h), (1, .int n)] := hl
  refine lv_iload_n hx hb dX12_go_0 rfl (lv_at hl 1 rfl) ?_
  refine lv_i2l (v := (n.toInt64)) hx hb dX12_go_1 rfl ?_
  refine lv_lconst (v := 0) hx hb dX12_go_2 (by decide) ?_
  refine lv_ldc2 hx hb hown (ht _ m_1369) dX12_go_3 ?_
  refine vp_callSi (W.runS (As := [.long (n.toInt64), .long 0, .long 999]) (rest := []) ⟨hx, hb, hml, hown, ht⟩ (c_X12_in l dC dI (n.toInt64) 0 999 (n.toInt) (0) (999) ((Int32.toInt_toInt64 n).trans rfl) (by decide : (0 : Int64).toInt = 0) (by decide : (999 : Int64).toInt = 999)) (kS 3 ht m_1370 m_1371 m_89 m_1372 rfl rfl hd_X12_in_v ⟨Nat.le_of_ble_eq_true rfl, Nat.le_of_ble_eq_true rfl⟩) (sR noP (hK.sub (tys' := []) [] rfl)) rfl rfl hl.1 rfl (lv_room (Nat.le_of_ble_eq_true rfl)) dX12_go_6 ⟨Nat.le_of_ble_eq_true rfl, Nat.le_of_ble_eq_true rfl⟩) (fun r1 hr1 => ?_)
  rcases hr1 with ⟨rfl, fr1⟩ | ⟨rfl, fr1⟩
  · skip
    refine lv_if_ne (tgt := 15) hx hb dX12_go_9 (by decide) (fun c2 => ?_) (fun c2 => ?_)
    · skip
      refine lv_aload_n hx hb dX12_go_15 rfl (lv_at hl 0 rfl) ?_
      have i_12_0 : 0 ≤ (iv 12 0).toInt ∧ (iv 12 0).toInt ≤ 3000 := hI.1 12 0
      refine gM_12_0 hx hb ht hown hK hP m_1139 (v := (iv 12 0)) rfl dX12_go_16 ?_
      refine lv_iload_n hx hb dX12_go_19 rfl (lv_at hl 1 rfl) ?_
      refine lv_iadd hx hb dX12_go_20 ?_
      refine lv_topi (fun v3 ev3 => ?_)
      have tv3 := z_add ev3 (rfl : ((iv 12 0)).toInt = _) (rfl : (n).toInt = _) (by omega) (by omega)
      refine lv_sipush (v := 3000) hx hb dX12_go_21 (by decide) ?_
      refine lv_icmp_le (tgt := 30) hx hb dX12_go_24 (by decide) (fun c4 => ?_) (fun c4 => ?_)
      · have fc4 := z_le (rfl : (v3).toInt = _) (by decide : (3000 : Int32).toInt = 3000) c4
        refine lv_aload_n hx hb dX12_go_30 rfl (lv_at hl 0 rfl) ?_
        refine lv_dup hx hb dX12_go_31 rfl ?_
        refine gM_12_0 hx hb ht hown hK hP m_1139 (v := (iv 12 0)) rfl dX12_go_32 ?_
        refine lv_iload_n hx hb dX12_go_35 rfl (lv_at hl 1 rfl) ?_
        refine lv_iadd hx hb dX12_go_36 ?_
        refine lv_topi (fun v5 ev5 => ?_)
        obtain rfl : v3 = v5 := ev3.trans ev5.symm
        refine pM_12_0 (v := v3) hx hb ht hown hK hP hD hS m_1139 dX12_go_37 (fun H locs hP hD hS => ?_)
        refine lv_aload_n hx hb dX12_go_40 rfl (lv_at hl 0 rfl) ?_
        refine gM_12_0 hx hb ht hown hK hP m_1139 (v := v3) rfl dX12_go_41 ?_
        have hP9 : va_P (dC, dI) classes (WM h g ca (u2 iv 12 0 v3) lv fa la) H := hP
        have hD9 : va_D A (WM h g ca (u2 iv 12 0 v3) lv fa la) := hD
        exact W.iret (v := v3) hx hb hr (fun t ht9 hW => ⟨⟨v3, ((u2 iv 12 0 v3), lv, fa, la), rfl, ⟨v3, (show inb (0, 3000) v3 from ⟨by omega, by omega⟩), (show (((v3 : Int32).toInt = -100002 ∧ ¬ (0 ≤ (n).toInt ∧ (n).toInt ≤ 999) ∧ (v3 : Int32).toInt = (iv 12 0).toInt) ∨ ((v3 : Int32).toInt = -100003 ∧ 0 ≤ (n).toInt ∧ (n).toInt ≤ 999 ∧ 3000 < (iv 12 0).toInt + (n).toInt ∧ (v3 : Int32).toInt = (iv 12 0).toInt) ∨ (0 ≤ (n).toInt ∧ (n).toInt ≤ 999 ∧ (iv 12 0).toInt + (n).toInt ≤ 3000 ∧ (v3 : Int32).toInt = (iv 12 0).toInt + (n).toInt ∧ (v3 : Int32).toInt = (iv 12 0).toInt + (n).toInt)) from by omega), ⟨by omega, by omega⟩, rfl⟩, by rw [ht9]; exact hP9, hD9⟩, hS.F ht9⟩) hS.2.2 dX12_go_44
      · have fc4 := z_nle (rfl : (v3).toInt = _) (by decide : (3000 : Int32).toInt = 3000) c4
        refine lv_ldc hx hb hown (ht _ m_1374) dX12_go_27 ?_
        have : ((-100003) : Int32).toInt = (-100003) := (by decide)
        have hP9 : va_P (dC, dI) classes (WM h g ca (u2 iv 12 0 (iv 12 0)) lv fa la) s.heap := hP
        have hD9 : va_D A (WM h g ca (u2 iv 12 0 (iv 12 0)) lv fa la) := hD
        exact W.iret (v := (-100003)) hx hb hr (fun t ht9 hW => ⟨⟨(-100003), ((u2 iv 12 0 (iv 12 0)), lv, fa, la), rfl, ⟨(iv 12 0), (hI.1 12 0), (show ((((-100003) : Int32).toInt = -100002 ∧ ¬ (0 ≤ (n).toInt ∧ (n).toInt ≤ 999) ∧ ((iv 12 0) : Int32).toInt = (iv 12 0).toInt) ∨ (((-100003) : Int32).toInt = -100003 ∧ 0 ≤ (n).toInt ∧ (n).toInt ≤ 999 ∧ 3000 < (iv 12 0).toInt + (n).toInt ∧ ((iv 12 0) : Int32).toInt = (iv 12 0).toInt) ∨ (0 ≤ (n).toInt ∧ (n).toInt ≤ 999 ∧ (iv 12 0).toInt + (n).toInt ≤ 3000 ∧ ((-100003) : Int32).toInt = (iv 12 0).toInt + (n).toInt ∧ ((iv 12 0) : Int32).toInt = (iv 12 0).toInt + (n).toInt)) from by omega), ⟨by decide, by decide⟩, rfl⟩, by rw [ht9]; exact hP9, hD9⟩, hS.F ht9⟩) hS.2.2 dX12_go_29
    · exact absurd c2 (by decide)
  · skip
    refine lv_if_ne (tgt := 15) hx hb dX12_go_9 (by decide) (fun c6 => ?_) (fun c6 => ?_)
    · exact absurd rfl c6
    · skip
      refine lv_ldc hx hb hown (ht _ m_1373) dX12_go_12 ?_
      have : ((-100002) : Int32).toInt = (-100002) := (by decide)
      have i_12_0 : 0 ≤ (iv 12 0).toInt ∧ (iv 12 0).toInt ≤ 3000 := hI.1 12 0
      have hP9 : va_P (dC, dI) classes (WM h g ca (u2 iv 12 0 (iv 12 0)) lv fa la) s.heap := hP
      have hD9 : va_D A (WM h g ca (u2 iv 12 0 (iv 12 0)) lv fa la) := hD
      exact W.iret (v := (-100002)) hx hb hr (fun t ht9 hW => ⟨⟨(-100002), ((u2 iv 12 0 (iv 12 0)), lv, fa, la), rfl, ⟨(iv 12 0), (hI.1 12 0), (show ((((-100002) : Int32).toInt = -100002 ∧ ¬ (0 ≤ (n).toInt ∧ (n).toInt ≤ 999) ∧ ((iv 12 0) : Int32).toInt = (iv 12 0).toInt) ∨ (((-100002) : Int32).toInt = -100003 ∧ 0 ≤ (n).toInt ∧ (n).toInt ≤ 999 ∧ 3000 < (iv 12 0).toInt + (n).toInt ∧ ((iv 12 0) : Int32).toInt = (iv 12 0).toInt) ∨ (0 ≤ (n).toInt ∧ (n).toInt ≤ 999 ∧ (iv 12 0).toInt + (n).toInt ≤ 3000 ∧ ((-100002) : Int32).toInt = (iv 12 0).toInt + (n).toInt ∧ ((iv 12 0) : Int32).toInt = (iv 12 0).toInt + (n).toInt)) from by omega), ⟨by decide, by decide⟩, rfl⟩, by rw [ht9]; exact hP9, hD9⟩, hS.F ht9⟩) hS.2.2 dX12_go_14
