/-! ===== ch1 ===== -/

/-- the loss of a bale, and the set that cheat answers -/
def lossI (rw dr : Int64) : Int32 := if rw.toInt = 0 then 0 else (1000 * (rw - dr) / rw).toInt32
def chF (gu as lo g a w : Int32) : Int := (if g.toInt < gu.toInt then 1 else 0) + (if a.toInt < as.toInt then 2 else 0) + (if w.toInt < (gu + as + lo).toInt then 4 else 0)
set_option maxHeartbeats 4000000 in
set_option maxRecDepth 100000 in
/-- X11_burnt -/
theorem c_X11_burnt_c (l : Launch) (dC : Nat → ClassId) (dI : Nat → Nat → Nat) (sz : Nat) (h : Nat) (g : Nat → Nat → Nat) (ca : Nat → Nat → ClassId) (iv : Nat → Nat → Int32) (lv : Nat → Nat → Int64) (fa : Nat → Nat → Nat → Int32) (la : Nat → Nat → Nat → Int64) (hI : IX iv fa) (a : Int32) (b : Int32) (d : Int32) (k : Int32) : Met l yX11_burnt (wc yX11_burnt cX11_burnt 5 (some .int)) ({ frames := 1, cells := 0, slots := 0, locals := 22 } : Room) (pW (dC, dI) classes (WX h g ca iv lv fa la) (TX ca) sz [.ref h, .int a, .int b, .int d, .int k]) (va_Qi (fun r (u : SS) => ∃ (na_0_3 : Nat → Int32) (na_0_4 : Nat → Int32), (((r.toInt = -100001 ∧ ¬ (0 ≤ a.toInt ∧ a.toInt < (iv 0 7).toInt)) ∨ (r.toInt = -100002 ∧ 0 ≤ a.toInt ∧ a.toInt < (iv 0 7).toInt ∧ ¬ (0 ≤ b.toInt ∧ b.toInt ≤ 1 ∧ 0 ≤ d.toInt ∧ d.toInt ≤ k.toInt ∧ k.toInt ≤ 999)) ∨ (r.toInt = 1 ∧ 0 ≤ a.toInt ∧ a.toInt < (iv 0 7).toInt ∧ 0 ≤ b.toInt ∧ b.toInt ≤ 1 ∧ 0 ≤ d.toInt ∧ d.toInt ≤ k.toInt ∧ k.toInt ≤ 999))) ∧ ((((r.toInt ≠ 1 ∨ b.toInt ≠ 0) ∧ ∀ j : Nat, na_0_3 j = (fa 0 3) j) ∨ (r.toInt = 1 ∧ b.toInt = 0 ∧ ∀ j : Nat, na_0_3 j = upd (fa 0 3) (a).toNatClampNeg d j))) ∧ ((((r.toInt ≠ 1 ∨ b.toInt ≠ 1) ∧ ∀ j : Nat, na_0_4 j = (fa 0 4) j) ∨ (r.toInt = 1 ∧ b.toInt = 1 ∧ ∀ j : Nat, na_0_4 j = upd (fa 0 4) (a).toNatClampNeg d j))) ∧ ((-100002) ≤ r.toInt ∧ r.toInt ≤ 1) ∧ u = (iv, lv, (u2 (u2 fa 0 3 na_0_3) 0 4 na_0_4), la)) (bX (dC, dI) h g ca (va_A (WX h g ca iv lv fa la) sz)) (va_A (WX h g ca iv lv fa la) sz)) 0 0 (va_A (WX h g ca iv lv fa la) sz) := by
  refine Met.ofW (cc := cX11_burnt) (maxL := 5) (ret := (some .int)) (by decide) rfl ?_
  intro p e s m args below meth c s₁ B hml hv
  obtain ⟨rfl, hsz, hP, hK, hD0⟩ := hv
  have hx := B.exec
  have hb := B.bytes
  have hr := B.returns
  have ht := tb_tl (atoms_spec (ws := wc yX11_burnt cX11_burnt 5 (some .int)) B.pre)
  have hown : s.vm.findClass RX11 = some m.cls := findClass_of_methodNamed B.named
  have hlocks := B.notSynchronized
  subst hsz
  have hD := hD0.self (sz := s.heap.size)
  generalize hAe : va_A (WX h g ca iv lv fa la) s.heap.size = A at hD ⊢
  have hA : ∀ q : Nat, s.heap.size ≤ q → A q := fun q h => by rw [← hAe]; exact Or.inr h
  have hS : va_S A s.heap s.heap [] := va_S.rf
  have hl := lv_entry [.ref h, .int a, .int b, .int d, .int k] (n := 5) (Nat.le_of_ble_eq_true rfl)
  rw [lg_entry_eq]
  generalize (lg_sl [.ref h, .int a, .int b, .int d, .int k] ++ List.replicate (5 - (lg_sl [.ref h, .int a, .int b, .int d, .int k]).length) Slot.unset).toArray = ls at hl ⊢
  have hl : lv_has ls 5 [(0, .ref h), (1, .int a), (2, .int b), (3, .int d), (4, .int k)] := hl
  refine lv_aload_n hx hb dX11_burnt_0 rfl (lv_at hl 0 rfl) ?_
  refine gX_11_2 hx hb ht hown hK hP m_417 dX11_burnt_1 ?_
  refine lv_iload_n hx hb dX11_burnt_4 rfl (lv_at hl 1 rfl) ?_
  refine vp_callSi (W.runV (As := [.int a]) (rest := []) ⟨hx, hb, hml, hown, ht⟩ (c_X0_has l dC dI h g ca iv lv fa la hI a) (kV 1 ht m_472 m_473 m_474 m_80 m_475 rfl rfl hd_X0_has_v ⟨Nat.le_of_ble_eq_true rfl, Nat.le_of_ble_eq_true rfl⟩) (vR hP hK (rX_0 hK hP)) rfl rfl hl.1 rfl (lv_room (Nat.le_of_ble_eq_true rfl)) dX11_burnt_5 ⟨Nat.le_of_ble_eq_true rfl, Nat.le_of_ble_eq_true rfl⟩) (fun r1 hr1 => ?_)
  rcases hr1 with ⟨rfl, fr1⟩ | ⟨rfl, fr1⟩
  · skip
    have i_0_7 : 0 ≤ (iv 0 7).toInt ∧ (iv 0 7).toInt ≤ 10 := hI.1 0 7
    have fr1 : (0 ≤ (a : Int32).toInt ∧ (a : Int32).toInt < ((iv 0 7) : Int32).toInt) := fr1
    refine lv_if_ne (tgt := 14) hx hb dX11_burnt_8 (by decide) (fun c2 => ?_) (fun c2 => ?_)
    · skip
      refine lv_iload_n hx hb dX11_burnt_14 rfl (lv_at hl 2 rfl) ?_
      refine lv_iconst (v := 0) hx hb dX11_burnt_15 (by decide) ?_
      refine lv_iconst (v := 1) hx hb dX11_burnt_16 (by decide) ?_
      refine vp_callSi (W.runS (As := [.int b, .int 0, .int 1]) (rest := []) ⟨hx, hb, hml, hown, ht⟩ (c_X11_within l dC dI b 0 1 (b.toInt) (0) (1) (rfl : (b).toInt = _) (by decide : (0 : Int32).toInt = 0) (by decide : (1 : Int32).toInt = 1)) (kS 3 ht m_453 m_454 m_77 m_455 rfl rfl hd_X11_within_v ⟨Nat.le_of_ble_eq_true rfl, Nat.le_of_ble_eq_true rfl⟩) (sR noP (hK.sub (tys' := []) [] rfl)) rfl rfl hl.1 rfl (lv_room (Nat.le_of_ble_eq_true rfl)) dX11_burnt_17 ⟨Nat.le_of_ble_eq_true rfl, Nat.le_of_ble_eq_true rfl⟩) (fun r3 hr3 => ?_)
      rcases hr3 with ⟨rfl, fr3⟩ | ⟨rfl, fr3⟩
      · skip
        refine lv_if_eq (tgt := 46) hx hb dX11_burnt_20 (by decide) (fun c4 => ?_) (fun c4 => ?_)
        · exact absurd c4 (by decide)
        · skip
          refine lv_iload_n hx hb dX11_burnt_23 rfl (lv_at hl 3 rfl) ?_
          refine lv_iconst (v := 0) hx hb dX11_burnt_24 (by decide) ?_
          refine lv_sipush (v := 999) hx hb dX11_burnt_25 (by decide) ?_
          refine vp_callSi (W.runS (As := [.int d, .int 0, .int 999]) (rest := []) ⟨hx, hb, hml, hown, ht⟩ (c_X11_within l dC dI d 0 999 (d.toInt) (0) (999) (rfl : (d).toInt = _) (by decide : (0 : Int32).toInt = 0) (by decide : (999 : Int32).toInt = 999)) (kS 3 ht m_453 m_454 m_77 m_455 rfl rfl hd_X11_within_v ⟨Nat.le_of_ble_eq_true rfl, Nat.le_of_ble_eq_true rfl⟩) (sR noP (hK.sub (tys' := []) [] rfl)) rfl rfl hl.1 rfl (lv_room (Nat.le_of_ble_eq_true rfl)) dX11_burnt_28 ⟨Nat.le_of_ble_eq_true rfl, Nat.le_of_ble_eq_true rfl⟩) (fun r5 hr5 => ?_)
          rcases hr5 with ⟨rfl, fr5⟩ | ⟨rfl, fr5⟩
          · skip
            refine lv_if_eq (tgt := 46) hx hb dX11_burnt_31 (by decide) (fun c6 => ?_) (fun c6 => ?_)
            · exact absurd c6 (by decide)
            · skip
              refine lv_iload hx hb dX11_burnt_34 (lv_at hl 4 rfl) ?_
              refine lv_iload_n hx hb dX11_burnt_36 rfl (lv_at hl 3 rfl) ?_
              refine lv_sipush (v := 999) hx hb dX11_burnt_37 (by decide) ?_
              refine vp_callSi (W.runS (As := [.int k, .int d, .int 999]) (rest := []) ⟨hx, hb, hml, hown, ht⟩ (c_X11_within l dC dI k d 999 (k.toInt) (d.toInt) (999) (rfl : (k).toInt = _) (rfl : (d).toInt = _) (by decide : (999 : Int32).toInt = 999)) (kS 3 ht m_453 m_454 m_77 m_455 rfl rfl hd_X11_within_v ⟨Nat.le_of_ble_eq_true rfl, Nat.le_of_ble_eq_true rfl⟩) (sR noP (hK.sub (tys' := []) [] rfl)) rfl rfl hl.1 rfl (lv_room (Nat.le_of_ble_eq_true rfl)) dX11_burnt_40 ⟨Nat.le_of_ble_eq_true rfl, Nat.le_of_ble_eq_true rfl⟩) (fun r7 hr7 => ?_)
              rcases hr7 with ⟨rfl, fr7⟩ | ⟨rfl, fr7⟩
              · skip
                refine lv_if_ne (tgt := 49) hx hb dX11_burnt_43 (by decide) (fun c8 => ?_) (fun c8 => ?_)
                · skip
                  refine lv_iload_n hx hb dX11_burnt_49 rfl (lv_at hl 2 rfl) ?_
                  refine lv_if_ne (tgt := 66) hx hb dX11_burnt_50 (by decide) (fun c9 => ?_) (fun c9 => ?_)
                  · have fc9 := z_ne (rfl : (b).toInt = _) (by decide : (0 : Int32).toInt = 0) c9
                    refine lv_aload_n hx hb dX11_burnt_66 rfl (lv_at hl 0 rfl) ?_
                    refine gX_11_2 hx hb ht hown hK hP m_417 dX11_burnt_67 ?_
                    refine gX_0_4 hx hb ht hown hK hP m_161 dX11_burnt_70 ?_
                    refine lv_iload_n hx hb dX11_burnt_73 rfl (lv_at hl 1 rfl) ?_
                    refine lv_iload_n hx hb dX11_burnt_74 rfl (lv_at hl 3 rfl) ?_
                    refine tX_0_4 hx hb hK hP hD hS (f0 := (fa 0 4)) rfl (i := a) (x := d) (vp_in_iff.mpr ⟨by omega, by omega⟩) dX11_burnt_75 (fun f10 ef10 H locs hP hD hS => ?_)
                    have hf10 : ∀ j, inb (bA 0 4 j) (f10 j) := fun j => full_i _
                    refine lv_iconst (v := 1) hx hb dX11_burnt_76 (by decide) ?_
                    have : (1 : Int32).toInt = 1 := (by decide)
                    have hP9 : va_P (dC, dI) classes (WX h g ca iv lv (u2 (u2 fa 0 3 (fa 0 3)) 0 4 f10) la) H := hP
                    have hD9 : va_D A (WX h g ca iv lv (u2 (u2 fa 0 3 (fa 0 3)) 0 4 f10) la) := hD
                    exact W.iret (v := 1) hx hb hr (fun t ht9 hW => ⟨⟨1, (iv, lv, (u2 (u2 fa 0 3 (fa 0 3)) 0 4 f10), la), rfl, ⟨(fa 0 3), f10, (show (((1 : Int32).toInt = -100001 ∧ ¬ (0 ≤ (a).toInt ∧ (a).toInt < (iv 0 7).toInt)) ∨ ((1 : Int32).toInt = -100002 ∧ 0 ≤ (a).toInt ∧ (a).toInt < (iv 0 7).toInt ∧ ¬ (0 ≤ (b).toInt ∧ (b).toInt ≤ 1 ∧ 0 ≤ (d).toInt ∧ (d).toInt ≤ (k).toInt ∧ (k).toInt ≤ 999)) ∨ ((1 : Int32).toInt = 1 ∧ 0 ≤ (a).toInt ∧ (a).toInt < (iv 0 7).toInt ∧ 0 ≤ (b).toInt ∧ (b).toInt ≤ 1 ∧ 0 ≤ (d).toInt ∧ (d).toInt ≤ (k).toInt ∧ (k).toInt ≤ 999)) from by omega), (show ((((1 : Int32).toInt ≠ 1 ∨ (b).toInt ≠ 0) ∧ ∀ j : Nat, (fa 0 3) j = (fa 0 3) j) ∨ ((1 : Int32).toInt = 1 ∧ (b).toInt = 0 ∧ ∀ j : Nat, (fa 0 3) j = upd (fa 0 3) (a).toNatClampNeg d j)) from Or.inl ⟨by omega, fun j => rfl⟩), (show ((((1 : Int32).toInt ≠ 1 ∨ (b).toInt ≠ 1) ∧ ∀ j : Nat, f10 j = (fa 0 4) j) ∨ ((1 : Int32).toInt = 1 ∧ (b).toInt = 1 ∧ ∀ j : Nat, f10 j = upd (fa 0 4) (a).toNatClampNeg d j)) from Or.inr ⟨by omega, by omega, fun j => (by rw [ef10])⟩), ⟨by decide, by decide⟩, rfl⟩, by rw [ht9]; exact hP9, hD9⟩, hS.F ht9⟩) hS.2.2 dX11_burnt_77
                  · have fc9 := z_eq (rfl : (b).toInt = _) (by decide : (0 : Int32).toInt = 0) c9
                    refine lv_aload_n hx hb dX11_burnt_53 rfl (lv_at hl 0 rfl) ?_
                    refine gX_11_2 hx hb ht hown hK hP m_417 dX11_burnt_54 ?_
                    refine gX_0_3 hx hb ht hown hK hP m_159 dX11_burnt_57 ?_
                    refine lv_iload_n hx hb dX11_burnt_60 rfl (lv_at hl 1 rfl) ?_
                    refine lv_iload_n hx hb dX11_burnt_61 rfl (lv_at hl 3 rfl) ?_
                    refine tX_0_3 hx hb hK hP hD hS (f0 := (fa 0 3)) rfl (i := a) (x := d) (vp_in_iff.mpr ⟨by omega, by omega⟩) dX11_burnt_62 (fun f11 ef11 H locs hP hD hS => ?_)
                    have hf11 : ∀ j, inb (bA 0 3 j) (f11 j) := fun j => full_i _
                    refine lv_goto (tgt := 76) hx hb dX11_burnt_63 (by decide) ?_
                    refine lv_iconst (v := 1) hx hb dX11_burnt_76 (by decide) ?_
                    have : (1 : Int32).toInt = 1 := (by decide)
                    have hP9 : va_P (dC, dI) classes (WX h g ca iv lv (u2 (u2 fa 0 3 f11) 0 4 (fa 0 4)) la) H := hP
                    have hD9 : va_D A (WX h g ca iv lv (u2 (u2 fa 0 3 f11) 0 4 (fa 0 4)) la) := hD
                    exact W.iret (v := 1) hx hb hr (fun t ht9 hW => ⟨⟨1, (iv, lv, (u2 (u2 fa 0 3 f11) 0 4 (fa 0 4)), la), rfl, ⟨f11, (fa 0 4), (show (((1 : Int32).toInt = -100001 ∧ ¬ (0 ≤ (a).toInt ∧ (a).toInt < (iv 0 7).toInt)) ∨ ((1 : Int32).toInt = -100002 ∧ 0 ≤ (a).toInt ∧ (a).toInt < (iv 0 7).toInt ∧ ¬ (0 ≤ (b).toInt ∧ (b).toInt ≤ 1 ∧ 0 ≤ (d).toInt ∧ (d).toInt ≤ (k).toInt ∧ (k).toInt ≤ 999)) ∨ ((1 : Int32).toInt = 1 ∧ 0 ≤ (a).toInt ∧ (a).toInt < (iv 0 7).toInt ∧ 0 ≤ (b).toInt ∧ (b).toInt ≤ 1 ∧ 0 ≤ (d).toInt ∧ (d).toInt ≤ (k).toInt ∧ (k).toInt ≤ 999)) from by omega), (show ((((1 : Int32).toInt ≠ 1 ∨ (b).toInt ≠ 0) ∧ ∀ j : Nat, f11 j = (fa 0 3) j) ∨ ((1 : Int32).toInt = 1 ∧ (b).toInt = 0 ∧ ∀ j : Nat, f11 j = upd (fa 0 3) (a).toNatClampNeg d j)) from Or.inr ⟨by omega, by omega, fun j => (by rw [ef11])⟩), (show ((((1 : Int32).toInt ≠ 1 ∨ (b).toInt ≠ 1) ∧ ∀ j : Nat, (fa 0 4) j = (fa 0 4) j) ∨ ((1 : Int32).toInt = 1 ∧ (b).toInt = 1 ∧ ∀ j : Nat, (fa 0 4) j = upd (fa 0 4) (a).toNatClampNeg d j)) from Or.inl ⟨by omega, fun j => rfl⟩), ⟨by decide, by decide⟩, rfl⟩, by rw [ht9]; exact hP9, hD9⟩, hS.F ht9⟩) hS.2.2 dX11_burnt_77
                · exact absurd c8 (by decide)
              · skip
                refine lv_if_ne (tgt := 49) hx hb dX11_burnt_43 (by decide) (fun c12 => ?_) (fun c12 => ?_)
                · exact absurd rfl c12
                · skip
                  refine lv_ldc hx hb hown (ht _ m_456) dX11_burnt_46 ?_
                  have : ((-100002) : Int32).toInt = (-100002) := (by decide)
                  have hP9 : va_P (dC, dI) classes (WX h g ca iv lv (u2 (u2 fa 0 3 (fa 0 3)) 0 4 (fa 0 4)) la) s.heap := hP
                  have hD9 : va_D A (WX h g ca iv lv (u2 (u2 fa 0 3 (fa 0 3)) 0 4 (fa 0 4)) la) := hD
                  exact W.iret (v := (-100002)) hx hb hr (fun t ht9 hW => ⟨⟨(-100002), (iv, lv, (u2 (u2 fa 0 3 (fa 0 3)) 0 4 (fa 0 4)), la), rfl, ⟨(fa 0 3), (fa 0 4), (show ((((-100002) : Int32).toInt = -100001 ∧ ¬ (0 ≤ (a).toInt ∧ (a).toInt < (iv 0 7).toInt)) ∨ (((-100002) : Int32).toInt = -100002 ∧ 0 ≤ (a).toInt ∧ (a).toInt < (iv 0 7).toInt ∧ ¬ (0 ≤ (b).toInt ∧ (b).toInt ≤ 1 ∧ 0 ≤ (d).toInt ∧ (d).toInt ≤ (k).toInt ∧ (k).toInt ≤ 999)) ∨ (((-100002) : Int32).toInt = 1 ∧ 0 ≤ (a).toInt ∧ (a).toInt < (iv 0 7).toInt ∧ 0 ≤ (b).toInt ∧ (b).toInt ≤ 1 ∧ 0 ≤ (d).toInt ∧ (d).toInt ≤ (k).toInt ∧ (k).toInt ≤ 999)) from by omega), (show (((((-100002) : Int32).toInt ≠ 1 ∨ (b).toInt ≠ 0) ∧ ∀ j : Nat, (fa 0 3) j = (fa 0 3) j) ∨ (((-100002) : Int32).toInt = 1 ∧ (b).toInt = 0 ∧ ∀ j : Nat, (fa 0 3) j = upd (fa 0 3) (a).toNatClampNeg d j)) from Or.inl ⟨by omega, fun j => rfl⟩), (show (((((-100002) : Int32).toInt ≠ 1 ∨ (b).toInt ≠ 1) ∧ ∀ j : Nat, (fa 0 4) j = (fa 0 4) j) ∨ (((-100002) : Int32).toInt = 1 ∧ (b).toInt = 1 ∧ ∀ j : Nat, (fa 0 4) j = upd (fa 0 4) (a).toNatClampNeg d j)) from Or.inl ⟨by omega, fun j => rfl⟩), ⟨by decide, by decide⟩, rfl⟩, by rw [ht9]; exact hP9, hD9⟩, hS.F ht9⟩) hS.2.2 dX11_burnt_48
          · skip
            refine lv_if_eq (tgt := 46) hx hb dX11_burnt_31 (by decide) (fun c13 => ?_) (fun c13 => ?_)
            · skip
              refine lv_ldc hx hb hown (ht _ m_456) dX11_burnt_46 ?_
              have : ((-100002) : Int32).toInt = (-100002) := (by decide)
              have hP9 : va_P (dC, dI) classes (WX h g ca iv lv (u2 (u2 fa 0 3 (fa 0 3)) 0 4 (fa 0 4)) la) s.heap := hP
              have hD9 : va_D A (WX h g ca iv lv (u2 (u2 fa 0 3 (fa 0 3)) 0 4 (fa 0 4)) la) := hD
              exact W.iret (v := (-100002)) hx hb hr (fun t ht9 hW => ⟨⟨(-100002), (iv, lv, (u2 (u2 fa 0 3 (fa 0 3)) 0 4 (fa 0 4)), la), rfl, ⟨(fa 0 3), (fa 0 4), (show ((((-100002) : Int32).toInt = -100001 ∧ ¬ (0 ≤ (a).toInt ∧ (a).toInt < (iv 0 7).toInt)) ∨ (((-100002) : Int32).toInt = -100002 ∧ 0 ≤ (a).toInt ∧ (a).toInt < (iv 0 7).toInt ∧ ¬ (0 ≤ (b).toInt ∧ (b).toInt ≤ 1 ∧ 0 ≤ (d).toInt ∧ (d).toInt ≤ (k).toInt ∧ (k).toInt ≤ 999)) ∨ (((-100002) : Int32).toInt = 1 ∧ 0 ≤ (a).toInt ∧ (a).toInt < (iv 0 7).toInt ∧ 0 ≤ (b).toInt ∧ (b).toInt ≤ 1 ∧ 0 ≤ (d).toInt ∧ (d).toInt ≤ (k).toInt ∧ (k).toInt ≤ 999)) from by omega), (show (((((-100002) : Int32).toInt ≠ 1 ∨ (b).toInt ≠ 0) ∧ ∀ j : Nat, (fa 0 3) j = (fa 0 3) j) ∨ (((-100002) : Int32).toInt = 1 ∧ (b).toInt = 0 ∧ ∀ j : Nat, (fa 0 3) j = upd (fa 0 3) (a).toNatClampNeg d j)) from Or.inl ⟨by omega, fun j => rfl⟩), (show (((((-100002) : Int32).toInt ≠ 1 ∨ (b).toInt ≠ 1) ∧ ∀ j : Nat, (fa 0 4) j = (fa 0 4) j) ∨ (((-100002) : Int32).toInt = 1 ∧ (b).toInt = 1 ∧ ∀ j : Nat, (fa 0 4) j = upd (fa 0 4) (a).toNatClampNeg d j)) from Or.inl ⟨by omega, fun j => rfl⟩), ⟨by decide, by decide⟩, rfl⟩, by rw [ht9]; exact hP9, hD9⟩, hS.F ht9⟩) hS.2.2 dX11_burnt_48
            · exact absurd rfl c13
      · skip
        refine lv_if_eq (tgt := 46) hx hb dX11_burnt_20 (by decide) (fun c14 => ?_) (fun c14 => ?_)
        · skip
          refine lv_ldc hx hb hown (ht _ m_456) dX11_burnt_46 ?_
          have : ((-100002) : Int32).toInt = (-100002) := (by decide)
          have hP9 : va_P (dC, dI) classes (WX h g ca iv lv (u2 (u2 fa 0 3 (fa 0 3)) 0 4 (fa 0 4)) la) s.heap := hP
          have hD9 : va_D A (WX h g ca iv lv (u2 (u2 fa 0 3 (fa 0 3)) 0 4 (fa 0 4)) la) := hD
          exact W.iret (v := (-100002)) hx hb hr (fun t ht9 hW => ⟨⟨(-100002), (iv, lv, (u2 (u2 fa 0 3 (fa 0 3)) 0 4 (fa 0 4)), la), rfl, ⟨(fa 0 3), (fa 0 4), (show ((((-100002) : Int32).toInt = -100001 ∧ ¬ (0 ≤ (a).toInt ∧ (a).toInt < (iv 0 7).toInt)) ∨ (((-100002) : Int32).toInt = -100002 ∧ 0 ≤ (a).toInt ∧ (a).toInt < (iv 0 7).toInt ∧ ¬ (0 ≤ (b).toInt ∧ (b).toInt ≤ 1 ∧ 0 ≤ (d).toInt ∧ (d).toInt ≤ (k).toInt ∧ (k).toInt ≤ 999)) ∨ (((-100002) : Int32).toInt = 1 ∧ 0 ≤ (a).toInt ∧ (a).toInt < (iv 0 7).toInt ∧ 0 ≤ (b).toInt ∧ (b).toInt ≤ 1 ∧ 0 ≤ (d).toInt ∧ (d).toInt ≤ (k).toInt ∧ (k).toInt ≤ 999)) from by omega), (show (((((-100002) : Int32).toInt ≠ 1 ∨ (b).toInt ≠ 0) ∧ ∀ j : Nat, (fa 0 3) j = (fa 0 3) j) ∨ (((-100002) : Int32).toInt = 1 ∧ (b).toInt = 0 ∧ ∀ j : Nat, (fa 0 3) j = upd (fa 0 3) (a).toNatClampNeg d j)) from Or.inl ⟨by omega, fun j => rfl⟩), (show (((((-100002) : Int32).toInt ≠ 1 ∨ (b).toInt ≠ 1) ∧ ∀ j : Nat, (fa 0 4) j = (fa 0 4) j) ∨ (((-100002) : Int32).toInt = 1 ∧ (b).toInt = 1 ∧ ∀ j : Nat, (fa 0 4) j = upd (fa 0 4) (a).toNatClampNeg d j)) from Or.inl ⟨by omega, fun j => rfl⟩), ⟨by decide, by decide⟩, rfl⟩, by rw [ht9]; exact hP9, hD9⟩, hS.F ht9⟩) hS.2.2 dX11_burnt_48
        · exact absurd rfl c14
    · exact absurd c2 (by decide)
  · skip
    have i_0_7 : 0 ≤ (iv 0 7).toInt ∧ (iv 0 7).toInt ≤ 10 := hI.1 0 7
    have fr1 : ¬ (0 ≤ (a : Int32).toInt ∧ (a : Int32).toInt < ((iv 0 7) : Int32).toInt) := fr1
    refine lv_if_ne (tgt := 14) hx hb dX11_burnt_8 (by decide) (fun c15 => ?_) (fun c15 => ?_)
    · exact absurd rfl c15
    · skip
      refine lv_ldc hx hb hown (ht _ m_476) dX11_burnt_11 ?_
      have : ((-100001) : Int32).toInt = (-100001) := (by decide)
      have hP9 : va_P (dC, dI) classes (WX h g ca iv lv (u2 (u2 fa 0 3 (fa 0 3)) 0 4 (fa 0 4)) la) s.heap := hP
      have hD9 : va_D A (WX h g ca iv lv (u2 (u2 fa 0 3 (fa 0 3)) 0 4 (fa 0 4)) la) := hD
      exact W.iret (v := (-100001)) hx hb hr (fun t ht9 hW => ⟨⟨(-100001), (iv, lv, (u2 (u2 fa 0 3 (fa 0 3)) 0 4 (fa 0 4)), la), rfl, ⟨(fa 0 3), (fa 0 4), (show ((((-100001) : Int32).toInt = -100001 ∧ ¬ (0 ≤ (a).toInt ∧ (a).toInt < (iv 0 7).toInt)) ∨ (((-100001) : Int32).toInt = -100002 ∧ 0 ≤ (a).toInt ∧ (a).toInt < (iv 0 7).toInt ∧ ¬ (0 ≤ (b).toInt ∧ (b).toInt ≤ 1 ∧ 0 ≤ (d).toInt ∧ (d).toInt ≤ (k).toInt ∧ (k).toInt ≤ 999)) ∨ (((-100001) : Int32).toInt = 1 ∧ 0 ≤ (a).toInt ∧ (a).toInt < (iv 0 7).toInt ∧ 0 ≤ (b).toInt ∧ (b).toInt ≤ 1 ∧ 0 ≤ (d).toInt ∧ (d).toInt ≤ (k).toInt ∧ (k).toInt ≤ 999)) from by omega), (show (((((-100001) : Int32).toInt ≠ 1 ∨ (b).toInt ≠ 0) ∧ ∀ j : Nat, (fa 0 3) j = (fa 0 3) j) ∨ (((-100001) : Int32).toInt = 1 ∧ (b).toInt = 0 ∧ ∀ j : Nat, (fa 0 3) j = upd (fa 0 3) (a).toNatClampNeg d j)) from Or.inl ⟨by omega, fun j => rfl⟩), (show (((((-100001) : Int32).toInt ≠ 1 ∨ (b).toInt ≠ 1) ∧ ∀ j : Nat, (fa 0 4) j = (fa 0 4) j) ∨ (((-100001) : Int32).toInt = 1 ∧ (b).toInt = 1 ∧ ∀ j : Nat, (fa 0 4) j = upd (fa 0 4) (a).toNatClampNeg d j)) from Or.inl ⟨by omega, fun j => rfl⟩), ⟨by decide, by decide⟩, rfl⟩, by rw [ht9]; exact hP9, hD9⟩, hS.F ht9⟩) hS.2.2 dX11_burnt_13
set_option maxHeartbeats 4000000 in
set_option maxRecDepth 100000 in
/-- X12_burnt -/
theorem c_X12_burnt_c (l : Launch) (dC : Nat → ClassId) (dI : Nat → Nat → Nat) (sz : Nat) (h : Nat) (g : Nat → Nat → Nat) (ca : Nat → Nat → ClassId) (iv : Nat → Nat → Int32) (lv : Nat → Nat → Int64) (fa : Nat → Nat → Nat → Int32) (la : Nat → Nat → Nat → Int64) (hI : IX iv fa) (a : Int32) (b : Int32) (d : Int32) (k : Int32) : Met l yX12_burnt (wc yX12_burnt cX12_burnt 5 (some .int)) ({ frames := 2, cells := 0, slots := 0, locals := 46 } : Room) (pW (dC, dI) classes (WM h g ca iv lv fa la) (TM ca) sz [.ref h, .int a, .int b, .int d, .int k]) (va_Qi (fun r (u : SS) => ∃ (na_12_55 : Nat → Int32) (na_12_56 : Nat → Int32), (((r.toInt = -100001 ∧ ¬ (0 ≤ a.toInt ∧ a.toInt < (iv 12 1).toInt)) ∨ (r.toInt = -100002 ∧ 0 ≤ a.toInt ∧ a.toInt < (iv 12 1).toInt ∧ ¬ (0 ≤ b.toInt ∧ b.toInt ≤ 1 ∧ 0 ≤ d.toInt ∧ d.toInt ≤ k.toInt ∧ k.toInt ≤ 999)) ∨ (r.toInt = 1 ∧ 0 ≤ a.toInt ∧ a.toInt < (iv 12 1).toInt ∧ 0 ≤ b.toInt ∧ b.toInt ≤ 1 ∧ 0 ≤ d.toInt ∧ d.toInt ≤ k.toInt ∧ k.toInt ≤ 999))) ∧ ((((r.toInt ≠ 1 ∨ b.toInt ≠ 0) ∧ ∀ j : Nat, na_12_55 j = (fa 12 55) j) ∨ (r.toInt = 1 ∧ b.toInt = 0 ∧ ∀ j : Nat, na_12_55 j = upd (fa 12 55) (a).toNatClampNeg d j))) ∧ ((((r.toInt ≠ 1 ∨ b.toInt ≠ 1) ∧ ∀ j : Nat, na_12_56 j = (fa 12 56) j) ∨ (r.toInt = 1 ∧ b.toInt = 1 ∧ ∀ j : Nat, na_12_56 j = upd (fa 12 56) (a).toNatClampNeg d j))) ∧ ((-100002) ≤ r.toInt ∧ r.toInt ≤ 1) ∧ u = (iv, lv, (u2 (u2 fa 12 55 na_12_55) 12 56 na_12_56), la)) (bM (dC, dI) h g ca (va_A (WM h g ca iv lv fa la) sz)) (va_A (WM h g ca iv lv fa la) sz)) 0 0 (va_A (WM h g ca iv lv fa la) sz) := by
  refine Met.ofW (cc := cX12_burnt) (maxL := 5) (ret := (some .int)) (by decide) rfl ?_
  intro p e s m args below meth c s₁ B hml hv
  obtain ⟨rfl, hsz, hP, hK, hD0⟩ := hv
  have hx := B.exec
  have hb := B.bytes
  have hr := B.returns
  have ht := tb_tl (atoms_spec (ws := wc yX12_burnt cX12_burnt 5 (some .int)) B.pre)
  have hown : s.vm.findClass RX12 = some m.cls := findClass_of_methodNamed B.named
  have hlocks := B.notSynchronized
  subst hsz
  have hD := hD0.self (sz := s.heap.size)
  generalize hAe : va_A (WM h g ca iv lv fa la) s.heap.size = A at hD ⊢
  have hA : ∀ q : Nat, s.heap.size ≤ q → A q := fun q h => by rw [← hAe]; exact Or.inr h
  have hS : va_S A s.heap s.heap [] := va_S.rf
  have hl := lv_entry [.ref h, .int a, .int b, .int d, .int k] (n := 5) (Nat.le_of_ble_eq_true rfl)
  rw [lg_entry_eq]
  generalize (lg_sl [.ref h, .int a, .int b, .int d, .int k] ++ List.replicate (5 - (lg_sl [.ref h, .int a, .int b, .int d, .int k]).length) Slot.unset).toArray = ls at hl ⊢
  have hl : lv_has ls 5 [(0, .ref h), (1, .int a), (2, .int b), (3, .int d), (4, .int k)] := hl
  refine lv_aload_n hx hb dX12_burnt_0 rfl (lv_at hl 0 rfl) ?_
  refine lv_iload_n hx hb dX12_burnt_1 rfl (lv_at hl 1 rfl) ?_
  refine vp_callSi (W.runV (As := [.int a]) (rest := []) ⟨hx, hb, hml, hown, ht⟩ (c_X12_noBale l dC dI h g ca iv lv fa la hI a) (kV 1 ht m_1385 m_1387 m_42 m_89 m_1388 rfl rfl hd_X12_noBale_v ⟨Nat.le_of_ble_eq_true rfl, Nat.le_of_ble_eq_true rfl⟩) (vR hP hK (rM_12 hK hP)) rfl rfl hl.1 rfl (lv_room (Nat.le_of_ble_eq_true rfl)) dX12_burnt_2 ⟨Nat.le_of_ble_eq_true rfl, Nat.le_of_ble_eq_true rfl⟩) (fun r1 hr1 => ?_)
  rcases hr1 with ⟨rfl, fr1⟩ | ⟨rfl, fr1⟩
  · skip
    have i_12_1 : 0 ≤ (iv 12 1).toInt ∧ (iv 12 1).toInt ≤ 10 := hI.1 12 1
    have fr1 : ¬ (0 ≤ (a : Int32).toInt ∧ (a : Int32).toInt < ((iv 12 1) : Int32).toInt) := fr1
    refine lv_if_eq (tgt := 11) hx hb dX12_burnt_5 (by decide) (fun c2 => ?_) (fun c2 => ?_)
    · exact absurd c2 (by decide)
    · skip
      refine lv_ldc hx hb hown (ht _ m_1389) dX12_burnt_8 ?_
      have : ((-100001) : Int32).toInt = (-100001) := (by decide)
      have hP9 : va_P (dC, dI) classes (WM h g ca iv lv (u2 (u2 fa 12 55 (fa 12 55)) 12 56 (fa 12 56)) la) s.heap := hP
      have hD9 : va_D A (WM h g ca iv lv (u2 (u2 fa 12 55 (fa 12 55)) 12 56 (fa 12 56)) la) := hD
      exact W.iret (v := (-100001)) hx hb hr (fun t ht9 hW => ⟨⟨(-100001), (iv, lv, (u2 (u2 fa 12 55 (fa 12 55)) 12 56 (fa 12 56)), la), rfl, ⟨(fa 12 55), (fa 12 56), (show ((((-100001) : Int32).toInt = -100001 ∧ ¬ (0 ≤ (a).toInt ∧ (a).toInt < (iv 12 1).toInt)) ∨ (((-100001) : Int32).toInt = -100002 ∧ 0 ≤ (a).toInt ∧ (a).toInt < (iv 12 1).toInt ∧ ¬ (0 ≤ (b).toInt ∧ (b).toInt ≤ 1 ∧ 0 ≤ (d).toInt ∧ (d).toInt ≤ (k).toInt ∧ (k).toInt ≤ 999)) ∨ (((-100001) : Int32).toInt = 1 ∧ 0 ≤ (a).toInt ∧ (a).toInt < (iv 12 1).toInt ∧ 0 ≤ (b).toInt ∧ (b).toInt ≤ 1 ∧ 0 ≤ (d).toInt ∧ (d).toInt ≤ (k).toInt ∧ (k).toInt ≤ 999)) from by omega), (show (((((-100001) : Int32).toInt ≠ 1 ∨ (b).toInt ≠ 0) ∧ ∀ j : Nat, (fa 12 55) j = (fa 12 55) j) ∨ (((-100001) : Int32).toInt = 1 ∧ (b).toInt = 0 ∧ ∀ j : Nat, (fa 12 55) j = upd (fa 12 55) (a).toNatClampNeg d j)) from Or.inl ⟨by omega, fun j => rfl⟩), (show (((((-100001) : Int32).toInt ≠ 1 ∨ (b).toInt ≠ 1) ∧ ∀ j : Nat, (fa 12 56) j = (fa 12 56) j) ∨ (((-100001) : Int32).toInt = 1 ∧ (b).toInt = 1 ∧ ∀ j : Nat, (fa 12 56) j = upd (fa 12 56) (a).toNatClampNeg d j)) from Or.inl ⟨by omega, fun j => rfl⟩), ⟨by decide, by decide⟩, rfl⟩, by rw [ht9]; exact hP9, hD9⟩, hS.F ht9⟩) hS.2.2 dX12_burnt_10
  · skip
    have i_12_1 : 0 ≤ (iv 12 1).toInt ∧ (iv 12 1).toInt ≤ 10 := hI.1 12 1
    have fr1 : (0 ≤ (a : Int32).toInt ∧ (a : Int32).toInt < ((iv 12 1) : Int32).toInt) := Decidable.not_not.mp fr1
    refine lv_if_eq (tgt := 11) hx hb dX12_burnt_5 (by decide) (fun c3 => ?_) (fun c3 => ?_)
    · skip
      refine lv_iload_n hx hb dX12_burnt_11 rfl (lv_at hl 2 rfl) ?_
      refine lv_i2l (v := (b.toInt64)) hx hb dX12_burnt_12 rfl ?_
      refine lv_lconst (v := 0) hx hb dX12_burnt_13 (by decide) ?_
      refine lv_lconst (v := 1) hx hb dX12_burnt_14 (by decide) ?_
      refine vp_callSi (W.runS (As := [.long (b.toInt64), .long 0, .long 1]) (rest := []) ⟨hx, hb, hml, hown, ht⟩ (c_X12_in l dC dI (b.toInt64) 0 1 (b.toInt) (0) (1) ((Int32.toInt_toInt64 b).trans rfl) (by decide : (0 : Int64).toInt = 0) (by decide : (1 : Int64).toInt = 1)) (kS 3 ht m_1370 m_1371 m_89 m_1372 rfl rfl hd_X12_in_v ⟨Nat.le_of_ble_eq_true rfl, Nat.le_of_ble_eq_true rfl⟩) (sR noP (hK.sub (tys' := []) [] rfl)) rfl rfl hl.1 rfl (lv_room (Nat.le_of_ble_eq_true rfl)) dX12_burnt_15 ⟨Nat.le_of_ble_eq_true rfl, Nat.le_of_ble_eq_true rfl⟩) (fun r4 hr4 => ?_)
      rcases hr4 with ⟨rfl, fr4⟩ | ⟨rfl, fr4⟩
      · skip
        refine lv_if_eq (tgt := 41) hx hb dX12_burnt_18 (by decide) (fun c5 => ?_) (fun c5 => ?_)
        · exact absurd c5 (by decide)
        · skip
          refine lv_iload_n hx hb dX12_burnt_21 rfl (lv_at hl 3 rfl) ?_
          refine lv_i2l (v := (d.toInt64)) hx hb dX12_burnt_22 rfl ?_
          refine lv_lconst (v := 0) hx hb dX12_burnt_23 (by decide) ?_
          refine lv_iload hx hb dX12_burnt_24 (lv_at hl 4 rfl) ?_
          refine lv_i2l (v := (k.toInt64)) hx hb dX12_burnt_26 rfl ?_
          refine vp_callSi (W.runS (As := [.long (d.toInt64), .long 0, .long (k.toInt64)]) (rest := []) ⟨hx, hb, hml, hown, ht⟩ (c_X12_in l dC dI (d.toInt64) 0 (k.toInt64) (d.toInt) (0) (k.toInt) ((Int32.toInt_toInt64 d).trans rfl) (by decide : (0 : Int64).toInt = 0) ((Int32.toInt_toInt64 k).trans rfl)) (kS 3 ht m_1370 m_1371 m_89 m_1372 rfl rfl hd_X12_in_v ⟨Nat.le_of_ble_eq_true rfl, Nat.le_of_ble_eq_true rfl⟩) (sR noP (hK.sub (tys' := []) [] rfl)) rfl rfl hl.1 rfl (lv_room (Nat.le_of_ble_eq_true rfl)) dX12_burnt_27 ⟨Nat.le_of_ble_eq_true rfl, Nat.le_of_ble_eq_true rfl⟩) (fun r6 hr6 => ?_)
          rcases hr6 with ⟨rfl, fr6⟩ | ⟨rfl, fr6⟩
          · skip
            refine lv_if_eq (tgt := 41) hx hb dX12_burnt_30 (by decide) (fun c7 => ?_) (fun c7 => ?_)
            · exact absurd c7 (by decide)
            · skip
              refine lv_iload hx hb dX12_burnt_33 (lv_at hl 4 rfl) ?_
              refine lv_sipush (v := 999) hx hb dX12_burnt_35 (by decide) ?_
              refine lv_icmp_le (tgt := 44) hx hb dX12_burnt_38 (by decide) (fun c8 => ?_) (fun c8 => ?_)
              · have fc8 := z_le (rfl : (k).toInt = _) (by decide : (999 : Int32).toInt = 999) c8
                refine lv_iload_n hx hb dX12_burnt_44 rfl (lv_at hl 2 rfl) ?_
                refine lv_if_ne (tgt := 58) hx hb dX12_burnt_45 (by decide) (fun c9 => ?_) (fun c9 => ?_)
                · have fc9 := z_ne (rfl : (b).toInt = _) (by decide : (0 : Int32).toInt = 0) c9
                  refine lv_aload_n hx hb dX12_burnt_58 rfl (lv_at hl 0 rfl) ?_
                  refine gM_12_56 hx hb ht hown hK hP m_1195 dX12_burnt_59 ?_
                  refine lv_iload_n hx hb dX12_burnt_62 rfl (lv_at hl 1 rfl) ?_
                  refine lv_iload_n hx hb dX12_burnt_63 rfl (lv_at hl 3 rfl) ?_
                  refine tM_12_56 hx hb hK hP hD hS (f0 := (fa 12 56)) rfl (i := a) (x := d) (vp_in_iff.mpr ⟨by omega, by omega⟩) dX12_burnt_64 (fun f10 ef10 H locs hP hD hS => ?_)
                  have hf10 : ∀ j, inb (bA 12 56 j) (f10 j) := fun j => full_i _
                  refine lv_iconst (v := 1) hx hb dX12_burnt_65 (by decide) ?_
                  have : (1 : Int32).toInt = 1 := (by decide)
                  have hP9 : va_P (dC, dI) classes (WM h g ca iv lv (u2 (u2 fa 12 55 (fa 12 55)) 12 56 f10) la) H := hP
                  have hD9 : va_D A (WM h g ca iv lv (u2 (u2 fa 12 55 (fa 12 55)) 12 56 f10) la) := hD
                  exact W.iret (v := 1) hx hb hr (fun t ht9 hW => ⟨⟨1, (iv, lv, (u2 (u2 fa 12 55 (fa 12 55)) 12 56 f10), la), rfl, ⟨(fa 12 55), f10, (show (((1 : Int32).toInt = -100001 ∧ ¬ (0 ≤ (a).toInt ∧ (a).toInt < (iv 12 1).toInt)) ∨ ((1 : Int32).toInt = -100002 ∧ 0 ≤ (a).toInt ∧ (a).toInt < (iv 12 1).toInt ∧ ¬ (0 ≤ (b).toInt ∧ (b).toInt ≤ 1 ∧ 0 ≤ (d).toInt ∧ (d).toInt ≤ (k).toInt ∧ (k).toInt ≤ 999)) ∨ ((1 : Int32).toInt = 1 ∧ 0 ≤ (a).toInt ∧ (a).toInt < (iv 12 1).toInt ∧ 0 ≤ (b).toInt ∧ (b).toInt ≤ 1 ∧ 0 ≤ (d).toInt ∧ (d).toInt ≤ (k).toInt ∧ (k).toInt ≤ 999)) from by omega), (show ((((1 : Int32).toInt ≠ 1 ∨ (b).toInt ≠ 0) ∧ ∀ j : Nat, (fa 12 55) j = (fa 12 55) j) ∨ ((1 : Int32).toInt = 1 ∧ (b).toInt = 0 ∧ ∀ j : Nat, (fa 12 55) j = upd (fa 12 55) (a).toNatClampNeg d j)) from Or.inl ⟨by omega, fun j => rfl⟩), (show ((((1 : Int32).toInt ≠ 1 ∨ (b).toInt ≠ 1) ∧ ∀ j : Nat, f10 j = (fa 12 56) j) ∨ ((1 : Int32).toInt = 1 ∧ (b).toInt = 1 ∧ ∀ j : Nat, f10 j = upd (fa 12 56) (a).toNatClampNeg d j)) from Or.inr ⟨by omega, by omega, fun j => (by rw [ef10])⟩), ⟨by decide, by decide⟩, rfl⟩, by rw [ht9]; exact hP9, hD9⟩, hS.F ht9⟩) hS.2.2 dX12_burnt_66
                · have fc9 := z_eq (rfl : (b).toInt = _) (by decide : (0 : Int32).toInt = 0) c9
                  refine lv_aload_n hx hb dX12_burnt_48 rfl (lv_at hl 0 rfl) ?_
                  refine gM_12_55 hx hb ht hown hK hP m_1194 dX12_burnt_49 ?_
                  refine lv_iload_n hx hb dX12_burnt_52 rfl (lv_at hl 1 rfl) ?_
                  refine lv_iload_n hx hb dX12_burnt_53 rfl (lv_at hl 3 rfl) ?_
                  refine tM_12_55 hx hb hK hP hD hS (f0 := (fa 12 55)) rfl (i := a) (x := d) (vp_in_iff.mpr ⟨by omega, by omega⟩) dX12_burnt_54 (fun f11 ef11 H locs hP hD hS => ?_)
                  have hf11 : ∀ j, inb (bA 12 55 j) (f11 j) := fun j => full_i _
                  refine lv_goto (tgt := 65) hx hb dX12_burnt_55 (by decide) ?_
                  refine lv_iconst (v := 1) hx hb dX12_burnt_65 (by decide) ?_
                  have : (1 : Int32).toInt = 1 := (by decide)
                  have hP9 : va_P (dC, dI) classes (WM h g ca iv lv (u2 (u2 fa 12 55 f11) 12 56 (fa 12 56)) la) H := hP
                  have hD9 : va_D A (WM h g ca iv lv (u2 (u2 fa 12 55 f11) 12 56 (fa 12 56)) la) := hD
                  exact W.iret (v := 1) hx hb hr (fun t ht9 hW => ⟨⟨1, (iv, lv, (u2 (u2 fa 12 55 f11) 12 56 (fa 12 56)), la), rfl, ⟨f11, (fa 12 56), (show (((1 : Int32).toInt = -100001 ∧ ¬ (0 ≤ (a).toInt ∧ (a).toInt < (iv 12 1).toInt)) ∨ ((1 : Int32).toInt = -100002 ∧ 0 ≤ (a).toInt ∧ (a).toInt < (iv 12 1).toInt ∧ ¬ (0 ≤ (b).toInt ∧ (b).toInt ≤ 1 ∧ 0 ≤ (d).toInt ∧ (d).toInt ≤ (k).toInt ∧ (k).toInt ≤ 999)) ∨ ((1 : Int32).toInt = 1 ∧ 0 ≤ (a).toInt ∧ (a).toInt < (iv 12 1).toInt ∧ 0 ≤ (b).toInt ∧ (b).toInt ≤ 1 ∧ 0 ≤ (d).toInt ∧ (d).toInt ≤ (k).toInt ∧ (k).toInt ≤ 999)) from by omega), (show ((((1 : Int32).toInt ≠ 1 ∨ (b).toInt ≠ 0) ∧ ∀ j : Nat, f11 j = (fa 12 55) j) ∨ ((1 : Int32).toInt = 1 ∧ (b).toInt = 0 ∧ ∀ j : Nat, f11 j = upd (fa 12 55) (a).toNatClampNeg d j)) from Or.inr ⟨by omega, by omega, fun j => (by rw [ef11])⟩), (show ((((1 : Int32).toInt ≠ 1 ∨ (b).toInt ≠ 1) ∧ ∀ j : Nat, (fa 12 56) j = (fa 12 56) j) ∨ ((1 : Int32).toInt = 1 ∧ (b).toInt = 1 ∧ ∀ j : Nat, (fa 12 56) j = upd (fa 12 56) (a).toNatClampNeg d j)) from Or.inl ⟨by omega, fun j => rfl⟩), ⟨by decide, by decide⟩, rfl⟩, by rw [ht9]; exact hP9, hD9⟩, hS.F ht9⟩) hS.2.2 dX12_burnt_66
              · have fc8 := z_nle (rfl : (k).toInt = _) (by decide : (999 : Int32).toInt = 999) c8
                refine lv_ldc hx hb hown (ht _ m_1373) dX12_burnt_41 ?_
                have : ((-100002) : Int32).toInt = (-100002) := (by decide)
                have hP9 : va_P (dC, dI) classes (WM h g ca iv lv (u2 (u2 fa 12 55 (fa 12 55)) 12 56 (fa 12 56)) la) s.heap := hP
                have hD9 : va_D A (WM h g ca iv lv (u2 (u2 fa 12 55 (fa 12 55)) 12 56 (fa 12 56)) la) := hD
                exact W.iret (v := (-100002)) hx hb hr (fun t ht9 hW => ⟨⟨(-100002), (iv, lv, (u2 (u2 fa 12 55 (fa 12 55)) 12 56 (fa 12 56)), la), rfl, ⟨(fa 12 55), (fa 12 56), (show ((((-100002) : Int32).toInt = -100001 ∧ ¬ (0 ≤ (a).toInt ∧ (a).toInt < (iv 12 1).toInt)) ∨ (((-100002) : Int32).toInt = -100002 ∧ 0 ≤ (a).toInt ∧ (a).toInt < (iv 12 1).toInt ∧ ¬ (0 ≤ (b).toInt ∧ (b).toInt ≤ 1 ∧ 0 ≤ (d).toInt ∧ (d).toInt ≤ (k).toInt ∧ (k).toInt ≤ 999)) ∨ (((-100002) : Int32).toInt = 1 ∧ 0 ≤ (a).toInt ∧ (a).toInt < (iv 12 1).toInt ∧ 0 ≤ (b).toInt ∧ (b).toInt ≤ 1 ∧ 0 ≤ (d).toInt ∧ (d).toInt ≤ (k).toInt ∧ (k).toInt ≤ 999)) from by omega), (show (((((-100002) : Int32).toInt ≠ 1 ∨ (b).toInt ≠ 0) ∧ ∀ j : Nat, (fa 12 55) j = (fa 12 55) j) ∨ (((-100002) : Int32).toInt = 1 ∧ (b).toInt = 0 ∧ ∀ j : Nat, (fa 12 55) j = upd (fa 12 55) (a).toNatClampNeg d j)) from Or.inl ⟨by omega, fun j => rfl⟩), (show (((((-100002) : Int32).toInt ≠ 1 ∨ (b).toInt ≠ 1) ∧ ∀ j : Nat, (fa 12 56) j = (fa 12 56) j) ∨ (((-100002) : Int32).toInt = 1 ∧ (b).toInt = 1 ∧ ∀ j : Nat, (fa 12 56) j = upd (fa 12 56) (a).toNatClampNeg d j)) from Or.inl ⟨by omega, fun j => rfl⟩), ⟨by decide, by decide⟩, rfl⟩, by rw [ht9]; exact hP9, hD9⟩, hS.F ht9⟩) hS.2.2 dX12_burnt_43
          · skip
            refine lv_if_eq (tgt := 41) hx hb dX12_burnt_30 (by decide) (fun c12 => ?_) (fun c12 => ?_)
            · skip
              refine lv_ldc hx hb hown (ht _ m_1373) dX12_burnt_41 ?_
              have : ((-100002) : Int32).toInt = (-100002) := (by decide)
              have hP9 : va_P (dC, dI) classes (WM h g ca iv lv (u2 (u2 fa 12 55 (fa 12 55)) 12 56 (fa 12 56)) la) s.heap := hP
              have hD9 : va_D A (WM h g ca iv lv (u2 (u2 fa 12 55 (fa 12 55)) 12 56 (fa 12 56)) la) := hD
              exact W.iret (v := (-100002)) hx hb hr (fun t ht9 hW => ⟨⟨(-100002), (iv, lv, (u2 (u2 fa 12 55 (fa 12 55)) 12 56 (fa 12 56)), la), rfl, ⟨(fa 12 55), (fa 12 56), (show ((((-100002) : Int32).toInt = -100001 ∧ ¬ (0 ≤ (a).toInt ∧ (a).toInt < (iv 12 1).toInt)) ∨ (((-100002) : Int32).toInt = -100002 ∧ 0 ≤ (a).toInt ∧ (a).toInt < (iv 12 1).toInt ∧ ¬ (0 ≤ (b).toInt ∧ (b).toInt ≤ 1 ∧ 0 ≤ (d).toInt ∧ (d).toInt ≤ (k).toInt ∧ (k).toInt ≤ 999)) ∨ (((-100002) : Int32).toInt = 1 ∧ 0 ≤ (a).toInt ∧ (a).toInt < (iv 12 1).toInt ∧ 0 ≤ (b).toInt ∧ (b).toInt ≤ 1 ∧ 0 ≤ (d).toInt ∧ (d).toInt ≤ (k).toInt ∧ (k).toInt ≤ 999)) from by omega), (show (((((-100002) : Int32).toInt ≠ 1 ∨ (b).toInt ≠ 0) ∧ ∀ j : Nat, (fa 12 55) j = (fa 12 55) j) ∨ (((-100002) : Int32).toInt = 1 ∧ (b).toInt = 0 ∧ ∀ j : Nat, (fa 12 55) j = upd (fa 12 55) (a).toNatClampNeg d j)) from Or.inl ⟨by omega, fun j => rfl⟩), (show (((((-100002) : Int32).toInt ≠ 1 ∨ (b).toInt ≠ 1) ∧ ∀ j : Nat, (fa 12 56) j = (fa 12 56) j) ∨ (((-100002) : Int32).toInt = 1 ∧ (b).toInt = 1 ∧ ∀ j : Nat, (fa 12 56) j = upd (fa 12 56) (a).toNatClampNeg d j)) from Or.inl ⟨by omega, fun j => rfl⟩), ⟨by decide, by decide⟩, rfl⟩, by rw [ht9]; exact hP9, hD9⟩, hS.F ht9⟩) hS.2.2 dX12_burnt_43
            · exact absurd rfl c12
      · skip
        refine lv_if_eq (tgt := 41) hx hb dX12_burnt_18 (by decide) (fun c13 => ?_) (fun c13 => ?_)
        · skip
          refine lv_ldc hx hb hown (ht _ m_1373) dX12_burnt_41 ?_
          have : ((-100002) : Int32).toInt = (-100002) := (by decide)
          have hP9 : va_P (dC, dI) classes (WM h g ca iv lv (u2 (u2 fa 12 55 (fa 12 55)) 12 56 (fa 12 56)) la) s.heap := hP
          have hD9 : va_D A (WM h g ca iv lv (u2 (u2 fa 12 55 (fa 12 55)) 12 56 (fa 12 56)) la) := hD
          exact W.iret (v := (-100002)) hx hb hr (fun t ht9 hW => ⟨⟨(-100002), (iv, lv, (u2 (u2 fa 12 55 (fa 12 55)) 12 56 (fa 12 56)), la), rfl, ⟨(fa 12 55), (fa 12 56), (show ((((-100002) : Int32).toInt = -100001 ∧ ¬ (0 ≤ (a).toInt ∧ (a).toInt < (iv 12 1).toInt)) ∨ (((-100002) : Int32).toInt = -100002 ∧ 0 ≤ (a).toInt ∧ (a).toInt < (iv 12 1).toInt ∧ ¬ (0 ≤ (b).toInt ∧ (b).toInt ≤ 1 ∧ 0 ≤ (d).toInt ∧ (d).toInt ≤ (k).toInt ∧ (k).toInt ≤ 999)) ∨ (((-100002) : Int32).toInt = 1 ∧ 0 ≤ (a).toInt ∧ (a).toInt < (iv 12 1).toInt ∧ 0 ≤ (b).toInt ∧ (b).toInt ≤ 1 ∧ 0 ≤ (d).toInt ∧ (d).toInt ≤ (k).toInt ∧ (k).toInt ≤ 999)) from by omega), (show (((((-100002) : Int32).toInt ≠ 1 ∨ (b).toInt ≠ 0) ∧ ∀ j : Nat, (fa 12 55) j = (fa 12 55) j) ∨ (((-100002) : Int32).toInt = 1 ∧ (b).toInt = 0 ∧ ∀ j : Nat, (fa 12 55) j = upd (fa 12 55) (a).toNatClampNeg d j)) from Or.inl ⟨by omega, fun j => rfl⟩), (show (((((-100002) : Int32).toInt ≠ 1 ∨ (b).toInt ≠ 1) ∧ ∀ j : Nat, (fa 12 56) j = (fa 12 56) j) ∨ (((-100002) : Int32).toInt = 1 ∧ (b).toInt = 1 ∧ ∀ j : Nat, (fa 12 56) j = upd (fa 12 56) (a).toNatClampNeg d j)) from Or.inl ⟨by omega, fun j => rfl⟩), ⟨by decide, by decide⟩, rfl⟩, by rw [ht9]; exact hP9, hD9⟩, hS.F ht9⟩) hS.2.2 dX12_burnt_43
        · exact absurd rfl c13
    · exact absurd rfl c3
set_option maxHeartbeats 4000000 in
set_option maxRecDepth 100000 in
/-- X11_loss -/
theorem c_X11_loss_c (l : Launch) (dC : Nat → ClassId) (dI : Nat → Nat → Nat) (sz : Nat) (h : Nat) (g : Nat → Nat → Nat) (ca : Nat → Nat → ClassId) (iv : Nat → Nat → Int32) (lv : Nat → Nat → Int64) (fa : Nat → Nat → Nat → Int32) (la : Nat → Nat → Nat → Int64) (hI : IX iv fa) (a : Int32) : Met l yX11_loss (wc yX11_loss cX11_loss 4 (some .int)) ({ frames := 3, cells := 0, slots := 0, locals := 67 } : Room) (pW (dC, dI) classes (WX h g ca iv lv fa la) (TX ca) sz [.ref h, .int a]) (va_Qi (fun r (u : SS) => ∃ (na_30_2 : Nat → Int32) (nb_30_0 : Nat → Int64) (nb_30_1 : Nat → Int64), (r.toInt = (lossI (smL (fun s : Nat => ((fa 10 0) (9 * s + 0)).toInt = a.toInt ∧ ((fa 10 0) (9 * s + 1)).toInt = 0 ∧ ((fa 10 0) (9 * s + 7)).toInt ≤ (iv 11 10).toInt ∧ (((fa 10 0) (9 * s + 8)).toInt = -1 ∨ (iv 11 10).toInt < ((fa 10 0) (9 * s + 8)).toInt)) (fun s : Nat => (fa 10 0) (9 * s + 3)) ((iv 10 1).toInt).toNat) (smL (fun s : Nat => ((fa 10 0) (9 * s + 0)).toInt = a.toInt ∧ ((fa 10 0) (9 * s + 1)).toInt = 0 ∧ ((fa 10 0) (9 * s + 7)).toInt ≤ (iv 11 10).toInt ∧ (((fa 10 0) (9 * s + 8)).toInt = -1 ∨ (iv 11 10).toInt < ((fa 10 0) (9 * s + 8)).toInt)) (fun s : Nat => (fa 10 0) (9 * s + 4)) ((iv 10 1).toInt).toNat)).toInt) ∧ (True) ∧ u = (iv, lv, (u2 fa 30 2 na_30_2), (u2 (u2 la 30 0 nb_30_0) 30 1 nb_30_1))) (bX (dC, dI) h g ca (va_A (WX h g ca iv lv fa la) sz)) (va_A (WX h g ca iv lv fa la) sz)) 0 0 (va_A (WX h g ca iv lv fa la) sz) := by
  refine Met.ofW (cc := cX11_loss) (maxL := 4) (ret := (some .int)) (by decide) rfl ?_
  intro p e s m args below meth c s₁ B hml hv
  obtain ⟨rfl, hsz, hP, hK, hD0⟩ := hv
  have hx := B.exec
  have hb := B.bytes
  have hr := B.returns
  have ht := tb_tl (atoms_spec (ws := wc yX11_loss cX11_loss 4 (some .int)) B.pre)
  have hown : s.vm.findClass RX11 = some m.cls := findClass_of_methodNamed B.named
  have hlocks := B.notSynchronized
  subst hsz
  have hD := hD0.self (sz := s.heap.size)
  generalize hAe : va_A (WX h g ca iv lv fa la) s.heap.size = A at hD ⊢
  have hA : ∀ q : Nat, s.heap.size ≤ q → A q := fun q h => by rw [← hAe]; exact Or.inr h
  have hS : va_S A s.heap s.heap [] := va_S.rf
  have hl := lv_entry [.ref h, .int a] (n := 4) (Nat.le_of_ble_eq_true rfl)
  rw [lg_entry_eq]
  generalize (lg_sl [.ref h, .int a] ++ List.replicate (4 - (lg_sl [.ref h, .int a]).length) Slot.unset).toArray = ls at hl ⊢
  have hl : lv_has ls 4 [(0, .ref h), (1, .int a)] := hl
  refine lv_aload_n hx hb dX11_loss_0 rfl (lv_at hl 0 rfl) ?_
  refine gX_11_5 hx hb ht hown hK hP m_420 dX11_loss_1 ?_
  refine lv_iload_n hx hb dX11_loss_4 rfl (lv_at hl 1 rfl) ?_
  refine lv_aload_n hx hb dX11_loss_5 rfl (lv_at hl 0 rfl) ?_
  have i_11_10 : 0 ≤ (iv 11 10).toInt ∧ (iv 11 10).toInt ≤ 3000 := hI.1 11 10
  refine gX_11_10 hx hb ht hown hK hP m_425 (v := (iv 11 10)) rfl dX11_loss_6 ?_
  have hFc := free_all hD hS hA
  refine va_callv (va_runV (As := [.int a, .int (iv 11 10)]) (rest := []) ⟨hx, hb, hml, hown, ht⟩ (c_X3_gather_s l dC dI s.heap.size h g ca iv lv fa la hI a (iv 11 10)) (kV 2 ht m_564 m_565 m_566 m_83 m_567 rfl rfl hd_X3_gather_v ⟨Nat.le_of_ble_eq_true rfl, Nat.le_of_ble_eq_true rfl⟩) (vW hP hK hD (rX_3 hK hP)) rfl rfl hl.1 rfl (lv_room (Nat.le_of_ble_eq_true rfl)) dX11_loss_9 ⟨Nat.le_of_ble_eq_true rfl, Nat.le_of_ble_eq_true rfl⟩) hS (fun q _ h => hFc q h) hFc (fun u t H1 locs ht9 hvm hr1 hB hz1 hk1 hS => ?_)
  obtain ⟨n2, n3, n4, xr1_0, rfl⟩ := hr1
  have hn2 : ∀ j, inb (bA 30 2 j) (n2 j) := fun j => full_i _
  obtain ⟨hP, hD⟩ := hB
  rw [ht9] at hP
  generalize H1 = H at hP hS ⊢
  have hP : va_P (dC, dI) classes (WX h g ca iv lv (u2 fa 30 2 n2) (u2 (u2 la 30 0 n3) 30 1 n4)) H := hP
  have hD : va_D A (WX h g ca iv lv (u2 fa 30 2 n2) (u2 (u2 la 30 0 n3) 30 1 n4)) := (show va_D _ (WX h g ca iv lv (u2 fa 30 2 n2) (u2 (u2 la 30 0 n3) 30 1 n4)) from hD).weaken (fun _ _ _ h => hFc _ h)
  have i_10_1 : 0 ≤ (iv 10 1).toInt ∧ (iv 10 1).toInt ≤ 60 := hI.1 10 1
  have xr1_0 : ∀ l : Nat, l < 3 → n3 l = smL (fun s : Nat => ((fa 10 0) (9 * s + 0)).toInt = (a : Int32).toInt ∧ ((fa 10 0) (9 * s + 1)).toInt = (l : Int) ∧ ((fa 10 0) (9 * s + 7)).toInt ≤ ((iv 11 10) : Int32).toInt ∧ (((fa 10 0) (9 * s + 8)).toInt = -1 ∨ ((iv 11 10) : Int32).toInt < ((fa 10 0) (9 * s + 8)).toInt)) (fun s : Nat => (fa 10 0) (9 * s + 3)) (((iv 10 1) : Int32).toInt).toNat ∧ n4 l = smL (fun s : Nat => ((fa 10 0) (9 * s + 0)).toInt = (a : Int32).toInt ∧ ((fa 10 0) (9 * s + 1)).toInt = (l : Int) ∧ ((fa 10 0) (9 * s + 7)).toInt ≤ ((iv 11 10) : Int32).toInt ∧ (((fa 10 0) (9 * s + 8)).toInt = -1 ∨ ((iv 11 10) : Int32).toInt < ((fa 10 0) (9 * s + 8)).toInt)) (fun s : Nat => (fa 10 0) (9 * s + 4)) (((iv 10 1) : Int32).toInt).toNat ∧ n2 l = smC (fun s : Nat => ((fa 10 0) (9 * s + 0)).toInt = (a : Int32).toInt ∧ ((fa 10 0) (9 * s + 1)).toInt = (l : Int) ∧ ((fa 10 0) (9 * s + 7)).toInt ≤ ((iv 11 10) : Int32).toInt ∧ (((fa 10 0) (9 * s + 8)).toInt = -1 ∨ ((iv 11 10) : Int32).toInt < ((fa 10 0) (9 * s + 8)).toInt)) (((iv 10 1) : Int32).toInt).toNat := xr1_0
  have hg9 := xr1_0 0 (by decide)
  refine lv_aload_n hx hb dX11_loss_12 rfl (lv_at hl 0 rfl) ?_
  refine gX_11_5 hx hb ht hown hK hP m_420 dX11_loss_13 ?_
  refine gX_3_2 hx hb ht hown hK hP m_282 dX11_loss_16 ?_
  refine gX_30_0 hx hb ht hown hK hP m_263 dX11_loss_19 ?_
  refine lv_iconst (v := 0) hx hb dX11_loss_22 (by decide) ?_
  refine lX_30_0 hx hb hK hP (f := n3) rfl (vp_in_iff.mpr (by decide)) dX11_loss_23 ?_
  refine lv_topl (fun w5 ew5 => ?_)
  refine lv_lstore_n (lv' := [(2, .long w5), (0, .ref h), (1, .int a)]) hx hb dX11_loss_24 rfl hl (by decide) rfl (fun ls hl => ?_)
  refine lv_lload_n hx hb dX11_loss_25 rfl (lv_at hl 0 rfl) ?_
  refine lv_lconst (v := 0) hx hb dX11_loss_26 (by decide) ?_
  refine W.lcmp hx hb dX11_loss_27 ?_
  refine lv_topi (fun v6 ev6 => ?_)
  refine lv_if_ne (tgt := 35) hx hb dX11_loss_28 (by decide) (fun c7 => ?_) (fun c7 => ?_)
  · have fc7 := zc_ne ev6 (rfl : (w5).toInt = _) (by decide : (0 : Int64).toInt = 0) c7
    refine lv_ldc2 hx hb hown (ht _ m_848) dX11_loss_35 ?_
    refine lv_lload_n hx hb dX11_loss_38 rfl (lv_at hl 0 rfl) ?_
    refine lv_aload_n hx hb dX11_loss_39 rfl (lv_at hl 1 rfl) ?_
    refine gX_11_5 hx hb ht hown hK hP m_420 dX11_loss_40 ?_
    refine gX_3_2 hx hb ht hown hK hP m_282 dX11_loss_43 ?_
    refine gX_30_1 hx hb ht hown hK hP m_266 dX11_loss_46 ?_
    refine lv_iconst (v := 0) hx hb dX11_loss_49 (by decide) ?_
    refine lX_30_1 hx hb hK hP (f := n4) rfl (vp_in_iff.mpr (by decide)) dX11_loss_50 ?_
    refine lv_topl (fun w8 ew8 => ?_)
    refine lv_lsub hx hb dX11_loss_51 ?_
    refine lv_topl (fun w9 ew9 => ?_)
    refine lv_lmul hx hb dX11_loss_52 ?_
    refine lv_topl (fun w10 ew10 => ?_)
    refine lv_lload_n hx hb dX11_loss_53 rfl (lv_at hl 0 rfl) ?_
    refine lv_ldiv hx hb dX11_loss_54 (l_nz (rfl : (w5 : Int64).toInt = _) (by omega)) ?_
    refine lv_topl (fun w11 ew11 => ?_)
    obtain ⟨v12, ev12⟩ : ∃ y : Int32, w11.toInt32 = y := ⟨_, rfl⟩
    refine lv_l2i (v := v12) hx hb dX11_loss_55 ev12 ?_
    have hP9 : va_P (dC, dI) classes (WX h g ca iv lv (u2 fa 30 2 n2) (u2 (u2 la 30 0 n3) 30 1 n4)) H := hP
    have hD9 : va_D A (WX h g ca iv lv (u2 fa 30 2 n2) (u2 (u2 la 30 0 n3) 30 1 n4)) := hD
    exact W.iret (v := v12) hx hb hr (fun t ht9 hW => ⟨⟨v12, (iv, lv, (u2 fa 30 2 n2), (u2 (u2 la 30 0 n3) 30 1 n4)), rfl, ⟨n2, n3, n4, (show (v12 : Int32).toInt = (lossI (smL (fun s : Nat => ((fa 10 0) (9 * s + 0)).toInt = (a).toInt ∧ ((fa 10 0) (9 * s + 1)).toInt = 0 ∧ ((fa 10 0) (9 * s + 7)).toInt ≤ (iv 11 10).toInt ∧ (((fa 10 0) (9 * s + 8)).toInt = -1 ∨ (iv 11 10).toInt < ((fa 10 0) (9 * s + 8)).toInt)) (fun s : Nat => (fa 10 0) (9 * s + 3)) ((iv 10 1).toInt).toNat) (smL (fun s : Nat => ((fa 10 0) (9 * s + 0)).toInt = (a).toInt ∧ ((fa 10 0) (9 * s + 1)).toInt = 0 ∧ ((fa 10 0) (9 * s + 7)).toInt ≤ (iv 11 10).toInt ∧ (((fa 10 0) (9 * s + 8)).toInt = -1 ∨ (iv 11 10).toInt < ((fa 10 0) (9 * s + 8)).toInt)) (fun s : Nat => (fa 10 0) (9 * s + 4)) ((iv 10 1).toInt).toNat)).toInt from (by have hr9 : (w5 : Int64) = (smL (fun s : Nat => ((fa 10 0) (9 * s + 0)).toInt = (a).toInt ∧ ((fa 10 0) (9 * s + 1)).toInt = 0 ∧ ((fa 10 0) (9 * s + 7)).toInt ≤ (iv 11 10).toInt ∧ (((fa 10 0) (9 * s + 8)).toInt = -1 ∨ (iv 11 10).toInt < ((fa 10 0) (9 * s + 8)).toInt)) (fun s : Nat => (fa 10 0) (9 * s + 3)) ((iv 10 1).toInt).toNat) := (show w5 = _ from ew5).trans hg9.1; have hd9 : (w8 : Int64) = (smL (fun s : Nat => ((fa 10 0) (9 * s + 0)).toInt = (a).toInt ∧ ((fa 10 0) (9 * s + 1)).toInt = 0 ∧ ((fa 10 0) (9 * s + 7)).toInt ≤ (iv 11 10).toInt ∧ (((fa 10 0) (9 * s + 8)).toInt = -1 ∨ (iv 11 10).toInt < ((fa 10 0) (9 * s + 8)).toInt)) (fun s : Nat => (fa 10 0) (9 * s + 4)) ((iv 10 1).toInt).toNat) := (show w8 = _ from ew8).trans hg9.2.1; have hz : ¬ (w5 : Int64).toInt = 0 := (by omega); unfold lossI; rw [← hr9, ← hd9, if_neg hz, ← ew9, ← ew10, ← ew11, ev12])), trivial, rfl⟩, by rw [ht9]; exact hP9, hD9⟩, hS.F ht9⟩) hS.2.2 dX11_loss_56
  · have fc7 := zc_eq ev6 (rfl : (w5).toInt = _) (by decide : (0 : Int64).toInt = 0) c7
    refine lv_iconst (v := 0) hx hb dX11_loss_31 (by decide) ?_
    refine lv_goto (tgt := 56) hx hb dX11_loss_32 (by decide) ?_
    have : (0 : Int32).toInt = 0 := (by decide)
    have hP9 : va_P (dC, dI) classes (WX h g ca iv lv (u2 fa 30 2 n2) (u2 (u2 la 30 0 n3) 30 1 n4)) H := hP
    have hD9 : va_D A (WX h g ca iv lv (u2 fa 30 2 n2) (u2 (u2 la 30 0 n3) 30 1 n4)) := hD
    exact W.iret (v := 0) hx hb hr (fun t ht9 hW => ⟨⟨0, (iv, lv, (u2 fa 30 2 n2), (u2 (u2 la 30 0 n3) 30 1 n4)), rfl, ⟨n2, n3, n4, (show (0 : Int32).toInt = (lossI (smL (fun s : Nat => ((fa 10 0) (9 * s + 0)).toInt = (a).toInt ∧ ((fa 10 0) (9 * s + 1)).toInt = 0 ∧ ((fa 10 0) (9 * s + 7)).toInt ≤ (iv 11 10).toInt ∧ (((fa 10 0) (9 * s + 8)).toInt = -1 ∨ (iv 11 10).toInt < ((fa 10 0) (9 * s + 8)).toInt)) (fun s : Nat => (fa 10 0) (9 * s + 3)) ((iv 10 1).toInt).toNat) (smL (fun s : Nat => ((fa 10 0) (9 * s + 0)).toInt = (a).toInt ∧ ((fa 10 0) (9 * s + 1)).toInt = 0 ∧ ((fa 10 0) (9 * s + 7)).toInt ≤ (iv 11 10).toInt ∧ (((fa 10 0) (9 * s + 8)).toInt = -1 ∨ (iv 11 10).toInt < ((fa 10 0) (9 * s + 8)).toInt)) (fun s : Nat => (fa 10 0) (9 * s + 4)) ((iv 10 1).toInt).toNat)).toInt from (by have hr9 : (w5 : Int64) = (smL (fun s : Nat => ((fa 10 0) (9 * s + 0)).toInt = (a).toInt ∧ ((fa 10 0) (9 * s + 1)).toInt = 0 ∧ ((fa 10 0) (9 * s + 7)).toInt ≤ (iv 11 10).toInt ∧ (((fa 10 0) (9 * s + 8)).toInt = -1 ∨ (iv 11 10).toInt < ((fa 10 0) (9 * s + 8)).toInt)) (fun s : Nat => (fa 10 0) (9 * s + 3)) ((iv 10 1).toInt).toNat) := (show w5 = _ from ew5).trans hg9.1; have hz : ((smL (fun s : Nat => ((fa 10 0) (9 * s + 0)).toInt = (a).toInt ∧ ((fa 10 0) (9 * s + 1)).toInt = 0 ∧ ((fa 10 0) (9 * s + 7)).toInt ≤ (iv 11 10).toInt ∧ (((fa 10 0) (9 * s + 8)).toInt = -1 ∨ (iv 11 10).toInt < ((fa 10 0) (9 * s + 8)).toInt)) (fun s : Nat => (fa 10 0) (9 * s + 3)) ((iv 10 1).toInt).toNat)).toInt = 0 := (by rw [← hr9]; omega); unfold lossI; rw [if_pos hz])), trivial, rfl⟩, by rw [ht9]; exact hP9, hD9⟩, hS.F ht9⟩) hS.2.2 dX11_loss_56
set_option maxHeartbeats 4000000 in
set_option maxRecDepth 100000 in
/-- X11_cheat -/
theorem c_X11_cheat_c (l : Launch) (dC : Nat → ClassId) (dI : Nat → Nat → Nat) (sz : Nat) (h : Nat) (g : Nat → Nat → Nat) (ca : Nat → Nat → ClassId) (iv : Nat → Nat → Int32) (lv : Nat → Nat → Int64) (fa : Nat → Nat → Nat → Int32) (la : Nat → Nat → Nat → Int64) (hI : IX iv fa) (a : Int32) (b : Int32) (d : Int32) (k : Int32) : Met l yX11_cheat (wc yX11_cheat cX11_cheat 6 (some .int)) ({ frames := 4, cells := 0, slots := 0, locals := 90 } : Room) (pW (dC, dI) classes (WX h g ca iv lv fa la) (TX ca) sz [.ref h, .int a, .int b, .int d, .int k]) (va_Qi (fun r (u : SS) => ∃ (na_30_2 : Nat → Int32) (nb_30_0 : Nat → Int64) (nb_30_1 : Nat → Int64), (((r.toInt = -100001 ∧ ¬ (0 ≤ a.toInt ∧ a.toInt < (iv 0 7).toInt)) ∨ (r.toInt = -100002 ∧ (0 ≤ a.toInt ∧ a.toInt < (iv 0 7).toInt) ∧ ¬ (0 ≤ b.toInt ∧ b.toInt ≤ 999 ∧ 0 ≤ d.toInt ∧ d.toInt ≤ 999 ∧ 0 ≤ k.toInt ∧ k.toInt ≤ 999)) ∨ ((0 ≤ a.toInt ∧ a.toInt < (iv 0 7).toInt) ∧ (0 ≤ b.toInt ∧ b.toInt ≤ 999 ∧ 0 ≤ d.toInt ∧ d.toInt ≤ 999 ∧ 0 ≤ k.toInt ∧ k.toInt ≤ 999) ∧ r.toInt = chF ((fa 0 3) (a).toNatClampNeg) ((fa 0 4) (a).toNatClampNeg) (lossI (smL (fun s : Nat => ((fa 10 0) (9 * s + 0)).toInt = a.toInt ∧ ((fa 10 0) (9 * s + 1)).toInt = 0 ∧ ((fa 10 0) (9 * s + 7)).toInt ≤ (iv 11 10).toInt ∧ (((fa 10 0) (9 * s + 8)).toInt = -1 ∨ (iv 11 10).toInt < ((fa 10 0) (9 * s + 8)).toInt)) (fun s : Nat => (fa 10 0) (9 * s + 3)) ((iv 10 1).toInt).toNat) (smL (fun s : Nat => ((fa 10 0) (9 * s + 0)).toInt = a.toInt ∧ ((fa 10 0) (9 * s + 1)).toInt = 0 ∧ ((fa 10 0) (9 * s + 7)).toInt ≤ (iv 11 10).toInt ∧ (((fa 10 0) (9 * s + 8)).toInt = -1 ∨ (iv 11 10).toInt < ((fa 10 0) (9 * s + 8)).toInt)) (fun s : Nat => (fa 10 0) (9 * s + 4)) ((iv 10 1).toInt).toNat)) b d k))) ∧ ((-100002) ≤ r.toInt ∧ r.toInt ≤ 7) ∧ u = (iv, lv, (u2 fa 30 2 na_30_2), (u2 (u2 la 30 0 nb_30_0) 30 1 nb_30_1))) (bX (dC, dI) h g ca (va_A (WX h g ca iv lv fa la) sz)) (va_A (WX h g ca iv lv fa la) sz)) 0 0 (va_A (WX h g ca iv lv fa la) sz) := by
  refine Met.ofW (cc := cX11_cheat) (maxL := 6) (ret := (some .int)) (by decide) rfl ?_
  intro p e s m args below meth c s₁ B hml hv
  obtain ⟨rfl, hsz, hP, hK, hD0⟩ := hv
  have hx := B.exec
  have hb := B.bytes
  have hr := B.returns
  have ht := tb_tl (atoms_spec (ws := wc yX11_cheat cX11_cheat 6 (some .int)) B.pre)
  have hown : s.vm.findClass RX11 = some m.cls := findClass_of_methodNamed B.named
  have hlocks := B.notSynchronized
  subst hsz
  have hD := hD0.self (sz := s.heap.size)
  generalize hAe : va_A (WX h g ca iv lv fa la) s.heap.size = A at hD ⊢
  have hA : ∀ q : Nat, s.heap.size ≤ q → A q := fun q h => by rw [← hAe]; exact Or.inr h
  have hS : va_S A s.heap s.heap [] := va_S.rf
  have hl := lv_entry [.ref h, .int a, .int b, .int d, .int k] (n := 6) (Nat.le_of_ble_eq_true rfl)
  rw [lg_entry_eq]
  generalize (lg_sl [.ref h, .int a, .int b, .int d, .int k] ++ List.replicate (6 - (lg_sl [.ref h, .int a, .int b, .int d, .int k]).length) Slot.unset).toArray = ls at hl ⊢
  have hl : lv_has ls 6 [(0, .ref h), (1, .int a), (2, .int b), (3, .int d), (4, .int k)] := hl
  refine lv_aload_n hx hb dX11_cheat_0 rfl (lv_at hl 0 rfl) ?_
  refine gX_11_2 hx hb ht hown hK hP m_417 dX11_cheat_1 ?_
  refine lv_iload_n hx hb dX11_cheat_4 rfl (lv_at hl 1 rfl) ?_
  refine vp_callSi (W.runV (As := [.int a]) (rest := []) ⟨hx, hb, hml, hown, ht⟩ (c_X0_has l dC dI h g ca iv lv fa la hI a) (kV 1 ht m_472 m_473 m_474 m_80 m_475 rfl rfl hd_X0_has_v ⟨Nat.le_of_ble_eq_true rfl, Nat.le_of_ble_eq_true rfl⟩) (vR hP hK (rX_0 hK hP)) rfl rfl hl.1 rfl (lv_room (Nat.le_of_ble_eq_true rfl)) dX11_cheat_5 ⟨Nat.le_of_ble_eq_true rfl, Nat.le_of_ble_eq_true rfl⟩) (fun r1 hr1 => ?_)
  rcases hr1 with ⟨rfl, fr1⟩ | ⟨rfl, fr1⟩
  · skip
    have i_0_7 : 0 ≤ (iv 0 7).toInt ∧ (iv 0 7).toInt ≤ 10 := hI.1 0 7
    have fr1 : (0 ≤ (a : Int32).toInt ∧ (a : Int32).toInt < ((iv 0 7) : Int32).toInt) := fr1
    refine lv_if_ne (tgt := 14) hx hb dX11_cheat_8 (by decide) (fun c2 => ?_) (fun c2 => ?_)
    · skip
      refine lv_iload_n hx hb dX11_cheat_14 rfl (lv_at hl 2 rfl) ?_
      refine lv_iconst (v := 0) hx hb dX11_cheat_15 (by decide) ?_
      refine lv_sipush (v := 999) hx hb dX11_cheat_16 (by decide) ?_
      refine vp_callSi (W.runS (As := [.int b, .int 0, .int 999]) (rest := []) ⟨hx, hb, hml, hown, ht⟩ (c_X11_within l dC dI b 0 999 (b.toInt) (0) (999) (rfl : (b).toInt = _) (by decide : (0 : Int32).toInt = 0) (by decide : (999 : Int32).toInt = 999)) (kS 3 ht m_453 m_454 m_77 m_455 rfl rfl hd_X11_within_v ⟨Nat.le_of_ble_eq_true rfl, Nat.le_of_ble_eq_true rfl⟩) (sR noP (hK.sub (tys' := []) [] rfl)) rfl rfl hl.1 rfl (lv_room (Nat.le_of_ble_eq_true rfl)) dX11_cheat_19 ⟨Nat.le_of_ble_eq_true rfl, Nat.le_of_ble_eq_true rfl⟩) (fun r3 hr3 => ?_)
      rcases hr3 with ⟨rfl, fr3⟩ | ⟨rfl, fr3⟩
      · skip
        refine lv_if_eq (tgt := 48) hx hb dX11_cheat_22 (by decide) (fun c4 => ?_) (fun c4 => ?_)
        · exact absurd c4 (by decide)
        · skip
          refine lv_iload_n hx hb dX11_cheat_25 rfl (lv_at hl 3 rfl) ?_
          refine lv_iconst (v := 0) hx hb dX11_cheat_26 (by decide) ?_
          refine lv_sipush (v := 999) hx hb dX11_cheat_27 (by decide) ?_
          refine vp_callSi (W.runS (As := [.int d, .int 0, .int 999]) (rest := []) ⟨hx, hb, hml, hown, ht⟩ (c_X11_within l dC dI d 0 999 (d.toInt) (0) (999) (rfl : (d).toInt = _) (by decide : (0 : Int32).toInt = 0) (by decide : (999 : Int32).toInt = 999)) (kS 3 ht m_453 m_454 m_77 m_455 rfl rfl hd_X11_within_v ⟨Nat.le_of_ble_eq_true rfl, Nat.le_of_ble_eq_true rfl⟩) (sR noP (hK.sub (tys' := []) [] rfl)) rfl rfl hl.1 rfl (lv_room (Nat.le_of_ble_eq_true rfl)) dX11_cheat_30 ⟨Nat.le_of_ble_eq_true rfl, Nat.le_of_ble_eq_true rfl⟩) (fun r5 hr5 => ?_)
          rcases hr5 with ⟨rfl, fr5⟩ | ⟨rfl, fr5⟩
          · skip
            refine lv_if_eq (tgt := 48) hx hb dX11_cheat_33 (by decide) (fun c6 => ?_) (fun c6 => ?_)
            · exact absurd c6 (by decide)
            · skip
              refine lv_iload hx hb dX11_cheat_36 (lv_at hl 4 rfl) ?_
              refine lv_iconst (v := 0) hx hb dX11_cheat_38 (by decide) ?_
              refine lv_sipush (v := 999) hx hb dX11_cheat_39 (by decide) ?_
              refine vp_callSi (W.runS (As := [.int k, .int 0, .int 999]) (rest := []) ⟨hx, hb, hml, hown, ht⟩ (c_X11_within l dC dI k 0 999 (k.toInt) (0) (999) (rfl : (k).toInt = _) (by decide : (0 : Int32).toInt = 0) (by decide : (999 : Int32).toInt = 999)) (kS 3 ht m_453 m_454 m_77 m_455 rfl rfl hd_X11_within_v ⟨Nat.le_of_ble_eq_true rfl, Nat.le_of_ble_eq_true rfl⟩) (sR noP (hK.sub (tys' := []) [] rfl)) rfl rfl hl.1 rfl (lv_room (Nat.le_of_ble_eq_true rfl)) dX11_cheat_42 ⟨Nat.le_of_ble_eq_true rfl, Nat.le_of_ble_eq_true rfl⟩) (fun r7 hr7 => ?_)
              rcases hr7 with ⟨rfl, fr7⟩ | ⟨rfl, fr7⟩
              · skip
                refine lv_if_ne (tgt := 51) hx hb dX11_cheat_45 (by decide) (fun c8 => ?_) (fun c8 => ?_)
                · skip
                  refine lv_aload_n hx hb dX11_cheat_51 rfl (lv_at hl 0 rfl) ?_
                  refine gX_11_2 hx hb ht hown hK hP m_417 dX11_cheat_52 ?_
                  refine gX_0_3 hx hb ht hown hK hP m_159 dX11_cheat_55 ?_
                  refine lv_iload_n hx hb dX11_cheat_58 rfl (lv_at hl 1 rfl) ?_
                  refine lX_0_3 hx hb hK hP (f := (fa 0 3)) rfl (vp_in_iff.mpr ⟨by omega, by omega⟩) dX11_cheat_59 ?_
                  refine lv_topi (fun v9 ev9 => ?_)
                  refine lv_iload_n hx hb dX11_cheat_60 rfl (lv_at hl 2 rfl) ?_
                  refine lv_icmp_le (tgt := 68) hx hb dX11_cheat_61 (by decide) (fun c10 => ?_) (fun c10 => ?_)
                  · have fc10 := z_le (rfl : (v9).toInt = _) (rfl : (b).toInt = _) c10
                    refine lv_iconst (v := 0) hx hb dX11_cheat_68 (by decide) ?_
                    refine lv_istore (lv' := [(5, .int 0), (0, .ref h), (1, .int a), (2, .int b), (3, .int d), (4, .int k)]) hx hb dX11_cheat_69 hl (by decide) rfl (fun ls hl => ?_)
                    refine lv_aload_n hx hb dX11_cheat_71 rfl (lv_at hl 1 rfl) ?_
                    refine gX_11_2 hx hb ht hown hK hP m_417 dX11_cheat_72 ?_
                    refine gX_0_4 hx hb ht hown hK hP m_161 dX11_cheat_75 ?_
                    refine lv_iload_n hx hb dX11_cheat_78 rfl (lv_at hl 2 rfl) ?_
                    refine lX_0_4 hx hb hK hP (f := (fa 0 4)) rfl (vp_in_iff.mpr ⟨by omega, by omega⟩) dX11_cheat_79 ?_
                    refine lv_topi (fun v11 ev11 => ?_)
                    refine lv_iload_n hx hb dX11_cheat_80 rfl (lv_at hl 4 rfl) ?_
                    refine lv_icmp_le (tgt := 87) hx hb dX11_cheat_81 (by decide) (fun c12 => ?_) (fun c12 => ?_)
                    · have fc12 := z_le (rfl : (v11).toInt = _) (rfl : (d).toInt = _) c12
                      refine lv_aload_n hx hb dX11_cheat_87 rfl (lv_at hl 1 rfl) ?_
                      refine gX_11_2 hx hb ht hown hK hP m_417 dX11_cheat_88 ?_
                      refine gX_0_3 hx hb ht hown hK hP m_159 dX11_cheat_91 ?_
                      refine lv_iload_n hx hb dX11_cheat_94 rfl (lv_at hl 2 rfl) ?_
                      refine lX_0_3 hx hb hK hP (f := (fa 0 3)) rfl (vp_in_iff.mpr ⟨by omega, by omega⟩) dX11_cheat_95 ?_
                      refine lv_topi (fun v13 ev13 => ?_)
                      obtain rfl : v9 = v13 := ev9.trans ev13.symm
                      refine lv_aload_n hx hb dX11_cheat_96 rfl (lv_at hl 1 rfl) ?_
                      refine gX_11_2 hx hb ht hown hK hP m_417 dX11_cheat_97 ?_
                      refine gX_0_4 hx hb ht hown hK hP m_161 dX11_cheat_100 ?_
                      refine lv_iload_n hx hb dX11_cheat_103 rfl (lv_at hl 2 rfl) ?_
                      refine lX_0_4 hx hb hK hP (f := (fa 0 4)) rfl (vp_in_iff.mpr ⟨by omega, by omega⟩) dX11_cheat_104 ?_
                      refine lv_topi (fun v14 ev14 => ?_)
                      obtain rfl : v11 = v14 := ev11.trans ev14.symm
                      refine lv_iadd hx hb dX11_cheat_105 ?_
                      refine lv_topi (fun v15 ev15 => ?_)
                      refine lv_aload_n hx hb dX11_cheat_106 rfl (lv_at hl 1 rfl) ?_
                      refine lv_iload_n hx hb dX11_cheat_107 rfl (lv_at hl 2 rfl) ?_
                      have i_11_10 : 0 ≤ (iv 11 10).toInt ∧ (iv 11 10).toInt ≤ 3000 := hI.1 11 10
                      have i_10_1 : 0 ≤ (iv 10 1).toInt ∧ (iv 10 1).toInt ≤ 60 := hI.1 10 1
                      have hFc := free_all hD hS hA
                      refine va_calli (va_runV (As := [.int a]) (rest := [.int v15]) ⟨hx, hb, hml, hown, ht⟩ (c_X11_loss_c l dC dI s.heap.size h g ca iv lv fa la hI a) (kV 1 ht m_997 m_999 m_40 m_77 m_1000 rfl rfl hd_X11_loss_v ⟨Nat.le_of_ble_eq_true rfl, Nat.le_of_ble_eq_true rfl⟩) (vW hP hK hD (rX_11 hK hP)) rfl rfl hl.1 rfl (lv_room (Nat.le_of_ble_eq_true rfl)) dX11_cheat_108 ⟨Nat.le_of_ble_eq_true rfl, Nat.le_of_ble_eq_true rfl⟩) hS (fun q _ h => hFc q h) hFc (fun r16 u t H1 locs ht9 hvm hr16 hB hz1 hk1 hS => ?_)
                      obtain ⟨n17, n18, n19, xr16_0, hr16, rfl⟩ := hr16
                      have hn17 : ∀ j, inb (bA 30 2 j) (n17 j) := fun j => full_i _
                      obtain ⟨hP, hD⟩ := hB
                      rw [ht9] at hP
                      generalize H1 = H at hP hS ⊢
                      have hP : va_P (dC, dI) classes (WX h g ca iv lv (u2 fa 30 2 n17) (u2 (u2 la 30 0 n18) 30 1 n19)) H := hP
                      have hD : va_D A (WX h g ca iv lv (u2 fa 30 2 n17) (u2 (u2 la 30 0 n18) 30 1 n19)) := (show va_D _ (WX h g ca iv lv (u2 fa 30 2 n17) (u2 (u2 la 30 0 n18) 30 1 n19)) from hD).weaken (fun _ _ _ h => hFc _ h)
                      have xr16_0 : (r16 : Int32).toInt = (lossI (smL (fun s : Nat => ((fa 10 0) (9 * s + 0)).toInt = (a : Int32).toInt ∧ ((fa 10 0) (9 * s + 1)).toInt = 0 ∧ ((fa 10 0) (9 * s + 7)).toInt ≤ ((iv 11 10) : Int32).toInt ∧ (((fa 10 0) (9 * s + 8)).toInt = -1 ∨ ((iv 11 10) : Int32).toInt < ((fa 10 0) (9 * s + 8)).toInt)) (fun s : Nat => (fa 10 0) (9 * s + 3)) (((iv 10 1) : Int32).toInt).toNat) (smL (fun s : Nat => ((fa 10 0) (9 * s + 0)).toInt = (a : Int32).toInt ∧ ((fa 10 0) (9 * s + 1)).toInt = 0 ∧ ((fa 10 0) (9 * s + 7)).toInt ≤ ((iv 11 10) : Int32).toInt ∧ (((fa 10 0) (9 * s + 8)).toInt = -1 ∨ ((iv 11 10) : Int32).toInt < ((fa 10 0) (9 * s + 8)).toInt)) (fun s : Nat => (fa 10 0) (9 * s + 4)) (((iv 10 1) : Int32).toInt).toNat)).toInt := xr16_0
                      refine lv_iadd hx hb dX11_cheat_111 ?_
                      refine lv_topi (fun v20 ev20 => ?_)
                      refine lv_iload hx hb dX11_cheat_112 (lv_at hl 5 rfl) ?_
                      refine lv_icmp_le (tgt := 120) hx hb dX11_cheat_114 (by decide) (fun c21 => ?_) (fun c21 => ?_)
                      · have fc21 := z_le (rfl : (v20).toInt = _) (rfl : (k).toInt = _) c21
                        refine lv_iload hx hb dX11_cheat_120 (lv_at hl 0 rfl) ?_
                        have : (0 : Int32).toInt = 0 := (by decide)
                        have hP9 : va_P (dC, dI) classes (WX h g ca iv lv (u2 fa 30 2 n17) (u2 (u2 la 30 0 n18) 30 1 n19)) H := hP
                        have hD9 : va_D A (WX h g ca iv lv (u2 fa 30 2 n17) (u2 (u2 la 30 0 n18) 30 1 n19)) := hD
                        exact W.iret (v := 0) hx hb hr (fun t ht9 hW => ⟨⟨0, (iv, lv, (u2 fa 30 2 n17), (u2 (u2 la 30 0 n18) 30 1 n19)), rfl, ⟨n17, n18, n19, (show (((0 : Int32).toInt = -100001 ∧ ¬ (0 ≤ (a).toInt ∧ (a).toInt < (iv 0 7).toInt)) ∨ ((0 : Int32).toInt = -100002 ∧ (0 ≤ (a).toInt ∧ (a).toInt < (iv 0 7).toInt) ∧ ¬ (0 ≤ (b).toInt ∧ (b).toInt ≤ 999 ∧ 0 ≤ (d).toInt ∧ (d).toInt ≤ 999 ∧ 0 ≤ (k).toInt ∧ (k).toInt ≤ 999)) ∨ ((0 ≤ (a).toInt ∧ (a).toInt < (iv 0 7).toInt) ∧ (0 ≤ (b).toInt ∧ (b).toInt ≤ 999 ∧ 0 ≤ (d).toInt ∧ (d).toInt ≤ 999 ∧ 0 ≤ (k).toInt ∧ (k).toInt ≤ 999) ∧ (0 : Int32).toInt = chF ((fa 0 3) (a).toNatClampNeg) ((fa 0 4) (a).toNatClampNeg) (lossI (smL (fun s : Nat => ((fa 10 0) (9 * s + 0)).toInt = (a).toInt ∧ ((fa 10 0) (9 * s + 1)).toInt = 0 ∧ ((fa 10 0) (9 * s + 7)).toInt ≤ (iv 11 10).toInt ∧ (((fa 10 0) (9 * s + 8)).toInt = -1 ∨ (iv 11 10).toInt < ((fa 10 0) (9 * s + 8)).toInt)) (fun s : Nat => (fa 10 0) (9 * s + 3)) ((iv 10 1).toInt).toNat) (smL (fun s : Nat => ((fa 10 0) (9 * s + 0)).toInt = (a).toInt ∧ ((fa 10 0) (9 * s + 1)).toInt = 0 ∧ ((fa 10 0) (9 * s + 7)).toInt ≤ (iv 11 10).toInt ∧ (((fa 10 0) (9 * s + 8)).toInt = -1 ∨ (iv 11 10).toInt < ((fa 10 0) (9 * s + 8)).toInt)) (fun s : Nat => (fa 10 0) (9 * s + 4)) ((iv 10 1).toInt).toNat)) b d k)) from Or.inr (Or.inr ⟨⟨by omega, by omega⟩, ⟨by omega, by omega, by omega, by omega, by omega, by omega⟩, (by have hl9 : (r16 : Int32) = _ := Int32.toInt_inj.mp xr16_0; rw [← ev9, ← ev11, ← hl9]; unfold chF; rw [← ev15, ← ev20]; (first | omega | (split <;> (first | omega | (split <;> (first | omega | (split <;> omega)))))))⟩)), ⟨by decide, by decide⟩, rfl⟩, by rw [ht9]; exact hP9, hD9⟩, hS.F ht9⟩) hS.2.2 dX11_cheat_122
                      · have fc21 := z_nle (rfl : (v20).toInt = _) (rfl : (k).toInt = _) c21
                        refine lv_iinc (v := 4) (lv' := [(5, .int 4), (0, .ref h), (1, .int a), (2, .int b), (3, .int d), (4, .int k)]) hx hb dX11_cheat_117 hl (k := 0) rfl (by decide) (by decide) rfl (fun ls hl => ?_)
                        refine lv_iload hx hb dX11_cheat_120 (lv_at hl 0 rfl) ?_
                        have : (4 : Int32).toInt = 4 := (by decide)
                        have hP9 : va_P (dC, dI) classes (WX h g ca iv lv (u2 fa 30 2 n17) (u2 (u2 la 30 0 n18) 30 1 n19)) H := hP
                        have hD9 : va_D A (WX h g ca iv lv (u2 fa 30 2 n17) (u2 (u2 la 30 0 n18) 30 1 n19)) := hD
                        exact W.iret (v := 4) hx hb hr (fun t ht9 hW => ⟨⟨4, (iv, lv, (u2 fa 30 2 n17), (u2 (u2 la 30 0 n18) 30 1 n19)), rfl, ⟨n17, n18, n19, (show (((4 : Int32).toInt = -100001 ∧ ¬ (0 ≤ (a).toInt ∧ (a).toInt < (iv 0 7).toInt)) ∨ ((4 : Int32).toInt = -100002 ∧ (0 ≤ (a).toInt ∧ (a).toInt < (iv 0 7).toInt) ∧ ¬ (0 ≤ (b).toInt ∧ (b).toInt ≤ 999 ∧ 0 ≤ (d).toInt ∧ (d).toInt ≤ 999 ∧ 0 ≤ (k).toInt ∧ (k).toInt ≤ 999)) ∨ ((0 ≤ (a).toInt ∧ (a).toInt < (iv 0 7).toInt) ∧ (0 ≤ (b).toInt ∧ (b).toInt ≤ 999 ∧ 0 ≤ (d).toInt ∧ (d).toInt ≤ 999 ∧ 0 ≤ (k).toInt ∧ (k).toInt ≤ 999) ∧ (4 : Int32).toInt = chF ((fa 0 3) (a).toNatClampNeg) ((fa 0 4) (a).toNatClampNeg) (lossI (smL (fun s : Nat => ((fa 10 0) (9 * s + 0)).toInt = (a).toInt ∧ ((fa 10 0) (9 * s + 1)).toInt = 0 ∧ ((fa 10 0) (9 * s + 7)).toInt ≤ (iv 11 10).toInt ∧ (((fa 10 0) (9 * s + 8)).toInt = -1 ∨ (iv 11 10).toInt < ((fa 10 0) (9 * s + 8)).toInt)) (fun s : Nat => (fa 10 0) (9 * s + 3)) ((iv 10 1).toInt).toNat) (smL (fun s : Nat => ((fa 10 0) (9 * s + 0)).toInt = (a).toInt ∧ ((fa 10 0) (9 * s + 1)).toInt = 0 ∧ ((fa 10 0) (9 * s + 7)).toInt ≤ (iv 11 10).toInt ∧ (((fa 10 0) (9 * s + 8)).toInt = -1 ∨ (iv 11 10).toInt < ((fa 10 0) (9 * s + 8)).toInt)) (fun s : Nat => (fa 10 0) (9 * s + 4)) ((iv 10 1).toInt).toNat)) b d k)) from Or.inr (Or.inr ⟨⟨by omega, by omega⟩, ⟨by omega, by omega, by omega, by omega, by omega, by omega⟩, (by have hl9 : (r16 : Int32) = _ := Int32.toInt_inj.mp xr16_0; rw [← ev9, ← ev11, ← hl9]; unfold chF; rw [← ev15, ← ev20]; (first | omega | (split <;> (first | omega | (split <;> (first | omega | (split <;> omega)))))))⟩)), ⟨by decide, by decide⟩, rfl⟩, by rw [ht9]; exact hP9, hD9⟩, hS.F ht9⟩) hS.2.2 dX11_cheat_122
                    · have fc12 := z_nle (rfl : (v11).toInt = _) (rfl : (d).toInt = _) c12
                      refine lv_iinc (v := 2) (lv' := [(5, .int 2), (0, .ref h), (1, .int a), (2, .int b), (3, .int d), (4, .int k)]) hx hb dX11_cheat_84 hl (k := 0) rfl (by decide) (by decide) rfl (fun ls hl => ?_)
                      refine lv_aload_n hx hb dX11_cheat_87 rfl (lv_at hl 1 rfl) ?_
                      refine gX_11_2 hx hb ht hown hK hP m_417 dX11_cheat_88 ?_
                      refine gX_0_3 hx hb ht hown hK hP m_159 dX11_cheat_91 ?_
                      refine lv_iload_n hx hb dX11_cheat_94 rfl (lv_at hl 2 rfl) ?_
                      refine lX_0_3 hx hb hK hP (f := (fa 0 3)) rfl (vp_in_iff.mpr ⟨by omega, by omega⟩) dX11_cheat_95 ?_
                      refine lv_topi (fun v22 ev22 => ?_)
                      obtain rfl : v9 = v22 := ev9.trans ev22.symm
                      refine lv_aload_n hx hb dX11_cheat_96 rfl (lv_at hl 1 rfl) ?_
                      refine gX_11_2 hx hb ht hown hK hP m_417 dX11_cheat_97 ?_
                      refine gX_0_4 hx hb ht hown hK hP m_161 dX11_cheat_100 ?_
                      refine lv_iload_n hx hb dX11_cheat_103 rfl (lv_at hl 2 rfl) ?_
                      refine lX_0_4 hx hb hK hP (f := (fa 0 4)) rfl (vp_in_iff.mpr ⟨by omega, by omega⟩) dX11_cheat_104 ?_
                      refine lv_topi (fun v23 ev23 => ?_)
                      obtain rfl : v11 = v23 := ev11.trans ev23.symm
                      refine lv_iadd hx hb dX11_cheat_105 ?_
                      refine lv_topi (fun v24 ev24 => ?_)
                      refine lv_aload_n hx hb dX11_cheat_106 rfl (lv_at hl 1 rfl) ?_
                      refine lv_iload_n hx hb dX11_cheat_107 rfl (lv_at hl 2 rfl) ?_
                      have i_11_10 : 0 ≤ (iv 11 10).toInt ∧ (iv 11 10).toInt ≤ 3000 := hI.1 11 10
                      have i_10_1 : 0 ≤ (iv 10 1).toInt ∧ (iv 10 1).toInt ≤ 60 := hI.1 10 1
                      have hFc := free_all hD hS hA
                      refine va_calli (va_runV (As := [.int a]) (rest := [.int v24]) ⟨hx, hb, hml, hown, ht⟩ (c_X11_loss_c l dC dI s.heap.size h g ca iv lv fa la hI a) (kV 1 ht m_997 m_999 m_40 m_77 m_1000 rfl rfl hd_X11_loss_v ⟨Nat.le_of_ble_eq_true rfl, Nat.le_of_ble_eq_true rfl⟩) (vW hP hK hD (rX_11 hK hP)) rfl rfl hl.1 rfl (lv_room (Nat.le_of_ble_eq_true rfl)) dX11_cheat_108 ⟨Nat.le_of_ble_eq_true rfl, Nat.le_of_ble_eq_true rfl⟩) hS (fun q _ h => hFc q h) hFc (fun r25 u t H1 locs ht9 hvm hr25 hB hz1 hk1 hS => ?_)
                      obtain ⟨n26, n27, n28, xr25_0, hr25, rfl⟩ := hr25
                      have hn26 : ∀ j, inb (bA 30 2 j) (n26 j) := fun j => full_i _
                      obtain ⟨hP, hD⟩ := hB
                      rw [ht9] at hP
                      generalize H1 = H at hP hS ⊢
                      have hP : va_P (dC, dI) classes (WX h g ca iv lv (u2 fa 30 2 n26) (u2 (u2 la 30 0 n27) 30 1 n28)) H := hP
                      have hD : va_D A (WX h g ca iv lv (u2 fa 30 2 n26) (u2 (u2 la 30 0 n27) 30 1 n28)) := (show va_D _ (WX h g ca iv lv (u2 fa 30 2 n26) (u2 (u2 la 30 0 n27) 30 1 n28)) from hD).weaken (fun _ _ _ h => hFc _ h)
                      have xr25_0 : (r25 : Int32).toInt = (lossI (smL (fun s : Nat => ((fa 10 0) (9 * s + 0)).toInt = (a : Int32).toInt ∧ ((fa 10 0) (9 * s + 1)).toInt = 0 ∧ ((fa 10 0) (9 * s + 7)).toInt ≤ ((iv 11 10) : Int32).toInt ∧ (((fa 10 0) (9 * s + 8)).toInt = -1 ∨ ((iv 11 10) : Int32).toInt < ((fa 10 0) (9 * s + 8)).toInt)) (fun s : Nat => (fa 10 0) (9 * s + 3)) (((iv 10 1) : Int32).toInt).toNat) (smL (fun s : Nat => ((fa 10 0) (9 * s + 0)).toInt = (a : Int32).toInt ∧ ((fa 10 0) (9 * s + 1)).toInt = 0 ∧ ((fa 10 0) (9 * s + 7)).toInt ≤ ((iv 11 10) : Int32).toInt ∧ (((fa 10 0) (9 * s + 8)).toInt = -1 ∨ ((iv 11 10) : Int32).toInt < ((fa 10 0) (9 * s + 8)).toInt)) (fun s : Nat => (fa 10 0) (9 * s + 4)) (((iv 10 1) : Int32).toInt).toNat)).toInt := xr25_0
                      refine lv_iadd hx hb dX11_cheat_111 ?_
                      refine lv_topi (fun v29 ev29 => ?_)
                      refine lv_iload hx hb dX11_cheat_112 (lv_at hl 5 rfl) ?_
                      refine lv_icmp_le (tgt := 120) hx hb dX11_cheat_114 (by decide) (fun c30 => ?_) (fun c30 => ?_)
                      · have fc30 := z_le (rfl : (v29).toInt = _) (rfl : (k).toInt = _) c30
                        refine lv_iload hx hb dX11_cheat_120 (lv_at hl 0 rfl) ?_
                        have : (2 : Int32).toInt = 2 := (by decide)
                        have hP9 : va_P (dC, dI) classes (WX h g ca iv lv (u2 fa 30 2 n26) (u2 (u2 la 30 0 n27) 30 1 n28)) H := hP
                        have hD9 : va_D A (WX h g ca iv lv (u2 fa 30 2 n26) (u2 (u2 la 30 0 n27) 30 1 n28)) := hD
                        exact W.iret (v := 2) hx hb hr (fun t ht9 hW => ⟨⟨2, (iv, lv, (u2 fa 30 2 n26), (u2 (u2 la 30 0 n27) 30 1 n28)), rfl, ⟨n26, n27, n28, (show (((2 : Int32).toInt = -100001 ∧ ¬ (0 ≤ (a).toInt ∧ (a).toInt < (iv 0 7).toInt)) ∨ ((2 : Int32).toInt = -100002 ∧ (0 ≤ (a).toInt ∧ (a).toInt < (iv 0 7).toInt) ∧ ¬ (0 ≤ (b).toInt ∧ (b).toInt ≤ 999 ∧ 0 ≤ (d).toInt ∧ (d).toInt ≤ 999 ∧ 0 ≤ (k).toInt ∧ (k).toInt ≤ 999)) ∨ ((0 ≤ (a).toInt ∧ (a).toInt < (iv 0 7).toInt) ∧ (0 ≤ (b).toInt ∧ (b).toInt ≤ 999 ∧ 0 ≤ (d).toInt ∧ (d).toInt ≤ 999 ∧ 0 ≤ (k).toInt ∧ (k).toInt ≤ 999) ∧ (2 : Int32).toInt = chF ((fa 0 3) (a).toNatClampNeg) ((fa 0 4) (a).toNatClampNeg) (lossI (smL (fun s : Nat => ((fa 10 0) (9 * s + 0)).toInt = (a).toInt ∧ ((fa 10 0) (9 * s + 1)).toInt = 0 ∧ ((fa 10 0) (9 * s + 7)).toInt ≤ (iv 11 10).toInt ∧ (((fa 10 0) (9 * s + 8)).toInt = -1 ∨ (iv 11 10).toInt < ((fa 10 0) (9 * s + 8)).toInt)) (fun s : Nat => (fa 10 0) (9 * s + 3)) ((iv 10 1).toInt).toNat) (smL (fun s : Nat => ((fa 10 0) (9 * s + 0)).toInt = (a).toInt ∧ ((fa 10 0) (9 * s + 1)).toInt = 0 ∧ ((fa 10 0) (9 * s + 7)).toInt ≤ (iv 11 10).toInt ∧ (((fa 10 0) (9 * s + 8)).toInt = -1 ∨ (iv 11 10).toInt < ((fa 10 0) (9 * s + 8)).toInt)) (fun s : Nat => (fa 10 0) (9 * s + 4)) ((iv 10 1).toInt).toNat)) b d k)) from Or.inr (Or.inr ⟨⟨by omega, by omega⟩, ⟨by omega, by omega, by omega, by omega, by omega, by omega⟩, (by have hl9 : (r25 : Int32) = _ := Int32.toInt_inj.mp xr25_0; rw [← ev9, ← ev11, ← hl9]; unfold chF; rw [← ev24, ← ev29]; (first | omega | (split <;> (first | omega | (split <;> (first | omega | (split <;> omega)))))))⟩)), ⟨by decide, by decide⟩, rfl⟩, by rw [ht9]; exact hP9, hD9⟩, hS.F ht9⟩) hS.2.2 dX11_cheat_122
                      · have fc30 := z_nle (rfl : (v29).toInt = _) (rfl : (k).toInt = _) c30
                        refine lv_iinc (v := 6) (lv' := [(5, .int 6), (0, .ref h), (1, .int a), (2, .int b), (3, .int d), (4, .int k)]) hx hb dX11_cheat_117 hl (k := 0) rfl (by decide) (by decide) rfl (fun ls hl => ?_)
                        refine lv_iload hx hb dX11_cheat_120 (lv_at hl 0 rfl) ?_
                        have : (6 : Int32).toInt = 6 := (by decide)
                        have hP9 : va_P (dC, dI) classes (WX h g ca iv lv (u2 fa 30 2 n26) (u2 (u2 la 30 0 n27) 30 1 n28)) H := hP
                        have hD9 : va_D A (WX h g ca iv lv (u2 fa 30 2 n26) (u2 (u2 la 30 0 n27) 30 1 n28)) := hD
                        exact W.iret (v := 6) hx hb hr (fun t ht9 hW => ⟨⟨6, (iv, lv, (u2 fa 30 2 n26), (u2 (u2 la 30 0 n27) 30 1 n28)), rfl, ⟨n26, n27, n28, (show (((6 : Int32).toInt = -100001 ∧ ¬ (0 ≤ (a).toInt ∧ (a).toInt < (iv 0 7).toInt)) ∨ ((6 : Int32).toInt = -100002 ∧ (0 ≤ (a).toInt ∧ (a).toInt < (iv 0 7).toInt) ∧ ¬ (0 ≤ (b).toInt ∧ (b).toInt ≤ 999 ∧ 0 ≤ (d).toInt ∧ (d).toInt ≤ 999 ∧ 0 ≤ (k).toInt ∧ (k).toInt ≤ 999)) ∨ ((0 ≤ (a).toInt ∧ (a).toInt < (iv 0 7).toInt) ∧ (0 ≤ (b).toInt ∧ (b).toInt ≤ 999 ∧ 0 ≤ (d).toInt ∧ (d).toInt ≤ 999 ∧ 0 ≤ (k).toInt ∧ (k).toInt ≤ 999) ∧ (6 : Int32).toInt = chF ((fa 0 3) (a).toNatClampNeg) ((fa 0 4) (a).toNatClampNeg) (lossI (smL (fun s : Nat => ((fa 10 0) (9 * s + 0)).toInt = (a).toInt ∧ ((fa 10 0) (9 * s + 1)).toInt = 0 ∧ ((fa 10 0) (9 * s + 7)).toInt ≤ (iv 11 10).toInt ∧ (((fa 10 0) (9 * s + 8)).toInt = -1 ∨ (iv 11 10).toInt < ((fa 10 0) (9 * s + 8)).toInt)) (fun s : Nat => (fa 10 0) (9 * s + 3)) ((iv 10 1).toInt).toNat) (smL (fun s : Nat => ((fa 10 0) (9 * s + 0)).toInt = (a).toInt ∧ ((fa 10 0) (9 * s + 1)).toInt = 0 ∧ ((fa 10 0) (9 * s + 7)).toInt ≤ (iv 11 10).toInt ∧ (((fa 10 0) (9 * s + 8)).toInt = -1 ∨ (iv 11 10).toInt < ((fa 10 0) (9 * s + 8)).toInt)) (fun s : Nat => (fa 10 0) (9 * s + 4)) ((iv 10 1).toInt).toNat)) b d k)) from Or.inr (Or.inr ⟨⟨by omega, by omega⟩, ⟨by omega, by omega, by omega, by omega, by omega, by omega⟩, (by have hl9 : (r25 : Int32) = _ := Int32.toInt_inj.mp xr25_0; rw [← ev9, ← ev11, ← hl9]; unfold chF; rw [← ev24, ← ev29]; (first | omega | (split <;> (first | omega | (split <;> (first | omega | (split <;> omega)))))))⟩)), ⟨by decide, by decide⟩, rfl⟩, by rw [ht9]; exact hP9, hD9⟩, hS.F ht9⟩) hS.2.2 dX11_cheat_122
                  · have fc10 := z_nle (rfl : (v9).toInt = _) (rfl : (b).toInt = _) c10
                    refine lv_iconst (v := 1) hx hb dX11_cheat_64 (by decide) ?_
                    refine lv_goto (tgt := 69) hx hb dX11_cheat_65 (by decide) ?_
                    refine lv_istore (lv' := [(5, .int 1), (0, .ref h), (1, .int a), (2, .int b), (3, .int d), (4, .int k)]) hx hb dX11_cheat_69 hl (by decide) rfl (fun ls hl => ?_)
                    refine lv_aload_n hx hb dX11_cheat_71 rfl (lv_at hl 1 rfl) ?_
                    refine gX_11_2 hx hb ht hown hK hP m_417 dX11_cheat_72 ?_
                    refine gX_0_4 hx hb ht hown hK hP m_161 dX11_cheat_75 ?_
                    refine lv_iload_n hx hb dX11_cheat_78 rfl (lv_at hl 2 rfl) ?_
                    refine lX_0_4 hx hb hK hP (f := (fa 0 4)) rfl (vp_in_iff.mpr ⟨by omega, by omega⟩) dX11_cheat_79 ?_
                    refine lv_topi (fun v31 ev31 => ?_)
                    refine lv_iload_n hx hb dX11_cheat_80 rfl (lv_at hl 4 rfl) ?_
                    refine lv_icmp_le (tgt := 87) hx hb dX11_cheat_81 (by decide) (fun c32 => ?_) (fun c32 => ?_)
                    · have fc32 := z_le (rfl : (v31).toInt = _) (rfl : (d).toInt = _) c32
                      refine lv_aload_n hx hb dX11_cheat_87 rfl (lv_at hl 1 rfl) ?_
                      refine gX_11_2 hx hb ht hown hK hP m_417 dX11_cheat_88 ?_
                      refine gX_0_3 hx hb ht hown hK hP m_159 dX11_cheat_91 ?_
                      refine lv_iload_n hx hb dX11_cheat_94 rfl (lv_at hl 2 rfl) ?_
                      refine lX_0_3 hx hb hK hP (f := (fa 0 3)) rfl (vp_in_iff.mpr ⟨by omega, by omega⟩) dX11_cheat_95 ?_
                      refine lv_topi (fun v33 ev33 => ?_)
                      obtain rfl : v9 = v33 := ev9.trans ev33.symm
                      refine lv_aload_n hx hb dX11_cheat_96 rfl (lv_at hl 1 rfl) ?_
                      refine gX_11_2 hx hb ht hown hK hP m_417 dX11_cheat_97 ?_
                      refine gX_0_4 hx hb ht hown hK hP m_161 dX11_cheat_100 ?_
                      refine lv_iload_n hx hb dX11_cheat_103 rfl (lv_at hl 2 rfl) ?_
                      refine lX_0_4 hx hb hK hP (f := (fa 0 4)) rfl (vp_in_iff.mpr ⟨by omega, by omega⟩) dX11_cheat_104 ?_
                      refine lv_topi (fun v34 ev34 => ?_)
                      obtain rfl : v31 = v34 := ev31.trans ev34.symm
                      refine lv_iadd hx hb dX11_cheat_105 ?_
                      refine lv_topi (fun v35 ev35 => ?_)
                      refine lv_aload_n hx hb dX11_cheat_106 rfl (lv_at hl 1 rfl) ?_
                      refine lv_iload_n hx hb dX11_cheat_107 rfl (lv_at hl 2 rfl) ?_
                      have i_11_10 : 0 ≤ (iv 11 10).toInt ∧ (iv 11 10).toInt ≤ 3000 := hI.1 11 10
                      have i_10_1 : 0 ≤ (iv 10 1).toInt ∧ (iv 10 1).toInt ≤ 60 := hI.1 10 1
                      have hFc := free_all hD hS hA
                      refine va_calli (va_runV (As := [.int a]) (rest := [.int v35]) ⟨hx, hb, hml, hown, ht⟩ (c_X11_loss_c l dC dI s.heap.size h g ca iv lv fa la hI a) (kV 1 ht m_997 m_999 m_40 m_77 m_1000 rfl rfl hd_X11_loss_v ⟨Nat.le_of_ble_eq_true rfl, Nat.le_of_ble_eq_true rfl⟩) (vW hP hK hD (rX_11 hK hP)) rfl rfl hl.1 rfl (lv_room (Nat.le_of_ble_eq_true rfl)) dX11_cheat_108 ⟨Nat.le_of_ble_eq_true rfl, Nat.le_of_ble_eq_true rfl⟩) hS (fun q _ h => hFc q h) hFc (fun r36 u t H1 locs ht9 hvm hr36 hB hz1 hk1 hS => ?_)
                      obtain ⟨n37, n38, n39, xr36_0, hr36, rfl⟩ := hr36
                      have hn37 : ∀ j, inb (bA 30 2 j) (n37 j) := fun j => full_i _
                      obtain ⟨hP, hD⟩ := hB
                      rw [ht9] at hP
                      generalize H1 = H at hP hS ⊢
                      have hP : va_P (dC, dI) classes (WX h g ca iv lv (u2 fa 30 2 n37) (u2 (u2 la 30 0 n38) 30 1 n39)) H := hP
                      have hD : va_D A (WX h g ca iv lv (u2 fa 30 2 n37) (u2 (u2 la 30 0 n38) 30 1 n39)) := (show va_D _ (WX h g ca iv lv (u2 fa 30 2 n37) (u2 (u2 la 30 0 n38) 30 1 n39)) from hD).weaken (fun _ _ _ h => hFc _ h)
                      have xr36_0 : (r36 : Int32).toInt = (lossI (smL (fun s : Nat => ((fa 10 0) (9 * s + 0)).toInt = (a : Int32).toInt ∧ ((fa 10 0) (9 * s + 1)).toInt = 0 ∧ ((fa 10 0) (9 * s + 7)).toInt ≤ ((iv 11 10) : Int32).toInt ∧ (((fa 10 0) (9 * s + 8)).toInt = -1 ∨ ((iv 11 10) : Int32).toInt < ((fa 10 0) (9 * s + 8)).toInt)) (fun s : Nat => (fa 10 0) (9 * s + 3)) (((iv 10 1) : Int32).toInt).toNat) (smL (fun s : Nat => ((fa 10 0) (9 * s + 0)).toInt = (a : Int32).toInt ∧ ((fa 10 0) (9 * s + 1)).toInt = 0 ∧ ((fa 10 0) (9 * s + 7)).toInt ≤ ((iv 11 10) : Int32).toInt ∧ (((fa 10 0) (9 * s + 8)).toInt = -1 ∨ ((iv 11 10) : Int32).toInt < ((fa 10 0) (9 * s + 8)).toInt)) (fun s : Nat => (fa 10 0) (9 * s + 4)) (((iv 10 1) : Int32).toInt).toNat)).toInt := xr36_0
                      refine lv_iadd hx hb dX11_cheat_111 ?_
                      refine lv_topi (fun v40 ev40 => ?_)
                      refine lv_iload hx hb dX11_cheat_112 (lv_at hl 5 rfl) ?_
                      refine lv_icmp_le (tgt := 120) hx hb dX11_cheat_114 (by decide) (fun c41 => ?_) (fun c41 => ?_)
                      · have fc41 := z_le (rfl : (v40).toInt = _) (rfl : (k).toInt = _) c41
                        refine lv_iload hx hb dX11_cheat_120 (lv_at hl 0 rfl) ?_
                        have : (1 : Int32).toInt = 1 := (by decide)
                        have hP9 : va_P (dC, dI) classes (WX h g ca iv lv (u2 fa 30 2 n37) (u2 (u2 la 30 0 n38) 30 1 n39)) H := hP
                        have hD9 : va_D A (WX h g ca iv lv (u2 fa 30 2 n37) (u2 (u2 la 30 0 n38) 30 1 n39)) := hD
                        exact W.iret (v := 1) hx hb hr (fun t ht9 hW => ⟨⟨1, (iv, lv, (u2 fa 30 2 n37), (u2 (u2 la 30 0 n38) 30 1 n39)), rfl, ⟨n37, n38, n39, (show (((1 : Int32).toInt = -100001 ∧ ¬ (0 ≤ (a).toInt ∧ (a).toInt < (iv 0 7).toInt)) ∨ ((1 : Int32).toInt = -100002 ∧ (0 ≤ (a).toInt ∧ (a).toInt < (iv 0 7).toInt) ∧ ¬ (0 ≤ (b).toInt ∧ (b).toInt ≤ 999 ∧ 0 ≤ (d).toInt ∧ (d).toInt ≤ 999 ∧ 0 ≤ (k).toInt ∧ (k).toInt ≤ 999)) ∨ ((0 ≤ (a).toInt ∧ (a).toInt < (iv 0 7).toInt) ∧ (0 ≤ (b).toInt ∧ (b).toInt ≤ 999 ∧ 0 ≤ (d).toInt ∧ (d).toInt ≤ 999 ∧ 0 ≤ (k).toInt ∧ (k).toInt ≤ 999) ∧ (1 : Int32).toInt = chF ((fa 0 3) (a).toNatClampNeg) ((fa 0 4) (a).toNatClampNeg) (lossI (smL (fun s : Nat => ((fa 10 0) (9 * s + 0)).toInt = (a).toInt ∧ ((fa 10 0) (9 * s + 1)).toInt = 0 ∧ ((fa 10 0) (9 * s + 7)).toInt ≤ (iv 11 10).toInt ∧ (((fa 10 0) (9 * s + 8)).toInt = -1 ∨ (iv 11 10).toInt < ((fa 10 0) (9 * s + 8)).toInt)) (fun s : Nat => (fa 10 0) (9 * s + 3)) ((iv 10 1).toInt).toNat) (smL (fun s : Nat => ((fa 10 0) (9 * s + 0)).toInt = (a).toInt ∧ ((fa 10 0) (9 * s + 1)).toInt = 0 ∧ ((fa 10 0) (9 * s + 7)).toInt ≤ (iv 11 10).toInt ∧ (((fa 10 0) (9 * s + 8)).toInt = -1 ∨ (iv 11 10).toInt < ((fa 10 0) (9 * s + 8)).toInt)) (fun s : Nat => (fa 10 0) (9 * s + 4)) ((iv 10 1).toInt).toNat)) b d k)) from Or.inr (Or.inr ⟨⟨by omega, by omega⟩, ⟨by omega, by omega, by omega, by omega, by omega, by omega⟩, (by have hl9 : (r36 : Int32) = _ := Int32.toInt_inj.mp xr36_0; rw [← ev9, ← ev31, ← hl9]; unfold chF; rw [← ev35, ← ev40]; (first | omega | (split <;> (first | omega | (split <;> (first | omega | (split <;> omega)))))))⟩)), ⟨by decide, by decide⟩, rfl⟩, by rw [ht9]; exact hP9, hD9⟩, hS.F ht9⟩) hS.2.2 dX11_cheat_122
                      · have fc41 := z_nle (rfl : (v40).toInt = _) (rfl : (k).toInt = _) c41
                        refine lv_iinc (v := 5) (lv' := [(5, .int 5), (0, .ref h), (1, .int a), (2, .int b), (3, .int d), (4, .int k)]) hx hb dX11_cheat_117 hl (k := 0) rfl (by decide) (by decide) rfl (fun ls hl => ?_)
                        refine lv_iload hx hb dX11_cheat_120 (lv_at hl 0 rfl) ?_
                        have : (5 : Int32).toInt = 5 := (by decide)
                        have hP9 : va_P (dC, dI) classes (WX h g ca iv lv (u2 fa 30 2 n37) (u2 (u2 la 30 0 n38) 30 1 n39)) H := hP
                        have hD9 : va_D A (WX h g ca iv lv (u2 fa 30 2 n37) (u2 (u2 la 30 0 n38) 30 1 n39)) := hD
                        exact W.iret (v := 5) hx hb hr (fun t ht9 hW => ⟨⟨5, (iv, lv, (u2 fa 30 2 n37), (u2 (u2 la 30 0 n38) 30 1 n39)), rfl, ⟨n37, n38, n39, (show (((5 : Int32).toInt = -100001 ∧ ¬ (0 ≤ (a).toInt ∧ (a).toInt < (iv 0 7).toInt)) ∨ ((5 : Int32).toInt = -100002 ∧ (0 ≤ (a).toInt ∧ (a).toInt < (iv 0 7).toInt) ∧ ¬ (0 ≤ (b).toInt ∧ (b).toInt ≤ 999 ∧ 0 ≤ (d).toInt ∧ (d).toInt ≤ 999 ∧ 0 ≤ (k).toInt ∧ (k).toInt ≤ 999)) ∨ ((0 ≤ (a).toInt ∧ (a).toInt < (iv 0 7).toInt) ∧ (0 ≤ (b).toInt ∧ (b).toInt ≤ 999 ∧ 0 ≤ (d).toInt ∧ (d).toInt ≤ 999 ∧ 0 ≤ (k).toInt ∧ (k).toInt ≤ 999) ∧ (5 : Int32).toInt = chF ((fa 0 3) (a).toNatClampNeg) ((fa 0 4) (a).toNatClampNeg) (lossI (smL (fun s : Nat => ((fa 10 0) (9 * s + 0)).toInt = (a).toInt ∧ ((fa 10 0) (9 * s + 1)).toInt = 0 ∧ ((fa 10 0) (9 * s + 7)).toInt ≤ (iv 11 10).toInt ∧ (((fa 10 0) (9 * s + 8)).toInt = -1 ∨ (iv 11 10).toInt < ((fa 10 0) (9 * s + 8)).toInt)) (fun s : Nat => (fa 10 0) (9 * s + 3)) ((iv 10 1).toInt).toNat) (smL (fun s : Nat => ((fa 10 0) (9 * s + 0)).toInt = (a).toInt ∧ ((fa 10 0) (9 * s + 1)).toInt = 0 ∧ ((fa 10 0) (9 * s + 7)).toInt ≤ (iv 11 10).toInt ∧ (((fa 10 0) (9 * s + 8)).toInt = -1 ∨ (iv 11 10).toInt < ((fa 10 0) (9 * s + 8)).toInt)) (fun s : Nat => (fa 10 0) (9 * s + 4)) ((iv 10 1).toInt).toNat)) b d k)) from Or.inr (Or.inr ⟨⟨by omega, by omega⟩, ⟨by omega, by omega, by omega, by omega, by omega, by omega⟩, (by have hl9 : (r36 : Int32) = _ := Int32.toInt_inj.mp xr36_0; rw [← ev9, ← ev31, ← hl9]; unfold chF; rw [← ev35, ← ev40]; (first | omega | (split <;> (first | omega | (split <;> (first | omega | (split <;> omega)))))))⟩)), ⟨by decide, by decide⟩, rfl⟩, by rw [ht9]; exact hP9, hD9⟩, hS.F ht9⟩) hS.2.2 dX11_cheat_122
                    · have fc32 := z_nle (rfl : (v31).toInt = _) (rfl : (d).toInt = _) c32
                      refine lv_iinc (v := 3) (lv' := [(5, .int 3), (0, .ref h), (1, .int a), (2, .int b), (3, .int d), (4, .int k)]) hx hb dX11_cheat_84 hl (k := 0) rfl (by decide) (by decide) rfl (fun ls hl => ?_)
                      refine lv_aload_n hx hb dX11_cheat_87 rfl (lv_at hl 1 rfl) ?_
                      refine gX_11_2 hx hb ht hown hK hP m_417 dX11_cheat_88 ?_
                      refine gX_0_3 hx hb ht hown hK hP m_159 dX11_cheat_91 ?_
                      refine lv_iload_n hx hb dX11_cheat_94 rfl (lv_at hl 2 rfl) ?_
                      refine lX_0_3 hx hb hK hP (f := (fa 0 3)) rfl (vp_in_iff.mpr ⟨by omega, by omega⟩) dX11_cheat_95 ?_
                      refine lv_topi (fun v42 ev42 => ?_)
                      obtain rfl : v9 = v42 := ev9.trans ev42.symm
                      refine lv_aload_n hx hb dX11_cheat_96 rfl (lv_at hl 1 rfl) ?_
                      refine gX_11_2 hx hb ht hown hK hP m_417 dX11_cheat_97 ?_
                      refine gX_0_4 hx hb ht hown hK hP m_161 dX11_cheat_100 ?_
                      refine lv_iload_n hx hb dX11_cheat_103 rfl (lv_at hl 2 rfl) ?_
                      refine lX_0_4 hx hb hK hP (f := (fa 0 4)) rfl (vp_in_iff.mpr ⟨by omega, by omega⟩) dX11_cheat_104 ?_
                      refine lv_topi (fun v43 ev43 => ?_)
                      obtain rfl : v31 = v43 := ev31.trans ev43.symm
                      refine lv_iadd hx hb dX11_cheat_105 ?_
                      refine lv_topi (fun v44 ev44 => ?_)
                      refine lv_aload_n hx hb dX11_cheat_106 rfl (lv_at hl 1 rfl) ?_
                      refine lv_iload_n hx hb dX11_cheat_107 rfl (lv_at hl 2 rfl) ?_
                      have i_11_10 : 0 ≤ (iv 11 10).toInt ∧ (iv 11 10).toInt ≤ 3000 := hI.1 11 10
                      have i_10_1 : 0 ≤ (iv 10 1).toInt ∧ (iv 10 1).toInt ≤ 60 := hI.1 10 1
                      have hFc := free_all hD hS hA
                      refine va_calli (va_runV (As := [.int a]) (rest := [.int v44]) ⟨hx, hb, hml, hown, ht⟩ (c_X11_loss_c l dC dI s.heap.size h g ca iv lv fa la hI a) (kV 1 ht m_997 m_999 m_40 m_77 m_1000 rfl rfl hd_X11_loss_v ⟨Nat.le_of_ble_eq_true rfl, Nat.le_of_ble_eq_true rfl⟩) (vW hP hK hD (rX_11 hK hP)) rfl rfl hl.1 rfl (lv_room (Nat.le_of_ble_eq_true rfl)) dX11_cheat_108 ⟨Nat.le_of_ble_eq_true rfl, Nat.le_of_ble_eq_true rfl⟩) hS (fun q _ h => hFc q h) hFc (fun r45 u t H1 locs ht9 hvm hr45 hB hz1 hk1 hS => ?_)
                      obtain ⟨n46, n47, n48, xr45_0, hr45, rfl⟩ := hr45
                      have hn46 : ∀ j, inb (bA 30 2 j) (n46 j) := fun j => full_i _
                      obtain ⟨hP, hD⟩ := hB
                      rw [ht9] at hP
                      generalize H1 = H at hP hS ⊢
                      have hP : va_P (dC, dI) classes (WX h g ca iv lv (u2 fa 30 2 n46) (u2 (u2 la 30 0 n47) 30 1 n48)) H := hP
                      have hD : va_D A (WX h g ca iv lv (u2 fa 30 2 n46) (u2 (u2 la 30 0 n47) 30 1 n48)) := (show va_D _ (WX h g ca iv lv (u2 fa 30 2 n46) (u2 (u2 la 30 0 n47) 30 1 n48)) from hD).weaken (fun _ _ _ h => hFc _ h)
                      have xr45_0 : (r45 : Int32).toInt = (lossI (smL (fun s : Nat => ((fa 10 0) (9 * s + 0)).toInt = (a : Int32).toInt ∧ ((fa 10 0) (9 * s + 1)).toInt = 0 ∧ ((fa 10 0) (9 * s + 7)).toInt ≤ ((iv 11 10) : Int32).toInt ∧ (((fa 10 0) (9 * s + 8)).toInt = -1 ∨ ((iv 11 10) : Int32).toInt < ((fa 10 0) (9 * s + 8)).toInt)) (fun s : Nat => (fa 10 0) (9 * s + 3)) (((iv 10 1) : Int32).toInt).toNat) (smL (fun s : Nat => ((fa 10 0) (9 * s + 0)).toInt = (a : Int32).toInt ∧ ((fa 10 0) (9 * s + 1)).toInt = 0 ∧ ((fa 10 0) (9 * s + 7)).toInt ≤ ((iv 11 10) : Int32).toInt ∧ (((fa 10 0) (9 * s + 8)).toInt = -1 ∨ ((iv 11 10) : Int32).toInt < ((fa 10 0) (9 * s + 8)).toInt)) (fun s : Nat => (fa 10 0) (9 * s + 4)) (((iv 10 1) : Int32).toInt).toNat)).toInt := xr45_0
                      refine lv_iadd hx hb dX11_cheat_111 ?_
                      refine lv_topi (fun v49 ev49 => ?_)
                      refine lv_iload hx hb dX11_cheat_112 (lv_at hl 5 rfl) ?_
                      refine lv_icmp_le (tgt := 120) hx hb dX11_cheat_114 (by decide) (fun c50 => ?_) (fun c50 => ?_)
                      · have fc50 := z_le (rfl : (v49).toInt = _) (rfl : (k).toInt = _) c50
                        refine lv_iload hx hb dX11_cheat_120 (lv_at hl 0 rfl) ?_
                        have : (3 : Int32).toInt = 3 := (by decide)
                        have hP9 : va_P (dC, dI) classes (WX h g ca iv lv (u2 fa 30 2 n46) (u2 (u2 la 30 0 n47) 30 1 n48)) H := hP
                        have hD9 : va_D A (WX h g ca iv lv (u2 fa 30 2 n46) (u2 (u2 la 30 0 n47) 30 1 n48)) := hD
                        exact W.iret (v := 3) hx hb hr (fun t ht9 hW => ⟨⟨3, (iv, lv, (u2 fa 30 2 n46), (u2 (u2 la 30 0 n47) 30 1 n48)), rfl, ⟨n46, n47, n48, (show (((3 : Int32).toInt = -100001 ∧ ¬ (0 ≤ (a).toInt ∧ (a).toInt < (iv 0 7).toInt)) ∨ ((3 : Int32).toInt = -100002 ∧ (0 ≤ (a).toInt ∧ (a).toInt < (iv 0 7).toInt) ∧ ¬ (0 ≤ (b).toInt ∧ (b).toInt ≤ 999 ∧ 0 ≤ (d).toInt ∧ (d).toInt ≤ 999 ∧ 0 ≤ (k).toInt ∧ (k).toInt ≤ 999)) ∨ ((0 ≤ (a).toInt ∧ (a).toInt < (iv 0 7).toInt) ∧ (0 ≤ (b).toInt ∧ (b).toInt ≤ 999 ∧ 0 ≤ (d).toInt ∧ (d).toInt ≤ 999 ∧ 0 ≤ (k).toInt ∧ (k).toInt ≤ 999) ∧ (3 : Int32).toInt = chF ((fa 0 3) (a).toNatClampNeg) ((fa 0 4) (a).toNatClampNeg) (lossI (smL (fun s : Nat => ((fa 10 0) (9 * s + 0)).toInt = (a).toInt ∧ ((fa 10 0) (9 * s + 1)).toInt = 0 ∧ ((fa 10 0) (9 * s + 7)).toInt ≤ (iv 11 10).toInt ∧ (((fa 10 0) (9 * s + 8)).toInt = -1 ∨ (iv 11 10).toInt < ((fa 10 0) (9 * s + 8)).toInt)) (fun s : Nat => (fa 10 0) (9 * s + 3)) ((iv 10 1).toInt).toNat) (smL (fun s : Nat => ((fa 10 0) (9 * s + 0)).toInt = (a).toInt ∧ ((fa 10 0) (9 * s + 1)).toInt = 0 ∧ ((fa 10 0) (9 * s + 7)).toInt ≤ (iv 11 10).toInt ∧ (((fa 10 0) (9 * s + 8)).toInt = -1 ∨ (iv 11 10).toInt < ((fa 10 0) (9 * s + 8)).toInt)) (fun s : Nat => (fa 10 0) (9 * s + 4)) ((iv 10 1).toInt).toNat)) b d k)) from Or.inr (Or.inr ⟨⟨by omega, by omega⟩, ⟨by omega, by omega, by omega, by omega, by omega, by omega⟩, (by have hl9 : (r45 : Int32) = _ := Int32.toInt_inj.mp xr45_0; rw [← ev9, ← ev31, ← hl9]; unfold chF; rw [← ev44, ← ev49]; (first | omega | (split <;> (first | omega | (split <;> (first | omega | (split <;> omega)))))))⟩)), ⟨by decide, by decide⟩, rfl⟩, by rw [ht9]; exact hP9, hD9⟩, hS.F ht9⟩) hS.2.2 dX11_cheat_122
                      · have fc50 := z_nle (rfl : (v49).toInt = _) (rfl : (k).toInt = _) c50
                        refine lv_iinc (v := 7) (lv' := [(5, .int 7), (0, .ref h), (1, .int a), (2, .int b), (3, .int d), (4, .int k)]) hx hb dX11_cheat_117 hl (k := 0) rfl (by decide) (by decide) rfl (fun ls hl => ?_)
                        refine lv_iload hx hb dX11_cheat_120 (lv_at hl 0 rfl) ?_
                        have : (7 : Int32).toInt = 7 := (by decide)
                        have hP9 : va_P (dC, dI) classes (WX h g ca iv lv (u2 fa 30 2 n46) (u2 (u2 la 30 0 n47) 30 1 n48)) H := hP
                        have hD9 : va_D A (WX h g ca iv lv (u2 fa 30 2 n46) (u2 (u2 la 30 0 n47) 30 1 n48)) := hD
                        exact W.iret (v := 7) hx hb hr (fun t ht9 hW => ⟨⟨7, (iv, lv, (u2 fa 30 2 n46), (u2 (u2 la 30 0 n47) 30 1 n48)), rfl, ⟨n46, n47, n48, (show (((7 : Int32).toInt = -100001 ∧ ¬ (0 ≤ (a).toInt ∧ (a).toInt < (iv 0 7).toInt)) ∨ ((7 : Int32).toInt = -100002 ∧ (0 ≤ (a).toInt ∧ (a).toInt < (iv 0 7).toInt) ∧ ¬ (0 ≤ (b).toInt ∧ (b).toInt ≤ 999 ∧ 0 ≤ (d).toInt ∧ (d).toInt ≤ 999 ∧ 0 ≤ (k).toInt ∧ (k).toInt ≤ 999)) ∨ ((0 ≤ (a).toInt ∧ (a).toInt < (iv 0 7).toInt) ∧ (0 ≤ (b).toInt ∧ (b).toInt ≤ 999 ∧ 0 ≤ (d).toInt ∧ (d).toInt ≤ 999 ∧ 0 ≤ (k).toInt ∧ (k).toInt ≤ 999) ∧ (7 : Int32).toInt = chF ((fa 0 3) (a).toNatClampNeg) ((fa 0 4) (a).toNatClampNeg) (lossI (smL (fun s : Nat => ((fa 10 0) (9 * s + 0)).toInt = (a).toInt ∧ ((fa 10 0) (9 * s + 1)).toInt = 0 ∧ ((fa 10 0) (9 * s + 7)).toInt ≤ (iv 11 10).toInt ∧ (((fa 10 0) (9 * s + 8)).toInt = -1 ∨ (iv 11 10).toInt < ((fa 10 0) (9 * s + 8)).toInt)) (fun s : Nat => (fa 10 0) (9 * s + 3)) ((iv 10 1).toInt).toNat) (smL (fun s : Nat => ((fa 10 0) (9 * s + 0)).toInt = (a).toInt ∧ ((fa 10 0) (9 * s + 1)).toInt = 0 ∧ ((fa 10 0) (9 * s + 7)).toInt ≤ (iv 11 10).toInt ∧ (((fa 10 0) (9 * s + 8)).toInt = -1 ∨ (iv 11 10).toInt < ((fa 10 0) (9 * s + 8)).toInt)) (fun s : Nat => (fa 10 0) (9 * s + 4)) ((iv 10 1).toInt).toNat)) b d k)) from Or.inr (Or.inr ⟨⟨by omega, by omega⟩, ⟨by omega, by omega, by omega, by omega, by omega, by omega⟩, (by have hl9 : (r45 : Int32) = _ := Int32.toInt_inj.mp xr45_0; rw [← ev9, ← ev31, ← hl9]; unfold chF; rw [← ev44, ← ev49]; (first | omega | (split <;> (first | omega | (split <;> (first | omega | (split <;> omega)))))))⟩)), ⟨by decide, by decide⟩, rfl⟩, by rw [ht9]; exact hP9, hD9⟩, hS.F ht9⟩) hS.2.2 dX11_cheat_122
                · exact absurd c8 (by decide)
              · skip
                refine lv_if_ne (tgt := 51) hx hb dX11_cheat_45 (by decide) (fun c51 => ?_) (fun c51 => ?_)
                · exact absurd rfl c51
                · skip
                  refine lv_ldc hx hb hown (ht _ m_456) dX11_cheat_48 ?_
                  have : ((-100002) : Int32).toInt = (-100002) := (by decide)
                  have hP9 : va_P (dC, dI) classes (WX h g ca iv lv (u2 fa 30 2 (fa 30 2)) (u2 (u2 la 30 0 (la 30 0)) 30 1 (la 30 1))) s.heap := hP
                  have hD9 : va_D A (WX h g ca iv lv (u2 fa 30 2 (fa 30 2)) (u2 (u2 la 30 0 (la 30 0)) 30 1 (la 30 1))) := hD
                  exact W.iret (v := (-100002)) hx hb hr (fun t ht9 hW => ⟨⟨(-100002), (iv, lv, (u2 fa 30 2 (fa 30 2)), (u2 (u2 la 30 0 (la 30 0)) 30 1 (la 30 1))), rfl, ⟨(fa 30 2), (la 30 0), (la 30 1), (show ((((-100002) : Int32).toInt = -100001 ∧ ¬ (0 ≤ (a).toInt ∧ (a).toInt < (iv 0 7).toInt)) ∨ (((-100002) : Int32).toInt = -100002 ∧ (0 ≤ (a).toInt ∧ (a).toInt < (iv 0 7).toInt) ∧ ¬ (0 ≤ (b).toInt ∧ (b).toInt ≤ 999 ∧ 0 ≤ (d).toInt ∧ (d).toInt ≤ 999 ∧ 0 ≤ (k).toInt ∧ (k).toInt ≤ 999)) ∨ ((0 ≤ (a).toInt ∧ (a).toInt < (iv 0 7).toInt) ∧ (0 ≤ (b).toInt ∧ (b).toInt ≤ 999 ∧ 0 ≤ (d).toInt ∧ (d).toInt ≤ 999 ∧ 0 ≤ (k).toInt ∧ (k).toInt ≤ 999) ∧ ((-100002) : Int32).toInt = chF ((fa 0 3) (a).toNatClampNeg) ((fa 0 4) (a).toNatClampNeg) (lossI (smL (fun s : Nat => ((fa 10 0) (9 * s + 0)).toInt = (a).toInt ∧ ((fa 10 0) (9 * s + 1)).toInt = 0 ∧ ((fa 10 0) (9 * s + 7)).toInt ≤ (iv 11 10).toInt ∧ (((fa 10 0) (9 * s + 8)).toInt = -1 ∨ (iv 11 10).toInt < ((fa 10 0) (9 * s + 8)).toInt)) (fun s : Nat => (fa 10 0) (9 * s + 3)) ((iv 10 1).toInt).toNat) (smL (fun s : Nat => ((fa 10 0) (9 * s + 0)).toInt = (a).toInt ∧ ((fa 10 0) (9 * s + 1)).toInt = 0 ∧ ((fa 10 0) (9 * s + 7)).toInt ≤ (iv 11 10).toInt ∧ (((fa 10 0) (9 * s + 8)).toInt = -1 ∨ (iv 11 10).toInt < ((fa 10 0) (9 * s + 8)).toInt)) (fun s : Nat => (fa 10 0) (9 * s + 4)) ((iv 10 1).toInt).toNat)) b d k)) from Or.inr (Or.inl ⟨by omega, ⟨by omega, by omega⟩, by omega⟩)), ⟨by decide, by decide⟩, rfl⟩, by rw [ht9]; exact hP9, hD9⟩, hS.F ht9⟩) hS.2.2 dX11_cheat_50
          · skip
            refine lv_if_eq (tgt := 48) hx hb dX11_cheat_33 (by decide) (fun c52 => ?_) (fun c52 => ?_)
            · skip
              refine lv_ldc hx hb hown (ht _ m_456) dX11_cheat_48 ?_
              have : ((-100002) : Int32).toInt = (-100002) := (by decide)
              have hP9 : va_P (dC, dI) classes (WX h g ca iv lv (u2 fa 30 2 (fa 30 2)) (u2 (u2 la 30 0 (la 30 0)) 30 1 (la 30 1))) s.heap := hP
              have hD9 : va_D A (WX h g ca iv lv (u2 fa 30 2 (fa 30 2)) (u2 (u2 la 30 0 (la 30 0)) 30 1 (la 30 1))) := hD
              exact W.iret (v := (-100002)) hx hb hr (fun t ht9 hW => ⟨⟨(-100002), (iv, lv, (u2 fa 30 2 (fa 30 2)), (u2 (u2 la 30 0 (la 30 0)) 30 1 (la 30 1))), rfl, ⟨(fa 30 2), (la 30 0), (la 30 1), (show ((((-100002) : Int32).toInt = -100001 ∧ ¬ (0 ≤ (a).toInt ∧ (a).toInt < (iv 0 7).toInt)) ∨ (((-100002) : Int32).toInt = -100002 ∧ (0 ≤ (a).toInt ∧ (a).toInt < (iv 0 7).toInt) ∧ ¬ (0 ≤ (b).toInt ∧ (b).toInt ≤ 999 ∧ 0 ≤ (d).toInt ∧ (d).toInt ≤ 999 ∧ 0 ≤ (k).toInt ∧ (k).toInt ≤ 999)) ∨ ((0 ≤ (a).toInt ∧ (a).toInt < (iv 0 7).toInt) ∧ (0 ≤ (b).toInt ∧ (b).toInt ≤ 999 ∧ 0 ≤ (d).toInt ∧ (d).toInt ≤ 999 ∧ 0 ≤ (k).toInt ∧ (k).toInt ≤ 999) ∧ ((-100002) : Int32).toInt = chF ((fa 0 3) (a).toNatClampNeg) ((fa 0 4) (a).toNatClampNeg) (lossI (smL (fun s : Nat => ((fa 10 0) (9 * s + 0)).toInt = (a).toInt ∧ ((fa 10 0) (9 * s + 1)).toInt = 0 ∧ ((fa 10 0) (9 * s + 7)).toInt ≤ (iv 11 10).toInt ∧ (((fa 10 0) (9 * s + 8)).toInt = -1 ∨ (iv 11 10).toInt < ((fa 10 0) (9 * s + 8)).toInt)) (fun s : Nat => (fa 10 0) (9 * s + 3)) ((iv 10 1).toInt).toNat) (smL (fun s : Nat => ((fa 10 0) (9 * s + 0)).toInt = (a).toInt ∧ ((fa 10 0) (9 * s + 1)).toInt = 0 ∧ ((fa 10 0) (9 * s + 7)).toInt ≤ (iv 11 10).toInt ∧ (((fa 10 0) (9 * s + 8)).toInt = -1 ∨ (iv 11 10).toInt < ((fa 10 0) (9 * s + 8)).toInt)) (fun s : Nat => (fa 10 0) (9 * s + 4)) ((iv 10 1).toInt).toNat)) b d k)) from Or.inr (Or.inl ⟨by omega, ⟨by omega, by omega⟩, by omega⟩)), ⟨by decide, by decide⟩, rfl⟩, by rw [ht9]; exact hP9, hD9⟩, hS.F ht9⟩) hS.2.2 dX11_cheat_50
            · exact absurd rfl c52
      · skip
        refine lv_if_eq (tgt := 48) hx hb dX11_cheat_22 (by decide) (fun c53 => ?_) (fun c53 => ?_)
        · skip
          refine lv_ldc hx hb hown (ht _ m_456) dX11_cheat_48 ?_
          have : ((-100002) : Int32).toInt = (-100002) := (by decide)
          have hP9 : va_P (dC, dI) classes (WX h g ca iv lv (u2 fa 30 2 (fa 30 2)) (u2 (u2 la 30 0 (la 30 0)) 30 1 (la 30 1))) s.heap := hP
          have hD9 : va_D A (WX h g ca iv lv (u2 fa 30 2 (fa 30 2)) (u2 (u2 la 30 0 (la 30 0)) 30 1 (la 30 1))) := hD
          exact W.iret (v := (-100002)) hx hb hr (fun t ht9 hW => ⟨⟨(-100002), (iv, lv, (u2 fa 30 2 (fa 30 2)), (u2 (u2 la 30 0 (la 30 0)) 30 1 (la 30 1))), rfl, ⟨(fa 30 2), (la 30 0), (la 30 1), (show ((((-100002) : Int32).toInt = -100001 ∧ ¬ (0 ≤ (a).toInt ∧ (a).toInt < (iv 0 7).toInt)) ∨ (((-100002) : Int32).toInt = -100002 ∧ (0 ≤ (a).toInt ∧ (a).toInt < (iv 0 7).toInt) ∧ ¬ (0 ≤ (b).toInt ∧ (b).toInt ≤ 999 ∧ 0 ≤ (d).toInt ∧ (d).toInt ≤ 999 ∧ 0 ≤ (k).toInt ∧ (k).toInt ≤ 999)) ∨ ((0 ≤ (a).toInt ∧ (a).toInt < (iv 0 7).toInt) ∧ (0 ≤ (b).toInt ∧ (b).toInt ≤ 999 ∧ 0 ≤ (d).toInt ∧ (d).toInt ≤ 999 ∧ 0 ≤ (k).toInt ∧ (k).toInt ≤ 999) ∧ ((-100002) : Int32).toInt = chF ((fa 0 3) (a).toNatClampNeg) ((fa 0 4) (a).toNatClampNeg) (lossI (smL (fun s : Nat => ((fa 10 0) (9 * s + 0)).toInt = (a).toInt ∧ ((fa 10 0) (9 * s + 1)).toInt = 0 ∧ ((fa 10 0) (9 * s + 7)).toInt ≤ (iv 11 10).toInt ∧ (((fa 10 0) (9 * s + 8)).toInt = -1 ∨ (iv 11 10).toInt < ((fa 10 0) (9 * s + 8)).toInt)) (fun s : Nat => (fa 10 0) (9 * s + 3)) ((iv 10 1).toInt).toNat) (smL (fun s : Nat => ((fa 10 0) (9 * s + 0)).toInt = (a).toInt ∧ ((fa 10 0) (9 * s + 1)).toInt = 0 ∧ ((fa 10 0) (9 * s + 7)).toInt ≤ (iv 11 10).toInt ∧ (((fa 10 0) (9 * s + 8)).toInt = -1 ∨ (iv 11 10).toInt < ((fa 10 0) (9 * s + 8)).toInt)) (fun s : Nat => (fa 10 0) (9 * s + 4)) ((iv 10 1).toInt).toNat)) b d k)) from Or.inr (Or.inl ⟨by omega, ⟨by omega, by omega⟩, by omega⟩)), ⟨by decide, by decide⟩, rfl⟩, by rw [ht9]; exact hP9, hD9⟩, hS.F ht9⟩) hS.2.2 dX11_cheat_50
        · exact absurd rfl c53
    · exact absurd c2 (by decide)
  · skip
    have i_0_7 : 0 ≤ (iv 0 7).toInt ∧ (iv 0 7).toInt ≤ 10 := hI.1 0 7
    have fr1 : ¬ (0 ≤ (a : Int32).toInt ∧ (a : Int32).toInt < ((iv 0 7) : Int32).toInt) := fr1
    refine lv_if_ne (tgt := 14) hx hb dX11_cheat_8 (by decide) (fun c54 => ?_) (fun c54 => ?_)
    · exact absurd rfl c54
    · skip
      refine lv_ldc hx hb hown (ht _ m_476) dX11_cheat_11 ?_
      have : ((-100001) : Int32).toInt = (-100001) := (by decide)
      have hP9 : va_P (dC, dI) classes (WX h g ca iv lv (u2 fa 30 2 (fa 30 2)) (u2 (u2 la 30 0 (la 30 0)) 30 1 (la 30 1))) s.heap := hP
      have hD9 : va_D A (WX h g ca iv lv (u2 fa 30 2 (fa 30 2)) (u2 (u2 la 30 0 (la 30 0)) 30 1 (la 30 1))) := hD
      exact W.iret (v := (-100001)) hx hb hr (fun t ht9 hW => ⟨⟨(-100001), (iv, lv, (u2 fa 30 2 (fa 30 2)), (u2 (u2 la 30 0 (la 30 0)) 30 1 (la 30 1))), rfl, ⟨(fa 30 2), (la 30 0), (la 30 1), (show ((((-100001) : Int32).toInt = -100001 ∧ ¬ (0 ≤ (a).toInt ∧ (a).toInt < (iv 0 7).toInt)) ∨ (((-100001) : Int32).toInt = -100002 ∧ (0 ≤ (a).toInt ∧ (a).toInt < (iv 0 7).toInt) ∧ ¬ (0 ≤ (b).toInt ∧ (b).toInt ≤ 999 ∧ 0 ≤ (d).toInt ∧ (d).toInt ≤ 999 ∧ 0 ≤ (k).toInt ∧ (k).toInt ≤ 999)) ∨ ((0 ≤ (a).toInt ∧ (a).toInt < (iv 0 7).toInt) ∧ (0 ≤ (b).toInt ∧ (b).toInt ≤ 999 ∧ 0 ≤ (d).toInt ∧ (d).toInt ≤ 999 ∧ 0 ≤ (k).toInt ∧ (k).toInt ≤ 999) ∧ ((-100001) : Int32).toInt = chF ((fa 0 3) (a).toNatClampNeg) ((fa 0 4) (a).toNatClampNeg) (lossI (smL (fun s : Nat => ((fa 10 0) (9 * s + 0)).toInt = (a).toInt ∧ ((fa 10 0) (9 * s + 1)).toInt = 0 ∧ ((fa 10 0) (9 * s + 7)).toInt ≤ (iv 11 10).toInt ∧ (((fa 10 0) (9 * s + 8)).toInt = -1 ∨ (iv 11 10).toInt < ((fa 10 0) (9 * s + 8)).toInt)) (fun s : Nat => (fa 10 0) (9 * s + 3)) ((iv 10 1).toInt).toNat) (smL (fun s : Nat => ((fa 10 0) (9 * s + 0)).toInt = (a).toInt ∧ ((fa 10 0) (9 * s + 1)).toInt = 0 ∧ ((fa 10 0) (9 * s + 7)).toInt ≤ (iv 11 10).toInt ∧ (((fa 10 0) (9 * s + 8)).toInt = -1 ∨ (iv 11 10).toInt < ((fa 10 0) (9 * s + 8)).toInt)) (fun s : Nat => (fa 10 0) (9 * s + 4)) ((iv 10 1).toInt).toNat)) b d k)) from Or.inl ⟨by omega, by omega⟩), ⟨by decide, by decide⟩, rfl⟩, by rw [ht9]; exact hP9, hD9⟩, hS.F ht9⟩) hS.2.2 dX11_cheat_13
