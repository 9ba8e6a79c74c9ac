/-! ===== sk2 ===== -/
set_option maxHeartbeats 4000000 in
set_option maxRecDepth 100000 in
/-- X11_skein -/
theorem c_X11_skein_x (l : Launch) (dC : Nat → ClassId) (dI : Nat → Nat → Nat) (sz : Nat) (h : Nat) (g : Nat → Nat → Nat) (ca : Nat → Nat → ClassId) (iv : Nat → Nat → Int32) (lv : Nat → Nat → Int64) (fa : Nat → Nat → Nat → Int32) (la : Nat → Nat → Nat → Int64) (hI : IX iv fa) (a : Int32) (b : Int32) (d : Int32) (k : Int32) (n : Int32) (q : Int32) (z : Int32) : Met l yX11_skein (wc yX11_skein cX11_skein 9 (some .int)) ({ frames := 3, cells := 0, slots := 0, locals := 69 } : Room) (pW (dC, dI) classes (WX h g ca iv lv fa la) (TX ca) sz [.ref h, .int a, .int b, .int d, .int k, .int n, .int q, .int z]) (va_Qi (fun r (u : SS) => ∃ (na_10_0 : Nat → Int32) (ni_10_1 : Int32), (∀ j, inb (bA 10 0 j) (na_10_0 j)) ∧ inb (bI 10 1) ni_10_1 ∧ (((r.toInt = -100001 ∧ ¬ (0 ≤ a.toInt ∧ a.toInt < (iv 0 7).toInt) ∧ (ni_10_1).toInt = (iv 10 1).toInt) ∨ (r.toInt = -100002 ∧ 0 ≤ a.toInt ∧ a.toInt < (iv 0 7).toInt ∧ ¬ (0 ≤ b.toInt ∧ b.toInt ≤ 2 ∧ 0 ≤ d.toInt ∧ d.toInt ≤ 3 ∧ 100 ≤ k.toInt ∧ k.toInt ≤ 9999 ∧ 50 ≤ n.toInt ∧ n.toInt ≤ k.toInt ∧ 0 ≤ q.toInt ∧ q.toInt ≤ 3 ∧ 0 ≤ z.toInt ∧ z.toInt ≤ 7) ∧ (ni_10_1).toInt = (iv 10 1).toInt) ∨ (r.toInt = -100004 ∧ 0 ≤ a.toInt ∧ a.toInt < (iv 0 7).toInt ∧ 0 ≤ b.toInt ∧ b.toInt ≤ 2 ∧ 0 ≤ d.toInt ∧ d.toInt ≤ 3 ∧ 100 ≤ k.toInt ∧ k.toInt ≤ 9999 ∧ 50 ≤ n.toInt ∧ n.toInt ≤ k.toInt ∧ 0 ≤ q.toInt ∧ q.toInt ≤ 3 ∧ 0 ≤ z.toInt ∧ z.toInt ≤ 7 ∧ (60 ≤ (iv 10 1).toInt ∨ 12 ≤ ((cn0 (fun s => (fa 10 0) (9 * s + 0)) (fun s => (fa 10 0) (9 * s + 1)) a b ((iv 10 1).toInt).toNat : Nat) : Int)) ∧ (ni_10_1).toInt = (iv 10 1).toInt) ∨ (0 ≤ a.toInt ∧ a.toInt < (iv 0 7).toInt ∧ 0 ≤ b.toInt ∧ b.toInt ≤ 2 ∧ 0 ≤ d.toInt ∧ d.toInt ≤ 3 ∧ 100 ≤ k.toInt ∧ k.toInt ≤ 9999 ∧ 50 ≤ n.toInt ∧ n.toInt ≤ k.toInt ∧ 0 ≤ q.toInt ∧ q.toInt ≤ 3 ∧ 0 ≤ z.toInt ∧ z.toInt ≤ 7 ∧ (iv 10 1).toInt < 60 ∧ ((cn0 (fun s => (fa 10 0) (9 * s + 0)) (fun s => (fa 10 0) (9 * s + 1)) a b ((iv 10 1).toInt).toNat : Nat) : Int) < 12 ∧ r.toInt = (iv 10 1).toInt ∧ (ni_10_1).toInt = (iv 10 1).toInt + 1))) ∧ (∀ j : Nat, (j < (9 * ((iv 10 1).toInt).toNat + 0) ∨ (9 * ((iv 10 1).toInt).toNat + 9) ≤ j) → na_10_0 j = (fa 10 0) j) ∧ (((r.toInt < 0 ∧ ∀ j : Nat, na_10_0 j = (fa 10 0) j) ∨ (na_10_0 (9 * ((iv 10 1).toInt).toNat + 0) = a ∧ na_10_0 (9 * ((iv 10 1).toInt).toNat + 1) = b ∧ na_10_0 (9 * ((iv 10 1).toInt).toNat + 2) = d ∧ na_10_0 (9 * ((iv 10 1).toInt).toNat + 3) = k ∧ na_10_0 (9 * ((iv 10 1).toInt).toNat + 4) = n ∧ na_10_0 (9 * ((iv 10 1).toInt).toNat + 5) = q ∧ na_10_0 (9 * ((iv 10 1).toInt).toNat + 6) = z ∧ na_10_0 (9 * ((iv 10 1).toInt).toNat + 7) = (iv 11 10) ∧ na_10_0 (9 * ((iv 10 1).toInt).toNat + 8) = (-1)))) ∧ ((-100004) ≤ r.toInt ∧ r.toInt ≤ 59) ∧ u = ((u2 iv 10 1 ni_10_1), lv, (u2 fa 10 0 na_10_0), la)) (bX (dC, dI) h g ca (va_A (WX h g ca iv lv fa la) sz)) (va_A (WX h g ca iv lv fa la) sz)) 0 0 (va_A (WX h g ca iv lv fa la) sz) := by
  refine Met.ofW (cc := cX11_skein) (maxL := 9) (ret := (some .int)) (by decide) rfl ?_
  intro p e s m args below meth c s₁ B hml hv
  obtain ⟨rfl, hsz, hP, hK, hD0⟩ := hv
  have hx := B.exec
  have hb := B.bytes
  have hr := B.returns
  have ht := tb_tl (atoms_spec (ws := wc yX11_skein cX11_skein 9 (some .int)) B.pre)
  have hown : s.vm.findClass RX11 = some m.cls := findClass_of_methodNamed B.named
  have hlocks := B.notSynchronized
  subst hsz
  have hD := hD0.self (sz := s.heap.size)
  generalize hAe : va_A (WX h g ca iv lv fa la) s.heap.size = A at hD ⊢
  have hA : ∀ q : Nat, s.heap.size ≤ q → A q := fun q h => by rw [← hAe]; exact Or.inr h
  have hS : va_S A s.heap s.heap [] := va_S.rf
  have hl := lv_entry [.ref h, .int a, .int b, .int d, .int k, .int n, .int q, .int z] (n := 9) (Nat.le_of_ble_eq_true rfl)
  rw [lg_entry_eq]
  generalize (lg_sl [.ref h, .int a, .int b, .int d, .int k, .int n, .int q, .int z] ++ List.replicate (9 - (lg_sl [.ref h, .int a, .int b, .int d, .int k, .int n, .int q, .int z]).length) Slot.unset).toArray = ls at hl ⊢
  have hl : lv_has ls 9 [(0, .ref h), (1, .int a), (2, .int b), (3, .int d), (4, .int k), (5, .int n), (6, .int q), (7, .int z)] := hl
  refine lv_aload_n hx hb dX11_skein_0 rfl (lv_at hl 0 rfl) ?_
  refine gX_11_2 hx hb ht hown hK hP m_417 dX11_skein_1 ?_
  refine lv_iload_n hx hb dX11_skein_4 rfl (lv_at hl 1 rfl) ?_
  refine vp_callSi (W.runV (As := [.int a]) (rest := []) ⟨hx, hb, hml, hown, ht⟩ (c_X0_has l dC dI h g ca iv lv fa la hI a) (kV 1 ht m_472 m_473 m_474 m_80 m_475 rfl rfl hd_X0_has_v ⟨Nat.le_of_ble_eq_true rfl, Nat.le_of_ble_eq_true rfl⟩) (vR hP hK (rX_0 hK hP)) rfl rfl hl.1 rfl (lv_room (Nat.le_of_ble_eq_true rfl)) dX11_skein_5 ⟨Nat.le_of_ble_eq_true rfl, Nat.le_of_ble_eq_true rfl⟩) (fun r1 hr1 => ?_)
  rcases hr1 with ⟨rfl, fr1⟩ | ⟨rfl, fr1⟩
  · skip
    have i_0_7 : 0 ≤ (iv 0 7).toInt ∧ (iv 0 7).toInt ≤ 10 := hI.1 0 7
    have fr1 : (0 ≤ (a : Int32).toInt ∧ (a : Int32).toInt < ((iv 0 7) : Int32).toInt) := fr1
    refine lv_if_ne (tgt := 14) hx hb dX11_skein_8 (by decide) (fun c2 => ?_) (fun c2 => ?_)
    · skip
      refine lv_iload_n hx hb dX11_skein_14 rfl (lv_at hl 2 rfl) ?_
      refine lv_iconst (v := 0) hx hb dX11_skein_15 (by decide) ?_
      refine lv_iconst (v := 2) hx hb dX11_skein_16 (by decide) ?_
      refine vp_callSi (W.runS (As := [.int b, .int 0, .int 2]) (rest := []) ⟨hx, hb, hml, hown, ht⟩ (c_X11_within l dC dI b 0 2 (b.toInt) (0) (2) (rfl : (b).toInt = _) (by decide : (0 : Int32).toInt = 0) (by decide : (2 : Int32).toInt = 2)) (kS 3 ht m_453 m_454 m_77 m_455 rfl rfl hd_X11_within_v ⟨Nat.le_of_ble_eq_true rfl, Nat.le_of_ble_eq_true rfl⟩) (sR noP (hK.sub (tys' := []) [] rfl)) rfl rfl hl.1 rfl (lv_room (Nat.le_of_ble_eq_true rfl)) dX11_skein_17 ⟨Nat.le_of_ble_eq_true rfl, Nat.le_of_ble_eq_true rfl⟩) (fun r3 hr3 => ?_)
      rcases hr3 with ⟨rfl, fr3⟩ | ⟨rfl, fr3⟩
      · skip
        refine lv_if_eq (tgt := 53) hx hb dX11_skein_20 (by decide) (fun c4 => ?_) (fun c4 => ?_)
        · exact absurd c4 (by decide)
        · skip
          refine lv_iload_n hx hb dX11_skein_23 rfl (lv_at hl 3 rfl) ?_
          refine lv_iconst (v := 0) hx hb dX11_skein_24 (by decide) ?_
          refine lv_iconst (v := 3) hx hb dX11_skein_25 (by decide) ?_
          refine vp_callSi (W.runS (As := [.int d, .int 0, .int 3]) (rest := []) ⟨hx, hb, hml, hown, ht⟩ (c_X11_within l dC dI d 0 3 (d.toInt) (0) (3) (rfl : (d).toInt = _) (by decide : (0 : Int32).toInt = 0) (by decide : (3 : Int32).toInt = 3)) (kS 3 ht m_453 m_454 m_77 m_455 rfl rfl hd_X11_within_v ⟨Nat.le_of_ble_eq_true rfl, Nat.le_of_ble_eq_true rfl⟩) (sR noP (hK.sub (tys' := []) [] rfl)) rfl rfl hl.1 rfl (lv_room (Nat.le_of_ble_eq_true rfl)) dX11_skein_26 ⟨Nat.le_of_ble_eq_true rfl, Nat.le_of_ble_eq_true rfl⟩) (fun r5 hr5 => ?_)
          rcases hr5 with ⟨rfl, fr5⟩ | ⟨rfl, fr5⟩
          · skip
            refine lv_if_eq (tgt := 53) hx hb dX11_skein_29 (by decide) (fun c6 => ?_) (fun c6 => ?_)
            · exact absurd c6 (by decide)
            · skip
              refine lv_iload hx hb dX11_skein_32 (lv_at hl 6 rfl) ?_
              refine lv_iconst (v := 0) hx hb dX11_skein_34 (by decide) ?_
              refine lv_iconst (v := 3) hx hb dX11_skein_35 (by decide) ?_
              refine vp_callSi (W.runS (As := [.int q, .int 0, .int 3]) (rest := []) ⟨hx, hb, hml, hown, ht⟩ (c_X11_within l dC dI q 0 3 (q.toInt) (0) (3) (rfl : (q).toInt = _) (by decide : (0 : Int32).toInt = 0) (by decide : (3 : Int32).toInt = 3)) (kS 3 ht m_453 m_454 m_77 m_455 rfl rfl hd_X11_within_v ⟨Nat.le_of_ble_eq_true rfl, Nat.le_of_ble_eq_true rfl⟩) (sR noP (hK.sub (tys' := []) [] rfl)) rfl rfl hl.1 rfl (lv_room (Nat.le_of_ble_eq_true rfl)) dX11_skein_36 ⟨Nat.le_of_ble_eq_true rfl, Nat.le_of_ble_eq_true rfl⟩) (fun r7 hr7 => ?_)
              rcases hr7 with ⟨rfl, fr7⟩ | ⟨rfl, fr7⟩
              · skip
                refine lv_if_eq (tgt := 53) hx hb dX11_skein_39 (by decide) (fun c8 => ?_) (fun c8 => ?_)
                · exact absurd c8 (by decide)
                · skip
                  refine lv_iload hx hb dX11_skein_42 (lv_at hl 7 rfl) ?_
                  refine lv_iconst (v := 0) hx hb dX11_skein_44 (by decide) ?_
                  refine lv_bipush (v := 7) hx hb dX11_skein_45 (by decide) ?_
                  refine vp_callSi (W.runS (As := [.int z, .int 0, .int 7]) (rest := []) ⟨hx, hb, hml, hown, ht⟩ (c_X11_within l dC dI z 0 7 (z.toInt) (0) (7) (rfl : (z).toInt = _) (by decide : (0 : Int32).toInt = 0) (by decide : (7 : Int32).toInt = 7)) (kS 3 ht m_453 m_454 m_77 m_455 rfl rfl hd_X11_within_v ⟨Nat.le_of_ble_eq_true rfl, Nat.le_of_ble_eq_true rfl⟩) (sR noP (hK.sub (tys' := []) [] rfl)) rfl rfl hl.1 rfl (lv_room (Nat.le_of_ble_eq_true rfl)) dX11_skein_47 ⟨Nat.le_of_ble_eq_true rfl, Nat.le_of_ble_eq_true rfl⟩) (fun r9 hr9 => ?_)
                  rcases hr9 with ⟨rfl, fr9⟩ | ⟨rfl, fr9⟩
                  · skip
                    refine lv_if_ne (tgt := 56) hx hb dX11_skein_50 (by decide) (fun c10 => ?_) (fun c10 => ?_)
                    · skip
                      refine lv_iload hx hb dX11_skein_56 (lv_at hl 4 rfl) ?_
                      refine lv_bipush (v := 100) hx hb dX11_skein_58 (by decide) ?_
                      refine lv_sipush (v := 9999) hx hb dX11_skein_60 (by decide) ?_
                      refine vp_callSi (W.runS (As := [.int k, .int 100, .int 9999]) (rest := []) ⟨hx, hb, hml, hown, ht⟩ (c_X11_within l dC dI k 100 9999 (k.toInt) (100) (9999) (rfl : (k).toInt = _) (by decide : (100 : Int32).toInt = 100) (by decide : (9999 : Int32).toInt = 9999)) (kS 3 ht m_453 m_454 m_77 m_455 rfl rfl hd_X11_within_v ⟨Nat.le_of_ble_eq_true rfl, Nat.le_of_ble_eq_true rfl⟩) (sR noP (hK.sub (tys' := []) [] rfl)) rfl rfl hl.1 rfl (lv_room (Nat.le_of_ble_eq_true rfl)) dX11_skein_63 ⟨Nat.le_of_ble_eq_true rfl, Nat.le_of_ble_eq_true rfl⟩) (fun r11 hr11 => ?_)
                      rcases hr11 with ⟨rfl, fr11⟩ | ⟨rfl, fr11⟩
                      · skip
                        refine lv_if_eq (tgt := 81) hx hb dX11_skein_66 (by decide) (fun c12 => ?_) (fun c12 => ?_)
                        · exact absurd c12 (by decide)
                        · skip
                          refine lv_iload hx hb dX11_skein_69 (lv_at hl 5 rfl) ?_
                          refine lv_bipush (v := 50) hx hb dX11_skein_71 (by decide) ?_
                          refine lv_iload hx hb dX11_skein_73 (lv_at hl 4 rfl) ?_
                          refine vp_callSi (W.runS (As := [.int n, .int 50, .int k]) (rest := []) ⟨hx, hb, hml, hown, ht⟩ (c_X11_within l dC dI n 50 k (n.toInt) (50) (k.toInt) (rfl : (n).toInt = _) (by decide : (50 : Int32).toInt = 50) (rfl : (k).toInt = _)) (kS 3 ht m_453 m_454 m_77 m_455 rfl rfl hd_X11_within_v ⟨Nat.le_of_ble_eq_true rfl, Nat.le_of_ble_eq_true rfl⟩) (sR noP (hK.sub (tys' := []) [] rfl)) rfl rfl hl.1 rfl (lv_room (Nat.le_of_ble_eq_true rfl)) dX11_skein_75 ⟨Nat.le_of_ble_eq_true rfl, Nat.le_of_ble_eq_true rfl⟩) (fun r13 hr13 => ?_)
                          rcases hr13 with ⟨rfl, fr13⟩ | ⟨rfl, fr13⟩
                          · skip
                            refine lv_if_ne (tgt := 84) hx hb dX11_skein_78 (by decide) (fun c14 => ?_) (fun c14 => ?_)
                            · skip
                              refine lv_aload_n hx hb dX11_skein_84 rfl (lv_at hl 0 rfl) ?_
                              refine gX_11_0 hx hb ht hown hK hP m_415 dX11_skein_85 ?_
                              have i_10_1 : 0 ≤ (iv 10 1).toInt ∧ (iv 10 1).toInt ≤ 60 := hI.1 10 1
                              refine gX_10_1 hx hb ht hown hK hP m_114 (v := (iv 10 1)) rfl dX11_skein_88 ?_
                              refine lv_bipush (v := 60) hx hb dX11_skein_91 (by decide) ?_
                              refine lv_icmp_ge (tgt := 110) hx hb dX11_skein_93 (by decide) (fun c15 => ?_) (fun c15 => ?_)
                              · have fc15 := z_le (by decide : (60 : Int32).toInt = 60) (rfl : ((iv 10 1)).toInt = _) c15
                                refine lv_ldc hx hb hown (ht _ m_463) dX11_skein_110 ?_
                                have : ((-100004) : Int32).toInt = (-100004) := (by decide)
                                have hP9 : va_P (dC, dI) classes (WX h g ca (u2 iv 10 1 (iv 10 1)) lv (u2 fa 10 0 (fa 10 0)) la) s.heap := hP
                                have hD9 : va_D A (WX h g ca (u2 iv 10 1 (iv 10 1)) lv (u2 fa 10 0 (fa 10 0)) la) := hD
                                exact W.iret (v := (-100004)) hx hb hr (fun t ht9 hW => ⟨⟨(-100004), ((u2 iv 10 1 (iv 10 1)), lv, (u2 fa 10 0 (fa 10 0)), la), rfl, ⟨(fa 10 0), (iv 10 1), (hI.2 10 0), (hI.1 10 1), (show ((((-100004) : Int32).toInt = -100001 ∧ ¬ (0 ≤ (a).toInt ∧ (a).toInt < (iv 0 7).toInt) ∧ ((iv 10 1) : Int32).toInt = (iv 10 1).toInt) ∨ (((-100004) : Int32).toInt = -100002 ∧ 0 ≤ (a).toInt ∧ (a).toInt < (iv 0 7).toInt ∧ ¬ (0 ≤ (b).toInt ∧ (b).toInt ≤ 2 ∧ 0 ≤ (d).toInt ∧ (d).toInt ≤ 3 ∧ 100 ≤ (k).toInt ∧ (k).toInt ≤ 9999 ∧ 50 ≤ (n).toInt ∧ (n).toInt ≤ (k).toInt ∧ 0 ≤ (q).toInt ∧ (q).toInt ≤ 3 ∧ 0 ≤ (z).toInt ∧ (z).toInt ≤ 7) ∧ ((iv 10 1) : Int32).toInt = (iv 10 1).toInt) ∨ (((-100004) : Int32).toInt = -100004 ∧ 0 ≤ (a).toInt ∧ (a).toInt < (iv 0 7).toInt ∧ 0 ≤ (b).toInt ∧ (b).toInt ≤ 2 ∧ 0 ≤ (d).toInt ∧ (d).toInt ≤ 3 ∧ 100 ≤ (k).toInt ∧ (k).toInt ≤ 9999 ∧ 50 ≤ (n).toInt ∧ (n).toInt ≤ (k).toInt ∧ 0 ≤ (q).toInt ∧ (q).toInt ≤ 3 ∧ 0 ≤ (z).toInt ∧ (z).toInt ≤ 7 ∧ (60 ≤ (iv 10 1).toInt ∨ 12 ≤ ((cn0 (fun s => (fa 10 0) (9 * s + 0)) (fun s => (fa 10 0) (9 * s + 1)) a b ((iv 10 1).toInt).toNat : Nat) : Int)) ∧ ((iv 10 1) : Int32).toInt = (iv 10 1).toInt) ∨ (0 ≤ (a).toInt ∧ (a).toInt < (iv 0 7).toInt ∧ 0 ≤ (b).toInt ∧ (b).toInt ≤ 2 ∧ 0 ≤ (d).toInt ∧ (d).toInt ≤ 3 ∧ 100 ≤ (k).toInt ∧ (k).toInt ≤ 9999 ∧ 50 ≤ (n).toInt ∧ (n).toInt ≤ (k).toInt ∧ 0 ≤ (q).toInt ∧ (q).toInt ≤ 3 ∧ 0 ≤ (z).toInt ∧ (z).toInt ≤ 7 ∧ (iv 10 1).toInt < 60 ∧ ((cn0 (fun s => (fa 10 0) (9 * s + 0)) (fun s => (fa 10 0) (9 * s + 1)) a b ((iv 10 1).toInt).toNat : Nat) : Int) < 12 ∧ ((-100004) : Int32).toInt = (iv 10 1).toInt ∧ ((iv 10 1) : Int32).toInt = (iv 10 1).toInt + 1)) from by omega), (show ∀ j : Nat, (j < (9 * ((iv 10 1).toInt).toNat + 0) ∨ (9 * ((iv 10 1).toInt).toNat + 9) ≤ j) → (fa 10 0) j = (fa 10 0) j from fun j hj => rfl), (show ((((-100004) : Int32).toInt < 0 ∧ ∀ j : Nat, (fa 10 0) j = (fa 10 0) j) ∨ ((fa 10 0) (9 * ((iv 10 1).toInt).toNat + 0) = a ∧ (fa 10 0) (9 * ((iv 10 1).toInt).toNat + 1) = b ∧ (fa 10 0) (9 * ((iv 10 1).toInt).toNat + 2) = d ∧ (fa 10 0) (9 * ((iv 10 1).toInt).toNat + 3) = k ∧ (fa 10 0) (9 * ((iv 10 1).toInt).toNat + 4) = n ∧ (fa 10 0) (9 * ((iv 10 1).toInt).toNat + 5) = q ∧ (fa 10 0) (9 * ((iv 10 1).toInt).toNat + 6) = z ∧ (fa 10 0) (9 * ((iv 10 1).toInt).toNat + 7) = (iv 11 10) ∧ (fa 10 0) (9 * ((iv 10 1).toInt).toNat + 8) = (-1))) from Or.inl ⟨by omega, fun j => rfl⟩), ⟨by decide, by decide⟩, rfl⟩, by rw [ht9]; exact hP9, hD9⟩, hS.F ht9⟩) hS.2.2 dX11_skein_112
                              · have fc15 := z_nle (by decide : (60 : Int32).toInt = 60) (rfl : ((iv 10 1)).toInt = _) c15
                                refine lv_aload_n hx hb dX11_skein_96 rfl (lv_at hl 0 rfl) ?_
                                refine gX_11_0 hx hb ht hown hK hP m_415 dX11_skein_97 ?_
                                refine lv_iload_n hx hb dX11_skein_100 rfl (lv_at hl 1 rfl) ?_
                                refine lv_iload_n hx hb dX11_skein_101 rfl (lv_at hl 2 rfl) ?_
                                refine vp_callSi (W.runV (As := [.int a, .int b]) (rest := []) ⟨hx, hb, hml, hown, ht⟩ (c_X10_drawn_x l dC dI h g ca iv lv fa la hI a b) (kV 2 ht m_477 m_478 m_479 m_78 m_480 rfl rfl hd_X10_drawn_v ⟨Nat.le_of_ble_eq_true rfl, Nat.le_of_ble_eq_true rfl⟩) (vR hP hK (rX_10 hK hP)) rfl rfl hl.1 rfl (lv_room (Nat.le_of_ble_eq_true rfl)) dX11_skein_102 ⟨Nat.le_of_ble_eq_true rfl, Nat.le_of_ble_eq_true rfl⟩) (fun r16 hr16 => ?_)
                                obtain ⟨hr16, xr16_0⟩ := hr16
                                have xr16_0 : (r16 : Int32).toInt = ((cn0 (fun s => (fa 10 0) (9 * s + 0)) (fun s => (fa 10 0) (9 * s + 1)) (a : Int32) (b : Int32) (((iv 10 1) : Int32).toInt).toNat : Nat) : Int) := xr16_0
                                refine lv_bipush (v := 12) hx hb dX11_skein_105 (by decide) ?_
                                refine lv_icmp_lt (tgt := 113) hx hb dX11_skein_107 (by decide) (fun c17 => ?_) (fun c17 => ?_)
                                · have fc17 := z_lt (rfl : (r16).toInt = _) (by decide : (12 : Int32).toInt = 12) c17
                                  refine lv_aload_n hx hb dX11_skein_113 rfl (lv_at hl 0 rfl) ?_
                                  refine gX_11_0 hx hb ht hown hK hP m_415 dX11_skein_114 ?_
                                  refine lv_iload_n hx hb dX11_skein_117 rfl (lv_at hl 1 rfl) ?_
                                  refine lv_iload_n hx hb dX11_skein_118 rfl (lv_at hl 2 rfl) ?_
                                  refine lv_aload_n hx hb dX11_skein_119 rfl (lv_at hl 0 rfl) ?_
                                  have i_11_10 : 0 ≤ (iv 11 10).toInt ∧ (iv 11 10).toInt ≤ 3000 := hI.1 11 10
                                  refine gX_11_10 hx hb ht hown hK hP m_425 (v := (iv 11 10)) rfl dX11_skein_120 ?_
                                  have hFc := free_all hD hS hA
                                  refine va_calli (va_runV (As := [.int a, .int b, .int (iv 11 10)]) (rest := []) ⟨hx, hb, hml, hown, ht⟩ (c_X10_draw_x l dC dI s.heap.size h g ca iv lv fa la hI a b (iv 11 10) (show 0 ≤ ((iv 10 1) : Int32).toInt ∧ ((iv 10 1) : Int32).toInt ≤ 59 from ⟨by omega, by omega⟩) ⟨by omega, by omega⟩) (kV 3 ht m_489 m_490 m_491 m_78 m_492 rfl rfl hd_X10_draw_v ⟨Nat.le_of_ble_eq_true rfl, Nat.le_of_ble_eq_true rfl⟩) (vW hP hK hD (rX_10 hK hP)) rfl rfl hl.1 rfl (lv_room (Nat.le_of_ble_eq_true rfl)) dX11_skein_123 ⟨Nat.le_of_ble_eq_true rfl, Nat.le_of_ble_eq_true rfl⟩) hS (fun q _ h => hFc q h) hFc (fun r18 u t H1 locs ht9 hvm hr18 hB hz1 hk1 hS => ?_)
                                  obtain ⟨n19, n20, hn19, hn20, dn20, xr18_0, xr18_1, xr18_2, xr18_3, xr18_4, xr18_5, hr18, rfl⟩ := hr18
                                  have dn20 : n20.toInt = ((iv 10 1) : Int32).toInt + 1 := dn20
                                  have hn20 : 0 ≤ n20.toInt ∧ n20.toInt ≤ 60 := hn20
                                  obtain ⟨hP, hD⟩ := hB
                                  rw [ht9] at hP
                                  generalize H1 = H at hP hS ⊢
                                  have hP : va_P (dC, dI) classes (WX h g ca (u2 iv 10 1 n20) lv (u2 fa 10 0 n19) la) H := hP
                                  have hD : va_D A (WX h g ca (u2 iv 10 1 n20) lv (u2 fa 10 0 n19) la) := (show va_D _ (WX h g ca (u2 iv 10 1 n20) lv (u2 fa 10 0 n19) la) from hD).weaken (fun _ _ _ h => hFc _ h)
                                  have xr18_0 : ∀ j : Nat, (j < (9 * (((iv 10 1) : Int32).toInt).toNat + 0) ∨ (9 * (((iv 10 1) : Int32).toInt).toNat + 9) ≤ j) → n19 j = (fa 10 0) j := xr18_0
                                  have xr18_1 : n19 (9 * (((iv 10 1) : Int32).toInt).toNat + 0) = (a : Int32) := xr18_1
                                  have xr18_2 : n19 (9 * (((iv 10 1) : Int32).toInt).toNat + 1) = (b : Int32) := xr18_2
                                  have xr18_3 : n19 (9 * (((iv 10 1) : Int32).toInt).toNat + 7) = ((iv 11 10) : Int32) := xr18_3
                                  have xr18_4 : n19 (9 * (((iv 10 1) : Int32).toInt).toNat + 8) = (-1) := xr18_4
                                  have xr18_5 : (r18 : Int32).toInt = ((iv 10 1) : Int32).toInt := xr18_5
                                  refine lv_istore (lv' := [(8, .int r18), (0, .ref h), (1, .int a), (2, .int b), (3, .int d), (4, .int k), (5, .int n), (6, .int q), (7, .int z)]) hx hb dX11_skein_126 hl (by decide) rfl (fun ls hl => ?_)
                                  refine lv_aload_n hx hb dX11_skein_128 rfl (lv_at hl 1 rfl) ?_
                                  refine gX_11_0 hx hb ht hown hK hP m_415 dX11_skein_129 ?_
                                  refine lv_iload hx hb dX11_skein_132 (lv_at hl 0 rfl) ?_
                                  refine lv_iload_n hx hb dX11_skein_134 rfl (lv_at hl 4 rfl) ?_
                                  refine lv_iload hx hb dX11_skein_135 (lv_at hl 5 rfl) ?_
                                  refine lv_iload hx hb dX11_skein_137 (lv_at hl 6 rfl) ?_
                                  have hFc := free_all hD hS hA
                                  refine va_callv (va_runV (As := [.int r18, .int d, .int k, .int n]) (rest := []) ⟨hx, hb, hml, hown, ht⟩ (c_X10_weigh_x l dC dI H.size h g ca (u2 iv 10 1 n20) lv (u2 fa 10 0 n19) la (IX_a (c := 10) (k := 0) (IX_i (c := 10) (k := 1) hI (show inb (0, 60) n20 from ⟨by omega, by omega⟩)) hn19) r18 d k n ⟨by omega, by omega⟩) (kV 4 ht m_497 m_498 m_499 m_78 m_500 rfl rfl hd_X10_weigh_v ⟨Nat.le_of_ble_eq_true rfl, Nat.le_of_ble_eq_true rfl⟩) (vW hP hK hD (rX_10 hK hP)) rfl rfl hl.1 rfl (lv_room (Nat.le_of_ble_eq_true rfl)) dX11_skein_139 ⟨Nat.le_of_ble_eq_true rfl, Nat.le_of_ble_eq_true rfl⟩) hS (fun q _ h => hFc q h) hFc (fun u t H1 locs ht9 hvm hr21 hB hz1 hk1 hS => ?_)
                                  obtain ⟨n22, hn22, xr21_0, xr21_1, xr21_2, xr21_3, rfl⟩ := hr21
                                  obtain ⟨hP, hD⟩ := hB
                                  rw [ht9] at hP
                                  generalize H1 = H at hP hS ⊢
                                  have hP : va_P (dC, dI) classes (WX h g ca (u2 iv 10 1 n20) lv (u2 fa 10 0 n22) la) H := hP
                                  have hD : va_D A (WX h g ca (u2 iv 10 1 n20) lv (u2 fa 10 0 n22) la) := (show va_D _ (WX h g ca (u2 iv 10 1 n20) lv (u2 fa 10 0 n22) la) from hD).weaken (fun _ _ _ h => hFc _ h)
                                  have xr21_0 : ∀ j : Nat, (j ≠ (9 * ((r18 : Int32).toInt).toNat + 2) ∧ j ≠ (9 * ((r18 : Int32).toInt).toNat + 3) ∧ j ≠ (9 * ((r18 : Int32).toInt).toNat + 4)) → n22 j = n19 j := xr21_0
                                  have xr21_1 : n22 (9 * ((r18 : Int32).toInt).toNat + 2) = (d : Int32) := xr21_1
                                  have xr21_2 : n22 (9 * ((r18 : Int32).toInt).toNat + 3) = (k : Int32) := xr21_2
                                  have xr21_3 : n22 (9 * ((r18 : Int32).toInt).toNat + 4) = (n : Int32) := xr21_3
                                  refine lv_aload_n hx hb dX11_skein_142 rfl (lv_at hl 1 rfl) ?_
                                  refine gX_11_0 hx hb ht hown hK hP m_415 dX11_skein_143 ?_
                                  refine lv_iload hx hb dX11_skein_146 (lv_at hl 0 rfl) ?_
                                  refine lv_iload hx hb dX11_skein_148 (lv_at hl 7 rfl) ?_
                                  refine lv_iload hx hb dX11_skein_150 (lv_at hl 8 rfl) ?_
                                  have hFc := free_all hD hS hA
                                  refine va_callv (va_runV (As := [.int r18, .int q, .int z]) (rest := []) ⟨hx, hb, hml, hown, ht⟩ (c_X10_dryIn_x l dC dI H.size h g ca (u2 iv 10 1 n20) lv (u2 fa 10 0 n22) la (IX_a (c := 10) (k := 0) (IX_i (c := 10) (k := 1) hI (show inb (0, 60) n20 from ⟨by omega, by omega⟩)) hn22) r18 q z ⟨by omega, by omega⟩) (kV 3 ht m_501 m_502 m_503 m_78 m_504 rfl rfl hd_X10_dryIn_v ⟨Nat.le_of_ble_eq_true rfl, Nat.le_of_ble_eq_true rfl⟩) (vW hP hK hD (rX_10 hK hP)) rfl rfl hl.1 rfl (lv_room (Nat.le_of_ble_eq_true rfl)) dX11_skein_152 ⟨Nat.le_of_ble_eq_true rfl, Nat.le_of_ble_eq_true rfl⟩) hS (fun q _ h => hFc q h) hFc (fun u t H1 locs ht9 hvm hr23 hB hz1 hk1 hS => ?_)
                                  obtain ⟨n24, hn24, xr23_0, xr23_1, xr23_2, rfl⟩ := hr23
                                  obtain ⟨hP, hD⟩ := hB
                                  rw [ht9] at hP
                                  generalize H1 = H at hP hS ⊢
                                  have hP : va_P (dC, dI) classes (WX h g ca (u2 iv 10 1 n20) lv (u2 fa 10 0 n24) la) H := hP
                                  have hD : va_D A (WX h g ca (u2 iv 10 1 n20) lv (u2 fa 10 0 n24) la) := (show va_D _ (WX h g ca (u2 iv 10 1 n20) lv (u2 fa 10 0 n24) la) from hD).weaken (fun _ _ _ h => hFc _ h)
                                  have xr23_0 : ∀ j : Nat, (j ≠ (9 * ((r18 : Int32).toInt).toNat + 5) ∧ j ≠ (9 * ((r18 : Int32).toInt).toNat + 6)) → n24 j = n22 j := xr23_0
                                  have xr23_1 : n24 (9 * ((r18 : Int32).toInt).toNat + 5) = (q : Int32) := xr23_1
                                  have xr23_2 : n24 (9 * ((r18 : Int32).toInt).toNat + 6) = (z : Int32) := xr23_2
                                  refine lv_iload hx hb dX11_skein_155 (lv_at hl 0 rfl) ?_
                                  have hP9 : va_P (dC, dI) classes (WX h g ca (u2 iv 10 1 n20) lv (u2 fa 10 0 n24) la) H := hP
                                  have hD9 : va_D A (WX h g ca (u2 iv 10 1 n20) lv (u2 fa 10 0 n24) la) := hD
                                  exact W.iret (v := r18) hx hb hr (fun t ht9 hW => ⟨⟨r18, ((u2 iv 10 1 n20), lv, (u2 fa 10 0 n24), la), rfl, ⟨n24, n20, hn24, (show inb (0, 60) n20 from ⟨by omega, by omega⟩), (show (((r18 : Int32).toInt = -100001 ∧ ¬ (0 ≤ (a).toInt ∧ (a).toInt < (iv 0 7).toInt) ∧ (n20 : Int32).toInt = (iv 10 1).toInt) ∨ ((r18 : Int32).toInt = -100002 ∧ 0 ≤ (a).toInt ∧ (a).toInt < (iv 0 7).toInt ∧ ¬ (0 ≤ (b).toInt ∧ (b).toInt ≤ 2 ∧ 0 ≤ (d).toInt ∧ (d).toInt ≤ 3 ∧ 100 ≤ (k).toInt ∧ (k).toInt ≤ 9999 ∧ 50 ≤ (n).toInt ∧ (n).toInt ≤ (k).toInt ∧ 0 ≤ (q).toInt ∧ (q).toInt ≤ 3 ∧ 0 ≤ (z).toInt ∧ (z).toInt ≤ 7) ∧ (n20 : Int32).toInt = (iv 10 1).toInt) ∨ ((r18 : Int32).toInt = -100004 ∧ 0 ≤ (a).toInt ∧ (a).toInt < (iv 0 7).toInt ∧ 0 ≤ (b).toInt ∧ (b).toInt ≤ 2 ∧ 0 ≤ (d).toInt ∧ (d).toInt ≤ 3 ∧ 100 ≤ (k).toInt ∧ (k).toInt ≤ 9999 ∧ 50 ≤ (n).toInt ∧ (n).toInt ≤ (k).toInt ∧ 0 ≤ (q).toInt ∧ (q).toInt ≤ 3 ∧ 0 ≤ (z).toInt ∧ (z).toInt ≤ 7 ∧ (60 ≤ (iv 10 1).toInt ∨ 12 ≤ ((cn0 (fun s => (fa 10 0) (9 * s + 0)) (fun s => (fa 10 0) (9 * s + 1)) a b ((iv 10 1).toInt).toNat : Nat) : Int)) ∧ (n20 : Int32).toInt = (iv 10 1).toInt) ∨ (0 ≤ (a).toInt ∧ (a).toInt < (iv 0 7).toInt ∧ 0 ≤ (b).toInt ∧ (b).toInt ≤ 2 ∧ 0 ≤ (d).toInt ∧ (d).toInt ≤ 3 ∧ 100 ≤ (k).toInt ∧ (k).toInt ≤ 9999 ∧ 50 ≤ (n).toInt ∧ (n).toInt ≤ (k).toInt ∧ 0 ≤ (q).toInt ∧ (q).toInt ≤ 3 ∧ 0 ≤ (z).toInt ∧ (z).toInt ≤ 7 ∧ (iv 10 1).toInt < 60 ∧ ((cn0 (fun s => (fa 10 0) (9 * s + 0)) (fun s => (fa 10 0) (9 * s + 1)) a b ((iv 10 1).toInt).toNat : Nat) : Int) < 12 ∧ (r18 : Int32).toInt = (iv 10 1).toInt ∧ (n20 : Int32).toInt = (iv 10 1).toInt + 1)) from by omega), (show ∀ j : Nat, (j < (9 * ((iv 10 1).toInt).toNat + 0) ∨ (9 * ((iv 10 1).toInt).toNat + 9) ≤ j) → n24 j = (fa 10 0) j from (by have hi9 : (r18 : Int32).toInt = (iv 10 1).toInt := (by omega); have zxr21_0 := xr21_0; rw [hi9] at zxr21_0; have zxr21_1 := xr21_1; rw [hi9] at zxr21_1; have zxr21_2 := xr21_2; rw [hi9] at zxr21_2; have zxr21_3 := xr21_3; rw [hi9] at zxr21_3; have zxr23_0 := xr23_0; rw [hi9] at zxr23_0; have zxr23_1 := xr23_1; rw [hi9] at zxr23_1; have zxr23_2 := xr23_2; rw [hi9] at zxr23_2; intro j hj; rw [zxr23_0 j (by omega), zxr21_0 j (by omega), xr18_0 j (by omega)])), (show (((r18 : Int32).toInt < 0 ∧ ∀ j : Nat, n24 j = (fa 10 0) j) ∨ (n24 (9 * ((iv 10 1).toInt).toNat + 0) = a ∧ n24 (9 * ((iv 10 1).toInt).toNat + 1) = b ∧ n24 (9 * ((iv 10 1).toInt).toNat + 2) = d ∧ n24 (9 * ((iv 10 1).toInt).toNat + 3) = k ∧ n24 (9 * ((iv 10 1).toInt).toNat + 4) = n ∧ n24 (9 * ((iv 10 1).toInt).toNat + 5) = q ∧ n24 (9 * ((iv 10 1).toInt).toNat + 6) = z ∧ n24 (9 * ((iv 10 1).toInt).toNat + 7) = (iv 11 10) ∧ n24 (9 * ((iv 10 1).toInt).toNat + 8) = (-1))) from (by have hi9 : (r18 : Int32).toInt = (iv 10 1).toInt := (by omega); have zxr21_0 := xr21_0; rw [hi9] at zxr21_0; have zxr21_1 := xr21_1; rw [hi9] at zxr21_1; have zxr21_2 := xr21_2; rw [hi9] at zxr21_2; have zxr21_3 := xr21_3; rw [hi9] at zxr21_3; have zxr23_0 := xr23_0; rw [hi9] at zxr23_0; have zxr23_1 := xr23_1; rw [hi9] at zxr23_1; have zxr23_2 := xr23_2; rw [hi9] at zxr23_2; exact Or.inr ⟨(by rw [zxr23_0 (9 * ((iv 10 1).toInt).toNat + 0) (by omega), zxr21_0 (9 * ((iv 10 1).toInt).toNat + 0) (by omega)]; exact xr18_1), (by rw [zxr23_0 (9 * ((iv 10 1).toInt).toNat + 1) (by omega), zxr21_0 (9 * ((iv 10 1).toInt).toNat + 1) (by omega)]; exact xr18_2), (by rw [zxr23_0 (9 * ((iv 10 1).toInt).toNat + 2) (by omega)]; exact zxr21_1), (by rw [zxr23_0 (9 * ((iv 10 1).toInt).toNat + 3) (by omega)]; exact zxr21_2), (by rw [zxr23_0 (9 * ((iv 10 1).toInt).toNat + 4) (by omega)]; exact zxr21_3), zxr23_1, zxr23_2, (by rw [zxr23_0 (9 * ((iv 10 1).toInt).toNat + 7) (by omega), zxr21_0 (9 * ((iv 10 1).toInt).toNat + 7) (by omega)]; exact xr18_3), (by rw [zxr23_0 (9 * ((iv 10 1).toInt).toNat + 8) (by omega), zxr21_0 (9 * ((iv 10 1).toInt).toNat + 8) (by omega)]; exact xr18_4)⟩)), ⟨by omega, by omega⟩, rfl⟩, by rw [ht9]; exact hP9, hD9⟩, hS.F ht9⟩) hS.2.2 dX11_skein_157
                                · have fc17 := z_nlt (rfl : (r16).toInt = _) (by decide : (12 : Int32).toInt = 12) c17
                                  refine lv_ldc hx hb hown (ht _ m_463) dX11_skein_110 ?_
                                  have : ((-100004) : Int32).toInt = (-100004) := (by decide)
                                  have hP9 : va_P (dC, dI) classes (WX h g ca (u2 iv 10 1 (iv 10 1)) lv (u2 fa 10 0 (fa 10 0)) la) s.heap := hP
                                  have hD9 : va_D A (WX h g ca (u2 iv 10 1 (iv 10 1)) lv (u2 fa 10 0 (fa 10 0)) la) := hD
                                  exact W.iret (v := (-100004)) hx hb hr (fun t ht9 hW => ⟨⟨(-100004), ((u2 iv 10 1 (iv 10 1)), lv, (u2 fa 10 0 (fa 10 0)), la), rfl, ⟨(fa 10 0), (iv 10 1), (hI.2 10 0), (hI.1 10 1), (show ((((-100004) : Int32).toInt = -100001 ∧ ¬ (0 ≤ (a).toInt ∧ (a).toInt < (iv 0 7).toInt) ∧ ((iv 10 1) : Int32).toInt = (iv 10 1).toInt) ∨ (((-100004) : Int32).toInt = -100002 ∧ 0 ≤ (a).toInt ∧ (a).toInt < (iv 0 7).toInt ∧ ¬ (0 ≤ (b).toInt ∧ (b).toInt ≤ 2 ∧ 0 ≤ (d).toInt ∧ (d).toInt ≤ 3 ∧ 100 ≤ (k).toInt ∧ (k).toInt ≤ 9999 ∧ 50 ≤ (n).toInt ∧ (n).toInt ≤ (k).toInt ∧ 0 ≤ (q).toInt ∧ (q).toInt ≤ 3 ∧ 0 ≤ (z).toInt ∧ (z).toInt ≤ 7) ∧ ((iv 10 1) : Int32).toInt = (iv 10 1).toInt) ∨ (((-100004) : Int32).toInt = -100004 ∧ 0 ≤ (a).toInt ∧ (a).toInt < (iv 0 7).toInt ∧ 0 ≤ (b).toInt ∧ (b).toInt ≤ 2 ∧ 0 ≤ (d).toInt ∧ (d).toInt ≤ 3 ∧ 100 ≤ (k).toInt ∧ (k).toInt ≤ 9999 ∧ 50 ≤ (n).toInt ∧ (n).toInt ≤ (k).toInt ∧ 0 ≤ (q).toInt ∧ (q).toInt ≤ 3 ∧ 0 ≤ (z).toInt ∧ (z).toInt ≤ 7 ∧ (60 ≤ (iv 10 1).toInt ∨ 12 ≤ ((cn0 (fun s => (fa 10 0) (9 * s + 0)) (fun s => (fa 10 0) (9 * s + 1)) a b ((iv 10 1).toInt).toNat : Nat) : Int)) ∧ ((iv 10 1) : Int32).toInt = (iv 10 1).toInt) ∨ (0 ≤ (a).toInt ∧ (a).toInt < (iv 0 7).toInt ∧ 0 ≤ (b).toInt ∧ (b).toInt ≤ 2 ∧ 0 ≤ (d).toInt ∧ (d).toInt ≤ 3 ∧ 100 ≤ (k).toInt ∧ (k).toInt ≤ 9999 ∧ 50 ≤ (n).toInt ∧ (n).toInt ≤ (k).toInt ∧ 0 ≤ (q).toInt ∧ (q).toInt ≤ 3 ∧ 0 ≤ (z).toInt ∧ (z).toInt ≤ 7 ∧ (iv 10 1).toInt < 60 ∧ ((cn0 (fun s => (fa 10 0) (9 * s + 0)) (fun s => (fa 10 0) (9 * s + 1)) a b ((iv 10 1).toInt).toNat : Nat) : Int) < 12 ∧ ((-100004) : Int32).toInt = (iv 10 1).toInt ∧ ((iv 10 1) : Int32).toInt = (iv 10 1).toInt + 1)) from by omega), (show ∀ j : Nat, (j < (9 * ((iv 10 1).toInt).toNat + 0) ∨ (9 * ((iv 10 1).toInt).toNat + 9) ≤ j) → (fa 10 0) j = (fa 10 0) j from fun j hj => rfl), (show ((((-100004) : Int32).toInt < 0 ∧ ∀ j : Nat, (fa 10 0) j = (fa 10 0) j) ∨ ((fa 10 0) (9 * ((iv 10 1).toInt).toNat + 0) = a ∧ (fa 10 0) (9 * ((iv 10 1).toInt).toNat + 1) = b ∧ (fa 10 0) (9 * ((iv 10 1).toInt).toNat + 2) = d ∧ (fa 10 0) (9 * ((iv 10 1).toInt).toNat + 3) = k ∧ (fa 10 0) (9 * ((iv 10 1).toInt).toNat + 4) = n ∧ (fa 10 0) (9 * ((iv 10 1).toInt).toNat + 5) = q ∧ (fa 10 0) (9 * ((iv 10 1).toInt).toNat + 6) = z ∧ (fa 10 0) (9 * ((iv 10 1).toInt).toNat + 7) = (iv 11 10) ∧ (fa 10 0) (9 * ((iv 10 1).toInt).toNat + 8) = (-1))) from Or.inl ⟨by omega, fun j => rfl⟩), ⟨by decide, by decide⟩, rfl⟩, by rw [ht9]; exact hP9, hD9⟩, hS.F ht9⟩) hS.2.2 dX11_skein_112
                            · exact absurd c14 (by decide)
                          · skip
                            refine lv_if_ne (tgt := 84) hx hb dX11_skein_78 (by decide) (fun c25 => ?_) (fun c25 => ?_)
                            · exact absurd rfl c25
                            · skip
                              refine lv_ldc hx hb hown (ht _ m_456) dX11_skein_81 ?_
                              have : ((-100002) : Int32).toInt = (-100002) := (by decide)
                              have i_10_1 : 0 ≤ (iv 10 1).toInt ∧ (iv 10 1).toInt ≤ 60 := hI.1 10 1
                              have hP9 : va_P (dC, dI) classes (WX h g ca (u2 iv 10 1 (iv 10 1)) lv (u2 fa 10 0 (fa 10 0)) la) s.heap := hP
                              have hD9 : va_D A (WX h g ca (u2 iv 10 1 (iv 10 1)) lv (u2 fa 10 0 (fa 10 0)) la) := hD
                              exact W.iret (v := (-100002)) hx hb hr (fun t ht9 hW => ⟨⟨(-100002), ((u2 iv 10 1 (iv 10 1)), lv, (u2 fa 10 0 (fa 10 0)), la), rfl, ⟨(fa 10 0), (iv 10 1), (hI.2 10 0), (hI.1 10 1), (show ((((-100002) : Int32).toInt = -100001 ∧ ¬ (0 ≤ (a).toInt ∧ (a).toInt < (iv 0 7).toInt) ∧ ((iv 10 1) : Int32).toInt = (iv 10 1).toInt) ∨ (((-100002) : Int32).toInt = -100002 ∧ 0 ≤ (a).toInt ∧ (a).toInt < (iv 0 7).toInt ∧ ¬ (0 ≤ (b).toInt ∧ (b).toInt ≤ 2 ∧ 0 ≤ (d).toInt ∧ (d).toInt ≤ 3 ∧ 100 ≤ (k).toInt ∧ (k).toInt ≤ 9999 ∧ 50 ≤ (n).toInt ∧ (n).toInt ≤ (k).toInt ∧ 0 ≤ (q).toInt ∧ (q).toInt ≤ 3 ∧ 0 ≤ (z).toInt ∧ (z).toInt ≤ 7) ∧ ((iv 10 1) : Int32).toInt = (iv 10 1).toInt) ∨ (((-100002) : Int32).toInt = -100004 ∧ 0 ≤ (a).toInt ∧ (a).toInt < (iv 0 7).toInt ∧ 0 ≤ (b).toInt ∧ (b).toInt ≤ 2 ∧ 0 ≤ (d).toInt ∧ (d).toInt ≤ 3 ∧ 100 ≤ (k).toInt ∧ (k).toInt ≤ 9999 ∧ 50 ≤ (n).toInt ∧ (n).toInt ≤ (k).toInt ∧ 0 ≤ (q).toInt ∧ (q).toInt ≤ 3 ∧ 0 ≤ (z).toInt ∧ (z).toInt ≤ 7 ∧ (60 ≤ (iv 10 1).toInt ∨ 12 ≤ ((cn0 (fun s => (fa 10 0) (9 * s + 0)) (fun s => (fa 10 0) (9 * s + 1)) a b ((iv 10 1).toInt).toNat : Nat) : Int)) ∧ ((iv 10 1) : Int32).toInt = (iv 10 1).toInt) ∨ (0 ≤ (a).toInt ∧ (a).toInt < (iv 0 7).toInt ∧ 0 ≤ (b).toInt ∧ (b).toInt ≤ 2 ∧ 0 ≤ (d).toInt ∧ (d).toInt ≤ 3 ∧ 100 ≤ (k).toInt ∧ (k).toInt ≤ 9999 ∧ 50 ≤ (n).toInt ∧ (n).toInt ≤ (k).toInt ∧ 0 ≤ (q).toInt ∧ (q).toInt ≤ 3 ∧ 0 ≤ (z).toInt ∧ (z).toInt ≤ 7 ∧ (iv 10 1).toInt < 60 ∧ ((cn0 (fun s => (fa 10 0) (9 * s + 0)) (fun s => (fa 10 0) (9 * s + 1)) a b ((iv 10 1).toInt).toNat : Nat) : Int) < 12 ∧ ((-100002) : Int32).toInt = (iv 10 1).toInt ∧ ((iv 10 1) : Int32).toInt = (iv 10 1).toInt + 1)) from by omega), (show ∀ j : Nat, (j < (9 * ((iv 10 1).toInt).toNat + 0) ∨ (9 * ((iv 10 1).toInt).toNat + 9) ≤ j) → (fa 10 0) j = (fa 10 0) j from fun j hj => rfl), (show ((((-100002) : Int32).toInt < 0 ∧ ∀ j : Nat, (fa 10 0) j = (fa 10 0) j) ∨ ((fa 10 0) (9 * ((iv 10 1).toInt).toNat + 0) = a ∧ (fa 10 0) (9 * ((iv 10 1).toInt).toNat + 1) = b ∧ (fa 10 0) (9 * ((iv 10 1).toInt).toNat + 2) = d ∧ (fa 10 0) (9 * ((iv 10 1).toInt).toNat + 3) = k ∧ (fa 10 0) (9 * ((iv 10 1).toInt).toNat + 4) = n ∧ (fa 10 0) (9 * ((iv 10 1).toInt).toNat + 5) = q ∧ (fa 10 0) (9 * ((iv 10 1).toInt).toNat + 6) = z ∧ (fa 10 0) (9 * ((iv 10 1).toInt).toNat + 7) = (iv 11 10) ∧ (fa 10 0) (9 * ((iv 10 1).toInt).toNat + 8) = (-1))) from Or.inl ⟨by omega, fun j => rfl⟩), ⟨by decide, by decide⟩, rfl⟩, by rw [ht9]; exact hP9, hD9⟩, hS.F ht9⟩) hS.2.2 dX11_skein_83
                      · skip
                        refine lv_if_eq (tgt := 81) hx hb dX11_skein_66 (by decide) (fun c26 => ?_) (fun c26 => ?_)
                        · skip
                          refine lv_ldc hx hb hown (ht _ m_456) dX11_skein_81 ?_
                          have : ((-100002) : Int32).toInt = (-100002) := (by decide)
                          have i_10_1 : 0 ≤ (iv 10 1).toInt ∧ (iv 10 1).toInt ≤ 60 := hI.1 10 1
                          have hP9 : va_P (dC, dI) classes (WX h g ca (u2 iv 10 1 (iv 10 1)) lv (u2 fa 10 0 (fa 10 0)) la) s.heap := hP
                          have hD9 : va_D A (WX h g ca (u2 iv 10 1 (iv 10 1)) lv (u2 fa 10 0 (fa 10 0)) la) := hD
                          exact W.iret (v := (-100002)) hx hb hr (fun t ht9 hW => ⟨⟨(-100002), ((u2 iv 10 1 (iv 10 1)), lv, (u2 fa 10 0 (fa 10 0)), la), rfl, ⟨(fa 10 0), (iv 10 1), (hI.2 10 0), (hI.1 10 1), (show ((((-100002) : Int32).toInt = -100001 ∧ ¬ (0 ≤ (a).toInt ∧ (a).toInt < (iv 0 7).toInt) ∧ ((iv 10 1) : Int32).toInt = (iv 10 1).toInt) ∨ (((-100002) : Int32).toInt = -100002 ∧ 0 ≤ (a).toInt ∧ (a).toInt < (iv 0 7).toInt ∧ ¬ (0 ≤ (b).toInt ∧ (b).toInt ≤ 2 ∧ 0 ≤ (d).toInt ∧ (d).toInt ≤ 3 ∧ 100 ≤ (k).toInt ∧ (k).toInt ≤ 9999 ∧ 50 ≤ (n).toInt ∧ (n).toInt ≤ (k).toInt ∧ 0 ≤ (q).toInt ∧ (q).toInt ≤ 3 ∧ 0 ≤ (z).toInt ∧ (z).toInt ≤ 7) ∧ ((iv 10 1) : Int32).toInt = (iv 10 1).toInt) ∨ (((-100002) : Int32).toInt = -100004 ∧ 0 ≤ (a).toInt ∧ (a).toInt < (iv 0 7).toInt ∧ 0 ≤ (b).toInt ∧ (b).toInt ≤ 2 ∧ 0 ≤ (d).toInt ∧ (d).toInt ≤ 3 ∧ 100 ≤ (k).toInt ∧ (k).toInt ≤ 9999 ∧ 50 ≤ (n).toInt ∧ (n).toInt ≤ (k).toInt ∧ 0 ≤ (q).toInt ∧ (q).toInt ≤ 3 ∧ 0 ≤ (z).toInt ∧ (z).toInt ≤ 7 ∧ (60 ≤ (iv 10 1).toInt ∨ 12 ≤ ((cn0 (fun s => (fa 10 0) (9 * s + 0)) (fun s => (fa 10 0) (9 * s + 1)) a b ((iv 10 1).toInt).toNat : Nat) : Int)) ∧ ((iv 10 1) : Int32).toInt = (iv 10 1).toInt) ∨ (0 ≤ (a).toInt ∧ (a).toInt < (iv 0 7).toInt ∧ 0 ≤ (b).toInt ∧ (b).toInt ≤ 2 ∧ 0 ≤ (d).toInt ∧ (d).toInt ≤ 3 ∧ 100 ≤ (k).toInt ∧ (k).toInt ≤ 9999 ∧ 50 ≤ (n).toInt ∧ (n).toInt ≤ (k).toInt ∧ 0 ≤ (q).toInt ∧ (q).toInt ≤ 3 ∧ 0 ≤ (z).toInt ∧ (z).toInt ≤ 7 ∧ (iv 10 1).toInt < 60 ∧ ((cn0 (fun s => (fa 10 0) (9 * s + 0)) (fun s => (fa 10 0) (9 * s + 1)) a b ((iv 10 1).toInt).toNat : Nat) : Int) < 12 ∧ ((-100002) : Int32).toInt = (iv 10 1).toInt ∧ ((iv 10 1) : Int32).toInt = (iv 10 1).toInt + 1)) from by omega), (show ∀ j : Nat, (j < (9 * ((iv 10 1).toInt).toNat + 0) ∨ (9 * ((iv 10 1).toInt).toNat + 9) ≤ j) → (fa 10 0) j = (fa 10 0) j from fun j hj => rfl), (show ((((-100002) : Int32).toInt < 0 ∧ ∀ j : Nat, (fa 10 0) j = (fa 10 0) j) ∨ ((fa 10 0) (9 * ((iv 10 1).toInt).toNat + 0) = a ∧ (fa 10 0) (9 * ((iv 10 1).toInt).toNat + 1) = b ∧ (fa 10 0) (9 * ((iv 10 1).toInt).toNat + 2) = d ∧ (fa 10 0) (9 * ((iv 10 1).toInt).toNat + 3) = k ∧ (fa 10 0) (9 * ((iv 10 1).toInt).toNat + 4) = n ∧ (fa 10 0) (9 * ((iv 10 1).toInt).toNat + 5) = q ∧ (fa 10 0) (9 * ((iv 10 1).toInt).toNat + 6) = z ∧ (fa 10 0) (9 * ((iv 10 1).toInt).toNat + 7) = (iv 11 10) ∧ (fa 10 0) (9 * ((iv 10 1).toInt).toNat + 8) = (-1))) from Or.inl ⟨by omega, fun j => rfl⟩), ⟨by decide, by decide⟩, rfl⟩, by rw [ht9]; exact hP9, hD9⟩, hS.F ht9⟩) hS.2.2 dX11_skein_83
                        · exact absurd rfl c26
                    · exact absurd c10 (by decide)
                  · skip
                    refine lv_if_ne (tgt := 56) hx hb dX11_skein_50 (by decide) (fun c27 => ?_) (fun c27 => ?_)
                    · exact absurd rfl c27
                    · skip
                      refine lv_ldc hx hb hown (ht _ m_456) dX11_skein_53 ?_
                      have : ((-100002) : Int32).toInt = (-100002) := (by decide)
                      have i_10_1 : 0 ≤ (iv 10 1).toInt ∧ (iv 10 1).toInt ≤ 60 := hI.1 10 1
                      have hP9 : va_P (dC, dI) classes (WX h g ca (u2 iv 10 1 (iv 10 1)) lv (u2 fa 10 0 (fa 10 0)) la) s.heap := hP
                      have hD9 : va_D A (WX h g ca (u2 iv 10 1 (iv 10 1)) lv (u2 fa 10 0 (fa 10 0)) la) := hD
                      exact W.iret (v := (-100002)) hx hb hr (fun t ht9 hW => ⟨⟨(-100002), ((u2 iv 10 1 (iv 10 1)), lv, (u2 fa 10 0 (fa 10 0)), la), rfl, ⟨(fa 10 0), (iv 10 1), (hI.2 10 0), (hI.1 10 1), (show ((((-100002) : Int32).toInt = -100001 ∧ ¬ (0 ≤ (a).toInt ∧ (a).toInt < (iv 0 7).toInt) ∧ ((iv 10 1) : Int32).toInt = (iv 10 1).toInt) ∨ (((-100002) : Int32).toInt = -100002 ∧ 0 ≤ (a).toInt ∧ (a).toInt < (iv 0 7).toInt ∧ ¬ (0 ≤ (b).toInt ∧ (b).toInt ≤ 2 ∧ 0 ≤ (d).toInt ∧ (d).toInt ≤ 3 ∧ 100 ≤ (k).toInt ∧ (k).toInt ≤ 9999 ∧ 50 ≤ (n).toInt ∧ (n).toInt ≤ (k).toInt ∧ 0 ≤ (q).toInt ∧ (q).toInt ≤ 3 ∧ 0 ≤ (z).toInt ∧ (z).toInt ≤ 7) ∧ ((iv 10 1) : Int32).toInt = (iv 10 1).toInt) ∨ (((-100002) : Int32).toInt = -100004 ∧ 0 ≤ (a).toInt ∧ (a).toInt < (iv 0 7).toInt ∧ 0 ≤ (b).toInt ∧ (b).toInt ≤ 2 ∧ 0 ≤ (d).toInt ∧ (d).toInt ≤ 3 ∧ 100 ≤ (k).toInt ∧ (k).toInt ≤ 9999 ∧ 50 ≤ (n).toInt ∧ (n).toInt ≤ (k).toInt ∧ 0 ≤ (q).toInt ∧ (q).toInt ≤ 3 ∧ 0 ≤ (z).toInt ∧ (z).toInt ≤ 7 ∧ (60 ≤ (iv 10 1).toInt ∨ 12 ≤ ((cn0 (fun s => (fa 10 0) (9 * s + 0)) (fun s => (fa 10 0) (9 * s + 1)) a b ((iv 10 1).toInt).toNat : Nat) : Int)) ∧ ((iv 10 1) : Int32).toInt = (iv 10 1).toInt) ∨ (0 ≤ (a).toInt ∧ (a).toInt < (iv 0 7).toInt ∧ 0 ≤ (b).toInt ∧ (b).toInt ≤ 2 ∧ 0 ≤ (d).toInt ∧ (d).toInt ≤ 3 ∧ 100 ≤ (k).toInt ∧ (k).toInt ≤ 9999 ∧ 50 ≤ (n).toInt ∧ (n).toInt ≤ (k).toInt ∧ 0 ≤ (q).toInt ∧ (q).toInt ≤ 3 ∧ 0 ≤ (z).toInt ∧ (z).toInt ≤ 7 ∧ (iv 10 1).toInt < 60 ∧ ((cn0 (fun s => (fa 10 0) (9 * s + 0)) (fun s => (fa 10 0) (9 * s + 1)) a b ((iv 10 1).toInt).toNat : Nat) : Int) < 12 ∧ ((-100002) : Int32).toInt = (iv 10 1).toInt ∧ ((iv 10 1) : Int32).toInt = (iv 10 1).toInt + 1)) from by omega), (show ∀ j : Nat, (j < (9 * ((iv 10 1).toInt).toNat + 0) ∨ (9 * ((iv 10 1).toInt).toNat + 9) ≤ j) → (fa 10 0) j = (fa 10 0) j from fun j hj => rfl), (show ((((-100002) : Int32).toInt < 0 ∧ ∀ j : Nat, (fa 10 0) j = (fa 10 0) j) ∨ ((fa 10 0) (9 * ((iv 10 1).toInt).toNat + 0) = a ∧ (fa 10 0) (9 * ((iv 10 1).toInt).toNat + 1) = b ∧ (fa 10 0) (9 * ((iv 10 1).toInt).toNat + 2) = d ∧ (fa 10 0) (9 * ((iv 10 1).toInt).toNat + 3) = k ∧ (fa 10 0) (9 * ((iv 10 1).toInt).toNat + 4) = n ∧ (fa 10 0) (9 * ((iv 10 1).toInt).toNat + 5) = q ∧ (fa 10 0) (9 * ((iv 10 1).toInt).toNat + 6) = z ∧ (fa 10 0) (9 * ((iv 10 1).toInt).toNat + 7) = (iv 11 10) ∧ (fa 10 0) (9 * ((iv 10 1).toInt).toNat + 8) = (-1))) from Or.inl ⟨by omega, fun j => rfl⟩), ⟨by decide, by decide⟩, rfl⟩, by rw [ht9]; exact hP9, hD9⟩, hS.F ht9⟩) hS.2.2 dX11_skein_55
              · skip
                refine lv_if_eq (tgt := 53) hx hb dX11_skein_39 (by decide) (fun c28 => ?_) (fun c28 => ?_)
                · skip
                  refine lv_ldc hx hb hown (ht _ m_456) dX11_skein_53 ?_
                  have : ((-100002) : Int32).toInt = (-100002) := (by decide)
                  have i_10_1 : 0 ≤ (iv 10 1).toInt ∧ (iv 10 1).toInt ≤ 60 := hI.1 10 1
                  have hP9 : va_P (dC, dI) classes (WX h g ca (u2 iv 10 1 (iv 10 1)) lv (u2 fa 10 0 (fa 10 0)) la) s.heap := hP
                  have hD9 : va_D A (WX h g ca (u2 iv 10 1 (iv 10 1)) lv (u2 fa 10 0 (fa 10 0)) la) := hD
                  exact W.iret (v := (-100002)) hx hb hr (fun t ht9 hW => ⟨⟨(-100002), ((u2 iv 10 1 (iv 10 1)), lv, (u2 fa 10 0 (fa 10 0)), la), rfl, ⟨(fa 10 0), (iv 10 1), (hI.2 10 0), (hI.1 10 1), (show ((((-100002) : Int32).toInt = -100001 ∧ ¬ (0 ≤ (a).toInt ∧ (a).toInt < (iv 0 7).toInt) ∧ ((iv 10 1) : Int32).toInt = (iv 10 1).toInt) ∨ (((-100002) : Int32).toInt = -100002 ∧ 0 ≤ (a).toInt ∧ (a).toInt < (iv 0 7).toInt ∧ ¬ (0 ≤ (b).toInt ∧ (b).toInt ≤ 2 ∧ 0 ≤ (d).toInt ∧ (d).toInt ≤ 3 ∧ 100 ≤ (k).toInt ∧ (k).toInt ≤ 9999 ∧ 50 ≤ (n).toInt ∧ (n).toInt ≤ (k).toInt ∧ 0 ≤ (q).toInt ∧ (q).toInt ≤ 3 ∧ 0 ≤ (z).toInt ∧ (z).toInt ≤ 7) ∧ ((iv 10 1) : Int32).toInt = (iv 10 1).toInt) ∨ (((-100002) : Int32).toInt = -100004 ∧ 0 ≤ (a).toInt ∧ (a).toInt < (iv 0 7).toInt ∧ 0 ≤ (b).toInt ∧ (b).toInt ≤ 2 ∧ 0 ≤ (d).toInt ∧ (d).toInt ≤ 3 ∧ 100 ≤ (k).toInt ∧ (k).toInt ≤ 9999 ∧ 50 ≤ (n).toInt ∧ (n).toInt ≤ (k).toInt ∧ 0 ≤ (q).toInt ∧ (q).toInt ≤ 3 ∧ 0 ≤ (z).toInt ∧ (z).toInt ≤ 7 ∧ (60 ≤ (iv 10 1).toInt ∨ 12 ≤ ((cn0 (fun s => (fa 10 0) (9 * s + 0)) (fun s => (fa 10 0) (9 * s + 1)) a b ((iv 10 1).toInt).toNat : Nat) : Int)) ∧ ((iv 10 1) : Int32).toInt = (iv 10 1).toInt) ∨ (0 ≤ (a).toInt ∧ (a).toInt < (iv 0 7).toInt ∧ 0 ≤ (b).toInt ∧ (b).toInt ≤ 2 ∧ 0 ≤ (d).toInt ∧ (d).toInt ≤ 3 ∧ 100 ≤ (k).toInt ∧ (k).toInt ≤ 9999 ∧ 50 ≤ (n).toInt ∧ (n).toInt ≤ (k).toInt ∧ 0 ≤ (q).toInt ∧ (q).toInt ≤ 3 ∧ 0 ≤ (z).toInt ∧ (z).toInt ≤ 7 ∧ (iv 10 1).toInt < 60 ∧ ((cn0 (fun s => (fa 10 0) (9 * s + 0)) (fun s => (fa 10 0) (9 * s + 1)) a b ((iv 10 1).toInt).toNat : Nat) : Int) < 12 ∧ ((-100002) : Int32).toInt = (iv 10 1).toInt ∧ ((iv 10 1) : Int32).toInt = (iv 10 1).toInt + 1)) from by omega), (show ∀ j : Nat, (j < (9 * ((iv 10 1).toInt).toNat + 0) ∨ (9 * ((iv 10 1).toInt).toNat + 9) ≤ j) → (fa 10 0) j = (fa 10 0) j from fun j hj => rfl), (show ((((-100002) : Int32).toInt < 0 ∧ ∀ j : Nat, (fa 10 0) j = (fa 10 0) j) ∨ ((fa 10 0) (9 * ((iv 10 1).toInt).toNat + 0) = a ∧ (fa 10 0) (9 * ((iv 10 1).toInt).toNat + 1) = b ∧ (fa 10 0) (9 * ((iv 10 1).toInt).toNat + 2) = d ∧ (fa 10 0) (9 * ((iv 10 1).toInt).toNat + 3) = k ∧ (fa 10 0) (9 * ((iv 10 1).toInt).toNat + 4) = n ∧ (fa 10 0) (9 * ((iv 10 1).toInt).toNat + 5) = q ∧ (fa 10 0) (9 * ((iv 10 1).toInt).toNat + 6) = z ∧ (fa 10 0) (9 * ((iv 10 1).toInt).toNat + 7) = (iv 11 10) ∧ (fa 10 0) (9 * ((iv 10 1).toInt).toNat + 8) = (-1))) from Or.inl ⟨by omega, fun j => rfl⟩), ⟨by decide, by decide⟩, rfl⟩, by rw [ht9]; exact hP9, hD9⟩, hS.F ht9⟩) hS.2.2 dX11_skein_55
                · exact absurd rfl c28
          · skip
            refine lv_if_eq (tgt := 53) hx hb dX11_skein_29 (by decide) (fun c29 => ?_) (fun c29 => ?_)
            · skip
              refine lv_ldc hx hb hown (ht _ m_456) dX11_skein_53 ?_
              have : ((-100002) : Int32).toInt = (-100002) := (by decide)
              have i_10_1 : 0 ≤ (iv 10 1).toInt ∧ (iv 10 1).toInt ≤ 60 := hI.1 10 1
              have hP9 : va_P (dC, dI) classes (WX h g ca (u2 iv 10 1 (iv 10 1)) lv (u2 fa 10 0 (fa 10 0)) la) s.heap := hP
              have hD9 : va_D A (WX h g ca (u2 iv 10 1 (iv 10 1)) lv (u2 fa 10 0 (fa 10 0)) la) := hD
              exact W.iret (v := (-100002)) hx hb hr (fun t ht9 hW => ⟨⟨(-100002), ((u2 iv 10 1 (iv 10 1)), lv, (u2 fa 10 0 (fa 10 0)), la), rfl, ⟨(fa 10 0), (iv 10 1), (hI.2 10 0), (hI.1 10 1), (show ((((-100002) : Int32).toInt = -100001 ∧ ¬ (0 ≤ (a).toInt ∧ (a).toInt < (iv 0 7).toInt) ∧ ((iv 10 1) : Int32).toInt = (iv 10 1).toInt) ∨ (((-100002) : Int32).toInt = -100002 ∧ 0 ≤ (a).toInt ∧ (a).toInt < (iv 0 7).toInt ∧ ¬ (0 ≤ (b).toInt ∧ (b).toInt ≤ 2 ∧ 0 ≤ (d).toInt ∧ (d).toInt ≤ 3 ∧ 100 ≤ (k).toInt ∧ (k).toInt ≤ 9999 ∧ 50 ≤ (n).toInt ∧ (n).toInt ≤ (k).toInt ∧ 0 ≤ (q).toInt ∧ (q).toInt ≤ 3 ∧ 0 ≤ (z).toInt ∧ (z).toInt ≤ 7) ∧ ((iv 10 1) : Int32).toInt = (iv 10 1).toInt) ∨ (((-100002) : Int32).toInt = -100004 ∧ 0 ≤ (a).toInt ∧ (a).toInt < (iv 0 7).toInt ∧ 0 ≤ (b).toInt ∧ (b).toInt ≤ 2 ∧ 0 ≤ (d).toInt ∧ (d).toInt ≤ 3 ∧ 100 ≤ (k).toInt ∧ (k).toInt ≤ 9999 ∧ 50 ≤ (n).toInt ∧ (n).toInt ≤ (k).toInt ∧ 0 ≤ (q).toInt ∧ (q).toInt ≤ 3 ∧ 0 ≤ (z).toInt ∧ (z).toInt ≤ 7 ∧ (60 ≤ (iv 10 1).toInt ∨ 12 ≤ ((cn0 (fun s => (fa 10 0) (9 * s + 0)) (fun s => (fa 10 0) (9 * s + 1)) a b ((iv 10 1).toInt).toNat : Nat) : Int)) ∧ ((iv 10 1) : Int32).toInt = (iv 10 1).toInt) ∨ (0 ≤ (a).toInt ∧ (a).toInt < (iv 0 7).toInt ∧ 0 ≤ (b).toInt ∧ (b).toInt ≤ 2 ∧ 0 ≤ (d).toInt ∧ (d).toInt ≤ 3 ∧ 100 ≤ (k).toInt ∧ (k).toInt ≤ 9999 ∧ 50 ≤ (n).toInt ∧ (n).toInt ≤ (k).toInt ∧ 0 ≤ (q).toInt ∧ (q).toInt ≤ 3 ∧ 0 ≤ (z).toInt ∧ (z).toInt ≤ 7 ∧ (iv 10 1).toInt < 60 ∧ ((cn0 (fun s => (fa 10 0) (9 * s + 0)) (fun s => (fa 10 0) (9 * s + 1)) a b ((iv 10 1).toInt).toNat : Nat) : Int) < 12 ∧ ((-100002) : Int32).toInt = (iv 10 1).toInt ∧ ((iv 10 1) : Int32).toInt = (iv 10 1).toInt + 1)) from by omega), (show ∀ j : Nat, (j < (9 * ((iv 10 1).toInt).toNat + 0) ∨ (9 * ((iv 10 1).toInt).toNat + 9) ≤ j) → (fa 10 0) j = (fa 10 0) j from fun j hj => rfl), (show ((((-100002) : Int32).toInt < 0 ∧ ∀ j : Nat, (fa 10 0) j = (fa 10 0) j) ∨ ((fa 10 0) (9 * ((iv 10 1).toInt).toNat + 0) = a ∧ (fa 10 0) (9 * ((iv 10 1).toInt).toNat + 1) = b ∧ (fa 10 0) (9 * ((iv 10 1).toInt).toNat + 2) = d ∧ (fa 10 0) (9 * ((iv 10 1).toInt).toNat + 3) = k ∧ (fa 10 0) (9 * ((iv 10 1).toInt).toNat + 4) = n ∧ (fa 10 0) (9 * ((iv 10 1).toInt).toNat + 5) = q ∧ (fa 10 0) (9 * ((iv 10 1).toInt).toNat + 6) = z ∧ (fa 10 0) (9 * ((iv 10 1).toInt).toNat + 7) = (iv 11 10) ∧ (fa 10 0) (9 * ((iv 10 1).toInt).toNat + 8) = (-1))) from Or.inl ⟨by omega, fun j => rfl⟩), ⟨by decide, by decide⟩, rfl⟩, by rw [ht9]; exact hP9, hD9⟩, hS.F ht9⟩) hS.2.2 dX11_skein_55
            · exact absurd rfl c29
      · skip
        refine lv_if_eq (tgt := 53) hx hb dX11_skein_20 (by decide) (fun c30 => ?_) (fun c30 => ?_)
        · skip
          refine lv_ldc hx hb hown (ht _ m_456) dX11_skein_53 ?_
          have : ((-100002) : Int32).toInt = (-100002) := (by decide)
          have i_10_1 : 0 ≤ (iv 10 1).toInt ∧ (iv 10 1).toInt ≤ 60 := hI.1 10 1
          have hP9 : va_P (dC, dI) classes (WX h g ca (u2 iv 10 1 (iv 10 1)) lv (u2 fa 10 0 (fa 10 0)) la) s.heap := hP
          have hD9 : va_D A (WX h g ca (u2 iv 10 1 (iv 10 1)) lv (u2 fa 10 0 (fa 10 0)) la) := hD
          exact W.iret (v := (-100002)) hx hb hr (fun t ht9 hW => ⟨⟨(-100002), ((u2 iv 10 1 (iv 10 1)), lv, (u2 fa 10 0 (fa 10 0)), la), rfl, ⟨(fa 10 0), (iv 10 1), (hI.2 10 0), (hI.1 10 1), (show ((((-100002) : Int32).toInt = -100001 ∧ ¬ (0 ≤ (a).toInt ∧ (a).toInt < (iv 0 7).toInt) ∧ ((iv 10 1) : Int32).toInt = (iv 10 1).toInt) ∨ (((-100002) : Int32).toInt = -100002 ∧ 0 ≤ (a).toInt ∧ (a).toInt < (iv 0 7).toInt ∧ ¬ (0 ≤ (b).toInt ∧ (b).toInt ≤ 2 ∧ 0 ≤ (d).toInt ∧ (d).toInt ≤ 3 ∧ 100 ≤ (k).toInt ∧ (k).toInt ≤ 9999 ∧ 50 ≤ (n).toInt ∧ (n).toInt ≤ (k).toInt ∧ 0 ≤ (q).toInt ∧ (q).toInt ≤ 3 ∧ 0 ≤ (z).toInt ∧ (z).toInt ≤ 7) ∧ ((iv 10 1) : Int32).toInt = (iv 10 1).toInt) ∨ (((-100002) : Int32).toInt = -100004 ∧ 0 ≤ (a).toInt ∧ (a).toInt < (iv 0 7).toInt ∧ 0 ≤ (b).toInt ∧ (b).toInt ≤ 2 ∧ 0 ≤ (d).toInt ∧ (d).toInt ≤ 3 ∧ 100 ≤ (k).toInt ∧ (k).toInt ≤ 9999 ∧ 50 ≤ (n).toInt ∧ (n).toInt ≤ (k).toInt ∧ 0 ≤ (q).toInt ∧ (q).toInt ≤ 3 ∧ 0 ≤ (z).toInt ∧ (z).toInt ≤ 7 ∧ (60 ≤ (iv 10 1).toInt ∨ 12 ≤ ((cn0 (fun s => (fa 10 0) (9 * s + 0)) (fun s => (fa 10 0) (9 * s + 1)) a b ((iv 10 1).toInt).toNat : Nat) : Int)) ∧ ((iv 10 1) : Int32).toInt = (iv 10 1).toInt) ∨ (0 ≤ (a).toInt ∧ (a).toInt < (iv 0 7).toInt ∧ 0 ≤ (b).toInt ∧ (b).toInt ≤ 2 ∧ 0 ≤ (d).toInt ∧ (d).toInt ≤ 3 ∧ 100 ≤ (k).toInt ∧ (k).toInt ≤ 9999 ∧ 50 ≤ (n).toInt ∧ (n).toInt ≤ (k).toInt ∧ 0 ≤ (q).toInt ∧ (q).toInt ≤ 3 ∧ 0 ≤ (z).toInt ∧ (z).toInt ≤ 7 ∧ (iv 10 1).toInt < 60 ∧ ((cn0 (fun s => (fa 10 0) (9 * s + 0)) (fun s => (fa 10 0) (9 * s + 1)) a b ((iv 10 1).toInt).toNat : Nat) : Int) < 12 ∧ ((-100002) : Int32).toInt = (iv 10 1).toInt ∧ ((iv 10 1) : Int32).toInt = (iv 10 1).toInt + 1)) from by omega), (show ∀ j : Nat, (j < (9 * ((iv 10 1).toInt).toNat + 0) ∨ (9 * ((iv 10 1).toInt).toNat + 9) ≤ j) → (fa 10 0) j = (fa 10 0) j from fun j hj => rfl), (show ((((-100002) : Int32).toInt < 0 ∧ ∀ j : Nat, (fa 10 0) j = (fa 10 0) j) ∨ ((fa 10 0) (9 * ((iv 10 1).toInt).toNat + 0) = a ∧ (fa 10 0) (9 * ((iv 10 1).toInt).toNat + 1) = b ∧ (fa 10 0) (9 * ((iv 10 1).toInt).toNat + 2) = d ∧ (fa 10 0) (9 * ((iv 10 1).toInt).toNat + 3) = k ∧ (fa 10 0) (9 * ((iv 10 1).toInt).toNat + 4) = n ∧ (fa 10 0) (9 * ((iv 10 1).toInt).toNat + 5) = q ∧ (fa 10 0) (9 * ((iv 10 1).toInt).toNat + 6) = z ∧ (fa 10 0) (9 * ((iv 10 1).toInt).toNat + 7) = (iv 11 10) ∧ (fa 10 0) (9 * ((iv 10 1).toInt).toNat + 8) = (-1))) from Or.inl ⟨by omega, fun j => rfl⟩), ⟨by decide, by decide⟩, rfl⟩, by rw [ht9]; exact hP9, hD9⟩, hS.F ht9⟩) hS.2.2 dX11_skein_55
        · exact absurd rfl c30
    · exact absurd c2 (by decide)
  · skip
    have i_0_7 : 0 ≤ (iv 0 7).toInt ∧ (iv 0 7).toInt ≤ 10 := hI.1 0 7
    have fr1 : ¬ (0 ≤ (a : Int32).toInt ∧ (a : Int32).toInt < ((iv 0 7) : Int32).toInt) := fr1
    refine lv_if_ne (tgt := 14) hx hb dX11_skein_8 (by decide) (fun c31 => ?_) (fun c31 => ?_)
    · exact absurd rfl c31
    · skip
      refine lv_ldc hx hb hown (ht _ m_476) dX11_skein_11 ?_
      have : ((-100001) : Int32).toInt = (-100001) := (by decide)
      have i_10_1 : 0 ≤ (iv 10 1).toInt ∧ (iv 10 1).toInt ≤ 60 := hI.1 10 1
      have hP9 : va_P (dC, dI) classes (WX h g ca (u2 iv 10 1 (iv 10 1)) lv (u2 fa 10 0 (fa 10 0)) la) s.heap := hP
      have hD9 : va_D A (WX h g ca (u2 iv 10 1 (iv 10 1)) lv (u2 fa 10 0 (fa 10 0)) la) := hD
      exact W.iret (v := (-100001)) hx hb hr (fun t ht9 hW => ⟨⟨(-100001), ((u2 iv 10 1 (iv 10 1)), lv, (u2 fa 10 0 (fa 10 0)), la), rfl, ⟨(fa 10 0), (iv 10 1), (hI.2 10 0), (hI.1 10 1), (show ((((-100001) : Int32).toInt = -100001 ∧ ¬ (0 ≤ (a).toInt ∧ (a).toInt < (iv 0 7).toInt) ∧ ((iv 10 1) : Int32).toInt = (iv 10 1).toInt) ∨ (((-100001) : Int32).toInt = -100002 ∧ 0 ≤ (a).toInt ∧ (a).toInt < (iv 0 7).toInt ∧ ¬ (0 ≤ (b).toInt ∧ (b).toInt ≤ 2 ∧ 0 ≤ (d).toInt ∧ (d).toInt ≤ 3 ∧ 100 ≤ (k).toInt ∧ (k).toInt ≤ 9999 ∧ 50 ≤ (n).toInt ∧ (n).toInt ≤ (k).toInt ∧ 0 ≤ (q).toInt ∧ (q).toInt ≤ 3 ∧ 0 ≤ (z).toInt ∧ (z).toInt ≤ 7) ∧ ((iv 10 1) : Int32).toInt = (iv 10 1).toInt) ∨ (((-100001) : Int32).toInt = -100004 ∧ 0 ≤ (a).toInt ∧ (a).toInt < (iv 0 7).toInt ∧ 0 ≤ (b).toInt ∧ (b).toInt ≤ 2 ∧ 0 ≤ (d).toInt ∧ (d).toInt ≤ 3 ∧ 100 ≤ (k).toInt ∧ (k).toInt ≤ 9999 ∧ 50 ≤ (n).toInt ∧ (n).toInt ≤ (k).toInt ∧ 0 ≤ (q).toInt ∧ (q).toInt ≤ 3 ∧ 0 ≤ (z).toInt ∧ (z).toInt ≤ 7 ∧ (60 ≤ (iv 10 1).toInt ∨ 12 ≤ ((cn0 (fun s => (fa 10 0) (9 * s + 0)) (fun s => (fa 10 0) (9 * s + 1)) a b ((iv 10 1).toInt).toNat : Nat) : Int)) ∧ ((iv 10 1) : Int32).toInt = (iv 10 1).toInt) ∨ (0 ≤ (a).toInt ∧ (a).toInt < (iv 0 7).toInt ∧ 0 ≤ (b).toInt ∧ (b).toInt ≤ 2 ∧ 0 ≤ (d).toInt ∧ (d).toInt ≤ 3 ∧ 100 ≤ (k).toInt ∧ (k).toInt ≤ 9999 ∧ 50 ≤ (n).toInt ∧ (n).toInt ≤ (k).toInt ∧ 0 ≤ (q).toInt ∧ (q).toInt ≤ 3 ∧ 0 ≤ (z).toInt ∧ (z).toInt ≤ 7 ∧ (iv 10 1).toInt < 60 ∧ ((cn0 (fun s => (fa 10 0) (9 * s + 0)) (fun s => (fa 10 0) (9 * s + 1)) a b ((iv 10 1).toInt).toNat : Nat) : Int) < 12 ∧ ((-100001) : Int32).toInt = (iv 10 1).toInt ∧ ((iv 10 1) : Int32).toInt = (iv 10 1).toInt + 1)) from by omega), (show ∀ j : Nat, (j < (9 * ((iv 10 1).toInt).toNat + 0) ∨ (9 * ((iv 10 1).toInt).toNat + 9) ≤ j) → (fa 10 0) j = (fa 10 0) j from fun j hj => rfl), (show ((((-100001) : Int32).toInt < 0 ∧ ∀ j : Nat, (fa 10 0) j = (fa 10 0) j) ∨ ((fa 10 0) (9 * ((iv 10 1).toInt).toNat + 0) = a ∧ (fa 10 0) (9 * ((iv 10 1).toInt).toNat + 1) = b ∧ (fa 10 0) (9 * ((iv 10 1).toInt).toNat + 2) = d ∧ (fa 10 0) (9 * ((iv 10 1).toInt).toNat + 3) = k ∧ (fa 10 0) (9 * ((iv 10 1).toInt).toNat + 4) = n ∧ (fa 10 0) (9 * ((iv 10 1).toInt).toNat + 5) = q ∧ (fa 10 0) (9 * ((iv 10 1).toInt).toNat + 6) = z ∧ (fa 10 0) (9 * ((iv 10 1).toInt).toNat + 7) = (iv 11 10) ∧ (fa 10 0) (9 * ((iv 10 1).toInt).toNat + 8) = (-1))) from Or.inl ⟨by omega, fun j => rfl⟩), ⟨by decide, by decide⟩, rfl⟩, by rw [ht9]; exact hP9, hD9⟩, hS.F ht9⟩) hS.2.2 dX11_skein_13
set_option maxHeartbeats 4000000 in
set_option maxRecDepth 100000 in
/-- X11_told -/
theorem c_X11_told_x (l : Launch) (dC : Nat → ClassId) (dI : Nat → Nat → Nat) (h : Nat) (g : Nat → Nat → Nat) (ca : Nat → Nat → ClassId) (iv : Nat → Nat → Int32) (lv : Nat → Nat → Int64) (fa : Nat → Nat → Nat → Int32) (la : Nat → Nat → Nat → Int64) (hI : IX iv fa) (a : Int32) (b : Int32) : Met l yX11_told (wc yX11_told cX11_told 3 (some .int)) ({ frames := 1, cells := 0, slots := 0, locals := 22 } : Room) (pR (dC, dI) classes (WX h g ca iv lv fa la) (TX ca) [.ref h, .int a, .int b]) (vp_Si (fun r => (True) ∧ (((r.toInt = -100001 ∧ ¬ (0 ≤ a.toInt ∧ a.toInt < (iv 10 1).toInt)) ∨ (r.toInt = -100002 ∧ 0 ≤ a.toInt ∧ a.toInt < (iv 10 1).toInt ∧ ¬ (0 ≤ b.toInt ∧ b.toInt ≤ 8)) ∨ (0 ≤ a.toInt ∧ a.toInt < (iv 10 1).toInt ∧ 0 ≤ b.toInt ∧ b.toInt ≤ 8 ∧ r.toInt = ((fa 10 0) (9 * (a.toInt).toNat + (b.toInt).toNat)).toInt))))) 0 0 (fun _ => False) := by
  refine Met.ofW (cc := cX11_told) (maxL := 3) (ret := (some .int)) (by decide) rfl ?_
  intro p e s m args below meth c s₁ B hml hv
  obtain ⟨rfl, hP, hK⟩ := hv
  have hx := B.exec
  have hb := B.bytes
  have hr := B.returns
  have ht := tb_tl (atoms_spec (ws := wc yX11_told cX11_told 3 (some .int)) B.pre)
  have hown : s.vm.findClass RX11 = some m.cls := findClass_of_methodNamed B.named
  have hlocks := B.notSynchronized
  have hl := lv_entry [.ref h, .int a, .int b] (n := 3) (Nat.le_of_ble_eq_true rfl)
  rw [lg_entry_eq]
  generalize (lg_sl [.ref h, .int a, .int b] ++ List.replicate (3 - (lg_sl [.ref h, .int a, .int b]).length) Slot.unset).toArray = ls at hl ⊢
  have hl : lv_has ls 3 [(0, .ref h), (1, .int a), (2, .int b)] := hl
  refine lv_aload_n hx hb dX11_told_0 rfl (lv_at hl 0 rfl) ?_
  refine gX_11_0 hx hb ht hown hK hP m_415 dX11_told_1 ?_
  refine lv_iload_n hx hb dX11_told_4 rfl (lv_at hl 1 rfl) ?_
  refine vp_callSi (W.runV (As := [.int a]) (rest := []) ⟨hx, hb, hml, hown, ht⟩ (c_X10_has l dC dI h g ca iv lv fa la hI a) (kV 1 ht m_509 m_510 m_511 m_78 m_512 rfl rfl hd_X10_has_v ⟨Nat.le_of_ble_eq_true rfl, Nat.le_of_ble_eq_true rfl⟩) (vR hP hK (rX_10 hK hP)) rfl rfl hl.1 rfl (lv_room (Nat.le_of_ble_eq_true rfl)) dX11_told_5 ⟨Nat.le_of_ble_eq_true rfl, Nat.le_of_ble_eq_true rfl⟩) (fun r1 hr1 => ?_)
  rcases hr1 with ⟨rfl, fr1⟩ | ⟨rfl, fr1⟩
  · skip
    have i_10_1 : 0 ≤ (iv 10 1).toInt ∧ (iv 10 1).toInt ≤ 60 := hI.1 10 1
    have fr1 : (0 ≤ (a : Int32).toInt ∧ (a : Int32).toInt < ((iv 10 1) : Int32).toInt) := fr1
    refine lv_if_ne (tgt := 14) hx hb dX11_told_8 (by decide) (fun c2 => ?_) (fun c2 => ?_)
    · skip
      refine lv_iload_n hx hb dX11_told_14 rfl (lv_at hl 2 rfl) ?_
      refine lv_iconst (v := 0) hx hb dX11_told_15 (by decide) ?_
      refine lv_bipush (v := 8) hx hb dX11_told_16 (by decide) ?_
      refine vp_callSi (W.runS (As := [.int b, .int 0, .int 8]) (rest := []) ⟨hx, hb, hml, hown, ht⟩ (c_X11_within l dC dI b 0 8 (b.toInt) (0) (8) (rfl : (b).toInt = _) (by decide : (0 : Int32).toInt = 0) (by decide : (8 : Int32).toInt = 8)) (kS 3 ht m_453 m_454 m_77 m_455 rfl rfl hd_X11_within_v ⟨Nat.le_of_ble_eq_true rfl, Nat.le_of_ble_eq_true rfl⟩) (sR noP (hK.sub (tys' := []) [] rfl)) rfl rfl hl.1 rfl (lv_room (Nat.le_of_ble_eq_true rfl)) dX11_told_18 ⟨Nat.le_of_ble_eq_true rfl, Nat.le_of_ble_eq_true rfl⟩) (fun r3 hr3 => ?_)
      rcases hr3 with ⟨rfl, fr3⟩ | ⟨rfl, fr3⟩
      · skip
        refine lv_if_eq (tgt := 36) hx hb dX11_told_21 (by decide) (fun c4 => ?_) (fun c4 => ?_)
        · exact absurd c4 (by decide)
        · skip
          refine lv_aload_n hx hb dX11_told_24 rfl (lv_at hl 0 rfl) ?_
          refine gX_11_0 hx hb ht hown hK hP m_415 dX11_told_25 ?_
          refine lv_iload_n hx hb dX11_told_28 rfl (lv_at hl 1 rfl) ?_
          refine lv_iload_n hx hb dX11_told_29 rfl (lv_at hl 2 rfl) ?_
          refine vp_callSi (W.runV (As := [.int a, .int b]) (rest := []) ⟨hx, hb, hml, hown, ht⟩ (c_X10_get_x l dC dI h g ca iv lv fa la hI a b ⟨by omega, by omega⟩ ⟨by omega, by omega⟩) (kV 2 ht m_513 m_486 m_487 m_78 m_488 rfl rfl hd_X10_get_v ⟨Nat.le_of_ble_eq_true rfl, Nat.le_of_ble_eq_true rfl⟩) (vR hP hK (rX_10 hK hP)) rfl rfl hl.1 rfl (lv_room (Nat.le_of_ble_eq_true rfl)) dX11_told_30 ⟨Nat.le_of_ble_eq_true rfl, Nat.le_of_ble_eq_true rfl⟩) (fun r5 hr5 => ?_)
          obtain ⟨hr5, xr5_0⟩ := hr5
          have xr5_0 : (r5 : Int32).toInt = ((fa 10 0) (9 * ((a : Int32).toInt).toNat + ((b : Int32).toInt).toNat)).toInt := xr5_0
          refine lv_goto (tgt := 38) hx hb dX11_told_33 (by decide) ?_
          exact W.iret (v := r5) hx hb hr (fun t ht9 hW => ⟨r5, rfl, ⟨trivial, (show (((r5 : Int32).toInt = -100001 ∧ ¬ (0 ≤ (a).toInt ∧ (a).toInt < (iv 10 1).toInt)) ∨ ((r5 : Int32).toInt = -100002 ∧ 0 ≤ (a).toInt ∧ (a).toInt < (iv 10 1).toInt ∧ ¬ (0 ≤ (b).toInt ∧ (b).toInt ≤ 8)) ∨ (0 ≤ (a).toInt ∧ (a).toInt < (iv 10 1).toInt ∧ 0 ≤ (b).toInt ∧ (b).toInt ≤ 8 ∧ (r5 : Int32).toInt = ((fa 10 0) (9 * ((a).toInt).toNat + ((b).toInt).toNat)).toInt)) from by omega)⟩, ht9⟩) (fun q hq => by cases hq) dX11_told_38
      · skip
        refine lv_if_eq (tgt := 36) hx hb dX11_told_21 (by decide) (fun c6 => ?_) (fun c6 => ?_)
        · skip
          refine lv_ldc hx hb hown (ht _ m_456) dX11_told_36 ?_
          have : ((-100002) : Int32).toInt = (-100002) := (by decide)
          exact W.iret (v := (-100002)) hx hb hr (fun t ht9 hW => ⟨(-100002), rfl, ⟨trivial, (show ((((-100002) : Int32).toInt = -100001 ∧ ¬ (0 ≤ (a).toInt ∧ (a).toInt < (iv 10 1).toInt)) ∨ (((-100002) : Int32).toInt = -100002 ∧ 0 ≤ (a).toInt ∧ (a).toInt < (iv 10 1).toInt ∧ ¬ (0 ≤ (b).toInt ∧ (b).toInt ≤ 8)) ∨ (0 ≤ (a).toInt ∧ (a).toInt < (iv 10 1).toInt ∧ 0 ≤ (b).toInt ∧ (b).toInt ≤ 8 ∧ ((-100002) : Int32).toInt = ((fa 10 0) (9 * ((a).toInt).toNat + ((b).toInt).toNat)).toInt)) from by omega)⟩, ht9⟩) (fun q hq => by cases hq) dX11_told_38
        · exact absurd rfl c6
    · exact absurd c2 (by decide)
  · skip
    have i_10_1 : 0 ≤ (iv 10 1).toInt ∧ (iv 10 1).toInt ≤ 60 := hI.1 10 1
    have fr1 : ¬ (0 ≤ (a : Int32).toInt ∧ (a : Int32).toInt < ((iv 10 1) : Int32).toInt) := fr1
    refine lv_if_ne (tgt := 14) hx hb dX11_told_8 (by decide) (fun c7 => ?_) (fun c7 => ?_)
    · exact absurd rfl c7
    · skip
      refine lv_ldc hx hb hown (ht _ m_476) dX11_told_11 ?_
      have : ((-100001) : Int32).toInt = (-100001) := (by decide)
      exact W.iret (v := (-100001)) hx hb hr (fun t ht9 hW => ⟨(-100001), rfl, ⟨trivial, (show ((((-100001) : Int32).toInt = -100001 ∧ ¬ (0 ≤ (a).toInt ∧ (a).toInt < (iv 10 1).toInt)) ∨ (((-100001) : Int32).toInt = -100002 ∧ 0 ≤ (a).toInt ∧ (a).toInt < (iv 10 1).toInt ∧ ¬ (0 ≤ (b).toInt ∧ (b).toInt ≤ 8)) ∨ (0 ≤ (a).toInt ∧ (a).toInt < (iv 10 1).toInt ∧ 0 ≤ (b).toInt ∧ (b).toInt ≤ 8 ∧ ((-100001) : Int32).toInt = ((fa 10 0) (9 * ((a).toInt).toNat + ((b).toInt).toNat)).toInt)) from by omega)⟩, ht9⟩) (fun q hq => by cases hq) dX11_told_13
set_option maxHeartbeats 4000000 in
set_option maxRecDepth 100000 in
/-- X11_lose -/
theorem c_X11_lose_x (l : Launch) (dC : Nat → ClassId) (dI : Nat → Nat → Nat) (sz : Nat) (h : Nat) (g : Nat → Nat → Nat) (ca : Nat → Nat → ClassId) (iv : Nat → Nat → Int32) (lv : Nat → Nat → Int64) (fa : Nat → Nat → Nat → Int32) (la : Nat → Nat → Nat → Int64) (hI : IX iv fa) (a : Int32) : Met l yX11_lose (wc yX11_lose cX11_lose 2 (some .int)) ({ frames := 2, cells := 0, slots := 0, locals := 45 } : Room) (pW (dC, dI) classes (WX h g ca iv lv fa la) (TX ca) sz [.ref h, .int a]) (va_Qi (fun r (u : SS) => ∃ (na_10_0 : Nat → Int32) (ni_10_2 : Int32), (∀ j, inb (bA 10 0 j) (na_10_0 j)) ∧ (((r.toInt = -100001 ∧ ¬ (0 ≤ a.toInt ∧ a.toInt < (iv 10 1).toInt)) ∨ (r.toInt = -100003 ∧ 0 ≤ a.toInt ∧ a.toInt < (iv 10 1).toInt ∧ ((fa 10 0) (9 * (a.toInt).toNat + 8)).toInt ≠ -1) ∨ (r.toInt = 1 ∧ 0 ≤ a.toInt ∧ a.toInt < (iv 10 1).toInt ∧ ((fa 10 0) (9 * (a.toInt).toNat + 8)).toInt = -1))) ∧ (∀ j : Nat, j ≠ (9 * (a.toInt).toNat + 8) → na_10_0 j = (fa 10 0) j) ∧ (((r.toInt ≠ 1 ∧ (na_10_0 (9 * (a.toInt).toNat + 8)) = ((fa 10 0) (9 * (a.toInt).toNat + 8))) ∨ (r.toInt = 1 ∧ (na_10_0 (9 * (a.toInt).toNat + 8)) = (iv 11 10)))) ∧ ((-100003) ≤ r.toInt ∧ r.toInt ≤ 1) ∧ u = ((u2 iv 10 2 ni_10_2), lv, (u2 fa 10 0 na_10_0), la)) (bX (dC, dI) h g ca (va_A (WX h g ca iv lv fa la) sz)) (va_A (WX h g ca iv lv fa la) sz)) 0 0 (va_A (WX h g ca iv lv fa la) sz) := by
  refine Met.ofW (cc := cX11_lose) (maxL := 2) (ret := (some .int)) (by decide) rfl ?_
  intro p e s m args below meth c s₁ B hml hv
  obtain ⟨rfl, hsz, hP, hK, hD0⟩ := hv
  have hx := B.exec
  have hb := B.bytes
  have hr := B.returns
  have ht := tb_tl (atoms_spec (ws := wc yX11_lose cX11_lose 2 (some .int)) B.pre)
  have hown : s.vm.findClass RX11 = some m.cls := findClass_of_methodNamed B.named
  have hlocks := B.notSynchronized
  subst hsz
  have hD := hD0.self (sz := s.heap.size)
  generalize hAe : va_A (WX h g ca iv lv fa la) s.heap.size = A at hD ⊢
  have hA : ∀ q : Nat, s.heap.size ≤ q → A q := fun q h => by rw [← hAe]; exact Or.inr h
  have hS : va_S A s.heap s.heap [] := va_S.rf
  have hl := lv_entry [.ref h, .int a] (n := 2) (Nat.le_of_ble_eq_true rfl)
  rw [lg_entry_eq]
  generalize (lg_sl [.ref h, .int a] ++ List.replicate (2 - (lg_sl [.ref h, .int a]).length) Slot.unset).toArray = ls at hl ⊢
  have hl : lv_has ls 2 [(0, .ref h), (1, .int a)] := hl
  refine lv_aload_n hx hb dX11_lose_0 rfl (lv_at hl 0 rfl) ?_
  refine gX_11_0 hx hb ht hown hK hP m_415 dX11_lose_1 ?_
  refine lv_iload_n hx hb dX11_lose_4 rfl (lv_at hl 1 rfl) ?_
  refine vp_callSi (W.runV (As := [.int a]) (rest := []) ⟨hx, hb, hml, hown, ht⟩ (c_X10_has l dC dI h g ca iv lv fa la hI a) (kV 1 ht m_509 m_510 m_511 m_78 m_512 rfl rfl hd_X10_has_v ⟨Nat.le_of_ble_eq_true rfl, Nat.le_of_ble_eq_true rfl⟩) (vR hP hK (rX_10 hK hP)) rfl rfl hl.1 rfl (lv_room (Nat.le_of_ble_eq_true rfl)) dX11_lose_5 ⟨Nat.le_of_ble_eq_true rfl, Nat.le_of_ble_eq_true rfl⟩) (fun r1 hr1 => ?_)
  rcases hr1 with ⟨rfl, fr1⟩ | ⟨rfl, fr1⟩
  · skip
    have i_10_1 : 0 ≤ (iv 10 1).toInt ∧ (iv 10 1).toInt ≤ 60 := hI.1 10 1
    have fr1 : (0 ≤ (a : Int32).toInt ∧ (a : Int32).toInt < ((iv 10 1) : Int32).toInt) := fr1
    refine lv_if_ne (tgt := 14) hx hb dX11_lose_8 (by decide) (fun c2 => ?_) (fun c2 => ?_)
    · skip
      refine lv_aload_n hx hb dX11_lose_14 rfl (lv_at hl 0 rfl) ?_
      refine gX_11_0 hx hb ht hown hK hP m_415 dX11_lose_15 ?_
      refine lv_iload_n hx hb dX11_lose_18 rfl (lv_at hl 1 rfl) ?_
      refine lv_bipush (v := 8) hx hb dX11_lose_19 (by decide) ?_
      refine vp_callSi (W.runV (As := [.int a, .int 8]) (rest := []) ⟨hx, hb, hml, hown, ht⟩ (c_X10_get_x8 l dC dI h g ca iv lv fa la hI a ⟨by omega, by omega⟩) (kV 2 ht m_513 m_486 m_487 m_78 m_488 rfl rfl hd_X10_get_v ⟨Nat.le_of_ble_eq_true rfl, Nat.le_of_ble_eq_true rfl⟩) (vR hP hK (rX_10 hK hP)) rfl rfl hl.1 rfl (lv_room (Nat.le_of_ble_eq_true rfl)) dX11_lose_21 ⟨Nat.le_of_ble_eq_true rfl, Nat.le_of_ble_eq_true rfl⟩) (fun r3 hr3 => ?_)
      obtain ⟨hr3, xr3_0⟩ := hr3
      have xr3_0 : (r3 : Int32).toInt = ((fa 10 0) (9 * ((a : Int32).toInt).toNat + 8)).toInt := xr3_0
      refine lv_iconst (v := (-1)) hx hb dX11_lose_24 (by decide) ?_
      refine lv_icmp_eq (tgt := 31) hx hb dX11_lose_25 (by decide) (fun c4 => ?_) (fun c4 => ?_)
      · have fc4 := z_eq (rfl : (r3).toInt = _) (by decide : ((-1) : Int32).toInt = (-1)) c4
        refine lv_aload_n hx hb dX11_lose_31 rfl (lv_at hl 0 rfl) ?_
        refine gX_11_0 hx hb ht hown hK hP m_415 dX11_lose_32 ?_
        refine lv_iload_n hx hb dX11_lose_35 rfl (lv_at hl 1 rfl) ?_
        refine lv_aload_n hx hb dX11_lose_36 rfl (lv_at hl 0 rfl) ?_
        have i_11_10 : 0 ≤ (iv 11 10).toInt ∧ (iv 11 10).toInt ≤ 3000 := hI.1 11 10
        refine gX_11_10 hx hb ht hown hK hP m_425 (v := (iv 11 10)) rfl dX11_lose_37 ?_
        have hFc := free_all hD hS hA
        refine va_callv (va_runV (As := [.int a, .int (iv 11 10)]) (rest := []) ⟨hx, hb, hml, hown, ht⟩ (c_X10_dropOut_x l dC dI s.heap.size h g ca iv lv fa la hI a (iv 11 10) ⟨by omega, by omega⟩) (kV 2 ht m_514 m_515 m_516 m_78 m_517 rfl rfl hd_X10_dropOut_v ⟨Nat.le_of_ble_eq_true rfl, Nat.le_of_ble_eq_true rfl⟩) (vW hP hK hD (rX_10 hK hP)) rfl rfl hl.1 rfl (lv_room (Nat.le_of_ble_eq_true rfl)) dX11_lose_40 ⟨Nat.le_of_ble_eq_true rfl, Nat.le_of_ble_eq_true rfl⟩) hS (fun q _ h => hFc q h) hFc (fun u t H1 locs ht9 hvm hr5 hB hz1 hk1 hS => ?_)
        obtain ⟨n6, n7, hn6, xr5_0, xr5_1, rfl⟩ := hr5
        obtain ⟨hP, hD⟩ := hB
        rw [ht9] at hP
        generalize H1 = H at hP hS ⊢
        have hP : va_P (dC, dI) classes (WX h g ca (u2 iv 10 2 n7) lv (u2 fa 10 0 n6) la) H := hP
        have hD : va_D A (WX h g ca (u2 iv 10 2 n7) lv (u2 fa 10 0 n6) la) := (show va_D _ (WX h g ca (u2 iv 10 2 n7) lv (u2 fa 10 0 n6) la) from hD).weaken (fun _ _ _ h => hFc _ h)
        have xr5_0 : ∀ j : Nat, (j ≠ (9 * ((a : Int32).toInt).toNat + 8)) → n6 j = (fa 10 0) j := xr5_0
        have xr5_1 : n6 (9 * ((a : Int32).toInt).toNat + 8) = ((iv 11 10) : Int32) := xr5_1
        refine lv_iconst (v := 1) hx hb dX11_lose_43 (by decide) ?_
        have : (1 : Int32).toInt = 1 := (by decide)
        have hP9 : va_P (dC, dI) classes (WX h g ca (u2 iv 10 2 n7) lv (u2 fa 10 0 n6) la) H := hP
        have hD9 : va_D A (WX h g ca (u2 iv 10 2 n7) lv (u2 fa 10 0 n6) la) := hD
        exact W.iret (v := 1) hx hb hr (fun t ht9 hW => ⟨⟨1, ((u2 iv 10 2 n7), lv, (u2 fa 10 0 n6), la), rfl, ⟨n6, n7, hn6, (show (((1 : Int32).toInt = -100001 ∧ ¬ (0 ≤ (a).toInt ∧ (a).toInt < (iv 10 1).toInt)) ∨ ((1 : Int32).toInt = -100003 ∧ 0 ≤ (a).toInt ∧ (a).toInt < (iv 10 1).toInt ∧ ((fa 10 0) (9 * ((a).toInt).toNat + 8)).toInt ≠ -1) ∨ ((1 : Int32).toInt = 1 ∧ 0 ≤ (a).toInt ∧ (a).toInt < (iv 10 1).toInt ∧ ((fa 10 0) (9 * ((a).toInt).toNat + 8)).toInt = -1)) from by omega), (show ∀ j : Nat, j ≠ (9 * ((a).toInt).toNat + 8) → n6 j = (fa 10 0) j from (fun j hj => xr5_0 j hj)), (show (((1 : Int32).toInt ≠ 1 ∧ (n6 (9 * ((a).toInt).toNat + 8)) = ((fa 10 0) (9 * ((a).toInt).toNat + 8))) ∨ ((1 : Int32).toInt = 1 ∧ (n6 (9 * ((a).toInt).toNat + 8)) = (iv 11 10))) from Or.inr ⟨by omega, xr5_1⟩), ⟨by decide, by decide⟩, rfl⟩, by rw [ht9]; exact hP9, hD9⟩, hS.F ht9⟩) hS.2.2 dX11_lose_44
      · have fc4 := z_ne (rfl : (r3).toInt = _) (by decide : ((-1) : Int32).toInt = (-1)) c4
        refine lv_ldc hx hb hown (ht _ m_457) dX11_lose_28 ?_
        have : ((-100003) : Int32).toInt = (-100003) := (by decide)
        have hP9 : va_P (dC, dI) classes (WX h g ca (u2 iv 10 2 (iv 10 2)) lv (u2 fa 10 0 (fa 10 0)) la) s.heap := hP
        have hD9 : va_D A (WX h g ca (u2 iv 10 2 (iv 10 2)) lv (u2 fa 10 0 (fa 10 0)) la) := hD
        exact W.iret (v := (-100003)) hx hb hr (fun t ht9 hW => ⟨⟨(-100003), ((u2 iv 10 2 (iv 10 2)), lv, (u2 fa 10 0 (fa 10 0)), la), rfl, ⟨(fa 10 0), (iv 10 2), (hI.2 10 0), (show ((((-100003) : Int32).toInt = -100001 ∧ ¬ (0 ≤ (a).toInt ∧ (a).toInt < (iv 10 1).toInt)) ∨ (((-100003) : Int32).toInt = -100003 ∧ 0 ≤ (a).toInt ∧ (a).toInt < (iv 10 1).toInt ∧ ((fa 10 0) (9 * ((a).toInt).toNat + 8)).toInt ≠ -1) ∨ (((-100003) : Int32).toInt = 1 ∧ 0 ≤ (a).toInt ∧ (a).toInt < (iv 10 1).toInt ∧ ((fa 10 0) (9 * ((a).toInt).toNat + 8)).toInt = -1)) from by omega), (show ∀ j : Nat, j ≠ (9 * ((a).toInt).toNat + 8) → (fa 10 0) j = (fa 10 0) j from fun j hj => rfl), (show ((((-100003) : Int32).toInt ≠ 1 ∧ ((fa 10 0) (9 * ((a).toInt).toNat + 8)) = ((fa 10 0) (9 * ((a).toInt).toNat + 8))) ∨ (((-100003) : Int32).toInt = 1 ∧ ((fa 10 0) (9 * ((a).toInt).toNat + 8)) = (iv 11 10))) from Or.inl ⟨by omega, rfl⟩), ⟨by decide, by decide⟩, rfl⟩, by rw [ht9]; exact hP9, hD9⟩, hS.F ht9⟩) hS.2.2 dX11_lose_30
    · exact absurd c2 (by decide)
  · skip
    have i_10_1 : 0 ≤ (iv 10 1).toInt ∧ (iv 10 1).toInt ≤ 60 := hI.1 10 1
    have fr1 : ¬ (0 ≤ (a : Int32).toInt ∧ (a : Int32).toInt < ((iv 10 1) : Int32).toInt) := fr1
    refine lv_if_ne (tgt := 14) hx hb dX11_lose_8 (by decide) (fun c8 => ?_) (fun c8 => ?_)
    · exact absurd rfl c8
    · skip
      refine lv_ldc hx hb hown (ht _ m_476) dX11_lose_11 ?_
      have : ((-100001) : Int32).toInt = (-100001) := (by decide)
      have hP9 : va_P (dC, dI) classes (WX h g ca (u2 iv 10 2 (iv 10 2)) lv (u2 fa 10 0 (fa 10 0)) la) s.heap := hP
      have hD9 : va_D A (WX h g ca (u2 iv 10 2 (iv 10 2)) lv (u2 fa 10 0 (fa 10 0)) la) := hD
      exact W.iret (v := (-100001)) hx hb hr (fun t ht9 hW => ⟨⟨(-100001), ((u2 iv 10 2 (iv 10 2)), lv, (u2 fa 10 0 (fa 10 0)), la), rfl, ⟨(fa 10 0), (iv 10 2), (hI.2 10 0), (show ((((-100001) : Int32).toInt = -100001 ∧ ¬ (0 ≤ (a).toInt ∧ (a).toInt < (iv 10 1).toInt)) ∨ (((-100001) : Int32).toInt = -100003 ∧ 0 ≤ (a).toInt ∧ (a).toInt < (iv 10 1).toInt ∧ ((fa 10 0) (9 * ((a).toInt).toNat + 8)).toInt ≠ -1) ∨ (((-100001) : Int32).toInt = 1 ∧ 0 ≤ (a).toInt ∧ (a).toInt < (iv 10 1).toInt ∧ ((fa 10 0) (9 * ((a).toInt).toNat + 8)).toInt = -1)) from by omega), (show ∀ j : Nat, j ≠ (9 * ((a).toInt).toNat + 8) → (fa 10 0) j = (fa 10 0) j from fun j hj => rfl), (show ((((-100001) : Int32).toInt ≠ 1 ∧ ((fa 10 0) (9 * ((a).toInt).toNat + 8)) = ((fa 10 0) (9 * ((a).toInt).toNat + 8))) ∨ (((-100001) : Int32).toInt = 1 ∧ ((fa 10 0) (9 * ((a).toInt).toNat + 8)) = (iv 11 10))) from Or.inl ⟨by omega, rfl⟩), ⟨by decide, by decide⟩, rfl⟩, by rw [ht9]; exact hP9, hD9⟩, hS.F ht9⟩) hS.2.2 dX11_lose_13
