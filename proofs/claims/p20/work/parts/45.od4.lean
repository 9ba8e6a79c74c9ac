/-! ===== od4 ===== -/
set_option maxHeartbeats 4000000 in
set_option maxRecDepth 100000 in
/-- X11_odd -/
theorem c_X11_odd_w (l : Launch) (dC : Nat → ClassId) (dI : Nat → Nat → Nat) (sz : Nat) (ak av : Nat → Nat) (h : Nat) (g : Nat → Nat → Nat) (ca : Nat → Nat → ClassId) (iv : Nat → Nat → Int32) (lv : Nat → Nat → Int64) (fa : Nat → Nat → Nat → Int32) (la : Nat → Nat → Nat → Int64) (hI : IX iv fa) (a : Int32) (b : Int32) (hJB : ∀ j : Nat, (j : Int) < (iv 1 7).toInt → 0 ≤ (fa 1 0 j).toInt) (hJL : ∀ b l : Int32, cn0 (fun s => fa 10 0 (9 * s + 0)) (fun s => fa 10 0 (9 * s + 1)) b l (iv 10 1).toInt.toNat ≤ 12) : Met l yX11_odd (wc yX11_odd cX11_odd 3 (some .int)) ({ frames := 4, cells := 0, slots := 0, locals := 93 } : Room) (pWZ ak av (dC, dI) classes (WX h g ca iv lv fa la) (TX ca) sz [.ref h, .int a, .int b]) (va_Qi (fun r (u : SS) => ∃ (na_1_6 : Nat → Int32) (na_2_2 : Nat → Int32) (na_20_2 : Nat → Int32) (nb_20_0 : Nat → Int64) (nb_20_1 : Nat → Int64) (ni_2_3 : Int32) (ni_2_4 : Int32) (ni_2_5 : Int32), (∀ j, inb (bA 1 6 j) (na_1_6 j)) ∧ (∀ j, inb (bA 2 2 j) (na_2_2 j)) ∧ (((r.toInt = -100001 ∧ ¬ (0 ≤ a.toInt ∧ a.toInt < (iv 0 7).toInt)) ∨ (r.toInt = -100002 ∧ (0 ≤ a.toInt ∧ a.toInt < (iv 0 7).toInt) ∧ ¬ (0 ≤ b.toInt ∧ b.toInt ≤ 2)) ∨ ((0 ≤ a.toInt ∧ a.toInt < (iv 0 7).toInt) ∧ (0 ≤ b.toInt ∧ b.toInt ≤ 2) ∧ ∃ pt : Int32, FoX (iv 1 7).toInt (fa 1 0) (fa 1 1) (fa 1 2) (fa 1 3) 2 (iv 11 10).toInt pt.toInt ∧ r.toInt = (oN (odX (fa 10 0) a.toInt (iv 11 10).toInt b.toInt ((iv 10 1).toInt).toNat pt)).toInt))) ∧ (True) ∧ u = ((u2 (u2 (u2 iv 2 3 ni_2_3) 2 4 ni_2_4) 2 5 ni_2_5), lv, (u2 (u2 (u2 fa 1 6 na_1_6) 2 2 na_2_2) 20 2 na_20_2), (u2 (u2 la 20 0 nb_20_0) 20 1 nb_20_1))) (bX (dC, dI) h g ca (va_A (WX h g ca iv lv fa la) sz)) (va_A (WX h g ca iv lv fa la) sz)) 0 0 (va_A (WX h g ca iv lv fa la) sz) := by
  refine Met.ofW (cc := cX11_odd) (maxL := 3) (ret := (some .int)) (by decide) rfl ?_
  intro p e s m args below meth c s₁ B hml hv
  obtain ⟨rfl, hsz, hP, hK, hD0, hZ⟩ := hv
  have hx := B.exec
  have hb := B.bytes
  have hr := B.returns
  have ht := tb_tl (atoms_spec (ws := wc yX11_odd cX11_odd 3 (some .int)) B.pre)
  have hown : s.vm.findClass RX11 = some m.cls := findClass_of_methodNamed B.named
  have hlocks := B.notSynchronized
  subst hsz
  have hD := hD0.self (sz := s.heap.size)
  generalize hAe : va_A (WX h g ca iv lv fa la) s.heap.size = A at hD hZ ⊢
  have hA : ∀ q : Nat, s.heap.size ≤ q → A q := fun q h => by rw [← hAe]; exact Or.inr h
  have hS : va_S A s.heap s.heap [] := va_S.rf
  have hl := lv_entry [.ref h, .int a, .int b] (n := 3) (Nat.le_of_ble_eq_true rfl)
  rw [lg_entry_eq]
  generalize (lg_sl [.ref h, .int a, .int b] ++ List.replicate (3 - (lg_sl [.ref h, .int a, .int b]).length) Slot.unset).toArray = ls at hl ⊢
  have hl : lv_has ls 3 [(0, .ref h), (1, .int a), (2, .int b)] := hl
  refine lv_aload_n hx hb dX11_odd_0 rfl (lv_at hl 0 rfl) ?_
  refine gX_11_2 hx hb ht hown hK hP m_417 dX11_odd_1 ?_
  refine lv_iload_n hx hb dX11_odd_4 rfl (lv_at hl 1 rfl) ?_
  refine vp_callSi (W.runV (As := [.int a]) (rest := []) ⟨hx, hb, hml, hown, ht⟩ (c_X0_has l dC dI h g ca iv lv fa la hI a) (kV 1 ht m_472 m_473 m_474 m_80 m_475 rfl rfl hd_X0_has_v ⟨Nat.le_of_ble_eq_true rfl, Nat.le_of_ble_eq_true rfl⟩) (vR hP hK (rX_0 hK hP)) rfl rfl hl.1 rfl (lv_room (Nat.le_of_ble_eq_true rfl)) dX11_odd_5 ⟨Nat.le_of_ble_eq_true rfl, Nat.le_of_ble_eq_true rfl⟩) (fun r1 hr1 => ?_)
  rcases hr1 with ⟨rfl, fr1⟩ | ⟨rfl, fr1⟩
  · skip
    have i_0_7 : 0 ≤ (iv 0 7).toInt ∧ (iv 0 7).toInt ≤ 10 := hI.1 0 7
    have fr1 : (0 ≤ (a : Int32).toInt ∧ (a : Int32).toInt < ((iv 0 7) : Int32).toInt) := fr1
    refine lv_if_ne (tgt := 14) hx hb dX11_odd_8 (by decide) (fun c2 => ?_) (fun c2 => ?_)
    · skip
      refine lv_iload_n hx hb dX11_odd_14 rfl (lv_at hl 2 rfl) ?_
      refine lv_iconst (v := 0) hx hb dX11_odd_15 (by decide) ?_
      refine lv_iconst (v := 2) hx hb dX11_odd_16 (by decide) ?_
      refine vp_callSi (W.runS (As := [.int b, .int 0, .int 2]) (rest := []) ⟨hx, hb, hml, hown, ht⟩ (c_X11_within l dC dI b 0 2 (b.toInt) (0) (2) (rfl : (b).toInt = _) (by decide : (0 : Int32).toInt = 0) (by decide : (2 : Int32).toInt = 2)) (kS 3 ht m_453 m_454 m_77 m_455 rfl rfl hd_X11_within_v ⟨Nat.le_of_ble_eq_true rfl, Nat.le_of_ble_eq_true rfl⟩) (sR noP (hK.sub (tys' := []) [] rfl)) rfl rfl hl.1 rfl (lv_room (Nat.le_of_ble_eq_true rfl)) dX11_odd_17 ⟨Nat.le_of_ble_eq_true rfl, Nat.le_of_ble_eq_true rfl⟩) (fun r3 hr3 => ?_)
      rcases hr3 with ⟨rfl, fr3⟩ | ⟨rfl, fr3⟩
      · skip
        refine lv_if_ne (tgt := 26) hx hb dX11_odd_20 (by decide) (fun c4 => ?_) (fun c4 => ?_)
        · skip
          refine lv_aload_n hx hb dX11_odd_26 rfl (lv_at hl 0 rfl) ?_
          refine gX_11_6 hx hb ht hown hK hP m_421 dX11_odd_27 ?_
          refine lv_iload_n hx hb dX11_odd_30 rfl (lv_at hl 1 rfl) ?_
          refine lv_aload_n hx hb dX11_odd_31 rfl (lv_at hl 0 rfl) ?_
          have i_11_10 : 0 ≤ (iv 11 10).toInt ∧ (iv 11 10).toInt ≤ 3000 := hI.1 11 10
          refine gX_11_10 hx hb ht hown hK hP m_425 (v := (iv 11 10)) rfl dX11_odd_32 ?_
          refine lv_aload_n hx hb dX11_odd_35 rfl (lv_at hl 0 rfl) ?_
          refine gX_11_3 hx hb ht hown hK hP m_418 dX11_odd_36 ?_
          refine lv_iconst (v := 2) hx hb dX11_odd_39 (by decide) ?_
          refine lv_aload_n hx hb dX11_odd_40 rfl (lv_at hl 0 rfl) ?_
          refine gX_11_10 hx hb ht hown hK hP m_425 (v := (iv 11 10)) rfl dX11_odd_41 ?_
          have hFc := free_all hD hS hA
          refine va_calli (va_runV (As := [.int 2, .int (iv 11 10)]) (rest := [.int (iv 11 10), .int a, .ref (g 11 6)]) ⟨hx, hb, hml, hown, ht⟩ (c_X1_holding_f l dC dI s.heap.size ak av h g ca iv lv fa la hI 2 (iv 11 10) ⟨by decide, by decide⟩ hJB) (kV 2 ht m_667 m_601 m_602 m_81 m_603 rfl rfl hd_X1_holding_v ⟨Nat.le_of_ble_eq_true rfl, Nat.le_of_ble_eq_true rfl⟩) (vWZ hP hK hD ((hZ.kept hS.2.1).narrow (free_all hD hS hA)) (rX_1 hK hP)) rfl rfl hl.1 rfl (lv_room (Nat.le_of_ble_eq_true rfl)) dX11_odd_44 ⟨Nat.le_of_ble_eq_true rfl, Nat.le_of_ble_eq_true rfl⟩) hS (fun q _ h => hFc q h) hFc (fun r5 u t H1 locs ht9 hvm hr5 hB hz1 hk1 hS => ?_)
          obtain ⟨n6, hn6, xr5_0, hr5, rfl⟩ := hr5
          obtain ⟨hP, hD⟩ := hB
          rw [ht9] at hP
          generalize H1 = H at hP hS ⊢
          have hP : va_P (dC, dI) classes (WX h g ca iv lv (u2 fa 1 6 n6) la) H := hP
          have hD : va_D A (WX h g ca iv lv (u2 fa 1 6 n6) la) := (show va_D _ (WX h g ca iv lv (u2 fa 1 6 n6) la) from hD).weaken (fun _ _ _ h => hFc _ h)
          have i_1_7 : 0 ≤ (iv 1 7).toInt ∧ (iv 1 7).toInt ≤ 8 := hI.1 1 7
          have : (2 : Int32).toInt = 2 := (by decide)
          have xr5_0 : FoX ((iv 1 7) : Int32).toInt (fa 1 0) (fa 1 1) (fa 1 2) (fa 1 3) (2 : Int32).toInt ((iv 11 10) : Int32).toInt (r5 : Int32).toInt := xr5_0
          have hFc := free_all hD hS hA
          refine va_callv (va_runV (As := [.int a, .int (iv 11 10), .int r5]) (rest := []) ⟨hx, hb, hml, hown, ht⟩ (c_X2_lookAt_w l dC dI H.size h g ca iv lv (u2 fa 1 6 n6) la (IX_a (c := 1) (k := 6) hI hn6) a (iv 11 10) r5) (kV 3 ht m_870 m_871 m_872 m_85 m_873 rfl rfl hd_X2_lookAt_v ⟨Nat.le_of_ble_eq_true rfl, Nat.le_of_ble_eq_true rfl⟩) (vW hP hK hD (rX_2 hK hP)) rfl rfl hl.1 rfl (lv_room (Nat.le_of_ble_eq_true rfl)) dX11_odd_47 ⟨Nat.le_of_ble_eq_true rfl, Nat.le_of_ble_eq_true rfl⟩) hS (fun q _ h => hFc q h) hFc (fun u t H1 locs ht9 hvm hr7 hB hz1 hk1 hS => ?_)
          obtain ⟨n8, n9, n10, xr7_0, xr7_1, xr7_2, rfl⟩ := hr7
          obtain ⟨hP, hD⟩ := hB
          rw [ht9] at hP
          generalize H1 = H at hP hS ⊢
          have hP : va_P (dC, dI) classes (WX h g ca (u2 (u2 (u2 iv 2 3 n8) 2 4 n9) 2 5 n10) lv (u2 fa 1 6 n6) la) H := hP
          have hD : va_D A (WX h g ca (u2 (u2 (u2 iv 2 3 n8) 2 4 n9) 2 5 n10) lv (u2 fa 1 6 n6) la) := (show va_D _ (WX h g ca (u2 (u2 (u2 iv 2 3 n8) 2 4 n9) 2 5 n10) lv (u2 fa 1 6 n6) la) from hD).weaken (fun _ _ _ h => hFc _ h)
          have xr7_0 : (n8 : Int32).toInt = (a : Int32).toInt := xr7_0
          have xr7_1 : (n9 : Int32).toInt = ((iv 11 10) : Int32).toInt := xr7_1
          have xr7_2 : (n10 : Int32).toInt = (r5 : Int32).toInt := xr7_2
          refine lv_aload_n hx hb dX11_odd_50 rfl (lv_at hl 0 rfl) ?_
          refine gX_11_6 hx hb ht hown hK hP m_421 dX11_odd_51 ?_
          refine lv_iload_n hx hb dX11_odd_54 rfl (lv_at hl 2 rfl) ?_
          have i_10_1 : 0 ≤ (iv 10 1).toInt ∧ (iv 10 1).toInt ≤ 60 := hI.1 10 1
          have hFc := free_all hD hS hA
          refine va_calli (va_runV (As := [.int b]) (rest := []) ⟨hx, hb, hml, hown, ht⟩ (c_X2_oddPairs_w l dC dI H.size h g ca (u2 (u2 (u2 iv 2 3 n8) 2 4 n9) 2 5 n10) lv (u2 fa 1 6 n6) la (IX_a (c := 1) (k := 6) (IX_i (c := 2) (k := 5) (IX_i (c := 2) (k := 4) (IX_i (c := 2) (k := 3) hI (full_i _)) (full_i _)) (full_i _)) hn6) b hJL) (kV 1 ht m_917 m_918 m_919 m_85 m_920 rfl rfl hd_X2_oddPairs_v ⟨Nat.le_of_ble_eq_true rfl, Nat.le_of_ble_eq_true rfl⟩) (vW hP hK hD (rX_2 hK hP)) rfl rfl hl.1 rfl (lv_room (Nat.le_of_ble_eq_true rfl)) dX11_odd_55 ⟨Nat.le_of_ble_eq_true rfl, Nat.le_of_ble_eq_true rfl⟩) hS (fun q _ h => hFc q h) hFc (fun r11 u t H1 locs ht9 hvm hr11 hB hz1 hk1 hS => ?_)
          obtain ⟨n12, n13, n14, n15, hn12, xr11_0, hr11, rfl⟩ := hr11
          have hn13 : ∀ j, inb (bA 20 2 j) (n13 j) := fun j => full_i _
          obtain ⟨hP, hD⟩ := hB
          rw [ht9] at hP
          generalize H1 = H at hP hS ⊢
          have hP : va_P (dC, dI) classes (WX h g ca (u2 (u2 (u2 iv 2 3 n8) 2 4 n9) 2 5 n10) lv (u2 (u2 (u2 fa 1 6 n6) 2 2 n12) 20 2 n13) (u2 (u2 la 20 0 n14) 20 1 n15)) H := hP
          have hD : va_D A (WX h g ca (u2 (u2 (u2 iv 2 3 n8) 2 4 n9) 2 5 n10) lv (u2 (u2 (u2 fa 1 6 n6) 2 2 n12) 20 2 n13) (u2 (u2 la 20 0 n14) 20 1 n15)) := (show va_D _ (WX h g ca (u2 (u2 (u2 iv 2 3 n8) 2 4 n9) 2 5 n10) lv (u2 (u2 (u2 fa 1 6 n6) 2 2 n12) 20 2 n13) (u2 (u2 la 20 0 n14) 20 1 n15)) from hD).weaken (fun _ _ _ h => hFc _ h)
          have xr11_0 : ∀ pt : Int32, pt.toInt = (n10 : Int32).toInt → (r11 : Int32).toInt = (oN (odX (fa 10 0) (n8 : Int32).toInt (n9 : Int32).toInt (b : Int32).toInt (((iv 10 1) : Int32).toInt).toNat pt)).toInt := xr11_0
          have hP9 : va_P (dC, dI) classes (WX h g ca (u2 (u2 (u2 iv 2 3 n8) 2 4 n9) 2 5 n10) lv (u2 (u2 (u2 fa 1 6 n6) 2 2 n12) 20 2 n13) (u2 (u2 la 20 0 n14) 20 1 n15)) H := hP
          have hD9 : va_D A (WX h g ca (u2 (u2 (u2 iv 2 3 n8) 2 4 n9) 2 5 n10) lv (u2 (u2 (u2 fa 1 6 n6) 2 2 n12) 20 2 n13) (u2 (u2 la 20 0 n14) 20 1 n15)) := hD
          exact W.iret (v := r11) hx hb hr (fun t ht9 hW => ⟨⟨r11, ((u2 (u2 (u2 iv 2 3 n8) 2 4 n9) 2 5 n10), lv, (u2 (u2 (u2 fa 1 6 n6) 2 2 n12) 20 2 n13), (u2 (u2 la 20 0 n14) 20 1 n15)), rfl, ⟨n6, n12, n13, n14, n15, n8, n9, n10, hn6, hn12, (show (((r11 : Int32).toInt = -100001 ∧ ¬ (0 ≤ (a).toInt ∧ (a).toInt < (iv 0 7).toInt)) ∨ ((r11 : Int32).toInt = -100002 ∧ (0 ≤ (a).toInt ∧ (a).toInt < (iv 0 7).toInt) ∧ ¬ (0 ≤ (b).toInt ∧ (b).toInt ≤ 2)) ∨ ((0 ≤ (a).toInt ∧ (a).toInt < (iv 0 7).toInt) ∧ (0 ≤ (b).toInt ∧ (b).toInt ≤ 2) ∧ ∃ pt : Int32, FoX (iv 1 7).toInt (fa 1 0) (fa 1 1) (fa 1 2) (fa 1 3) 2 (iv 11 10).toInt pt.toInt ∧ (r11 : Int32).toInt = (oN (odX (fa 10 0) (a).toInt (iv 11 10).toInt (b).toInt ((iv 10 1).toInt).toNat pt)).toInt)) from (by have hp9 := xr11_0 r5 xr7_2.symm; rw [xr7_0, xr7_1] at hp9; exact Or.inr (Or.inr ⟨⟨by omega, by omega⟩, ⟨by omega, by omega⟩, r5, xr5_0, hp9⟩))), trivial, rfl⟩, by rw [ht9]; exact hP9, hD9⟩, hS.F ht9⟩) hS.2.2 dX11_odd_58
        · exact absurd c4 (by decide)
      · skip
        refine lv_if_ne (tgt := 26) hx hb dX11_odd_20 (by decide) (fun c16 => ?_) (fun c16 => ?_)
        · exact absurd rfl c16
        · skip
          refine lv_ldc hx hb hown (ht _ m_456) dX11_odd_23 ?_
          have : ((-100002) : Int32).toInt = (-100002) := (by decide)
          have hP9 : va_P (dC, dI) classes (WX h g ca (u2 (u2 (u2 iv 2 3 (iv 2 3)) 2 4 (iv 2 4)) 2 5 (iv 2 5)) lv (u2 (u2 (u2 fa 1 6 (fa 1 6)) 2 2 (fa 2 2)) 20 2 (fa 20 2)) (u2 (u2 la 20 0 (la 20 0)) 20 1 (la 20 1))) s.heap := hP
          have hD9 : va_D A (WX h g ca (u2 (u2 (u2 iv 2 3 (iv 2 3)) 2 4 (iv 2 4)) 2 5 (iv 2 5)) lv (u2 (u2 (u2 fa 1 6 (fa 1 6)) 2 2 (fa 2 2)) 20 2 (fa 20 2)) (u2 (u2 la 20 0 (la 20 0)) 20 1 (la 20 1))) := hD
          exact W.iret (v := (-100002)) hx hb hr (fun t ht9 hW => ⟨⟨(-100002), ((u2 (u2 (u2 iv 2 3 (iv 2 3)) 2 4 (iv 2 4)) 2 5 (iv 2 5)), lv, (u2 (u2 (u2 fa 1 6 (fa 1 6)) 2 2 (fa 2 2)) 20 2 (fa 20 2)), (u2 (u2 la 20 0 (la 20 0)) 20 1 (la 20 1))), rfl, ⟨(fa 1 6), (fa 2 2), (fa 20 2), (la 20 0), (la 20 1), (iv 2 3), (iv 2 4), (iv 2 5), (hI.2 1 6), (hI.2 2 2), (show ((((-100002) : Int32).toInt = -100001 ∧ ¬ (0 ≤ (a).toInt ∧ (a).toInt < (iv 0 7).toInt)) ∨ (((-100002) : Int32).toInt = -100002 ∧ (0 ≤ (a).toInt ∧ (a).toInt < (iv 0 7).toInt) ∧ ¬ (0 ≤ (b).toInt ∧ (b).toInt ≤ 2)) ∨ ((0 ≤ (a).toInt ∧ (a).toInt < (iv 0 7).toInt) ∧ (0 ≤ (b).toInt ∧ (b).toInt ≤ 2) ∧ ∃ pt : Int32, FoX (iv 1 7).toInt (fa 1 0) (fa 1 1) (fa 1 2) (fa 1 3) 2 (iv 11 10).toInt pt.toInt ∧ ((-100002) : Int32).toInt = (oN (odX (fa 10 0) (a).toInt (iv 11 10).toInt (b).toInt ((iv 10 1).toInt).toNat pt)).toInt)) from Or.inr (Or.inl ⟨by omega, ⟨by omega, by omega⟩, by omega⟩)), trivial, rfl⟩, by rw [ht9]; exact hP9, hD9⟩, hS.F ht9⟩) hS.2.2 dX11_odd_25
    · exact absurd c2 (by decide)
  · skip
    have i_0_7 : 0 ≤ (iv 0 7).toInt ∧ (iv 0 7).toInt ≤ 10 := hI.1 0 7
    have fr1 : ¬ (0 ≤ (a : Int32).toInt ∧ (a : Int32).toInt < ((iv 0 7) : Int32).toInt) := fr1
    refine lv_if_ne (tgt := 14) hx hb dX11_odd_8 (by decide) (fun c17 => ?_) (fun c17 => ?_)
    · exact absurd rfl c17
    · skip
      refine lv_ldc hx hb hown (ht _ m_476) dX11_odd_11 ?_
      have : ((-100001) : Int32).toInt = (-100001) := (by decide)
      have hP9 : va_P (dC, dI) classes (WX h g ca (u2 (u2 (u2 iv 2 3 (iv 2 3)) 2 4 (iv 2 4)) 2 5 (iv 2 5)) lv (u2 (u2 (u2 fa 1 6 (fa 1 6)) 2 2 (fa 2 2)) 20 2 (fa 20 2)) (u2 (u2 la 20 0 (la 20 0)) 20 1 (la 20 1))) s.heap := hP
      have hD9 : va_D A (WX h g ca (u2 (u2 (u2 iv 2 3 (iv 2 3)) 2 4 (iv 2 4)) 2 5 (iv 2 5)) lv (u2 (u2 (u2 fa 1 6 (fa 1 6)) 2 2 (fa 2 2)) 20 2 (fa 20 2)) (u2 (u2 la 20 0 (la 20 0)) 20 1 (la 20 1))) := hD
      exact W.iret (v := (-100001)) hx hb hr (fun t ht9 hW => ⟨⟨(-100001), ((u2 (u2 (u2 iv 2 3 (iv 2 3)) 2 4 (iv 2 4)) 2 5 (iv 2 5)), lv, (u2 (u2 (u2 fa 1 6 (fa 1 6)) 2 2 (fa 2 2)) 20 2 (fa 20 2)), (u2 (u2 la 20 0 (la 20 0)) 20 1 (la 20 1))), rfl, ⟨(fa 1 6), (fa 2 2), (fa 20 2), (la 20 0), (la 20 1), (iv 2 3), (iv 2 4), (iv 2 5), (hI.2 1 6), (hI.2 2 2), (show ((((-100001) : Int32).toInt = -100001 ∧ ¬ (0 ≤ (a).toInt ∧ (a).toInt < (iv 0 7).toInt)) ∨ (((-100001) : Int32).toInt = -100002 ∧ (0 ≤ (a).toInt ∧ (a).toInt < (iv 0 7).toInt) ∧ ¬ (0 ≤ (b).toInt ∧ (b).toInt ≤ 2)) ∨ ((0 ≤ (a).toInt ∧ (a).toInt < (iv 0 7).toInt) ∧ (0 ≤ (b).toInt ∧ (b).toInt ≤ 2) ∧ ∃ pt : Int32, FoX (iv 1 7).toInt (fa 1 0) (fa 1 1) (fa 1 2) (fa 1 3) 2 (iv 11 10).toInt pt.toInt ∧ ((-100001) : Int32).toInt = (oN (odX (fa 10 0) (a).toInt (iv 11 10).toInt (b).toInt ((iv 10 1).toInt).toNat pt)).toInt)) from Or.inl ⟨by omega, by omega⟩), trivial, rfl⟩, by rw [ht9]; exact hP9, hD9⟩, hS.F ht9⟩) hS.2.2 dX11_odd_13
