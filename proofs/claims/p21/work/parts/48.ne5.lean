/-! ===== ne5 ===== -/
set_option maxHeartbeats 4000000 in
set_option maxRecDepth 100000 in
/-- X11_needed -/
theorem c_X11_needed_w (l : Launch) (dC : Nat → ClassId) (dI : Nat → Nat → Nat) (sz : Nat) (ak av : Nat → Nat) (h : Nat) (g : Nat → Nat → Nat) (ca : Nat → Nat → ClassId) (iv : Nat → Nat → Int32) (lv : Nat → Nat → Int64) (fa : Nat → Nat → Nat → Int32) (la : Nat → Nat → Nat → Int64) (hI : IX iv fa) (a : Int32) (b : Int32) (hJB : ∀ j : Nat, (j : Int) < (iv 1 7).toInt → 0 ≤ (fa 1 0 j).toInt) (hJL : ∀ b l : Int32, cn0 (fun s => fa 10 0 (9 * s + 0)) (fun s => fa 10 0 (9 * s + 1)) b l (iv 10 1).toInt.toNat ≤ 12) : Met l yX11_needed (wc yX11_needed cX11_needed 3 (some .int)) ({ frames := 16, cells := 0, slots := 0, locals := 411 } : Room) (pWZ ak av (dC, dI) classes (WX h g ca iv lv fa la) (TX ca) sz [.ref h, .int a, .int b]) (va_Qi (fun r (u : SS) => ∃ (na_1_6 : Nat → Int32) (na_2_2 : Nat → Int32) (na_20_2 : Nat → Int32) (nb_20_0 : Nat → Int64) (nb_20_1 : Nat → Int64) (ni_2_3 : Int32) (ni_2_4 : Int32) (ni_2_5 : Int32) (ni_2_6 : Int32) (ni_2_7 : Int32), (∀ j, inb (bA 1 6 j) (na_1_6 j)) ∧ (∀ j, inb (bA 2 2 j) (na_2_2 j)) ∧ (((r.toInt = -100001 ∧ ¬ (0 ≤ a.toInt ∧ a.toInt < (iv 0 7).toInt)) ∨ (r.toInt = -100002 ∧ (0 ≤ a.toInt ∧ a.toInt < (iv 0 7).toInt) ∧ ¬ (1 ≤ b.toInt ∧ b.toInt ≤ 100)) ∨ ((0 ≤ a.toInt ∧ a.toInt < (iv 0 7).toInt) ∧ (1 ≤ b.toInt ∧ b.toInt ≤ 100) ∧ ∃ pt : Int32, FoX (iv 1 7).toInt (fa 1 0) (fa 1 1) (fa 1 2) (fa 1 3) 2 (iv 11 10).toInt pt.toInt ∧ NeR (neX (fa 10 0) a.toInt (iv 11 10).toInt ((iv 10 1).toInt).toNat pt b) (lsP (cxP (fa 10 0) a.toInt (iv 11 10).toInt 0) ((iv 10 1).toInt).toNat).length r.toInt))) ∧ ((-100002) ≤ r.toInt ∧ r.toInt ≤ 12) ∧ u = ((u2 (u2 (u2 (u2 (u2 iv 2 3 ni_2_3) 2 4 ni_2_4) 2 5 ni_2_5) 2 6 ni_2_6) 2 7 ni_2_7), lv, (u2 (u2 (u2 fa 1 6 na_1_6) 2 2 na_2_2) 20 2 na_20_2), (u2 (u2 la 20 0 nb_20_0) 20 1 nb_20_1))) (bX (dC, dI) h g ca (va_A (WX h g ca iv lv fa la) sz)) (va_A (WX h g ca iv lv fa la) sz)) 0 0 (va_A (WX h g ca iv lv fa la) sz) := by
  refine Met.ofW (cc := cX11_needed) (maxL := 3) (ret := (some .int)) (by decide) rfl ?_
  intro p e s m args below meth c s₁ B hml hv
  obtain ⟨rfl, hsz, hP, hK, hD0, hZ⟩ := hv
  have hx := B.exec
  have hb := B.bytes
  have hr := B.returns
  have ht := tb_tl (atoms_spec (ws := wc yX11_needed cX11_needed 3 (some .int)) B.pre)
  have hown : s.vm.findClass RX11 = some m.cls := findClass_of_methodNamed B.named
  have hlocks := B.notSynchronized
  subst hsz
  have hD := hD0.self (sz := s.heap.size)
  generalize hAe : va_A (WX h g ca iv lv fa la) s.heap.size = A at hD hZ ⊢
  have hA : ∀ q : Nat, s.heap.size ≤ q → A q := fun q h => by rw [← hAe]; exact Or.inr h
  have hS : va_S A s.heap s.heap [] := va_S.rf
  have hl := lv_entry [.ref h, .int a, .int b] (n := 3) (Nat.le_of_ble_eq_true rfl)
  rw [lg_entry_eq]
  generalize (lg_sl [.ref h, .int a, .int b] ++ List.replicate (3 - (lg_sl [.ref h, .int a, .int b]).length) Slot.unset).toArray = ls at hl ⊢
  have hl : lv_has ls 3 [(0, .ref h), (1, .int a), (2, .int b)] := hl
  refine lv_aload_n hx hb dX11_needed_0 rfl (lv_at hl 0 rfl) ?_
  refine gX_11_2 hx hb ht hown hK hP m_417 dX11_needed_1 ?_
  refine lv_iload_n hx hb dX11_needed_4 rfl (lv_at hl 1 rfl) ?_
  refine vp_callSi (W.runV (As := [.int a]) (rest := []) ⟨hx, hb, hml, hown, ht⟩ (c_X0_has l dC dI h g ca iv lv fa la hI a) (kV 1 ht m_472 m_473 m_474 m_80 m_475 rfl rfl hd_X0_has_v ⟨Nat.le_of_ble_eq_true rfl, Nat.le_of_ble_eq_true rfl⟩) (vR hP hK (rX_0 hK hP)) rfl rfl hl.1 rfl (lv_room (Nat.le_of_ble_eq_true rfl)) dX11_needed_5 ⟨Nat.le_of_ble_eq_true rfl, Nat.le_of_ble_eq_true rfl⟩) (fun r1 hr1 => ?_)
  rcases hr1 with ⟨rfl, fr1⟩ | ⟨rfl, fr1⟩
  · skip
    have i_0_7 : 0 ≤ (iv 0 7).toInt ∧ (iv 0 7).toInt ≤ 10 := hI.1 0 7
    have fr1 : (0 ≤ (a : Int32).toInt ∧ (a : Int32).toInt < ((iv 0 7) : Int32).toInt) := fr1
    refine lv_if_ne (tgt := 14) hx hb dX11_needed_8 (by decide) (fun c2 => ?_) (fun c2 => ?_)
    · skip
      refine lv_iload_n hx hb dX11_needed_14 rfl (lv_at hl 2 rfl) ?_
      refine lv_iconst (v := 1) hx hb dX11_needed_15 (by decide) ?_
      refine lv_bipush (v := 100) hx hb dX11_needed_16 (by decide) ?_
      refine vp_callSi (W.runS (As := [.int b, .int 1, .int 100]) (rest := []) ⟨hx, hb, hml, hown, ht⟩ (c_X11_within l dC dI b 1 100 (b.toInt) (1) (100) (rfl : (b).toInt = _) (by decide : (1 : Int32).toInt = 1) (by decide : (100 : Int32).toInt = 100)) (kS 3 ht m_453 m_454 m_77 m_455 rfl rfl hd_X11_within_v ⟨Nat.le_of_ble_eq_true rfl, Nat.le_of_ble_eq_true rfl⟩) (sR noP (hK.sub (tys' := []) [] rfl)) rfl rfl hl.1 rfl (lv_room (Nat.le_of_ble_eq_true rfl)) dX11_needed_18 ⟨Nat.le_of_ble_eq_true rfl, Nat.le_of_ble_eq_true rfl⟩) (fun r3 hr3 => ?_)
      rcases hr3 with ⟨rfl, fr3⟩ | ⟨rfl, fr3⟩
      · skip
        refine lv_if_ne (tgt := 27) hx hb dX11_needed_21 (by decide) (fun c4 => ?_) (fun c4 => ?_)
        · skip
          refine lv_aload_n hx hb dX11_needed_27 rfl (lv_at hl 0 rfl) ?_
          refine gX_11_6 hx hb ht hown hK hP m_421 dX11_needed_28 ?_
          refine lv_iload_n hx hb dX11_needed_31 rfl (lv_at hl 1 rfl) ?_
          refine lv_aload_n hx hb dX11_needed_32 rfl (lv_at hl 0 rfl) ?_
          have i_11_10 : 0 ≤ (iv 11 10).toInt ∧ (iv 11 10).toInt ≤ 3000 := hI.1 11 10
          refine gX_11_10 hx hb ht hown hK hP m_425 (v := (iv 11 10)) rfl dX11_needed_33 ?_
          refine lv_aload_n hx hb dX11_needed_36 rfl (lv_at hl 0 rfl) ?_
          refine gX_11_3 hx hb ht hown hK hP m_418 dX11_needed_37 ?_
          refine lv_iconst (v := 2) hx hb dX11_needed_40 (by decide) ?_
          refine lv_aload_n hx hb dX11_needed_41 rfl (lv_at hl 0 rfl) ?_
          refine gX_11_10 hx hb ht hown hK hP m_425 (v := (iv 11 10)) rfl dX11_needed_42 ?_
          have hFc := free_all hD hS hA
          refine va_calli (va_runV (As := [.int 2, .int (iv 11 10)]) (rest := [.int (iv 11 10), .int a, .ref (g 11 6)]) ⟨hx, hb, hml, hown, ht⟩ (c_X1_holding_f l dC dI s.heap.size ak av h g ca iv lv fa la hI 2 (iv 11 10) ⟨by decide, by decide⟩ hJB) (kV 2 ht m_667 m_601 m_602 m_81 m_603 rfl rfl hd_X1_holding_v ⟨Nat.le_of_ble_eq_true rfl, Nat.le_of_ble_eq_true rfl⟩) (vWZ hP hK hD ((hZ.kept hS.2.1).narrow (free_all hD hS hA)) (rX_1 hK hP)) rfl rfl hl.1 rfl (lv_room (Nat.le_of_ble_eq_true rfl)) dX11_needed_45 ⟨Nat.le_of_ble_eq_true rfl, Nat.le_of_ble_eq_true rfl⟩) hS (fun q _ h => hFc q h) hFc (fun r5 u t H1 locs ht9 hvm hr5 hB hz1 hk1 hS => ?_)
          obtain ⟨n6, hn6, xr5_0, hr5, rfl⟩ := hr5
          obtain ⟨hP, hD⟩ := hB
          rw [ht9] at hP
          generalize H1 = H at hP hS ⊢
          have hP : va_P (dC, dI) classes (WX h g ca iv lv (u2 fa 1 6 n6) la) H := hP
          have hD : va_D A (WX h g ca iv lv (u2 fa 1 6 n6) la) := (show va_D _ (WX h g ca iv lv (u2 fa 1 6 n6) la) from hD).weaken (fun _ _ _ h => hFc _ h)
          have i_1_7 : 0 ≤ (iv 1 7).toInt ∧ (iv 1 7).toInt ≤ 8 := hI.1 1 7
          have : (2 : Int32).toInt = 2 := (by decide)
          have xr5_0 : FoX ((iv 1 7) : Int32).toInt (fa 1 0) (fa 1 1) (fa 1 2) (fa 1 3) (2 : Int32).toInt ((iv 11 10) : Int32).toInt (r5 : Int32).toInt := xr5_0
          have hFc := free_all hD hS hA
          refine va_callv (va_runV (As := [.int a, .int (iv 11 10), .int r5]) (rest := []) ⟨hx, hb, hml, hown, ht⟩ (c_X2_lookAt_w l dC dI H.size h g ca iv lv (u2 fa 1 6 n6) la (IX_a (c := 1) (k := 6) hI hn6) a (iv 11 10) r5) (kV 3 ht m_870 m_871 m_872 m_85 m_873 rfl rfl hd_X2_lookAt_v ⟨Nat.le_of_ble_eq_true rfl, Nat.le_of_ble_eq_true rfl⟩) (vW hP hK hD (rX_2 hK hP)) rfl rfl hl.1 rfl (lv_room (Nat.le_of_ble_eq_true rfl)) dX11_needed_48 ⟨Nat.le_of_ble_eq_true rfl, Nat.le_of_ble_eq_true rfl⟩) hS (fun q _ h => hFc q h) hFc (fun u t H1 locs ht9 hvm hr7 hB hz1 hk1 hS => ?_)
          obtain ⟨n8, n9, n10, xr7_0, xr7_1, xr7_2, rfl⟩ := hr7
          obtain ⟨hP, hD⟩ := hB
          rw [ht9] at hP
          generalize H1 = H at hP hS ⊢
          have hP : va_P (dC, dI) classes (WX h g ca (u2 (u2 (u2 iv 2 3 n8) 2 4 n9) 2 5 n10) lv (u2 fa 1 6 n6) la) H := hP
          have hD : va_D A (WX h g ca (u2 (u2 (u2 iv 2 3 n8) 2 4 n9) 2 5 n10) lv (u2 fa 1 6 n6) la) := (show va_D _ (WX h g ca (u2 (u2 (u2 iv 2 3 n8) 2 4 n9) 2 5 n10) lv (u2 fa 1 6 n6) la) from hD).weaken (fun _ _ _ h => hFc _ h)
          have xr7_0 : (n8 : Int32).toInt = (a : Int32).toInt := xr7_0
          have xr7_1 : (n9 : Int32).toInt = ((iv 11 10) : Int32).toInt := xr7_1
          have xr7_2 : (n10 : Int32).toInt = (r5 : Int32).toInt := xr7_2
          refine lv_aload_n hx hb dX11_needed_51 rfl (lv_at hl 0 rfl) ?_
          refine gX_11_6 hx hb ht hown hK hP m_421 dX11_needed_52 ?_
          refine lv_iload_n hx hb dX11_needed_55 rfl (lv_at hl 2 rfl) ?_
          have i_10_1 : 0 ≤ (iv 10 1).toInt ∧ (iv 10 1).toInt ≤ 60 := hI.1 10 1
          have hFc := free_all hD hS hA
          refine va_calli (va_runV (As := [.int b]) (rest := []) ⟨hx, hb, hml, hown, ht⟩ (c_X2_fewest_w l dC dI H.size h g ca (u2 (u2 (u2 iv 2 3 n8) 2 4 n9) 2 5 n10) lv (u2 fa 1 6 n6) la (IX_a (c := 1) (k := 6) (IX_i (c := 2) (k := 5) (IX_i (c := 2) (k := 4) (IX_i (c := 2) (k := 3) hI (full_i _)) (full_i _)) (full_i _)) hn6) b hJL) (kV 1 ht m_929 m_930 m_931 m_85 m_932 rfl rfl hd_X2_fewest_v ⟨Nat.le_of_ble_eq_true rfl, Nat.le_of_ble_eq_true rfl⟩) (vW hP hK hD (rX_2 hK hP)) rfl rfl hl.1 rfl (lv_room (Nat.le_of_ble_eq_true rfl)) dX11_needed_56 ⟨Nat.le_of_ble_eq_true rfl, Nat.le_of_ble_eq_true rfl⟩) hS (fun q _ h => hFc q h) hFc (fun r11 u t H1 locs ht9 hvm hr11 hB hz1 hk1 hS => ?_)
          obtain ⟨n12, n13, n14, n15, n16, n17, hn12, xr11_0, hr11, rfl⟩ := hr11
          have hn13 : ∀ j, inb (bA 20 2 j) (n13 j) := fun j => full_i _
          obtain ⟨hP, hD⟩ := hB
          rw [ht9] at hP
          generalize H1 = H at hP hS ⊢
          have hP : va_P (dC, dI) classes (WX h g ca (u2 (u2 (u2 (u2 (u2 iv 2 3 n8) 2 4 n9) 2 5 n10) 2 6 n16) 2 7 n17) lv (u2 (u2 (u2 fa 1 6 n6) 2 2 n12) 20 2 n13) (u2 (u2 la 20 0 n14) 20 1 n15)) H := hP
          have hD : va_D A (WX h g ca (u2 (u2 (u2 (u2 (u2 iv 2 3 n8) 2 4 n9) 2 5 n10) 2 6 n16) 2 7 n17) lv (u2 (u2 (u2 fa 1 6 n6) 2 2 n12) 20 2 n13) (u2 (u2 la 20 0 n14) 20 1 n15)) := (show va_D _ (WX h g ca (u2 (u2 (u2 (u2 (u2 iv 2 3 n8) 2 4 n9) 2 5 n10) 2 6 n16) 2 7 n17) lv (u2 (u2 (u2 fa 1 6 n6) 2 2 n12) 20 2 n13) (u2 (u2 la 20 0 n14) 20 1 n15)) from hD).weaken (fun _ _ _ h => hFc _ h)
          have xr11_0 : ∀ pt : Int32, pt.toInt = (n10 : Int32).toInt → NeR (neX (fa 10 0) (n8 : Int32).toInt (n9 : Int32).toInt (((iv 10 1) : Int32).toInt).toNat pt (b : Int32)) (lsP (cxP (fa 10 0) (n8 : Int32).toInt (n9 : Int32).toInt 0) (((iv 10 1) : Int32).toInt).toNat).length (r11 : Int32).toInt := xr11_0
          have hP9 : va_P (dC, dI) classes (WX h g ca (u2 (u2 (u2 (u2 (u2 iv 2 3 n8) 2 4 n9) 2 5 n10) 2 6 n16) 2 7 n17) lv (u2 (u2 (u2 fa 1 6 n6) 2 2 n12) 20 2 n13) (u2 (u2 la 20 0 n14) 20 1 n15)) H := hP
          have hD9 : va_D A (WX h g ca (u2 (u2 (u2 (u2 (u2 iv 2 3 n8) 2 4 n9) 2 5 n10) 2 6 n16) 2 7 n17) lv (u2 (u2 (u2 fa 1 6 n6) 2 2 n12) 20 2 n13) (u2 (u2 la 20 0 n14) 20 1 n15)) := hD
          exact W.iret (v := r11) hx hb hr (fun t ht9 hW => ⟨⟨r11, ((u2 (u2 (u2 (u2 (u2 iv 2 3 n8) 2 4 n9) 2 5 n10) 2 6 n16) 2 7 n17), lv, (u2 (u2 (u2 fa 1 6 n6) 2 2 n12) 20 2 n13), (u2 (u2 la 20 0 n14) 20 1 n15)), rfl, ⟨n6, n12, n13, n14, n15, n8, n9, n10, n16, n17, hn6, hn12, (show (((r11 : Int32).toInt = -100001 ∧ ¬ (0 ≤ (a).toInt ∧ (a).toInt < (iv 0 7).toInt)) ∨ ((r11 : Int32).toInt = -100002 ∧ (0 ≤ (a).toInt ∧ (a).toInt < (iv 0 7).toInt) ∧ ¬ (1 ≤ (b).toInt ∧ (b).toInt ≤ 100)) ∨ ((0 ≤ (a).toInt ∧ (a).toInt < (iv 0 7).toInt) ∧ (1 ≤ (b).toInt ∧ (b).toInt ≤ 100) ∧ ∃ pt : Int32, FoX (iv 1 7).toInt (fa 1 0) (fa 1 1) (fa 1 2) (fa 1 3) 2 (iv 11 10).toInt pt.toInt ∧ NeR (neX (fa 10 0) (a).toInt (iv 11 10).toInt ((iv 10 1).toInt).toNat pt b) (lsP (cxP (fa 10 0) (a).toInt (iv 11 10).toInt 0) ((iv 10 1).toInt).toNat).length (r11 : Int32).toInt)) from (by have hp9 := xr11_0 r5 xr7_2.symm; rw [xr7_0, xr7_1] at hp9; exact Or.inr (Or.inr ⟨⟨by omega, by omega⟩, ⟨by omega, by omega⟩, r5, xr5_0, hp9⟩))), ⟨by omega, by omega⟩, rfl⟩, by rw [ht9]; exact hP9, hD9⟩, hS.F ht9⟩) hS.2.2 dX11_needed_59
        · exact absurd c4 (by decide)
      · skip
        refine lv_if_ne (tgt := 27) hx hb dX11_needed_21 (by decide) (fun c18 => ?_) (fun c18 => ?_)
        · exact absurd rfl c18
        · skip
          refine lv_ldc hx hb hown (ht _ m_456) dX11_needed_24 ?_
          have : ((-100002) : Int32).toInt = (-100002) := (by decide)
          have hP9 : va_P (dC, dI) classes (WX h g ca (u2 (u2 (u2 (u2 (u2 iv 2 3 (iv 2 3)) 2 4 (iv 2 4)) 2 5 (iv 2 5)) 2 6 (iv 2 6)) 2 7 (iv 2 7)) lv (u2 (u2 (u2 fa 1 6 (fa 1 6)) 2 2 (fa 2 2)) 20 2 (fa 20 2)) (u2 (u2 la 20 0 (la 20 0)) 20 1 (la 20 1))) s.heap := hP
          have hD9 : va_D A (WX h g ca (u2 (u2 (u2 (u2 (u2 iv 2 3 (iv 2 3)) 2 4 (iv 2 4)) 2 5 (iv 2 5)) 2 6 (iv 2 6)) 2 7 (iv 2 7)) lv (u2 (u2 (u2 fa 1 6 (fa 1 6)) 2 2 (fa 2 2)) 20 2 (fa 20 2)) (u2 (u2 la 20 0 (la 20 0)) 20 1 (la 20 1))) := hD
          exact W.iret (v := (-100002)) hx hb hr (fun t ht9 hW => ⟨⟨(-100002), ((u2 (u2 (u2 (u2 (u2 iv 2 3 (iv 2 3)) 2 4 (iv 2 4)) 2 5 (iv 2 5)) 2 6 (iv 2 6)) 2 7 (iv 2 7)), lv, (u2 (u2 (u2 fa 1 6 (fa 1 6)) 2 2 (fa 2 2)) 20 2 (fa 20 2)), (u2 (u2 la 20 0 (la 20 0)) 20 1 (la 20 1))), rfl, ⟨(fa 1 6), (fa 2 2), (fa 20 2), (la 20 0), (la 20 1), (iv 2 3), (iv 2 4), (iv 2 5), (iv 2 6), (iv 2 7), (hI.2 1 6), (hI.2 2 2), (show ((((-100002) : Int32).toInt = -100001 ∧ ¬ (0 ≤ (a).toInt ∧ (a).toInt < (iv 0 7).toInt)) ∨ (((-100002) : Int32).toInt = -100002 ∧ (0 ≤ (a).toInt ∧ (a).toInt < (iv 0 7).toInt) ∧ ¬ (1 ≤ (b).toInt ∧ (b).toInt ≤ 100)) ∨ ((0 ≤ (a).toInt ∧ (a).toInt < (iv 0 7).toInt) ∧ (1 ≤ (b).toInt ∧ (b).toInt ≤ 100) ∧ ∃ pt : Int32, FoX (iv 1 7).toInt (fa 1 0) (fa 1 1) (fa 1 2) (fa 1 3) 2 (iv 11 10).toInt pt.toInt ∧ NeR (neX (fa 10 0) (a).toInt (iv 11 10).toInt ((iv 10 1).toInt).toNat pt b) (lsP (cxP (fa 10 0) (a).toInt (iv 11 10).toInt 0) ((iv 10 1).toInt).toNat).length ((-100002) : Int32).toInt)) from Or.inr (Or.inl ⟨by omega, ⟨by omega, by omega⟩, by omega⟩)), ⟨by decide, by decide⟩, rfl⟩, by rw [ht9]; exact hP9, hD9⟩, hS.F ht9⟩) hS.2.2 dX11_needed_26
    · exact absurd c2 (by decide)
  · skip
    have i_0_7 : 0 ≤ (iv 0 7).toInt ∧ (iv 0 7).toInt ≤ 10 := hI.1 0 7
    have fr1 : ¬ (0 ≤ (a : Int32).toInt ∧ (a : Int32).toInt < ((iv 0 7) : Int32).toInt) := fr1
    refine lv_if_ne (tgt := 14) hx hb dX11_needed_8 (by decide) (fun c19 => ?_) (fun c19 => ?_)
    · exact absurd rfl c19
    · skip
      refine lv_ldc hx hb hown (ht _ m_476) dX11_needed_11 ?_
      have : ((-100001) : Int32).toInt = (-100001) := (by decide)
      have hP9 : va_P (dC, dI) classes (WX h g ca (u2 (u2 (u2 (u2 (u2 iv 2 3 (iv 2 3)) 2 4 (iv 2 4)) 2 5 (iv 2 5)) 2 6 (iv 2 6)) 2 7 (iv 2 7)) lv (u2 (u2 (u2 fa 1 6 (fa 1 6)) 2 2 (fa 2 2)) 20 2 (fa 20 2)) (u2 (u2 la 20 0 (la 20 0)) 20 1 (la 20 1))) s.heap := hP
      have hD9 : va_D A (WX h g ca (u2 (u2 (u2 (u2 (u2 iv 2 3 (iv 2 3)) 2 4 (iv 2 4)) 2 5 (iv 2 5)) 2 6 (iv 2 6)) 2 7 (iv 2 7)) lv (u2 (u2 (u2 fa 1 6 (fa 1 6)) 2 2 (fa 2 2)) 20 2 (fa 20 2)) (u2 (u2 la 20 0 (la 20 0)) 20 1 (la 20 1))) := hD
      exact W.iret (v := (-100001)) hx hb hr (fun t ht9 hW => ⟨⟨(-100001), ((u2 (u2 (u2 (u2 (u2 iv 2 3 (iv 2 3)) 2 4 (iv 2 4)) 2 5 (iv 2 5)) 2 6 (iv 2 6)) 2 7 (iv 2 7)), lv, (u2 (u2 (u2 fa 1 6 (fa 1 6)) 2 2 (fa 2 2)) 20 2 (fa 20 2)), (u2 (u2 la 20 0 (la 20 0)) 20 1 (la 20 1))), rfl, ⟨(fa 1 6), (fa 2 2), (fa 20 2), (la 20 0), (la 20 1), (iv 2 3), (iv 2 4), (iv 2 5), (iv 2 6), (iv 2 7), (hI.2 1 6), (hI.2 2 2), (show ((((-100001) : Int32).toInt = -100001 ∧ ¬ (0 ≤ (a).toInt ∧ (a).toInt < (iv 0 7).toInt)) ∨ (((-100001) : Int32).toInt = -100002 ∧ (0 ≤ (a).toInt ∧ (a).toInt < (iv 0 7).toInt) ∧ ¬ (1 ≤ (b).toInt ∧ (b).toInt ≤ 100)) ∨ ((0 ≤ (a).toInt ∧ (a).toInt < (iv 0 7).toInt) ∧ (1 ≤ (b).toInt ∧ (b).toInt ≤ 100) ∧ ∃ pt : Int32, FoX (iv 1 7).toInt (fa 1 0) (fa 1 1) (fa 1 2) (fa 1 3) 2 (iv 11 10).toInt pt.toInt ∧ NeR (neX (fa 10 0) (a).toInt (iv 11 10).toInt ((iv 10 1).toInt).toNat pt b) (lsP (cxP (fa 10 0) (a).toInt (iv 11 10).toInt 0) ((iv 10 1).toInt).toNat).length ((-100001) : Int32).toInt)) from Or.inl ⟨by omega, by omega⟩), ⟨by decide, by decide⟩, rfl⟩, by rw [ht9]; exact hP9, hD9⟩, hS.F ht9⟩) hS.2.2 dX11_needed_13
/-! ===== ne6 ===== -/
set_option maxHeartbeats 4000000 in
set_option maxRecDepth 100000 in
/-- X12_bit -/
theorem c_X12_bit_n (l : Launch) (dC : Nat → ClassId) (dI : Nat → Nat → Nat) (a : Int32) (h_a : 0 ≤ a.toInt ∧ a.toInt ≤ 1) : Met l yX12_bit (wc yX12_bit cX12_bit 1 (some .int)) ({ frames := 0, cells := 0, slots := 0, locals := 0 } : Room) (pR (dC, dI) classes [] [] [.int a]) (vp_Si (fun r => (0 ≤ r.toInt ∧ r.toInt ≤ 1) ∧ (r.toInt = a.toInt))) 0 0 (fun _ => False) := by
  refine Met.ofW (cc := cX12_bit) (maxL := 1) (ret := (some .int)) (by decide) rfl ?_
  intro p e s m args below meth c s₁ B hml hv
  obtain ⟨rfl, hP, hK⟩ := hv
  have hx := B.exec
  have hb := B.bytes
  have hr := B.returns
  have ht := tb_tl (atoms_spec (ws := wc yX12_bit cX12_bit 1 (some .int)) B.pre)
  have hown : s.vm.findClass RX12 = some m.cls := findClass_of_methodNamed B.named
  have hlocks := B.notSynchronized
  have hl := lv_entry [.int a] (n := 1) (Nat.le_of_ble_eq_true rfl)
  rw [lg_entry_eq]
  generalize (lg_sl [.int a] ++ List.replicate (1 - (lg_sl [.int a]).length) Slot.unset).toArray = ls at hl ⊢
  have hl : lv_has ls 1 [(0, .int a)] := hl
  refine lv_iload_n hx hb dX12_bit_0 rfl (lv_at hl 0 rfl) ?_
  refine lv_if_eq (tgt := 8) hx hb dX12_bit_1 (by decide) (fun c1 => ?_) (fun c1 => ?_)
  · have fc1 := z_eq (rfl : (a).toInt = _) (by decide : (0 : Int32).toInt = 0) c1
    refine lv_iconst (v := 0) hx hb dX12_bit_8 (by decide) ?_
    have : (0 : Int32).toInt = 0 := (by decide)
    exact W.iret (v := 0) hx hb hr (fun t ht9 hW => ⟨0, rfl, ⟨⟨by decide, by decide⟩, (show (0 : Int32).toInt = (a).toInt from by omega)⟩, ht9⟩) (fun q hq => by cases hq) dX12_bit_9
  · have fc1 := z_ne (rfl : (a).toInt = _) (by decide : (0 : Int32).toInt = 0) c1
    refine lv_iconst (v := 1) hx hb dX12_bit_4 (by decide) ?_
    refine lv_goto (tgt := 9) hx hb dX12_bit_5 (by decide) ?_
    have : (1 : Int32).toInt = 1 := (by decide)
    exact W.iret (v := 1) hx hb hr (fun t ht9 hW => ⟨1, rfl, ⟨⟨by decide, by decide⟩, (show (1 : Int32).toInt = (a).toInt from by omega)⟩, ht9⟩) (fun q hq => by cases hq) dX12_bit_9
set_option maxHeartbeats 4000000 in
set_option maxRecDepth 100000 in
/-- X12_ones -/
theorem c_X12_ones_n (l : Launch) (dC : Nat → ClassId) (dI : Nat → Nat → Nat) (a : Int32) (h_a : 0 ≤ a.toInt ∧ a.toInt ≤ 4095) : Met l yX12_ones (wc yX12_ones cX12_ones 3 (some .int)) ({ frames := 0, cells := 0, slots := 0, locals := 0 } : Room) (pR (dC, dI) classes [] [] [.int a]) (vp_Si (fun r => (0 ≤ r.toInt ∧ r.toInt ≤ 19) ∧ (r.toInt = ((pp (a.toInt).toNat 16 : Nat) : Int)))) 0 0 (fun _ => False) := by
  refine Met.ofW (cc := cX12_ones) (maxL := 3) (ret := (some .int)) (by decide) rfl ?_
  intro p e s m args below meth c s₁ B hml hv
  obtain ⟨rfl, hP, hK⟩ := hv
  have hx := B.exec
  have hb := B.bytes
  have hr := B.returns
  have ht := tb_tl (atoms_spec (ws := wc yX12_ones cX12_ones 3 (some .int)) B.pre)
  have hown : s.vm.findClass RX12 = some m.cls := findClass_of_methodNamed B.named
  have hlocks := B.notSynchronized
  have hl := lv_entry [.int a] (n := 3) (Nat.le_of_ble_eq_true rfl)
  rw [lg_entry_eq]
  generalize (lg_sl [.int a] ++ List.replicate (3 - (lg_sl [.int a]).length) Slot.unset).toArray = ls at hl ⊢
  have hl : lv_has ls 3 [(0, .int a)] := hl
  refine lv_iconst (v := 0) hx hb dX12_ones_0 (by decide) ?_
  refine lv_istore_n (lv' := [(1, .int 0), (0, .int a)]) hx hb dX12_ones_1 rfl hl (by decide) rfl (fun ls hl => ?_)
  refine lv_iconst (v := 0) hx hb dX12_ones_2 (by decide) ?_
  refine lv_istore_n (lv' := [(2, .int 0), (1, .int 0), (0, .int a)]) hx hb dX12_ones_3 rfl hl (by decide) rfl (fun ls hl => ?_)
  have lp92 : ∀ (nn92 : Nat) (x91_2 : Int32) (x91_1 : Int32), 0 ≤ x91_2.toInt ∧ x91_2.toInt ≤ 19 → 0 ≤ x91_1.toInt ∧ x91_1.toInt ≤ 19 → ((x91_1 : Int32).toInt = ((ns (fun j : Nat => ((a).toInt).toNat / 2 ^ j % 2) ((x91_2 : Int32).toInt).toNat : Nat) : Int)) → 0 ≤ (x91_1 : Int32).toInt → (x91_1 : Int32).toInt ≤ (x91_2 : Int32).toInt → (x91_2 : Int32).toInt ≤ 16 → 19 - x91_2.toInt < (nn92 : Int) → ∀ (ls : Array Slot), lv_has ls 3 [(2, .int x91_2), (1, .int x91_1), (0, .int a)] → W p l e ({ frames := 0, cells := 0, slots := 0, locals := 0 } : Room) s m ([.int a] : List Value).toArray below meth c s.heap [] 0 0 (MQ below (vp_Si (fun r => (0 ≤ r.toInt ∧ r.toInt ≤ 19) ∧ (r.toInt = ((pp (a.toInt).toNat 16 : Nat) : Int)))) ([.int a] : List Value).toArray s 0 0 (fun _ => False)) (F0 m 4 ls []) := by
    intro nn92
    induction nn92 with
    | zero => intro x91_2 x91_1 hx91_2 hx91_1 hq92_0 hq92_1 hq92_2 hq92_3 hm92; exfalso; omega
    | succ nn92 ih92 =>
      intro x91_2 x91_1 hx91_2 hx91_1 hq92_0 hq92_1 hq92_2 hq92_3 hm92 ls hl
      refine lv_iload_n hx hb dX12_ones_4 rfl (lv_at hl 0 rfl) ?_
      refine lv_bipush (v := 16) hx hb dX12_ones_5 (by decide) ?_
      refine lv_icmp_ge (tgt := 24) hx hb dX12_ones_7 (by decide) (fun c93 => ?_) (fun c93 => ?_)
      · have fc93 := z_le (by decide : (16 : Int32).toInt = 16) (rfl : (x91_2).toInt = _) c93
        refine lv_iload_n hx hb dX12_ones_24 rfl (lv_at hl 1 rfl) ?_
        exact W.iret (v := x91_1) hx hb hr (fun t ht9 hW => ⟨x91_1, rfl, ⟨⟨by omega, by omega⟩, (show (x91_1 : Int32).toInt = ((pp ((a).toInt).toNat 16 : Nat) : Int) from (by have hq9 := hq92_0; rw [show ((x91_2 : Int32).toInt).toNat = 16 from by omega, pp_ns] at hq9; exact hq9))⟩, ht9⟩) (fun q hq => by cases hq) dX12_ones_25
      · have fc93 := z_nle (by decide : (16 : Int32).toInt = 16) (rfl : (x91_2).toInt = _) c93
        have : 0 ≤ (x91_1 : Int32).toInt ∧ (x91_1 : Int32).toInt ≤ 15 := ⟨by omega, by omega⟩
        refine lv_iload_n hx hb dX12_ones_10 rfl (lv_at hl 1 rfl) ?_
        refine lv_iload_n hx hb dX12_ones_11 rfl (lv_at hl 2 rfl) ?_
        refine lv_iload_n hx hb dX12_ones_12 rfl (lv_at hl 0 rfl) ?_
        refine lv_ishr hx hb dX12_ones_13 ?_
        refine lv_topi (fun v94 ev94 => ?_)
        refine lv_iconst (v := 1) hx hb dX12_ones_14 (by decide) ?_
        refine lv_iand hx hb dX12_ones_15 ?_
        refine lv_topi (fun v95 ev95 => ?_)
        have hb9 := bt_n ev94 ev95 (by omega) ⟨by omega, by omega⟩
        have : 0 ≤ (v95 : Int32).toInt ∧ (v95 : Int32).toInt ≤ 1 := ⟨by omega, by omega⟩
        refine lv_iadd hx hb dX12_ones_16 ?_
        refine lv_topi (fun v96 ev96 => ?_)
        have tv96 := z_add ev96 (rfl : (x91_1).toInt = _) (rfl : (v95).toInt = _) (by omega) (by omega)
        refine lv_istore_n (lv' := [(1, .int v96), (2, .int x91_2), (0, .int a)]) hx hb dX12_ones_17 rfl hl (by decide) rfl (fun ls hl => ?_)
        obtain ⟨v97, ev97⟩ : ∃ y : Int32, y = x91_2 + 1 := ⟨_, rfl⟩
        have tv97 := z_add ev97 rfl (by decide : (1 : Int32).toInt = 1) (by omega) (by omega)
        refine lv_iinc (v := v97) (lv' := [(2, .int v97), (1, .int v96), (0, .int a)]) hx hb dX12_ones_18 hl (k := 1) rfl (by rw [ev97]; rfl) (by decide) rfl (fun ls hl => ?_)
        refine lv_goto (tgt := 4) hx hb dX12_ones_21 (by decide) ?_
        exact ih92 v97 v96 ⟨by omega, by omega⟩ ⟨by omega, by omega⟩ (show (v96 : Int32).toInt = ((ns (fun j : Nat => ((a).toInt).toNat / 2 ^ j % 2) ((v97 : Int32).toInt).toNat : Nat) : Int) from (by
              have hs9 : ((v97 : Int32).toInt).toNat = ((x91_2 : Int32).toInt).toNat + 1 := by omega
              have hq9 := hq92_0
              rw [ns_s hs9]
              show (v96 : Int32).toInt = ((ns (fun j : Nat => (a.toInt).toNat / 2 ^ j % 2) ((x91_2 : Int32).toInt).toNat + (a.toInt).toNat / 2 ^ ((x91_2 : Int32).toInt).toNat % 2 : Nat) : Int)
              omega)) (show 0 ≤ (v96 : Int32).toInt from by omega) (show (v96 : Int32).toInt ≤ (v97 : Int32).toInt from by omega) (show (v97 : Int32).toInt ≤ 16 from by omega) (by omega) ls (lv_sub hl [0, 1, 2] rfl)
  have : (0 : Int32).toInt = 0 := (by decide)
  exact lp92 20 0 0 ⟨by decide, by decide⟩ ⟨by decide, by decide⟩ (show (0 : Int32).toInt = ((ns (fun j : Nat => ((a).toInt).toNat / 2 ^ j % 2) ((0 : Int32).toInt).toNat : Nat) : Int) from (by have hz : ((0 : Int32).toInt).toNat = 0 := (by decide); rw [hz]; exact (by decide : (0 : Int32).toInt = 0))) (show 0 ≤ (0 : Int32).toInt from by omega) (show (0 : Int32).toInt ≤ (0 : Int32).toInt from by omega) (show (0 : Int32).toInt ≤ 16 from by omega) (by first | decide | omega) ls (lv_sub hl [0, 1, 2] rfl)
/-! ===== ne7 ===== -/
set_option maxHeartbeats 4000000 in
set_option maxRecDepth 100000 in
/-- X12_isEnough -/
theorem c_X12_isEnough_n (l : Launch) (dC : Nat → ClassId) (dI : Nat → Nat → Nat) (h : Nat) (g : Nat → Nat → Nat) (ca : Nat → Nat → ClassId) (iv : Nat → Nat → Int32) (lv : Nat → Nat → Int64) (fa : Nat → Nat → Nat → Int32) (la : Nat → Nat → Nat → Int64) (hI : IX iv fa) (mm : Int32) (n : Int32) (a : Int32) (b : Int32) (h_mm : 0 ≤ mm.toInt ∧ mm.toInt ≤ 12) (h_n : 0 ≤ n.toInt ∧ n.toInt ≤ 12) : Met l yX12_isEnough (wc yX12_isEnough cX12_isEnough 13 (some .boolean)) ({ frames := 2, cells := 0, slots := 0, locals := 49 } : Room) (pR (dC, dI) classes (WM h g ca iv lv fa la) (TM ca) [.ref h, .int mm, .int n, .int a, .int b]) (vp_Si (fun r => (0 ≤ r.toInt ∧ r.toInt ≤ 1) ∧ (∀ DD RR : Int64, DD.toInt = (lv 12 17).toInt → RR.toInt = (lv 12 18).toInt → ((r.toInt = 1 ∧ enY (fun q : Nat => ((fa 12 8) (((fa 12 50) q).toInt).toNat).toInt64) (fun q : Nat => ((fa 12 7) (((fa 12 50) q).toInt).toNat).toInt64) (mm.toInt).toNat DD RR a b (n.toInt).toNat) ∨ (r.toInt = 0 ∧ ¬ enY (fun q : Nat => ((fa 12 8) (((fa 12 50) q).toInt).toNat).toInt64) (fun q : Nat => ((fa 12 7) (((fa 12 50) q).toInt).toNat).toInt64) (mm.toInt).toNat DD RR a b (n.toInt).toNat))))) 0 0 (fun _ => False) := by
  refine Met.ofW (cc := cX12_isEnough) (maxL := 13) (ret := (some .boolean)) (by decide) rfl ?_
  intro p e s m args below meth c s₁ B hml hv
  obtain ⟨rfl, hP, hK⟩ := hv
  have hx := B.exec
  have hb := B.bytes
  have hr := B.returns
  have ht := tb_tl (atoms_spec (ws := wc yX12_isEnough cX12_isEnough 13 (some .boolean)) B.pre)
  have hown : s.vm.findClass RX12 = some m.cls := findClass_of_methodNamed B.named
  have hlocks := B.notSynchronized
  have hl := lv_entry [.ref h, .int mm, .int n, .int a, .int b] (n := 13) (Nat.le_of_ble_eq_true rfl)
  rw [lg_entry_eq]
  generalize (lg_sl [.ref h, .int mm, .int n, .int a, .int b] ++ List.replicate (13 - (lg_sl [.ref h, .int mm, .int n, .int a, .int b]).length) Slot.unset).toArray = ls at hl ⊢
  have hl : lv_has ls 13 [(0, .ref h), (1, .int mm), (2, .int n), (3, .int a), (4, .int b)] := hl
  refine lv_iconst (v := 0) hx hb dX12_isEnough_0 (by decide) ?_
  refine lv_istore (lv' := [(5, .int 0), (0, .ref h), (1, .int mm), (2, .int n), (3, .int a), (4, .int b)]) hx hb dX12_isEnough_1 hl (by decide) rfl (fun ls hl => ?_)
  refine lv_iconst (v := 0) hx hb dX12_isEnough_3 (by decide) ?_
  refine lv_istore (lv' := [(6, .int 0), (5, .int 0), (0, .ref h), (1, .int mm), (2, .int n), (3, .int a), (4, .int b)]) hx hb dX12_isEnough_4 hl (by decide) rfl (fun ls hl => ?_)
  refine lv_iconst (v := 0) hx hb dX12_isEnough_6 (by decide) ?_
  refine lv_istore (lv' := [(7, .int 0), (6, .int 0), (5, .int 0), (0, .ref h), (1, .int mm), (2, .int n), (3, .int a), (4, .int b)]) hx hb dX12_isEnough_7 hl (by decide) rfl (fun ls hl => ?_)
  have lp15079 : ∀ (nn15079 : Nat) (x15078_7 : Int32) (x15078_6 : Int32) (x15078_5 : Int32), 0 ≤ x15078_7.toInt ∧ x15078_7.toInt ≤ 9999 → ((x15078_5 : Int32).toInt = (oN (ns (yF nO (fun q : Nat => ((fa 12 8) (((fa 12 50) q).toInt).toNat).toInt64) (fun q : Nat => ((fa 12 7) (((fa 12 50) q).toInt).toNat).toInt64) ((mm).toInt).toNat ((n).toInt).toNat) ((x15078_7 : Int32).toInt).toNat)).toInt) → (∀ DD RR : Int64, DD.toInt = (lv 12 17).toInt → RR.toInt = (lv 12 18).toInt → (x15078_6 : Int32).toInt = (oN (ns (yF (nFy DD RR a) (fun q : Nat => ((fa 12 8) (((fa 12 50) q).toInt).toNat).toInt64) (fun q : Nat => ((fa 12 7) (((fa 12 50) q).toInt).toNat).toInt64) ((mm).toInt).toNat ((n).toInt).toNat) ((x15078_7 : Int32).toInt).toNat)).toInt) → (x15078_7 : Int32).toInt ≤ 4096 → 0 ≤ (x15078_7 : Int32).toInt → (x15078_7 : Int32).toInt ≤ ((tw2 ((mm).toInt).toNat : Nat) : Int) → 4096 - (x15078_7 : Int32).toInt < (nn15079 : Int) → ∀ (ls : Array Slot), lv_has ls 13 [(7, .int x15078_7), (6, .int x15078_6), (5, .int x15078_5), (0, .ref h), (1, .int mm), (2, .int n), (3, .int a), (4, .int b)] → W p l e ({ frames := 2, cells := 0, slots := 0, locals := 49 } : Room) s m ([.ref h, .int mm, .int n, .int a, .int b] : List Value).toArray below meth c s.heap [] 0 0 (MQ below (vp_Si (fun r => (0 ≤ r.toInt ∧ r.toInt ≤ 1) ∧ (∀ DD RR : Int64, DD.toInt = (lv 12 17).toInt → RR.toInt = (lv 12 18).toInt → ((r.toInt = 1 ∧ enY (fun q : Nat => ((fa 12 8) (((fa 12 50) q).toInt).toNat).toInt64) (fun q : Nat => ((fa 12 7) (((fa 12 50) q).toInt).toNat).toInt64) (mm.toInt).toNat DD RR a b (n.toInt).toNat) ∨ (r.toInt = 0 ∧ ¬ enY (fun q : Nat => ((fa 12 8) (((fa 12 50) q).toInt).toNat).toInt64) (fun q : Nat => ((fa 12 7) (((fa 12 50) q).toInt).toNat).toInt64) (mm.toInt).toNat DD RR a b (n.toInt).toNat))))) ([.ref h, .int mm, .int n, .int a, .int b] : List Value).toArray s 0 0 (fun _ => False)) (F0 m 9 ls []) := by
    intro nn15079
    induction nn15079 with
    | zero => intro x15078_7 x15078_6 x15078_5 hx15078_7 hq15079_0 hq15079_1 hq15079_2 hq15079_3 hq15079_4 hm15079; exfalso; omega
    | succ nn15079 ih15079 =>
      intro x15078_7 x15078_6 x15078_5 hx15078_7 hq15079_0 hq15079_1 hq15079_2 hq15079_3 hq15079_4 hm15079 ls hl
      refine lv_iload hx hb dX12_isEnough_9 (lv_at hl 0 rfl) ?_
      refine lv_iconst (v := 1) hx hb dX12_isEnough_11 (by decide) ?_
      refine lv_iload_n hx hb dX12_isEnough_12 rfl (lv_at hl 4 rfl) ?_
      refine lv_ishl hx hb dX12_isEnough_13 ?_
      refine lv_topi (fun v15080 ev15080 => ?_)
      have tv15080 := shl1c ev15080 ⟨by omega, by omega⟩
      have hv9 : (v15080 : Int32).toInt = ((tw2 (mm.toInt).toNat : Nat) : Int) := sl_n ev15080 ⟨by omega, by omega⟩
      refine lv_icmp_ge (tgt := 132) hx hb dX12_isEnough_14 (by decide) (fun c15081 => ?_) (fun c15081 => ?_)
      · have fc15081 := z_le (rfl : (v15080).toInt = _) (rfl : (x15078_7).toInt = _) c15081
        refine lv_bipush (v := 100) hx hb dX12_isEnough_132 (by decide) ?_
        refine lv_iload hx hb dX12_isEnough_134 (lv_at hl 1 rfl) ?_
        refine lv_imul hx hb dX12_isEnough_136 ?_
        refine lv_topi (fun v15082 ev15082 => ?_)
        refine lv_iload hx hb dX12_isEnough_137 (lv_at hl 7 rfl) ?_
        refine lv_iload hx hb dX12_isEnough_139 (lv_at hl 2 rfl) ?_
        refine lv_imul hx hb dX12_isEnough_141 ?_
        refine lv_topi (fun v15083 ev15083 => ?_)
        refine lv_icmp_gt (tgt := 149) hx hb dX12_isEnough_142 (by decide) (fun c15084 => ?_) (fun c15084 => ?_)
        · have fc15084 := z_lt (rfl : (v15083).toInt = _) (rfl : (v15082).toInt = _) c15084
          refine lv_iconst (v := 0) hx hb dX12_isEnough_149 (by decide) ?_
          have : (0 : Int32).toInt = 0 := (by decide)
          exact W.zret (v := 0) hx hb hr rfl (fun t ht9 hW => ⟨0, rfl, ⟨⟨by decide, by decide⟩, (show ∀ DD RR : Int64, DD.toInt = (lv 12 17).toInt → RR.toInt = (lv 12 18).toInt → (((0 : Int32).toInt = 1 ∧ enY (fun q : Nat => ((fa 12 8) (((fa 12 50) q).toInt).toNat).toInt64) (fun q : Nat => ((fa 12 7) (((fa 12 50) q).toInt).toNat).toInt64) ((mm).toInt).toNat DD RR a b ((n).toInt).toNat) ∨ ((0 : Int32).toInt = 0 ∧ ¬ enY (fun q : Nat => ((fa 12 8) (((fa 12 50) q).toInt).toNat).toInt64) (fun q : Nat => ((fa 12 7) (((fa 12 50) q).toInt).toNat).toInt64) ((mm).toInt).toNat DD RR a b ((n).toInt).toNat)) from (fun DD RR h1 h2 => by
                have hw9 : (x15078_5 : Int32) = oN (ns (yF nO (fun q : Nat => ((fa 12 8) (((fa 12 50) q).toInt).toNat).toInt64) (fun q : Nat => ((fa 12 7) (((fa 12 50) q).toInt).toNat).toInt64) (mm.toInt).toNat (n.toInt).toNat) ((x15078_7 : Int32).toInt).toNat) := Int32.toInt_inj.mp hq15079_0
                have hf9 : (x15078_6 : Int32) = oN (ns (yF (nFy DD RR a) (fun q : Nat => ((fa 12 8) (((fa 12 50) q).toInt).toNat).toInt64) (fun q : Nat => ((fa 12 7) (((fa 12 50) q).toInt).toNat).toInt64) (mm.toInt).toNat (n.toInt).toNat) ((x15078_7 : Int32).toInt).toNat) := Int32.toInt_inj.mp (hq15079_1 DD RR h1 h2)
                rw [show ((x15078_7 : Int32).toInt).toNat = tw2 (mm.toInt).toNat from by omega] at hw9 hf9
                have hE9 : enY (fun q : Nat => ((fa 12 8) (((fa 12 50) q).toInt).toNat).toInt64) (fun q : Nat => ((fa 12 7) (((fa 12 50) q).toInt).toNat).toInt64) (mm.toInt).toNat DD RR a b (n.toInt).toNat ↔ (v15082 : Int32).toInt ≤ (v15083 : Int32).toInt := by
                  rw [ev15082, ev15083, hw9, hf9]
                  exact Iff.rfl
                exact Or.inr ⟨by omega, fun z => absurd (hE9.mp z) (by omega)⟩))⟩, ht9⟩) (fun q hq => by cases hq) dX12_isEnough_150
        · have fc15084 := z_nlt (rfl : (v15083).toInt = _) (rfl : (v15082).toInt = _) c15084
          refine lv_iconst (v := 1) hx hb dX12_isEnough_145 (by decide) ?_
          refine lv_goto (tgt := 150) hx hb dX12_isEnough_146 (by decide) ?_
          have : (1 : Int32).toInt = 1 := (by decide)
          exact W.zret (v := 1) hx hb hr rfl (fun t ht9 hW => ⟨1, rfl, ⟨⟨by decide, by decide⟩, (show ∀ DD RR : Int64, DD.toInt = (lv 12 17).toInt → RR.toInt = (lv 12 18).toInt → (((1 : Int32).toInt = 1 ∧ enY (fun q : Nat => ((fa 12 8) (((fa 12 50) q).toInt).toNat).toInt64) (fun q : Nat => ((fa 12 7) (((fa 12 50) q).toInt).toNat).toInt64) ((mm).toInt).toNat DD RR a b ((n).toInt).toNat) ∨ ((1 : Int32).toInt = 0 ∧ ¬ enY (fun q : Nat => ((fa 12 8) (((fa 12 50) q).toInt).toNat).toInt64) (fun q : Nat => ((fa 12 7) (((fa 12 50) q).toInt).toNat).toInt64) ((mm).toInt).toNat DD RR a b ((n).toInt).toNat)) from (fun DD RR h1 h2 => by
                have hw9 : (x15078_5 : Int32) = oN (ns (yF nO (fun q : Nat => ((fa 12 8) (((fa 12 50) q).toInt).toNat).toInt64) (fun q : Nat => ((fa 12 7) (((fa 12 50) q).toInt).toNat).toInt64) (mm.toInt).toNat (n.toInt).toNat) ((x15078_7 : Int32).toInt).toNat) := Int32.toInt_inj.mp hq15079_0
                have hf9 : (x15078_6 : Int32) = oN (ns (yF (nFy DD RR a) (fun q : Nat => ((fa 12 8) (((fa 12 50) q).toInt).toNat).toInt64) (fun q : Nat => ((fa 12 7) (((fa 12 50) q).toInt).toNat).toInt64) (mm.toInt).toNat (n.toInt).toNat) ((x15078_7 : Int32).toInt).toNat) := Int32.toInt_inj.mp (hq15079_1 DD RR h1 h2)
                rw [show ((x15078_7 : Int32).toInt).toNat = tw2 (mm.toInt).toNat from by omega] at hw9 hf9
                have hE9 : enY (fun q : Nat => ((fa 12 8) (((fa 12 50) q).toInt).toNat).toInt64) (fun q : Nat => ((fa 12 7) (((fa 12 50) q).toInt).toNat).toInt64) (mm.toInt).toNat DD RR a b (n.toInt).toNat ↔ (v15082 : Int32).toInt ≤ (v15083 : Int32).toInt := by
                  rw [ev15082, ev15083, hw9, hf9]
                  exact Iff.rfl
                exact Or.inl ⟨by omega, hE9.mpr (by omega)⟩))⟩, ht9⟩) (fun q hq => by cases hq) dX12_isEnough_150
      · have fc15081 := z_nle (rfl : (v15080).toInt = _) (rfl : (x15078_7).toInt = _) c15081
        refine lv_iload hx hb dX12_isEnough_17 (lv_at hl 0 rfl) ?_
        refine vp_callSi (W.runS (As := [.int x15078_7]) (rest := []) ⟨hx, hb, hml, hown, ht⟩ (c_X12_ones_n l dC dI x15078_7 ⟨by omega, by omega⟩) (kS 1 ht m_1606 m_1607 m_89 m_1608 rfl rfl hd_X12_ones_v ⟨Nat.le_of_ble_eq_true rfl, Nat.le_of_ble_eq_true rfl⟩) (sR noP (hK.sub (tys' := []) [] rfl)) rfl rfl hl.1 rfl (lv_room (Nat.le_of_ble_eq_true rfl)) dX12_isEnough_19 ⟨Nat.le_of_ble_eq_true rfl, Nat.le_of_ble_eq_true rfl⟩) (fun r15085 hr15085 => ?_)
        obtain ⟨hr15085, xr15085_0⟩ := hr15085
        have xr15085_0 : (r15085 : Int32).toInt = ((pp ((x15078_7 : Int32).toInt).toNat 16 : Nat) : Int) := xr15085_0
        refine lv_iload_n hx hb dX12_isEnough_22 rfl (lv_at hl 5 rfl) ?_
        refine lv_icmp_ne (tgt := 126) hx hb dX12_isEnough_23 (by decide) (fun c15086 => ?_) (fun c15086 => ?_)
        · have fc15086 := z_ne (rfl : (r15085).toInt = _) (rfl : (n).toInt = _) c15086
          obtain ⟨v15087, ev15087⟩ : ∃ y : Int32, y = x15078_7 + 1 := ⟨_, rfl⟩
          have tv15087 := z_add ev15087 rfl (by decide : (1 : Int32).toInt = 1) (by omega) (by omega)
          refine lv_iinc (v := v15087) (lv' := [(7, .int v15087), (6, .int x15078_6), (5, .int x15078_5), (0, .ref h), (1, .int mm), (2, .int n), (3, .int a), (4, .int b)]) hx hb dX12_isEnough_126 hl (k := 0) rfl (by rw [ev15087]; rfl) (by decide) rfl (fun ls hl => ?_)
          refine lv_goto (tgt := 9) hx hb dX12_isEnough_129 (by decide) ?_
          exact ih15079 v15087 x15078_6 x15078_5 ⟨by omega, by omega⟩ (show (x15078_5 : Int32).toInt = (oN (ns (yF nO (fun q : Nat => ((fa 12 8) (((fa 12 50) q).toInt).toNat).toInt64) (fun q : Nat => ((fa 12 7) (((fa 12 50) q).toInt).toNat).toInt64) ((mm).toInt).toNat ((n).toInt).toNat) ((v15087 : Int32).toInt).toNat)).toInt from (by
                have hs9 : ((v15087 : Int32).toInt).toNat = ((x15078_7 : Int32).toInt).toNat + 1 := by omega
                have ho9 := xr15085_0
                rw [ns_s hs9, yF_n (by omega), Nat.add_zero]; exact hq15079_0)) (show ∀ DD RR : Int64, DD.toInt = (lv 12 17).toInt → RR.toInt = (lv 12 18).toInt → (x15078_6 : Int32).toInt = (oN (ns (yF (nFy DD RR a) (fun q : Nat => ((fa 12 8) (((fa 12 50) q).toInt).toNat).toInt64) (fun q : Nat => ((fa 12 7) (((fa 12 50) q).toInt).toNat).toInt64) ((mm).toInt).toNat ((n).toInt).toNat) ((v15087 : Int32).toInt).toNat)).toInt from (fun DD RR h1 h2 => by
                have hs9 : ((v15087 : Int32).toInt).toNat = ((x15078_7 : Int32).toInt).toNat + 1 := by omega
                have ho9 := xr15085_0
                rw [ns_s hs9, yF_n (by omega), Nat.add_zero]; exact hq15079_1 DD RR h1 h2)) (show (v15087 : Int32).toInt ≤ 4096 from by omega) (show 0 ≤ (v15087 : Int32).toInt from by omega) (show (v15087 : Int32).toInt ≤ ((tw2 ((mm).toInt).toNat : Nat) : Int) from by omega) (by omega) ls (lv_sub hl [0, 1, 2, 3, 4, 5, 6, 7] rfl)
        · have fc15086 := z_eq (rfl : (r15085).toInt = _) (rfl : (n).toInt = _) c15086
          refine lv_lconst (v := 0) hx hb dX12_isEnough_26 (by decide) ?_
          refine lv_lstore (lv' := [(8, .long 0), (7, .int x15078_7), (6, .int x15078_6), (5, .int x15078_5), (0, .ref h), (1, .int mm), (2, .int n), (3, .int a), (4, .int b)]) hx hb dX12_isEnough_27 hl (by decide) rfl (fun ls hl => ?_)
          refine lv_lconst (v := 0) hx hb dX12_isEnough_29 (by decide) ?_
          refine lv_lstore (lv' := [(10, .long 0), (8, .long 0), (7, .int x15078_7), (6, .int x15078_6), (5, .int x15078_5), (0, .ref h), (1, .int mm), (2, .int n), (3, .int a), (4, .int b)]) hx hb dX12_isEnough_30 hl (by decide) rfl (fun ls hl => ?_)
          refine lv_iconst (v := 0) hx hb dX12_isEnough_32 (by decide) ?_
          refine lv_istore (lv' := [(12, .int 0), (10, .long 0), (8, .long 0), (7, .int x15078_7), (6, .int x15078_6), (5, .int x15078_5), (0, .ref h), (1, .int mm), (2, .int n), (3, .int a), (4, .int b)]) hx hb dX12_isEnough_33 hl (by decide) rfl (fun ls hl => ?_)
          have lp15349 : ∀ (nn15349 : Nat) (x15348_12 : Int32) (x15348_10 : Int64) (x15348_8 : Int64), 0 ≤ x15348_12.toInt ∧ x15348_12.toInt ≤ 12 → ((x15348_8 : Int64) = bsm (fun q : Nat => ((fa 12 8) (((fa 12 50) q).toInt).toNat).toInt64) ((x15078_7 : Int32).toInt).toNat ((x15348_12 : Int32).toInt).toNat) → ((x15348_10 : Int64) = bsm (fun q : Nat => ((fa 12 7) (((fa 12 50) q).toInt).toNat).toInt64) ((x15078_7 : Int32).toInt).toNat ((x15348_12 : Int32).toInt).toNat) → (x15348_12 : Int32).toInt ≤ (mm).toInt → 12 - x15348_12.toInt < (nn15349 : Int) → ∀ (ls : Array Slot), lv_has ls 13 [(12, .int x15348_12), (10, .long x15348_10), (8, .long x15348_8), (7, .int x15078_7), (6, .int x15078_6), (5, .int x15078_5), (0, .ref h), (1, .int mm), (2, .int n), (3, .int a), (4, .int b)] → W p l e ({ frames := 2, cells := 0, slots := 0, locals := 49 } : Room) s m ([.ref h, .int mm, .int n, .int a, .int b] : List Value).toArray below meth c s.heap [] 0 0 (MQ below (vp_Si (fun r => (0 ≤ r.toInt ∧ r.toInt ≤ 1) ∧ (∀ DD RR : Int64, DD.toInt = (lv 12 17).toInt → RR.toInt = (lv 12 18).toInt → ((r.toInt = 1 ∧ enY (fun q : Nat => ((fa 12 8) (((fa 12 50) q).toInt).toNat).toInt64) (fun q : Nat => ((fa 12 7) (((fa 12 50) q).toInt).toNat).toInt64) (mm.toInt).toNat DD RR a b (n.toInt).toNat) ∨ (r.toInt = 0 ∧ ¬ enY (fun q : Nat => ((fa 12 8) (((fa 12 50) q).toInt).toNat).toInt64) (fun q : Nat => ((fa 12 7) (((fa 12 50) q).toInt).toNat).toInt64) (mm.toInt).toNat DD RR a b (n.toInt).toNat))))) ([.ref h, .int mm, .int n, .int a, .int b] : List Value).toArray s 0 0 (fun _ => False)) (F0 m 35 ls []) := by
            intro nn15349
            induction nn15349 with
            | zero => intro x15348_12 x15348_10 x15348_8 hx15348_12 hq15349_0 hq15349_1 hq15349_2 hm15349; exfalso; omega
            | succ nn15349 ih15349 =>
              intro x15348_12 x15348_10 x15348_8 hx15348_12 hq15349_0 hq15349_1 hq15349_2 hm15349 ls hl
              refine lv_iload hx hb dX12_isEnough_35 (lv_at hl 0 rfl) ?_
              refine lv_iload_n hx hb dX12_isEnough_37 rfl (lv_at hl 7 rfl) ?_
              refine lv_icmp_ge (tgt := 99) hx hb dX12_isEnough_38 (by decide) (fun c15350 => ?_) (fun c15350 => ?_)
              · have fc15350 := z_le (rfl : (mm).toInt = _) (rfl : (x15348_12).toInt = _) c15350
                obtain ⟨v15351, ev15351⟩ : ∃ y : Int32, y = x15078_5 + 1 := ⟨_, rfl⟩
                refine lv_iinc (v := v15351) (lv' := [(5, .int v15351), (12, .int x15348_12), (10, .long x15348_10), (8, .long x15348_8), (7, .int x15078_7), (6, .int x15078_6), (0, .ref h), (1, .int mm), (2, .int n), (3, .int a), (4, .int b)]) hx hb dX12_isEnough_99 hl (k := 5) rfl (by rw [ev15351]; rfl) (by decide) rfl (fun ls hl => ?_)
                refine lv_iload hx hb dX12_isEnough_102 (lv_at hl 5 rfl) ?_
                refine lv_lload hx hb dX12_isEnough_104 (lv_at hl 3 rfl) ?_
                refine lv_lload hx hb dX12_isEnough_106 (lv_at hl 2 rfl) ?_
                refine lv_aload_n hx hb dX12_isEnough_108 rfl (lv_at hl 6 rfl) ?_
                refine gM_12_17 hx hb ht hown hK hP m_1156 (v := (lv 12 17)) rfl dX12_isEnough_109 ?_
                refine lv_aload_n hx hb dX12_isEnough_112 rfl (lv_at hl 6 rfl) ?_
                refine gM_12_18 hx hb ht hown hK hP m_1157 (v := (lv 12 18)) rfl dX12_isEnough_113 ?_
                refine lv_iload_n hx hb dX12_isEnough_116 rfl (lv_at hl 9 rfl) ?_
                refine vp_callSi (W.runS (As := [.long x15348_8, .long x15348_10, .long (lv 12 17), .long (lv 12 18), .int a]) (rest := [.int x15078_6]) ⟨hx, hb, hml, hown, ht⟩ (c_X12_doPart_f l dC dI x15348_8 x15348_10 (lv 12 17) (lv 12 18) a) (kS 5 ht m_1540 m_1541 m_89 m_1542 rfl rfl hd_X12_doPart_v ⟨Nat.le_of_ble_eq_true rfl, Nat.le_of_ble_eq_true rfl⟩) (sR noP (hK.sub (tys' := []) [] rfl)) rfl rfl hl.1 rfl (lv_room (Nat.le_of_ble_eq_true rfl)) dX12_isEnough_117 ⟨Nat.le_of_ble_eq_true rfl, Nat.le_of_ble_eq_true rfl⟩) (fun r15352 hr15352 => ?_)
                obtain ⟨hr15352, xr15352_0⟩ := hr15352
                have xr15352_0 : (((r15352 : Int32).toInt = 1 ∧ difL (x15348_8 : Int64) (x15348_10 : Int64) ((lv 12 17) : Int64) ((lv 12 18) : Int64) (a : Int32)) ∨ ((r15352 : Int32).toInt = 0 ∧ ¬ difL (x15348_8 : Int64) (x15348_10 : Int64) ((lv 12 17) : Int64) ((lv 12 18) : Int64) (a : Int32))) := xr15352_0
                refine vp_callSi (W.runS (As := [.int r15352]) (rest := [.int x15078_6]) ⟨hx, hb, hml, hown, ht⟩ (c_X12_bit_n l dC dI r15352 ⟨by omega, by omega⟩) (kS 1 ht m_1396 m_1397 m_89 m_1398 rfl rfl hd_X12_bit_v ⟨Nat.le_of_ble_eq_true rfl, Nat.le_of_ble_eq_true rfl⟩) (sR noP (hK.sub (tys' := []) [] rfl)) rfl rfl hl.1 rfl (lv_room (Nat.le_of_ble_eq_true rfl)) dX12_isEnough_120 ⟨Nat.le_of_ble_eq_true rfl, Nat.le_of_ble_eq_true rfl⟩) (fun r15353 hr15353 => ?_)
                obtain ⟨hr15353, xr15353_0⟩ := hr15353
                have xr15353_0 : (r15353 : Int32).toInt = (r15352 : Int32).toInt := xr15353_0
                refine lv_iadd hx hb dX12_isEnough_123 ?_
                refine lv_topi (fun v15354 ev15354 => ?_)
                refine lv_istore (lv' := [(6, .int v15354), (5, .int v15351), (12, .int x15348_12), (10, .long x15348_10), (8, .long x15348_8), (7, .int x15078_7), (0, .ref h), (1, .int mm), (2, .int n), (3, .int a), (4, .int b)]) hx hb dX12_isEnough_124 hl (by decide) rfl (fun ls hl => ?_)
                obtain ⟨v15355, ev15355⟩ : ∃ y : Int32, y = x15078_7 + 1 := ⟨_, rfl⟩
                have tv15355 := z_add ev15355 rfl (by decide : (1 : Int32).toInt = 1) (by omega) (by omega)
                refine lv_iinc (v := v15355) (lv' := [(7, .int v15355), (6, .int v15354), (5, .int v15351), (12, .int x15348_12), (10, .long x15348_10), (8, .long x15348_8), (0, .ref h), (1, .int mm), (2, .int n), (3, .int a), (4, .int b)]) hx hb dX12_isEnough_126 hl (k := 5) rfl (by rw [ev15355]; rfl) (by decide) rfl (fun ls hl => ?_)
                refine lv_goto (tgt := 9) hx hb dX12_isEnough_129 (by decide) ?_
                exact ih15079 v15355 v15354 v15351 ⟨by omega, by omega⟩ (show (v15351 : Int32).toInt = (oN (ns (yF nO (fun q : Nat => ((fa 12 8) (((fa 12 50) q).toInt).toNat).toInt64) (fun q : Nat => ((fa 12 7) (((fa 12 50) q).toInt).toNat).toInt64) ((mm).toInt).toNat ((n).toInt).toNat) ((v15355 : Int32).toInt).toNat)).toInt from (by
                      have hs9 : ((v15355 : Int32).toInt).toNat = ((x15078_7 : Int32).toInt).toNat + 1 := by omega
                      have ho9 := xr15085_0
                      have hw9 : (x15078_5 : Int32) = oN (ns (yF nO (fun q : Nat => ((fa 12 8) (((fa 12 50) q).toInt).toNat).toInt64) (fun q : Nat => ((fa 12 7) (((fa 12 50) q).toInt).toNat).toInt64) (mm.toInt).toNat (n.toInt).toNat) ((x15078_7 : Int32).toInt).toNat) := Int32.toInt_inj.mp hq15079_0
                      rw [ns_s hs9, yF_y (by omega)]
                      exact congrArg Int32.toInt (oN_s hw9 ev15351))) (show ∀ DD RR : Int64, DD.toInt = (lv 12 17).toInt → RR.toInt = (lv 12 18).toInt → (v15354 : Int32).toInt = (oN (ns (yF (nFy DD RR a) (fun q : Nat => ((fa 12 8) (((fa 12 50) q).toInt).toNat).toInt64) (fun q : Nat => ((fa 12 7) (((fa 12 50) q).toInt).toNat).toInt64) ((mm).toInt).toNat ((n).toInt).toNat) ((v15355 : Int32).toInt).toNat)).toInt from (fun DD RR h1 h2 => by
                      have hs9 : ((v15355 : Int32).toInt).toNat = ((x15078_7 : Int32).toInt).toNat + 1 := by omega
                      have ho9 := xr15085_0
                      have hw9 : (x15078_6 : Int32) = oN (ns (yF (nFy DD RR a) (fun q : Nat => ((fa 12 8) (((fa 12 50) q).toInt).toNat).toInt64) (fun q : Nat => ((fa 12 7) (((fa 12 50) q).toInt).toNat).toInt64) (mm.toInt).toNat (n.toInt).toNat) ((x15078_7 : Int32).toInt).toNat) := Int32.toInt_inj.mp (hq15079_1 DD RR h1 h2)
                      have i0 := hq15349_0
                      have i1 := hq15349_1
                      rw [show ((x15348_12 : Int32).toInt).toNat = (mm.toInt).toNat from by omega] at i0 i1
                      have hd9 := xr15352_0
                      rw [i0, i1, ← Int64.toInt_inj.mp h1, ← Int64.toInt_inj.mp h2] at hd9
                      have hb9 := xr15353_0
                      rw [ns_s hs9, yF_y (by omega)]
                      show (v15354 : Int32).toInt = (oN (_ + b01 (difL (bsm (fun q : Nat => ((fa 12 8) (((fa 12 50) q).toInt).toNat).toInt64) ((x15078_7 : Int32).toInt).toNat (mm.toInt).toNat) (bsm (fun q : Nat => ((fa 12 7) (((fa 12 50) q).toInt).toNat).toInt64) ((x15078_7 : Int32).toInt).toNat (mm.toInt).toNat) DD RR a))).toInt
                      rcases hd9 with ⟨y1, y2⟩ | ⟨y1, y2⟩
                      · rw [b01_y y2]
                        have hr9 : (r15353 : Int32) = 1 := Int32.toInt_inj.mp (by rw [show (1 : Int32).toInt = 1 from by decide]; omega)
                        exact congrArg Int32.toInt (oN_s hw9 (by rw [ev15354, hr9]))
                      · rw [b01_n y2]
                        have hr9 : (r15353 : Int32) = 0 := Int32.toInt_inj.mp (by rw [show (0 : Int32).toInt = 0 from by decide]; omega)
                        exact congrArg Int32.toInt (oN_0 hw9 (by rw [ev15354, hr9])))) (show (v15355 : Int32).toInt ≤ 4096 from by omega) (show 0 ≤ (v15355 : Int32).toInt from by omega) (show (v15355 : Int32).toInt ≤ ((tw2 ((mm).toInt).toNat : Nat) : Int) from by omega) (by omega) ls (lv_sub hl [0, 1, 2, 6, 7, 8, 9, 10] rfl)
              · have fc15350 := z_nle (rfl : (mm).toInt = _) (rfl : (x15348_12).toInt = _) c15350
                refine lv_lload hx hb dX12_isEnough_41 (lv_at hl 2 rfl) ?_
                refine lv_iload hx hb dX12_isEnough_43 (lv_at hl 3 rfl) ?_
                refine lv_iload hx hb dX12_isEnough_45 (lv_at hl 0 rfl) ?_
                refine lv_ishr hx hb dX12_isEnough_47 ?_
                refine lv_topi (fun v15356 ev15356 => ?_)
                refine lv_iconst (v := 1) hx hb dX12_isEnough_48 (by decide) ?_
                refine lv_iand hx hb dX12_isEnough_49 ?_
                refine lv_topi (fun v15357 ev15357 => ?_)
                refine lv_aload_n hx hb dX12_isEnough_50 rfl (lv_at hl 6 rfl) ?_
                refine gM_12_8 hx hb ht hown hK hP m_1147 dX12_isEnough_51 ?_
                refine lv_aload_n hx hb dX12_isEnough_54 rfl (lv_at hl 6 rfl) ?_
                refine gM_12_50 hx hb ht hown hK hP m_1189 dX12_isEnough_55 ?_
                refine lv_iload hx hb dX12_isEnough_58 (lv_at hl 0 rfl) ?_
                refine lM_12_50 hx hb hK hP (f := (fa 12 50)) rfl (vp_in_iff.mpr ⟨by omega, by omega⟩) dX12_isEnough_60 ?_
                refine lv_topi (fun v15358 ev15358 => ?_)
                have tv15358 : 0 ≤ v15358.toInt ∧ v15358.toInt ≤ 59 := by rw [ev15358]; exact hI.2 12 50 _
                refine lM_12_8 hx hb hK hP (f := (fa 12 8)) rfl (vp_in_iff.mpr ⟨by omega, by omega⟩) dX12_isEnough_61 ?_
                refine lv_topi (fun v15359 ev15359 => ?_)
                refine lv_imul hx hb dX12_isEnough_62 ?_
                refine lv_topi (fun v15360 ev15360 => ?_)
                refine lv_i2l (v := (v15360.toInt64)) hx hb dX12_isEnough_63 rfl ?_
                refine lv_ladd hx hb dX12_isEnough_64 ?_
                refine lv_topl (fun w15361 ew15361 => ?_)
                refine lv_lstore (lv' := [(8, .long w15361), (12, .int x15348_12), (10, .long x15348_10), (7, .int x15078_7), (6, .int x15078_6), (5, .int x15078_5), (0, .ref h), (1, .int mm), (2, .int n), (3, .int a), (4, .int b)]) hx hb dX12_isEnough_65 hl (by decide) rfl (fun ls hl => ?_)
                refine lv_lload hx hb dX12_isEnough_67 (lv_at hl 2 rfl) ?_
                refine lv_iload hx hb dX12_isEnough_69 (lv_at hl 3 rfl) ?_
                refine lv_iload hx hb dX12_isEnough_71 (lv_at hl 1 rfl) ?_
                refine lv_ishr hx hb dX12_isEnough_73 ?_
                refine lv_topi (fun v15362 ev15362 => ?_)
                refine lv_iconst (v := 1) hx hb dX12_isEnough_74 (by decide) ?_
                refine lv_iand hx hb dX12_isEnough_75 ?_
                refine lv_topi (fun v15363 ev15363 => ?_)
                refine lv_aload_n hx hb dX12_isEnough_76 rfl (lv_at hl 6 rfl) ?_
                refine gM_12_7 hx hb ht hown hK hP m_1146 dX12_isEnough_77 ?_
                refine lv_aload_n hx hb dX12_isEnough_80 rfl (lv_at hl 6 rfl) ?_
                refine gM_12_50 hx hb ht hown hK hP m_1189 dX12_isEnough_81 ?_
                refine lv_iload hx hb dX12_isEnough_84 (lv_at hl 1 rfl) ?_
                refine lM_12_50 hx hb hK hP (f := (fa 12 50)) rfl (vp_in_iff.mpr ⟨by omega, by omega⟩) dX12_isEnough_86 ?_
                refine lv_topi (fun v15364 ev15364 => ?_)
                obtain rfl : v15358 = v15364 := ev15358.trans ev15364.symm
                refine lM_12_7 hx hb hK hP (f := (fa 12 7)) rfl (vp_in_iff.mpr ⟨by omega, by omega⟩) dX12_isEnough_87 ?_
                refine lv_topi (fun v15365 ev15365 => ?_)
                have tv15365 : 0 ≤ v15365.toInt ∧ v15365.toInt ≤ 9999 := by rw [ev15365]; exact hI.2 12 7 _
                refine lv_imul hx hb dX12_isEnough_88 ?_
                refine lv_topi (fun v15366 ev15366 => ?_)
                refine lv_i2l (v := (v15366.toInt64)) hx hb dX12_isEnough_89 rfl ?_
                refine lv_ladd hx hb dX12_isEnough_90 ?_
                refine lv_topl (fun w15367 ew15367 => ?_)
                refine lv_lstore (lv' := [(10, .long w15367), (8, .long w15361), (12, .int x15348_12), (7, .int x15078_7), (6, .int x15078_6), (5, .int x15078_5), (0, .ref h), (1, .int mm), (2, .int n), (3, .int a), (4, .int b)]) hx hb dX12_isEnough_91 hl (by decide) rfl (fun ls hl => ?_)
                obtain ⟨v15368, ev15368⟩ : ∃ y : Int32, y = x15348_12 + 1 := ⟨_, rfl⟩
                have tv15368 := z_add ev15368 rfl (by decide : (1 : Int32).toInt = 1) (by omega) (by omega)
                refine lv_iinc (v := v15368) (lv' := [(12, .int v15368), (10, .long w15367), (8, .long w15361), (7, .int x15078_7), (6, .int x15078_6), (5, .int x15078_5), (0, .ref h), (1, .int mm), (2, .int n), (3, .int a), (4, .int b)]) hx hb dX12_isEnough_93 hl (k := 2) rfl (by rw [ev15368]; rfl) (by decide) rfl (fun ls hl => ?_)
                refine lv_goto (tgt := 35) hx hb dX12_isEnough_96 (by decide) ?_
                exact ih15349 v15368 w15367 w15361 ⟨by omega, by omega⟩ (show (w15361 : Int64) = bsm (fun q : Nat => ((fa 12 8) (((fa 12 50) q).toInt).toNat).toInt64) ((x15078_7 : Int32).toInt).toNat ((v15368 : Int32).toInt).toNat from (by
                      have hs9 : ((v15368 : Int32).toInt).toNat = ((x15348_12 : Int32).toInt).toNat + 1 := by omega
                      have hb9 := bt_n ev15356 ev15357 (by omega) ⟨by omega, by omega⟩
                      have hx9 : (fun q : Nat => ((fa 12 8) (((fa 12 50) q).toInt).toNat).toInt64) ((x15348_12 : Int32).toInt).toNat = (v15359 : Int32).toInt64 := by
                        show (fa 12 8 ((fa 12 50 ((x15348_12 : Int32).toInt).toNat).toInt).toNat).toInt64 = (v15359 : Int32).toInt64
                        rw [ev15359, ev15358]; rfl
                      exact bsm_st hs9 hq15349_0 ev15360 hb9 hx9 ew15361)) (show (w15367 : Int64) = bsm (fun q : Nat => ((fa 12 7) (((fa 12 50) q).toInt).toNat).toInt64) ((x15078_7 : Int32).toInt).toNat ((v15368 : Int32).toInt).toNat from (by
                      have hs9 : ((v15368 : Int32).toInt).toNat = ((x15348_12 : Int32).toInt).toNat + 1 := by omega
                      have hb9 := bt_n ev15362 ev15363 (by omega) ⟨by omega, by omega⟩
                      have hx9 : (fun q : Nat => ((fa 12 7) (((fa 12 50) q).toInt).toNat).toInt64) ((x15348_12 : Int32).toInt).toNat = (v15365 : Int32).toInt64 := by
                        show (fa 12 7 ((fa 12 50 ((x15348_12 : Int32).toInt).toNat).toInt).toNat).toInt64 = (v15365 : Int32).toInt64
                        rw [ev15365, ev15358]; rfl
                      exact bsm_st hs9 hq15349_1 ev15366 hb9 hx9 ew15367)) (show (v15368 : Int32).toInt ≤ (mm).toInt from by omega) (by omega) ls (lv_sub hl [0, 1, 2, 3, 4, 5, 6, 7, 8, 9, 10] rfl)
          have : (0 : Int32).toInt = 0 := (by decide)
          have : (0 : Int64).toInt = 0 := (by decide)
          exact lp15349 13 0 0 0 ⟨by decide, by decide⟩ (show (0 : Int64) = bsm (fun q : Nat => ((fa 12 8) (((fa 12 50) q).toInt).toNat).toInt64) ((x15078_7 : Int32).toInt).toNat ((0 : Int32).toInt).toNat from (by have hz : ((0 : Int32).toInt).toNat = 0 := (by decide); rw [hz]; rfl)) (show (0 : Int64) = bsm (fun q : Nat => ((fa 12 7) (((fa 12 50) q).toInt).toNat).toInt64) ((x15078_7 : Int32).toInt).toNat ((0 : Int32).toInt).toNat from (by have hz : ((0 : Int32).toInt).toNat = 0 := (by decide); rw [hz]; rfl)) (show (0 : Int32).toInt ≤ (mm).toInt from by omega) (by first | decide | omega) ls (lv_sub hl [0, 1, 2, 3, 4, 5, 6, 7, 8, 9, 10] rfl)
  have : (0 : Int32).toInt = 0 := (by decide)
  exact lp15079 4097 0 0 0 ⟨by decide, by decide⟩ (show (0 : Int32).toInt = (oN (ns (yF nO (fun q : Nat => ((fa 12 8) (((fa 12 50) q).toInt).toNat).toInt64) (fun q : Nat => ((fa 12 7) (((fa 12 50) q).toInt).toNat).toInt64) ((mm).toInt).toNat ((n).toInt).toNat) ((0 : Int32).toInt).toNat)).toInt from (by have hz : ((0 : Int32).toInt).toNat = 0 := (by decide); rw [hz] <;> rfl)) (show ∀ DD RR : Int64, DD.toInt = (lv 12 17).toInt → RR.toInt = (lv 12 18).toInt → (0 : Int32).toInt = (oN (ns (yF (nFy DD RR a) (fun q : Nat => ((fa 12 8) (((fa 12 50) q).toInt).toNat).toInt64) (fun q : Nat => ((fa 12 7) (((fa 12 50) q).toInt).toNat).toInt64) ((mm).toInt).toNat ((n).toInt).toNat) ((0 : Int32).toInt).toNat)).toInt from (fun DD RR h1 h2 => by have hz : ((0 : Int32).toInt).toNat = 0 := (by decide); rw [hz] <;> rfl)) (show (0 : Int32).toInt ≤ 4096 from by omega) (show 0 ≤ (0 : Int32).toInt from by omega) (show (0 : Int32).toInt ≤ ((tw2 ((mm).toInt).toNat : Nat) : Int) from by omega) (show 4096 - (0 : Int32).toInt < _ from by omega) ls (lv_sub hl [0, 1, 2, 3, 4, 5, 6, 7] rfl)
