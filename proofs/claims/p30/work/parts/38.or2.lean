/-! ===== or2 ===== -/
set_option maxHeartbeats 4000000 in
set_option maxRecDepth 100000 in
/-- X5_arrange -/
theorem c_X5_arrange_o (l : Launch) (dC : Nat → ClassId) (dI : Nat → Nat → Nat) (sz : Nat) (h : Nat) (g : Nat → Nat → Nat) (ca : Nat → Nat → ClassId) (iv : Nat → Nat → Int32) (lv : Nat → Nat → Int64) (fa : Nat → Nat → Nat → Int32) (la : Nat → Nat → Nat → Int64) (hI : IX iv fa) (mm : Int32) (h_mm : 1 ≤ mm.toInt ∧ mm.toInt ≤ 3) : Met l yX5_arrange (wc yX5_arrange cX5_arrange 2 none) ({ frames := 10, cells := 0, slots := 0, locals := 276 } : Room) (pW (dC, dI) classes (WX h g ca iv lv fa la) (TX ca) sz [.ref (g 11 7), .int mm]) (va_Qv (fun (u : SS) => ∃ (na_5_1 : Nat → Int32) (na_5_2 : Nat → Int32) (na_5_3 : Nat → Int32) (ni_5_5 : Int32) (ni_5_6 : Int32), ((ni_5_6).toInt = mm.toInt) ∧ (∀ j : Nat, na_5_2 j = (fa 5 2) j) ∧ ((∀ o : Nat, o < 3 → (fa 5 2) o = 0) → (1 ≤ (iv 5 6).toInt → OrR ((iv 5 4).toInt).toNat ((iv 5 6).toInt).toNat (fa 5 0) (iv 5 5).toInt (fa 5 3)) → OrR ((iv 5 4).toInt).toNat (mm.toInt).toNat (fa 5 0) (ni_5_5).toInt na_5_3) ∧ u = ((u2 (u2 iv 5 5 ni_5_5) 5 6 ni_5_6), lv, (u2 (u2 (u2 fa 5 1 na_5_1) 5 2 na_5_2) 5 3 na_5_3), la)) (bX (dC, dI) h g ca (va_A (WX h g ca iv lv fa la) sz)) (va_A (WX h g ca iv lv fa la) sz)) 0 0 (va_A (WX h g ca iv lv fa la) sz) := by
  refine Met.ofW (cc := cX5_arrange) (maxL := 2) (ret := none) (by decide) rfl ?_
  intro p e s m args below meth c s₁ B hml hv
  obtain ⟨rfl, hsz, hP, hK, hD0⟩ := hv
  have hx := B.exec
  have hb := B.bytes
  have hr := B.returns
  have ht := tb_tl (atoms_spec (ws := wc yX5_arrange cX5_arrange 2 none) B.pre)
  have hown : s.vm.findClass RX5 = some m.cls := findClass_of_methodNamed B.named
  have hlocks := B.notSynchronized
  subst hsz
  have hD := hD0.self (sz := s.heap.size)
  generalize hAe : va_A (WX h g ca iv lv fa la) s.heap.size = A at hD ⊢
  have hA : ∀ q : Nat, s.heap.size ≤ q → A q := fun q h => by rw [← hAe]; exact Or.inr h
  have hS : va_S A s.heap s.heap [] := va_S.rf
  have hl := lv_entry [.ref (g 11 7), .int mm] (n := 2) (Nat.le_of_ble_eq_true rfl)
  rw [lg_entry_eq]
  generalize (lg_sl [.ref (g 11 7), .int mm] ++ List.replicate (2 - (lg_sl [.ref (g 11 7), .int mm]).length) Slot.unset).toArray = ls at hl ⊢
  have hl : lv_has ls 2 [(0, .ref (g 11 7)), (1, .int mm)] := hl
  refine lv_iload_n hx hb dX5_arrange_0 rfl (lv_at hl 1 rfl) ?_
  refine lv_aload_n hx hb dX5_arrange_1 rfl (lv_at hl 0 rfl) ?_
  refine gX_5_6 hx hb ht hown hK hP m_344 (v := (iv 5 6)) rfl dX5_arrange_2 ?_
  refine lv_icmp_ne (tgt := 9) hx hb dX5_arrange_5 (by decide) (fun c1 => ?_) (fun c1 => ?_)
  · have fc1 := z_ne (rfl : (mm).toInt = _) (rfl : ((iv 5 6)).toInt = _) c1
    refine lv_aload_n hx hb dX5_arrange_9 rfl (lv_at hl 0 rfl) ?_
    refine lv_ldc hx hb hown (ht _ m_1017) dX5_arrange_10 ?_
    refine pX_5_5 (v := 1000000) hx hb ht hown hK hP hD hS m_342 dX5_arrange_12 (fun H locs hP hD hS => ?_)
    refine lv_aload_n hx hb dX5_arrange_15 rfl (lv_at hl 0 rfl) ?_
    refine lv_iconst (v := 0) hx hb dX5_arrange_16 (by decide) ?_
    refine lv_iload_n hx hb dX5_arrange_17 rfl (lv_at hl 1 rfl) ?_
    refine lv_iconst (v := 0) hx hb dX5_arrange_18 (by decide) ?_
    have i_5_4 : 0 ≤ (iv 5 4).toInt ∧ (iv 5 4).toInt ≤ 8 := hI.1 5 4
    have hFc := free_all hD hS hA
    refine va_callv (va_runV (As := [.int 0, .int mm, .int 0]) (rest := []) ⟨hx, hb, hml, hown, ht⟩ (c_X5_place_w0 l dC dI H.size h g ca (u2 iv 5 5 1000000) lv fa la (IX_i (c := 5) (k := 5) hI (full_i _)) mm 0 ⟨by omega, by omega⟩) (kV 3 ht m_1018 m_1020 m_41 m_86 m_1021 rfl rfl hd_X5_place_v ⟨Nat.le_of_ble_eq_true rfl, Nat.le_of_ble_eq_true rfl⟩) (vW hP hK hD (rX_5 hK hP)) rfl rfl hl.1 rfl (lv_room (Nat.le_of_ble_eq_true rfl)) dX5_arrange_19 ⟨Nat.le_of_ble_eq_true rfl, Nat.le_of_ble_eq_true rfl⟩) hS (fun q _ h => hFc q h) hFc (fun u t H1 locs ht9 hvm hr2 hB hz1 hk1 hS => ?_)
    obtain ⟨n3, n4, n5, n6, xr2_0, xr2_1, xr2_2, rfl⟩ := hr2
    have hn3 : ∀ j, inb (bA 5 1 j) (n3 j) := fun j => full_i _
    have hn4 : ∀ j, inb (bA 5 2 j) (n4 j) := fun j => full_i _
    have hn5 : ∀ j, inb (bA 5 3 j) (n5 j) := fun j => full_i _
    obtain ⟨hP, hD⟩ := hB
    rw [ht9] at hP
    generalize H1 = H at hP hS ⊢
    have hP : va_P (dC, dI) classes (WX h g ca (u2 iv 5 5 n6) lv (u2 (u2 (u2 fa 5 1 n3) 5 2 n4) 5 3 n5) la) H := hP
    have hD : va_D A (WX h g ca (u2 iv 5 5 n6) lv (u2 (u2 (u2 fa 5 1 n3) 5 2 n4) 5 3 n5) la) := (show va_D _ (WX h g ca (u2 iv 5 5 n6) lv (u2 (u2 (u2 fa 5 1 n3) 5 2 n4) 5 3 n5) la) from hD).weaken (fun _ _ _ h => hFc _ h)
    have : (0 : Int32).toInt = 0 := (by decide)
    have : (1000000 : Int32).toInt = 1000000 := (by decide)
    have xr2_0 : ∀ x0 bw : Nat, OrP (((iv 5 4) : Int32).toInt).toNat ((mm : Int32).toInt).toNat (fa 5 0) (fa 5 1) (fa 5 2) 0 x0 (0 : Int32).toInt → OrB (((iv 5 4) : Int32).toInt).toNat ((mm : Int32).toInt).toNat (fa 5 3) (1000000 : Int32).toInt bw → OrQ (((iv 5 4) : Int32).toInt).toNat ((mm : Int32).toInt).toNat (fa 5 0) x0 bw (1000000 : Int32).toInt (((mm : Int32).toInt).toNat ^ ((((iv 5 4) : Int32).toInt).toNat - 0)) (n6 : Int32).toInt n5 := xr2_0
    have xr2_1 : ∀ j : Nat, n4 j = (fa 5 2) j := xr2_1
    have xr2_2 : ∀ j : Nat, j < 0 → n3 j = (fa 5 1) j := xr2_2
    refine lv_aload_n hx hb dX5_arrange_22 rfl (lv_at hl 0 rfl) ?_
    refine lv_iload_n hx hb dX5_arrange_23 rfl (lv_at hl 1 rfl) ?_
    refine pX_5_6 (v := mm) hx hb ht hown hK hP hD hS m_344 dX5_arrange_24 (fun H locs hP hD hS => ?_)
    have hP9 : va_P (dC, dI) classes (WX h g ca (u2 (u2 iv 5 5 n6) 5 6 mm) lv (u2 (u2 (u2 fa 5 1 n3) 5 2 n4) 5 3 n5) la) H := hP
    have hD9 : va_D A (WX h g ca (u2 (u2 iv 5 5 n6) 5 6 mm) lv (u2 (u2 (u2 fa 5 1 n3) 5 2 n4) 5 3 n5) la) := hD
    exact W.vret hx hb hr (fun t ht9 hW => ⟨⟨((u2 (u2 iv 5 5 n6) 5 6 mm), lv, (u2 (u2 (u2 fa 5 1 n3) 5 2 n4) 5 3 n5), la), rfl, ⟨n3, n4, n5, n6, mm, (show (mm : Int32).toInt = (mm).toInt from by omega), (show ∀ j : Nat, n4 j = (fa 5 2) j from (fun j => xr2_1 j)), (show (∀ o : Nat, o < 3 → (fa 5 2) o = 0) → (1 ≤ (iv 5 6).toInt → OrR ((iv 5 4).toInt).toNat ((iv 5 6).toInt).toNat (fa 5 0) (iv 5 5).toInt (fa 5 3)) → OrR ((iv 5 4).toInt).toNat ((mm).toInt).toNat (fa 5 0) (n6 : Int32).toInt n5 from (fun h1 h2 => by
          have hz9 : ((0 : Int32)).toInt = 0 := (by decide)
          have hk9 : ((1000000 : Int32)).toInt = 1000000 := (by decide)
          have hq9 := xr2_0 0 0 (Or_p0 ⟨by omega, by omega⟩ h1 hz9) (fun h9 => absurd h9 (by rw [hk9]; omega))
          rw [hk9, Nat.sub_zero] at hq9
          exact hq9)), rfl⟩, by rw [ht9]; exact hP9, hD9⟩, hS.F ht9⟩) hS.2.2 dX5_arrange_27
  · have fc1 := z_eq (rfl : (mm).toInt = _) (rfl : ((iv 5 6)).toInt = _) c1
    have hP9 : va_P (dC, dI) classes (WX h g ca (u2 (u2 iv 5 5 (iv 5 5)) 5 6 (iv 5 6)) lv (u2 (u2 (u2 fa 5 1 (fa 5 1)) 5 2 (fa 5 2)) 5 3 (fa 5 3)) la) s.heap := hP
    have hD9 : va_D A (WX h g ca (u2 (u2 iv 5 5 (iv 5 5)) 5 6 (iv 5 6)) lv (u2 (u2 (u2 fa 5 1 (fa 5 1)) 5 2 (fa 5 2)) 5 3 (fa 5 3)) la) := hD
    exact W.vret hx hb hr (fun t ht9 hW => ⟨⟨((u2 (u2 iv 5 5 (iv 5 5)) 5 6 (iv 5 6)), lv, (u2 (u2 (u2 fa 5 1 (fa 5 1)) 5 2 (fa 5 2)) 5 3 (fa 5 3)), la), rfl, ⟨(fa 5 1), (fa 5 2), (fa 5 3), (iv 5 5), (iv 5 6), (show ((iv 5 6) : Int32).toInt = (mm).toInt from by omega), (show ∀ j : Nat, (fa 5 2) j = (fa 5 2) j from fun j => rfl), (show (∀ o : Nat, o < 3 → (fa 5 2) o = 0) → (1 ≤ (iv 5 6).toInt → OrR ((iv 5 4).toInt).toNat ((iv 5 6).toInt).toNat (fa 5 0) (iv 5 5).toInt (fa 5 3)) → OrR ((iv 5 4).toInt).toNat ((mm).toInt).toNat (fa 5 0) ((iv 5 5) : Int32).toInt (fa 5 3) from (fun h1 h2 => by
          have h3 := h2 (by omega)
          rw [show ((iv 5 6).toInt).toNat = ((mm).toInt).toNat from by omega] at h3
          exact h3)), rfl⟩, by rw [ht9]; exact hP9, hD9⟩, hS.F ht9⟩) hS.2.2 dX5_arrange_8
set_option maxHeartbeats 4000000 in
set_option maxRecDepth 100000 in
/-- X11_order -/
theorem c_X11_order_o (l : Launch) (dC : Nat → ClassId) (dI : Nat → Nat → Nat) (sz : Nat) (h : Nat) (g : Nat → Nat → Nat) (ca : Nat → Nat → ClassId) (iv : Nat → Nat → Int32) (lv : Nat → Nat → Int64) (fa : Nat → Nat → Nat → Int32) (la : Nat → Nat → Nat → Int64) (hI : IX iv fa) (a : Int32) (b : Int32) : Met l yX11_order (wc yX11_order cX11_order 3 (some .int)) ({ frames := 11, cells := 0, slots := 0, locals := 297 } : Room) (pW (dC, dI) classes (WX h g ca iv lv fa la) (TX ca) sz [.ref h, .int a, .int b]) (va_Qi (fun r (u : SS) => ∃ (na_5_1 : Nat → Int32) (na_5_2 : Nat → Int32) (na_5_3 : Nat → Int32) (ni_5_5 : Int32) (ni_5_6 : Int32), (((r.toInt = -100002 ∧ ¬ (1 ≤ a.toInt ∧ a.toInt ≤ 3)) ∨ ((1 ≤ a.toInt ∧ a.toInt ≤ 3) ∧ ((b.toInt = -1 ∧ r.toInt = (ni_5_5).toInt) ∨ (b.toInt ≠ -1 ∧ (0 ≤ b.toInt ∧ b.toInt < (iv 5 4).toInt) ∧ r.toInt = (na_5_3 (b.toInt).toNat).toInt) ∨ (b.toInt ≠ -1 ∧ ¬ (0 ≤ b.toInt ∧ b.toInt < (iv 5 4).toInt) ∧ r.toInt = -1))))) ∧ (∀ j : Nat, na_5_2 j = (fa 5 2) j) ∧ ((∀ o : Nat, o < 3 → (fa 5 2) o = 0) → (1 ≤ (iv 5 6).toInt → OrR ((iv 5 4).toInt).toNat ((iv 5 6).toInt).toNat (fa 5 0) (iv 5 5).toInt (fa 5 3)) → (1 ≤ a.toInt ∧ a.toInt ≤ 3) → OrR ((iv 5 4).toInt).toNat (a.toInt).toNat (fa 5 0) (ni_5_5).toInt na_5_3) ∧ (((¬ (1 ≤ a.toInt ∧ a.toInt ≤ 3) ∧ (ni_5_6).toInt = (iv 5 6).toInt ∧ (ni_5_5).toInt = (iv 5 5).toInt ∧ ∀ j : Nat, na_5_3 j = (fa 5 3) j) ∨ ((1 ≤ a.toInt ∧ a.toInt ≤ 3) ∧ (ni_5_6).toInt = a.toInt))) ∧ (True) ∧ u = ((u2 (u2 iv 5 5 ni_5_5) 5 6 ni_5_6), lv, (u2 (u2 (u2 fa 5 1 na_5_1) 5 2 na_5_2) 5 3 na_5_3), la)) (bX (dC, dI) h g ca (va_A (WX h g ca iv lv fa la) sz)) (va_A (WX h g ca iv lv fa la) sz)) 0 0 (va_A (WX h g ca iv lv fa la) sz) := by
  refine Met.ofW (cc := cX11_order) (maxL := 3) (ret := (some .int)) (by decide) rfl ?_
  intro p e s m args below meth c s₁ B hml hv
  obtain ⟨rfl, hsz, hP, hK, hD0⟩ := hv
  have hx := B.exec
  have hb := B.bytes
  have hr := B.returns
  have ht := tb_tl (atoms_spec (ws := wc yX11_order cX11_order 3 (some .int)) B.pre)
  have hown : s.vm.findClass RX11 = some m.cls := findClass_of_methodNamed B.named
  have hlocks := B.notSynchronized
  subst hsz
  have hD := hD0.self (sz := s.heap.size)
  generalize hAe : va_A (WX h g ca iv lv fa la) s.heap.size = A at hD ⊢
  have hA : ∀ q : Nat, s.heap.size ≤ q → A q := fun q h => by rw [← hAe]; exact Or.inr h
  have hS : va_S A s.heap s.heap [] := va_S.rf
  have hl := lv_entry [.ref h, .int a, .int b] (n := 3) (Nat.le_of_ble_eq_true rfl)
  rw [lg_entry_eq]
  generalize (lg_sl [.ref h, .int a, .int b] ++ List.replicate (3 - (lg_sl [.ref h, .int a, .int b]).length) Slot.unset).toArray = ls at hl ⊢
  have hl : lv_has ls 3 [(0, .ref h), (1, .int a), (2, .int b)] := hl
  refine lv_iload_n hx hb dX11_order_0 rfl (lv_at hl 1 rfl) ?_
  refine lv_iconst (v := 1) hx hb dX11_order_1 (by decide) ?_
  refine lv_iconst (v := 3) hx hb dX11_order_2 (by decide) ?_
  refine vp_callSi (W.runS (As := [.int a, .int 1, .int 3]) (rest := []) ⟨hx, hb, hml, hown, ht⟩ (c_X11_within l dC dI a 1 3 (a.toInt) (1) (3) (rfl : (a).toInt = _) (by decide : (1 : Int32).toInt = 1) (by decide : (3 : Int32).toInt = 3)) (kS 3 ht m_453 m_454 m_77 m_455 rfl rfl hd_X11_within_v ⟨Nat.le_of_ble_eq_true rfl, Nat.le_of_ble_eq_true rfl⟩) (sR noP (hK.sub (tys' := []) [] rfl)) rfl rfl hl.1 rfl (lv_room (Nat.le_of_ble_eq_true rfl)) dX11_order_3 ⟨Nat.le_of_ble_eq_true rfl, Nat.le_of_ble_eq_true rfl⟩) (fun r1 hr1 => ?_)
  rcases hr1 with ⟨rfl, fr1⟩ | ⟨rfl, fr1⟩
  · skip
    refine lv_if_ne (tgt := 12) hx hb dX11_order_6 (by decide) (fun c2 => ?_) (fun c2 => ?_)
    · skip
      refine lv_aload_n hx hb dX11_order_12 rfl (lv_at hl 0 rfl) ?_
      refine gX_11_7 hx hb ht hown hK hP m_422 dX11_order_13 ?_
      refine lv_iload_n hx hb dX11_order_16 rfl (lv_at hl 1 rfl) ?_
      have i_5_4 : 0 ≤ (iv 5 4).toInt ∧ (iv 5 4).toInt ≤ 8 := hI.1 5 4
      have hFc := free_all hD hS hA
      refine va_callv (va_runV (As := [.int a]) (rest := []) ⟨hx, hb, hml, hown, ht⟩ (c_X5_arrange_o l dC dI s.heap.size h g ca iv lv fa la hI a ⟨by omega, by omega⟩) (kV 1 ht m_1013 m_1014 m_1015 m_86 m_1016 rfl rfl hd_X5_arrange_v ⟨Nat.le_of_ble_eq_true rfl, Nat.le_of_ble_eq_true rfl⟩) (vW hP hK hD (rX_5 hK hP)) rfl rfl hl.1 rfl (lv_room (Nat.le_of_ble_eq_true rfl)) dX11_order_17 ⟨Nat.le_of_ble_eq_true rfl, Nat.le_of_ble_eq_true rfl⟩) hS (fun q _ h => hFc q h) hFc (fun u t H1 locs ht9 hvm hr3 hB hz1 hk1 hS => ?_)
      obtain ⟨n4, n5, n6, n7, n8, xr3_0, xr3_1, xr3_2, rfl⟩ := hr3
      have hn4 : ∀ j, inb (bA 5 1 j) (n4 j) := fun j => full_i _
      have hn5 : ∀ j, inb (bA 5 2 j) (n5 j) := fun j => full_i _
      have hn6 : ∀ j, inb (bA 5 3 j) (n6 j) := fun j => full_i _
      obtain ⟨hP, hD⟩ := hB
      rw [ht9] at hP
      generalize H1 = H at hP hS ⊢
      have hP : va_P (dC, dI) classes (WX h g ca (u2 (u2 iv 5 5 n7) 5 6 n8) lv (u2 (u2 (u2 fa 5 1 n4) 5 2 n5) 5 3 n6) la) H := hP
      have hD : va_D A (WX h g ca (u2 (u2 iv 5 5 n7) 5 6 n8) lv (u2 (u2 (u2 fa 5 1 n4) 5 2 n5) 5 3 n6) la) := (show va_D _ (WX h g ca (u2 (u2 iv 5 5 n7) 5 6 n8) lv (u2 (u2 (u2 fa 5 1 n4) 5 2 n5) 5 3 n6) la) from hD).weaken (fun _ _ _ h => hFc _ h)
      have xr3_0 : (n8 : Int32).toInt = (a : Int32).toInt := xr3_0
      have xr3_1 : ∀ j : Nat, n5 j = (fa 5 2) j := xr3_1
      have xr3_2 : (∀ o : Nat, o < 3 → (fa 5 2) o = 0) → (1 ≤ ((iv 5 6) : Int32).toInt → OrR (((iv 5 4) : Int32).toInt).toNat (((iv 5 6) : Int32).toInt).toNat (fa 5 0) ((iv 5 5) : Int32).toInt (fa 5 3)) → OrR (((iv 5 4) : Int32).toInt).toNat ((a : Int32).toInt).toNat (fa 5 0) (n7 : Int32).toInt n6 := xr3_2
      refine lv_iload_n hx hb dX11_order_20 rfl (lv_at hl 2 rfl) ?_
      refine lv_iconst (v := (-1)) hx hb dX11_order_21 (by decide) ?_
      refine lv_icmp_ne (tgt := 33) hx hb dX11_order_22 (by decide) (fun c9 => ?_) (fun c9 => ?_)
      · have fc9 := z_ne (rfl : (b).toInt = _) (by decide : ((-1) : Int32).toInt = (-1)) c9
        refine lv_iload_n hx hb dX11_order_33 rfl (lv_at hl 2 rfl) ?_
        refine lv_iconst (v := 0) hx hb dX11_order_34 (by decide) ?_
        refine lv_aload_n hx hb dX11_order_35 rfl (lv_at hl 0 rfl) ?_
        refine gX_11_7 hx hb ht hown hK hP m_422 dX11_order_36 ?_
        refine gX_5_4 hx hb ht hown hK hP m_341 (v := (iv 5 4)) rfl dX11_order_39 ?_
        refine lv_iconst (v := 1) hx hb dX11_order_42 (by decide) ?_
        refine lv_isub hx hb dX11_order_43 ?_
        refine lv_topi (fun v10 ev10 => ?_)
        have tv10 := z_sub ev10 (rfl : ((iv 5 4)).toInt = _) (by decide : (1 : Int32).toInt = 1) (by omega) (by omega)
        refine vp_callSi (W.runS (As := [.int b, .int 0, .int v10]) (rest := []) ⟨hx, hb, hml, hown, ht⟩ (c_X11_within l dC dI b 0 v10 (b.toInt) (0) (v10.toInt) (rfl : (b).toInt = _) (by decide : (0 : Int32).toInt = 0) (rfl : (v10).toInt = _)) (kS 3 ht m_453 m_454 m_77 m_455 rfl rfl hd_X11_within_v ⟨Nat.le_of_ble_eq_true rfl, Nat.le_of_ble_eq_true rfl⟩) (sR noP (hK.sub (tys' := []) [] rfl)) rfl rfl hl.1 rfl (lv_room (Nat.le_of_ble_eq_true rfl)) dX11_order_44 ⟨Nat.le_of_ble_eq_true rfl, Nat.le_of_ble_eq_true rfl⟩) (fun r11 hr11 => ?_)
        rcases hr11 with ⟨rfl, fr11⟩ | ⟨rfl, fr11⟩
        · skip
          refine lv_if_eq (tgt := 62) hx hb dX11_order_47 (by decide) (fun c12 => ?_) (fun c12 => ?_)
          · exact absurd c12 (by decide)
          · skip
            refine lv_aload_n hx hb dX11_order_50 rfl (lv_at hl 0 rfl) ?_
            refine gX_11_7 hx hb ht hown hK hP m_422 dX11_order_51 ?_
            refine gX_5_3 hx hb ht hown hK hP m_339 dX11_order_54 ?_
            refine lv_iload_n hx hb dX11_order_57 rfl (lv_at hl 2 rfl) ?_
            refine lX_5_3 hx hb hK hP (f := n6) rfl (vp_in_iff.mpr ⟨by omega, by omega⟩) dX11_order_58 ?_
            refine lv_topi (fun v13 ev13 => ?_)
            refine lv_goto (tgt := 63) hx hb dX11_order_59 (by decide) ?_
            have hP9 : va_P (dC, dI) classes (WX h g ca (u2 (u2 iv 5 5 n7) 5 6 n8) lv (u2 (u2 (u2 fa 5 1 n4) 5 2 n5) 5 3 n6) la) H := hP
            have hD9 : va_D A (WX h g ca (u2 (u2 iv 5 5 n7) 5 6 n8) lv (u2 (u2 (u2 fa 5 1 n4) 5 2 n5) 5 3 n6) la) := hD
            exact W.iret (v := v13) hx hb hr (fun t ht9 hW => ⟨⟨v13, ((u2 (u2 iv 5 5 n7) 5 6 n8), lv, (u2 (u2 (u2 fa 5 1 n4) 5 2 n5) 5 3 n6), la), rfl, ⟨n4, n5, n6, n7, n8, (show (((v13 : Int32).toInt = -100002 ∧ ¬ (1 ≤ (a).toInt ∧ (a).toInt ≤ 3)) ∨ ((1 ≤ (a).toInt ∧ (a).toInt ≤ 3) ∧ (((b).toInt = -1 ∧ (v13 : Int32).toInt = (n7 : Int32).toInt) ∨ ((b).toInt ≠ -1 ∧ (0 ≤ (b).toInt ∧ (b).toInt < (iv 5 4).toInt) ∧ (v13 : Int32).toInt = (n6 ((b).toInt).toNat).toInt) ∨ ((b).toInt ≠ -1 ∧ ¬ (0 ≤ (b).toInt ∧ (b).toInt < (iv 5 4).toInt) ∧ (v13 : Int32).toInt = -1)))) from Or.inr ⟨⟨by omega, by omega⟩, Or.inr (Or.inl ⟨by omega, ⟨by omega, by omega⟩, congrArg Int32.toInt (show v13 = n6 (b.toInt).toNat from ev13)⟩)⟩), (show ∀ j : Nat, n5 j = (fa 5 2) j from (fun j => xr3_1 j)), (show (∀ o : Nat, o < 3 → (fa 5 2) o = 0) → (1 ≤ (iv 5 6).toInt → OrR ((iv 5 4).toInt).toNat ((iv 5 6).toInt).toNat (fa 5 0) (iv 5 5).toInt (fa 5 3)) → (1 ≤ (a).toInt ∧ (a).toInt ≤ 3) → OrR ((iv 5 4).toInt).toNat ((a).toInt).toNat (fa 5 0) (n7 : Int32).toInt n6 from (fun h1 h2 h3 => xr3_2 h1 h2)), (show ((¬ (1 ≤ (a).toInt ∧ (a).toInt ≤ 3) ∧ (n8 : Int32).toInt = (iv 5 6).toInt ∧ (n7 : Int32).toInt = (iv 5 5).toInt ∧ ∀ j : Nat, n6 j = (fa 5 3) j) ∨ ((1 ≤ (a).toInt ∧ (a).toInt ≤ 3) ∧ (n8 : Int32).toInt = (a).toInt)) from Or.inr ⟨⟨by omega, by omega⟩, xr3_0⟩), trivial, rfl⟩, by rw [ht9]; exact hP9, hD9⟩, hS.F ht9⟩) hS.2.2 dX11_order_63
        · skip
          refine lv_if_eq (tgt := 62) hx hb dX11_order_47 (by decide) (fun c14 => ?_) (fun c14 => ?_)
          · skip
            refine lv_iconst (v := (-1)) hx hb dX11_order_62 (by decide) ?_
            have : ((-1) : Int32).toInt = (-1) := (by decide)
            have hP9 : va_P (dC, dI) classes (WX h g ca (u2 (u2 iv 5 5 n7) 5 6 n8) lv (u2 (u2 (u2 fa 5 1 n4) 5 2 n5) 5 3 n6) la) H := hP
            have hD9 : va_D A (WX h g ca (u2 (u2 iv 5 5 n7) 5 6 n8) lv (u2 (u2 (u2 fa 5 1 n4) 5 2 n5) 5 3 n6) la) := hD
            exact W.iret (v := (-1)) hx hb hr (fun t ht9 hW => ⟨⟨(-1), ((u2 (u2 iv 5 5 n7) 5 6 n8), lv, (u2 (u2 (u2 fa 5 1 n4) 5 2 n5) 5 3 n6), la), rfl, ⟨n4, n5, n6, n7, n8, (show ((((-1) : Int32).toInt = -100002 ∧ ¬ (1 ≤ (a).toInt ∧ (a).toInt ≤ 3)) ∨ ((1 ≤ (a).toInt ∧ (a).toInt ≤ 3) ∧ (((b).toInt = -1 ∧ ((-1) : Int32).toInt = (n7 : Int32).toInt) ∨ ((b).toInt ≠ -1 ∧ (0 ≤ (b).toInt ∧ (b).toInt < (iv 5 4).toInt) ∧ ((-1) : Int32).toInt = (n6 ((b).toInt).toNat).toInt) ∨ ((b).toInt ≠ -1 ∧ ¬ (0 ≤ (b).toInt ∧ (b).toInt < (iv 5 4).toInt) ∧ ((-1) : Int32).toInt = -1)))) from Or.inr ⟨⟨by omega, by omega⟩, Or.inr (Or.inr ⟨by omega, by omega, by omega⟩)⟩), (show ∀ j : Nat, n5 j = (fa 5 2) j from (fun j => xr3_1 j)), (show (∀ o : Nat, o < 3 → (fa 5 2) o = 0) → (1 ≤ (iv 5 6).toInt → OrR ((iv 5 4).toInt).toNat ((iv 5 6).toInt).toNat (fa 5 0) (iv 5 5).toInt (fa 5 3)) → (1 ≤ (a).toInt ∧ (a).toInt ≤ 3) → OrR ((iv 5 4).toInt).toNat ((a).toInt).toNat (fa 5 0) (n7 : Int32).toInt n6 from (fun h1 h2 h3 => xr3_2 h1 h2)), (show ((¬ (1 ≤ (a).toInt ∧ (a).toInt ≤ 3) ∧ (n8 : Int32).toInt = (iv 5 6).toInt ∧ (n7 : Int32).toInt = (iv 5 5).toInt ∧ ∀ j : Nat, n6 j = (fa 5 3) j) ∨ ((1 ≤ (a).toInt ∧ (a).toInt ≤ 3) ∧ (n8 : Int32).toInt = (a).toInt)) from Or.inr ⟨⟨by omega, by omega⟩, xr3_0⟩), trivial, rfl⟩, by rw [ht9]; exact hP9, hD9⟩, hS.F ht9⟩) hS.2.2 dX11_order_63
          · exact absurd rfl c14
      · have fc9 := z_eq (rfl : (b).toInt = _) (by decide : ((-1) : Int32).toInt = (-1)) c9
        refine lv_aload_n hx hb dX11_order_25 rfl (lv_at hl 0 rfl) ?_
        refine gX_11_7 hx hb ht hown hK hP m_422 dX11_order_26 ?_
        refine gX_5_5 hx hb ht hown hK hP m_343 (v := n7) rfl dX11_order_29 ?_
        have hP9 : va_P (dC, dI) classes (WX h g ca (u2 (u2 iv 5 5 n7) 5 6 n8) lv (u2 (u2 (u2 fa 5 1 n4) 5 2 n5) 5 3 n6) la) H := hP
        have hD9 : va_D A (WX h g ca (u2 (u2 iv 5 5 n7) 5 6 n8) lv (u2 (u2 (u2 fa 5 1 n4) 5 2 n5) 5 3 n6) la) := hD
        exact W.iret (v := n7) hx hb hr (fun t ht9 hW => ⟨⟨n7, ((u2 (u2 iv 5 5 n7) 5 6 n8), lv, (u2 (u2 (u2 fa 5 1 n4) 5 2 n5) 5 3 n6), la), rfl, ⟨n4, n5, n6, n7, n8, (show (((n7 : Int32).toInt = -100002 ∧ ¬ (1 ≤ (a).toInt ∧ (a).toInt ≤ 3)) ∨ ((1 ≤ (a).toInt ∧ (a).toInt ≤ 3) ∧ (((b).toInt = -1 ∧ (n7 : Int32).toInt = (n7 : Int32).toInt) ∨ ((b).toInt ≠ -1 ∧ (0 ≤ (b).toInt ∧ (b).toInt < (iv 5 4).toInt) ∧ (n7 : Int32).toInt = (n6 ((b).toInt).toNat).toInt) ∨ ((b).toInt ≠ -1 ∧ ¬ (0 ≤ (b).toInt ∧ (b).toInt < (iv 5 4).toInt) ∧ (n7 : Int32).toInt = -1)))) from Or.inr ⟨⟨by omega, by omega⟩, Or.inl ⟨by omega, by omega⟩⟩), (show ∀ j : Nat, n5 j = (fa 5 2) j from (fun j => xr3_1 j)), (show (∀ o : Nat, o < 3 → (fa 5 2) o = 0) → (1 ≤ (iv 5 6).toInt → OrR ((iv 5 4).toInt).toNat ((iv 5 6).toInt).toNat (fa 5 0) (iv 5 5).toInt (fa 5 3)) → (1 ≤ (a).toInt ∧ (a).toInt ≤ 3) → OrR ((iv 5 4).toInt).toNat ((a).toInt).toNat (fa 5 0) (n7 : Int32).toInt n6 from (fun h1 h2 h3 => xr3_2 h1 h2)), (show ((¬ (1 ≤ (a).toInt ∧ (a).toInt ≤ 3) ∧ (n8 : Int32).toInt = (iv 5 6).toInt ∧ (n7 : Int32).toInt = (iv 5 5).toInt ∧ ∀ j : Nat, n6 j = (fa 5 3) j) ∨ ((1 ≤ (a).toInt ∧ (a).toInt ≤ 3) ∧ (n8 : Int32).toInt = (a).toInt)) from Or.inr ⟨⟨by omega, by omega⟩, xr3_0⟩), trivial, rfl⟩, by rw [ht9]; exact hP9, hD9⟩, hS.F ht9⟩) hS.2.2 dX11_order_32
    · exact absurd c2 (by decide)
  · skip
    refine lv_if_ne (tgt := 12) hx hb dX11_order_6 (by decide) (fun c15 => ?_) (fun c15 => ?_)
    · exact absurd rfl c15
    · skip
      refine lv_ldc hx hb hown (ht _ m_456) dX11_order_9 ?_
      have : ((-100002) : Int32).toInt = (-100002) := (by decide)
      have hP9 : va_P (dC, dI) classes (WX h g ca (u2 (u2 iv 5 5 (iv 5 5)) 5 6 (iv 5 6)) lv (u2 (u2 (u2 fa 5 1 (fa 5 1)) 5 2 (fa 5 2)) 5 3 (fa 5 3)) la) s.heap := hP
      have hD9 : va_D A (WX h g ca (u2 (u2 iv 5 5 (iv 5 5)) 5 6 (iv 5 6)) lv (u2 (u2 (u2 fa 5 1 (fa 5 1)) 5 2 (fa 5 2)) 5 3 (fa 5 3)) la) := hD
      exact W.iret (v := (-100002)) hx hb hr (fun t ht9 hW => ⟨⟨(-100002), ((u2 (u2 iv 5 5 (iv 5 5)) 5 6 (iv 5 6)), lv, (u2 (u2 (u2 fa 5 1 (fa 5 1)) 5 2 (fa 5 2)) 5 3 (fa 5 3)), la), rfl, ⟨(fa 5 1), (fa 5 2), (fa 5 3), (iv 5 5), (iv 5 6), (show ((((-100002) : Int32).toInt = -100002 ∧ ¬ (1 ≤ (a).toInt ∧ (a).toInt ≤ 3)) ∨ ((1 ≤ (a).toInt ∧ (a).toInt ≤ 3) ∧ (((b).toInt = -1 ∧ ((-100002) : Int32).toInt = ((iv 5 5) : Int32).toInt) ∨ ((b).toInt ≠ -1 ∧ (0 ≤ (b).toInt ∧ (b).toInt < (iv 5 4).toInt) ∧ ((-100002) : Int32).toInt = ((fa 5 3) ((b).toInt).toNat).toInt) ∨ ((b).toInt ≠ -1 ∧ ¬ (0 ≤ (b).toInt ∧ (b).toInt < (iv 5 4).toInt) ∧ ((-100002) : Int32).toInt = -1)))) from Or.inl ⟨by omega, by omega⟩), (show ∀ j : Nat, (fa 5 2) j = (fa 5 2) j from fun j => rfl), (show (∀ o : Nat, o < 3 → (fa 5 2) o = 0) → (1 ≤ (iv 5 6).toInt → OrR ((iv 5 4).toInt).toNat ((iv 5 6).toInt).toNat (fa 5 0) (iv 5 5).toInt (fa 5 3)) → (1 ≤ (a).toInt ∧ (a).toInt ≤ 3) → OrR ((iv 5 4).toInt).toNat ((a).toInt).toNat (fa 5 0) ((iv 5 5) : Int32).toInt (fa 5 3) from (fun h1 h2 h3 => absurd h3 (by omega))), (show ((¬ (1 ≤ (a).toInt ∧ (a).toInt ≤ 3) ∧ ((iv 5 6) : Int32).toInt = (iv 5 6).toInt ∧ ((iv 5 5) : Int32).toInt = (iv 5 5).toInt ∧ ∀ j : Nat, (fa 5 3) j = (fa 5 3) j) ∨ ((1 ≤ (a).toInt ∧ (a).toInt ≤ 3) ∧ ((iv 5 6) : Int32).toInt = (a).toInt)) from Or.inl ⟨by omega, by omega, by omega, fun j => rfl⟩), trivial, rfl⟩, by rw [ht9]; exact hP9, hD9⟩, hS.F ht9⟩) hS.2.2 dX11_order_11
set_option maxHeartbeats 4000000 in
set_option maxRecDepth 100000 in
/-- X11_load -/
theorem c_X11_load_o (l : Launch) (dC : Nat → ClassId) (dI : Nat → Nat → Nat) (sz : Nat) (h : Nat) (g : Nat → Nat → Nat) (ca : Nat → Nat → ClassId) (iv : Nat → Nat → Int32) (lv : Nat → Nat → Int64) (fa : Nat → Nat → Nat → Int32) (la : Nat → Nat → Nat → Int64) (hI : IX iv fa) (a : Int32) : Met l yX11_load (wc yX11_load cX11_load 2 (some .int)) ({ frames := 1, cells := 0, slots := 0, locals := 22 } : Room) (pW (dC, dI) classes (WX h g ca iv lv fa la) (TX ca) sz [.ref h, .int a]) (va_Qi (fun r (u : SS) => ∃ (na_5_0 : Nat → Int32) (ni_5_4 : Int32) (ni_5_6 : Int32), inb (bI 5 4) ni_5_4 ∧ (((r.toInt = -100002 ∧ ¬ (1 ≤ a.toInt ∧ a.toInt ≤ 999) ∧ (ni_5_4).toInt = (iv 5 4).toInt) ∨ (r.toInt = -100004 ∧ (1 ≤ a.toInt ∧ a.toInt ≤ 999) ∧ 8 ≤ (iv 5 4).toInt ∧ (ni_5_4).toInt = (iv 5 4).toInt) ∨ ((1 ≤ a.toInt ∧ a.toInt ≤ 999) ∧ (iv 5 4).toInt < 8 ∧ r.toInt = (iv 5 4).toInt + 1 ∧ (ni_5_4).toInt = (iv 5 4).toInt + 1))) ∧ (((r.toInt < 0 ∧ (ni_5_6).toInt = (iv 5 6).toInt ∧ ∀ j : Nat, na_5_0 j = (fa 5 0) j) ∨ (0 ≤ r.toInt ∧ (∀ j : Nat, j ≠ ((iv 5 4).toInt).toNat → na_5_0 j = (fa 5 0) j) ∧ na_5_0 ((iv 5 4).toInt).toNat = a ∧ (ni_5_6).toInt = 0))) ∧ ((-100004) ≤ r.toInt ∧ r.toInt ≤ 8) ∧ u = ((u2 (u2 iv 5 4 ni_5_4) 5 6 ni_5_6), lv, (u2 fa 5 0 na_5_0), la)) (bX (dC, dI) h g ca (va_A (WX h g ca iv lv fa la) sz)) (va_A (WX h g ca iv lv fa la) sz)) 0 0 (va_A (WX h g ca iv lv fa la) sz) := by
  refine Met.ofW (cc := cX11_load) (maxL := 2) (ret := (some .int)) (by decide) rfl ?_
  intro p e s m args below meth c s₁ B hml hv
  obtain ⟨rfl, hsz, hP, hK, hD0⟩ := hv
  have hx := B.exec
  have hb := B.bytes
  have hr := B.returns
  have ht := tb_tl (atoms_spec (ws := wc yX11_load cX11_load 2 (some .int)) B.pre)
  have hown : s.vm.findClass RX11 = some m.cls := findClass_of_methodNamed B.named
  have hlocks := B.notSynchronized
  subst hsz
  have hD := hD0.self (sz := s.heap.size)
  generalize hAe : va_A (WX h g ca iv lv fa la) s.heap.size = A at hD ⊢
  have hA : ∀ q : Nat, s.heap.size ≤ q → A q := fun q h => by rw [← hAe]; exact Or.inr h
  have hS : va_S A s.heap s.heap [] := va_S.rf
  have hl := lv_entry [.ref h, .int a] (n := 2) (Nat.le_of_ble_eq_true rfl)
  rw [lg_entry_eq]
  generalize (lg_sl [.ref h, .int a] ++ List.replicate (2 - (lg_sl [.ref h, .int a]).length) Slot.unset).toArray = ls at hl ⊢
  have hl : lv_has ls 2 [(0, .ref h), (1, .int a)] := hl
  refine lv_iload_n hx hb dX11_load_0 rfl (lv_at hl 1 rfl) ?_
  refine lv_iconst (v := 1) hx hb dX11_load_1 (by decide) ?_
  refine lv_sipush (v := 999) hx hb dX11_load_2 (by decide) ?_
  refine vp_callSi (W.runS (As := [.int a, .int 1, .int 999]) (rest := []) ⟨hx, hb, hml, hown, ht⟩ (c_X11_within l dC dI a 1 999 (a.toInt) (1) (999) (rfl : (a).toInt = _) (by decide : (1 : Int32).toInt = 1) (by decide : (999 : Int32).toInt = 999)) (kS 3 ht m_453 m_454 m_77 m_455 rfl rfl hd_X11_within_v ⟨Nat.le_of_ble_eq_true rfl, Nat.le_of_ble_eq_true rfl⟩) (sR noP (hK.sub (tys' := []) [] rfl)) rfl rfl hl.1 rfl (lv_room (Nat.le_of_ble_eq_true rfl)) dX11_load_5 ⟨Nat.le_of_ble_eq_true rfl, Nat.le_of_ble_eq_true rfl⟩) (fun r1 hr1 => ?_)
  rcases hr1 with ⟨rfl, fr1⟩ | ⟨rfl, fr1⟩
  · skip
    refine lv_if_ne (tgt := 14) hx hb dX11_load_8 (by decide) (fun c2 => ?_) (fun c2 => ?_)
    · skip
      refine lv_aload_n hx hb dX11_load_14 rfl (lv_at hl 0 rfl) ?_
      refine gX_11_7 hx hb ht hown hK hP m_422 dX11_load_15 ?_
      have i_5_4 : 0 ≤ (iv 5 4).toInt ∧ (iv 5 4).toInt ≤ 8 := hI.1 5 4
      refine gX_5_4 hx hb ht hown hK hP m_341 (v := (iv 5 4)) rfl dX11_load_18 ?_
      refine lv_bipush (v := 8) hx hb dX11_load_21 (by decide) ?_
      refine lv_icmp_lt (tgt := 31) hx hb dX11_load_23 (by decide) (fun c3 => ?_) (fun c3 => ?_)
      · have fc3 := z_lt (rfl : ((iv 5 4)).toInt = _) (by decide : (8 : Int32).toInt = 8) c3
        refine lv_aload_n hx hb dX11_load_31 rfl (lv_at hl 0 rfl) ?_
        refine gX_11_7 hx hb ht hown hK hP m_422 dX11_load_32 ?_
        refine lv_iload_n hx hb dX11_load_35 rfl (lv_at hl 1 rfl) ?_
        have hFc := free_all hD hS hA
        refine va_calli (va_runV (As := [.int a]) (rest := []) ⟨hx, hb, hml, hown, ht⟩ (c_X5_bring_o l dC dI s.heap.size h g ca iv lv fa la hI a (show 0 ≤ ((iv 5 4) : Int32).toInt ∧ ((iv 5 4) : Int32).toInt ≤ 7 from ⟨by omega, by omega⟩)) (kV 1 ht m_1005 m_1006 m_1007 m_86 m_1008 rfl rfl hd_X5_bring_v ⟨Nat.le_of_ble_eq_true rfl, Nat.le_of_ble_eq_true rfl⟩) (vW hP hK hD (rX_5 hK hP)) rfl rfl hl.1 rfl (lv_room (Nat.le_of_ble_eq_true rfl)) dX11_load_36 ⟨Nat.le_of_ble_eq_true rfl, Nat.le_of_ble_eq_true rfl⟩) hS (fun q _ h => hFc q h) hFc (fun r4 u t H1 locs ht9 hvm hr4 hB hz1 hk1 hS => ?_)
        obtain ⟨n5, n6, n7, hn6, dn6, xr4_0, xr4_1, xr4_2, xr4_3, hr4, rfl⟩ := hr4
        have hn5 : ∀ j, inb (bA 5 0 j) (n5 j) := fun j => full_i _
        have dn6 : n6.toInt = ((iv 5 4) : Int32).toInt + 1 := dn6
        have hn6 : 0 ≤ n6.toInt ∧ n6.toInt ≤ 8 := hn6
        obtain ⟨hP, hD⟩ := hB
        rw [ht9] at hP
        generalize H1 = H at hP hS ⊢
        have hP : va_P (dC, dI) classes (WX h g ca (u2 (u2 iv 5 4 n6) 5 6 n7) lv (u2 fa 5 0 n5) la) H := hP
        have hD : va_D A (WX h g ca (u2 (u2 iv 5 4 n6) 5 6 n7) lv (u2 fa 5 0 n5) la) := (show va_D _ (WX h g ca (u2 (u2 iv 5 4 n6) 5 6 n7) lv (u2 fa 5 0 n5) la) from hD).weaken (fun _ _ _ h => hFc _ h)
        have xr4_0 : (r4 : Int32).toInt = ((iv 5 4) : Int32).toInt + 1 := xr4_0
        have xr4_1 : ∀ j : Nat, j ≠ (((iv 5 4) : Int32).toInt).toNat → n5 j = (fa 5 0) j := xr4_1
        have xr4_2 : n5 (((iv 5 4) : Int32).toInt).toNat = (a : Int32) := xr4_2
        have xr4_3 : (n7 : Int32).toInt = 0 := xr4_3
        have hP9 : va_P (dC, dI) classes (WX h g ca (u2 (u2 iv 5 4 n6) 5 6 n7) lv (u2 fa 5 0 n5) la) H := hP
        have hD9 : va_D A (WX h g ca (u2 (u2 iv 5 4 n6) 5 6 n7) lv (u2 fa 5 0 n5) la) := hD
        exact W.iret (v := r4) hx hb hr (fun t ht9 hW => ⟨⟨r4, ((u2 (u2 iv 5 4 n6) 5 6 n7), lv, (u2 fa 5 0 n5), la), rfl, ⟨n5, n6, n7, (show inb (0, 8) n6 from ⟨by omega, by omega⟩), (show (((r4 : Int32).toInt = -100002 ∧ ¬ (1 ≤ (a).toInt ∧ (a).toInt ≤ 999) ∧ (n6 : Int32).toInt = (iv 5 4).toInt) ∨ ((r4 : Int32).toInt = -100004 ∧ (1 ≤ (a).toInt ∧ (a).toInt ≤ 999) ∧ 8 ≤ (iv 5 4).toInt ∧ (n6 : Int32).toInt = (iv 5 4).toInt) ∨ ((1 ≤ (a).toInt ∧ (a).toInt ≤ 999) ∧ (iv 5 4).toInt < 8 ∧ (r4 : Int32).toInt = (iv 5 4).toInt + 1 ∧ (n6 : Int32).toInt = (iv 5 4).toInt + 1)) from by omega), (show (((r4 : Int32).toInt < 0 ∧ (n7 : Int32).toInt = (iv 5 6).toInt ∧ ∀ j : Nat, n5 j = (fa 5 0) j) ∨ (0 ≤ (r4 : Int32).toInt ∧ (∀ j : Nat, j ≠ ((iv 5 4).toInt).toNat → n5 j = (fa 5 0) j) ∧ n5 ((iv 5 4).toInt).toNat = a ∧ (n7 : Int32).toInt = 0)) from Or.inr ⟨by omega, xr4_1, xr4_2, xr4_3⟩), ⟨by omega, by omega⟩, rfl⟩, by rw [ht9]; exact hP9, hD9⟩, hS.F ht9⟩) hS.2.2 dX11_load_39
      · have fc3 := z_nlt (rfl : ((iv 5 4)).toInt = _) (by decide : (8 : Int32).toInt = 8) c3
        refine lv_ldc hx hb hown (ht _ m_463) dX11_load_26 ?_
        refine lv_goto (tgt := 39) hx hb dX11_load_28 (by decide) ?_
        have : ((-100004) : Int32).toInt = (-100004) := (by decide)
        have hP9 : va_P (dC, dI) classes (WX h g ca (u2 (u2 iv 5 4 (iv 5 4)) 5 6 (iv 5 6)) lv (u2 fa 5 0 (fa 5 0)) la) s.heap := hP
        have hD9 : va_D A (WX h g ca (u2 (u2 iv 5 4 (iv 5 4)) 5 6 (iv 5 6)) lv (u2 fa 5 0 (fa 5 0)) la) := hD
        exact W.iret (v := (-100004)) hx hb hr (fun t ht9 hW => ⟨⟨(-100004), ((u2 (u2 iv 5 4 (iv 5 4)) 5 6 (iv 5 6)), lv, (u2 fa 5 0 (fa 5 0)), la), rfl, ⟨(fa 5 0), (iv 5 4), (iv 5 6), (hI.1 5 4), (show ((((-100004) : Int32).toInt = -100002 ∧ ¬ (1 ≤ (a).toInt ∧ (a).toInt ≤ 999) ∧ ((iv 5 4) : Int32).toInt = (iv 5 4).toInt) ∨ (((-100004) : Int32).toInt = -100004 ∧ (1 ≤ (a).toInt ∧ (a).toInt ≤ 999) ∧ 8 ≤ (iv 5 4).toInt ∧ ((iv 5 4) : Int32).toInt = (iv 5 4).toInt) ∨ ((1 ≤ (a).toInt ∧ (a).toInt ≤ 999) ∧ (iv 5 4).toInt < 8 ∧ ((-100004) : Int32).toInt = (iv 5 4).toInt + 1 ∧ ((iv 5 4) : Int32).toInt = (iv 5 4).toInt + 1)) from by omega), (show ((((-100004) : Int32).toInt < 0 ∧ ((iv 5 6) : Int32).toInt = (iv 5 6).toInt ∧ ∀ j : Nat, (fa 5 0) j = (fa 5 0) j) ∨ (0 ≤ ((-100004) : Int32).toInt ∧ (∀ j : Nat, j ≠ ((iv 5 4).toInt).toNat → (fa 5 0) j = (fa 5 0) j) ∧ (fa 5 0) ((iv 5 4).toInt).toNat = a ∧ ((iv 5 6) : Int32).toInt = 0)) from Or.inl ⟨by omega, by omega, fun j => rfl⟩), ⟨by decide, by decide⟩, rfl⟩, by rw [ht9]; exact hP9, hD9⟩, hS.F ht9⟩) hS.2.2 dX11_load_39
    · exact absurd c2 (by decide)
  · skip
    refine lv_if_ne (tgt := 14) hx hb dX11_load_8 (by decide) (fun c8 => ?_) (fun c8 => ?_)
    · exact absurd rfl c8
    · skip
      refine lv_ldc hx hb hown (ht _ m_456) dX11_load_11 ?_
      have : ((-100002) : Int32).toInt = (-100002) := (by decide)
      have i_5_4 : 0 ≤ (iv 5 4).toInt ∧ (iv 5 4).toInt ≤ 8 := hI.1 5 4
      have hP9 : va_P (dC, dI) classes (WX h g ca (u2 (u2 iv 5 4 (iv 5 4)) 5 6 (iv 5 6)) lv (u2 fa 5 0 (fa 5 0)) la) s.heap := hP
      have hD9 : va_D A (WX h g ca (u2 (u2 iv 5 4 (iv 5 4)) 5 6 (iv 5 6)) lv (u2 fa 5 0 (fa 5 0)) la) := hD
      exact W.iret (v := (-100002)) hx hb hr (fun t ht9 hW => ⟨⟨(-100002), ((u2 (u2 iv 5 4 (iv 5 4)) 5 6 (iv 5 6)), lv, (u2 fa 5 0 (fa 5 0)), la), rfl, ⟨(fa 5 0), (iv 5 4), (iv 5 6), (hI.1 5 4), (show ((((-100002) : Int32).toInt = -100002 ∧ ¬ (1 ≤ (a).toInt ∧ (a).toInt ≤ 999) ∧ ((iv 5 4) : Int32).toInt = (iv 5 4).toInt) ∨ (((-100002) : Int32).toInt = -100004 ∧ (1 ≤ (a).toInt ∧ (a).toInt ≤ 999) ∧ 8 ≤ (iv 5 4).toInt ∧ ((iv 5 4) : Int32).toInt = (iv 5 4).toInt) ∨ ((1 ≤ (a).toInt ∧ (a).toInt ≤ 999) ∧ (iv 5 4).toInt < 8 ∧ ((-100002) : Int32).toInt = (iv 5 4).toInt + 1 ∧ ((iv 5 4) : Int32).toInt = (iv 5 4).toInt + 1)) from by omega), (show ((((-100002) : Int32).toInt < 0 ∧ ((iv 5 6) : Int32).toInt = (iv 5 6).toInt ∧ ∀ j : Nat, (fa 5 0) j = (fa 5 0) j) ∨ (0 ≤ ((-100002) : Int32).toInt ∧ (∀ j : Nat, j ≠ ((iv 5 4).toInt).toNat → (fa 5 0) j = (fa 5 0) j) ∧ (fa 5 0) ((iv 5 4).toInt).toNat = a ∧ ((iv 5 6) : Int32).toInt = 0)) from Or.inl ⟨by omega, by omega, fun j => rfl⟩), ⟨by decide, by decide⟩, rfl⟩, by rw [ht9]; exact hP9, hD9⟩, hS.F ht9⟩) hS.2.2 dX11_load_13
set_option maxHeartbeats 4000000 in
set_option maxRecDepth 100000 in
/-- X11_empty -/
theorem c_X11_empty_o (l : Launch) (dC : Nat → ClassId) (dI : Nat → Nat → Nat) (sz : Nat) (h : Nat) (g : Nat → Nat → Nat) (ca : Nat → Nat → ClassId) (iv : Nat → Nat → Int32) (lv : Nat → Nat → Int64) (fa : Nat → Nat → Nat → Int32) (la : Nat → Nat → Nat → Int64) (hI : IX iv fa) : Met l yX11_empty (wc yX11_empty cX11_empty 1 (some .int)) ({ frames := 1, cells := 0, slots := 0, locals := 21 } : Room) (pW (dC, dI) classes (WX h g ca iv lv fa la) (TX ca) sz [.ref h]) (va_Qi (fun r (u : SS) => ∃ (ni_5_4 : Int32) (ni_5_6 : Int32), inb (bI 5 4) ni_5_4 ∧ ((r.toInt = (iv 5 4).toInt ∧ (ni_5_4).toInt = 0)) ∧ ((ni_5_6).toInt = 0) ∧ (0 ≤ r.toInt ∧ r.toInt ≤ 8) ∧ u = ((u2 (u2 iv 5 4 ni_5_4) 5 6 ni_5_6), lv, fa, la)) (bX (dC, dI) h g ca (va_A (WX h g ca iv lv fa la) sz)) (va_A (WX h g ca iv lv fa la) sz)) 0 0 (va_A (WX h g ca iv lv fa la) sz) := by
  refine Met.ofW (cc := cX11_empty) (maxL := 1) (ret := (some .int)) (by decide) rfl ?_
  intro p e s m args below meth c s₁ B hml hv
  obtain ⟨rfl, hsz, hP, hK, hD0⟩ := hv
  have hx := B.exec
  have hb := B.bytes
  have hr := B.returns
  have ht := tb_tl (atoms_spec (ws := wc yX11_empty cX11_empty 1 (some .int)) B.pre)
  have hown : s.vm.findClass RX11 = some m.cls := findClass_of_methodNamed B.named
  have hlocks := B.notSynchronized
  subst hsz
  have hD := hD0.self (sz := s.heap.size)
  generalize hAe : va_A (WX h g ca iv lv fa la) s.heap.size = A at hD ⊢
  have hA : ∀ q : Nat, s.heap.size ≤ q → A q := fun q h => by rw [← hAe]; exact Or.inr h
  have hS : va_S A s.heap s.heap [] := va_S.rf
  have hl := lv_entry [.ref h] (n := 1) (Nat.le_of_ble_eq_true rfl)
  rw [lg_entry_eq]
  generalize (lg_sl [.ref h] ++ List.replicate (1 - (lg_sl [.ref h]).length) Slot.unset).toArray = ls at hl ⊢
  have hl : lv_has ls 1 [(0, .ref h)] := hl
  refine lv_aload_n hx hb dX11_empty_0 rfl (lv_at hl 0 rfl) ?_
  refine gX_11_7 hx hb ht hown hK hP m_422 dX11_empty_1 ?_
  have i_5_4 : 0 ≤ (iv 5 4).toInt ∧ (iv 5 4).toInt ≤ 8 := hI.1 5 4
  have hFc := free_all hD hS hA
  refine va_calli (va_runV (As := []) (rest := []) ⟨hx, hb, hml, hown, ht⟩ (c_X5_clear_o l dC dI s.heap.size h g ca iv lv fa la hI) (kV 0 ht m_1030 m_1031 m_1032 m_86 m_1033 rfl rfl hd_X5_clear_v ⟨Nat.le_of_ble_eq_true rfl, Nat.le_of_ble_eq_true rfl⟩) (vW hP hK hD (rX_5 hK hP)) rfl rfl hl.1 rfl (lv_room (Nat.le_of_ble_eq_true rfl)) dX11_empty_4 ⟨Nat.le_of_ble_eq_true rfl, Nat.le_of_ble_eq_true rfl⟩) hS (fun q _ h => hFc q h) hFc (fun r1 u t H1 locs ht9 hvm hr1 hB hz1 hk1 hS => ?_)
  obtain ⟨n2, n3, hn2, xr1_0, xr1_1, xr1_2, hr1, rfl⟩ := hr1
  have hn2 : 0 ≤ n2.toInt ∧ n2.toInt ≤ 8 := hn2
  obtain ⟨hP, hD⟩ := hB
  rw [ht9] at hP
  generalize H1 = H at hP hS ⊢
  have hP : va_P (dC, dI) classes (WX h g ca (u2 (u2 iv 5 4 n2) 5 6 n3) lv fa la) H := hP
  have hD : va_D A (WX h g ca (u2 (u2 iv 5 4 n2) 5 6 n3) lv fa la) := (show va_D _ (WX h g ca (u2 (u2 iv 5 4 n2) 5 6 n3) lv fa la) from hD).weaken (fun _ _ _ h => hFc _ h)
  have xr1_0 : (r1 : Int32).toInt = ((iv 5 4) : Int32).toInt := xr1_0
  have xr1_1 : (n2 : Int32).toInt = 0 := xr1_1
  have xr1_2 : (n3 : Int32).toInt = 0 := xr1_2
  have hP9 : va_P (dC, dI) classes (WX h g ca (u2 (u2 iv 5 4 n2) 5 6 n3) lv fa la) H := hP
  have hD9 : va_D A (WX h g ca (u2 (u2 iv 5 4 n2) 5 6 n3) lv fa la) := hD
  exact W.iret (v := r1) hx hb hr (fun t ht9 hW => ⟨⟨r1, ((u2 (u2 iv 5 4 n2) 5 6 n3), lv, fa, la), rfl, ⟨n2, n3, (show inb (0, 8) n2 from ⟨by omega, by omega⟩), (show ((r1 : Int32).toInt = (iv 5 4).toInt ∧ (n2 : Int32).toInt = 0) from by omega), (show (n3 : Int32).toInt = 0 from by omega), ⟨by omega, by omega⟩, rfl⟩, by rw [ht9]; exact hP9, hD9⟩, hS.F ht9⟩) hS.2.2 dX11_empty_7
