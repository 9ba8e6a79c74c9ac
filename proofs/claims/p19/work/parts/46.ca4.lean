/-! ===== ca4 ===== -/
set_option maxHeartbeats 4000000 in
set_option maxRecDepth 100000 in
/-- X2_culprit -/
theorem c_X2_culprit_w (l : Launch) (dC : Nat → ClassId) (dI : Nat → Nat → Nat) (sz : Nat) (ak av : Nat → Nat) (h : Nat) (g : Nat → Nat → Nat) (ca : Nat → Nat → ClassId) (iv : Nat → Nat → Int32) (lv : Nat → Nat → Int64) (fa : Nat → Nat → Nat → Int32) (la : Nat → Nat → Nat → Int64) (hI : IX iv fa) (a : Int32) : Met l yX2_culprit (wc yX2_culprit cX2_culprit 4 (some .int)) ({ frames := 5, cells := 0, slots := 0, locals := 114 } : Room) (pWZ ak av (dC, dI) classes (WX h g ca iv lv fa la) (TX ca) sz [.ref (g 11 6), .int a]) (va_Qi (fun r (u : SS) => ∃ (na_20_2 : Nat → Int32) (nb_20_0 : Nat → Int64) (nb_20_1 : Nat → Int64), (∀ pt : Int32, pt.toInt = (iv 2 5).toInt → CuR (fun c : Nat => CaX (fa 10 0) (iv 2 3).toInt (iv 2 4).toInt ((iv 10 1).toInt).toNat pt (c : Int)) (100 + ((iv 10 1).toInt).toNat) a.toInt r.toInt) ∧ ((-1) ≤ r.toInt ∧ r.toInt ≤ 199) ∧ u = (iv, lv, (u2 fa 20 2 na_20_2), (u2 (u2 la 20 0 nb_20_0) 20 1 nb_20_1))) (bX (dC, dI) h g ca (va_A (WX h g ca iv lv fa la) sz)) (va_A (WX h g ca iv lv fa la) sz)) 0 0 (va_A (WX h g ca iv lv fa la) sz) := by
  refine Met.ofW (cc := cX2_culprit) (maxL := 4) (ret := (some .int)) (by decide) rfl ?_
  intro p e s m args below meth c s₁ B hml hv
  obtain ⟨rfl, hsz, hP, hK, hD0, hZ⟩ := hv
  have hx := B.exec
  have hb := B.bytes
  have hr := B.returns
  have ht := tb_tl (atoms_spec (ws := wc yX2_culprit cX2_culprit 4 (some .int)) B.pre)
  have hown : s.vm.findClass RX2 = some m.cls := findClass_of_methodNamed B.named
  have hlocks := B.notSynchronized
  subst hsz
  have hD := hD0.self (sz := s.heap.size)
  generalize hAe : va_A (WX h g ca iv lv fa la) s.heap.size = A at hD hZ ⊢
  have hA : ∀ q : Nat, s.heap.size ≤ q → A q := fun q h => by rw [← hAe]; exact Or.inr h
  have hS : va_S A s.heap s.heap [] := va_S.rf
  have hl := lv_entry [.ref (g 11 6), .int a] (n := 4) (Nat.le_of_ble_eq_true rfl)
  rw [lg_entry_eq]
  generalize (lg_sl [.ref (g 11 6), .int a] ++ List.replicate (4 - (lg_sl [.ref (g 11 6), .int a]).length) Slot.unset).toArray = ls at hl ⊢
  have hl : lv_has ls 4 [(0, .ref (g 11 6)), (1, .int a)] := hl
  refine lv_iconst (v := 0) hx hb dX2_culprit_0 (by decide) ?_
  refine lv_istore_n (lv' := [(2, .int 0), (0, .ref (g 11 6)), (1, .int a)]) hx hb dX2_culprit_1 rfl hl (by decide) rfl (fun ls hl => ?_)
  refine lv_iconst (v := 0) hx hb dX2_culprit_2 (by decide) ?_
  refine lv_istore_n (lv' := [(3, .int 0), (2, .int 0), (0, .ref (g 11 6)), (1, .int a)]) hx hb dX2_culprit_3 rfl hl (by decide) rfl (fun ls hl => ?_)
  have i_10_1 : 0 ≤ (iv 10 1).toInt ∧ (iv 10 1).toInt ≤ 60 := hI.1 10 1
  have lp471 : ∀ (nn471 : Nat) (x470_3 : Int32) (x470_2 : Int32) (w470_a_20_2 : Nat → Int32) (w470_b_20_0 : Nat → Int64) (w470_b_20_1 : Nat → Int64), 0 ≤ x470_3.toInt ∧ x470_3.toInt ≤ 199 → 0 ≤ x470_2.toInt ∧ x470_2.toInt ≤ 199 → (∀ j, inb (bA 20 2 j) (w470_a_20_2 j)) → (∀ pt : Int32, pt.toInt = (iv 2 5).toInt → (x470_2 : Int32).toInt = ((lsP (fun c : Nat => CaX (fa 10 0) (iv 2 3).toInt (iv 2 4).toInt ((iv 10 1).toInt).toNat pt (c : Int)) ((x470_3 : Int32).toInt).toNat).length : Int)) → ¬ (0 ≤ (a).toInt ∧ (a).toInt < (x470_2 : Int32).toInt) → (x470_3 : Int32).toInt ≤ 100 + ((iv 10 1) : Int32).toInt → (x470_2 : Int32).toInt ≤ (x470_3 : Int32).toInt → 199 - x470_3.toInt < (nn471 : Int) → ∀ (H : Heap) (locs : List Loc), ∀ (ls : Array Slot), va_P (dC, dI) classes (WX h g ca iv lv (u2 fa 20 2 w470_a_20_2) (u2 (u2 la 20 0 w470_b_20_0) 20 1 w470_b_20_1)) H → va_D A (WX h g ca iv lv (u2 fa 20 2 w470_a_20_2) (u2 (u2 la 20 0 w470_b_20_0) 20 1 w470_b_20_1)) → va_S A s.heap H locs → lv_has ls 4 [(3, .int x470_3), (2, .int x470_2), (0, .ref (g 11 6)), (1, .int a)] → W p l e ({ frames := 5, cells := 0, slots := 0, locals := 114 } : Room) s m ([.ref (g 11 6), .int a] : List Value).toArray below meth c H locs 0 0 (MQ below (va_Qi (fun r (u : SS) => ∃ (na_20_2 : Nat → Int32) (nb_20_0 : Nat → Int64) (nb_20_1 : Nat → Int64), (∀ pt : Int32, pt.toInt = (iv 2 5).toInt → CuR (fun c : Nat => CaX (fa 10 0) (iv 2 3).toInt (iv 2 4).toInt ((iv 10 1).toInt).toNat pt (c : Int)) (100 + ((iv 10 1).toInt).toNat) a.toInt r.toInt) ∧ ((-1) ≤ r.toInt ∧ r.toInt ≤ 199) ∧ u = (iv, lv, (u2 fa 20 2 na_20_2), (u2 (u2 la 20 0 nb_20_0) 20 1 nb_20_1))) (bX (dC, dI) h g ca A) A) ([.ref (g 11 6), .int a] : List Value).toArray s 0 0 A) (F0 m 4 ls []) := by
    intro nn471
    induction nn471 with
    | zero => intro x470_3 x470_2 w470_a_20_2 w470_b_20_0 w470_b_20_1 hx470_3 hx470_2 hw470_a_20_2 hq471_0 hq471_1 hq471_2 hq471_3 hm471; exfalso; omega
    | succ nn471 ih471 =>
      intro x470_3 x470_2 w470_a_20_2 w470_b_20_0 w470_b_20_1 hx470_3 hx470_2 hw470_a_20_2 hq471_0 hq471_1 hq471_2 hq471_3 hm471 H locs ls hP hD hS hl
      refine lv_iload_n hx hb dX2_culprit_4 rfl (lv_at hl 0 rfl) ?_
      refine lv_bipush (v := 100) hx hb dX2_culprit_5 (by decide) ?_
      refine lv_aload_n hx hb dX2_culprit_7 rfl (lv_at hl 2 rfl) ?_
      refine gX_2_0 hx hb ht hown hK hP m_304 dX2_culprit_8 ?_
      refine gX_10_1 hx hb ht hown hK hP m_115 (v := (iv 10 1)) rfl dX2_culprit_11 ?_
      refine lv_iadd hx hb dX2_culprit_14 ?_
      refine lv_topi (fun v472 ev472 => ?_)
      have tv472 := z_add ev472 (by decide : (100 : Int32).toInt = 100) (rfl : ((iv 10 1)).toInt = _) (by omega) (by omega)
      refine lv_icmp_ge (tgt := 50) hx hb dX2_culprit_15 (by decide) (fun c473 => ?_) (fun c473 => ?_)
      · have fc473 := z_le (rfl : (v472).toInt = _) (rfl : (x470_3).toInt = _) c473
        refine lv_iload_n hx hb dX2_culprit_50 rfl (lv_at hl 3 rfl) ?_
        refine lv_iconst (v := (-1)) hx hb dX2_culprit_51 (by decide) ?_
        refine lv_icmp_ne (tgt := 59) hx hb dX2_culprit_52 (by decide) (fun c474 => ?_) (fun c474 => ?_)
        · have fc474 := z_ne (rfl : (a).toInt = _) (by decide : ((-1) : Int32).toInt = (-1)) c474
          refine lv_iconst (v := (-1)) hx hb dX2_culprit_59 (by decide) ?_
          have : ((-1) : Int32).toInt = (-1) := (by decide)
          have hP9 : va_P (dC, dI) classes (WX h g ca iv lv (u2 fa 20 2 w470_a_20_2) (u2 (u2 la 20 0 w470_b_20_0) 20 1 w470_b_20_1)) H := hP
          have hD9 : va_D A (WX h g ca iv lv (u2 fa 20 2 w470_a_20_2) (u2 (u2 la 20 0 w470_b_20_0) 20 1 w470_b_20_1)) := hD
          exact W.iret (v := (-1)) hx hb hr (fun t ht9 hW => ⟨⟨(-1), (iv, lv, (u2 fa 20 2 w470_a_20_2), (u2 (u2 la 20 0 w470_b_20_0) 20 1 w470_b_20_1)), rfl, ⟨w470_a_20_2, w470_b_20_0, w470_b_20_1, (show ∀ pt : Int32, pt.toInt = (iv 2 5).toInt → CuR (fun c : Nat => CaX (fa 10 0) (iv 2 3).toInt (iv 2 4).toInt ((iv 10 1).toInt).toNat pt (c : Int)) (100 + ((iv 10 1).toInt).toNat) (a).toInt ((-1) : Int32).toInt from (fun pt hpt => by
                have hq9 := hq471_0 pt hpt
                have hb9 : 0 ≤ (iv 10 1).toInt ∧ (iv 10 1).toInt ≤ 60 := hI.1 10 1
                rw [show ((x470_3 : Int32).toInt).toNat = 100 + ((iv 10 1).toInt).toNat from by omega] at hq9
                exact Or.inr (Or.inr ⟨by omega, by omega, by omega⟩))), ⟨by decide, by decide⟩, rfl⟩, by rw [ht9]; exact hP9, hD9⟩, hS.F ht9⟩) hS.2.2 dX2_culprit_60
        · have fc474 := z_eq (rfl : (a).toInt = _) (by decide : ((-1) : Int32).toInt = (-1)) c474
          refine lv_iload_n hx hb dX2_culprit_55 rfl (lv_at hl 1 rfl) ?_
          refine lv_goto (tgt := 60) hx hb dX2_culprit_56 (by decide) ?_
          have hP9 : va_P (dC, dI) classes (WX h g ca iv lv (u2 fa 20 2 w470_a_20_2) (u2 (u2 la 20 0 w470_b_20_0) 20 1 w470_b_20_1)) H := hP
          have hD9 : va_D A (WX h g ca iv lv (u2 fa 20 2 w470_a_20_2) (u2 (u2 la 20 0 w470_b_20_0) 20 1 w470_b_20_1)) := hD
          exact W.iret (v := x470_2) hx hb hr (fun t ht9 hW => ⟨⟨x470_2, (iv, lv, (u2 fa 20 2 w470_a_20_2), (u2 (u2 la 20 0 w470_b_20_0) 20 1 w470_b_20_1)), rfl, ⟨w470_a_20_2, w470_b_20_0, w470_b_20_1, (show ∀ pt : Int32, pt.toInt = (iv 2 5).toInt → CuR (fun c : Nat => CaX (fa 10 0) (iv 2 3).toInt (iv 2 4).toInt ((iv 10 1).toInt).toNat pt (c : Int)) (100 + ((iv 10 1).toInt).toNat) (a).toInt (x470_2 : Int32).toInt from (fun pt hpt => by
                have hq9 := hq471_0 pt hpt
                have hb9 : 0 ≤ (iv 10 1).toInt ∧ (iv 10 1).toInt ≤ 60 := hI.1 10 1
                rw [show ((x470_3 : Int32).toInt).toNat = 100 + ((iv 10 1).toInt).toNat from by omega] at hq9
                exact Or.inl ⟨by omega, hq9⟩)), ⟨by omega, by omega⟩, rfl⟩, by rw [ht9]; exact hP9, hD9⟩, hS.F ht9⟩) hS.2.2 dX2_culprit_60
      · have fc473 := z_nle (rfl : (v472).toInt = _) (rfl : (x470_3).toInt = _) c473
        refine lv_aload_n hx hb dX2_culprit_18 rfl (lv_at hl 2 rfl) ?_
        refine lv_iload_n hx hb dX2_culprit_19 rfl (lv_at hl 0 rfl) ?_
        refine vp_callSi (W.runV (As := [.int x470_3]) (rest := []) ⟨hx, hb, hml, hown, ht⟩ (c_X2_isSuspect_w l dC dI ak av h g ca iv lv (u2 fa 20 2 w470_a_20_2) (u2 (u2 la 20 0 w470_b_20_0) 20 1 w470_b_20_1) (IX_a (c := 20) (k := 2) hI hw470_a_20_2) x470_3 ⟨by omega, by omega⟩) (kV 1 ht m_904 m_906 m_35 m_85 m_907 rfl rfl hd_X2_isSuspect_v ⟨Nat.le_of_ble_eq_true rfl, Nat.le_of_ble_eq_true rfl⟩) (vRZ hP hK ((hZ.kept hS.2.1).narrow (fun _ h => h.elim)) (rX_2 hK hP)) rfl rfl hl.1 rfl (lv_room (Nat.le_of_ble_eq_true rfl)) dX2_culprit_20 ⟨Nat.le_of_ble_eq_true rfl, Nat.le_of_ble_eq_true rfl⟩) (fun r475 hr475 => ?_)
        obtain ⟨hr475, xr475_0⟩ := hr475
        have xr475_0 : (((r475 : Int32).toInt = 1 ∧ SuX (fa 10 0) ((iv 2 3) : Int32).toInt ((iv 2 4) : Int32).toInt (x470_3 : Int32).toInt) ∨ ((r475 : Int32).toInt = 0 ∧ ¬ SuX (fa 10 0) ((iv 2 3) : Int32).toInt ((iv 2 4) : Int32).toInt (x470_3 : Int32).toInt)) := xr475_0
        refine lv_if_eq (tgt := 44) hx hb dX2_culprit_23 (by decide) (fun c476 => ?_) (fun c476 => ?_)
        · have fc476 := z_eq (rfl : (r475).toInt = _) (by decide : (0 : Int32).toInt = 0) c476
          obtain ⟨v477, ev477⟩ : ∃ y : Int32, y = x470_3 + 1 := ⟨_, rfl⟩
          have tv477 := z_add ev477 rfl (by decide : (1 : Int32).toInt = 1) (by omega) (by omega)
          refine lv_iinc (v := v477) (lv' := [(3, .int v477), (2, .int x470_2), (0, .ref (g 11 6)), (1, .int a)]) hx hb dX2_culprit_44 hl (k := 0) rfl (by rw [ev477]; rfl) (by decide) rfl (fun ls hl => ?_)
          refine lv_goto (tgt := 4) hx hb dX2_culprit_47 (by decide) ?_
          exact ih471 v477 x470_2 w470_a_20_2 w470_b_20_0 w470_b_20_1 ⟨by omega, by omega⟩ ⟨by omega, by omega⟩ hw470_a_20_2 (show ∀ pt : Int32, pt.toInt = (iv 2 5).toInt → (x470_2 : Int32).toInt = ((lsP (fun c : Nat => CaX (fa 10 0) (iv 2 3).toInt (iv 2 4).toInt ((iv 10 1).toInt).toNat pt (c : Int)) ((v477 : Int32).toInt).toNat).length : Int) from (fun pt hpt => by
                have hs9 : ((v477 : Int32).toInt).toNat = ((x470_3 : Int32).toInt).toNat + 1 := by omega
                have hq9 := hq471_0 pt hpt
                have hc9 : ((((x470_3 : Int32).toInt).toNat : Nat) : Int) = (x470_3 : Int32).toInt := Int.toNat_of_nonneg (by omega)
                have hu9 := xr475_0
                have hn9 : ¬ (fun c : Nat => CaX (fa 10 0) (iv 2 3).toInt (iv 2 4).toInt ((iv 10 1).toInt).toNat pt (c : Int)) ((x470_3 : Int32).toInt).toNat := fun z => by
                  have z1 := z.1
                  rw [hc9] at z1
                  exact (hu9.resolve_left (fun y => by omega)).2 z1
                rw [lsP_n hs9 hn9]; exact hq9)) (show ¬ (0 ≤ (a).toInt ∧ (a).toInt < (x470_2 : Int32).toInt) from by omega) (show (v477 : Int32).toInt ≤ 100 + ((iv 10 1) : Int32).toInt from by omega) (show (x470_2 : Int32).toInt ≤ (v477 : Int32).toInt from by omega) (by omega) _ _ ls hP hD hS (lv_sub hl [0, 1, 2, 3] rfl)
        · have fc476 := z_ne (rfl : (r475).toInt = _) (by decide : (0 : Int32).toInt = 0) c476
          refine lv_aload_n hx hb dX2_culprit_26 rfl (lv_at hl 2 rfl) ?_
          refine lv_iload_n hx hb dX2_culprit_27 rfl (lv_at hl 0 rfl) ?_
          have hFc := free_all hD hS hA
          refine va_calli (va_runV (As := [.int x470_3]) (rest := []) ⟨hx, hb, hml, hown, ht⟩ (c_X2_agreeWithout_w l dC dI H.size h g ca iv lv (u2 fa 20 2 w470_a_20_2) (u2 (u2 la 20 0 w470_b_20_0) 20 1 w470_b_20_1) (IX_a (c := 20) (k := 2) hI hw470_a_20_2) x470_3 ⟨by omega, by omega⟩) (kV 1 ht m_909 m_911 m_36 m_85 m_912 rfl rfl hd_X2_agreeWithout_v ⟨Nat.le_of_ble_eq_true rfl, Nat.le_of_ble_eq_true rfl⟩) (vW hP hK hD (rX_2 hK hP)) rfl rfl hl.1 rfl (lv_room (Nat.le_of_ble_eq_true rfl)) dX2_culprit_28 ⟨Nat.le_of_ble_eq_true rfl, Nat.le_of_ble_eq_true rfl⟩) hS (fun q _ h => hFc q h) hFc (fun r478 u t H1 locs ht9 hvm hr478 hB hz1 hk1 hS => ?_)
          obtain ⟨n479, n480, n481, xr478_0, hr478, rfl⟩ := hr478
          have hn479 : ∀ j, inb (bA 20 2 j) (n479 j) := fun j => full_i _
          obtain ⟨hP, hD⟩ := hB
          rw [ht9] at hP
          generalize H1 = H at hP hS ⊢
          have hP : va_P (dC, dI) classes (WX h g ca iv lv (u2 fa 20 2 n479) (u2 (u2 la 20 0 n480) 20 1 n481)) H := hP
          have hD : va_D A (WX h g ca iv lv (u2 fa 20 2 n479) (u2 (u2 la 20 0 n480) 20 1 n481)) := (show va_D _ (WX h g ca iv lv (u2 fa 20 2 n479) (u2 (u2 la 20 0 n480) 20 1 n481)) from hD).weaken (fun _ _ _ h => hFc _ h)
          have xr478_0 : ∀ pt : Int32, pt.toInt = ((iv 2 5) : Int32).toInt → (((r478 : Int32).toInt = 1 ∧ AgR (cxP (fa 10 0) ((iv 2 3) : Int32).toInt ((iv 2 4) : Int32).toInt 0) (cxP (fa 10 0) ((iv 2 3) : Int32).toInt ((iv 2 4) : Int32).toInt 1) (owX (fa 10 0) (x470_3 : Int32).toInt) (fun s : Nat => (fa 10 0) (9 * s + 3)) (fun s : Nat => (fa 10 0) (9 * s + 4)) (((iv 10 1) : Int32).toInt).toNat (caF (x470_3 : Int32).toInt) pt) ∨ ((r478 : Int32).toInt = 0 ∧ ¬ AgR (cxP (fa 10 0) ((iv 2 3) : Int32).toInt ((iv 2 4) : Int32).toInt 0) (cxP (fa 10 0) ((iv 2 3) : Int32).toInt ((iv 2 4) : Int32).toInt 1) (owX (fa 10 0) (x470_3 : Int32).toInt) (fun s : Nat => (fa 10 0) (9 * s + 3)) (fun s : Nat => (fa 10 0) (9 * s + 4)) (((iv 10 1) : Int32).toInt).toNat (caF (x470_3 : Int32).toInt) pt)) := xr478_0
          refine lv_if_eq (tgt := 44) hx hb dX2_culprit_31 (by decide) (fun c482 => ?_) (fun c482 => ?_)
          · have fc482 := z_eq (rfl : (r478).toInt = _) (by decide : (0 : Int32).toInt = 0) c482
            obtain ⟨v483, ev483⟩ : ∃ y : Int32, y = x470_3 + 1 := ⟨_, rfl⟩
            have tv483 := z_add ev483 rfl (by decide : (1 : Int32).toInt = 1) (by omega) (by omega)
            refine lv_iinc (v := v483) (lv' := [(3, .int v483), (2, .int x470_2), (0, .ref (g 11 6)), (1, .int a)]) hx hb dX2_culprit_44 hl (k := 0) rfl (by rw [ev483]; rfl) (by decide) rfl (fun ls hl => ?_)
            refine lv_goto (tgt := 4) hx hb dX2_culprit_47 (by decide) ?_
            exact ih471 v483 x470_2 n479 n480 n481 ⟨by omega, by omega⟩ ⟨by omega, by omega⟩ hn479 (show ∀ pt : Int32, pt.toInt = (iv 2 5).toInt → (x470_2 : Int32).toInt = ((lsP (fun c : Nat => CaX (fa 10 0) (iv 2 3).toInt (iv 2 4).toInt ((iv 10 1).toInt).toNat pt (c : Int)) ((v483 : Int32).toInt).toNat).length : Int) from (fun pt hpt => by
                  have hs9 : ((v483 : Int32).toInt).toNat = ((x470_3 : Int32).toInt).toNat + 1 := by omega
                  have hq9 := hq471_0 pt hpt
                  have hc9 : ((((x470_3 : Int32).toInt).toNat : Nat) : Int) = (x470_3 : Int32).toInt := Int.toNat_of_nonneg (by omega)
                  have hu9 := xr475_0
                  have ha9 := xr478_0 pt hpt
                  have hn9 : ¬ (fun c : Nat => CaX (fa 10 0) (iv 2 3).toInt (iv 2 4).toInt ((iv 10 1).toInt).toNat pt (c : Int)) ((x470_3 : Int32).toInt).toNat := fun z => by
                    have z1 := z.2
                    rw [hc9] at z1
                    exact (ha9.resolve_left (fun y => by omega)).2 z1
                  rw [lsP_n hs9 hn9]; exact hq9)) (show ¬ (0 ≤ (a).toInt ∧ (a).toInt < (x470_2 : Int32).toInt) from by omega) (show (v483 : Int32).toInt ≤ 100 + ((iv 10 1) : Int32).toInt from by omega) (show (x470_2 : Int32).toInt ≤ (v483 : Int32).toInt from by omega) (by omega) _ _ ls hP hD hS (lv_sub hl [0, 1, 2, 3] rfl)
          · have fc482 := z_ne (rfl : (r478).toInt = _) (by decide : (0 : Int32).toInt = 0) c482
            refine lv_iload_n hx hb dX2_culprit_34 rfl (lv_at hl 1 rfl) ?_
            refine lv_iload_n hx hb dX2_culprit_35 rfl (lv_at hl 3 rfl) ?_
            refine lv_icmp_ne (tgt := 41) hx hb dX2_culprit_36 (by decide) (fun c484 => ?_) (fun c484 => ?_)
            · have fc484 := z_ne (rfl : (x470_2).toInt = _) (rfl : (a).toInt = _) c484
              have : 0 ≤ (x470_2 : Int32).toInt ∧ (x470_2 : Int32).toInt ≤ 159 := ⟨by omega, by omega⟩
              obtain ⟨v485, ev485⟩ : ∃ y : Int32, y = x470_2 + 1 := ⟨_, rfl⟩
              have tv485 := z_add ev485 rfl (by decide : (1 : Int32).toInt = 1) (by omega) (by omega)
              refine lv_iinc (v := v485) (lv' := [(2, .int v485), (3, .int x470_3), (0, .ref (g 11 6)), (1, .int a)]) hx hb dX2_culprit_41 hl (k := 1) rfl (by rw [ev485]; rfl) (by decide) rfl (fun ls hl => ?_)
              obtain ⟨v486, ev486⟩ : ∃ y : Int32, y = x470_3 + 1 := ⟨_, rfl⟩
              have tv486 := z_add ev486 rfl (by decide : (1 : Int32).toInt = 1) (by omega) (by omega)
              refine lv_iinc (v := v486) (lv' := [(3, .int v486), (2, .int v485), (0, .ref (g 11 6)), (1, .int a)]) hx hb dX2_culprit_44 hl (k := 1) rfl (by rw [ev486]; rfl) (by decide) rfl (fun ls hl => ?_)
              refine lv_goto (tgt := 4) hx hb dX2_culprit_47 (by decide) ?_
              exact ih471 v486 v485 n479 n480 n481 ⟨by omega, by omega⟩ ⟨by omega, by omega⟩ hn479 (show ∀ pt : Int32, pt.toInt = (iv 2 5).toInt → (v485 : Int32).toInt = ((lsP (fun c : Nat => CaX (fa 10 0) (iv 2 3).toInt (iv 2 4).toInt ((iv 10 1).toInt).toNat pt (c : Int)) ((v486 : Int32).toInt).toNat).length : Int) from (fun pt hpt => by
                    have hs9 : ((v486 : Int32).toInt).toNat = ((x470_3 : Int32).toInt).toNat + 1 := by omega
                    have hq9 := hq471_0 pt hpt
                    have hc9 : ((((x470_3 : Int32).toInt).toNat : Nat) : Int) = (x470_3 : Int32).toInt := Int.toNat_of_nonneg (by omega)
                    have hu9 := xr475_0
                    have ha9 := xr478_0 pt hpt
                    have hn9 : (fun c : Nat => CaX (fa 10 0) (iv 2 3).toInt (iv 2 4).toInt ((iv 10 1).toInt).toNat pt (c : Int)) ((x470_3 : Int32).toInt).toNat := by
                      show CaX (fa 10 0) (iv 2 3).toInt (iv 2 4).toInt ((iv 10 1).toInt).toNat pt ((((x470_3 : Int32).toInt).toNat : Nat) : Int)
                      rw [hc9]
                      exact ⟨(hu9.resolve_right (fun y => by omega)).2, (ha9.resolve_right (fun y => by omega)).2⟩
                    rw [lsP_y hs9 hn9, List.length_append]
                    show (v485 : Int32).toInt = (((lsP (fun c : Nat => CaX (fa 10 0) (iv 2 3).toInt (iv 2 4).toInt ((iv 10 1).toInt).toNat pt (c : Int)) ((x470_3 : Int32).toInt).toNat).length + 1 : Nat) : Int)
                    omega)) (show ¬ (0 ≤ (a).toInt ∧ (a).toInt < (v485 : Int32).toInt) from by omega) (show (v486 : Int32).toInt ≤ 100 + ((iv 10 1) : Int32).toInt from by omega) (show (v485 : Int32).toInt ≤ (v486 : Int32).toInt from by omega) (by omega) _ _ ls hP hD hS (lv_sub hl [0, 1, 2, 3] rfl)
            · have fc484 := z_eq (rfl : (x470_2).toInt = _) (rfl : (a).toInt = _) c484
              refine lv_iload_n hx hb dX2_culprit_39 rfl (lv_at hl 0 rfl) ?_
              have hP9 : va_P (dC, dI) classes (WX h g ca iv lv (u2 fa 20 2 n479) (u2 (u2 la 20 0 n480) 20 1 n481)) H := hP
              have hD9 : va_D A (WX h g ca iv lv (u2 fa 20 2 n479) (u2 (u2 la 20 0 n480) 20 1 n481)) := hD
              exact W.iret (v := x470_3) hx hb hr (fun t ht9 hW => ⟨⟨x470_3, (iv, lv, (u2 fa 20 2 n479), (u2 (u2 la 20 0 n480) 20 1 n481)), rfl, ⟨n479, n480, n481, (show ∀ pt : Int32, pt.toInt = (iv 2 5).toInt → CuR (fun c : Nat => CaX (fa 10 0) (iv 2 3).toInt (iv 2 4).toInt ((iv 10 1).toInt).toNat pt (c : Int)) (100 + ((iv 10 1).toInt).toNat) (a).toInt (x470_3 : Int32).toInt from (fun pt hpt => by
                    have hq9 := hq471_0 pt hpt
                    have hc9 : ((((x470_3 : Int32).toInt).toNat : Nat) : Int) = (x470_3 : Int32).toInt := Int.toNat_of_nonneg (by omega)
                    have hu9 := xr475_0
                    have ha9 := xr478_0 pt hpt
                    have hn9 : (fun c : Nat => CaX (fa 10 0) (iv 2 3).toInt (iv 2 4).toInt ((iv 10 1).toInt).toNat pt (c : Int)) ((x470_3 : Int32).toInt).toNat := by
                      show CaX (fa 10 0) (iv 2 3).toInt (iv 2 4).toInt ((iv 10 1).toInt).toNat pt ((((x470_3 : Int32).toInt).toNat : Nat) : Int)
                      rw [hc9]
                      exact ⟨(hu9.resolve_right (fun y => by omega)).2, (ha9.resolve_right (fun y => by omega)).2⟩
                    exact Cu_hit (k := ((x470_3 : Int32).toInt).toNat) (by omega) hn9 (by omega) hc9.symm)), ⟨by omega, by omega⟩, rfl⟩, by rw [ht9]; exact hP9, hD9⟩, hS.F ht9⟩) hS.2.2 dX2_culprit_40
  have : (0 : Int32).toInt = 0 := (by decide)
  have i_10_1 : 0 ≤ (iv 10 1).toInt ∧ (iv 10 1).toInt ≤ 60 := hI.1 10 1
  exact lp471 200 0 0 (fa 20 2) (la 20 0) (la 20 1) ⟨by decide, by decide⟩ ⟨by decide, by decide⟩ (hI.2 20 2) (show ∀ pt : Int32, pt.toInt = (iv 2 5).toInt → (0 : Int32).toInt = ((lsP (fun c : Nat => CaX (fa 10 0) (iv 2 3).toInt (iv 2 4).toInt ((iv 10 1).toInt).toNat pt (c : Int)) ((0 : Int32).toInt).toNat).length : Int) from (fun pt hpt => by have hz : ((0 : Int32).toInt).toNat = 0 := (by decide); rw [hz]; exact (by decide : (0 : Int32).toInt = 0))) (show ¬ (0 ≤ (a).toInt ∧ (a).toInt < (0 : Int32).toInt) from by omega) (show (0 : Int32).toInt ≤ 100 + ((iv 10 1) : Int32).toInt from by omega) (show (0 : Int32).toInt ≤ (0 : Int32).toInt from by omega) (by first | decide | omega) _ _ ls hP hD hS (lv_sub hl [0, 1, 2, 3] rfl)
set_option maxHeartbeats 4000000 in
set_option maxRecDepth 100000 in
/-- X11_cause -/
theorem c_X11_cause_w (l : Launch) (dC : Nat → ClassId) (dI : Nat → Nat → Nat) (sz : Nat) (ak av : Nat → Nat) (h : Nat) (g : Nat → Nat → Nat) (ca : Nat → Nat → ClassId) (iv : Nat → Nat → Int32) (lv : Nat → Nat → Int64) (fa : Nat → Nat → Nat → Int32) (la : Nat → Nat → Nat → Int64) (hI : IX iv fa) (a : Int32) (b : Int32) (hJB : ∀ j : Nat, (j : Int) < (iv 1 7).toInt → 0 ≤ (fa 1 0 j).toInt) : Met l yX11_cause (wc yX11_cause cX11_cause 3 (some .int)) ({ frames := 6, cells := 0, slots := 0, locals := 137 } : Room) (pWZ ak av (dC, dI) classes (WX h g ca iv lv fa la) (TX ca) sz [.ref h, .int a, .int b]) (va_Qi (fun r (u : SS) => ∃ (na_1_6 : Nat → Int32) (na_20_2 : Nat → Int32) (nb_20_0 : Nat → Int64) (nb_20_1 : Nat → Int64) (ni_2_3 : Int32) (ni_2_4 : Int32) (ni_2_5 : Int32), (∀ j, inb (bA 1 6 j) (na_1_6 j)) ∧ (((r.toInt = -100001 ∧ ¬ (0 ≤ a.toInt ∧ a.toInt < (iv 0 7).toInt)) ∨ ((0 ≤ a.toInt ∧ a.toInt < (iv 0 7).toInt) ∧ ∃ pt : Int32, FoX (iv 1 7).toInt (fa 1 0) (fa 1 1) (fa 1 2) (fa 1 3) 2 (iv 11 10).toInt pt.toInt ∧ ((¬ PaR (cxP (fa 10 0) a.toInt (iv 11 10).toInt 0) (cxP (fa 10 0) a.toInt (iv 11 10).toInt 1) (fun s : Nat => (fa 10 0) (9 * s + 3)) (fun s : Nat => (fa 10 0) (9 * s + 4)) ((iv 10 1).toInt).toNat pt ∧ r.toInt = -100003) ∨ (PaR (cxP (fa 10 0) a.toInt (iv 11 10).toInt 0) (cxP (fa 10 0) a.toInt (iv 11 10).toInt 1) (fun s : Nat => (fa 10 0) (9 * s + 3)) (fun s : Nat => (fa 10 0) (9 * s + 4)) ((iv 10 1).toInt).toNat pt ∧ CuR (fun c : Nat => CaX (fa 10 0) a.toInt (iv 11 10).toInt ((iv 10 1).toInt).toNat pt (c : Int)) (100 + ((iv 10 1).toInt).toNat) b.toInt r.toInt))))) ∧ ((-100003) ≤ r.toInt ∧ r.toInt ≤ 199) ∧ u = ((u2 (u2 (u2 iv 2 3 ni_2_3) 2 4 ni_2_4) 2 5 ni_2_5), lv, (u2 (u2 fa 1 6 na_1_6) 20 2 na_20_2), (u2 (u2 la 20 0 nb_20_0) 20 1 nb_20_1))) (bX (dC, dI) h g ca (va_A (WX h g ca iv lv fa la) sz)) (va_A (WX h g ca iv lv fa la) sz)) 0 0 (va_A (WX h g ca iv lv fa la) sz) := by
  refine Met.ofW (cc := cX11_cause) (maxL := 3) (ret := (some .int)) (by decide) rfl ?_
  intro p e s m args below meth c s₁ B hml hv
  obtain ⟨rfl, hsz, hP, hK, hD0, hZ⟩ := hv
  have hx := B.exec
  have hb := B.bytes
  have hr := B.returns
  have ht := tb_tl (atoms_spec (ws := wc yX11_cause cX11_cause 3 (some .int)) B.pre)
  have hown : s.vm.findClass RX11 = some m.cls := findClass_of_methodNamed B.named
  have hlocks := B.notSynchronized
  subst hsz
  have hD := hD0.self (sz := s.heap.size)
  generalize hAe : va_A (WX h g ca iv lv fa la) s.heap.size = A at hD hZ ⊢
  have hA : ∀ q : Nat, s.heap.size ≤ q → A q := fun q h => by rw [← hAe]; exact Or.inr h
  have hS : va_S A s.heap s.heap [] := va_S.rf
  have hl := lv_entry [.ref h, .int a, .int b] (n := 3) (Nat.le_of_ble_eq_true rfl)
  rw [lg_entry_eq]
  generalize (lg_sl [.ref h, .int a, .int b] ++ List.replicate (3 - (lg_sl [.ref h, .int a, .int b]).length) Slot.unset).toArray = ls at hl ⊢
  have hl : lv_has ls 3 [(0, .ref h), (1, .int a), (2, .int b)] := hl
  refine lv_aload_n hx hb dX11_cause_0 rfl (lv_at hl 0 rfl) ?_
  refine gX_11_2 hx hb ht hown hK hP m_417 dX11_cause_1 ?_
  refine lv_iload_n hx hb dX11_cause_4 rfl (lv_at hl 1 rfl) ?_
  refine vp_callSi (W.runV (As := [.int a]) (rest := []) ⟨hx, hb, hml, hown, ht⟩ (c_X0_has l dC dI h g ca iv lv fa la hI a) (kV 1 ht m_472 m_473 m_474 m_80 m_475 rfl rfl hd_X0_has_v ⟨Nat.le_of_ble_eq_true rfl, Nat.le_of_ble_eq_true rfl⟩) (vR hP hK (rX_0 hK hP)) rfl rfl hl.1 rfl (lv_room (Nat.le_of_ble_eq_true rfl)) dX11_cause_5 ⟨Nat.le_of_ble_eq_true rfl, Nat.le_of_ble_eq_true rfl⟩) (fun r1 hr1 => ?_)
  rcases hr1 with ⟨rfl, fr1⟩ | ⟨rfl, fr1⟩
  · skip
    have i_0_7 : 0 ≤ (iv 0 7).toInt ∧ (iv 0 7).toInt ≤ 10 := hI.1 0 7
    have fr1 : (0 ≤ (a : Int32).toInt ∧ (a : Int32).toInt < ((iv 0 7) : Int32).toInt) := fr1
    refine lv_if_ne (tgt := 14) hx hb dX11_cause_8 (by decide) (fun c2 => ?_) (fun c2 => ?_)
    · skip
      refine lv_aload_n hx hb dX11_cause_14 rfl (lv_at hl 0 rfl) ?_
      refine gX_11_6 hx hb ht hown hK hP m_421 dX11_cause_15 ?_
      refine lv_iload_n hx hb dX11_cause_18 rfl (lv_at hl 1 rfl) ?_
      refine lv_aload_n hx hb dX11_cause_19 rfl (lv_at hl 0 rfl) ?_
      have i_11_10 : 0 ≤ (iv 11 10).toInt ∧ (iv 11 10).toInt ≤ 3000 := hI.1 11 10
      refine gX_11_10 hx hb ht hown hK hP m_425 (v := (iv 11 10)) rfl dX11_cause_20 ?_
      refine lv_aload_n hx hb dX11_cause_23 rfl (lv_at hl 0 rfl) ?_
      refine gX_11_3 hx hb ht hown hK hP m_418 dX11_cause_24 ?_
      refine lv_iconst (v := 2) hx hb dX11_cause_27 (by decide) ?_
      refine lv_aload_n hx hb dX11_cause_28 rfl (lv_at hl 0 rfl) ?_
      refine gX_11_10 hx hb ht hown hK hP m_425 (v := (iv 11 10)) rfl dX11_cause_29 ?_
      have hFc := free_all hD hS hA
      refine va_calli (va_runV (As := [.int 2, .int (iv 11 10)]) (rest := [.int (iv 11 10), .int a, .ref (g 11 6)]) ⟨hx, hb, hml, hown, ht⟩ (c_X1_holding_f l dC dI s.heap.size ak av h g ca iv lv fa la hI 2 (iv 11 10) ⟨by decide, by decide⟩ hJB) (kV 2 ht m_667 m_601 m_602 m_81 m_603 rfl rfl hd_X1_holding_v ⟨Nat.le_of_ble_eq_true rfl, Nat.le_of_ble_eq_true rfl⟩) (vWZ hP hK hD ((hZ.kept hS.2.1).narrow (free_all hD hS hA)) (rX_1 hK hP)) rfl rfl hl.1 rfl (lv_room (Nat.le_of_ble_eq_true rfl)) dX11_cause_32 ⟨Nat.le_of_ble_eq_true rfl, Nat.le_of_ble_eq_true rfl⟩) hS (fun q _ h => hFc q h) hFc (fun r3 u t H1 locs ht9 hvm hr3 hB hz1 hk1 hS => ?_)
      obtain ⟨n4, hn4, xr3_0, hr3, rfl⟩ := hr3
      obtain ⟨hP, hD⟩ := hB
      rw [ht9] at hP
      generalize H1 = H at hP hS ⊢
      have hP : va_P (dC, dI) classes (WX h g ca iv lv (u2 fa 1 6 n4) la) H := hP
      have hD : va_D A (WX h g ca iv lv (u2 fa 1 6 n4) la) := (show va_D _ (WX h g ca iv lv (u2 fa 1 6 n4) la) from hD).weaken (fun _ _ _ h => hFc _ h)
      have i_1_7 : 0 ≤ (iv 1 7).toInt ∧ (iv 1 7).toInt ≤ 8 := hI.1 1 7
      have : (2 : Int32).toInt = 2 := (by decide)
      have xr3_0 : FoX ((iv 1 7) : Int32).toInt (fa 1 0) (fa 1 1) (fa 1 2) (fa 1 3) (2 : Int32).toInt ((iv 11 10) : Int32).toInt (r3 : Int32).toInt := xr3_0
      have hFc := free_all hD hS hA
      refine va_callv (va_runV (As := [.int a, .int (iv 11 10), .int r3]) (rest := []) ⟨hx, hb, hml, hown, ht⟩ (c_X2_lookAt_w l dC dI H.size h g ca iv lv (u2 fa 1 6 n4) la (IX_a (c := 1) (k := 6) hI hn4) a (iv 11 10) r3) (kV 3 ht m_870 m_871 m_872 m_85 m_873 rfl rfl hd_X2_lookAt_v ⟨Nat.le_of_ble_eq_true rfl, Nat.le_of_ble_eq_true rfl⟩) (vW hP hK hD (rX_2 hK hP)) rfl rfl hl.1 rfl (lv_room (Nat.le_of_ble_eq_true rfl)) dX11_cause_35 ⟨Nat.le_of_ble_eq_true rfl, Nat.le_of_ble_eq_true rfl⟩) hS (fun q _ h => hFc q h) hFc (fun u t H1 locs ht9 hvm hr5 hB hz1 hk1 hS => ?_)
      obtain ⟨n6, n7, n8, xr5_0, xr5_1, xr5_2, rfl⟩ := hr5
      obtain ⟨hP, hD⟩ := hB
      rw [ht9] at hP
      generalize H1 = H at hP hS ⊢
      have hP : va_P (dC, dI) classes (WX h g ca (u2 (u2 (u2 iv 2 3 n6) 2 4 n7) 2 5 n8) lv (u2 fa 1 6 n4) la) H := hP
      have hD : va_D A (WX h g ca (u2 (u2 (u2 iv 2 3 n6) 2 4 n7) 2 5 n8) lv (u2 fa 1 6 n4) la) := (show va_D _ (WX h g ca (u2 (u2 (u2 iv 2 3 n6) 2 4 n7) 2 5 n8) lv (u2 fa 1 6 n4) la) from hD).weaken (fun _ _ _ h => hFc _ h)
      have xr5_0 : (n6 : Int32).toInt = (a : Int32).toInt := xr5_0
      have xr5_1 : (n7 : Int32).toInt = ((iv 11 10) : Int32).toInt := xr5_1
      have xr5_2 : (n8 : Int32).toInt = (r3 : Int32).toInt := xr5_2
      refine lv_aload_n hx hb dX11_cause_38 rfl (lv_at hl 0 rfl) ?_
      refine gX_11_6 hx hb ht hown hK hP m_421 dX11_cause_39 ?_
      have i_10_1 : 0 ≤ (iv 10 1).toInt ∧ (iv 10 1).toInt ≤ 60 := hI.1 10 1
      have hFc := free_all hD hS hA
      refine va_calli (va_runV (As := []) (rest := []) ⟨hx, hb, hml, hown, ht⟩ (c_X2_isParted_w l dC dI H.size h g ca (u2 (u2 (u2 iv 2 3 n6) 2 4 n7) 2 5 n8) lv (u2 fa 1 6 n4) la (IX_a (c := 1) (k := 6) (IX_i (c := 2) (k := 5) (IX_i (c := 2) (k := 4) (IX_i (c := 2) (k := 3) hI (full_i _)) (full_i _)) (full_i _)) hn4)) (kV 0 ht m_874 m_875 m_876 m_85 m_877 rfl rfl hd_X2_isParted_v ⟨Nat.le_of_ble_eq_true rfl, Nat.le_of_ble_eq_true rfl⟩) (vW hP hK hD (rX_2 hK hP)) rfl rfl hl.1 rfl (lv_room (Nat.le_of_ble_eq_true rfl)) dX11_cause_42 ⟨Nat.le_of_ble_eq_true rfl, Nat.le_of_ble_eq_true rfl⟩) hS (fun q _ h => hFc q h) hFc (fun r9 u t H1 locs ht9 hvm hr9 hB hz1 hk1 hS => ?_)
      obtain ⟨n10, n11, n12, xr9_0, hr9, rfl⟩ := hr9
      have hn10 : ∀ j, inb (bA 20 2 j) (n10 j) := fun j => full_i _
      obtain ⟨hP, hD⟩ := hB
      rw [ht9] at hP
      generalize H1 = H at hP hS ⊢
      have hP : va_P (dC, dI) classes (WX h g ca (u2 (u2 (u2 iv 2 3 n6) 2 4 n7) 2 5 n8) lv (u2 (u2 fa 1 6 n4) 20 2 n10) (u2 (u2 la 20 0 n11) 20 1 n12)) H := hP
      have hD : va_D A (WX h g ca (u2 (u2 (u2 iv 2 3 n6) 2 4 n7) 2 5 n8) lv (u2 (u2 fa 1 6 n4) 20 2 n10) (u2 (u2 la 20 0 n11) 20 1 n12)) := (show va_D _ (WX h g ca (u2 (u2 (u2 iv 2 3 n6) 2 4 n7) 2 5 n8) lv (u2 (u2 fa 1 6 n4) 20 2 n10) (u2 (u2 la 20 0 n11) 20 1 n12)) from hD).weaken (fun _ _ _ h => hFc _ h)
      have xr9_0 : ∀ pt : Int32, pt.toInt = (n8 : Int32).toInt → (((r9 : Int32).toInt = 1 ∧ DpR (cxP (fa 10 0) (n6 : Int32).toInt (n7 : Int32).toInt 0) (cxP (fa 10 0) (n6 : Int32).toInt (n7 : Int32).toInt 1) (fun s : Nat => (s : Int) = -1) (fun s : Nat => (fa 10 0) (9 * s + 3)) (fun s : Nat => (fa 10 0) (9 * s + 4)) (((iv 10 1) : Int32).toInt).toNat pt) ∨ ((r9 : Int32).toInt = 0 ∧ ¬ DpR (cxP (fa 10 0) (n6 : Int32).toInt (n7 : Int32).toInt 0) (cxP (fa 10 0) (n6 : Int32).toInt (n7 : Int32).toInt 1) (fun s : Nat => (s : Int) = -1) (fun s : Nat => (fa 10 0) (9 * s + 3)) (fun s : Nat => (fa 10 0) (9 * s + 4)) (((iv 10 1) : Int32).toInt).toNat pt)) := xr9_0
      refine lv_if_eq (tgt := 59) hx hb dX11_cause_45 (by decide) (fun c13 => ?_) (fun c13 => ?_)
      · have fc13 := z_eq (rfl : (r9).toInt = _) (by decide : (0 : Int32).toInt = 0) c13
        refine lv_ldc hx hb hown (ht _ m_457) dX11_cause_59 ?_
        have : ((-100003) : Int32).toInt = (-100003) := (by decide)
        have hP9 : va_P (dC, dI) classes (WX h g ca (u2 (u2 (u2 iv 2 3 n6) 2 4 n7) 2 5 n8) lv (u2 (u2 fa 1 6 n4) 20 2 n10) (u2 (u2 la 20 0 n11) 20 1 n12)) H := hP
        have hD9 : va_D A (WX h g ca (u2 (u2 (u2 iv 2 3 n6) 2 4 n7) 2 5 n8) lv (u2 (u2 fa 1 6 n4) 20 2 n10) (u2 (u2 la 20 0 n11) 20 1 n12)) := hD
        exact W.iret (v := (-100003)) hx hb hr (fun t ht9 hW => ⟨⟨(-100003), ((u2 (u2 (u2 iv 2 3 n6) 2 4 n7) 2 5 n8), lv, (u2 (u2 fa 1 6 n4) 20 2 n10), (u2 (u2 la 20 0 n11) 20 1 n12)), rfl, ⟨n4, n10, n11, n12, n6, n7, n8, hn4, (show ((((-100003) : Int32).toInt = -100001 ∧ ¬ (0 ≤ (a).toInt ∧ (a).toInt < (iv 0 7).toInt)) ∨ ((0 ≤ (a).toInt ∧ (a).toInt < (iv 0 7).toInt) ∧ ∃ pt : Int32, FoX (iv 1 7).toInt (fa 1 0) (fa 1 1) (fa 1 2) (fa 1 3) 2 (iv 11 10).toInt pt.toInt ∧ ((¬ PaR (cxP (fa 10 0) (a).toInt (iv 11 10).toInt 0) (cxP (fa 10 0) (a).toInt (iv 11 10).toInt 1) (fun s : Nat => (fa 10 0) (9 * s + 3)) (fun s : Nat => (fa 10 0) (9 * s + 4)) ((iv 10 1).toInt).toNat pt ∧ ((-100003) : Int32).toInt = -100003) ∨ (PaR (cxP (fa 10 0) (a).toInt (iv 11 10).toInt 0) (cxP (fa 10 0) (a).toInt (iv 11 10).toInt 1) (fun s : Nat => (fa 10 0) (9 * s + 3)) (fun s : Nat => (fa 10 0) (9 * s + 4)) ((iv 10 1).toInt).toNat pt ∧ CuR (fun c : Nat => CaX (fa 10 0) (a).toInt (iv 11 10).toInt ((iv 10 1).toInt).toNat pt (c : Int)) (100 + ((iv 10 1).toInt).toNat) (b).toInt ((-100003) : Int32).toInt)))) from (by
              have hp9 := xr9_0 r3 xr5_2.symm
              rw [xr5_0, xr5_1] at hp9
              have hD9 := DpR_0 (P0 := cxP (fa 10 0) a.toInt (iv 11 10).toInt 0) (P1 := cxP (fa 10 0) a.toInt (iv 11 10).toInt 1) (ra := (fun s : Nat => (fa 10 0) (9 * s + 3))) (dr := (fun s : Nat => (fa 10 0) (9 * s + 4))) (n := ((iv 10 1).toInt).toNat) (p := r3) (W := fun s : Nat => (s : Int) = -1) (fun s _ (z : (s : Int) = -1) => by omega)
              exact Or.inr ⟨⟨by omega, by omega⟩, r3, xr3_0, Or.inl ⟨fun z => (hp9.resolve_left (fun q => by omega)).2 (hD9.mpr z), by omega⟩⟩)), ⟨by decide, by decide⟩, rfl⟩, by rw [ht9]; exact hP9, hD9⟩, hS.F ht9⟩) hS.2.2 dX11_cause_61
      · have fc13 := z_ne (rfl : (r9).toInt = _) (by decide : (0 : Int32).toInt = 0) c13
        refine lv_aload_n hx hb dX11_cause_48 rfl (lv_at hl 0 rfl) ?_
        refine gX_11_6 hx hb ht hown hK hP m_421 dX11_cause_49 ?_
        refine lv_iload_n hx hb dX11_cause_52 rfl (lv_at hl 2 rfl) ?_
        have hFc := free_all hD hS hA
        refine va_calli (va_runV (As := [.int b]) (rest := []) ⟨hx, hb, hml, hown, ht⟩ (c_X2_culprit_w l dC dI H.size ak av h g ca (u2 (u2 (u2 iv 2 3 n6) 2 4 n7) 2 5 n8) lv (u2 (u2 fa 1 6 n4) 20 2 n10) (u2 (u2 la 20 0 n11) 20 1 n12) (IX_a (c := 20) (k := 2) (IX_a (c := 1) (k := 6) (IX_i (c := 2) (k := 5) (IX_i (c := 2) (k := 4) (IX_i (c := 2) (k := 3) hI (full_i _)) (full_i _)) (full_i _)) hn4) hn10) b) (kV 1 ht m_900 m_901 m_902 m_85 m_903 rfl rfl hd_X2_culprit_v ⟨Nat.le_of_ble_eq_true rfl, Nat.le_of_ble_eq_true rfl⟩) (vWZ hP hK hD ((hZ.kept hS.2.1).narrow (free_all hD hS hA)) (rX_2 hK hP)) rfl rfl hl.1 rfl (lv_room (Nat.le_of_ble_eq_true rfl)) dX11_cause_53 ⟨Nat.le_of_ble_eq_true rfl, Nat.le_of_ble_eq_true rfl⟩) hS (fun q _ h => hFc q h) hFc (fun r14 u t H1 locs ht9 hvm hr14 hB hz1 hk1 hS => ?_)
        obtain ⟨n15, n16, n17, xr14_0, hr14, rfl⟩ := hr14
        have hn15 : ∀ j, inb (bA 20 2 j) (n15 j) := fun j => full_i _
        obtain ⟨hP, hD⟩ := hB
        rw [ht9] at hP
        generalize H1 = H at hP hS ⊢
        have hP : va_P (dC, dI) classes (WX h g ca (u2 (u2 (u2 iv 2 3 n6) 2 4 n7) 2 5 n8) lv (u2 (u2 fa 1 6 n4) 20 2 n15) (u2 (u2 la 20 0 n16) 20 1 n17)) H := hP
        have hD : va_D A (WX h g ca (u2 (u2 (u2 iv 2 3 n6) 2 4 n7) 2 5 n8) lv (u2 (u2 fa 1 6 n4) 20 2 n15) (u2 (u2 la 20 0 n16) 20 1 n17)) := (show va_D _ (WX h g ca (u2 (u2 (u2 iv 2 3 n6) 2 4 n7) 2 5 n8) lv (u2 (u2 fa 1 6 n4) 20 2 n15) (u2 (u2 la 20 0 n16) 20 1 n17)) from hD).weaken (fun _ _ _ h => hFc _ h)
        have xr14_0 : ∀ pt : Int32, pt.toInt = (n8 : Int32).toInt → CuR (fun c : Nat => CaX (fa 10 0) (n6 : Int32).toInt (n7 : Int32).toInt (((iv 10 1) : Int32).toInt).toNat pt (c : Int)) (100 + (((iv 10 1) : Int32).toInt).toNat) (b : Int32).toInt (r14 : Int32).toInt := xr14_0
        refine lv_goto (tgt := 61) hx hb dX11_cause_56 (by decide) ?_
        have hP9 : va_P (dC, dI) classes (WX h g ca (u2 (u2 (u2 iv 2 3 n6) 2 4 n7) 2 5 n8) lv (u2 (u2 fa 1 6 n4) 20 2 n15) (u2 (u2 la 20 0 n16) 20 1 n17)) H := hP
        have hD9 : va_D A (WX h g ca (u2 (u2 (u2 iv 2 3 n6) 2 4 n7) 2 5 n8) lv (u2 (u2 fa 1 6 n4) 20 2 n15) (u2 (u2 la 20 0 n16) 20 1 n17)) := hD
        exact W.iret (v := r14) hx hb hr (fun t ht9 hW => ⟨⟨r14, ((u2 (u2 (u2 iv 2 3 n6) 2 4 n7) 2 5 n8), lv, (u2 (u2 fa 1 6 n4) 20 2 n15), (u2 (u2 la 20 0 n16) 20 1 n17)), rfl, ⟨n4, n15, n16, n17, n6, n7, n8, hn4, (show (((r14 : Int32).toInt = -100001 ∧ ¬ (0 ≤ (a).toInt ∧ (a).toInt < (iv 0 7).toInt)) ∨ ((0 ≤ (a).toInt ∧ (a).toInt < (iv 0 7).toInt) ∧ ∃ pt : Int32, FoX (iv 1 7).toInt (fa 1 0) (fa 1 1) (fa 1 2) (fa 1 3) 2 (iv 11 10).toInt pt.toInt ∧ ((¬ PaR (cxP (fa 10 0) (a).toInt (iv 11 10).toInt 0) (cxP (fa 10 0) (a).toInt (iv 11 10).toInt 1) (fun s : Nat => (fa 10 0) (9 * s + 3)) (fun s : Nat => (fa 10 0) (9 * s + 4)) ((iv 10 1).toInt).toNat pt ∧ (r14 : Int32).toInt = -100003) ∨ (PaR (cxP (fa 10 0) (a).toInt (iv 11 10).toInt 0) (cxP (fa 10 0) (a).toInt (iv 11 10).toInt 1) (fun s : Nat => (fa 10 0) (9 * s + 3)) (fun s : Nat => (fa 10 0) (9 * s + 4)) ((iv 10 1).toInt).toNat pt ∧ CuR (fun c : Nat => CaX (fa 10 0) (a).toInt (iv 11 10).toInt ((iv 10 1).toInt).toNat pt (c : Int)) (100 + ((iv 10 1).toInt).toNat) (b).toInt (r14 : Int32).toInt)))) from (by
              have hp9 := xr9_0 r3 xr5_2.symm
              rw [xr5_0, xr5_1] at hp9
              have hD9 := DpR_0 (P0 := cxP (fa 10 0) a.toInt (iv 11 10).toInt 0) (P1 := cxP (fa 10 0) a.toInt (iv 11 10).toInt 1) (ra := (fun s : Nat => (fa 10 0) (9 * s + 3))) (dr := (fun s : Nat => (fa 10 0) (9 * s + 4))) (n := ((iv 10 1).toInt).toNat) (p := r3) (W := fun s : Nat => (s : Int) = -1) (fun s _ (z : (s : Int) = -1) => by omega)
              have hc9 := xr14_0 r3 xr5_2.symm
              rw [xr5_0, xr5_1] at hc9
              exact Or.inr ⟨⟨by omega, by omega⟩, r3, xr3_0, Or.inr ⟨hD9.mp (hp9.resolve_right (fun q => by omega)).2, hc9⟩⟩)), ⟨by omega, by omega⟩, rfl⟩, by rw [ht9]; exact hP9, hD9⟩, hS.F ht9⟩) hS.2.2 dX11_cause_61
    · exact absurd c2 (by decide)
  · skip
    have i_0_7 : 0 ≤ (iv 0 7).toInt ∧ (iv 0 7).toInt ≤ 10 := hI.1 0 7
    have fr1 : ¬ (0 ≤ (a : Int32).toInt ∧ (a : Int32).toInt < ((iv 0 7) : Int32).toInt) := fr1
    refine lv_if_ne (tgt := 14) hx hb dX11_cause_8 (by decide) (fun c18 => ?_) (fun c18 => ?_)
    · exact absurd rfl c18
    · skip
      refine lv_ldc hx hb hown (ht _ m_476) dX11_cause_11 ?_
      have : ((-100001) : Int32).toInt = (-100001) := (by decide)
      have hP9 : va_P (dC, dI) classes (WX h g ca (u2 (u2 (u2 iv 2 3 (iv 2 3)) 2 4 (iv 2 4)) 2 5 (iv 2 5)) lv (u2 (u2 fa 1 6 (fa 1 6)) 20 2 (fa 20 2)) (u2 (u2 la 20 0 (la 20 0)) 20 1 (la 20 1))) s.heap := hP
      have hD9 : va_D A (WX h g ca (u2 (u2 (u2 iv 2 3 (iv 2 3)) 2 4 (iv 2 4)) 2 5 (iv 2 5)) lv (u2 (u2 fa 1 6 (fa 1 6)) 20 2 (fa 20 2)) (u2 (u2 la 20 0 (la 20 0)) 20 1 (la 20 1))) := hD
      exact W.iret (v := (-100001)) hx hb hr (fun t ht9 hW => ⟨⟨(-100001), ((u2 (u2 (u2 iv 2 3 (iv 2 3)) 2 4 (iv 2 4)) 2 5 (iv 2 5)), lv, (u2 (u2 fa 1 6 (fa 1 6)) 20 2 (fa 20 2)), (u2 (u2 la 20 0 (la 20 0)) 20 1 (la 20 1))), rfl, ⟨(fa 1 6), (fa 20 2), (la 20 0), (la 20 1), (iv 2 3), (iv 2 4), (iv 2 5), (hI.2 1 6), (show ((((-100001) : Int32).toInt = -100001 ∧ ¬ (0 ≤ (a).toInt ∧ (a).toInt < (iv 0 7).toInt)) ∨ ((0 ≤ (a).toInt ∧ (a).toInt < (iv 0 7).toInt) ∧ ∃ pt : Int32, FoX (iv 1 7).toInt (fa 1 0) (fa 1 1) (fa 1 2) (fa 1 3) 2 (iv 11 10).toInt pt.toInt ∧ ((¬ PaR (cxP (fa 10 0) (a).toInt (iv 11 10).toInt 0) (cxP (fa 10 0) (a).toInt (iv 11 10).toInt 1) (fun s : Nat => (fa 10 0) (9 * s + 3)) (fun s : Nat => (fa 10 0) (9 * s + 4)) ((iv 10 1).toInt).toNat pt ∧ ((-100001) : Int32).toInt = -100003) ∨ (PaR (cxP (fa 10 0) (a).toInt (iv 11 10).toInt 0) (cxP (fa 10 0) (a).toInt (iv 11 10).toInt 1) (fun s : Nat => (fa 10 0) (9 * s + 3)) (fun s : Nat => (fa 10 0) (9 * s + 4)) ((iv 10 1).toInt).toNat pt ∧ CuR (fun c : Nat => CaX (fa 10 0) (a).toInt (iv 11 10).toInt ((iv 10 1).toInt).toNat pt (c : Int)) (100 + ((iv 10 1).toInt).toNat) (b).toInt ((-100001) : Int32).toInt)))) from Or.inl ⟨by omega, by omega⟩), ⟨by decide, by decide⟩, rfl⟩, by rw [ht9]; exact hP9, hD9⟩, hS.F ht9⟩) hS.2.2 dX11_cause_13
