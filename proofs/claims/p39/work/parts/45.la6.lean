/-! ===== la6 ===== -/
set_option maxHeartbeats 4000000 in
set_option maxRecDepth 100000 in
/-- X12_stateOf -/
theorem c_X12_stateOf_w (l : Launch) (dC : Nat → ClassId) (dI : Nat → Nat → Nat) (sz : Nat) (h : Nat) (g : Nat → Nat → Nat) (ca : Nat → Nat → ClassId) (iv : Nat → Nat → Int32) (lv : Nat → Nat → Int64) (fa : Nat → Nat → Nat → Int32) (la : Nat → Nat → Nat → Int64) (hI : IX iv fa) (a : Int32) (b : Int32) (hJC : JCf (iv 12 23).toInt (fa 12 25) (fa 12 26) (fa 12 27) (fa 12 28)) (hJR : JRf (iv 12 3).toInt (fa 12 7)) (hJO : (iv 12 20).toInt = -1 ∧ (iv 12 21).toInt = -1 ∧ (iv 12 22).toInt = -1) (hJK : ∀ k j : Nat, (k : Int) < (iv 12 23).toInt → 12 * k ≤ j → (j : Int) < 12 * (k : Int) + (fa 12 25 k).toInt → (fa 12 26 j).toInt = 3 → 0 ≤ (fa 12 28 j).toInt ∧ (fa 12 28 j).toInt < (k : Int)) : Met l yX12_stateOf (wc yX12_stateOf cX12_stateOf 10 (some .int)) ({ frames := 2, cells := 0, slots := 0, locals := 55 } : Room) (pW (dC, dI) classes (WM h g ca iv lv fa la) (TM ca) sz [.ref h, .int a, .int b]) (va_Qi (fun r (u : SS) => ∃ (na_12_39 : Nat → Int32) (na_12_40 : Nat → Int32) (nb_12_42 : Nat → Int64) (nb_12_43 : Nat → Int64) (ni_12_19 : Int32) (ni_12_41 : Int32) (nl_12_17 : Int64) (nl_12_18 : Int64) (nl_12_44 : Int64) (nl_12_45 : Int64), (∀ j, inb (bA 12 39 j) (na_12_39 j)) ∧ (∀ j, inb (bA 12 40 j) (na_12_40 j)) ∧ inb (bI 12 41) ni_12_41 ∧ (LwT (fun q v => FoY (iv 12 23).toInt (fa 12 24) (fa 12 25) (fa 12 26) (fa 12 27) (fa 12 28) q b.toInt v) (fa 12 4) (fa 12 5) (fa 12 11) (fa 12 12) (fa 12 7) (fa 12 8) a.toInt b.toInt ((iv 12 3).toInt).toNat nb_12_42 nb_12_43 (nl_12_44).toInt (nl_12_45).toInt r.toInt) ∧ (0 ≤ r.toInt ∧ r.toInt ≤ 2) ∧ u = ((u2 (u2 iv 12 19 ni_12_19) 12 41 ni_12_41), (u2 (u2 (u2 (u2 lv 12 17 nl_12_17) 12 18 nl_12_18) 12 44 nl_12_44) 12 45 nl_12_45), (u2 (u2 fa 12 39 na_12_39) 12 40 na_12_40), (u2 (u2 la 12 42 nb_12_42) 12 43 nb_12_43))) (bM (dC, dI) h g ca (va_A (WM h g ca iv lv fa la) sz)) (va_A (WM h g ca iv lv fa la) sz)) 0 0 (va_A (WM h g ca iv lv fa la) sz) := by
  refine Met.ofW (cc := cX12_stateOf) (maxL := 10) (ret := (some .int)) (by decide) rfl ?_
  intro p e s m args below meth c s₁ B hml hv
  obtain ⟨rfl, hsz, hP, hK, hD0⟩ := hv
  have hx := B.exec
  have hb := B.bytes
  have hr := B.returns
  have ht := tb_tl (atoms_spec (ws := wc yX12_stateOf cX12_stateOf 10 (some .int)) B.pre)
  have hown : s.vm.findClass RX12 = some m.cls := findClass_of_methodNamed B.named
  have hlocks := B.notSynchronized
  subst hsz
  have hD := hD0.self (sz := s.heap.size)
  generalize hAe : va_A (WM h g ca iv lv fa la) s.heap.size = A at hD ⊢
  have hA : ∀ q : Nat, s.heap.size ≤ q → A q := fun q h => by rw [← hAe]; exact Or.inr h
  have hS : va_S A s.heap s.heap [] := va_S.rf
  have hl := lv_entry [.ref h, .int a, .int b] (n := 10) (Nat.le_of_ble_eq_true rfl)
  rw [lg_entry_eq]
  generalize (lg_sl [.ref h, .int a, .int b] ++ List.replicate (10 - (lg_sl [.ref h, .int a, .int b]).length) Slot.unset).toArray = ls at hl ⊢
  have hl : lv_has ls 10 [(0, .ref h), (1, .int a), (2, .int b)] := hl
  refine lv_aload_n hx hb dX12_stateOf_0 rfl (lv_at hl 0 rfl) ?_
  refine lv_iconst (v := 1) hx hb dX12_stateOf_1 (by decide) ?_
  refine lv_iload_n hx hb dX12_stateOf_2 rfl (lv_at hl 2 rfl) ?_
  have hFc := free_all hD hS hA
  refine va_calli (va_runV (As := [.int 1, .int b]) (rest := []) ⟨hx, hb, hml, hown, ht⟩ (c_X12_forceOf_f l dC dI s.heap.size h g ca iv lv fa la hI 1 b ⟨by decide, by decide⟩ hJC hJK) (kV 2 ht m_1509 m_1511 m_55 m_89 m_1512 rfl rfl hd_X12_forceOf_v ⟨Nat.le_of_ble_eq_true rfl, Nat.le_of_ble_eq_true rfl⟩) (vW hP hK hD (rM_12 hK hP)) rfl rfl hl.1 rfl (lv_room (Nat.le_of_ble_eq_true rfl)) dX12_stateOf_3 ⟨Nat.le_of_ble_eq_true rfl, Nat.le_of_ble_eq_true rfl⟩) hS (fun q _ h => hFc q h) hFc (fun r1 u t H1 locs ht9 hvm hr1 hB hz1 hk1 hS => ?_)
  obtain ⟨n2, n3, n4, hn2, hn3, hn4, xr1_0, hr1, rfl⟩ := hr1
  have hn4 : 0 ≤ n4.toInt ∧ n4.toInt ≤ 8 := hn4
  obtain ⟨hP, hD⟩ := hB
  rw [ht9] at hP
  generalize H1 = H at hP hS ⊢
  have hP : va_P (dC, dI) classes (WM h g ca (u2 iv 12 41 n4) lv (u2 (u2 fa 12 39 n2) 12 40 n3) la) H := hP
  have hD : va_D A (WM h g ca (u2 iv 12 41 n4) lv (u2 (u2 fa 12 39 n2) 12 40 n3) la) := (show va_D _ (WM h g ca (u2 iv 12 41 n4) lv (u2 (u2 fa 12 39 n2) 12 40 n3) la) from hD).weaken (fun _ _ _ h => hFc _ h)
  have i_12_23 : 0 ≤ (iv 12 23).toInt ∧ (iv 12 23).toInt ≤ 8 := hI.1 12 23
  have : (1 : Int32).toInt = 1 := (by decide)
  have xr1_0 : FoY ((iv 12 23) : Int32).toInt (fa 12 24) (fa 12 25) (fa 12 26) (fa 12 27) (fa 12 28) (1 : Int32).toInt (b : Int32).toInt (r1 : Int32).toInt := xr1_0
  refine lv_istore_n (lv' := [(3, .int r1), (0, .ref h), (1, .int a), (2, .int b)]) hx hb dX12_stateOf_6 rfl hl (by decide) rfl (fun ls hl => ?_)
  refine lv_aload_n hx hb dX12_stateOf_7 rfl (lv_at hl 1 rfl) ?_
  refine lv_iconst (v := 3) hx hb dX12_stateOf_8 (by decide) ?_
  refine lv_iload_n hx hb dX12_stateOf_9 rfl (lv_at hl 3 rfl) ?_
  have hFc := free_all hD hS hA
  refine va_calli (va_runV (As := [.int 3, .int b]) (rest := []) ⟨hx, hb, hml, hown, ht⟩ (c_X12_forceOf_f l dC dI H.size h g ca (u2 iv 12 41 n4) lv (u2 (u2 fa 12 39 n2) 12 40 n3) la (IX_a (c := 12) (k := 40) (IX_a (c := 12) (k := 39) (IX_i (c := 12) (k := 41) hI (show inb (0, 8) n4 from ⟨by omega, by omega⟩)) hn2) hn3) 3 b ⟨by decide, by decide⟩ hJC hJK) (kV 2 ht m_1509 m_1511 m_55 m_89 m_1512 rfl rfl hd_X12_forceOf_v ⟨Nat.le_of_ble_eq_true rfl, Nat.le_of_ble_eq_true rfl⟩) (vW hP hK hD (rM_12 hK hP)) rfl rfl hl.1 rfl (lv_room (Nat.le_of_ble_eq_true rfl)) dX12_stateOf_10 ⟨Nat.le_of_ble_eq_true rfl, Nat.le_of_ble_eq_true rfl⟩) hS (fun q _ h => hFc q h) hFc (fun r5 u t H1 locs ht9 hvm hr5 hB hz1 hk1 hS => ?_)
  obtain ⟨n6, n7, n8, hn6, hn7, hn8, xr5_0, hr5, rfl⟩ := hr5
  have hn8 : 0 ≤ n8.toInt ∧ n8.toInt ≤ 8 := hn8
  obtain ⟨hP, hD⟩ := hB
  rw [ht9] at hP
  generalize H1 = H at hP hS ⊢
  have hP : va_P (dC, dI) classes (WM h g ca (u2 iv 12 41 n8) lv (u2 (u2 fa 12 39 n6) 12 40 n7) la) H := hP
  have hD : va_D A (WM h g ca (u2 iv 12 41 n8) lv (u2 (u2 fa 12 39 n6) 12 40 n7) la) := (show va_D _ (WM h g ca (u2 iv 12 41 n8) lv (u2 (u2 fa 12 39 n6) 12 40 n7) la) from hD).weaken (fun _ _ _ h => hFc _ h)
  have : (3 : Int32).toInt = 3 := (by decide)
  have xr5_0 : FoY ((iv 12 23) : Int32).toInt (fa 12 24) (fa 12 25) (fa 12 26) (fa 12 27) (fa 12 28) (3 : Int32).toInt (b : Int32).toInt (r5 : Int32).toInt := xr5_0
  refine lv_istore (lv' := [(4, .int r5), (3, .int r1), (0, .ref h), (1, .int a), (2, .int b)]) hx hb dX12_stateOf_13 hl (by decide) rfl (fun ls hl => ?_)
  refine lv_aload_n hx hb dX12_stateOf_15 rfl (lv_at hl 2 rfl) ?_
  refine lv_iconst (v := 5) hx hb dX12_stateOf_16 (by decide) ?_
  refine lv_iload_n hx hb dX12_stateOf_17 rfl (lv_at hl 4 rfl) ?_
  have hFc := free_all hD hS hA
  refine va_calli (va_runV (As := [.int 5, .int b]) (rest := []) ⟨hx, hb, hml, hown, ht⟩ (c_X12_forceOf_f l dC dI H.size h g ca (u2 iv 12 41 n8) lv (u2 (u2 fa 12 39 n6) 12 40 n7) la (IX_a (c := 12) (k := 40) (IX_a (c := 12) (k := 39) (IX_i (c := 12) (k := 41) hI (show inb (0, 8) n8 from ⟨by omega, by omega⟩)) hn6) hn7) 5 b ⟨by decide, by decide⟩ hJC hJK) (kV 2 ht m_1509 m_1511 m_55 m_89 m_1512 rfl rfl hd_X12_forceOf_v ⟨Nat.le_of_ble_eq_true rfl, Nat.le_of_ble_eq_true rfl⟩) (vW hP hK hD (rM_12 hK hP)) rfl rfl hl.1 rfl (lv_room (Nat.le_of_ble_eq_true rfl)) dX12_stateOf_18 ⟨Nat.le_of_ble_eq_true rfl, Nat.le_of_ble_eq_true rfl⟩) hS (fun q _ h => hFc q h) hFc (fun r9 u t H1 locs ht9 hvm hr9 hB hz1 hk1 hS => ?_)
  obtain ⟨n10, n11, n12, hn10, hn11, hn12, xr9_0, hr9, rfl⟩ := hr9
  have hn12 : 0 ≤ n12.toInt ∧ n12.toInt ≤ 8 := hn12
  obtain ⟨hP, hD⟩ := hB
  rw [ht9] at hP
  generalize H1 = H at hP hS ⊢
  have hP : va_P (dC, dI) classes (WM h g ca (u2 iv 12 41 n12) lv (u2 (u2 fa 12 39 n10) 12 40 n11) la) H := hP
  have hD : va_D A (WM h g ca (u2 iv 12 41 n12) lv (u2 (u2 fa 12 39 n10) 12 40 n11) la) := (show va_D _ (WM h g ca (u2 iv 12 41 n12) lv (u2 (u2 fa 12 39 n10) 12 40 n11) la) from hD).weaken (fun _ _ _ h => hFc _ h)
  have : (5 : Int32).toInt = 5 := (by decide)
  have xr9_0 : FoY ((iv 12 23) : Int32).toInt (fa 12 24) (fa 12 25) (fa 12 26) (fa 12 27) (fa 12 28) (5 : Int32).toInt (b : Int32).toInt (r9 : Int32).toInt := xr9_0
  refine lv_istore (lv' := [(5, .int r9), (4, .int r5), (3, .int r1), (0, .ref h), (1, .int a), (2, .int b)]) hx hb dX12_stateOf_21 hl (by decide) rfl (fun ls hl => ?_)
  refine lv_aload_n hx hb dX12_stateOf_23 rfl (lv_at hl 3 rfl) ?_
  refine lv_iconst (v := 2) hx hb dX12_stateOf_24 (by decide) ?_
  refine lv_iload_n hx hb dX12_stateOf_25 rfl (lv_at hl 5 rfl) ?_
  have hFc := free_all hD hS hA
  refine va_calli (va_runV (As := [.int 2, .int b]) (rest := []) ⟨hx, hb, hml, hown, ht⟩ (c_X12_forceOf_f l dC dI H.size h g ca (u2 iv 12 41 n12) lv (u2 (u2 fa 12 39 n10) 12 40 n11) la (IX_a (c := 12) (k := 40) (IX_a (c := 12) (k := 39) (IX_i (c := 12) (k := 41) hI (show inb (0, 8) n12 from ⟨by omega, by omega⟩)) hn10) hn11) 2 b ⟨by decide, by decide⟩ hJC hJK) (kV 2 ht m_1509 m_1511 m_55 m_89 m_1512 rfl rfl hd_X12_forceOf_v ⟨Nat.le_of_ble_eq_true rfl, Nat.le_of_ble_eq_true rfl⟩) (vW hP hK hD (rM_12 hK hP)) rfl rfl hl.1 rfl (lv_room (Nat.le_of_ble_eq_true rfl)) dX12_stateOf_26 ⟨Nat.le_of_ble_eq_true rfl, Nat.le_of_ble_eq_true rfl⟩) hS (fun q _ h => hFc q h) hFc (fun r13 u t H1 locs ht9 hvm hr13 hB hz1 hk1 hS => ?_)
  obtain ⟨n14, n15, n16, hn14, hn15, hn16, xr13_0, hr13, rfl⟩ := hr13
  have hn16 : 0 ≤ n16.toInt ∧ n16.toInt ≤ 8 := hn16
  obtain ⟨hP, hD⟩ := hB
  rw [ht9] at hP
  generalize H1 = H at hP hS ⊢
  have hP : va_P (dC, dI) classes (WM h g ca (u2 iv 12 41 n16) lv (u2 (u2 fa 12 39 n14) 12 40 n15) la) H := hP
  have hD : va_D A (WM h g ca (u2 iv 12 41 n16) lv (u2 (u2 fa 12 39 n14) 12 40 n15) la) := (show va_D _ (WM h g ca (u2 iv 12 41 n16) lv (u2 (u2 fa 12 39 n14) 12 40 n15) la) from hD).weaken (fun _ _ _ h => hFc _ h)
  have : (2 : Int32).toInt = 2 := (by decide)
  have xr13_0 : FoY ((iv 12 23) : Int32).toInt (fa 12 24) (fa 12 25) (fa 12 26) (fa 12 27) (fa 12 28) (2 : Int32).toInt (b : Int32).toInt (r13 : Int32).toInt := xr13_0
  refine lv_istore (lv' := [(6, .int r13), (5, .int r9), (4, .int r5), (3, .int r1), (0, .ref h), (1, .int a), (2, .int b)]) hx hb dX12_stateOf_29 hl (by decide) rfl (fun ls hl => ?_)
  refine lv_iconst (v := 0) hx hb dX12_stateOf_31 (by decide) ?_
  refine lv_istore (lv' := [(7, .int 0), (6, .int r13), (5, .int r9), (4, .int r5), (3, .int r1), (0, .ref h), (1, .int a), (2, .int b)]) hx hb dX12_stateOf_32 hl (by decide) rfl (fun ls hl => ?_)
  refine lv_iconst (v := 0) hx hb dX12_stateOf_34 (by decide) ?_
  refine lv_istore (lv' := [(8, .int 0), (7, .int 0), (6, .int r13), (5, .int r9), (4, .int r5), (3, .int r1), (0, .ref h), (1, .int a), (2, .int b)]) hx hb dX12_stateOf_35 hl (by decide) rfl (fun ls hl => ?_)
  refine lv_iload hx hb dX12_stateOf_37 (lv_at hl 0 rfl) ?_
  refine lv_iconst (v := 3) hx hb dX12_stateOf_39 (by decide) ?_
  refine lv_icmp_ge (tgt := 103) hx hb dX12_stateOf_40 (by decide) (fun c17 => ?_) (fun c17 => ?_)
  · exact absurd c17 (by decide)
  · skip
    have : (-1) ≤ ((iv 12 20) : Int32).toInt ∧ ((iv 12 20) : Int32).toInt ≤ (-1) := ⟨by omega, by omega⟩
    have : (-1) ≤ ((iv 12 21) : Int32).toInt ∧ ((iv 12 21) : Int32).toInt ≤ (-1) := ⟨by omega, by omega⟩
    have : (-1) ≤ ((iv 12 22) : Int32).toInt ∧ ((iv 12 22) : Int32).toInt ≤ (-1) := ⟨by omega, by omega⟩
    refine lv_aload_n hx hb dX12_stateOf_43 rfl (lv_at hl 6 rfl) ?_
    refine lv_iload_n hx hb dX12_stateOf_44 rfl (lv_at hl 7 rfl) ?_
    refine lv_iload hx hb dX12_stateOf_45 (lv_at hl 0 rfl) ?_
    refine lv_iload_n hx hb dX12_stateOf_47 rfl (lv_at hl 8 rfl) ?_
    have hFc := free_all hD hS hA
    refine va_calli (va_runV (As := [.int a, .int 0, .int b]) (rest := []) ⟨hx, hb, hml, hown, ht⟩ (c_X12_sumUp_s l dC dI H.size h g ca (u2 iv 12 41 n16) lv (u2 (u2 fa 12 39 n14) 12 40 n15) la (IX_a (c := 12) (k := 40) (IX_a (c := 12) (k := 39) (IX_i (c := 12) (k := 41) hI (show inb (0, 8) n16 from ⟨by omega, by omega⟩)) hn14) hn15) a 0 b (show (-1) ≤ ((iv 12 20) : Int32).toInt ∧ ((iv 12 20) : Int32).toInt ≤ (-1) from ⟨by omega, by omega⟩) (show (-1) ≤ ((iv 12 21) : Int32).toInt ∧ ((iv 12 21) : Int32).toInt ≤ (-1) from ⟨by omega, by omega⟩) (show (-1) ≤ ((iv 12 22) : Int32).toInt ∧ ((iv 12 22) : Int32).toInt ≤ (-1) from ⟨by omega, by omega⟩) hJR) (kV 3 ht m_1434 m_1436 m_45 m_89 m_1437 rfl rfl hd_X12_sumUp_v ⟨Nat.le_of_ble_eq_true rfl, Nat.le_of_ble_eq_true rfl⟩) (vW hP hK hD (rM_12 hK hP)) rfl rfl hl.1 rfl (lv_room (Nat.le_of_ble_eq_true rfl)) dX12_stateOf_48 ⟨Nat.le_of_ble_eq_true rfl, Nat.le_of_ble_eq_true rfl⟩) hS (fun q _ h => hFc q h) hFc (fun r18 u t H1 locs ht9 hvm hr18 hB hz1 hk1 hS => ?_)
    obtain ⟨n19, n20, n21, xr18_0, xr18_1, xr18_2, xr18_3, xr18_4, xr18_5, xr18_6, xr18_7, xr18_8, hr18, rfl⟩ := hr18
    obtain ⟨hP, hD⟩ := hB
    rw [ht9] at hP
    generalize H1 = H at hP hS ⊢
    have hP : va_P (dC, dI) classes (WM h g ca (u2 (u2 iv 12 41 n16) 12 19 n19) (u2 (u2 lv 12 17 n20) 12 18 n21) (u2 (u2 fa 12 39 n14) 12 40 n15) la) H := hP
    have hD : va_D A (WM h g ca (u2 (u2 iv 12 41 n16) 12 19 n19) (u2 (u2 lv 12 17 n20) 12 18 n21) (u2 (u2 fa 12 39 n14) 12 40 n15) la) := (show va_D _ (WM h g ca (u2 (u2 iv 12 41 n16) 12 19 n19) (u2 (u2 lv 12 17 n20) 12 18 n21) (u2 (u2 fa 12 39 n14) 12 40 n15) la) from hD).weaken (fun _ _ _ h => hFc _ h)
    have xr18_0 : 0 ≤ (r18 : Int32).toInt := xr18_0
    have xr18_1 : (r18 : Int32).toInt ≤ 60 := xr18_1
    have xr18_2 : 0 ≤ (n21 : Int64).toInt := xr18_2
    have xr18_3 : (n21 : Int64).toInt ≤ 599940 := xr18_3
    have xr18_4 : 100 * (r18 : Int32).toInt ≤ (n21 : Int64).toInt := xr18_4
    have : (0 : Int32).toInt = 0 := (by decide)
    have i_12_3 : 0 ≤ (iv 12 3).toInt ∧ (iv 12 3).toInt ≤ 60 := hI.1 12 3
    have xr18_5 : (n20 : Int64).toInt = (smL (fun s : Nat => ((fa 12 4) s).toInt = (a : Int32).toInt ∧ ((fa 12 5) s).toInt = (0 : Int32).toInt ∧ ((fa 12 11) s).toInt ≤ (b : Int32).toInt ∧ (((fa 12 12) s).toInt < 0 ∨ (b : Int32).toInt < ((fa 12 12) s).toInt)) (fa 12 8) (((iv 12 3) : Int32).toInt).toNat).toInt := xr18_5
    have xr18_6 : (n21 : Int64).toInt = (smL (fun s : Nat => ((fa 12 4) s).toInt = (a : Int32).toInt ∧ ((fa 12 5) s).toInt = (0 : Int32).toInt ∧ ((fa 12 11) s).toInt ≤ (b : Int32).toInt ∧ (((fa 12 12) s).toInt < 0 ∨ (b : Int32).toInt < ((fa 12 12) s).toInt)) (fa 12 7) (((iv 12 3) : Int32).toInt).toNat).toInt := xr18_6
    have xr18_7 : (n19 : Int32).toInt = (smC (fun s : Nat => ((fa 12 4) s).toInt = (a : Int32).toInt ∧ ((fa 12 5) s).toInt = (0 : Int32).toInt ∧ ((fa 12 11) s).toInt ≤ (b : Int32).toInt ∧ (((fa 12 12) s).toInt < 0 ∨ (b : Int32).toInt < ((fa 12 12) s).toInt)) (((iv 12 3) : Int32).toInt).toNat).toInt := xr18_7
    have xr18_8 : (r18 : Int32).toInt = (n19 : Int32).toInt := xr18_8
    have sd0 : n20 = sY (fa 12 4) (fa 12 5) (fa 12 11) (fa 12 12) (fa 12 8) a.toInt b.toInt 0 ((iv 12 3).toInt).toNat := by have z9 := xr18_5; rw [show (0 : Int32).toInt = 0 from by decide] at z9; exact Int64.toInt_inj.mp z9
    have sr0 : n21 = sY (fa 12 4) (fa 12 5) (fa 12 11) (fa 12 12) (fa 12 7) a.toInt b.toInt 0 ((iv 12 3).toInt).toNat := by have z9 := xr18_6; rw [show (0 : Int32).toInt = 0 from by decide] at z9; exact Int64.toInt_inj.mp z9
    have sn0 : (r18 : Int32).toInt = (nY (fa 12 4) (fa 12 5) (fa 12 11) (fa 12 12) a.toInt b.toInt 0 ((iv 12 3).toInt).toNat).toInt := by have z9 := xr18_7; have z8 := xr18_8; rw [show (0 : Int32).toInt = 0 from by decide] at z9; exact z8.trans z9
    refine lv_istore (lv' := [(9, .int r18), (8, .int 0), (7, .int 0), (6, .int r13), (5, .int r9), (4, .int r5), (3, .int r1), (0, .ref h), (1, .int a), (2, .int b)]) hx hb dX12_stateOf_51 hl (by decide) rfl (fun ls hl => ?_)
    refine lv_aload_n hx hb dX12_stateOf_53 rfl (lv_at hl 7 rfl) ?_
    refine gM_12_42 hx hb ht hown hK hP m_1181 dX12_stateOf_54 ?_
    refine lv_iload hx hb dX12_stateOf_57 (lv_at hl 1 rfl) ?_
    refine lv_aload_n hx hb dX12_stateOf_59 rfl (lv_at hl 7 rfl) ?_
    refine gM_12_17 hx hb ht hown hK hP m_1156 (v := n20) rfl dX12_stateOf_60 ?_
    refine tM_12_42 hx hb hK hP hD hS (f0 := (la 12 42)) rfl (i := 0) (x := n20) (vp_in_iff.mpr (by decide)) dX12_stateOf_63 (fun f22 ef22 H locs hP hD hS => ?_)
    have yf22_0 : f22 (0 : Int32).toNatClampNeg = n20 := by rw [ef22]; exact updL_eq
    refine lv_aload_n hx hb dX12_stateOf_64 rfl (lv_at hl 7 rfl) ?_
    refine gM_12_43 hx hb ht hown hK hP m_1182 dX12_stateOf_65 ?_
    refine lv_iload hx hb dX12_stateOf_68 (lv_at hl 1 rfl) ?_
    refine lv_aload_n hx hb dX12_stateOf_70 rfl (lv_at hl 7 rfl) ?_
    refine gM_12_18 hx hb ht hown hK hP m_1157 (v := n21) rfl dX12_stateOf_71 ?_
    refine tM_12_43 hx hb hK hP hD hS (f0 := (la 12 43)) rfl (i := 0) (x := n21) (vp_in_iff.mpr (by decide)) dX12_stateOf_74 (fun f23 ef23 H locs hP hD hS => ?_)
    have yf23_0 : f23 (0 : Int32).toNatClampNeg = n21 := by rw [ef23]; exact updL_eq
    refine lv_iload hx hb dX12_stateOf_75 (lv_at hl 2 rfl) ?_
    refine lv_iload hx hb dX12_stateOf_77 (lv_at hl 0 rfl) ?_
    refine lv_iload_n hx hb dX12_stateOf_79 rfl (lv_at hl 6 rfl) ?_
    refine lv_icmp_lt (tgt := 87) hx hb dX12_stateOf_80 (by decide) (fun c24 => ?_) (fun c24 => ?_)
    · have fc24 := z_lt (rfl : (r18).toInt = _) (rfl : (r1).toInt = _) c24
      refine lv_iconst (v := 0) hx hb dX12_stateOf_87 (by decide) ?_
      refine vp_callSi (W.runS (As := [.int 0]) (rest := [.int 0]) ⟨hx, hb, hml, hown, ht⟩ (c_X12_bit_0 l dC dI) (kS 1 ht m_1396 m_1397 m_89 m_1398 rfl rfl hd_X12_bit_v ⟨Nat.le_of_ble_eq_true rfl, Nat.le_of_ble_eq_true rfl⟩) (sR noP (hK.sub (tys' := []) [] rfl)) rfl rfl hl.1 rfl (lv_room (Nat.le_of_ble_eq_true rfl)) dX12_stateOf_88 ⟨Nat.le_of_ble_eq_true rfl, Nat.le_of_ble_eq_true rfl⟩) (fun r25 hr25 => ?_)
      obtain rfl : 0 = r25 := hr25.symm
      refine lv_iload hx hb dX12_stateOf_91 (lv_at hl 1 rfl) ?_
      refine lv_ishl hx hb dX12_stateOf_93 ?_
      refine lv_topi (fun v26 ev26 => ?_)
      obtain rfl : 0 = v26 := (ev26.trans (by decide)).symm
      refine lv_ior hx hb dX12_stateOf_94 ?_
      refine lv_topi (fun v27 ev27 => ?_)
      obtain rfl : 0 = v27 := (ev27.trans (by decide)).symm
      refine lv_istore (lv' := [(7, .int 0), (9, .int r18), (8, .int 0), (6, .int r13), (5, .int r9), (4, .int r5), (3, .int r1), (0, .ref h), (1, .int a), (2, .int b)]) hx hb dX12_stateOf_95 hl (by decide) rfl (fun ls hl => ?_)
      refine lv_iinc (v := 1) (lv' := [(8, .int 1), (7, .int 0), (9, .int r18), (6, .int r13), (5, .int r9), (4, .int r5), (3, .int r1), (0, .ref h), (1, .int a), (2, .int b)]) hx hb dX12_stateOf_97 hl (k := 2) rfl (by decide) (by decide) rfl (fun ls hl => ?_)
      refine lv_goto (tgt := 37) hx hb dX12_stateOf_100 (by decide) ?_
      refine lv_iload hx hb dX12_stateOf_37 (lv_at hl 0 rfl) ?_
      refine lv_iconst (v := 3) hx hb dX12_stateOf_39 (by decide) ?_
      refine lv_icmp_ge (tgt := 103) hx hb dX12_stateOf_40 (by decide) (fun c28 => ?_) (fun c28 => ?_)
      · exact absurd c28 (by decide)
      · skip
        have : (-1) ≤ ((iv 12 20) : Int32).toInt ∧ ((iv 12 20) : Int32).toInt ≤ (-1) := ⟨by omega, by omega⟩
        have : (-1) ≤ ((iv 12 21) : Int32).toInt ∧ ((iv 12 21) : Int32).toInt ≤ (-1) := ⟨by omega, by omega⟩
        have : (-1) ≤ ((iv 12 22) : Int32).toInt ∧ ((iv 12 22) : Int32).toInt ≤ (-1) := ⟨by omega, by omega⟩
        refine lv_aload_n hx hb dX12_stateOf_43 rfl (lv_at hl 7 rfl) ?_
        refine lv_iload_n hx hb dX12_stateOf_44 rfl (lv_at hl 8 rfl) ?_
        refine lv_iload hx hb dX12_stateOf_45 (lv_at hl 0 rfl) ?_
        refine lv_iload_n hx hb dX12_stateOf_47 rfl (lv_at hl 9 rfl) ?_
        have hFc := free_all hD hS hA
        refine va_calli (va_runV (As := [.int a, .int 1, .int b]) (rest := []) ⟨hx, hb, hml, hown, ht⟩ (c_X12_sumUp_s l dC dI H.size h g ca (u2 (u2 iv 12 41 n16) 12 19 n19) (u2 (u2 lv 12 17 n20) 12 18 n21) (u2 (u2 fa 12 39 n14) 12 40 n15) (u2 (u2 la 12 42 f22) 12 43 f23) (IX_a (c := 12) (k := 40) (IX_a (c := 12) (k := 39) (IX_i (c := 12) (k := 19) (IX_i (c := 12) (k := 41) hI (show inb (0, 8) n16 from ⟨by omega, by omega⟩)) (full_i _)) hn14) hn15) a 1 b (show (-1) ≤ ((iv 12 20) : Int32).toInt ∧ ((iv 12 20) : Int32).toInt ≤ (-1) from ⟨by omega, by omega⟩) (show (-1) ≤ ((iv 12 21) : Int32).toInt ∧ ((iv 12 21) : Int32).toInt ≤ (-1) from ⟨by omega, by omega⟩) (show (-1) ≤ ((iv 12 22) : Int32).toInt ∧ ((iv 12 22) : Int32).toInt ≤ (-1) from ⟨by omega, by omega⟩) hJR) (kV 3 ht m_1434 m_1436 m_45 m_89 m_1437 rfl rfl hd_X12_sumUp_v ⟨Nat.le_of_ble_eq_true rfl, Nat.le_of_ble_eq_true rfl⟩) (vW hP hK hD (rM_12 hK hP)) rfl rfl hl.1 rfl (lv_room (Nat.le_of_ble_eq_true rfl)) dX12_stateOf_48 ⟨Nat.le_of_ble_eq_true rfl, Nat.le_of_ble_eq_true rfl⟩) hS (fun q _ h => hFc q h) hFc (fun r29 u t H1 locs ht9 hvm hr29 hB hz1 hk1 hS => ?_)
        obtain ⟨n30, n31, n32, xr29_0, xr29_1, xr29_2, xr29_3, xr29_4, xr29_5, xr29_6, xr29_7, xr29_8, hr29, rfl⟩ := hr29
        obtain ⟨hP, hD⟩ := hB
        rw [ht9] at hP
        generalize H1 = H at hP hS ⊢
        have hP : va_P (dC, dI) classes (WM h g ca (u2 (u2 iv 12 41 n16) 12 19 n30) (u2 (u2 lv 12 17 n31) 12 18 n32) (u2 (u2 fa 12 39 n14) 12 40 n15) (u2 (u2 la 12 42 f22) 12 43 f23)) H := hP
        have hD : va_D A (WM h g ca (u2 (u2 iv 12 41 n16) 12 19 n30) (u2 (u2 lv 12 17 n31) 12 18 n32) (u2 (u2 fa 12 39 n14) 12 40 n15) (u2 (u2 la 12 42 f22) 12 43 f23)) := (show va_D _ (WM h g ca (u2 (u2 iv 12 41 n16) 12 19 n30) (u2 (u2 lv 12 17 n31) 12 18 n32) (u2 (u2 fa 12 39 n14) 12 40 n15) (u2 (u2 la 12 42 f22) 12 43 f23)) from hD).weaken (fun _ _ _ h => hFc _ h)
        have xr29_0 : 0 ≤ (r29 : Int32).toInt := xr29_0
        have xr29_1 : (r29 : Int32).toInt ≤ 60 := xr29_1
        have xr29_2 : 0 ≤ (n32 : Int64).toInt := xr29_2
        have xr29_3 : (n32 : Int64).toInt ≤ 599940 := xr29_3
        have xr29_4 : 100 * (r29 : Int32).toInt ≤ (n32 : Int64).toInt := xr29_4
        have xr29_5 : (n31 : Int64).toInt = (smL (fun s : Nat => ((fa 12 4) s).toInt = (a : Int32).toInt ∧ ((fa 12 5) s).toInt = (1 : Int32).toInt ∧ ((fa 12 11) s).toInt ≤ (b : Int32).toInt ∧ (((fa 12 12) s).toInt < 0 ∨ (b : Int32).toInt < ((fa 12 12) s).toInt)) (fa 12 8) (((iv 12 3) : Int32).toInt).toNat).toInt := xr29_5
        have xr29_6 : (n32 : Int64).toInt = (smL (fun s : Nat => ((fa 12 4) s).toInt = (a : Int32).toInt ∧ ((fa 12 5) s).toInt = (1 : Int32).toInt ∧ ((fa 12 11) s).toInt ≤ (b : Int32).toInt ∧ (((fa 12 12) s).toInt < 0 ∨ (b : Int32).toInt < ((fa 12 12) s).toInt)) (fa 12 7) (((iv 12 3) : Int32).toInt).toNat).toInt := xr29_6
        have xr29_7 : (n30 : Int32).toInt = (smC (fun s : Nat => ((fa 12 4) s).toInt = (a : Int32).toInt ∧ ((fa 12 5) s).toInt = (1 : Int32).toInt ∧ ((fa 12 11) s).toInt ≤ (b : Int32).toInt ∧ (((fa 12 12) s).toInt < 0 ∨ (b : Int32).toInt < ((fa 12 12) s).toInt)) (((iv 12 3) : Int32).toInt).toNat).toInt := xr29_7
        have xr29_8 : (r29 : Int32).toInt = (n30 : Int32).toInt := xr29_8
        have sd1 : n31 = sY (fa 12 4) (fa 12 5) (fa 12 11) (fa 12 12) (fa 12 8) a.toInt b.toInt 1 ((iv 12 3).toInt).toNat := by have z9 := xr29_5; rw [show (1 : Int32).toInt = 1 from by decide] at z9; exact Int64.toInt_inj.mp z9
        have sr1 : n32 = sY (fa 12 4) (fa 12 5) (fa 12 11) (fa 12 12) (fa 12 7) a.toInt b.toInt 1 ((iv 12 3).toInt).toNat := by have z9 := xr29_6; rw [show (1 : Int32).toInt = 1 from by decide] at z9; exact Int64.toInt_inj.mp z9
        have sn1 : (r29 : Int32).toInt = (nY (fa 12 4) (fa 12 5) (fa 12 11) (fa 12 12) a.toInt b.toInt 1 ((iv 12 3).toInt).toNat).toInt := by have z9 := xr29_7; have z8 := xr29_8; rw [show (1 : Int32).toInt = 1 from by decide] at z9; exact z8.trans z9
        refine lv_istore (lv' := [(9, .int r29), (8, .int 1), (7, .int 0), (6, .int r13), (5, .int r9), (4, .int r5), (3, .int r1), (0, .ref h), (1, .int a), (2, .int b)]) hx hb dX12_stateOf_51 hl (by decide) rfl (fun ls hl => ?_)
        refine lv_aload_n hx hb dX12_stateOf_53 rfl (lv_at hl 7 rfl) ?_
        refine gM_12_42 hx hb ht hown hK hP m_1181 dX12_stateOf_54 ?_
        refine lv_iload hx hb dX12_stateOf_57 (lv_at hl 1 rfl) ?_
        refine lv_aload_n hx hb dX12_stateOf_59 rfl (lv_at hl 7 rfl) ?_
        refine gM_12_17 hx hb ht hown hK hP m_1156 (v := n31) rfl dX12_stateOf_60 ?_
        refine tM_12_42 hx hb hK hP hD hS (f0 := f22) rfl (i := 1) (x := n31) (vp_in_iff.mpr (by decide)) dX12_stateOf_63 (fun f33 ef33 H locs hP hD hS => ?_)
        have hP : va_P (dC, dI) classes (WM h g ca (u2 (u2 iv 12 41 n16) 12 19 n30) (u2 (u2 lv 12 17 n31) 12 18 n32) (u2 (u2 fa 12 39 n14) 12 40 n15) (u2 (u2 la 12 42 f33) 12 43 f23)) H := hP
        have hD : va_D A (WM h g ca (u2 (u2 iv 12 41 n16) 12 19 n30) (u2 (u2 lv 12 17 n31) 12 18 n32) (u2 (u2 fa 12 39 n14) 12 40 n15) (u2 (u2 la 12 42 f33) 12 43 f23)) := hD
        have yf33_0 : f33 (0 : Int32).toNatClampNeg = n20 := by rw [ef33]; exact (updL_ne (by decide)).trans yf22_0
        have yf33_1 : f33 (1 : Int32).toNatClampNeg = n31 := by rw [ef33]; exact updL_eq
        refine lv_aload_n hx hb dX12_stateOf_64 rfl (lv_at hl 7 rfl) ?_
        refine gM_12_43 hx hb ht hown hK hP m_1182 dX12_stateOf_65 ?_
        refine lv_iload hx hb dX12_stateOf_68 (lv_at hl 1 rfl) ?_
        refine lv_aload_n hx hb dX12_stateOf_70 rfl (lv_at hl 7 rfl) ?_
        refine gM_12_18 hx hb ht hown hK hP m_1157 (v := n32) rfl dX12_stateOf_71 ?_
        refine tM_12_43 hx hb hK hP hD hS (f0 := f23) rfl (i := 1) (x := n32) (vp_in_iff.mpr (by decide)) dX12_stateOf_74 (fun f34 ef34 H locs hP hD hS => ?_)
        have hP : va_P (dC, dI) classes (WM h g ca (u2 (u2 iv 12 41 n16) 12 19 n30) (u2 (u2 lv 12 17 n31) 12 18 n32) (u2 (u2 fa 12 39 n14) 12 40 n15) (u2 (u2 la 12 42 f33) 12 43 f34)) H := hP
        have hD : va_D A (WM h g ca (u2 (u2 iv 12 41 n16) 12 19 n30) (u2 (u2 lv 12 17 n31) 12 18 n32) (u2 (u2 fa 12 39 n14) 12 40 n15) (u2 (u2 la 12 42 f33) 12 43 f34)) := hD
        have yf34_0 : f34 (0 : Int32).toNatClampNeg = n21 := by rw [ef34]; exact (updL_ne (by decide)).trans yf23_0
        have yf34_1 : f34 (1 : Int32).toNatClampNeg = n32 := by rw [ef34]; exact updL_eq
        refine lv_iload hx hb dX12_stateOf_75 (lv_at hl 2 rfl) ?_
        refine lv_iload hx hb dX12_stateOf_77 (lv_at hl 0 rfl) ?_
        refine lv_iload_n hx hb dX12_stateOf_79 rfl (lv_at hl 6 rfl) ?_
        refine lv_icmp_lt (tgt := 87) hx hb dX12_stateOf_80 (by decide) (fun c35 => ?_) (fun c35 => ?_)
        · have fc35 := z_lt (rfl : (r29).toInt = _) (rfl : (r1).toInt = _) c35
          refine lv_iconst (v := 0) hx hb dX12_stateOf_87 (by decide) ?_
          refine vp_callSi (W.runS (As := [.int 0]) (rest := [.int 0]) ⟨hx, hb, hml, hown, ht⟩ (c_X12_bit_0 l dC dI) (kS 1 ht m_1396 m_1397 m_89 m_1398 rfl rfl hd_X12_bit_v ⟨Nat.le_of_ble_eq_true rfl, Nat.le_of_ble_eq_true rfl⟩) (sR noP (hK.sub (tys' := []) [] rfl)) rfl rfl hl.1 rfl (lv_room (Nat.le_of_ble_eq_true rfl)) dX12_stateOf_88 ⟨Nat.le_of_ble_eq_true rfl, Nat.le_of_ble_eq_true rfl⟩) (fun r36 hr36 => ?_)
          obtain rfl : 0 = r36 := hr36.symm
          refine lv_iload hx hb dX12_stateOf_91 (lv_at hl 1 rfl) ?_
          refine lv_ishl hx hb dX12_stateOf_93 ?_
          refine lv_topi (fun v37 ev37 => ?_)
          obtain rfl : 0 = v37 := (ev37.trans (by decide)).symm
          refine lv_ior hx hb dX12_stateOf_94 ?_
          refine lv_topi (fun v38 ev38 => ?_)
          obtain rfl : 0 = v38 := (ev38.trans (by decide)).symm
          refine lv_istore (lv' := [(7, .int 0), (9, .int r29), (8, .int 1), (6, .int r13), (5, .int r9), (4, .int r5), (3, .int r1), (0, .ref h), (1, .int a), (2, .int b)]) hx hb dX12_stateOf_95 hl (by decide) rfl (fun ls hl => ?_)
          refine lv_iinc (v := 2) (lv' := [(8, .int 2), (7, .int 0), (9, .int r29), (6, .int r13), (5, .int r9), (4, .int r5), (3, .int r1), (0, .ref h), (1, .int a), (2, .int b)]) hx hb dX12_stateOf_97 hl (k := 2) rfl (by decide) (by decide) rfl (fun ls hl => ?_)
          refine lv_goto (tgt := 37) hx hb dX12_stateOf_100 (by decide) ?_
          refine lv_iload hx hb dX12_stateOf_37 (lv_at hl 0 rfl) ?_
          refine lv_iconst (v := 3) hx hb dX12_stateOf_39 (by decide) ?_
          refine lv_icmp_ge (tgt := 103) hx hb dX12_stateOf_40 (by decide) (fun c39 => ?_) (fun c39 => ?_)
          · exact absurd c39 (by decide)
          · skip
            have : (-1) ≤ ((iv 12 20) : Int32).toInt ∧ ((iv 12 20) : Int32).toInt ≤ (-1) := ⟨by omega, by omega⟩
            have : (-1) ≤ ((iv 12 21) : Int32).toInt ∧ ((iv 12 21) : Int32).toInt ≤ (-1) := ⟨by omega, by omega⟩
            have : (-1) ≤ ((iv 12 22) : Int32).toInt ∧ ((iv 12 22) : Int32).toInt ≤ (-1) := ⟨by omega, by omega⟩
            refine lv_aload_n hx hb dX12_stateOf_43 rfl (lv_at hl 7 rfl) ?_
            refine lv_iload_n hx hb dX12_stateOf_44 rfl (lv_at hl 8 rfl) ?_
            refine lv_iload hx hb dX12_stateOf_45 (lv_at hl 0 rfl) ?_
            refine lv_iload_n hx hb dX12_stateOf_47 rfl (lv_at hl 9 rfl) ?_
            have hFc := free_all hD hS hA
            refine va_calli (va_runV (As := [.int a, .int 2, .int b]) (rest := []) ⟨hx, hb, hml, hown, ht⟩ (c_X12_sumUp_s l dC dI H.size h g ca (u2 (u2 iv 12 41 n16) 12 19 n30) (u2 (u2 lv 12 17 n31) 12 18 n32) (u2 (u2 fa 12 39 n14) 12 40 n15) (u2 (u2 la 12 42 f33) 12 43 f34) (IX_a (c := 12) (k := 40) (IX_a (c := 12) (k := 39) (IX_i (c := 12) (k := 19) (IX_i (c := 12) (k := 41) hI (show inb (0, 8) n16 from ⟨by omega, by omega⟩)) (full_i _)) hn14) hn15) a 2 b (show (-1) ≤ ((iv 12 20) : Int32).toInt ∧ ((iv 12 20) : Int32).toInt ≤ (-1) from ⟨by omega, by omega⟩) (show (-1) ≤ ((iv 12 21) : Int32).toInt ∧ ((iv 12 21) : Int32).toInt ≤ (-1) from ⟨by omega, by omega⟩) (show (-1) ≤ ((iv 12 22) : Int32).toInt ∧ ((iv 12 22) : Int32).toInt ≤ (-1) from ⟨by omega, by omega⟩) hJR) (kV 3 ht m_1434 m_1436 m_45 m_89 m_1437 rfl rfl hd_X12_sumUp_v ⟨Nat.le_of_ble_eq_true rfl, Nat.le_of_ble_eq_true rfl⟩) (vW hP hK hD (rM_12 hK hP)) rfl rfl hl.1 rfl (lv_room (Nat.le_of_ble_eq_true rfl)) dX12_stateOf_48 ⟨Nat.le_of_ble_eq_true rfl, Nat.le_of_ble_eq_true rfl⟩) hS (fun q _ h => hFc q h) hFc (fun r40 u t H1 locs ht9 hvm hr40 hB hz1 hk1 hS => ?_)
            obtain ⟨n41, n42, n43, xr40_0, xr40_1, xr40_2, xr40_3, xr40_4, xr40_5, xr40_6, xr40_7, xr40_8, hr40, rfl⟩ := hr40
            obtain ⟨hP, hD⟩ := hB
            rw [ht9] at hP
            generalize H1 = H at hP hS ⊢
            have hP : va_P (dC, dI) classes (WM h g ca (u2 (u2 iv 12 41 n16) 12 19 n41) (u2 (u2 lv 12 17 n42) 12 18 n43) (u2 (u2 fa 12 39 n14) 12 40 n15) (u2 (u2 la 12 42 f33) 12 43 f34)) H := hP
            have hD : va_D A (WM h g ca (u2 (u2 iv 12 41 n16) 12 19 n41) (u2 (u2 lv 12 17 n42) 12 18 n43) (u2 (u2 fa 12 39 n14) 12 40 n15) (u2 (u2 la 12 42 f33) 12 43 f34)) := (show va_D _ (WM h g ca (u2 (u2 iv 12 41 n16) 12 19 n41) (u2 (u2 lv 12 17 n42) 12 18 n43) (u2 (u2 fa 12 39 n14) 12 40 n15) (u2 (u2 la 12 42 f33) 12 43 f34)) from hD).weaken (fun _ _ _ h => hFc _ h)
            have xr40_0 : 0 ≤ (r40 : Int32).toInt := xr40_0
            have xr40_1 : (r40 : Int32).toInt ≤ 60 := xr40_1
            have xr40_2 : 0 ≤ (n43 : Int64).toInt := xr40_2
            have xr40_3 : (n43 : Int64).toInt ≤ 599940 := xr40_3
            have xr40_4 : 100 * (r40 : Int32).toInt ≤ (n43 : Int64).toInt := xr40_4
            have xr40_5 : (n42 : Int64).toInt = (smL (fun s : Nat => ((fa 12 4) s).toInt = (a : Int32).toInt ∧ ((fa 12 5) s).toInt = (2 : Int32).toInt ∧ ((fa 12 11) s).toInt ≤ (b : Int32).toInt ∧ (((fa 12 12) s).toInt < 0 ∨ (b : Int32).toInt < ((fa 12 12) s).toInt)) (fa 12 8) (((iv 12 3) : Int32).toInt).toNat).toInt := xr40_5
            have xr40_6 : (n43 : Int64).toInt = (smL (fun s : Nat => ((fa 12 4) s).toInt = (a : Int32).toInt ∧ ((fa 12 5) s).toInt = (2 : Int32).toInt ∧ ((fa 12 11) s).toInt ≤ (b : Int32).toInt ∧ (((fa 12 12) s).toInt < 0 ∨ (b : Int32).toInt < ((fa 12 12) s).toInt)) (fa 12 7) (((iv 12 3) : Int32).toInt).toNat).toInt := xr40_6
            have xr40_7 : (n41 : Int32).toInt = (smC (fun s : Nat => ((fa 12 4) s).toInt = (a : Int32).toInt ∧ ((fa 12 5) s).toInt = (2 : Int32).toInt ∧ ((fa 12 11) s).toInt ≤ (b : Int32).toInt ∧ (((fa 12 12) s).toInt < 0 ∨ (b : Int32).toInt < ((fa 12 12) s).toInt)) (((iv 12 3) : Int32).toInt).toNat).toInt := xr40_7
            have xr40_8 : (r40 : Int32).toInt = (n41 : Int32).toInt := xr40_8
            have sd2 : n42 = sY (fa 12 4) (fa 12 5) (fa 12 11) (fa 12 12) (fa 12 8) a.toInt b.toInt 2 ((iv 12 3).toInt).toNat := by have z9 := xr40_5; rw [show (2 : Int32).toInt = 2 from by decide] at z9; exact Int64.toInt_inj.mp z9
            have sr2 : n43 = sY (fa 12 4) (fa 12 5) (fa 12 11) (fa 12 12) (fa 12 7) a.toInt b.toInt 2 ((iv 12 3).toInt).toNat := by have z9 := xr40_6; rw [show (2 : Int32).toInt = 2 from by decide] at z9; exact Int64.toInt_inj.mp z9
            have sn2 : (r40 : Int32).toInt = (nY (fa 12 4) (fa 12 5) (fa 12 11) (fa 12 12) a.toInt b.toInt 2 ((iv 12 3).toInt).toNat).toInt := by have z9 := xr40_7; have z8 := xr40_8; rw [show (2 : Int32).toInt = 2 from by decide] at z9; exact z8.trans z9
            refine lv_istore (lv' := [(9, .int r40), (8, .int 2), (7, .int 0), (6, .int r13), (5, .int r9), (4, .int r5), (3, .int r1), (0, .ref h), (1, .int a), (2, .int b)]) hx hb dX12_stateOf_51 hl (by decide) rfl (fun ls hl => ?_)
            refine lv_aload_n hx hb dX12_stateOf_53 rfl (lv_at hl 7 rfl) ?_
            refine gM_12_42 hx hb ht hown hK hP m_1181 dX12_stateOf_54 ?_
            refine lv_iload hx hb dX12_stateOf_57 (lv_at hl 1 rfl) ?_
            refine lv_aload_n hx hb dX12_stateOf_59 rfl (lv_at hl 7 rfl) ?_
            refine gM_12_17 hx hb ht hown hK hP m_1156 (v := n42) rfl dX12_stateOf_60 ?_
            refine tM_12_42 hx hb hK hP hD hS (f0 := f33) rfl (i := 2) (x := n42) (vp_in_iff.mpr (by decide)) dX12_stateOf_63 (fun f44 ef44 H locs hP hD hS => ?_)
            have hP : va_P (dC, dI) classes (WM h g ca (u2 (u2 iv 12 41 n16) 12 19 n41) (u2 (u2 lv 12 17 n42) 12 18 n43) (u2 (u2 fa 12 39 n14) 12 40 n15) (u2 (u2 la 12 42 f44) 12 43 f34)) H := hP
            have hD : va_D A (WM h g ca (u2 (u2 iv 12 41 n16) 12 19 n41) (u2 (u2 lv 12 17 n42) 12 18 n43) (u2 (u2 fa 12 39 n14) 12 40 n15) (u2 (u2 la 12 42 f44) 12 43 f34)) := hD
            have yf44_0 : f44 (0 : Int32).toNatClampNeg = n20 := by rw [ef44]; exact (updL_ne (by decide)).trans yf33_0
            have yf44_1 : f44 (1 : Int32).toNatClampNeg = n31 := by rw [ef44]; exact (updL_ne (by decide)).trans yf33_1
            have yf44_2 : f44 (2 : Int32).toNatClampNeg = n42 := by rw [ef44]; exact updL_eq
            refine lv_aload_n hx hb dX12_stateOf_64 rfl (lv_at hl 7 rfl) ?_
            refine gM_12_43 hx hb ht hown hK hP m_1182 dX12_stateOf_65 ?_
            refine lv_iload hx hb dX12_stateOf_68 (lv_at hl 1 rfl) ?_
            refine lv_aload_n hx hb dX12_stateOf_70 rfl (lv_at hl 7 rfl) ?_
            refine gM_12_18 hx hb ht hown hK hP m_1157 (v := n43) rfl dX12_stateOf_71 ?_
            refine tM_12_43 hx hb hK hP hD hS (f0 := f34) rfl (i := 2) (x := n43) (vp_in_iff.mpr (by decide)) dX12_stateOf_74 (fun f45 ef45 H locs hP hD hS => ?_)
            have hP : va_P (dC, dI) classes (WM h g ca (u2 (u2 iv 12 41 n16) 12 19 n41) (u2 (u2 lv 12 17 n42) 12 18 n43) (u2 (u2 fa 12 39 n14) 12 40 n15) (u2 (u2 la 12 42 f44) 12 43 f45)) H := hP
            have hD : va_D A (WM h g ca (u2 (u2 iv 12 41 n16) 12 19 n41) (u2 (u2 lv 12 17 n42) 12 18 n43) (u2 (u2 fa 12 39 n14) 12 40 n15) (u2 (u2 la 12 42 f44) 12 43 f45)) := hD
            have yf45_0 : f45 (0 : Int32).toNatClampNeg = n21 := by rw [ef45]; exact (updL_ne (by decide)).trans yf34_0
            have yf45_1 : f45 (1 : Int32).toNatClampNeg = n32 := by rw [ef45]; exact (updL_ne (by decide)).trans yf34_1
            have yf45_2 : f45 (2 : Int32).toNatClampNeg = n43 := by rw [ef45]; exact updL_eq
            refine lv_iload hx hb dX12_stateOf_75 (lv_at hl 2 rfl) ?_
            refine lv_iload hx hb dX12_stateOf_77 (lv_at hl 0 rfl) ?_
            refine lv_iload_n hx hb dX12_stateOf_79 rfl (lv_at hl 6 rfl) ?_
            refine lv_icmp_lt (tgt := 87) hx hb dX12_stateOf_80 (by decide) (fun c46 => ?_) (fun c46 => ?_)
            · have fc46 := z_lt (rfl : (r40).toInt = _) (rfl : (r1).toInt = _) c46
              refine lv_iconst (v := 0) hx hb dX12_stateOf_87 (by decide) ?_
              refine vp_callSi (W.runS (As := [.int 0]) (rest := [.int 0]) ⟨hx, hb, hml, hown, ht⟩ (c_X12_bit_0 l dC dI) (kS 1 ht m_1396 m_1397 m_89 m_1398 rfl rfl hd_X12_bit_v ⟨Nat.le_of_ble_eq_true rfl, Nat.le_of_ble_eq_true rfl⟩) (sR noP (hK.sub (tys' := []) [] rfl)) rfl rfl hl.1 rfl (lv_room (Nat.le_of_ble_eq_true rfl)) dX12_stateOf_88 ⟨Nat.le_of_ble_eq_true rfl, Nat.le_of_ble_eq_true rfl⟩) (fun r47 hr47 => ?_)
              obtain rfl : 0 = r47 := hr47.symm
              refine lv_iload hx hb dX12_stateOf_91 (lv_at hl 1 rfl) ?_
              refine lv_ishl hx hb dX12_stateOf_93 ?_
              refine lv_topi (fun v48 ev48 => ?_)
              obtain rfl : 0 = v48 := (ev48.trans (by decide)).symm
              refine lv_ior hx hb dX12_stateOf_94 ?_
              refine lv_topi (fun v49 ev49 => ?_)
              obtain rfl : 0 = v49 := (ev49.trans (by decide)).symm
              refine lv_istore (lv' := [(7, .int 0), (9, .int r40), (8, .int 2), (6, .int r13), (5, .int r9), (4, .int r5), (3, .int r1), (0, .ref h), (1, .int a), (2, .int b)]) hx hb dX12_stateOf_95 hl (by decide) rfl (fun ls hl => ?_)
              refine lv_iinc (v := 3) (lv' := [(8, .int 3), (7, .int 0), (9, .int r40), (6, .int r13), (5, .int r9), (4, .int r5), (3, .int r1), (0, .ref h), (1, .int a), (2, .int b)]) hx hb dX12_stateOf_97 hl (k := 2) rfl (by decide) (by decide) rfl (fun ls hl => ?_)
              refine lv_goto (tgt := 37) hx hb dX12_stateOf_100 (by decide) ?_
              refine lv_iload hx hb dX12_stateOf_37 (lv_at hl 0 rfl) ?_
              refine lv_iconst (v := 3) hx hb dX12_stateOf_39 (by decide) ?_
              refine lv_icmp_ge (tgt := 103) hx hb dX12_stateOf_40 (by decide) (fun c50 => ?_) (fun c50 => ?_)
              · skip
                refine lv_iload hx hb dX12_stateOf_103 (lv_at hl 5 rfl) ?_
                refine lv_iconst (v := 1) hx hb dX12_stateOf_105 (by decide) ?_
                refine lv_icmp_ne (tgt := 119) hx hb dX12_stateOf_106 (by decide) (fun c51 => ?_) (fun c51 => ?_)
                · have fc51 := z_ne (rfl : (r5).toInt = _) (by decide : (1 : Int32).toInt = 1) c51
                  refine lv_iload hx hb dX12_stateOf_119 (lv_at hl 1 rfl) ?_
                  refine lv_iconst (v := 3) hx hb dX12_stateOf_121 (by decide) ?_
                  refine lv_iand hx hb dX12_stateOf_122 ?_
                  refine lv_topi (fun v52 ev52 => ?_)
                  obtain rfl : 0 = v52 := (ev52.trans (by decide)).symm
                  refine lv_iconst (v := 3) hx hb dX12_stateOf_123 (by decide) ?_
                  refine lv_icmp_eq (tgt := 129) hx hb dX12_stateOf_124 (by decide) (fun c53 => ?_) (fun c53 => ?_)
                  · exact absurd c53 (by decide)
                  · skip
                    refine lv_iconst (v := 0) hx hb dX12_stateOf_127 (by decide) ?_
                    have hP9 : va_P (dC, dI) classes (WM h g ca (u2 (u2 iv 12 19 n41) 12 41 n16) (u2 (u2 (u2 (u2 lv 12 17 n42) 12 18 n43) 12 44 (lv 12 44)) 12 45 (lv 12 45)) (u2 (u2 fa 12 39 n14) 12 40 n15) (u2 (u2 la 12 42 f44) 12 43 f45)) H := hP
                    have hD9 : va_D A (WM h g ca (u2 (u2 iv 12 19 n41) 12 41 n16) (u2 (u2 (u2 (u2 lv 12 17 n42) 12 18 n43) 12 44 (lv 12 44)) 12 45 (lv 12 45)) (u2 (u2 fa 12 39 n14) 12 40 n15) (u2 (u2 la 12 42 f44) 12 43 f45)) := hD
                    exact W.iret (v := 0) hx hb hr (fun t ht9 hW => ⟨⟨0, ((u2 (u2 iv 12 19 n41) 12 41 n16), (u2 (u2 (u2 (u2 lv 12 17 n42) 12 18 n43) 12 44 (lv 12 44)) 12 45 (lv 12 45)), (u2 (u2 fa 12 39 n14) 12 40 n15), (u2 (u2 la 12 42 f44) 12 43 f45)), rfl, ⟨n14, n15, f44, f45, n41, n16, n42, n43, (lv 12 44), (lv 12 45), hn14, hn15, (show inb (0, 8) n16 from ⟨by omega, by omega⟩), (show LwT (fun q v => FoY (iv 12 23).toInt (fa 12 24) (fa 12 25) (fa 12 26) (fa 12 27) (fa 12 28) q (b).toInt v) (fa 12 4) (fa 12 5) (fa 12 11) (fa 12 12) (fa 12 7) (fa 12 8) (a).toInt (b).toInt ((iv 12 3).toInt).toNat f44 f45 ((lv 12 44) : Int64).toInt ((lv 12 45) : Int64).toInt (0 : Int32).toInt from (by
                          have hP9 : ∀ l : Nat, l < 3 → f45 l = sY (fa 12 4) (fa 12 5) (fa 12 11) (fa 12 12) (fa 12 7) a.toInt b.toInt (l : Int) ((iv 12 3).toInt).toNat ∧ f44 l = sY (fa 12 4) (fa 12 5) (fa 12 11) (fa 12 12) (fa 12 8) a.toInt b.toInt (l : Int) ((iv 12 3).toInt).toNat := (fun l hl => by
                           rcases (by omega : l = 0 ∨ l = 1 ∨ l = 2) with rfl | rfl | rfl
                           · exact ⟨(show f45 0 = _ from yf45_0).trans sr0, (show f44 0 = _ from yf44_0).trans sd0⟩
                           · exact ⟨(show f45 1 = _ from yf45_1).trans sr1, (show f44 1 = _ from yf44_1).trans sd1⟩
                           · exact ⟨(show f45 2 = _ from yf45_2).trans sr2, (show f44 2 = _ from yf44_2).trans sd2⟩)
                          exact ⟨hP9, ⟨_, (show FoY (iv 12 23).toInt (fa 12 24) (fa 12 25) (fa 12 26) (fa 12 27) (fa 12 28) 1 b.toInt (r1 : Int32).toInt from xr1_0), Or.inl ⟨by omega, by omega⟩⟩⟩)), ⟨by decide, by decide⟩, rfl⟩, by rw [ht9]; exact hP9, hD9⟩, hS.F ht9⟩) hS.2.2 dX12_stateOf_128
                · have fc51 := z_eq (rfl : (r5).toInt = _) (by decide : (1 : Int32).toInt = 1) c51
                  refine lv_aload_n hx hb dX12_stateOf_109 rfl (lv_at hl 7 rfl) ?_
                  refine lv_iconst (v := 0) hx hb dX12_stateOf_110 (by decide) ?_
                  have hFc := free_all hD hS hA
                  refine va_callv (va_runV (As := [.int 0]) (rest := []) ⟨hx, hb, hml, hown, ht⟩ (c_X12_only_w0 l dC dI H.size h g ca (u2 (u2 iv 12 41 n16) 12 19 n41) (u2 (u2 lv 12 17 n42) 12 18 n43) (u2 (u2 fa 12 39 n14) 12 40 n15) (u2 (u2 la 12 42 f44) 12 43 f45) (IX_a (c := 12) (k := 40) (IX_a (c := 12) (k := 39) (IX_i (c := 12) (k := 19) (IX_i (c := 12) (k := 41) hI (show inb (0, 8) n16 from ⟨by omega, by omega⟩)) (full_i _)) hn14) hn15)) (kV 1 ht m_1536 m_1538 m_59 m_89 m_1539 rfl rfl hd_X12_only_v ⟨Nat.le_of_ble_eq_true rfl, Nat.le_of_ble_eq_true rfl⟩) (vW hP hK hD (rM_12 hK hP)) rfl rfl hl.1 rfl (lv_room (Nat.le_of_ble_eq_true rfl)) dX12_stateOf_111 ⟨Nat.le_of_ble_eq_true rfl, Nat.le_of_ble_eq_true rfl⟩) hS (fun q _ h => hFc q h) hFc (fun u t H1 locs ht9 hvm hr54 hB hz1 hk1 hS => ?_)
                  obtain ⟨n55, n56, xr54_0, xr54_1, rfl⟩ := hr54
                  obtain ⟨hP, hD⟩ := hB
                  rw [ht9] at hP
                  generalize H1 = H at hP hS ⊢
                  have hP : va_P (dC, dI) classes (WM h g ca (u2 (u2 iv 12 41 n16) 12 19 n41) (u2 (u2 (u2 (u2 lv 12 17 n42) 12 18 n43) 12 44 n55) 12 45 n56) (u2 (u2 fa 12 39 n14) 12 40 n15) (u2 (u2 la 12 42 f44) 12 43 f45)) H := hP
                  have hD : va_D A (WM h g ca (u2 (u2 iv 12 41 n16) 12 19 n41) (u2 (u2 (u2 (u2 lv 12 17 n42) 12 18 n43) 12 44 n55) 12 45 n56) (u2 (u2 fa 12 39 n14) 12 40 n15) (u2 (u2 la 12 42 f44) 12 43 f45)) := (show va_D _ (WM h g ca (u2 (u2 iv 12 41 n16) 12 19 n41) (u2 (u2 (u2 (u2 lv 12 17 n42) 12 18 n43) 12 44 n55) 12 45 n56) (u2 (u2 fa 12 39 n14) 12 40 n15) (u2 (u2 la 12 42 f44) 12 43 f45)) from hD).weaken (fun _ _ _ h => hFc _ h)
                  have xr54_0 : (n55 : Int64).toInt = (f44 0).toInt := xr54_0
                  have xr54_1 : (n56 : Int64).toInt = (f45 0).toInt := xr54_1
                  refine lv_iload hx hb dX12_stateOf_114 (lv_at hl 1 rfl) ?_
                  refine lv_iconst (v := 1) hx hb dX12_stateOf_116 (by decide) ?_
                  refine lv_iand hx hb dX12_stateOf_117 ?_
                  refine lv_topi (fun v57 ev57 => ?_)
                  obtain rfl : 0 = v57 := (ev57.trans (by decide)).symm
                  have hP9 : va_P (dC, dI) classes (WM h g ca (u2 (u2 iv 12 19 n41) 12 41 n16) (u2 (u2 (u2 (u2 lv 12 17 n42) 12 18 n43) 12 44 n55) 12 45 n56) (u2 (u2 fa 12 39 n14) 12 40 n15) (u2 (u2 la 12 42 f44) 12 43 f45)) H := hP
                  have hD9 : va_D A (WM h g ca (u2 (u2 iv 12 19 n41) 12 41 n16) (u2 (u2 (u2 (u2 lv 12 17 n42) 12 18 n43) 12 44 n55) 12 45 n56) (u2 (u2 fa 12 39 n14) 12 40 n15) (u2 (u2 la 12 42 f44) 12 43 f45)) := hD
                  exact W.iret (v := 0) hx hb hr (fun t ht9 hW => ⟨⟨0, ((u2 (u2 iv 12 19 n41) 12 41 n16), (u2 (u2 (u2 (u2 lv 12 17 n42) 12 18 n43) 12 44 n55) 12 45 n56), (u2 (u2 fa 12 39 n14) 12 40 n15), (u2 (u2 la 12 42 f44) 12 43 f45)), rfl, ⟨n14, n15, f44, f45, n41, n16, n42, n43, n55, n56, hn14, hn15, (show inb (0, 8) n16 from ⟨by omega, by omega⟩), (show LwT (fun q v => FoY (iv 12 23).toInt (fa 12 24) (fa 12 25) (fa 12 26) (fa 12 27) (fa 12 28) q (b).toInt v) (fa 12 4) (fa 12 5) (fa 12 11) (fa 12 12) (fa 12 7) (fa 12 8) (a).toInt (b).toInt ((iv 12 3).toInt).toNat f44 f45 (n55 : Int64).toInt (n56 : Int64).toInt (0 : Int32).toInt from (by
                        have hP9 : ∀ l : Nat, l < 3 → f45 l = sY (fa 12 4) (fa 12 5) (fa 12 11) (fa 12 12) (fa 12 7) a.toInt b.toInt (l : Int) ((iv 12 3).toInt).toNat ∧ f44 l = sY (fa 12 4) (fa 12 5) (fa 12 11) (fa 12 12) (fa 12 8) a.toInt b.toInt (l : Int) ((iv 12 3).toInt).toNat := (fun l hl => by
                         rcases (by omega : l = 0 ∨ l = 1 ∨ l = 2) with rfl | rfl | rfl
                         · exact ⟨(show f45 0 = _ from yf45_0).trans sr0, (show f44 0 = _ from yf44_0).trans sd0⟩
                         · exact ⟨(show f45 1 = _ from yf45_1).trans sr1, (show f44 1 = _ from yf44_1).trans sd1⟩
                         · exact ⟨(show f45 2 = _ from yf45_2).trans sr2, (show f44 2 = _ from yf44_2).trans sd2⟩)
                        exact ⟨hP9, ⟨_, (show FoY (iv 12 23).toInt (fa 12 24) (fa 12 25) (fa 12 26) (fa 12 27) (fa 12 28) 1 b.toInt (r1 : Int32).toInt from xr1_0), Or.inl ⟨by omega, by omega⟩⟩⟩)), ⟨by decide, by decide⟩, rfl⟩, by rw [ht9]; exact hP9, hD9⟩, hS.F ht9⟩) hS.2.2 dX12_stateOf_118
              · exact absurd c50 (by decide)
            · have fc46 := z_nlt (rfl : (r40).toInt = _) (rfl : (r1).toInt = _) c46
              refine lv_iconst (v := 1) hx hb dX12_stateOf_83 (by decide) ?_
              refine lv_goto (tgt := 88) hx hb dX12_stateOf_84 (by decide) ?_
              refine vp_callSi (W.runS (As := [.int 1]) (rest := [.int 0]) ⟨hx, hb, hml, hown, ht⟩ (c_X12_bit_1 l dC dI) (kS 1 ht m_1396 m_1397 m_89 m_1398 rfl rfl hd_X12_bit_v ⟨Nat.le_of_ble_eq_true rfl, Nat.le_of_ble_eq_true rfl⟩) (sR noP (hK.sub (tys' := []) [] rfl)) rfl rfl hl.1 rfl (lv_room (Nat.le_of_ble_eq_true rfl)) dX12_stateOf_88 ⟨Nat.le_of_ble_eq_true rfl, Nat.le_of_ble_eq_true rfl⟩) (fun r58 hr58 => ?_)
              obtain rfl : 1 = r58 := hr58.symm
              refine lv_iload hx hb dX12_stateOf_91 (lv_at hl 1 rfl) ?_
              refine lv_ishl hx hb dX12_stateOf_93 ?_
              refine lv_topi (fun v59 ev59 => ?_)
              obtain rfl : 4 = v59 := (ev59.trans (by decide)).symm
              refine lv_ior hx hb dX12_stateOf_94 ?_
              refine lv_topi (fun v60 ev60 => ?_)
              obtain rfl : 4 = v60 := (ev60.trans (by decide)).symm
              refine lv_istore (lv' := [(7, .int 4), (9, .int r40), (8, .int 2), (6, .int r13), (5, .int r9), (4, .int r5), (3, .int r1), (0, .ref h), (1, .int a), (2, .int b)]) hx hb dX12_stateOf_95 hl (by decide) rfl (fun ls hl => ?_)
              refine lv_iinc (v := 3) (lv' := [(8, .int 3), (7, .int 4), (9, .int r40), (6, .int r13), (5, .int r9), (4, .int r5), (3, .int r1), (0, .ref h), (1, .int a), (2, .int b)]) hx hb dX12_stateOf_97 hl (k := 2) rfl (by decide) (by decide) rfl (fun ls hl => ?_)
              refine lv_goto (tgt := 37) hx hb dX12_stateOf_100 (by decide) ?_
              refine lv_iload hx hb dX12_stateOf_37 (lv_at hl 0 rfl) ?_
              refine lv_iconst (v := 3) hx hb dX12_stateOf_39 (by decide) ?_
              refine lv_icmp_ge (tgt := 103) hx hb dX12_stateOf_40 (by decide) (fun c61 => ?_) (fun c61 => ?_)
              · skip
                refine lv_iload hx hb dX12_stateOf_103 (lv_at hl 5 rfl) ?_
                refine lv_iconst (v := 1) hx hb dX12_stateOf_105 (by decide) ?_
                refine lv_icmp_ne (tgt := 119) hx hb dX12_stateOf_106 (by decide) (fun c62 => ?_) (fun c62 => ?_)
                · have fc62 := z_ne (rfl : (r5).toInt = _) (by decide : (1 : Int32).toInt = 1) c62
                  refine lv_iload hx hb dX12_stateOf_119 (lv_at hl 1 rfl) ?_
                  refine lv_iconst (v := 3) hx hb dX12_stateOf_121 (by decide) ?_
                  refine lv_iand hx hb dX12_stateOf_122 ?_
                  refine lv_topi (fun v63 ev63 => ?_)
                  obtain rfl : 0 = v63 := (ev63.trans (by decide)).symm
                  refine lv_iconst (v := 3) hx hb dX12_stateOf_123 (by decide) ?_
                  refine lv_icmp_eq (tgt := 129) hx hb dX12_stateOf_124 (by decide) (fun c64 => ?_) (fun c64 => ?_)
                  · exact absurd c64 (by decide)
                  · skip
                    refine lv_iconst (v := 0) hx hb dX12_stateOf_127 (by decide) ?_
                    have hP9 : va_P (dC, dI) classes (WM h g ca (u2 (u2 iv 12 19 n41) 12 41 n16) (u2 (u2 (u2 (u2 lv 12 17 n42) 12 18 n43) 12 44 (lv 12 44)) 12 45 (lv 12 45)) (u2 (u2 fa 12 39 n14) 12 40 n15) (u2 (u2 la 12 42 f44) 12 43 f45)) H := hP
                    have hD9 : va_D A (WM h g ca (u2 (u2 iv 12 19 n41) 12 41 n16) (u2 (u2 (u2 (u2 lv 12 17 n42) 12 18 n43) 12 44 (lv 12 44)) 12 45 (lv 12 45)) (u2 (u2 fa 12 39 n14) 12 40 n15) (u2 (u2 la 12 42 f44) 12 43 f45)) := hD
                    exact W.iret (v := 0) hx hb hr (fun t ht9 hW => ⟨⟨0, ((u2 (u2 iv 12 19 n41) 12 41 n16), (u2 (u2 (u2 (u2 lv 12 17 n42) 12 18 n43) 12 44 (lv 12 44)) 12 45 (lv 12 45)), (u2 (u2 fa 12 39 n14) 12 40 n15), (u2 (u2 la 12 42 f44) 12 43 f45)), rfl, ⟨n14, n15, f44, f45, n41, n16, n42, n43, (lv 12 44), (lv 12 45), hn14, hn15, (show inb (0, 8) n16 from ⟨by omega, by omega⟩), (show LwT (fun q v => FoY (iv 12 23).toInt (fa 12 24) (fa 12 25) (fa 12 26) (fa 12 27) (fa 12 28) q (b).toInt v) (fa 12 4) (fa 12 5) (fa 12 11) (fa 12 12) (fa 12 7) (fa 12 8) (a).toInt (b).toInt ((iv 12 3).toInt).toNat f44 f45 ((lv 12 44) : Int64).toInt ((lv 12 45) : Int64).toInt (0 : Int32).toInt from (by
                          have hP9 : ∀ l : Nat, l < 3 → f45 l = sY (fa 12 4) (fa 12 5) (fa 12 11) (fa 12 12) (fa 12 7) a.toInt b.toInt (l : Int) ((iv 12 3).toInt).toNat ∧ f44 l = sY (fa 12 4) (fa 12 5) (fa 12 11) (fa 12 12) (fa 12 8) a.toInt b.toInt (l : Int) ((iv 12 3).toInt).toNat := (fun l hl => by
                           rcases (by omega : l = 0 ∨ l = 1 ∨ l = 2) with rfl | rfl | rfl
                           · exact ⟨(show f45 0 = _ from yf45_0).trans sr0, (show f44 0 = _ from yf44_0).trans sd0⟩
                           · exact ⟨(show f45 1 = _ from yf45_1).trans sr1, (show f44 1 = _ from yf44_1).trans sd1⟩
                           · exact ⟨(show f45 2 = _ from yf45_2).trans sr2, (show f44 2 = _ from yf44_2).trans sd2⟩)
                          exact ⟨hP9, ⟨_, (show FoY (iv 12 23).toInt (fa 12 24) (fa 12 25) (fa 12 26) (fa 12 27) (fa 12 28) 1 b.toInt (r1 : Int32).toInt from xr1_0), Or.inl ⟨by omega, by omega⟩⟩⟩)), ⟨by decide, by decide⟩, rfl⟩, by rw [ht9]; exact hP9, hD9⟩, hS.F ht9⟩) hS.2.2 dX12_stateOf_128
                · have fc62 := z_eq (rfl : (r5).toInt = _) (by decide : (1 : Int32).toInt = 1) c62
                  refine lv_aload_n hx hb dX12_stateOf_109 rfl (lv_at hl 7 rfl) ?_
                  refine lv_iconst (v := 0) hx hb dX12_stateOf_110 (by decide) ?_
                  have hFc := free_all hD hS hA
                  refine va_callv (va_runV (As := [.int 0]) (rest := []) ⟨hx, hb, hml, hown, ht⟩ (c_X12_only_w0 l dC dI H.size h g ca (u2 (u2 iv 12 41 n16) 12 19 n41) (u2 (u2 lv 12 17 n42) 12 18 n43) (u2 (u2 fa 12 39 n14) 12 40 n15) (u2 (u2 la 12 42 f44) 12 43 f45) (IX_a (c := 12) (k := 40) (IX_a (c := 12) (k := 39) (IX_i (c := 12) (k := 19) (IX_i (c := 12) (k := 41) hI (show inb (0, 8) n16 from ⟨by omega, by omega⟩)) (full_i _)) hn14) hn15)) (kV 1 ht m_1536 m_1538 m_59 m_89 m_1539 rfl rfl hd_X12_only_v ⟨Nat.le_of_ble_eq_true rfl, Nat.le_of_ble_eq_true rfl⟩) (vW hP hK hD (rM_12 hK hP)) rfl rfl hl.1 rfl (lv_room (Nat.le_of_ble_eq_true rfl)) dX12_stateOf_111 ⟨Nat.le_of_ble_eq_true rfl, Nat.le_of_ble_eq_true rfl⟩) hS (fun q _ h => hFc q h) hFc (fun u t H1 locs ht9 hvm hr65 hB hz1 hk1 hS => ?_)
                  obtain ⟨n66, n67, xr65_0, xr65_1, rfl⟩ := hr65
                  obtain ⟨hP, hD⟩ := hB
                  rw [ht9] at hP
                  generalize H1 = H at hP hS ⊢
                  have hP : va_P (dC, dI) classes (WM h g ca (u2 (u2 iv 12 41 n16) 12 19 n41) (u2 (u2 (u2 (u2 lv 12 17 n42) 12 18 n43) 12 44 n66) 12 45 n67) (u2 (u2 fa 12 39 n14) 12 40 n15) (u2 (u2 la 12 42 f44) 12 43 f45)) H := hP
                  have hD : va_D A (WM h g ca (u2 (u2 iv 12 41 n16) 12 19 n41) (u2 (u2 (u2 (u2 lv 12 17 n42) 12 18 n43) 12 44 n66) 12 45 n67) (u2 (u2 fa 12 39 n14) 12 40 n15) (u2 (u2 la 12 42 f44) 12 43 f45)) := (show va_D _ (WM h g ca (u2 (u2 iv 12 41 n16) 12 19 n41) (u2 (u2 (u2 (u2 lv 12 17 n42) 12 18 n43) 12 44 n66) 12 45 n67) (u2 (u2 fa 12 39 n14) 12 40 n15) (u2 (u2 la 12 42 f44) 12 43 f45)) from hD).weaken (fun _ _ _ h => hFc _ h)
                  have xr65_0 : (n66 : Int64).toInt = (f44 0).toInt := xr65_0
                  have xr65_1 : (n67 : Int64).toInt = (f45 0).toInt := xr65_1
                  refine lv_iload hx hb dX12_stateOf_114 (lv_at hl 1 rfl) ?_
                  refine lv_iconst (v := 1) hx hb dX12_stateOf_116 (by decide) ?_
                  refine lv_iand hx hb dX12_stateOf_117 ?_
                  refine lv_topi (fun v68 ev68 => ?_)
                  obtain rfl : 0 = v68 := (ev68.trans (by decide)).symm
                  have hP9 : va_P (dC, dI) classes (WM h g ca (u2 (u2 iv 12 19 n41) 12 41 n16) (u2 (u2 (u2 (u2 lv 12 17 n42) 12 18 n43) 12 44 n66) 12 45 n67) (u2 (u2 fa 12 39 n14) 12 40 n15) (u2 (u2 la 12 42 f44) 12 43 f45)) H := hP
                  have hD9 : va_D A (WM h g ca (u2 (u2 iv 12 19 n41) 12 41 n16) (u2 (u2 (u2 (u2 lv 12 17 n42) 12 18 n43) 12 44 n66) 12 45 n67) (u2 (u2 fa 12 39 n14) 12 40 n15) (u2 (u2 la 12 42 f44) 12 43 f45)) := hD
                  exact W.iret (v := 0) hx hb hr (fun t ht9 hW => ⟨⟨0, ((u2 (u2 iv 12 19 n41) 12 41 n16), (u2 (u2 (u2 (u2 lv 12 17 n42) 12 18 n43) 12 44 n66) 12 45 n67), (u2 (u2 fa 12 39 n14) 12 40 n15), (u2 (u2 la 12 42 f44) 12 43 f45)), rfl, ⟨n14, n15, f44, f45, n41, n16, n42, n43, n66, n67, hn14, hn15, (show inb (0, 8) n16 from ⟨by omega, by omega⟩), (show LwT (fun q v => FoY (iv 12 23).toInt (fa 12 24) (fa 12 25) (fa 12 26) (fa 12 27) (fa 12 28) q (b).toInt v) (fa 12 4) (fa 12 5) (fa 12 11) (fa 12 12) (fa 12 7) (fa 12 8) (a).toInt (b).toInt ((iv 12 3).toInt).toNat f44 f45 (n66 : Int64).toInt (n67 : Int64).toInt (0 : Int32).toInt from (by
                        have hP9 : ∀ l : Nat, l < 3 → f45 l = sY (fa 12 4) (fa 12 5) (fa 12 11) (fa 12 12) (fa 12 7) a.toInt b.toInt (l : Int) ((iv 12 3).toInt).toNat ∧ f44 l = sY (fa 12 4) (fa 12 5) (fa 12 11) (fa 12 12) (fa 12 8) a.toInt b.toInt (l : Int) ((iv 12 3).toInt).toNat := (fun l hl => by
                         rcases (by omega : l = 0 ∨ l = 1 ∨ l = 2) with rfl | rfl | rfl
                         · exact ⟨(show f45 0 = _ from yf45_0).trans sr0, (show f44 0 = _ from yf44_0).trans sd0⟩
                         · exact ⟨(show f45 1 = _ from yf45_1).trans sr1, (show f44 1 = _ from yf44_1).trans sd1⟩
                         · exact ⟨(show f45 2 = _ from yf45_2).trans sr2, (show f44 2 = _ from yf44_2).trans sd2⟩)
                        exact ⟨hP9, ⟨_, (show FoY (iv 12 23).toInt (fa 12 24) (fa 12 25) (fa 12 26) (fa 12 27) (fa 12 28) 1 b.toInt (r1 : Int32).toInt from xr1_0), Or.inl ⟨by omega, by omega⟩⟩⟩)), ⟨by decide, by decide⟩, rfl⟩, by rw [ht9]; exact hP9, hD9⟩, hS.F ht9⟩) hS.2.2 dX12_stateOf_118
              · exact absurd c61 (by decide)
        · have fc35 := z_nlt (rfl : (r29).toInt = _) (rfl : (r1).toInt = _) c35
          refine lv_iconst (v := 1) hx hb dX12_stateOf_83 (by decide) ?_
          refine lv_goto (tgt := 88) hx hb dX12_stateOf_84 (by decide) ?_
          refine vp_callSi (W.runS (As := [.int 1]) (rest := [.int 0]) ⟨hx, hb, hml, hown, ht⟩ (c_X12_bit_1 l dC dI) (kS 1 ht m_1396 m_1397 m_89 m_1398 rfl rfl hd_X12_bit_v ⟨Nat.le_of_ble_eq_true rfl, Nat.le_of_ble_eq_true rfl⟩) (sR noP (hK.sub (tys' := []) [] rfl)) rfl rfl hl.1 rfl (lv_room (Nat.le_of_ble_eq_true rfl)) dX12_stateOf_88 ⟨Nat.le_of_ble_eq_true rfl, Nat.le_of_ble_eq_true rfl⟩) (fun r69 hr69 => ?_)
          obtain rfl : 1 = r69 := hr69.symm
          refine lv_iload hx hb dX12_stateOf_91 (lv_at hl 1 rfl) ?_
          refine lv_ishl hx hb dX12_stateOf_93 ?_
          refine lv_topi (fun v70 ev70 => ?_)
          obtain rfl : 2 = v70 := (ev70.trans (by decide)).symm
          refine lv_ior hx hb dX12_stateOf_94 ?_
          refine lv_topi (fun v71 ev71 => ?_)
          obtain rfl : 2 = v71 := (ev71.trans (by decide)).symm
          refine lv_istore (lv' := [(7, .int 2), (9, .int r29), (8, .int 1), (6, .int r13), (5, .int r9), (4, .int r5), (3, .int r1), (0, .ref h), (1, .int a), (2, .int b)]) hx hb dX12_stateOf_95 hl (by decide) rfl (fun ls hl => ?_)
          refine lv_iinc (v := 2) (lv' := [(8, .int 2), (7, .int 2), (9, .int r29), (6, .int r13), (5, .int r9), (4, .int r5), (3, .int r1), (0, .ref h), (1, .int a), (2, .int b)]) hx hb dX12_stateOf_97 hl (k := 2) rfl (by decide) (by decide) rfl (fun ls hl => ?_)
          refine lv_goto (tgt := 37) hx hb dX12_stateOf_100 (by decide) ?_
          refine lv_iload hx hb dX12_stateOf_37 (lv_at hl 0 rfl) ?_
          refine lv_iconst (v := 3) hx hb dX12_stateOf_39 (by decide) ?_
          refine lv_icmp_ge (tgt := 103) hx hb dX12_stateOf_40 (by decide) (fun c72 => ?_) (fun c72 => ?_)
          · exact absurd c72 (by decide)
          · skip
            have : (-1) ≤ ((iv 12 20) : Int32).toInt ∧ ((iv 12 20) : Int32).toInt ≤ (-1) := ⟨by omega, by omega⟩
            have : (-1) ≤ ((iv 12 21) : Int32).toInt ∧ ((iv 12 21) : Int32).toInt ≤ (-1) := ⟨by omega, by omega⟩
            have : (-1) ≤ ((iv 12 22) : Int32).toInt ∧ ((iv 12 22) : Int32).toInt ≤ (-1) := ⟨by omega, by omega⟩
            refine lv_aload_n hx hb dX12_stateOf_43 rfl (lv_at hl 7 rfl) ?_
            refine lv_iload_n hx hb dX12_stateOf_44 rfl (lv_at hl 8 rfl) ?_
            refine lv_iload hx hb dX12_stateOf_45 (lv_at hl 0 rfl) ?_
            refine lv_iload_n hx hb dX12_stateOf_47 rfl (lv_at hl 9 rfl) ?_
            have hFc := free_all hD hS hA
            refine va_calli (va_runV (As := [.int a, .int 2, .int b]) (rest := []) ⟨hx, hb, hml, hown, ht⟩ (c_X12_sumUp_s l dC dI H.size h g ca (u2 (u2 iv 12 41 n16) 12 19 n30) (u2 (u2 lv 12 17 n31) 12 18 n32) (u2 (u2 fa 12 39 n14) 12 40 n15) (u2 (u2 la 12 42 f33) 12 43 f34) (IX_a (c := 12) (k := 40) (IX_a (c := 12) (k := 39) (IX_i (c := 12) (k := 19) (IX_i (c := 12) (k := 41) hI (show inb (0, 8) n16 from ⟨by omega, by omega⟩)) (full_i _)) hn14) hn15) a 2 b (show (-1) ≤ ((iv 12 20) : Int32).toInt ∧ ((iv 12 20) : Int32).toInt ≤ (-1) from ⟨by omega, by omega⟩) (show (-1) ≤ ((iv 12 21) : Int32).toInt ∧ ((iv 12 21) : Int32).toInt ≤ (-1) from ⟨by omega, by omega⟩) (show (-1) ≤ ((iv 12 22) : Int32).toInt ∧ ((iv 12 22) : Int32).toInt ≤ (-1) from ⟨by omega, by omega⟩) hJR) (kV 3 ht m_1434 m_1436 m_45 m_89 m_1437 rfl rfl hd_X12_sumUp_v ⟨Nat.le_of_ble_eq_true rfl, Nat.le_of_ble_eq_true rfl⟩) (vW hP hK hD (rM_12 hK hP)) rfl rfl hl.1 rfl (lv_room (Nat.le_of_ble_eq_true rfl)) dX12_stateOf_48 ⟨Nat.le_of_ble_eq_true rfl, Nat.le_of_ble_eq_true rfl⟩) hS (fun q _ h => hFc q h) hFc (fun r73 u t H1 locs ht9 hvm hr73 hB hz1 hk1 hS => ?_)
            obtain ⟨n74, n75, n76, xr73_0, xr73_1, xr73_2, xr73_3, xr73_4, xr73_5, xr73_6, xr73_7, xr73_8, hr73, rfl⟩ := hr73
            obtain ⟨hP, hD⟩ := hB
            rw [ht9] at hP
            generalize H1 = H at hP hS ⊢
            have hP : va_P (dC, dI) classes (WM h g ca (u2 (u2 iv 12 41 n16) 12 19 n74) (u2 (u2 lv 12 17 n75) 12 18 n76) (u2 (u2 fa 12 39 n14) 12 40 n15) (u2 (u2 la 12 42 f33) 12 43 f34)) H := hP
            have hD : va_D A (WM h g ca (u2 (u2 iv 12 41 n16) 12 19 n74) (u2 (u2 lv 12 17 n75) 12 18 n76) (u2 (u2 fa 12 39 n14) 12 40 n15) (u2 (u2 la 12 42 f33) 12 43 f34)) := (show va_D _ (WM h g ca (u2 (u2 iv 12 41 n16) 12 19 n74) (u2 (u2 lv 12 17 n75) 12 18 n76) (u2 (u2 fa 12 39 n14) 12 40 n15) (u2 (u2 la 12 42 f33) 12 43 f34)) from hD).weaken (fun _ _ _ h => hFc _ h)
            have xr73_0 : 0 ≤ (r73 : Int32).toInt := xr73_0
            have xr73_1 : (r73 : Int32).toInt ≤ 60 := xr73_1
            have xr73_2 : 0 ≤ (n76 : Int64).toInt := xr73_2
            have xr73_3 : (n76 : Int64).toInt ≤ 599940 := xr73_3
            have xr73_4 : 100 * (r73 : Int32).toInt ≤ (n76 : Int64).toInt := xr73_4
            have xr73_5 : (n75 : Int64).toInt = (smL (fun s : Nat => ((fa 12 4) s).toInt = (a : Int32).toInt ∧ ((fa 12 5) s).toInt = (2 : Int32).toInt ∧ ((fa 12 11) s).toInt ≤ (b : Int32).toInt ∧ (((fa 12 12) s).toInt < 0 ∨ (b : Int32).toInt < ((fa 12 12) s).toInt)) (fa 12 8) (((iv 12 3) : Int32).toInt).toNat).toInt := xr73_5
            have xr73_6 : (n76 : Int64).toInt = (smL (fun s : Nat => ((fa 12 4) s).toInt = (a : Int32).toInt ∧ ((fa 12 5) s).toInt = (2 : Int32).toInt ∧ ((fa 12 11) s).toInt ≤ (b : Int32).toInt ∧ (((fa 12 12) s).toInt < 0 ∨ (b : Int32).toInt < ((fa 12 12) s).toInt)) (fa 12 7) (((iv 12 3) : Int32).toInt).toNat).toInt := xr73_6
            have xr73_7 : (n74 : Int32).toInt = (smC (fun s : Nat => ((fa 12 4) s).toInt = (a : Int32).toInt ∧ ((fa 12 5) s).toInt = (2 : Int32).toInt ∧ ((fa 12 11) s).toInt ≤ (b : Int32).toInt ∧ (((fa 12 12) s).toInt < 0 ∨ (b : Int32).toInt < ((fa 12 12) s).toInt)) (((iv 12 3) : Int32).toInt).toNat).toInt := xr73_7
            have xr73_8 : (r73 : Int32).toInt = (n74 : Int32).toInt := xr73_8
            have sd2 : n75 = sY (fa 12 4) (fa 12 5) (fa 12 11) (fa 12 12) (fa 12 8) a.toInt b.toInt 2 ((iv 12 3).toInt).toNat := by have z9 := xr73_5; rw [show (2 : Int32).toInt = 2 from by decide] at z9; exact Int64.toInt_inj.mp z9
            have sr2 : n76 = sY (fa 12 4) (fa 12 5) (fa 12 11) (fa 12 12) (fa 12 7) a.toInt b.toInt 2 ((iv 12 3).toInt).toNat := by have z9 := xr73_6; rw [show (2 : Int32).toInt = 2 from by decide] at z9; exact Int64.toInt_inj.mp z9
            have sn2 : (r73 : Int32).toInt = (nY (fa 12 4) (fa 12 5) (fa 12 11) (fa 12 12) a.toInt b.toInt 2 ((iv 12 3).toInt).toNat).toInt := by have z9 := xr73_7; have z8 := xr73_8; rw [show (2 : Int32).toInt = 2 from by decide] at z9; exact z8.trans z9
            refine lv_istore (lv' := [(9, .int r73), (8, .int 2), (7, .int 2), (6, .int r13), (5, .int r9), (4, .int r5), (3, .int r1), (0, .ref h), (1, .int a), (2, .int b)]) hx hb dX12_stateOf_51 hl (by decide) rfl (fun ls hl => ?_)
            refine lv_aload_n hx hb dX12_stateOf_53 rfl (lv_at hl 7 rfl) ?_
            refine gM_12_42 hx hb ht hown hK hP m_1181 dX12_stateOf_54 ?_
            refine lv_iload hx hb dX12_stateOf_57 (lv_at hl 1 rfl) ?_
            refine lv_aload_n hx hb dX12_stateOf_59 rfl (lv_at hl 7 rfl) ?_
            refine gM_12_17 hx hb ht hown hK hP m_1156 (v := n75) rfl dX12_stateOf_60 ?_
            refine tM_12_42 hx hb hK hP hD hS (f0 := f33) rfl (i := 2) (x := n75) (vp_in_iff.mpr (by decide)) dX12_stateOf_63 (fun f77 ef77 H locs hP hD hS => ?_)
            have hP : va_P (dC, dI) classes (WM h g ca (u2 (u2 iv 12 41 n16) 12 19 n74) (u2 (u2 lv 12 17 n75) 12 18 n76) (u2 (u2 fa 12 39 n14) 12 40 n15) (u2 (u2 la 12 42 f77) 12 43 f34)) H := hP
            have hD : va_D A (WM h g ca (u2 (u2 iv 12 41 n16) 12 19 n74) (u2 (u2 lv 12 17 n75) 12 18 n76) (u2 (u2 fa 12 39 n14) 12 40 n15) (u2 (u2 la 12 42 f77) 12 43 f34)) := hD
            have yf77_0 : f77 (0 : Int32).toNatClampNeg = n20 := by rw [ef77]; exact (updL_ne (by decide)).trans yf33_0
            have yf77_1 : f77 (1 : Int32).toNatClampNeg = n31 := by rw [ef77]; exact (updL_ne (by decide)).trans yf33_1
            have yf77_2 : f77 (2 : Int32).toNatClampNeg = n75 := by rw [ef77]; exact updL_eq
            refine lv_aload_n hx hb dX12_stateOf_64 rfl (lv_at hl 7 rfl) ?_
            refine gM_12_43 hx hb ht hown hK hP m_1182 dX12_stateOf_65 ?_
            refine lv_iload hx hb dX12_stateOf_68 (lv_at hl 1 rfl) ?_
            refine lv_aload_n hx hb dX12_stateOf_70 rfl (lv_at hl 7 rfl) ?_
            refine gM_12_18 hx hb ht hown hK hP m_1157 (v := n76) rfl dX12_stateOf_71 ?_
            refine tM_12_43 hx hb hK hP hD hS (f0 := f34) rfl (i := 2) (x := n76) (vp_in_iff.mpr (by decide)) dX12_stateOf_74 (fun f78 ef78 H locs hP hD hS => ?_)
            have hP : va_P (dC, dI) classes (WM h g ca (u2 (u2 iv 12 41 n16) 12 19 n74) (u2 (u2 lv 12 17 n75) 12 18 n76) (u2 (u2 fa 12 39 n14) 12 40 n15) (u2 (u2 la 12 42 f77) 12 43 f78)) H := hP
            have hD : va_D A (WM h g ca (u2 (u2 iv 12 41 n16) 12 19 n74) (u2 (u2 lv 12 17 n75) 12 18 n76) (u2 (u2 fa 12 39 n14) 12 40 n15) (u2 (u2 la 12 42 f77) 12 43 f78)) := hD
            have yf78_0 : f78 (0 : Int32).toNatClampNeg = n21 := by rw [ef78]; exact (updL_ne (by decide)).trans yf34_0
            have yf78_1 : f78 (1 : Int32).toNatClampNeg = n32 := by rw [ef78]; exact (updL_ne (by decide)).trans yf34_1
            have yf78_2 : f78 (2 : Int32).toNatClampNeg = n76 := by rw [ef78]; exact updL_eq
            refine lv_iload hx hb dX12_stateOf_75 (lv_at hl 2 rfl) ?_
            refine lv_iload hx hb dX12_stateOf_77 (lv_at hl 0 rfl) ?_
            refine lv_iload_n hx hb dX12_stateOf_79 rfl (lv_at hl 6 rfl) ?_
            refine lv_icmp_lt (tgt := 87) hx hb dX12_stateOf_80 (by decide) (fun c79 => ?_) (fun c79 => ?_)
            · have fc79 := z_lt (rfl : (r73).toInt = _) (rfl : (r1).toInt = _) c79
              refine lv_iconst (v := 0) hx hb dX12_stateOf_87 (by decide) ?_
              refine vp_callSi (W.runS (As := [.int 0]) (rest := [.int 2]) ⟨hx, hb, hml, hown, ht⟩ (c_X12_bit_0 l dC dI) (kS 1 ht m_1396 m_1397 m_89 m_1398 rfl rfl hd_X12_bit_v ⟨Nat.le_of_ble_eq_true rfl, Nat.le_of_ble_eq_true rfl⟩) (sR noP (hK.sub (tys' := []) [] rfl)) rfl rfl hl.1 rfl (lv_room (Nat.le_of_ble_eq_true rfl)) dX12_stateOf_88 ⟨Nat.le_of_ble_eq_true rfl, Nat.le_of_ble_eq_true rfl⟩) (fun r80 hr80 => ?_)
              obtain rfl : 0 = r80 := hr80.symm
              refine lv_iload hx hb dX12_stateOf_91 (lv_at hl 1 rfl) ?_
              refine lv_ishl hx hb dX12_stateOf_93 ?_
              refine lv_topi (fun v81 ev81 => ?_)
              obtain rfl : 0 = v81 := (ev81.trans (by decide)).symm
              refine lv_ior hx hb dX12_stateOf_94 ?_
              refine lv_topi (fun v82 ev82 => ?_)
              obtain rfl : 2 = v82 := (ev82.trans (by decide)).symm
              refine lv_istore (lv' := [(7, .int 2), (9, .int r73), (8, .int 2), (6, .int r13), (5, .int r9), (4, .int r5), (3, .int r1), (0, .ref h), (1, .int a), (2, .int b)]) hx hb dX12_stateOf_95 hl (by decide) rfl (fun ls hl => ?_)
              refine lv_iinc (v := 3) (lv' := [(8, .int 3), (7, .int 2), (9, .int r73), (6, .int r13), (5, .int r9), (4, .int r5), (3, .int r1), (0, .ref h), (1, .int a), (2, .int b)]) hx hb dX12_stateOf_97 hl (k := 2) rfl (by decide) (by decide) rfl (fun ls hl => ?_)
              refine lv_goto (tgt := 37) hx hb dX12_stateOf_100 (by decide) ?_
              refine lv_iload hx hb dX12_stateOf_37 (lv_at hl 0 rfl) ?_
              refine lv_iconst (v := 3) hx hb dX12_stateOf_39 (by decide) ?_
              refine lv_icmp_ge (tgt := 103) hx hb dX12_stateOf_40 (by decide) (fun c83 => ?_) (fun c83 => ?_)
              · skip
                refine lv_iload hx hb dX12_stateOf_103 (lv_at hl 5 rfl) ?_
                refine lv_iconst (v := 1) hx hb dX12_stateOf_105 (by decide) ?_
                refine lv_icmp_ne (tgt := 119) hx hb dX12_stateOf_106 (by decide) (fun c84 => ?_) (fun c84 => ?_)
                · have fc84 := z_ne (rfl : (r5).toInt = _) (by decide : (1 : Int32).toInt = 1) c84
                  refine lv_iload hx hb dX12_stateOf_119 (lv_at hl 1 rfl) ?_
                  refine lv_iconst (v := 3) hx hb dX12_stateOf_121 (by decide) ?_
                  refine lv_iand hx hb dX12_stateOf_122 ?_
                  refine lv_topi (fun v85 ev85 => ?_)
                  obtain rfl : 2 = v85 := (ev85.trans (by decide)).symm
                  refine lv_iconst (v := 3) hx hb dX12_stateOf_123 (by decide) ?_
                  refine lv_icmp_eq (tgt := 129) hx hb dX12_stateOf_124 (by decide) (fun c86 => ?_) (fun c86 => ?_)
                  · exact absurd c86 (by decide)
                  · skip
                    refine lv_iconst (v := 0) hx hb dX12_stateOf_127 (by decide) ?_
                    have hP9 : va_P (dC, dI) classes (WM h g ca (u2 (u2 iv 12 19 n74) 12 41 n16) (u2 (u2 (u2 (u2 lv 12 17 n75) 12 18 n76) 12 44 (lv 12 44)) 12 45 (lv 12 45)) (u2 (u2 fa 12 39 n14) 12 40 n15) (u2 (u2 la 12 42 f77) 12 43 f78)) H := hP
                    have hD9 : va_D A (WM h g ca (u2 (u2 iv 12 19 n74) 12 41 n16) (u2 (u2 (u2 (u2 lv 12 17 n75) 12 18 n76) 12 44 (lv 12 44)) 12 45 (lv 12 45)) (u2 (u2 fa 12 39 n14) 12 40 n15) (u2 (u2 la 12 42 f77) 12 43 f78)) := hD
                    exact W.iret (v := 0) hx hb hr (fun t ht9 hW => ⟨⟨0, ((u2 (u2 iv 12 19 n74) 12 41 n16), (u2 (u2 (u2 (u2 lv 12 17 n75) 12 18 n76) 12 44 (lv 12 44)) 12 45 (lv 12 45)), (u2 (u2 fa 12 39 n14) 12 40 n15), (u2 (u2 la 12 42 f77) 12 43 f78)), rfl, ⟨n14, n15, f77, f78, n74, n16, n75, n76, (lv 12 44), (lv 12 45), hn14, hn15, (show inb (0, 8) n16 from ⟨by omega, by omega⟩), (show LwT (fun q v => FoY (iv 12 23).toInt (fa 12 24) (fa 12 25) (fa 12 26) (fa 12 27) (fa 12 28) q (b).toInt v) (fa 12 4) (fa 12 5) (fa 12 11) (fa 12 12) (fa 12 7) (fa 12 8) (a).toInt (b).toInt ((iv 12 3).toInt).toNat f77 f78 ((lv 12 44) : Int64).toInt ((lv 12 45) : Int64).toInt (0 : Int32).toInt from (by
                          have hP9 : ∀ l : Nat, l < 3 → f78 l = sY (fa 12 4) (fa 12 5) (fa 12 11) (fa 12 12) (fa 12 7) a.toInt b.toInt (l : Int) ((iv 12 3).toInt).toNat ∧ f77 l = sY (fa 12 4) (fa 12 5) (fa 12 11) (fa 12 12) (fa 12 8) a.toInt b.toInt (l : Int) ((iv 12 3).toInt).toNat := (fun l hl => by
                           rcases (by omega : l = 0 ∨ l = 1 ∨ l = 2) with rfl | rfl | rfl
                           · exact ⟨(show f78 0 = _ from yf78_0).trans sr0, (show f77 0 = _ from yf77_0).trans sd0⟩
                           · exact ⟨(show f78 1 = _ from yf78_1).trans sr1, (show f77 1 = _ from yf77_1).trans sd1⟩
                           · exact ⟨(show f78 2 = _ from yf78_2).trans sr2, (show f77 2 = _ from yf77_2).trans sd2⟩)
                          exact ⟨hP9, ⟨_, (show FoY (iv 12 23).toInt (fa 12 24) (fa 12 25) (fa 12 26) (fa 12 27) (fa 12 28) 1 b.toInt (r1 : Int32).toInt from xr1_0), Or.inl ⟨by omega, by omega⟩⟩⟩)), ⟨by decide, by decide⟩, rfl⟩, by rw [ht9]; exact hP9, hD9⟩, hS.F ht9⟩) hS.2.2 dX12_stateOf_128
                · have fc84 := z_eq (rfl : (r5).toInt = _) (by decide : (1 : Int32).toInt = 1) c84
                  refine lv_aload_n hx hb dX12_stateOf_109 rfl (lv_at hl 7 rfl) ?_
                  refine lv_iconst (v := 0) hx hb dX12_stateOf_110 (by decide) ?_
                  have hFc := free_all hD hS hA
                  refine va_callv (va_runV (As := [.int 0]) (rest := []) ⟨hx, hb, hml, hown, ht⟩ (c_X12_only_w0 l dC dI H.size h g ca (u2 (u2 iv 12 41 n16) 12 19 n74) (u2 (u2 lv 12 17 n75) 12 18 n76) (u2 (u2 fa 12 39 n14) 12 40 n15) (u2 (u2 la 12 42 f77) 12 43 f78) (IX_a (c := 12) (k := 40) (IX_a (c := 12) (k := 39) (IX_i (c := 12) (k := 19) (IX_i (c := 12) (k := 41) hI (show inb (0, 8) n16 from ⟨by omega, by omega⟩)) (full_i _)) hn14) hn15)) (kV 1 ht m_1536 m_1538 m_59 m_89 m_1539 rfl rfl hd_X12_only_v ⟨Nat.le_of_ble_eq_true rfl, Nat.le_of_ble_eq_true rfl⟩) (vW hP hK hD (rM_12 hK hP)) rfl rfl hl.1 rfl (lv_room (Nat.le_of_ble_eq_true rfl)) dX12_stateOf_111 ⟨Nat.le_of_ble_eq_true rfl, Nat.le_of_ble_eq_true rfl⟩) hS (fun q _ h => hFc q h) hFc (fun u t H1 locs ht9 hvm hr87 hB hz1 hk1 hS => ?_)
                  obtain ⟨n88, n89, xr87_0, xr87_1, rfl⟩ := hr87
                  obtain ⟨hP, hD⟩ := hB
                  rw [ht9] at hP
                  generalize H1 = H at hP hS ⊢
                  have hP : va_P (dC, dI) classes (WM h g ca (u2 (u2 iv 12 41 n16) 12 19 n74) (u2 (u2 (u2 (u2 lv 12 17 n75) 12 18 n76) 12 44 n88) 12 45 n89) (u2 (u2 fa 12 39 n14) 12 40 n15) (u2 (u2 la 12 42 f77) 12 43 f78)) H := hP
                  have hD : va_D A (WM h g ca (u2 (u2 iv 12 41 n16) 12 19 n74) (u2 (u2 (u2 (u2 lv 12 17 n75) 12 18 n76) 12 44 n88) 12 45 n89) (u2 (u2 fa 12 39 n14) 12 40 n15) (u2 (u2 la 12 42 f77) 12 43 f78)) := (show va_D _ (WM h g ca (u2 (u2 iv 12 41 n16) 12 19 n74) (u2 (u2 (u2 (u2 lv 12 17 n75) 12 18 n76) 12 44 n88) 12 45 n89) (u2 (u2 fa 12 39 n14) 12 40 n15) (u2 (u2 la 12 42 f77) 12 43 f78)) from hD).weaken (fun _ _ _ h => hFc _ h)
                  have xr87_0 : (n88 : Int64).toInt = (f77 0).toInt := xr87_0
                  have xr87_1 : (n89 : Int64).toInt = (f78 0).toInt := xr87_1
                  refine lv_iload hx hb dX12_stateOf_114 (lv_at hl 1 rfl) ?_
                  refine lv_iconst (v := 1) hx hb dX12_stateOf_116 (by decide) ?_
                  refine lv_iand hx hb dX12_stateOf_117 ?_
                  refine lv_topi (fun v90 ev90 => ?_)
                  obtain rfl : 0 = v90 := (ev90.trans (by decide)).symm
                  have hP9 : va_P (dC, dI) classes (WM h g ca (u2 (u2 iv 12 19 n74) 12 41 n16) (u2 (u2 (u2 (u2 lv 12 17 n75) 12 18 n76) 12 44 n88) 12 45 n89) (u2 (u2 fa 12 39 n14) 12 40 n15) (u2 (u2 la 12 42 f77) 12 43 f78)) H := hP
                  have hD9 : va_D A (WM h g ca (u2 (u2 iv 12 19 n74) 12 41 n16) (u2 (u2 (u2 (u2 lv 12 17 n75) 12 18 n76) 12 44 n88) 12 45 n89) (u2 (u2 fa 12 39 n14) 12 40 n15) (u2 (u2 la 12 42 f77) 12 43 f78)) := hD
                  exact W.iret (v := 0) hx hb hr (fun t ht9 hW => ⟨⟨0, ((u2 (u2 iv 12 19 n74) 12 41 n16), (u2 (u2 (u2 (u2 lv 12 17 n75) 12 18 n76) 12 44 n88) 12 45 n89), (u2 (u2 fa 12 39 n14) 12 40 n15), (u2 (u2 la 12 42 f77) 12 43 f78)), rfl, ⟨n14, n15, f77, f78, n74, n16, n75, n76, n88, n89, hn14, hn15, (show inb (0, 8) n16 from ⟨by omega, by omega⟩), (show LwT (fun q v => FoY (iv 12 23).toInt (fa 12 24) (fa 12 25) (fa 12 26) (fa 12 27) (fa 12 28) q (b).toInt v) (fa 12 4) (fa 12 5) (fa 12 11) (fa 12 12) (fa 12 7) (fa 12 8) (a).toInt (b).toInt ((iv 12 3).toInt).toNat f77 f78 (n88 : Int64).toInt (n89 : Int64).toInt (0 : Int32).toInt from (by
                        have hP9 : ∀ l : Nat, l < 3 → f78 l = sY (fa 12 4) (fa 12 5) (fa 12 11) (fa 12 12) (fa 12 7) a.toInt b.toInt (l : Int) ((iv 12 3).toInt).toNat ∧ f77 l = sY (fa 12 4) (fa 12 5) (fa 12 11) (fa 12 12) (fa 12 8) a.toInt b.toInt (l : Int) ((iv 12 3).toInt).toNat := (fun l hl => by
                         rcases (by omega : l = 0 ∨ l = 1 ∨ l = 2) with rfl | rfl | rfl
                         · exact ⟨(show f78 0 = _ from yf78_0).trans sr0, (show f77 0 = _ from yf77_0).trans sd0⟩
                         · exact ⟨(show f78 1 = _ from yf78_1).trans sr1, (show f77 1 = _ from yf77_1).trans sd1⟩
                         · exact ⟨(show f78 2 = _ from yf78_2).trans sr2, (show f77 2 = _ from yf77_2).trans sd2⟩)
                        exact ⟨hP9, ⟨_, (show FoY (iv 12 23).toInt (fa 12 24) (fa 12 25) (fa 12 26) (fa 12 27) (fa 12 28) 1 b.toInt (r1 : Int32).toInt from xr1_0), Or.inl ⟨by omega, by omega⟩⟩⟩)), ⟨by decide, by decide⟩, rfl⟩, by rw [ht9]; exact hP9, hD9⟩, hS.F ht9⟩) hS.2.2 dX12_stateOf_118
              · exact absurd c83 (by decide)
            · have fc79 := z_nlt (rfl : (r73).toInt = _) (rfl : (r1).toInt = _) c79
              refine lv_iconst (v := 1) hx hb dX12_stateOf_83 (by decide) ?_
              refine lv_goto (tgt := 88) hx hb dX12_stateOf_84 (by decide) ?_
              refine vp_callSi (W.runS (As := [.int 1]) (rest := [.int 2]) ⟨hx, hb, hml, hown, ht⟩ (c_X12_bit_1 l dC dI) (kS 1 ht m_1396 m_1397 m_89 m_1398 rfl rfl hd_X12_bit_v ⟨Nat.le_of_ble_eq_true rfl, Nat.le_of_ble_eq_true rfl⟩) (sR noP (hK.sub (tys' := []) [] rfl)) rfl rfl hl.1 rfl (lv_room (Nat.le_of_ble_eq_true rfl)) dX12_stateOf_88 ⟨Nat.le_of_ble_eq_true rfl, Nat.le_of_ble_eq_true rfl⟩) (fun r91 hr91 => ?_)
              obtain rfl : 1 = r91 := hr91.symm
              refine lv_iload hx hb dX12_stateOf_91 (lv_at hl 1 rfl) ?_
              refine lv_ishl hx hb dX12_stateOf_93 ?_
              refine lv_topi (fun v92 ev92 => ?_)
              obtain rfl : 4 = v92 := (ev92.trans (by decide)).symm
              refine lv_ior hx hb dX12_stateOf_94 ?_
              refine lv_topi (fun v93 ev93 => ?_)
              obtain rfl : 6 = v93 := (ev93.trans (by decide)).symm
              refine lv_istore (lv' := [(7, .int 6), (9, .int r73), (8, .int 2), (6, .int r13), (5, .int r9), (4, .int r5), (3, .int r1), (0, .ref h), (1, .int a), (2, .int b)]) hx hb dX12_stateOf_95 hl (by decide) rfl (fun ls hl => ?_)
              refine lv_iinc (v := 3) (lv' := [(8, .int 3), (7, .int 6), (9, .int r73), (6, .int r13), (5, .int r9), (4, .int r5), (3, .int r1), (0, .ref h), (1, .int a), (2, .int b)]) hx hb dX12_stateOf_97 hl (k := 2) rfl (by decide) (by decide) rfl (fun ls hl => ?_)
              refine lv_goto (tgt := 37) hx hb dX12_stateOf_100 (by decide) ?_
              refine lv_iload hx hb dX12_stateOf_37 (lv_at hl 0 rfl) ?_
              refine lv_iconst (v := 3) hx hb dX12_stateOf_39 (by decide) ?_
              refine lv_icmp_ge (tgt := 103) hx hb dX12_stateOf_40 (by decide) (fun c94 => ?_) (fun c94 => ?_)
              · skip
                refine lv_iload hx hb dX12_stateOf_103 (lv_at hl 5 rfl) ?_
                refine lv_iconst (v := 1) hx hb dX12_stateOf_105 (by decide) ?_
                refine lv_icmp_ne (tgt := 119) hx hb dX12_stateOf_106 (by decide) (fun c95 => ?_) (fun c95 => ?_)
                · have fc95 := z_ne (rfl : (r5).toInt = _) (by decide : (1 : Int32).toInt = 1) c95
                  refine lv_iload hx hb dX12_stateOf_119 (lv_at hl 1 rfl) ?_
                  refine lv_iconst (v := 3) hx hb dX12_stateOf_121 (by decide) ?_
                  refine lv_iand hx hb dX12_stateOf_122 ?_
                  refine lv_topi (fun v96 ev96 => ?_)
                  obtain rfl : 2 = v96 := (ev96.trans (by decide)).symm
                  refine lv_iconst (v := 3) hx hb dX12_stateOf_123 (by decide) ?_
                  refine lv_icmp_eq (tgt := 129) hx hb dX12_stateOf_124 (by decide) (fun c97 => ?_) (fun c97 => ?_)
                  · exact absurd c97 (by decide)
                  · skip
                    refine lv_iconst (v := 0) hx hb dX12_stateOf_127 (by decide) ?_
                    have hP9 : va_P (dC, dI) classes (WM h g ca (u2 (u2 iv 12 19 n74) 12 41 n16) (u2 (u2 (u2 (u2 lv 12 17 n75) 12 18 n76) 12 44 (lv 12 44)) 12 45 (lv 12 45)) (u2 (u2 fa 12 39 n14) 12 40 n15) (u2 (u2 la 12 42 f77) 12 43 f78)) H := hP
                    have hD9 : va_D A (WM h g ca (u2 (u2 iv 12 19 n74) 12 41 n16) (u2 (u2 (u2 (u2 lv 12 17 n75) 12 18 n76) 12 44 (lv 12 44)) 12 45 (lv 12 45)) (u2 (u2 fa 12 39 n14) 12 40 n15) (u2 (u2 la 12 42 f77) 12 43 f78)) := hD
                    exact W.iret (v := 0) hx hb hr (fun t ht9 hW => ⟨⟨0, ((u2 (u2 iv 12 19 n74) 12 41 n16), (u2 (u2 (u2 (u2 lv 12 17 n75) 12 18 n76) 12 44 (lv 12 44)) 12 45 (lv 12 45)), (u2 (u2 fa 12 39 n14) 12 40 n15), (u2 (u2 la 12 42 f77) 12 43 f78)), rfl, ⟨n14, n15, f77, f78, n74, n16, n75, n76, (lv 12 44), (lv 12 45), hn14, hn15, (show inb (0, 8) n16 from ⟨by omega, by omega⟩), (show LwT (fun q v => FoY (iv 12 23).toInt (fa 12 24) (fa 12 25) (fa 12 26) (fa 12 27) (fa 12 28) q (b).toInt v) (fa 12 4) (fa 12 5) (fa 12 11) (fa 12 12) (fa 12 7) (fa 12 8) (a).toInt (b).toInt ((iv 12 3).toInt).toNat f77 f78 ((lv 12 44) : Int64).toInt ((lv 12 45) : Int64).toInt (0 : Int32).toInt from (by
                          have hP9 : ∀ l : Nat, l < 3 → f78 l = sY (fa 12 4) (fa 12 5) (fa 12 11) (fa 12 12) (fa 12 7) a.toInt b.toInt (l : Int) ((iv 12 3).toInt).toNat ∧ f77 l = sY (fa 12 4) (fa 12 5) (fa 12 11) (fa 12 12) (fa 12 8) a.toInt b.toInt (l : Int) ((iv 12 3).toInt).toNat := (fun l hl => by
                           rcases (by omega : l = 0 ∨ l = 1 ∨ l = 2) with rfl | rfl | rfl
                           · exact ⟨(show f78 0 = _ from yf78_0).trans sr0, (show f77 0 = _ from yf77_0).trans sd0⟩
                           · exact ⟨(show f78 1 = _ from yf78_1).trans sr1, (show f77 1 = _ from yf77_1).trans sd1⟩
                           · exact ⟨(show f78 2 = _ from yf78_2).trans sr2, (show f77 2 = _ from yf77_2).trans sd2⟩)
                          exact ⟨hP9, ⟨_, (show FoY (iv 12 23).toInt (fa 12 24) (fa 12 25) (fa 12 26) (fa 12 27) (fa 12 28) 1 b.toInt (r1 : Int32).toInt from xr1_0), Or.inl ⟨by omega, by omega⟩⟩⟩)), ⟨by decide, by decide⟩, rfl⟩, by rw [ht9]; exact hP9, hD9⟩, hS.F ht9⟩) hS.2.2 dX12_stateOf_128
                · have fc95 := z_eq (rfl : (r5).toInt = _) (by decide : (1 : Int32).toInt = 1) c95
                  refine lv_aload_n hx hb dX12_stateOf_109 rfl (lv_at hl 7 rfl) ?_
                  refine lv_iconst (v := 0) hx hb dX12_stateOf_110 (by decide) ?_
                  have hFc := free_all hD hS hA
                  refine va_callv (va_runV (As := [.int 0]) (rest := []) ⟨hx, hb, hml, hown, ht⟩ (c_X12_only_w0 l dC dI H.size h g ca (u2 (u2 iv 12 41 n16) 12 19 n74) (u2 (u2 lv 12 17 n75) 12 18 n76) (u2 (u2 fa 12 39 n14) 12 40 n15) (u2 (u2 la 12 42 f77) 12 43 f78) (IX_a (c := 12) (k := 40) (IX_a (c := 12) (k := 39) (IX_i (c := 12) (k := 19) (IX_i (c := 12) (k := 41) hI (show inb (0, 8) n16 from ⟨by omega, by omega⟩)) (full_i _)) hn14) hn15)) (kV 1 ht m_1536 m_1538 m_59 m_89 m_1539 rfl rfl hd_X12_only_v ⟨Nat.le_of_ble_eq_true rfl, Nat.le_of_ble_eq_true rfl⟩) (vW hP hK hD (rM_12 hK hP)) rfl rfl hl.1 rfl (lv_room (Nat.le_of_ble_eq_true rfl)) dX12_stateOf_111 ⟨Nat.le_of_ble_eq_true rfl, Nat.le_of_ble_eq_true rfl⟩) hS (fun q _ h => hFc q h) hFc (fun u t H1 locs ht9 hvm hr98 hB hz1 hk1 hS => ?_)
                  obtain ⟨n99, n100, xr98_0, xr98_1, rfl⟩ := hr98
                  obtain ⟨hP, hD⟩ := hB
                  rw [ht9] at hP
                  generalize H1 = H at hP hS ⊢
                  have hP : va_P (dC, dI) classes (WM h g ca (u2 (u2 iv 12 41 n16) 12 19 n74) (u2 (u2 (u2 (u2 lv 12 17 n75) 12 18 n76) 12 44 n99) 12 45 n100) (u2 (u2 fa 12 39 n14) 12 40 n15) (u2 (u2 la 12 42 f77) 12 43 f78)) H := hP
                  have hD : va_D A (WM h g ca (u2 (u2 iv 12 41 n16) 12 19 n74) (u2 (u2 (u2 (u2 lv 12 17 n75) 12 18 n76) 12 44 n99) 12 45 n100) (u2 (u2 fa 12 39 n14) 12 40 n15) (u2 (u2 la 12 42 f77) 12 43 f78)) := (show va_D _ (WM h g ca (u2 (u2 iv 12 41 n16) 12 19 n74) (u2 (u2 (u2 (u2 lv 12 17 n75) 12 18 n76) 12 44 n99) 12 45 n100) (u2 (u2 fa 12 39 n14) 12 40 n15) (u2 (u2 la 12 42 f77) 12 43 f78)) from hD).weaken (fun _ _ _ h => hFc _ h)
                  have xr98_0 : (n99 : Int64).toInt = (f77 0).toInt := xr98_0
                  have xr98_1 : (n100 : Int64).toInt = (f78 0).toInt := xr98_1
                  refine lv_iload hx hb dX12_stateOf_114 (lv_at hl 1 rfl) ?_
                  refine lv_iconst (v := 1) hx hb dX12_stateOf_116 (by decide) ?_
                  refine lv_iand hx hb dX12_stateOf_117 ?_
                  refine lv_topi (fun v101 ev101 => ?_)
                  obtain rfl : 0 = v101 := (ev101.trans (by decide)).symm
                  have hP9 : va_P (dC, dI) classes (WM h g ca (u2 (u2 iv 12 19 n74) 12 41 n16) (u2 (u2 (u2 (u2 lv 12 17 n75) 12 18 n76) 12 44 n99) 12 45 n100) (u2 (u2 fa 12 39 n14) 12 40 n15) (u2 (u2 la 12 42 f77) 12 43 f78)) H := hP
                  have hD9 : va_D A (WM h g ca (u2 (u2 iv 12 19 n74) 12 41 n16) (u2 (u2 (u2 (u2 lv 12 17 n75) 12 18 n76) 12 44 n99) 12 45 n100) (u2 (u2 fa 12 39 n14) 12 40 n15) (u2 (u2 la 12 42 f77) 12 43 f78)) := hD
                  exact W.iret (v := 0) hx hb hr (fun t ht9 hW => ⟨⟨0, ((u2 (u2 iv 12 19 n74) 12 41 n16), (u2 (u2 (u2 (u2 lv 12 17 n75) 12 18 n76) 12 44 n99) 12 45 n100), (u2 (u2 fa 12 39 n14) 12 40 n15), (u2 (u2 la 12 42 f77) 12 43 f78)), rfl, ⟨n14, n15, f77, f78, n74, n16, n75, n76, n99, n100, hn14, hn15, (show inb (0, 8) n16 from ⟨by omega, by omega⟩), (show LwT (fun q v => FoY (iv 12 23).toInt (fa 12 24) (fa 12 25) (fa 12 26) (fa 12 27) (fa 12 28) q (b).toInt v) (fa 12 4) (fa 12 5) (fa 12 11) (fa 12 12) (fa 12 7) (fa 12 8) (a).toInt (b).toInt ((iv 12 3).toInt).toNat f77 f78 (n99 : Int64).toInt (n100 : Int64).toInt (0 : Int32).toInt from (by
                        have hP9 : ∀ l : Nat, l < 3 → f78 l = sY (fa 12 4) (fa 12 5) (fa 12 11) (fa 12 12) (fa 12 7) a.toInt b.toInt (l : Int) ((iv 12 3).toInt).toNat ∧ f77 l = sY (fa 12 4) (fa 12 5) (fa 12 11) (fa 12 12) (fa 12 8) a.toInt b.toInt (l : Int) ((iv 12 3).toInt).toNat := (fun l hl => by
                         rcases (by omega : l = 0 ∨ l = 1 ∨ l = 2) with rfl | rfl | rfl
                         · exact ⟨(show f78 0 = _ from yf78_0).trans sr0, (show f77 0 = _ from yf77_0).trans sd0⟩
                         · exact ⟨(show f78 1 = _ from yf78_1).trans sr1, (show f77 1 = _ from yf77_1).trans sd1⟩
                         · exact ⟨(show f78 2 = _ from yf78_2).trans sr2, (show f77 2 = _ from yf77_2).trans sd2⟩)
                        exact ⟨hP9, ⟨_, (show FoY (iv 12 23).toInt (fa 12 24) (fa 12 25) (fa 12 26) (fa 12 27) (fa 12 28) 1 b.toInt (r1 : Int32).toInt from xr1_0), Or.inl ⟨by omega, by omega⟩⟩⟩)), ⟨by decide, by decide⟩, rfl⟩, by rw [ht9]; exact hP9, hD9⟩, hS.F ht9⟩) hS.2.2 dX12_stateOf_118
              · exact absurd c94 (by decide)
    · have fc24 := z_nlt (rfl : (r18).toInt = _) (rfl : (r1).toInt = _) c24
      refine lv_iconst (v := 1) hx hb dX12_stateOf_83 (by decide) ?_
      refine lv_goto (tgt := 88) hx hb dX12_stateOf_84 (by decide) ?_
      refine vp_callSi (W.runS (As := [.int 1]) (rest := [.int 0]) ⟨hx, hb, hml, hown, ht⟩ (c_X12_bit_1 l dC dI) (kS 1 ht m_1396 m_1397 m_89 m_1398 rfl rfl hd_X12_bit_v ⟨Nat.le_of_ble_eq_true rfl, Nat.le_of_ble_eq_true rfl⟩) (sR noP (hK.sub (tys' := []) [] rfl)) rfl rfl hl.1 rfl (lv_room (Nat.le_of_ble_eq_true rfl)) dX12_stateOf_88 ⟨Nat.le_of_ble_eq_true rfl, Nat.le_of_ble_eq_true rfl⟩) (fun r102 hr102 => ?_)
      obtain rfl : 1 = r102 := hr102.symm
      refine lv_iload hx hb dX12_stateOf_91 (lv_at hl 1 rfl) ?_
      refine lv_ishl hx hb dX12_stateOf_93 ?_
      refine lv_topi (fun v103 ev103 => ?_)
      obtain rfl : 1 = v103 := (ev103.trans (by decide)).symm
      refine lv_ior hx hb dX12_stateOf_94 ?_
      refine lv_topi (fun v104 ev104 => ?_)
      obtain rfl : 1 = v104 := (ev104.trans (by decide)).symm
      refine lv_istore (lv' := [(7, .int 1), (9, .int r18), (8, .int 0), (6, .int r13), (5, .int r9), (4, .int r5), (3, .int r1), (0, .ref h), (1, .int a), (2, .int b)]) hx hb dX12_stateOf_95 hl (by decide) rfl (fun ls hl => ?_)
      refine lv_iinc (v := 1) (lv' := [(8, .int 1), (7, .int 1), (9, .int r18), (6, .int r13), (5, .int r9), (4, .int r5), (3, .int r1), (0, .ref h), (1, .int a), (2, .int b)]) hx hb dX12_stateOf_97 hl (k := 2) rfl (by decide) (by decide) rfl (fun ls hl => ?_)
      refine lv_goto (tgt := 37) hx hb dX12_stateOf_100 (by decide) ?_
      refine lv_iload hx hb dX12_stateOf_37 (lv_at hl 0 rfl) ?_
      refine lv_iconst (v := 3) hx hb dX12_stateOf_39 (by decide) ?_
      refine lv_icmp_ge (tgt := 103) hx hb dX12_stateOf_40 (by decide) (fun c105 => ?_) (fun c105 => ?_)
      · exact absurd c105 (by decide)
      · skip
        have : (-1) ≤ ((iv 12 20) : Int32).toInt ∧ ((iv 12 20) : Int32).toInt ≤ (-1) := ⟨by omega, by omega⟩
        have : (-1) ≤ ((iv 12 21) : Int32).toInt ∧ ((iv 12 21) : Int32).toInt ≤ (-1) := ⟨by omega, by omega⟩
        have : (-1) ≤ ((iv 12 22) : Int32).toInt ∧ ((iv 12 22) : Int32).toInt ≤ (-1) := ⟨by omega, by omega⟩
        refine lv_aload_n hx hb dX12_stateOf_43 rfl (lv_at hl 7 rfl) ?_
        refine lv_iload_n hx hb dX12_stateOf_44 rfl (lv_at hl 8 rfl) ?_
        refine lv_iload hx hb dX12_stateOf_45 (lv_at hl 0 rfl) ?_
        refine lv_iload_n hx hb dX12_stateOf_47 rfl (lv_at hl 9 rfl) ?_
        have hFc := free_all hD hS hA
        refine va_calli (va_runV (As := [.int a, .int 1, .int b]) (rest := []) ⟨hx, hb, hml, hown, ht⟩ (c_X12_sumUp_s l dC dI H.size h g ca (u2 (u2 iv 12 41 n16) 12 19 n19) (u2 (u2 lv 12 17 n20) 12 18 n21) (u2 (u2 fa 12 39 n14) 12 40 n15) (u2 (u2 la 12 42 f22) 12 43 f23) (IX_a (c := 12) (k := 40) (IX_a (c := 12) (k := 39) (IX_i (c := 12) (k := 19) (IX_i (c := 12) (k := 41) hI (show inb (0, 8) n16 from ⟨by omega, by omega⟩)) (full_i _)) hn14) hn15) a 1 b (show (-1) ≤ ((iv 12 20) : Int32).toInt ∧ ((iv 12 20) : Int32).toInt ≤ (-1) from ⟨by omega, by omega⟩) (show (-1) ≤ ((iv 12 21) : Int32).toInt ∧ ((iv 12 21) : Int32).toInt ≤ (-1) from ⟨by omega, by omega⟩) (show (-1) ≤ ((iv 12 22) : Int32).toInt ∧ ((iv 12 22) : Int32).toInt ≤ (-1) from ⟨by omega, by omega⟩) hJR) (kV 3 ht m_1434 m_1436 m_45 m_89 m_1437 rfl rfl hd_X12_sumUp_v ⟨Nat.le_of_ble_eq_true rfl, Nat.le_of_ble_eq_true rfl⟩) (vW hP hK hD (rM_12 hK hP)) rfl rfl hl.1 rfl (lv_room (Nat.le_of_ble_eq_true rfl)) dX12_stateOf_48 ⟨Nat.le_of_ble_eq_true rfl, Nat.le_of_ble_eq_true rfl⟩) hS (fun q _ h => hFc q h) hFc (fun r106 u t H1 locs ht9 hvm hr106 hB hz1 hk1 hS => ?_)
        obtain ⟨n107, n108, n109, xr106_0, xr106_1, xr106_2, xr106_3, xr106_4, xr106_5, xr106_6, xr106_7, xr106_8, hr106, rfl⟩ := hr106
        obtain ⟨hP, hD⟩ := hB
        rw [ht9] at hP
        generalize H1 = H at hP hS ⊢
        have hP : va_P (dC, dI) classes (WM h g ca (u2 (u2 iv 12 41 n16) 12 19 n107) (u2 (u2 lv 12 17 n108) 12 18 n109) (u2 (u2 fa 12 39 n14) 12 40 n15) (u2 (u2 la 12 42 f22) 12 43 f23)) H := hP
        have hD : va_D A (WM h g ca (u2 (u2 iv 12 41 n16) 12 19 n107) (u2 (u2 lv 12 17 n108) 12 18 n109) (u2 (u2 fa 12 39 n14) 12 40 n15) (u2 (u2 la 12 42 f22) 12 43 f23)) := (show va_D _ (WM h g ca (u2 (u2 iv 12 41 n16) 12 19 n107) (u2 (u2 lv 12 17 n108) 12 18 n109) (u2 (u2 fa 12 39 n14) 12 40 n15) (u2 (u2 la 12 42 f22) 12 43 f23)) from hD).weaken (fun _ _ _ h => hFc _ h)
        have xr106_0 : 0 ≤ (r106 : Int32).toInt := xr106_0
        have xr106_1 : (r106 : Int32).toInt ≤ 60 := xr106_1
        have xr106_2 : 0 ≤ (n109 : Int64).toInt := xr106_2
        have xr106_3 : (n109 : Int64).toInt ≤ 599940 := xr106_3
        have xr106_4 : 100 * (r106 : Int32).toInt ≤ (n109 : Int64).toInt := xr106_4
        have xr106_5 : (n108 : Int64).toInt = (smL (fun s : Nat => ((fa 12 4) s).toInt = (a : Int32).toInt ∧ ((fa 12 5) s).toInt = (1 : Int32).toInt ∧ ((fa 12 11) s).toInt ≤ (b : Int32).toInt ∧ (((fa 12 12) s).toInt < 0 ∨ (b : Int32).toInt < ((fa 12 12) s).toInt)) (fa 12 8) (((iv 12 3) : Int32).toInt).toNat).toInt := xr106_5
        have xr106_6 : (n109 : Int64).toInt = (smL (fun s : Nat => ((fa 12 4) s).toInt = (a : Int32).toInt ∧ ((fa 12 5) s).toInt = (1 : Int32).toInt ∧ ((fa 12 11) s).toInt ≤ (b : Int32).toInt ∧ (((fa 12 12) s).toInt < 0 ∨ (b : Int32).toInt < ((fa 12 12) s).toInt)) (fa 12 7) (((iv 12 3) : Int32).toInt).toNat).toInt := xr106_6
        have xr106_7 : (n107 : Int32).toInt = (smC (fun s : Nat => ((fa 12 4) s).toInt = (a : Int32).toInt ∧ ((fa 12 5) s).toInt = (1 : Int32).toInt ∧ ((fa 12 11) s).toInt ≤ (b : Int32).toInt ∧ (((fa 12 12) s).toInt < 0 ∨ (b : Int32).toInt < ((fa 12 12) s).toInt)) (((iv 12 3) : Int32).toInt).toNat).toInt := xr106_7
        have xr106_8 : (r106 : Int32).toInt = (n107 : Int32).toInt := xr106_8
        have sd1 : n108 = sY (fa 12 4) (fa 12 5) (fa 12 11) (fa 12 12) (fa 12 8) a.toInt b.toInt 1 ((iv 12 3).toInt).toNat := by have z9 := xr106_5; rw [show (1 : Int32).toInt = 1 from by decide] at z9; exact Int64.toInt_inj.mp z9
        have sr1 : n109 = sY (fa 12 4) (fa 12 5) (fa 12 11) (fa 12 12) (fa 12 7) a.toInt b.toInt 1 ((iv 12 3).toInt).toNat := by have z9 := xr106_6; rw [show (1 : Int32).toInt = 1 from by decide] at z9; exact Int64.toInt_inj.mp z9
        have sn1 : (r106 : Int32).toInt = (nY (fa 12 4) (fa 12 5) (fa 12 11) (fa 12 12) a.toInt b.toInt 1 ((iv 12 3).toInt).toNat).toInt := by have z9 := xr106_7; have z8 := xr106_8; rw [show (1 : Int32).toInt = 1 from by decide] at z9; exact z8.trans z9
        refine lv_istore (lv' := [(9, .int r106), (8, .int 1), (7, .int 1), (6, .int r13), (5, .int r9), (4, .int r5), (3, .int r1), (0, .ref h), (1, .int a), (2, .int b)]) hx hb dX12_stateOf_51 hl (by decide) rfl (fun ls hl => ?_)
        refine lv_aload_n hx hb dX12_stateOf_53 rfl (lv_at hl 7 rfl) ?_
        refine gM_12_42 hx hb ht hown hK hP m_1181 dX12_stateOf_54 ?_
        refine lv_iload hx hb dX12_stateOf_57 (lv_at hl 1 rfl) ?_
        refine lv_aload_n hx hb dX12_stateOf_59 rfl (lv_at hl 7 rfl) ?_
        refine gM_12_17 hx hb ht hown hK hP m_1156 (v := n108) rfl dX12_stateOf_60 ?_
        refine tM_12_42 hx hb hK hP hD hS (f0 := f22) rfl (i := 1) (x := n108) (vp_in_iff.mpr (by decide)) dX12_stateOf_63 (fun f110 ef110 H locs hP hD hS => ?_)
        have hP : va_P (dC, dI) classes (WM h g ca (u2 (u2 iv 12 41 n16) 12 19 n107) (u2 (u2 lv 12 17 n108) 12 18 n109) (u2 (u2 fa 12 39 n14) 12 40 n15) (u2 (u2 la 12 42 f110) 12 43 f23)) H := hP
        have hD : va_D A (WM h g ca (u2 (u2 iv 12 41 n16) 12 19 n107) (u2 (u2 lv 12 17 n108) 12 18 n109) (u2 (u2 fa 12 39 n14) 12 40 n15) (u2 (u2 la 12 42 f110) 12 43 f23)) := hD
        have yf110_0 : f110 (0 : Int32).toNatClampNeg = n20 := by rw [ef110]; exact (updL_ne (by decide)).trans yf22_0
        have yf110_1 : f110 (1 : Int32).toNatClampNeg = n108 := by rw [ef110]; exact updL_eq
        refine lv_aload_n hx hb dX12_stateOf_64 rfl (lv_at hl 7 rfl) ?_
        refine gM_12_43 hx hb ht hown hK hP m_1182 dX12_stateOf_65 ?_
        refine lv_iload hx hb dX12_stateOf_68 (lv_at hl 1 rfl) ?_
        refine lv_aload_n hx hb dX12_stateOf_70 rfl (lv_at hl 7 rfl) ?_
        refine gM_12_18 hx hb ht hown hK hP m_1157 (v := n109) rfl dX12_stateOf_71 ?_
        refine tM_12_43 hx hb hK hP hD hS (f0 := f23) rfl (i := 1) (x := n109) (vp_in_iff.mpr (by decide)) dX12_stateOf_74 (fun f111 ef111 H locs hP hD hS => ?_)
        have hP : va_P (dC, dI) classes (WM h g ca (u2 (u2 iv 12 41 n16) 12 19 n107) (u2 (u2 lv 12 17 n108) 12 18 n109) (u2 (u2 fa 12 39 n14) 12 40 n15) (u2 (u2 la 12 42 f110) 12 43 f111)) H := hP
        have hD : va_D A (WM h g ca (u2 (u2 iv 12 41 n16) 12 19 n107) (u2 (u2 lv 12 17 n108) 12 18 n109) (u2 (u2 fa 12 39 n14) 12 40 n15) (u2 (u2 la 12 42 f110) 12 43 f111)) := hD
        have yf111_0 : f111 (0 : Int32).toNatClampNeg = n21 := by rw [ef111]; exact (updL_ne (by decide)).trans yf23_0
        have yf111_1 : f111 (1 : Int32).toNatClampNeg = n109 := by rw [ef111]; exact updL_eq
        refine lv_iload hx hb dX12_stateOf_75 (lv_at hl 2 rfl) ?_
        refine lv_iload hx hb dX12_stateOf_77 (lv_at hl 0 rfl) ?_
        refine lv_iload_n hx hb dX12_stateOf_79 rfl (lv_at hl 6 rfl) ?_
        refine lv_icmp_lt (tgt := 87) hx hb dX12_stateOf_80 (by decide) (fun c112 => ?_) (fun c112 => ?_)
        · have fc112 := z_lt (rfl : (r106).toInt = _) (rfl : (r1).toInt = _) c112
          refine lv_iconst (v := 0) hx hb dX12_stateOf_87 (by decide) ?_
          refine vp_callSi (W.runS (As := [.int 0]) (rest := [.int 1]) ⟨hx, hb, hml, hown, ht⟩ (c_X12_bit_0 l dC dI) (kS 1 ht m_1396 m_1397 m_89 m_1398 rfl rfl hd_X12_bit_v ⟨Nat.le_of_ble_eq_true rfl, Nat.le_of_ble_eq_true rfl⟩) (sR noP (hK.sub (tys' := []) [] rfl)) rfl rfl hl.1 rfl (lv_room (Nat.le_of_ble_eq_true rfl)) dX12_stateOf_88 ⟨Nat.le_of_ble_eq_true rfl, Nat.le_of_ble_eq_true rfl⟩) (fun r113 hr113 => ?_)
          obtain rfl : 0 = r113 := hr113.symm
          refine lv_iload hx hb dX12_stateOf_91 (lv_at hl 1 rfl) ?_
          refine lv_ishl hx hb dX12_stateOf_93 ?_
          refine lv_topi (fun v114 ev114 => ?_)
          obtain rfl : 0 = v114 := (ev114.trans (by decide)).symm
          refine lv_ior hx hb dX12_stateOf_94 ?_
          refine lv_topi (fun v115 ev115 => ?_)
          obtain rfl : 1 = v115 := (ev115.trans (by decide)).symm
          refine lv_istore (lv' := [(7, .int 1), (9, .int r106), (8, .int 1), (6, .int r13), (5, .int r9), (4, .int r5), (3, .int r1), (0, .ref h), (1, .int a), (2, .int b)]) hx hb dX12_stateOf_95 hl (by decide) rfl (fun ls hl => ?_)
          refine lv_iinc (v := 2) (lv' := [(8, .int 2), (7, .int 1), (9, .int r106), (6, .int r13), (5, .int r9), (4, .int r5), (3, .int r1), (0, .ref h), (1, .int a), (2, .int b)]) hx hb dX12_stateOf_97 hl (k := 2) rfl (by decide) (by decide) rfl (fun ls hl => ?_)
          refine lv_goto (tgt := 37) hx hb dX12_stateOf_100 (by decide) ?_
          refine lv_iload hx hb dX12_stateOf_37 (lv_at hl 0 rfl) ?_
          refine lv_iconst (v := 3) hx hb dX12_stateOf_39 (by decide) ?_
          refine lv_icmp_ge (tgt := 103) hx hb dX12_stateOf_40 (by decide) (fun c116 => ?_) (fun c116 => ?_)
          · exact absurd c116 (by decide)
          · skip
            have : (-1) ≤ ((iv 12 20) : Int32).toInt ∧ ((iv 12 20) : Int32).toInt ≤ (-1) := ⟨by omega, by omega⟩
            have : (-1) ≤ ((iv 12 21) : Int32).toInt ∧ ((iv 12 21) : Int32).toInt ≤ (-1) := ⟨by omega, by omega⟩
            have : (-1) ≤ ((iv 12 22) : Int32).toInt ∧ ((iv 12 22) : Int32).toInt ≤ (-1) := ⟨by omega, by omega⟩
            refine lv_aload_n hx hb dX12_stateOf_43 rfl (lv_at hl 7 rfl) ?_
            refine lv_iload_n hx hb dX12_stateOf_44 rfl (lv_at hl 8 rfl) ?_
            refine lv_iload hx hb dX12_stateOf_45 (lv_at hl 0 rfl) ?_
            refine lv_iload_n hx hb dX12_stateOf_47 rfl (lv_at hl 9 rfl) ?_
            have hFc := free_all hD hS hA
            refine va_calli (va_runV (As := [.int a, .int 2, .int b]) (rest := []) ⟨hx, hb, hml, hown, ht⟩ (c_X12_sumUp_s l dC dI H.size h g ca (u2 (u2 iv 12 41 n16) 12 19 n107) (u2 (u2 lv 12 17 n108) 12 18 n109) (u2 (u2 fa 12 39 n14) 12 40 n15) (u2 (u2 la 12 42 f110) 12 43 f111) (IX_a (c := 12) (k := 40) (IX_a (c := 12) (k := 39) (IX_i (c := 12) (k := 19) (IX_i (c := 12) (k := 41) hI (show inb (0, 8) n16 from ⟨by omega, by omega⟩)) (full_i _)) hn14) hn15) a 2 b (show (-1) ≤ ((iv 12 20) : Int32).toInt ∧ ((iv 12 20) : Int32).toInt ≤ (-1) from ⟨by omega, by omega⟩) (show (-1) ≤ ((iv 12 21) : Int32).toInt ∧ ((iv 12 21) : Int32).toInt ≤ (-1) from ⟨by omega, by omega⟩) (show (-1) ≤ ((iv 12 22) : Int32).toInt ∧ ((iv 12 22) : Int32).toInt ≤ (-1) from ⟨by omega, by omega⟩) hJR) (kV 3 ht m_1434 m_1436 m_45 m_89 m_1437 rfl rfl hd_X12_sumUp_v ⟨Nat.le_of_ble_eq_true rfl, Nat.le_of_ble_eq_true rfl⟩) (vW hP hK hD (rM_12 hK hP)) rfl rfl hl.1 rfl (lv_room (Nat.le_of_ble_eq_true rfl)) dX12_stateOf_48 ⟨Nat.le_of_ble_eq_true rfl, Nat.le_of_ble_eq_true rfl⟩) hS (fun q _ h => hFc q h) hFc (fun r117 u t H1 locs ht9 hvm hr117 hB hz1 hk1 hS => ?_)
            obtain ⟨n118, n119, n120, xr117_0, xr117_1, xr117_2, xr117_3, xr117_4, xr117_5, xr117_6, xr117_7, xr117_8, hr117, rfl⟩ := hr117
            obtain ⟨hP, hD⟩ := hB
            rw [ht9] at hP
            generalize H1 = H at hP hS ⊢
            have hP : va_P (dC, dI) classes (WM h g ca (u2 (u2 iv 12 41 n16) 12 19 n118) (u2 (u2 lv 12 17 n119) 12 18 n120) (u2 (u2 fa 12 39 n14) 12 40 n15) (u2 (u2 la 12 42 f110) 12 43 f111)) H := hP
            have hD : va_D A (WM h g ca (u2 (u2 iv 12 41 n16) 12 19 n118) (u2 (u2 lv 12 17 n119) 12 18 n120) (u2 (u2 fa 12 39 n14) 12 40 n15) (u2 (u2 la 12 42 f110) 12 43 f111)) := (show va_D _ (WM h g ca (u2 (u2 iv 12 41 n16) 12 19 n118) (u2 (u2 lv 12 17 n119) 12 18 n120) (u2 (u2 fa 12 39 n14) 12 40 n15) (u2 (u2 la 12 42 f110) 12 43 f111)) from hD).weaken (fun _ _ _ h => hFc _ h)
            have xr117_0 : 0 ≤ (r117 : Int32).toInt := xr117_0
            have xr117_1 : (r117 : Int32).toInt ≤ 60 := xr117_1
            have xr117_2 : 0 ≤ (n120 : Int64).toInt := xr117_2
            have xr117_3 : (n120 : Int64).toInt ≤ 599940 := xr117_3
            have xr117_4 : 100 * (r117 : Int32).toInt ≤ (n120 : Int64).toInt := xr117_4
            have xr117_5 : (n119 : Int64).toInt = (smL (fun s : Nat => ((fa 12 4) s).toInt = (a : Int32).toInt ∧ ((fa 12 5) s).toInt = (2 : Int32).toInt ∧ ((fa 12 11) s).toInt ≤ (b : Int32).toInt ∧ (((fa 12 12) s).toInt < 0 ∨ (b : Int32).toInt < ((fa 12 12) s).toInt)) (fa 12 8) (((iv 12 3) : Int32).toInt).toNat).toInt := xr117_5
            have xr117_6 : (n120 : Int64).toInt = (smL (fun s : Nat => ((fa 12 4) s).toInt = (a : Int32).toInt ∧ ((fa 12 5) s).toInt = (2 : Int32).toInt ∧ ((fa 12 11) s).toInt ≤ (b : Int32).toInt ∧ (((fa 12 12) s).toInt < 0 ∨ (b : Int32).toInt < ((fa 12 12) s).toInt)) (fa 12 7) (((iv 12 3) : Int32).toInt).toNat).toInt := xr117_6
            have xr117_7 : (n118 : Int32).toInt = (smC (fun s : Nat => ((fa 12 4) s).toInt = (a : Int32).toInt ∧ ((fa 12 5) s).toInt = (2 : Int32).toInt ∧ ((fa 12 11) s).toInt ≤ (b : Int32).toInt ∧ (((fa 12 12) s).toInt < 0 ∨ (b : Int32).toInt < ((fa 12 12) s).toInt)) (((iv 12 3) : Int32).toInt).toNat).toInt := xr117_7
            have xr117_8 : (r117 : Int32).toInt = (n118 : Int32).toInt := xr117_8
            have sd2 : n119 = sY (fa 12 4) (fa 12 5) (fa 12 11) (fa 12 12) (fa 12 8) a.toInt b.toInt 2 ((iv 12 3).toInt).toNat := by have z9 := xr117_5; rw [show (2 : Int32).toInt = 2 from by decide] at z9; exact Int64.toInt_inj.mp z9
            have sr2 : n120 = sY (fa 12 4) (fa 12 5) (fa 12 11) (fa 12 12) (fa 12 7) a.toInt b.toInt 2 ((iv 12 3).toInt).toNat := by have z9 := xr117_6; rw [show (2 : Int32).toInt = 2 from by decide] at z9; exact Int64.toInt_inj.mp z9
            have sn2 : (r117 : Int32).toInt = (nY (fa 12 4) (fa 12 5) (fa 12 11) (fa 12 12) a.toInt b.toInt 2 ((iv 12 3).toInt).toNat).toInt := by have z9 := xr117_7; have z8 := xr117_8; rw [show (2 : Int32).toInt = 2 from by decide] at z9; exact z8.trans z9
            refine lv_istore (lv' := [(9, .int r117), (8, .int 2), (7, .int 1), (6, .int r13), (5, .int r9), (4, .int r5), (3, .int r1), (0, .ref h), (1, .int a), (2, .int b)]) hx hb dX12_stateOf_51 hl (by decide) rfl (fun ls hl => ?_)
            refine lv_aload_n hx hb dX12_stateOf_53 rfl (lv_at hl 7 rfl) ?_
            refine gM_12_42 hx hb ht hown hK hP m_1181 dX12_stateOf_54 ?_
            refine lv_iload hx hb dX12_stateOf_57 (lv_at hl 1 rfl) ?_
            refine lv_aload_n hx hb dX12_stateOf_59 rfl (lv_at hl 7 rfl) ?_
            refine gM_12_17 hx hb ht hown hK hP m_1156 (v := n119) rfl dX12_stateOf_60 ?_
            refine tM_12_42 hx hb hK hP hD hS (f0 := f110) rfl (i := 2) (x := n119) (vp_in_iff.mpr (by decide)) dX12_stateOf_63 (fun f121 ef121 H locs hP hD hS => ?_)
            have hP : va_P (dC, dI) classes (WM h g ca (u2 (u2 iv 12 41 n16) 12 19 n118) (u2 (u2 lv 12 17 n119) 12 18 n120) (u2 (u2 fa 12 39 n14) 12 40 n15) (u2 (u2 la 12 42 f121) 12 43 f111)) H := hP
            have hD : va_D A (WM h g ca (u2 (u2 iv 12 41 n16) 12 19 n118) (u2 (u2 lv 12 17 n119) 12 18 n120) (u2 (u2 fa 12 39 n14) 12 40 n15) (u2 (u2 la 12 42 f121) 12 43 f111)) := hD
            have yf121_0 : f121 (0 : Int32).toNatClampNeg = n20 := by rw [ef121]; exact (updL_ne (by decide)).trans yf110_0
            have yf121_1 : f121 (1 : Int32).toNatClampNeg = n108 := by rw [ef121]; exact (updL_ne (by decide)).trans yf110_1
            have yf121_2 : f121 (2 : Int32).toNatClampNeg = n119 := by rw [ef121]; exact updL_eq
            refine lv_aload_n hx hb dX12_stateOf_64 rfl (lv_at hl 7 rfl) ?_
            refine gM_12_43 hx hb ht hown hK hP m_1182 dX12_stateOf_65 ?_
            refine lv_iload hx hb dX12_stateOf_68 (lv_at hl 1 rfl) ?_
            refine lv_aload_n hx hb dX12_stateOf_70 rfl (lv_at hl 7 rfl) ?_
            refine gM_12_18 hx hb ht hown hK hP m_1157 (v := n120) rfl dX12_stateOf_71 ?_
            refine tM_12_43 hx hb hK hP hD hS (f0 := f111) rfl (i := 2) (x := n120) (vp_in_iff.mpr (by decide)) dX12_stateOf_74 (fun f122 ef122 H locs hP hD hS => ?_)
            have hP : va_P (dC, dI) classes (WM h g ca (u2 (u2 iv 12 41 n16) 12 19 n118) (u2 (u2 lv 12 17 n119) 12 18 n120) (u2 (u2 fa 12 39 n14) 12 40 n15) (u2 (u2 la 12 42 f121) 12 43 f122)) H := hP
            have hD : va_D A (WM h g ca (u2 (u2 iv 12 41 n16) 12 19 n118) (u2 (u2 lv 12 17 n119) 12 18 n120) (u2 (u2 fa 12 39 n14) 12 40 n15) (u2 (u2 la 12 42 f121) 12 43 f122)) := hD
            have yf122_0 : f122 (0 : Int32).toNatClampNeg = n21 := by rw [ef122]; exact (updL_ne (by decide)).trans yf111_0
            have yf122_1 : f122 (1 : Int32).toNatClampNeg = n109 := by rw [ef122]; exact (updL_ne (by decide)).trans yf111_1
            have yf122_2 : f122 (2 : Int32).toNatClampNeg = n120 := by rw [ef122]; exact updL_eq
            refine lv_iload hx hb dX12_stateOf_75 (lv_at hl 2 rfl) ?_
            refine lv_iload hx hb dX12_stateOf_77 (lv_at hl 0 rfl) ?_
            refine lv_iload_n hx hb dX12_stateOf_79 rfl (lv_at hl 6 rfl) ?_
            refine lv_icmp_lt (tgt := 87) hx hb dX12_stateOf_80 (by decide) (fun c123 => ?_) (fun c123 => ?_)
            · have fc123 := z_lt (rfl : (r117).toInt = _) (rfl : (r1).toInt = _) c123
              refine lv_iconst (v := 0) hx hb dX12_stateOf_87 (by decide) ?_
              refine vp_callSi (W.runS (As := [.int 0]) (rest := [.int 1]) ⟨hx, hb, hml, hown, ht⟩ (c_X12_bit_0 l dC dI) (kS 1 ht m_1396 m_1397 m_89 m_1398 rfl rfl hd_X12_bit_v ⟨Nat.le_of_ble_eq_true rfl, Nat.le_of_ble_eq_true rfl⟩) (sR noP (hK.sub (tys' := []) [] rfl)) rfl rfl hl.1 rfl (lv_room (Nat.le_of_ble_eq_true rfl)) dX12_stateOf_88 ⟨Nat.le_of_ble_eq_true rfl, Nat.le_of_ble_eq_true rfl⟩) (fun r124 hr124 => ?_)
              obtain rfl : 0 = r124 := hr124.symm
              refine lv_iload hx hb dX12_stateOf_91 (lv_at hl 1 rfl) ?_
              refine lv_ishl hx hb dX12_stateOf_93 ?_
              refine lv_topi (fun v125 ev125 => ?_)
              obtain rfl : 0 = v125 := (ev125.trans (by decide)).symm
              refine lv_ior hx hb dX12_stateOf_94 ?_
              refine lv_topi (fun v126 ev126 => ?_)
              obtain rfl : 1 = v126 := (ev126.trans (by decide)).symm
              refine lv_istore (lv' := [(7, .int 1), (9, .int r117), (8, .int 2), (6, .int r13), (5, .int r9), (4, .int r5), (3, .int r1), (0, .ref h), (1, .int a), (2, .int b)]) hx hb dX12_stateOf_95 hl (by decide) rfl (fun ls hl => ?_)
              refine lv_iinc (v := 3) (lv' := [(8, .int 3), (7, .int 1), (9, .int r117), (6, .int r13), (5, .int r9), (4, .int r5), (3, .int r1), (0, .ref h), (1, .int a), (2, .int b)]) hx hb dX12_stateOf_97 hl (k := 2) rfl (by decide) (by decide) rfl (fun ls hl => ?_)
              refine lv_goto (tgt := 37) hx hb dX12_stateOf_100 (by decide) ?_
              refine lv_iload hx hb dX12_stateOf_37 (lv_at hl 0 rfl) ?_
              refine lv_iconst (v := 3) hx hb dX12_stateOf_39 (by decide) ?_
              refine lv_icmp_ge (tgt := 103) hx hb dX12_stateOf_40 (by decide) (fun c127 => ?_) (fun c127 => ?_)
              · skip
                refine lv_iload hx hb dX12_stateOf_103 (lv_at hl 5 rfl) ?_
                refine lv_iconst (v := 1) hx hb dX12_stateOf_105 (by decide) ?_
                refine lv_icmp_ne (tgt := 119) hx hb dX12_stateOf_106 (by decide) (fun c128 => ?_) (fun c128 => ?_)
                · have fc128 := z_ne (rfl : (r5).toInt = _) (by decide : (1 : Int32).toInt = 1) c128
                  refine lv_iload hx hb dX12_stateOf_119 (lv_at hl 1 rfl) ?_
                  refine lv_iconst (v := 3) hx hb dX12_stateOf_121 (by decide) ?_
                  refine lv_iand hx hb dX12_stateOf_122 ?_
                  refine lv_topi (fun v129 ev129 => ?_)
                  obtain rfl : 1 = v129 := (ev129.trans (by decide)).symm
                  refine lv_iconst (v := 3) hx hb dX12_stateOf_123 (by decide) ?_
                  refine lv_icmp_eq (tgt := 129) hx hb dX12_stateOf_124 (by decide) (fun c130 => ?_) (fun c130 => ?_)
                  · exact absurd c130 (by decide)
                  · skip
                    refine lv_iconst (v := 0) hx hb dX12_stateOf_127 (by decide) ?_
                    have hP9 : va_P (dC, dI) classes (WM h g ca (u2 (u2 iv 12 19 n118) 12 41 n16) (u2 (u2 (u2 (u2 lv 12 17 n119) 12 18 n120) 12 44 (lv 12 44)) 12 45 (lv 12 45)) (u2 (u2 fa 12 39 n14) 12 40 n15) (u2 (u2 la 12 42 f121) 12 43 f122)) H := hP
                    have hD9 : va_D A (WM h g ca (u2 (u2 iv 12 19 n118) 12 41 n16) (u2 (u2 (u2 (u2 lv 12 17 n119) 12 18 n120) 12 44 (lv 12 44)) 12 45 (lv 12 45)) (u2 (u2 fa 12 39 n14) 12 40 n15) (u2 (u2 la 12 42 f121) 12 43 f122)) := hD
                    exact W.iret (v := 0) hx hb hr (fun t ht9 hW => ⟨⟨0, ((u2 (u2 iv 12 19 n118) 12 41 n16), (u2 (u2 (u2 (u2 lv 12 17 n119) 12 18 n120) 12 44 (lv 12 44)) 12 45 (lv 12 45)), (u2 (u2 fa 12 39 n14) 12 40 n15), (u2 (u2 la 12 42 f121) 12 43 f122)), rfl, ⟨n14, n15, f121, f122, n118, n16, n119, n120, (lv 12 44), (lv 12 45), hn14, hn15, (show inb (0, 8) n16 from ⟨by omega, by omega⟩), (show LwT (fun q v => FoY (iv 12 23).toInt (fa 12 24) (fa 12 25) (fa 12 26) (fa 12 27) (fa 12 28) q (b).toInt v) (fa 12 4) (fa 12 5) (fa 12 11) (fa 12 12) (fa 12 7) (fa 12 8) (a).toInt (b).toInt ((iv 12 3).toInt).toNat f121 f122 ((lv 12 44) : Int64).toInt ((lv 12 45) : Int64).toInt (0 : Int32).toInt from (by
                          have hP9 : ∀ l : Nat, l < 3 → f122 l = sY (fa 12 4) (fa 12 5) (fa 12 11) (fa 12 12) (fa 12 7) a.toInt b.toInt (l : Int) ((iv 12 3).toInt).toNat ∧ f121 l = sY (fa 12 4) (fa 12 5) (fa 12 11) (fa 12 12) (fa 12 8) a.toInt b.toInt (l : Int) ((iv 12 3).toInt).toNat := (fun l hl => by
                           rcases (by omega : l = 0 ∨ l = 1 ∨ l = 2) with rfl | rfl | rfl
                           · exact ⟨(show f122 0 = _ from yf122_0).trans sr0, (show f121 0 = _ from yf121_0).trans sd0⟩
                           · exact ⟨(show f122 1 = _ from yf122_1).trans sr1, (show f121 1 = _ from yf121_1).trans sd1⟩
                           · exact ⟨(show f122 2 = _ from yf122_2).trans sr2, (show f121 2 = _ from yf121_2).trans sd2⟩)
                          exact ⟨hP9, ⟨_, (show FoY (iv 12 23).toInt (fa 12 24) (fa 12 25) (fa 12 26) (fa 12 27) (fa 12 28) 1 b.toInt (r1 : Int32).toInt from xr1_0), Or.inr ⟨by omega, _, (show FoY (iv 12 23).toInt (fa 12 24) (fa 12 25) (fa 12 26) (fa 12 27) (fa 12 28) 3 b.toInt (r5 : Int32).toInt from xr5_0), Or.inr ⟨by omega, Or.inl ⟨by omega, by omega⟩⟩⟩⟩⟩)), ⟨by decide, by decide⟩, rfl⟩, by rw [ht9]; exact hP9, hD9⟩, hS.F ht9⟩) hS.2.2 dX12_stateOf_128
                · have fc128 := z_eq (rfl : (r5).toInt = _) (by decide : (1 : Int32).toInt = 1) c128
                  refine lv_aload_n hx hb dX12_stateOf_109 rfl (lv_at hl 7 rfl) ?_
                  refine lv_iconst (v := 0) hx hb dX12_stateOf_110 (by decide) ?_
                  have hFc := free_all hD hS hA
                  refine va_callv (va_runV (As := [.int 0]) (rest := []) ⟨hx, hb, hml, hown, ht⟩ (c_X12_only_w0 l dC dI H.size h g ca (u2 (u2 iv 12 41 n16) 12 19 n118) (u2 (u2 lv 12 17 n119) 12 18 n120) (u2 (u2 fa 12 39 n14) 12 40 n15) (u2 (u2 la 12 42 f121) 12 43 f122) (IX_a (c := 12) (k := 40) (IX_a (c := 12) (k := 39) (IX_i (c := 12) (k := 19) (IX_i (c := 12) (k := 41) hI (show inb (0, 8) n16 from ⟨by omega, by omega⟩)) (full_i _)) hn14) hn15)) (kV 1 ht m_1536 m_1538 m_59 m_89 m_1539 rfl rfl hd_X12_only_v ⟨Nat.le_of_ble_eq_true rfl, Nat.le_of_ble_eq_true rfl⟩) (vW hP hK hD (rM_12 hK hP)) rfl rfl hl.1 rfl (lv_room (Nat.le_of_ble_eq_true rfl)) dX12_stateOf_111 ⟨Nat.le_of_ble_eq_true rfl, Nat.le_of_ble_eq_true rfl⟩) hS (fun q _ h => hFc q h) hFc (fun u t H1 locs ht9 hvm hr131 hB hz1 hk1 hS => ?_)
                  obtain ⟨n132, n133, xr131_0, xr131_1, rfl⟩ := hr131
                  obtain ⟨hP, hD⟩ := hB
                  rw [ht9] at hP
                  generalize H1 = H at hP hS ⊢
                  have hP : va_P (dC, dI) classes (WM h g ca (u2 (u2 iv 12 41 n16) 12 19 n118) (u2 (u2 (u2 (u2 lv 12 17 n119) 12 18 n120) 12 44 n132) 12 45 n133) (u2 (u2 fa 12 39 n14) 12 40 n15) (u2 (u2 la 12 42 f121) 12 43 f122)) H := hP
                  have hD : va_D A (WM h g ca (u2 (u2 iv 12 41 n16) 12 19 n118) (u2 (u2 (u2 (u2 lv 12 17 n119) 12 18 n120) 12 44 n132) 12 45 n133) (u2 (u2 fa 12 39 n14) 12 40 n15) (u2 (u2 la 12 42 f121) 12 43 f122)) := (show va_D _ (WM h g ca (u2 (u2 iv 12 41 n16) 12 19 n118) (u2 (u2 (u2 (u2 lv 12 17 n119) 12 18 n120) 12 44 n132) 12 45 n133) (u2 (u2 fa 12 39 n14) 12 40 n15) (u2 (u2 la 12 42 f121) 12 43 f122)) from hD).weaken (fun _ _ _ h => hFc _ h)
                  have xr131_0 : (n132 : Int64).toInt = (f121 0).toInt := xr131_0
                  have xr131_1 : (n133 : Int64).toInt = (f122 0).toInt := xr131_1
                  refine lv_iload hx hb dX12_stateOf_114 (lv_at hl 1 rfl) ?_
                  refine lv_iconst (v := 1) hx hb dX12_stateOf_116 (by decide) ?_
                  refine lv_iand hx hb dX12_stateOf_117 ?_
                  refine lv_topi (fun v134 ev134 => ?_)
                  obtain rfl : 1 = v134 := (ev134.trans (by decide)).symm
                  have hP9 : va_P (dC, dI) classes (WM h g ca (u2 (u2 iv 12 19 n118) 12 41 n16) (u2 (u2 (u2 (u2 lv 12 17 n119) 12 18 n120) 12 44 n132) 12 45 n133) (u2 (u2 fa 12 39 n14) 12 40 n15) (u2 (u2 la 12 42 f121) 12 43 f122)) H := hP
                  have hD9 : va_D A (WM h g ca (u2 (u2 iv 12 19 n118) 12 41 n16) (u2 (u2 (u2 (u2 lv 12 17 n119) 12 18 n120) 12 44 n132) 12 45 n133) (u2 (u2 fa 12 39 n14) 12 40 n15) (u2 (u2 la 12 42 f121) 12 43 f122)) := hD
                  exact W.iret (v := 1) hx hb hr (fun t ht9 hW => ⟨⟨1, ((u2 (u2 iv 12 19 n118) 12 41 n16), (u2 (u2 (u2 (u2 lv 12 17 n119) 12 18 n120) 12 44 n132) 12 45 n133), (u2 (u2 fa 12 39 n14) 12 40 n15), (u2 (u2 la 12 42 f121) 12 43 f122)), rfl, ⟨n14, n15, f121, f122, n118, n16, n119, n120, n132, n133, hn14, hn15, (show inb (0, 8) n16 from ⟨by omega, by omega⟩), (show LwT (fun q v => FoY (iv 12 23).toInt (fa 12 24) (fa 12 25) (fa 12 26) (fa 12 27) (fa 12 28) q (b).toInt v) (fa 12 4) (fa 12 5) (fa 12 11) (fa 12 12) (fa 12 7) (fa 12 8) (a).toInt (b).toInt ((iv 12 3).toInt).toNat f121 f122 (n132 : Int64).toInt (n133 : Int64).toInt (1 : Int32).toInt from (by
                        have hP9 : ∀ l : Nat, l < 3 → f122 l = sY (fa 12 4) (fa 12 5) (fa 12 11) (fa 12 12) (fa 12 7) a.toInt b.toInt (l : Int) ((iv 12 3).toInt).toNat ∧ f121 l = sY (fa 12 4) (fa 12 5) (fa 12 11) (fa 12 12) (fa 12 8) a.toInt b.toInt (l : Int) ((iv 12 3).toInt).toNat := (fun l hl => by
                         rcases (by omega : l = 0 ∨ l = 1 ∨ l = 2) with rfl | rfl | rfl
                         · exact ⟨(show f122 0 = _ from yf122_0).trans sr0, (show f121 0 = _ from yf121_0).trans sd0⟩
                         · exact ⟨(show f122 1 = _ from yf122_1).trans sr1, (show f121 1 = _ from yf121_1).trans sd1⟩
                         · exact ⟨(show f122 2 = _ from yf122_2).trans sr2, (show f121 2 = _ from yf121_2).trans sd2⟩)
                        exact ⟨hP9, ⟨_, (show FoY (iv 12 23).toInt (fa 12 24) (fa 12 25) (fa 12 26) (fa 12 27) (fa 12 28) 1 b.toInt (r1 : Int32).toInt from xr1_0), Or.inr ⟨by omega, _, (show FoY (iv 12 23).toInt (fa 12 24) (fa 12 25) (fa 12 26) (fa 12 27) (fa 12 28) 3 b.toInt (r5 : Int32).toInt from xr5_0), Or.inl ⟨by omega, by omega, xr131_0, xr131_1⟩⟩⟩⟩)), ⟨by decide, by decide⟩, rfl⟩, by rw [ht9]; exact hP9, hD9⟩, hS.F ht9⟩) hS.2.2 dX12_stateOf_118
              · exact absurd c127 (by decide)
            · have fc123 := z_nlt (rfl : (r117).toInt = _) (rfl : (r1).toInt = _) c123
              refine lv_iconst (v := 1) hx hb dX12_stateOf_83 (by decide) ?_
              refine lv_goto (tgt := 88) hx hb dX12_stateOf_84 (by decide) ?_
              refine vp_callSi (W.runS (As := [.int 1]) (rest := [.int 1]) ⟨hx, hb, hml, hown, ht⟩ (c_X12_bit_1 l dC dI) (kS 1 ht m_1396 m_1397 m_89 m_1398 rfl rfl hd_X12_bit_v ⟨Nat.le_of_ble_eq_true rfl, Nat.le_of_ble_eq_true rfl⟩) (sR noP (hK.sub (tys' := []) [] rfl)) rfl rfl hl.1 rfl (lv_room (Nat.le_of_ble_eq_true rfl)) dX12_stateOf_88 ⟨Nat.le_of_ble_eq_true rfl, Nat.le_of_ble_eq_true rfl⟩) (fun r135 hr135 => ?_)
              obtain rfl : 1 = r135 := hr135.symm
              refine lv_iload hx hb dX12_stateOf_91 (lv_at hl 1 rfl) ?_
              refine lv_ishl hx hb dX12_stateOf_93 ?_
              refine lv_topi (fun v136 ev136 => ?_)
              obtain rfl : 4 = v136 := (ev136.trans (by decide)).symm
              refine lv_ior hx hb dX12_stateOf_94 ?_
              refine lv_topi (fun v137 ev137 => ?_)
              obtain rfl : 5 = v137 := (ev137.trans (by decide)).symm
              refine lv_istore (lv' := [(7, .int 5), (9, .int r117), (8, .int 2), (6, .int r13), (5, .int r9), (4, .int r5), (3, .int r1), (0, .ref h), (1, .int a), (2, .int b)]) hx hb dX12_stateOf_95 hl (by decide) rfl (fun ls hl => ?_)
              refine lv_iinc (v := 3) (lv' := [(8, .int 3), (7, .int 5), (9, .int r117), (6, .int r13), (5, .int r9), (4, .int r5), (3, .int r1), (0, .ref h), (1, .int a), (2, .int b)]) hx hb dX12_stateOf_97 hl (k := 2) rfl (by decide) (by decide) rfl (fun ls hl => ?_)
              refine lv_goto (tgt := 37) hx hb dX12_stateOf_100 (by decide) ?_
              refine lv_iload hx hb dX12_stateOf_37 (lv_at hl 0 rfl) ?_
              refine lv_iconst (v := 3) hx hb dX12_stateOf_39 (by decide) ?_
              refine lv_icmp_ge (tgt := 103) hx hb dX12_stateOf_40 (by decide) (fun c138 => ?_) (fun c138 => ?_)
              · skip
                refine lv_iload hx hb dX12_stateOf_103 (lv_at hl 5 rfl) ?_
                refine lv_iconst (v := 1) hx hb dX12_stateOf_105 (by decide) ?_
                refine lv_icmp_ne (tgt := 119) hx hb dX12_stateOf_106 (by decide) (fun c139 => ?_) (fun c139 => ?_)
                · have fc139 := z_ne (rfl : (r5).toInt = _) (by decide : (1 : Int32).toInt = 1) c139
                  refine lv_iload hx hb dX12_stateOf_119 (lv_at hl 1 rfl) ?_
                  refine lv_iconst (v := 3) hx hb dX12_stateOf_121 (by decide) ?_
                  refine lv_iand hx hb dX12_stateOf_122 ?_
                  refine lv_topi (fun v140 ev140 => ?_)
                  obtain rfl : 1 = v140 := (ev140.trans (by decide)).symm
                  refine lv_iconst (v := 3) hx hb dX12_stateOf_123 (by decide) ?_
                  refine lv_icmp_eq (tgt := 129) hx hb dX12_stateOf_124 (by decide) (fun c141 => ?_) (fun c141 => ?_)
                  · exact absurd c141 (by decide)
                  · skip
                    refine lv_iconst (v := 0) hx hb dX12_stateOf_127 (by decide) ?_
                    have hP9 : va_P (dC, dI) classes (WM h g ca (u2 (u2 iv 12 19 n118) 12 41 n16) (u2 (u2 (u2 (u2 lv 12 17 n119) 12 18 n120) 12 44 (lv 12 44)) 12 45 (lv 12 45)) (u2 (u2 fa 12 39 n14) 12 40 n15) (u2 (u2 la 12 42 f121) 12 43 f122)) H := hP
                    have hD9 : va_D A (WM h g ca (u2 (u2 iv 12 19 n118) 12 41 n16) (u2 (u2 (u2 (u2 lv 12 17 n119) 12 18 n120) 12 44 (lv 12 44)) 12 45 (lv 12 45)) (u2 (u2 fa 12 39 n14) 12 40 n15) (u2 (u2 la 12 42 f121) 12 43 f122)) := hD
                    exact W.iret (v := 0) hx hb hr (fun t ht9 hW => ⟨⟨0, ((u2 (u2 iv 12 19 n118) 12 41 n16), (u2 (u2 (u2 (u2 lv 12 17 n119) 12 18 n120) 12 44 (lv 12 44)) 12 45 (lv 12 45)), (u2 (u2 fa 12 39 n14) 12 40 n15), (u2 (u2 la 12 42 f121) 12 43 f122)), rfl, ⟨n14, n15, f121, f122, n118, n16, n119, n120, (lv 12 44), (lv 12 45), hn14, hn15, (show inb (0, 8) n16 from ⟨by omega, by omega⟩), (show LwT (fun q v => FoY (iv 12 23).toInt (fa 12 24) (fa 12 25) (fa 12 26) (fa 12 27) (fa 12 28) q (b).toInt v) (fa 12 4) (fa 12 5) (fa 12 11) (fa 12 12) (fa 12 7) (fa 12 8) (a).toInt (b).toInt ((iv 12 3).toInt).toNat f121 f122 ((lv 12 44) : Int64).toInt ((lv 12 45) : Int64).toInt (0 : Int32).toInt from (by
                          have hP9 : ∀ l : Nat, l < 3 → f122 l = sY (fa 12 4) (fa 12 5) (fa 12 11) (fa 12 12) (fa 12 7) a.toInt b.toInt (l : Int) ((iv 12 3).toInt).toNat ∧ f121 l = sY (fa 12 4) (fa 12 5) (fa 12 11) (fa 12 12) (fa 12 8) a.toInt b.toInt (l : Int) ((iv 12 3).toInt).toNat := (fun l hl => by
                           rcases (by omega : l = 0 ∨ l = 1 ∨ l = 2) with rfl | rfl | rfl
                           · exact ⟨(show f122 0 = _ from yf122_0).trans sr0, (show f121 0 = _ from yf121_0).trans sd0⟩
                           · exact ⟨(show f122 1 = _ from yf122_1).trans sr1, (show f121 1 = _ from yf121_1).trans sd1⟩
                           · exact ⟨(show f122 2 = _ from yf122_2).trans sr2, (show f121 2 = _ from yf121_2).trans sd2⟩)
                          exact ⟨hP9, ⟨_, (show FoY (iv 12 23).toInt (fa 12 24) (fa 12 25) (fa 12 26) (fa 12 27) (fa 12 28) 1 b.toInt (r1 : Int32).toInt from xr1_0), Or.inr ⟨by omega, _, (show FoY (iv 12 23).toInt (fa 12 24) (fa 12 25) (fa 12 26) (fa 12 27) (fa 12 28) 3 b.toInt (r5 : Int32).toInt from xr5_0), Or.inr ⟨by omega, Or.inl ⟨by omega, by omega⟩⟩⟩⟩⟩)), ⟨by decide, by decide⟩, rfl⟩, by rw [ht9]; exact hP9, hD9⟩, hS.F ht9⟩) hS.2.2 dX12_stateOf_128
                · have fc139 := z_eq (rfl : (r5).toInt = _) (by decide : (1 : Int32).toInt = 1) c139
                  refine lv_aload_n hx hb dX12_stateOf_109 rfl (lv_at hl 7 rfl) ?_
                  refine lv_iconst (v := 0) hx hb dX12_stateOf_110 (by decide) ?_
                  have hFc := free_all hD hS hA
                  refine va_callv (va_runV (As := [.int 0]) (rest := []) ⟨hx, hb, hml, hown, ht⟩ (c_X12_only_w0 l dC dI H.size h g ca (u2 (u2 iv 12 41 n16) 12 19 n118) (u2 (u2 lv 12 17 n119) 12 18 n120) (u2 (u2 fa 12 39 n14) 12 40 n15) (u2 (u2 la 12 42 f121) 12 43 f122) (IX_a (c := 12) (k := 40) (IX_a (c := 12) (k := 39) (IX_i (c := 12) (k := 19) (IX_i (c := 12) (k := 41) hI (show inb (0, 8) n16 from ⟨by omega, by omega⟩)) (full_i _)) hn14) hn15)) (kV 1 ht m_1536 m_1538 m_59 m_89 m_1539 rfl rfl hd_X12_only_v ⟨Nat.le_of_ble_eq_true rfl, Nat.le_of_ble_eq_true rfl⟩) (vW hP hK hD (rM_12 hK hP)) rfl rfl hl.1 rfl (lv_room (Nat.le_of_ble_eq_true rfl)) dX12_stateOf_111 ⟨Nat.le_of_ble_eq_true rfl, Nat.le_of_ble_eq_true rfl⟩) hS (fun q _ h => hFc q h) hFc (fun u t H1 locs ht9 hvm hr142 hB hz1 hk1 hS => ?_)
                  obtain ⟨n143, n144, xr142_0, xr142_1, rfl⟩ := hr142
                  obtain ⟨hP, hD⟩ := hB
                  rw [ht9] at hP
                  generalize H1 = H at hP hS ⊢
                  have hP : va_P (dC, dI) classes (WM h g ca (u2 (u2 iv 12 41 n16) 12 19 n118) (u2 (u2 (u2 (u2 lv 12 17 n119) 12 18 n120) 12 44 n143) 12 45 n144) (u2 (u2 fa 12 39 n14) 12 40 n15) (u2 (u2 la 12 42 f121) 12 43 f122)) H := hP
                  have hD : va_D A (WM h g ca (u2 (u2 iv 12 41 n16) 12 19 n118) (u2 (u2 (u2 (u2 lv 12 17 n119) 12 18 n120) 12 44 n143) 12 45 n144) (u2 (u2 fa 12 39 n14) 12 40 n15) (u2 (u2 la 12 42 f121) 12 43 f122)) := (show va_D _ (WM h g ca (u2 (u2 iv 12 41 n16) 12 19 n118) (u2 (u2 (u2 (u2 lv 12 17 n119) 12 18 n120) 12 44 n143) 12 45 n144) (u2 (u2 fa 12 39 n14) 12 40 n15) (u2 (u2 la 12 42 f121) 12 43 f122)) from hD).weaken (fun _ _ _ h => hFc _ h)
                  have xr142_0 : (n143 : Int64).toInt = (f121 0).toInt := xr142_0
                  have xr142_1 : (n144 : Int64).toInt = (f122 0).toInt := xr142_1
                  refine lv_iload hx hb dX12_stateOf_114 (lv_at hl 1 rfl) ?_
                  refine lv_iconst (v := 1) hx hb dX12_stateOf_116 (by decide) ?_
                  refine lv_iand hx hb dX12_stateOf_117 ?_
                  refine lv_topi (fun v145 ev145 => ?_)
                  obtain rfl : 1 = v145 := (ev145.trans (by decide)).symm
                  have hP9 : va_P (dC, dI) classes (WM h g ca (u2 (u2 iv 12 19 n118) 12 41 n16) (u2 (u2 (u2 (u2 lv 12 17 n119) 12 18 n120) 12 44 n143) 12 45 n144) (u2 (u2 fa 12 39 n14) 12 40 n15) (u2 (u2 la 12 42 f121) 12 43 f122)) H := hP
                  have hD9 : va_D A (WM h g ca (u2 (u2 iv 12 19 n118) 12 41 n16) (u2 (u2 (u2 (u2 lv 12 17 n119) 12 18 n120) 12 44 n143) 12 45 n144) (u2 (u2 fa 12 39 n14) 12 40 n15) (u2 (u2 la 12 42 f121) 12 43 f122)) := hD
                  exact W.iret (v := 1) hx hb hr (fun t ht9 hW => ⟨⟨1, ((u2 (u2 iv 12 19 n118) 12 41 n16), (u2 (u2 (u2 (u2 lv 12 17 n119) 12 18 n120) 12 44 n143) 12 45 n144), (u2 (u2 fa 12 39 n14) 12 40 n15), (u2 (u2 la 12 42 f121) 12 43 f122)), rfl, ⟨n14, n15, f121, f122, n118, n16, n119, n120, n143, n144, hn14, hn15, (show inb (0, 8) n16 from ⟨by omega, by omega⟩), (show LwT (fun q v => FoY (iv 12 23).toInt (fa 12 24) (fa 12 25) (fa 12 26) (fa 12 27) (fa 12 28) q (b).toInt v) (fa 12 4) (fa 12 5) (fa 12 11) (fa 12 12) (fa 12 7) (fa 12 8) (a).toInt (b).toInt ((iv 12 3).toInt).toNat f121 f122 (n143 : Int64).toInt (n144 : Int64).toInt (1 : Int32).toInt from (by
                        have hP9 : ∀ l : Nat, l < 3 → f122 l = sY (fa 12 4) (fa 12 5) (fa 12 11) (fa 12 12) (fa 12 7) a.toInt b.toInt (l : Int) ((iv 12 3).toInt).toNat ∧ f121 l = sY (fa 12 4) (fa 12 5) (fa 12 11) (fa 12 12) (fa 12 8) a.toInt b.toInt (l : Int) ((iv 12 3).toInt).toNat := (fun l hl => by
                         rcases (by omega : l = 0 ∨ l = 1 ∨ l = 2) with rfl | rfl | rfl
                         · exact ⟨(show f122 0 = _ from yf122_0).trans sr0, (show f121 0 = _ from yf121_0).trans sd0⟩
                         · exact ⟨(show f122 1 = _ from yf122_1).trans sr1, (show f121 1 = _ from yf121_1).trans sd1⟩
                         · exact ⟨(show f122 2 = _ from yf122_2).trans sr2, (show f121 2 = _ from yf121_2).trans sd2⟩)
                        exact ⟨hP9, ⟨_, (show FoY (iv 12 23).toInt (fa 12 24) (fa 12 25) (fa 12 26) (fa 12 27) (fa 12 28) 1 b.toInt (r1 : Int32).toInt from xr1_0), Or.inr ⟨by omega, _, (show FoY (iv 12 23).toInt (fa 12 24) (fa 12 25) (fa 12 26) (fa 12 27) (fa 12 28) 3 b.toInt (r5 : Int32).toInt from xr5_0), Or.inl ⟨by omega, by omega, xr142_0, xr142_1⟩⟩⟩⟩)), ⟨by decide, by decide⟩, rfl⟩, by rw [ht9]; exact hP9, hD9⟩, hS.F ht9⟩) hS.2.2 dX12_stateOf_118
              · exact absurd c138 (by decide)
        · have fc112 := z_nlt (rfl : (r106).toInt = _) (rfl : (r1).toInt = _) c112
          refine lv_iconst (v := 1) hx hb dX12_stateOf_83 (by decide) ?_
          refine lv_goto (tgt := 88) hx hb dX12_stateOf_84 (by decide) ?_
          refine vp_callSi (W.runS (As := [.int 1]) (rest := [.int 1]) ⟨hx, hb, hml, hown, ht⟩ (c_X12_bit_1 l dC dI) (kS 1 ht m_1396 m_1397 m_89 m_1398 rfl rfl hd_X12_bit_v ⟨Nat.le_of_ble_eq_true rfl, Nat.le_of_ble_eq_true rfl⟩) (sR noP (hK.sub (tys' := []) [] rfl)) rfl rfl hl.1 rfl (lv_room (Nat.le_of_ble_eq_true rfl)) dX12_stateOf_88 ⟨Nat.le_of_ble_eq_true rfl, Nat.le_of_ble_eq_true rfl⟩) (fun r146 hr146 => ?_)
          obtain rfl : 1 = r146 := hr146.symm
          refine lv_iload hx hb dX12_stateOf_91 (lv_at hl 1 rfl) ?_
          refine lv_ishl hx hb dX12_stateOf_93 ?_
          refine lv_topi (fun v147 ev147 => ?_)
          obtain rfl : 2 = v147 := (ev147.trans (by decide)).symm
          refine lv_ior hx hb dX12_stateOf_94 ?_
          refine lv_topi (fun v148 ev148 => ?_)
          obtain rfl : 3 = v148 := (ev148.trans (by decide)).symm
          refine lv_istore (lv' := [(7, .int 3), (9, .int r106), (8, .int 1), (6, .int r13), (5, .int r9), (4, .int r5), (3, .int r1), (0, .ref h), (1, .int a), (2, .int b)]) hx hb dX12_stateOf_95 hl (by decide) rfl (fun ls hl => ?_)
          refine lv_iinc (v := 2) (lv' := [(8, .int 2), (7, .int 3), (9, .int r106), (6, .int r13), (5, .int r9), (4, .int r5), (3, .int r1), (0, .ref h), (1, .int a), (2, .int b)]) hx hb dX12_stateOf_97 hl (k := 2) rfl (by decide) (by decide) rfl (fun ls hl => ?_)
          refine lv_goto (tgt := 37) hx hb dX12_stateOf_100 (by decide) ?_
          refine lv_iload hx hb dX12_stateOf_37 (lv_at hl 0 rfl) ?_
          refine lv_iconst (v := 3) hx hb dX12_stateOf_39 (by decide) ?_
          refine lv_icmp_ge (tgt := 103) hx hb dX12_stateOf_40 (by decide) (fun c149 => ?_) (fun c149 => ?_)
          · exact absurd c149 (by decide)
          · skip
            have : (-1) ≤ ((iv 12 20) : Int32).toInt ∧ ((iv 12 20) : Int32).toInt ≤ (-1) := ⟨by omega, by omega⟩
            have : (-1) ≤ ((iv 12 21) : Int32).toInt ∧ ((iv 12 21) : Int32).toInt ≤ (-1) := ⟨by omega, by omega⟩
            have : (-1) ≤ ((iv 12 22) : Int32).toInt ∧ ((iv 12 22) : Int32).toInt ≤ (-1) := ⟨by omega, by omega⟩
            refine lv_aload_n hx hb dX12_stateOf_43 rfl (lv_at hl 7 rfl) ?_
            refine lv_iload_n hx hb dX12_stateOf_44 rfl (lv_at hl 8 rfl) ?_
            refine lv_iload hx hb dX12_stateOf_45 (lv_at hl 0 rfl) ?_
            refine lv_iload_n hx hb dX12_stateOf_47 rfl (lv_at hl 9 rfl) ?_
            have hFc := free_all hD hS hA
            refine va_calli (va_runV (As := [.int a, .int 2, .int b]) (rest := []) ⟨hx, hb, hml, hown, ht⟩ (c_X12_sumUp_s l dC dI H.size h g ca (u2 (u2 iv 12 41 n16) 12 19 n107) (u2 (u2 lv 12 17 n108) 12 18 n109) (u2 (u2 fa 12 39 n14) 12 40 n15) (u2 (u2 la 12 42 f110) 12 43 f111) (IX_a (c := 12) (k := 40) (IX_a (c := 12) (k := 39) (IX_i (c := 12) (k := 19) (IX_i (c := 12) (k := 41) hI (show inb (0, 8) n16 from ⟨by omega, by omega⟩)) (full_i _)) hn14) hn15) a 2 b (show (-1) ≤ ((iv 12 20) : Int32).toInt ∧ ((iv 12 20) : Int32).toInt ≤ (-1) from ⟨by omega, by omega⟩) (show (-1) ≤ ((iv 12 21) : Int32).toInt ∧ ((iv 12 21) : Int32).toInt ≤ (-1) from ⟨by omega, by omega⟩) (show (-1) ≤ ((iv 12 22) : Int32).toInt ∧ ((iv 12 22) : Int32).toInt ≤ (-1) from ⟨by omega, by omega⟩) hJR) (kV 3 ht m_1434 m_1436 m_45 m_89 m_1437 rfl rfl hd_X12_sumUp_v ⟨Nat.le_of_ble_eq_true rfl, Nat.le_of_ble_eq_true rfl⟩) (vW hP hK hD (rM_12 hK hP)) rfl rfl hl.1 rfl (lv_room (Nat.le_of_ble_eq_true rfl)) dX12_stateOf_48 ⟨Nat.le_of_ble_eq_true rfl, Nat.le_of_ble_eq_true rfl⟩) hS (fun q _ h => hFc q h) hFc (fun r150 u t H1 locs ht9 hvm hr150 hB hz1 hk1 hS => ?_)
            obtain ⟨n151, n152, n153, xr150_0, xr150_1, xr150_2, xr150_3, xr150_4, xr150_5, xr150_6, xr150_7, xr150_8, hr150, rfl⟩ := hr150
            obtain ⟨hP, hD⟩ := hB
            rw [ht9] at hP
            generalize H1 = H at hP hS ⊢
            have hP : va_P (dC, dI) classes (WM h g ca (u2 (u2 iv 12 41 n16) 12 19 n151) (u2 (u2 lv 12 17 n152) 12 18 n153) (u2 (u2 fa 12 39 n14) 12 40 n15) (u2 (u2 la 12 42 f110) 12 43 f111)) H := hP
            have hD : va_D A (WM h g ca (u2 (u2 iv 12 41 n16) 12 19 n151) (u2 (u2 lv 12 17 n152) 12 18 n153) (u2 (u2 fa 12 39 n14) 12 40 n15) (u2 (u2 la 12 42 f110) 12 43 f111)) := (show va_D _ (WM h g ca (u2 (u2 iv 12 41 n16) 12 19 n151) (u2 (u2 lv 12 17 n152) 12 18 n153) (u2 (u2 fa 12 39 n14) 12 40 n15) (u2 (u2 la 12 42 f110) 12 43 f111)) from hD).weaken (fun _ _ _ h => hFc _ h)
            have xr150_0 : 0 ≤ (r150 : Int32).toInt := xr150_0
            have xr150_1 : (r150 : Int32).toInt ≤ 60 := xr150_1
            have xr150_2 : 0 ≤ (n153 : Int64).toInt := xr150_2
            have xr150_3 : (n153 : Int64).toInt ≤ 599940 := xr150_3
            have xr150_4 : 100 * (r150 : Int32).toInt ≤ (n153 : Int64).toInt := xr150_4
            have xr150_5 : (n152 : Int64).toInt = (smL (fun s : Nat => ((fa 12 4) s).toInt = (a : Int32).toInt ∧ ((fa 12 5) s).toInt = (2 : Int32).toInt ∧ ((fa 12 11) s).toInt ≤ (b : Int32).toInt ∧ (((fa 12 12) s).toInt < 0 ∨ (b : Int32).toInt < ((fa 12 12) s).toInt)) (fa 12 8) (((iv 12 3) : Int32).toInt).toNat).toInt := xr150_5
            have xr150_6 : (n153 : Int64).toInt = (smL (fun s : Nat => ((fa 12 4) s).toInt = (a : Int32).toInt ∧ ((fa 12 5) s).toInt = (2 : Int32).toInt ∧ ((fa 12 11) s).toInt ≤ (b : Int32).toInt ∧ (((fa 12 12) s).toInt < 0 ∨ (b : Int32).toInt < ((fa 12 12) s).toInt)) (fa 12 7) (((iv 12 3) : Int32).toInt).toNat).toInt := xr150_6
            have xr150_7 : (n151 : Int32).toInt = (smC (fun s : Nat => ((fa 12 4) s).toInt = (a : Int32).toInt ∧ ((fa 12 5) s).toInt = (2 : Int32).toInt ∧ ((fa 12 11) s).toInt ≤ (b : Int32).toInt ∧ (((fa 12 12) s).toInt < 0 ∨ (b : Int32).toInt < ((fa 12 12) s).toInt)) (((iv 12 3) : Int32).toInt).toNat).toInt := xr150_7
            have xr150_8 : (r150 : Int32).toInt = (n151 : Int32).toInt := xr150_8
            have sd2 : n152 = sY (fa 12 4) (fa 12 5) (fa 12 11) (fa 12 12) (fa 12 8) a.toInt b.toInt 2 ((iv 12 3).toInt).toNat := by have z9 := xr150_5; rw [show (2 : Int32).toInt = 2 from by decide] at z9; exact Int64.toInt_inj.mp z9
            have sr2 : n153 = sY (fa 12 4) (fa 12 5) (fa 12 11) (fa 12 12) (fa 12 7) a.toInt b.toInt 2 ((iv 12 3).toInt).toNat := by have z9 := xr150_6; rw [show (2 : Int32).toInt = 2 from by decide] at z9; exact Int64.toInt_inj.mp z9
            have sn2 : (r150 : Int32).toInt = (nY (fa 12 4) (fa 12 5) (fa 12 11) (fa 12 12) a.toInt b.toInt 2 ((iv 12 3).toInt).toNat).toInt := by have z9 := xr150_7; have z8 := xr150_8; rw [show (2 : Int32).toInt = 2 from by decide] at z9; exact z8.trans z9
            refine lv_istore (lv' := [(9, .int r150), (8, .int 2), (7, .int 3), (6, .int r13), (5, .int r9), (4, .int r5), (3, .int r1), (0, .ref h), (1, .int a), (2, .int b)]) hx hb dX12_stateOf_51 hl (by decide) rfl (fun ls hl => ?_)
            refine lv_aload_n hx hb dX12_stateOf_53 rfl (lv_at hl 7 rfl) ?_
            refine gM_12_42 hx hb ht hown hK hP m_1181 dX12_stateOf_54 ?_
            refine lv_iload hx hb dX12_stateOf_57 (lv_at hl 1 rfl) ?_
            refine lv_aload_n hx hb dX12_stateOf_59 rfl (lv_at hl 7 rfl) ?_
            refine gM_12_17 hx hb ht hown hK hP m_1156 (v := n152) rfl dX12_stateOf_60 ?_
            refine tM_12_42 hx hb hK hP hD hS (f0 := f110) rfl (i := 2) (x := n152) (vp_in_iff.mpr (by decide)) dX12_stateOf_63 (fun f154 ef154 H locs hP hD hS => ?_)
            have hP : va_P (dC, dI) classes (WM h g ca (u2 (u2 iv 12 41 n16) 12 19 n151) (u2 (u2 lv 12 17 n152) 12 18 n153) (u2 (u2 fa 12 39 n14) 12 40 n15) (u2 (u2 la 12 42 f154) 12 43 f111)) H := hP
            have hD : va_D A (WM h g ca (u2 (u2 iv 12 41 n16) 12 19 n151) (u2 (u2 lv 12 17 n152) 12 18 n153) (u2 (u2 fa 12 39 n14) 12 40 n15) (u2 (u2 la 12 42 f154) 12 43 f111)) := hD
            have yf154_0 : f154 (0 : Int32).toNatClampNeg = n20 := by rw [ef154]; exact (updL_ne (by decide)).trans yf110_0
            have yf154_1 : f154 (1 : Int32).toNatClampNeg = n108 := by rw [ef154]; exact (updL_ne (by decide)).trans yf110_1
            have yf154_2 : f154 (2 : Int32).toNatClampNeg = n152 := by rw [ef154]; exact updL_eq
            refine lv_aload_n hx hb dX12_stateOf_64 rfl (lv_at hl 7 rfl) ?_
            refine gM_12_43 hx hb ht hown hK hP m_1182 dX12_stateOf_65 ?_
            refine lv_iload hx hb dX12_stateOf_68 (lv_at hl 1 rfl) ?_
            refine lv_aload_n hx hb dX12_stateOf_70 rfl (lv_at hl 7 rfl) ?_
            refine gM_12_18 hx hb ht hown hK hP m_1157 (v := n153) rfl dX12_stateOf_71 ?_
            refine tM_12_43 hx hb hK hP hD hS (f0 := f111) rfl (i := 2) (x := n153) (vp_in_iff.mpr (by decide)) dX12_stateOf_74 (fun f155 ef155 H locs hP hD hS => ?_)
            have hP : va_P (dC, dI) classes (WM h g ca (u2 (u2 iv 12 41 n16) 12 19 n151) (u2 (u2 lv 12 17 n152) 12 18 n153) (u2 (u2 fa 12 39 n14) 12 40 n15) (u2 (u2 la 12 42 f154) 12 43 f155)) H := hP
            have hD : va_D A (WM h g ca (u2 (u2 iv 12 41 n16) 12 19 n151) (u2 (u2 lv 12 17 n152) 12 18 n153) (u2 (u2 fa 12 39 n14) 12 40 n15) (u2 (u2 la 12 42 f154) 12 43 f155)) := hD
            have yf155_0 : f155 (0 : Int32).toNatClampNeg = n21 := by rw [ef155]; exact (updL_ne (by decide)).trans yf111_0
            have yf155_1 : f155 (1 : Int32).toNatClampNeg = n109 := by rw [ef155]; exact (updL_ne (by decide)).trans yf111_1
            have yf155_2 : f155 (2 : Int32).toNatClampNeg = n153 := by rw [ef155]; exact updL_eq
            refine lv_iload hx hb dX12_stateOf_75 (lv_at hl 2 rfl) ?_
            refine lv_iload hx hb dX12_stateOf_77 (lv_at hl 0 rfl) ?_
            refine lv_iload_n hx hb dX12_stateOf_79 rfl (lv_at hl 6 rfl) ?_
            refine lv_icmp_lt (tgt := 87) hx hb dX12_stateOf_80 (by decide) (fun c156 => ?_) (fun c156 => ?_)
            · have fc156 := z_lt (rfl : (r150).toInt = _) (rfl : (r1).toInt = _) c156
              refine lv_iconst (v := 0) hx hb dX12_stateOf_87 (by decide) ?_
              refine vp_callSi (W.runS (As := [.int 0]) (rest := [.int 3]) ⟨hx, hb, hml, hown, ht⟩ (c_X12_bit_0 l dC dI) (kS 1 ht m_1396 m_1397 m_89 m_1398 rfl rfl hd_X12_bit_v ⟨Nat.le_of_ble_eq_true rfl, Nat.le_of_ble_eq_true rfl⟩) (sR noP (hK.sub (tys' := []) [] rfl)) rfl rfl hl.1 rfl (lv_room (Nat.le_of_ble_eq_true rfl)) dX12_stateOf_88 ⟨Nat.le_of_ble_eq_true rfl, Nat.le_of_ble_eq_true rfl⟩) (fun r157 hr157 => ?_)
              obtain rfl : 0 = r157 := hr157.symm
              refine lv_iload hx hb dX12_stateOf_91 (lv_at hl 1 rfl) ?_
              refine lv_ishl hx hb dX12_stateOf_93 ?_
              refine lv_topi (fun v158 ev158 => ?_)
              obtain rfl : 0 = v158 := (ev158.trans (by decide)).symm
              refine lv_ior hx hb dX12_stateOf_94 ?_
              refine lv_topi (fun v159 ev159 => ?_)
              obtain rfl : 3 = v159 := (ev159.trans (by decide)).symm
              refine lv_istore (lv' := [(7, .int 3), (9, .int r150), (8, .int 2), (6, .int r13), (5, .int r9), (4, .int r5), (3, .int r1), (0, .ref h), (1, .int a), (2, .int b)]) hx hb dX12_stateOf_95 hl (by decide) rfl (fun ls hl => ?_)
              refine lv_iinc (v := 3) (lv' := [(8, .int 3), (7, .int 3), (9, .int r150), (6, .int r13), (5, .int r9), (4, .int r5), (3, .int r1), (0, .ref h), (1, .int a), (2, .int b)]) hx hb dX12_stateOf_97 hl (k := 2) rfl (by decide) (by decide) rfl (fun ls hl => ?_)
              refine lv_goto (tgt := 37) hx hb dX12_stateOf_100 (by decide) ?_
              refine lv_iload hx hb dX12_stateOf_37 (lv_at hl 0 rfl) ?_
              refine lv_iconst (v := 3) hx hb dX12_stateOf_39 (by decide) ?_
              refine lv_icmp_ge (tgt := 103) hx hb dX12_stateOf_40 (by decide) (fun c160 => ?_) (fun c160 => ?_)
              · skip
                refine lv_iload hx hb dX12_stateOf_103 (lv_at hl 5 rfl) ?_
                refine lv_iconst (v := 1) hx hb dX12_stateOf_105 (by decide) ?_
                refine lv_icmp_ne (tgt := 119) hx hb dX12_stateOf_106 (by decide) (fun c161 => ?_) (fun c161 => ?_)
                · have fc161 := z_ne (rfl : (r5).toInt = _) (by decide : (1 : Int32).toInt = 1) c161
                  refine lv_iload hx hb dX12_stateOf_119 (lv_at hl 1 rfl) ?_
                  refine lv_iconst (v := 3) hx hb dX12_stateOf_121 (by decide) ?_
                  refine lv_iand hx hb dX12_stateOf_122 ?_
                  refine lv_topi (fun v162 ev162 => ?_)
                  obtain rfl : 3 = v162 := (ev162.trans (by decide)).symm
                  refine lv_iconst (v := 3) hx hb dX12_stateOf_123 (by decide) ?_
                  refine lv_icmp_eq (tgt := 129) hx hb dX12_stateOf_124 (by decide) (fun c163 => ?_) (fun c163 => ?_)
                  · skip
                    refine lv_aload_n hx hb dX12_stateOf_129 rfl (lv_at hl 7 rfl) ?_
                    refine gM_12_42 hx hb ht hown hK hP m_1181 dX12_stateOf_130 ?_
                    refine lv_iconst (v := 0) hx hb dX12_stateOf_133 (by decide) ?_
                    refine lM_12_42 hx hb hK hP (f := f154) rfl (vp_in_iff.mpr (by decide)) dX12_stateOf_134 ?_
                    refine lv_topl (fun w164 ew164 => ?_)
                    have dl0 : w164 = f154 0 := ew164
                    refine lv_aload_n hx hb dX12_stateOf_135 rfl (lv_at hl 7 rfl) ?_
                    refine gM_12_43 hx hb ht hown hK hP m_1182 dX12_stateOf_136 ?_
                    refine lv_iconst (v := 0) hx hb dX12_stateOf_139 (by decide) ?_
                    refine lM_12_43 hx hb hK hP (f := f155) rfl (vp_in_iff.mpr (by decide)) dX12_stateOf_140 ?_
                    refine lv_topl (fun w165 ew165 => ?_)
                    have dl1 : w165 = f155 0 := ew165
                    refine lv_aload_n hx hb dX12_stateOf_141 rfl (lv_at hl 7 rfl) ?_
                    refine gM_12_42 hx hb ht hown hK hP m_1181 dX12_stateOf_142 ?_
                    refine lv_iconst (v := 1) hx hb dX12_stateOf_145 (by decide) ?_
                    refine lM_12_42 hx hb hK hP (f := f154) rfl (vp_in_iff.mpr (by decide)) dX12_stateOf_146 ?_
                    refine lv_topl (fun w166 ew166 => ?_)
                    have dl2 : w166 = f154 1 := ew166
                    refine lv_aload_n hx hb dX12_stateOf_147 rfl (lv_at hl 7 rfl) ?_
                    refine gM_12_43 hx hb ht hown hK hP m_1182 dX12_stateOf_148 ?_
                    refine lv_iconst (v := 1) hx hb dX12_stateOf_151 (by decide) ?_
                    refine lM_12_43 hx hb hK hP (f := f155) rfl (vp_in_iff.mpr (by decide)) dX12_stateOf_152 ?_
                    refine lv_topl (fun w167 ew167 => ?_)
                    have dl3 : w167 = f155 1 := ew167
                    refine lv_iload hx hb dX12_stateOf_153 (lv_at hl 3 rfl) ?_
                    refine vp_callSi (W.runS (As := [.long w164, .long w165, .long w166, .long w167, .int r13]) (rest := []) ⟨hx, hb, hml, hown, ht⟩ (c_X12_doPart_f l dC dI w164 w165 w166 w167 r13) (kS 5 ht m_1540 m_1541 m_89 m_1542 rfl rfl hd_X12_doPart_v ⟨Nat.le_of_ble_eq_true rfl, Nat.le_of_ble_eq_true rfl⟩) (sR noP (hK.sub (tys' := []) [] rfl)) rfl rfl hl.1 rfl (lv_room (Nat.le_of_ble_eq_true rfl)) dX12_stateOf_155 ⟨Nat.le_of_ble_eq_true rfl, Nat.le_of_ble_eq_true rfl⟩) (fun r168 hr168 => ?_)
                    obtain ⟨hr168, xr168_0⟩ := hr168
                    have xr168_0 : (((r168 : Int32).toInt = 1 ∧ difL (w164 : Int64) (w165 : Int64) (w166 : Int64) (w167 : Int64) (r13 : Int32)) ∨ ((r168 : Int32).toInt = 0 ∧ ¬ difL (w164 : Int64) (w165 : Int64) (w166 : Int64) (w167 : Int64) (r13 : Int32))) := xr168_0
                    refine lv_if_ne (tgt := 196) hx hb dX12_stateOf_158 (by decide) (fun c169 => ?_) (fun c169 => ?_)
                    · have fc169 := z_ne (rfl : (r168).toInt = _) (by decide : (0 : Int32).toInt = 0) c169
                      refine lv_iload hx hb dX12_stateOf_196 (lv_at hl 1 rfl) ?_
                      refine lv_iconst (v := 4) hx hb dX12_stateOf_198 (by decide) ?_
                      refine lv_iand hx hb dX12_stateOf_199 ?_
                      refine lv_topi (fun v170 ev170 => ?_)
                      obtain rfl : 0 = v170 := (ev170.trans (by decide)).symm
                      refine lv_if_ne (tgt := 205) hx hb dX12_stateOf_200 (by decide) (fun c171 => ?_) (fun c171 => ?_)
                      · exact absurd rfl c171
                      · skip
                        refine lv_iconst (v := 2) hx hb dX12_stateOf_203 (by decide) ?_
                        have hP9 : va_P (dC, dI) classes (WM h g ca (u2 (u2 iv 12 19 n151) 12 41 n16) (u2 (u2 (u2 (u2 lv 12 17 n152) 12 18 n153) 12 44 (lv 12 44)) 12 45 (lv 12 45)) (u2 (u2 fa 12 39 n14) 12 40 n15) (u2 (u2 la 12 42 f154) 12 43 f155)) H := hP
                        have hD9 : va_D A (WM h g ca (u2 (u2 iv 12 19 n151) 12 41 n16) (u2 (u2 (u2 (u2 lv 12 17 n152) 12 18 n153) 12 44 (lv 12 44)) 12 45 (lv 12 45)) (u2 (u2 fa 12 39 n14) 12 40 n15) (u2 (u2 la 12 42 f154) 12 43 f155)) := hD
                        exact W.iret (v := 2) hx hb hr (fun t ht9 hW => ⟨⟨2, ((u2 (u2 iv 12 19 n151) 12 41 n16), (u2 (u2 (u2 (u2 lv 12 17 n152) 12 18 n153) 12 44 (lv 12 44)) 12 45 (lv 12 45)), (u2 (u2 fa 12 39 n14) 12 40 n15), (u2 (u2 la 12 42 f154) 12 43 f155)), rfl, ⟨n14, n15, f154, f155, n151, n16, n152, n153, (lv 12 44), (lv 12 45), hn14, hn15, (show inb (0, 8) n16 from ⟨by omega, by omega⟩), (show LwT (fun q v => FoY (iv 12 23).toInt (fa 12 24) (fa 12 25) (fa 12 26) (fa 12 27) (fa 12 28) q (b).toInt v) (fa 12 4) (fa 12 5) (fa 12 11) (fa 12 12) (fa 12 7) (fa 12 8) (a).toInt (b).toInt ((iv 12 3).toInt).toNat f154 f155 ((lv 12 44) : Int64).toInt ((lv 12 45) : Int64).toInt (2 : Int32).toInt from (by
                              have hP9 : ∀ l : Nat, l < 3 → f155 l = sY (fa 12 4) (fa 12 5) (fa 12 11) (fa 12 12) (fa 12 7) a.toInt b.toInt (l : Int) ((iv 12 3).toInt).toNat ∧ f154 l = sY (fa 12 4) (fa 12 5) (fa 12 11) (fa 12 12) (fa 12 8) a.toInt b.toInt (l : Int) ((iv 12 3).toInt).toNat := (fun l hl => by
                               rcases (by omega : l = 0 ∨ l = 1 ∨ l = 2) with rfl | rfl | rfl
                               · exact ⟨(show f155 0 = _ from yf155_0).trans sr0, (show f154 0 = _ from yf154_0).trans sd0⟩
                               · exact ⟨(show f155 1 = _ from yf155_1).trans sr1, (show f154 1 = _ from yf154_1).trans sd1⟩
                               · exact ⟨(show f155 2 = _ from yf155_2).trans sr2, (show f154 2 = _ from yf154_2).trans sd2⟩)
                              have hd9 := xr168_0
                              rw [dl0, dl1, dl2, dl3] at hd9
                              exact ⟨hP9, ⟨_, (show FoY (iv 12 23).toInt (fa 12 24) (fa 12 25) (fa 12 26) (fa 12 27) (fa 12 28) 1 b.toInt (r1 : Int32).toInt from xr1_0), Or.inr ⟨by omega, _, (show FoY (iv 12 23).toInt (fa 12 24) (fa 12 25) (fa 12 26) (fa 12 27) (fa 12 28) 3 b.toInt (r5 : Int32).toInt from xr5_0), Or.inr ⟨by omega, Or.inr ⟨by omega, r13, (show FoY (iv 12 23).toInt (fa 12 24) (fa 12 25) (fa 12 26) (fa 12 27) (fa 12 28) 2 b.toInt (r13 : Int32).toInt from xr13_0), _, (show FoY (iv 12 23).toInt (fa 12 24) (fa 12 25) (fa 12 26) (fa 12 27) (fa 12 28) 5 b.toInt (r9 : Int32).toInt from xr9_0), Or.inr ⟨(hd9.resolve_right (fun q => by omega)).2, Or.inl ⟨by omega, by omega⟩⟩⟩⟩⟩⟩⟩)), ⟨by decide, by decide⟩, rfl⟩, by rw [ht9]; exact hP9, hD9⟩, hS.F ht9⟩) hS.2.2 dX12_stateOf_204
                    · have fc169 := z_eq (rfl : (r168).toInt = _) (by decide : (0 : Int32).toInt = 0) c169
                      refine lv_iload hx hb dX12_stateOf_161 (lv_at hl 4 rfl) ?_
                      refine lv_iconst (v := 1) hx hb dX12_stateOf_163 (by decide) ?_
                      refine lv_icmp_ne (tgt := 188) hx hb dX12_stateOf_164 (by decide) (fun c172 => ?_) (fun c172 => ?_)
                      · have fc172 := z_ne (rfl : (r9).toInt = _) (by decide : (1 : Int32).toInt = 1) c172
                        refine lv_aload_n hx hb dX12_stateOf_188 rfl (lv_at hl 7 rfl) ?_
                        refine lv_iconst (v := 0) hx hb dX12_stateOf_189 (by decide) ?_
                        refine lv_iconst (v := 1) hx hb dX12_stateOf_190 (by decide) ?_
                        have hFc := free_all hD hS hA
                        refine va_callv (va_runV (As := [.int 0, .int 1]) (rest := []) ⟨hx, hb, hml, hown, ht⟩ (c_X12_half_w01 l dC dI H.size h g ca (u2 (u2 iv 12 41 n16) 12 19 n151) (u2 (u2 lv 12 17 n152) 12 18 n153) (u2 (u2 fa 12 39 n14) 12 40 n15) (u2 (u2 la 12 42 f154) 12 43 f155) (IX_a (c := 12) (k := 40) (IX_a (c := 12) (k := 39) (IX_i (c := 12) (k := 19) (IX_i (c := 12) (k := 41) hI (show inb (0, 8) n16 from ⟨by omega, by omega⟩)) (full_i _)) hn14) hn15)) (kV 2 ht m_1548 m_1550 m_61 m_89 m_1551 rfl rfl hd_X12_half_v ⟨Nat.le_of_ble_eq_true rfl, Nat.le_of_ble_eq_true rfl⟩) (vW hP hK hD (rM_12 hK hP)) rfl rfl hl.1 rfl (lv_room (Nat.le_of_ble_eq_true rfl)) dX12_stateOf_191 ⟨Nat.le_of_ble_eq_true rfl, Nat.le_of_ble_eq_true rfl⟩) hS (fun q _ h => hFc q h) hFc (fun u t H1 locs ht9 hvm hr173 hB hz1 hk1 hS => ?_)
                        obtain ⟨n174, n175, xr173_0, xr173_1, rfl⟩ := hr173
                        obtain ⟨hP, hD⟩ := hB
                        rw [ht9] at hP
                        generalize H1 = H at hP hS ⊢
                        have hP : va_P (dC, dI) classes (WM h g ca (u2 (u2 iv 12 41 n16) 12 19 n151) (u2 (u2 (u2 (u2 lv 12 17 n152) 12 18 n153) 12 44 n174) 12 45 n175) (u2 (u2 fa 12 39 n14) 12 40 n15) (u2 (u2 la 12 42 f154) 12 43 f155)) H := hP
                        have hD : va_D A (WM h g ca (u2 (u2 iv 12 41 n16) 12 19 n151) (u2 (u2 (u2 (u2 lv 12 17 n152) 12 18 n153) 12 44 n174) 12 45 n175) (u2 (u2 fa 12 39 n14) 12 40 n15) (u2 (u2 la 12 42 f154) 12 43 f155)) := (show va_D _ (WM h g ca (u2 (u2 iv 12 41 n16) 12 19 n151) (u2 (u2 (u2 (u2 lv 12 17 n152) 12 18 n153) 12 44 n174) 12 45 n175) (u2 (u2 fa 12 39 n14) 12 40 n15) (u2 (u2 la 12 42 f154) 12 43 f155)) from hD).weaken (fun _ _ _ h => hFc _ h)
                        have xr173_0 : (n174 : Int64).toInt = (f154 0 * f155 1 + f154 1 * f155 0).toInt := xr173_0
                        have xr173_1 : (n175 : Int64).toInt = (2 * f155 0 * f155 1).toInt := xr173_1
                        refine lv_iconst (v := 1) hx hb dX12_stateOf_194 (by decide) ?_
                        have hP9 : va_P (dC, dI) classes (WM h g ca (u2 (u2 iv 12 19 n151) 12 41 n16) (u2 (u2 (u2 (u2 lv 12 17 n152) 12 18 n153) 12 44 n174) 12 45 n175) (u2 (u2 fa 12 39 n14) 12 40 n15) (u2 (u2 la 12 42 f154) 12 43 f155)) H := hP
                        have hD9 : va_D A (WM h g ca (u2 (u2 iv 12 19 n151) 12 41 n16) (u2 (u2 (u2 (u2 lv 12 17 n152) 12 18 n153) 12 44 n174) 12 45 n175) (u2 (u2 fa 12 39 n14) 12 40 n15) (u2 (u2 la 12 42 f154) 12 43 f155)) := hD
                        exact W.iret (v := 1) hx hb hr (fun t ht9 hW => ⟨⟨1, ((u2 (u2 iv 12 19 n151) 12 41 n16), (u2 (u2 (u2 (u2 lv 12 17 n152) 12 18 n153) 12 44 n174) 12 45 n175), (u2 (u2 fa 12 39 n14) 12 40 n15), (u2 (u2 la 12 42 f154) 12 43 f155)), rfl, ⟨n14, n15, f154, f155, n151, n16, n152, n153, n174, n175, hn14, hn15, (show inb (0, 8) n16 from ⟨by omega, by omega⟩), (show LwT (fun q v => FoY (iv 12 23).toInt (fa 12 24) (fa 12 25) (fa 12 26) (fa 12 27) (fa 12 28) q (b).toInt v) (fa 12 4) (fa 12 5) (fa 12 11) (fa 12 12) (fa 12 7) (fa 12 8) (a).toInt (b).toInt ((iv 12 3).toInt).toNat f154 f155 (n174 : Int64).toInt (n175 : Int64).toInt (1 : Int32).toInt from (by
                              have hP9 : ∀ l : Nat, l < 3 → f155 l = sY (fa 12 4) (fa 12 5) (fa 12 11) (fa 12 12) (fa 12 7) a.toInt b.toInt (l : Int) ((iv 12 3).toInt).toNat ∧ f154 l = sY (fa 12 4) (fa 12 5) (fa 12 11) (fa 12 12) (fa 12 8) a.toInt b.toInt (l : Int) ((iv 12 3).toInt).toNat := (fun l hl => by
                               rcases (by omega : l = 0 ∨ l = 1 ∨ l = 2) with rfl | rfl | rfl
                               · exact ⟨(show f155 0 = _ from yf155_0).trans sr0, (show f154 0 = _ from yf154_0).trans sd0⟩
                               · exact ⟨(show f155 1 = _ from yf155_1).trans sr1, (show f154 1 = _ from yf154_1).trans sd1⟩
                               · exact ⟨(show f155 2 = _ from yf155_2).trans sr2, (show f154 2 = _ from yf154_2).trans sd2⟩)
                              have hd9 := xr168_0
                              rw [dl0, dl1, dl2, dl3] at hd9
                              exact ⟨hP9, ⟨_, (show FoY (iv 12 23).toInt (fa 12 24) (fa 12 25) (fa 12 26) (fa 12 27) (fa 12 28) 1 b.toInt (r1 : Int32).toInt from xr1_0), Or.inr ⟨by omega, _, (show FoY (iv 12 23).toInt (fa 12 24) (fa 12 25) (fa 12 26) (fa 12 27) (fa 12 28) 3 b.toInt (r5 : Int32).toInt from xr5_0), Or.inr ⟨by omega, Or.inr ⟨by omega, r13, (show FoY (iv 12 23).toInt (fa 12 24) (fa 12 25) (fa 12 26) (fa 12 27) (fa 12 28) 2 b.toInt (r13 : Int32).toInt from xr13_0), _, (show FoY (iv 12 23).toInt (fa 12 24) (fa 12 25) (fa 12 26) (fa 12 27) (fa 12 28) 5 b.toInt (r9 : Int32).toInt from xr9_0), Or.inl ⟨(hd9.resolve_left (fun q => by omega)).2, by omega, ⟨0, 1, Or.inl ⟨by omega, rfl, rfl⟩, Or.inr ⟨by decide, xr173_0, xr173_1⟩⟩⟩⟩⟩⟩⟩⟩)), ⟨by decide, by decide⟩, rfl⟩, by rw [ht9]; exact hP9, hD9⟩, hS.F ht9⟩) hS.2.2 dX12_stateOf_195
                      · have fc172 := z_eq (rfl : (r9).toInt = _) (by decide : (1 : Int32).toInt = 1) c172
                        refine lv_aload_n hx hb dX12_stateOf_167 rfl (lv_at hl 7 rfl) ?_
                        refine lv_aload_n hx hb dX12_stateOf_168 rfl (lv_at hl 7 rfl) ?_
                        refine lv_iconst (v := 1) hx hb dX12_stateOf_169 (by decide) ?_
                        refine lv_iconst (v := 0) hx hb dX12_stateOf_170 (by decide) ?_
                        refine vp_callSi (W.runV (As := [.int 1, .int 0]) (rest := [.ref h]) ⟨hx, hb, hml, hown, ht⟩ (c_X12_isLess_w l dC dI h g ca (u2 (u2 iv 12 41 n16) 12 19 n151) (u2 (u2 lv 12 17 n152) 12 18 n153) (u2 (u2 fa 12 39 n14) 12 40 n15) (u2 (u2 la 12 42 f154) 12 43 f155) (IX_a (c := 12) (k := 40) (IX_a (c := 12) (k := 39) (IX_i (c := 12) (k := 19) (IX_i (c := 12) (k := 41) hI (show inb (0, 8) n16 from ⟨by omega, by omega⟩)) (full_i _)) hn14) hn15) 1 0 ⟨by decide, by decide⟩ ⟨by decide, by decide⟩) (kV 2 ht m_1544 m_1546 m_60 m_89 m_1547 rfl rfl hd_X12_isLess_v ⟨Nat.le_of_ble_eq_true rfl, Nat.le_of_ble_eq_true rfl⟩) (vR hP hK (rM_12 hK hP)) rfl rfl hl.1 rfl (lv_room (Nat.le_of_ble_eq_true rfl)) dX12_stateOf_171 ⟨Nat.le_of_ble_eq_true rfl, Nat.le_of_ble_eq_true rfl⟩) (fun r176 hr176 => ?_)
                        obtain ⟨hr176, xr176_0⟩ := hr176
                        have xr176_0 : (((r176 : Int32).toInt = 1 ∧ (f154 ((1 : Int32).toInt).toNat * f155 ((0 : Int32).toInt).toNat).toInt < (f154 ((0 : Int32).toInt).toNat * f155 ((1 : Int32).toInt).toNat).toInt) ∨ ((r176 : Int32).toInt = 0 ∧ ¬ (f154 ((1 : Int32).toInt).toNat * f155 ((0 : Int32).toInt).toNat).toInt < (f154 ((0 : Int32).toInt).toNat * f155 ((1 : Int32).toInt).toNat).toInt)) := xr176_0
                        refine lv_if_eq (tgt := 181) hx hb dX12_stateOf_174 (by decide) (fun c177 => ?_) (fun c177 => ?_)
                        · have fc177 := z_eq (rfl : (r176).toInt = _) (by decide : (0 : Int32).toInt = 0) c177
                          refine lv_iconst (v := 0) hx hb dX12_stateOf_181 (by decide) ?_
                          have hFc := free_all hD hS hA
                          refine va_callv (va_runV (As := [.int 0]) (rest := []) ⟨hx, hb, hml, hown, ht⟩ (c_X12_only_w0 l dC dI H.size h g ca (u2 (u2 iv 12 41 n16) 12 19 n151) (u2 (u2 lv 12 17 n152) 12 18 n153) (u2 (u2 fa 12 39 n14) 12 40 n15) (u2 (u2 la 12 42 f154) 12 43 f155) (IX_a (c := 12) (k := 40) (IX_a (c := 12) (k := 39) (IX_i (c := 12) (k := 19) (IX_i (c := 12) (k := 41) hI (show inb (0, 8) n16 from ⟨by omega, by omega⟩)) (full_i _)) hn14) hn15)) (kV 1 ht m_1536 m_1538 m_59 m_89 m_1539 rfl rfl hd_X12_only_v ⟨Nat.le_of_ble_eq_true rfl, Nat.le_of_ble_eq_true rfl⟩) (vW hP hK hD (rM_12 hK hP)) rfl rfl hl.1 rfl (lv_room (Nat.le_of_ble_eq_true rfl)) dX12_stateOf_182 ⟨Nat.le_of_ble_eq_true rfl, Nat.le_of_ble_eq_true rfl⟩) hS (fun q _ h => hFc q h) hFc (fun u t H1 locs ht9 hvm hr178 hB hz1 hk1 hS => ?_)
                          obtain ⟨n179, n180, xr178_0, xr178_1, rfl⟩ := hr178
                          obtain ⟨hP, hD⟩ := hB
                          rw [ht9] at hP
                          generalize H1 = H at hP hS ⊢
                          have hP : va_P (dC, dI) classes (WM h g ca (u2 (u2 iv 12 41 n16) 12 19 n151) (u2 (u2 (u2 (u2 lv 12 17 n152) 12 18 n153) 12 44 n179) 12 45 n180) (u2 (u2 fa 12 39 n14) 12 40 n15) (u2 (u2 la 12 42 f154) 12 43 f155)) H := hP
                          have hD : va_D A (WM h g ca (u2 (u2 iv 12 41 n16) 12 19 n151) (u2 (u2 (u2 (u2 lv 12 17 n152) 12 18 n153) 12 44 n179) 12 45 n180) (u2 (u2 fa 12 39 n14) 12 40 n15) (u2 (u2 la 12 42 f154) 12 43 f155)) := (show va_D _ (WM h g ca (u2 (u2 iv 12 41 n16) 12 19 n151) (u2 (u2 (u2 (u2 lv 12 17 n152) 12 18 n153) 12 44 n179) 12 45 n180) (u2 (u2 fa 12 39 n14) 12 40 n15) (u2 (u2 la 12 42 f154) 12 43 f155)) from hD).weaken (fun _ _ _ h => hFc _ h)
                          have xr178_0 : (n179 : Int64).toInt = (f154 0).toInt := xr178_0
                          have xr178_1 : (n180 : Int64).toInt = (f155 0).toInt := xr178_1
                          refine lv_goto (tgt := 194) hx hb dX12_stateOf_185 (by decide) ?_
                          refine lv_iconst (v := 1) hx hb dX12_stateOf_194 (by decide) ?_
                          have hP9 : va_P (dC, dI) classes (WM h g ca (u2 (u2 iv 12 19 n151) 12 41 n16) (u2 (u2 (u2 (u2 lv 12 17 n152) 12 18 n153) 12 44 n179) 12 45 n180) (u2 (u2 fa 12 39 n14) 12 40 n15) (u2 (u2 la 12 42 f154) 12 43 f155)) H := hP
                          have hD9 : va_D A (WM h g ca (u2 (u2 iv 12 19 n151) 12 41 n16) (u2 (u2 (u2 (u2 lv 12 17 n152) 12 18 n153) 12 44 n179) 12 45 n180) (u2 (u2 fa 12 39 n14) 12 40 n15) (u2 (u2 la 12 42 f154) 12 43 f155)) := hD
                          exact W.iret (v := 1) hx hb hr (fun t ht9 hW => ⟨⟨1, ((u2 (u2 iv 12 19 n151) 12 41 n16), (u2 (u2 (u2 (u2 lv 12 17 n152) 12 18 n153) 12 44 n179) 12 45 n180), (u2 (u2 fa 12 39 n14) 12 40 n15), (u2 (u2 la 12 42 f154) 12 43 f155)), rfl, ⟨n14, n15, f154, f155, n151, n16, n152, n153, n179, n180, hn14, hn15, (show inb (0, 8) n16 from ⟨by omega, by omega⟩), (show LwT (fun q v => FoY (iv 12 23).toInt (fa 12 24) (fa 12 25) (fa 12 26) (fa 12 27) (fa 12 28) q (b).toInt v) (fa 12 4) (fa 12 5) (fa 12 11) (fa 12 12) (fa 12 7) (fa 12 8) (a).toInt (b).toInt ((iv 12 3).toInt).toNat f154 f155 (n179 : Int64).toInt (n180 : Int64).toInt (1 : Int32).toInt from (by
                                have hP9 : ∀ l : Nat, l < 3 → f155 l = sY (fa 12 4) (fa 12 5) (fa 12 11) (fa 12 12) (fa 12 7) a.toInt b.toInt (l : Int) ((iv 12 3).toInt).toNat ∧ f154 l = sY (fa 12 4) (fa 12 5) (fa 12 11) (fa 12 12) (fa 12 8) a.toInt b.toInt (l : Int) ((iv 12 3).toInt).toNat := (fun l hl => by
                                 rcases (by omega : l = 0 ∨ l = 1 ∨ l = 2) with rfl | rfl | rfl
                                 · exact ⟨(show f155 0 = _ from yf155_0).trans sr0, (show f154 0 = _ from yf154_0).trans sd0⟩
                                 · exact ⟨(show f155 1 = _ from yf155_1).trans sr1, (show f154 1 = _ from yf154_1).trans sd1⟩
                                 · exact ⟨(show f155 2 = _ from yf155_2).trans sr2, (show f154 2 = _ from yf154_2).trans sd2⟩)
                                have hd9 := xr168_0
                                rw [dl0, dl1, dl2, dl3] at hd9
                                exact ⟨hP9, ⟨_, (show FoY (iv 12 23).toInt (fa 12 24) (fa 12 25) (fa 12 26) (fa 12 27) (fa 12 28) 1 b.toInt (r1 : Int32).toInt from xr1_0), Or.inr ⟨by omega, _, (show FoY (iv 12 23).toInt (fa 12 24) (fa 12 25) (fa 12 26) (fa 12 27) (fa 12 28) 3 b.toInt (r5 : Int32).toInt from xr5_0), Or.inr ⟨by omega, Or.inr ⟨by omega, r13, (show FoY (iv 12 23).toInt (fa 12 24) (fa 12 25) (fa 12 26) (fa 12 27) (fa 12 28) 2 b.toInt (r13 : Int32).toInt from xr13_0), _, (show FoY (iv 12 23).toInt (fa 12 24) (fa 12 25) (fa 12 26) (fa 12 27) (fa 12 28) 5 b.toInt (r9 : Int32).toInt from xr9_0), Or.inl ⟨(hd9.resolve_left (fun q => by omega)).2, by omega, ⟨0, 0, Or.inr ⟨by omega, (by have h9 := lsN_n (D := f154) (R := f155) (p := 0) (q := 1) (xr176_0.resolve_left (fun q => by omega)).2; omega), rfl⟩, Or.inl ⟨rfl, xr178_0, xr178_1⟩⟩⟩⟩⟩⟩⟩⟩)), ⟨by decide, by decide⟩, rfl⟩, by rw [ht9]; exact hP9, hD9⟩, hS.F ht9⟩) hS.2.2 dX12_stateOf_195
                        · have fc177 := z_ne (rfl : (r176).toInt = _) (by decide : (0 : Int32).toInt = 0) c177
                          refine lv_iconst (v := 1) hx hb dX12_stateOf_177 (by decide) ?_
                          refine lv_goto (tgt := 182) hx hb dX12_stateOf_178 (by decide) ?_
                          have hFc := free_all hD hS hA
                          refine va_callv (va_runV (As := [.int 1]) (rest := []) ⟨hx, hb, hml, hown, ht⟩ (c_X12_only_w1 l dC dI H.size h g ca (u2 (u2 iv 12 41 n16) 12 19 n151) (u2 (u2 lv 12 17 n152) 12 18 n153) (u2 (u2 fa 12 39 n14) 12 40 n15) (u2 (u2 la 12 42 f154) 12 43 f155) (IX_a (c := 12) (k := 40) (IX_a (c := 12) (k := 39) (IX_i (c := 12) (k := 19) (IX_i (c := 12) (k := 41) hI (show inb (0, 8) n16 from ⟨by omega, by omega⟩)) (full_i _)) hn14) hn15)) (kV 1 ht m_1536 m_1538 m_59 m_89 m_1539 rfl rfl hd_X12_only_v ⟨Nat.le_of_ble_eq_true rfl, Nat.le_of_ble_eq_true rfl⟩) (vW hP hK hD (rM_12 hK hP)) rfl rfl hl.1 rfl (lv_room (Nat.le_of_ble_eq_true rfl)) dX12_stateOf_182 ⟨Nat.le_of_ble_eq_true rfl, Nat.le_of_ble_eq_true rfl⟩) hS (fun q _ h => hFc q h) hFc (fun u t H1 locs ht9 hvm hr181 hB hz1 hk1 hS => ?_)
                          obtain ⟨n182, n183, xr181_0, xr181_1, rfl⟩ := hr181
                          obtain ⟨hP, hD⟩ := hB
                          rw [ht9] at hP
                          generalize H1 = H at hP hS ⊢
                          have hP : va_P (dC, dI) classes (WM h g ca (u2 (u2 iv 12 41 n16) 12 19 n151) (u2 (u2 (u2 (u2 lv 12 17 n152) 12 18 n153) 12 44 n182) 12 45 n183) (u2 (u2 fa 12 39 n14) 12 40 n15) (u2 (u2 la 12 42 f154) 12 43 f155)) H := hP
                          have hD : va_D A (WM h g ca (u2 (u2 iv 12 41 n16) 12 19 n151) (u2 (u2 (u2 (u2 lv 12 17 n152) 12 18 n153) 12 44 n182) 12 45 n183) (u2 (u2 fa 12 39 n14) 12 40 n15) (u2 (u2 la 12 42 f154) 12 43 f155)) := (show va_D _ (WM h g ca (u2 (u2 iv 12 41 n16) 12 19 n151) (u2 (u2 (u2 (u2 lv 12 17 n152) 12 18 n153) 12 44 n182) 12 45 n183) (u2 (u2 fa 12 39 n14) 12 40 n15) (u2 (u2 la 12 42 f154) 12 43 f155)) from hD).weaken (fun _ _ _ h => hFc _ h)
                          have xr181_0 : (n182 : Int64).toInt = (f154 1).toInt := xr181_0
                          have xr181_1 : (n183 : Int64).toInt = (f155 1).toInt := xr181_1
                          refine lv_goto (tgt := 194) hx hb dX12_stateOf_185 (by decide) ?_
                          refine lv_iconst (v := 1) hx hb dX12_stateOf_194 (by decide) ?_
                          have hP9 : va_P (dC, dI) classes (WM h g ca (u2 (u2 iv 12 19 n151) 12 41 n16) (u2 (u2 (u2 (u2 lv 12 17 n152) 12 18 n153) 12 44 n182) 12 45 n183) (u2 (u2 fa 12 39 n14) 12 40 n15) (u2 (u2 la 12 42 f154) 12 43 f155)) H := hP
                          have hD9 : va_D A (WM h g ca (u2 (u2 iv 12 19 n151) 12 41 n16) (u2 (u2 (u2 (u2 lv 12 17 n152) 12 18 n153) 12 44 n182) 12 45 n183) (u2 (u2 fa 12 39 n14) 12 40 n15) (u2 (u2 la 12 42 f154) 12 43 f155)) := hD
                          exact W.iret (v := 1) hx hb hr (fun t ht9 hW => ⟨⟨1, ((u2 (u2 iv 12 19 n151) 12 41 n16), (u2 (u2 (u2 (u2 lv 12 17 n152) 12 18 n153) 12 44 n182) 12 45 n183), (u2 (u2 fa 12 39 n14) 12 40 n15), (u2 (u2 la 12 42 f154) 12 43 f155)), rfl, ⟨n14, n15, f154, f155, n151, n16, n152, n153, n182, n183, hn14, hn15, (show inb (0, 8) n16 from ⟨by omega, by omega⟩), (show LwT (fun q v => FoY (iv 12 23).toInt (fa 12 24) (fa 12 25) (fa 12 26) (fa 12 27) (fa 12 28) q (b).toInt v) (fa 12 4) (fa 12 5) (fa 12 11) (fa 12 12) (fa 12 7) (fa 12 8) (a).toInt (b).toInt ((iv 12 3).toInt).toNat f154 f155 (n182 : Int64).toInt (n183 : Int64).toInt (1 : Int32).toInt from (by
                                have hP9 : ∀ l : Nat, l < 3 → f155 l = sY (fa 12 4) (fa 12 5) (fa 12 11) (fa 12 12) (fa 12 7) a.toInt b.toInt (l : Int) ((iv 12 3).toInt).toNat ∧ f154 l = sY (fa 12 4) (fa 12 5) (fa 12 11) (fa 12 12) (fa 12 8) a.toInt b.toInt (l : Int) ((iv 12 3).toInt).toNat := (fun l hl => by
                                 rcases (by omega : l = 0 ∨ l = 1 ∨ l = 2) with rfl | rfl | rfl
                                 · exact ⟨(show f155 0 = _ from yf155_0).trans sr0, (show f154 0 = _ from yf154_0).trans sd0⟩
                                 · exact ⟨(show f155 1 = _ from yf155_1).trans sr1, (show f154 1 = _ from yf154_1).trans sd1⟩
                                 · exact ⟨(show f155 2 = _ from yf155_2).trans sr2, (show f154 2 = _ from yf154_2).trans sd2⟩)
                                have hd9 := xr168_0
                                rw [dl0, dl1, dl2, dl3] at hd9
                                exact ⟨hP9, ⟨_, (show FoY (iv 12 23).toInt (fa 12 24) (fa 12 25) (fa 12 26) (fa 12 27) (fa 12 28) 1 b.toInt (r1 : Int32).toInt from xr1_0), Or.inr ⟨by omega, _, (show FoY (iv 12 23).toInt (fa 12 24) (fa 12 25) (fa 12 26) (fa 12 27) (fa 12 28) 3 b.toInt (r5 : Int32).toInt from xr5_0), Or.inr ⟨by omega, Or.inr ⟨by omega, r13, (show FoY (iv 12 23).toInt (fa 12 24) (fa 12 25) (fa 12 26) (fa 12 27) (fa 12 28) 2 b.toInt (r13 : Int32).toInt from xr13_0), _, (show FoY (iv 12 23).toInt (fa 12 24) (fa 12 25) (fa 12 26) (fa 12 27) (fa 12 28) 5 b.toInt (r9 : Int32).toInt from xr9_0), Or.inl ⟨(hd9.resolve_left (fun q => by omega)).2, by omega, ⟨1, 1, Or.inr ⟨by omega, (by have h9 := lsN_y (D := f154) (R := f155) (p := 0) (q := 1) (xr176_0.resolve_right (fun q => by omega)).2; omega), rfl⟩, Or.inl ⟨rfl, xr181_0, xr181_1⟩⟩⟩⟩⟩⟩⟩⟩)), ⟨by decide, by decide⟩, rfl⟩, by rw [ht9]; exact hP9, hD9⟩, hS.F ht9⟩) hS.2.2 dX12_stateOf_195
                  · exact absurd rfl c163
                · have fc161 := z_eq (rfl : (r5).toInt = _) (by decide : (1 : Int32).toInt = 1) c161
                  refine lv_aload_n hx hb dX12_stateOf_109 rfl (lv_at hl 7 rfl) ?_
                  refine lv_iconst (v := 0) hx hb dX12_stateOf_110 (by decide) ?_
                  have hFc := free_all hD hS hA
                  refine va_callv (va_runV (As := [.int 0]) (rest := []) ⟨hx, hb, hml, hown, ht⟩ (c_X12_only_w0 l dC dI H.size h g ca (u2 (u2 iv 12 41 n16) 12 19 n151) (u2 (u2 lv 12 17 n152) 12 18 n153) (u2 (u2 fa 12 39 n14) 12 40 n15) (u2 (u2 la 12 42 f154) 12 43 f155) (IX_a (c := 12) (k := 40) (IX_a (c := 12) (k := 39) (IX_i (c := 12) (k := 19) (IX_i (c := 12) (k := 41) hI (show inb (0, 8) n16 from ⟨by omega, by omega⟩)) (full_i _)) hn14) hn15)) (kV 1 ht m_1536 m_1538 m_59 m_89 m_1539 rfl rfl hd_X12_only_v ⟨Nat.le_of_ble_eq_true rfl, Nat.le_of_ble_eq_true rfl⟩) (vW hP hK hD (rM_12 hK hP)) rfl rfl hl.1 rfl (lv_room (Nat.le_of_ble_eq_true rfl)) dX12_stateOf_111 ⟨Nat.le_of_ble_eq_true rfl, Nat.le_of_ble_eq_true rfl⟩) hS (fun q _ h => hFc q h) hFc (fun u t H1 locs ht9 hvm hr184 hB hz1 hk1 hS => ?_)
                  obtain ⟨n185, n186, xr184_0, xr184_1, rfl⟩ := hr184
                  obtain ⟨hP, hD⟩ := hB
                  rw [ht9] at hP
                  generalize H1 = H at hP hS ⊢
                  have hP : va_P (dC, dI) classes (WM h g ca (u2 (u2 iv 12 41 n16) 12 19 n151) (u2 (u2 (u2 (u2 lv 12 17 n152) 12 18 n153) 12 44 n185) 12 45 n186) (u2 (u2 fa 12 39 n14) 12 40 n15) (u2 (u2 la 12 42 f154) 12 43 f155)) H := hP
                  have hD : va_D A (WM h g ca (u2 (u2 iv 12 41 n16) 12 19 n151) (u2 (u2 (u2 (u2 lv 12 17 n152) 12 18 n153) 12 44 n185) 12 45 n186) (u2 (u2 fa 12 39 n14) 12 40 n15) (u2 (u2 la 12 42 f154) 12 43 f155)) := (show va_D _ (WM h g ca (u2 (u2 iv 12 41 n16) 12 19 n151) (u2 (u2 (u2 (u2 lv 12 17 n152) 12 18 n153) 12 44 n185) 12 45 n186) (u2 (u2 fa 12 39 n14) 12 40 n15) (u2 (u2 la 12 42 f154) 12 43 f155)) from hD).weaken (fun _ _ _ h => hFc _ h)
                  have xr184_0 : (n185 : Int64).toInt = (f154 0).toInt := xr184_0
                  have xr184_1 : (n186 : Int64).toInt = (f155 0).toInt := xr184_1
                  refine lv_iload hx hb dX12_stateOf_114 (lv_at hl 1 rfl) ?_
                  refine lv_iconst (v := 1) hx hb dX12_stateOf_116 (by decide) ?_
                  refine lv_iand hx hb dX12_stateOf_117 ?_
                  refine lv_topi (fun v187 ev187 => ?_)
                  obtain rfl : 1 = v187 := (ev187.trans (by decide)).symm
                  have hP9 : va_P (dC, dI) classes (WM h g ca (u2 (u2 iv 12 19 n151) 12 41 n16) (u2 (u2 (u2 (u2 lv 12 17 n152) 12 18 n153) 12 44 n185) 12 45 n186) (u2 (u2 fa 12 39 n14) 12 40 n15) (u2 (u2 la 12 42 f154) 12 43 f155)) H := hP
                  have hD9 : va_D A (WM h g ca (u2 (u2 iv 12 19 n151) 12 41 n16) (u2 (u2 (u2 (u2 lv 12 17 n152) 12 18 n153) 12 44 n185) 12 45 n186) (u2 (u2 fa 12 39 n14) 12 40 n15) (u2 (u2 la 12 42 f154) 12 43 f155)) := hD
                  exact W.iret (v := 1) hx hb hr (fun t ht9 hW => ⟨⟨1, ((u2 (u2 iv 12 19 n151) 12 41 n16), (u2 (u2 (u2 (u2 lv 12 17 n152) 12 18 n153) 12 44 n185) 12 45 n186), (u2 (u2 fa 12 39 n14) 12 40 n15), (u2 (u2 la 12 42 f154) 12 43 f155)), rfl, ⟨n14, n15, f154, f155, n151, n16, n152, n153, n185, n186, hn14, hn15, (show inb (0, 8) n16 from ⟨by omega, by omega⟩), (show LwT (fun q v => FoY (iv 12 23).toInt (fa 12 24) (fa 12 25) (fa 12 26) (fa 12 27) (fa 12 28) q (b).toInt v) (fa 12 4) (fa 12 5) (fa 12 11) (fa 12 12) (fa 12 7) (fa 12 8) (a).toInt (b).toInt ((iv 12 3).toInt).toNat f154 f155 (n185 : Int64).toInt (n186 : Int64).toInt (1 : Int32).toInt from (by
                        have hP9 : ∀ l : Nat, l < 3 → f155 l = sY (fa 12 4) (fa 12 5) (fa 12 11) (fa 12 12) (fa 12 7) a.toInt b.toInt (l : Int) ((iv 12 3).toInt).toNat ∧ f154 l = sY (fa 12 4) (fa 12 5) (fa 12 11) (fa 12 12) (fa 12 8) a.toInt b.toInt (l : Int) ((iv 12 3).toInt).toNat := (fun l hl => by
                         rcases (by omega : l = 0 ∨ l = 1 ∨ l = 2) with rfl | rfl | rfl
                         · exact ⟨(show f155 0 = _ from yf155_0).trans sr0, (show f154 0 = _ from yf154_0).trans sd0⟩
                         · exact ⟨(show f155 1 = _ from yf155_1).trans sr1, (show f154 1 = _ from yf154_1).trans sd1⟩
                         · exact ⟨(show f155 2 = _ from yf155_2).trans sr2, (show f154 2 = _ from yf154_2).trans sd2⟩)
                        exact ⟨hP9, ⟨_, (show FoY (iv 12 23).toInt (fa 12 24) (fa 12 25) (fa 12 26) (fa 12 27) (fa 12 28) 1 b.toInt (r1 : Int32).toInt from xr1_0), Or.inr ⟨by omega, _, (show FoY (iv 12 23).toInt (fa 12 24) (fa 12 25) (fa 12 26) (fa 12 27) (fa 12 28) 3 b.toInt (r5 : Int32).toInt from xr5_0), Or.inl ⟨by omega, by omega, xr184_0, xr184_1⟩⟩⟩⟩)), ⟨by decide, by decide⟩, rfl⟩, by rw [ht9]; exact hP9, hD9⟩, hS.F ht9⟩) hS.2.2 dX12_stateOf_118
              · exact absurd c160 (by decide)
            · have fc156 := z_nlt (rfl : (r150).toInt = _) (rfl : (r1).toInt = _) c156
              refine lv_iconst (v := 1) hx hb dX12_stateOf_83 (by decide) ?_
              refine lv_goto (tgt := 88) hx hb dX12_stateOf_84 (by decide) ?_
              refine vp_callSi (W.runS (As := [.int 1]) (rest := [.int 3]) ⟨hx, hb, hml, hown, ht⟩ (c_X12_bit_1 l dC dI) (kS 1 ht m_1396 m_1397 m_89 m_1398 rfl rfl hd_X12_bit_v ⟨Nat.le_of_ble_eq_true rfl, Nat.le_of_ble_eq_true rfl⟩) (sR noP (hK.sub (tys' := []) [] rfl)) rfl rfl hl.1 rfl (lv_room (Nat.le_of_ble_eq_true rfl)) dX12_stateOf_88 ⟨Nat.le_of_ble_eq_true rfl, Nat.le_of_ble_eq_true rfl⟩) (fun r188 hr188 => ?_)
              obtain rfl : 1 = r188 := hr188.symm
              refine lv_iload hx hb dX12_stateOf_91 (lv_at hl 1 rfl) ?_
              refine lv_ishl hx hb dX12_stateOf_93 ?_
              refine lv_topi (fun v189 ev189 => ?_)
              obtain rfl : 4 = v189 := (ev189.trans (by decide)).symm
              refine lv_ior hx hb dX12_stateOf_94 ?_
              refine lv_topi (fun v190 ev190 => ?_)
              obtain rfl : 7 = v190 := (ev190.trans (by decide)).symm
              refine lv_istore (lv' := [(7, .int 7), (9, .int r150), (8, .int 2), (6, .int r13), (5, .int r9), (4, .int r5), (3, .int r1), (0, .ref h), (1, .int a), (2, .int b)]) hx hb dX12_stateOf_95 hl (by decide) rfl (fun ls hl => ?_)
              refine lv_iinc (v := 3) (lv' := [(8, .int 3), (7, .int 7), (9, .int r150), (6, .int r13), (5, .int r9), (4, .int r5), (3, .int r1), (0, .ref h), (1, .int a), (2, .int b)]) hx hb dX12_stateOf_97 hl (k := 2) rfl (by decide) (by decide) rfl (fun ls hl => ?_)
              refine lv_goto (tgt := 37) hx hb dX12_stateOf_100 (by decide) ?_
              refine lv_iload hx hb dX12_stateOf_37 (lv_at hl 0 rfl) ?_
              refine lv_iconst (v := 3) hx hb dX12_stateOf_39 (by decide) ?_
              refine lv_icmp_ge (tgt := 103) hx hb dX12_stateOf_40 (by decide) (fun c191 => ?_) (fun c191 => ?_)
              · skip
                refine lv_iload hx hb dX12_stateOf_103 (lv_at hl 5 rfl) ?_
                refine lv_iconst (v := 1) hx hb dX12_stateOf_105 (by decide) ?_
                refine lv_icmp_ne (tgt := 119) hx hb dX12_stateOf_106 (by decide) (fun c192 => ?_) (fun c192 => ?_)
                · have fc192 := z_ne (rfl : (r5).toInt = _) (by decide : (1 : Int32).toInt = 1) c192
                  refine lv_iload hx hb dX12_stateOf_119 (lv_at hl 1 rfl) ?_
                  refine lv_iconst (v := 3) hx hb dX12_stateOf_121 (by decide) ?_
                  refine lv_iand hx hb dX12_stateOf_122 ?_
                  refine lv_topi (fun v193 ev193 => ?_)
                  obtain rfl : 3 = v193 := (ev193.trans (by decide)).symm
                  refine lv_iconst (v := 3) hx hb dX12_stateOf_123 (by decide) ?_
                  refine lv_icmp_eq (tgt := 129) hx hb dX12_stateOf_124 (by decide) (fun c194 => ?_) (fun c194 => ?_)
                  · skip
                    refine lv_aload_n hx hb dX12_stateOf_129 rfl (lv_at hl 7 rfl) ?_
                    refine gM_12_42 hx hb ht hown hK hP m_1181 dX12_stateOf_130 ?_
                    refine lv_iconst (v := 0) hx hb dX12_stateOf_133 (by decide) ?_
                    refine lM_12_42 hx hb hK hP (f := f154) rfl (vp_in_iff.mpr (by decide)) dX12_stateOf_134 ?_
                    refine lv_topl (fun w195 ew195 => ?_)
                    have dl0 : w195 = f154 0 := ew195
                    refine lv_aload_n hx hb dX12_stateOf_135 rfl (lv_at hl 7 rfl) ?_
                    refine gM_12_43 hx hb ht hown hK hP m_1182 dX12_stateOf_136 ?_
                    refine lv_iconst (v := 0) hx hb dX12_stateOf_139 (by decide) ?_
                    refine lM_12_43 hx hb hK hP (f := f155) rfl (vp_in_iff.mpr (by decide)) dX12_stateOf_140 ?_
                    refine lv_topl (fun w196 ew196 => ?_)
                    have dl1 : w196 = f155 0 := ew196
                    refine lv_aload_n hx hb dX12_stateOf_141 rfl (lv_at hl 7 rfl) ?_
                    refine gM_12_42 hx hb ht hown hK hP m_1181 dX12_stateOf_142 ?_
                    refine lv_iconst (v := 1) hx hb dX12_stateOf_145 (by decide) ?_
                    refine lM_12_42 hx hb hK hP (f := f154) rfl (vp_in_iff.mpr (by decide)) dX12_stateOf_146 ?_
                    refine lv_topl (fun w197 ew197 => ?_)
                    have dl2 : w197 = f154 1 := ew197
                    refine lv_aload_n hx hb dX12_stateOf_147 rfl (lv_at hl 7 rfl) ?_
                    refine gM_12_43 hx hb ht hown hK hP m_1182 dX12_stateOf_148 ?_
                    refine lv_iconst (v := 1) hx hb dX12_stateOf_151 (by decide) ?_
                    refine lM_12_43 hx hb hK hP (f := f155) rfl (vp_in_iff.mpr (by decide)) dX12_stateOf_152 ?_
                    refine lv_topl (fun w198 ew198 => ?_)
                    have dl3 : w198 = f155 1 := ew198
                    refine lv_iload hx hb dX12_stateOf_153 (lv_at hl 3 rfl) ?_
                    refine vp_callSi (W.runS (As := [.long w195, .long w196, .long w197, .long w198, .int r13]) (rest := []) ⟨hx, hb, hml, hown, ht⟩ (c_X12_doPart_f l dC dI w195 w196 w197 w198 r13) (kS 5 ht m_1540 m_1541 m_89 m_1542 rfl rfl hd_X12_doPart_v ⟨Nat.le_of_ble_eq_true rfl, Nat.le_of_ble_eq_true rfl⟩) (sR noP (hK.sub (tys' := []) [] rfl)) rfl rfl hl.1 rfl (lv_room (Nat.le_of_ble_eq_true rfl)) dX12_stateOf_155 ⟨Nat.le_of_ble_eq_true rfl, Nat.le_of_ble_eq_true rfl⟩) (fun r199 hr199 => ?_)
                    obtain ⟨hr199, xr199_0⟩ := hr199
                    have xr199_0 : (((r199 : Int32).toInt = 1 ∧ difL (w195 : Int64) (w196 : Int64) (w197 : Int64) (w198 : Int64) (r13 : Int32)) ∨ ((r199 : Int32).toInt = 0 ∧ ¬ difL (w195 : Int64) (w196 : Int64) (w197 : Int64) (w198 : Int64) (r13 : Int32))) := xr199_0
                    refine lv_if_ne (tgt := 196) hx hb dX12_stateOf_158 (by decide) (fun c200 => ?_) (fun c200 => ?_)
                    · have fc200 := z_ne (rfl : (r199).toInt = _) (by decide : (0 : Int32).toInt = 0) c200
                      refine lv_iload hx hb dX12_stateOf_196 (lv_at hl 1 rfl) ?_
                      refine lv_iconst (v := 4) hx hb dX12_stateOf_198 (by decide) ?_
                      refine lv_iand hx hb dX12_stateOf_199 ?_
                      refine lv_topi (fun v201 ev201 => ?_)
                      obtain rfl : 4 = v201 := (ev201.trans (by decide)).symm
                      refine lv_if_ne (tgt := 205) hx hb dX12_stateOf_200 (by decide) (fun c202 => ?_) (fun c202 => ?_)
                      · skip
                        refine lv_aload_n hx hb dX12_stateOf_205 rfl (lv_at hl 7 rfl) ?_
                        refine lv_iload hx hb dX12_stateOf_206 (lv_at hl 4 rfl) ?_
                        have hFc := free_all hD hS hA
                        refine va_callv (va_runV (As := [.int r9]) (rest := []) ⟨hx, hb, hml, hown, ht⟩ (c_X12_settleThree_w l dC dI H.size h g ca (u2 (u2 iv 12 41 n16) 12 19 n151) (u2 (u2 lv 12 17 n152) 12 18 n153) (u2 (u2 fa 12 39 n14) 12 40 n15) (u2 (u2 la 12 42 f154) 12 43 f155) (IX_a (c := 12) (k := 40) (IX_a (c := 12) (k := 39) (IX_i (c := 12) (k := 19) (IX_i (c := 12) (k := 41) hI (show inb (0, 8) n16 from ⟨by omega, by omega⟩)) (full_i _)) hn14) hn15) r9) (kV 1 ht m_1552 m_1554 m_62 m_89 m_1555 rfl rfl hd_X12_settleThree_v ⟨Nat.le_of_ble_eq_true rfl, Nat.le_of_ble_eq_true rfl⟩) (vW hP hK hD (rM_12 hK hP)) rfl rfl hl.1 rfl (lv_room (Nat.le_of_ble_eq_true rfl)) dX12_stateOf_208 ⟨Nat.le_of_ble_eq_true rfl, Nat.le_of_ble_eq_true rfl⟩) hS (fun q _ h => hFc q h) hFc (fun u t H1 locs ht9 hvm hr203 hB hz1 hk1 hS => ?_)
                        obtain ⟨n204, n205, xr203_0, rfl⟩ := hr203
                        obtain ⟨hP, hD⟩ := hB
                        rw [ht9] at hP
                        generalize H1 = H at hP hS ⊢
                        have hP : va_P (dC, dI) classes (WM h g ca (u2 (u2 iv 12 41 n16) 12 19 n151) (u2 (u2 (u2 (u2 lv 12 17 n152) 12 18 n153) 12 44 n204) 12 45 n205) (u2 (u2 fa 12 39 n14) 12 40 n15) (u2 (u2 la 12 42 f154) 12 43 f155)) H := hP
                        have hD : va_D A (WM h g ca (u2 (u2 iv 12 41 n16) 12 19 n151) (u2 (u2 (u2 (u2 lv 12 17 n152) 12 18 n153) 12 44 n204) 12 45 n205) (u2 (u2 fa 12 39 n14) 12 40 n15) (u2 (u2 la 12 42 f154) 12 43 f155)) := (show va_D _ (WM h g ca (u2 (u2 iv 12 41 n16) 12 19 n151) (u2 (u2 (u2 (u2 lv 12 17 n152) 12 18 n153) 12 44 n204) 12 45 n205) (u2 (u2 fa 12 39 n14) 12 40 n15) (u2 (u2 la 12 42 f154) 12 43 f155)) from hD).weaken (fun _ _ _ h => hFc _ h)
                        have xr203_0 : thY f154 f155 (n204 : Int64).toInt (n205 : Int64).toInt (r9 : Int32).toInt := xr203_0
                        refine lv_iconst (v := 1) hx hb dX12_stateOf_211 (by decide) ?_
                        have hP9 : va_P (dC, dI) classes (WM h g ca (u2 (u2 iv 12 19 n151) 12 41 n16) (u2 (u2 (u2 (u2 lv 12 17 n152) 12 18 n153) 12 44 n204) 12 45 n205) (u2 (u2 fa 12 39 n14) 12 40 n15) (u2 (u2 la 12 42 f154) 12 43 f155)) H := hP
                        have hD9 : va_D A (WM h g ca (u2 (u2 iv 12 19 n151) 12 41 n16) (u2 (u2 (u2 (u2 lv 12 17 n152) 12 18 n153) 12 44 n204) 12 45 n205) (u2 (u2 fa 12 39 n14) 12 40 n15) (u2 (u2 la 12 42 f154) 12 43 f155)) := hD
                        exact W.iret (v := 1) hx hb hr (fun t ht9 hW => ⟨⟨1, ((u2 (u2 iv 12 19 n151) 12 41 n16), (u2 (u2 (u2 (u2 lv 12 17 n152) 12 18 n153) 12 44 n204) 12 45 n205), (u2 (u2 fa 12 39 n14) 12 40 n15), (u2 (u2 la 12 42 f154) 12 43 f155)), rfl, ⟨n14, n15, f154, f155, n151, n16, n152, n153, n204, n205, hn14, hn15, (show inb (0, 8) n16 from ⟨by omega, by omega⟩), (show LwT (fun q v => FoY (iv 12 23).toInt (fa 12 24) (fa 12 25) (fa 12 26) (fa 12 27) (fa 12 28) q (b).toInt v) (fa 12 4) (fa 12 5) (fa 12 11) (fa 12 12) (fa 12 7) (fa 12 8) (a).toInt (b).toInt ((iv 12 3).toInt).toNat f154 f155 (n204 : Int64).toInt (n205 : Int64).toInt (1 : Int32).toInt from (by
                              have hP9 : ∀ l : Nat, l < 3 → f155 l = sY (fa 12 4) (fa 12 5) (fa 12 11) (fa 12 12) (fa 12 7) a.toInt b.toInt (l : Int) ((iv 12 3).toInt).toNat ∧ f154 l = sY (fa 12 4) (fa 12 5) (fa 12 11) (fa 12 12) (fa 12 8) a.toInt b.toInt (l : Int) ((iv 12 3).toInt).toNat := (fun l hl => by
                               rcases (by omega : l = 0 ∨ l = 1 ∨ l = 2) with rfl | rfl | rfl
                               · exact ⟨(show f155 0 = _ from yf155_0).trans sr0, (show f154 0 = _ from yf154_0).trans sd0⟩
                               · exact ⟨(show f155 1 = _ from yf155_1).trans sr1, (show f154 1 = _ from yf154_1).trans sd1⟩
                               · exact ⟨(show f155 2 = _ from yf155_2).trans sr2, (show f154 2 = _ from yf154_2).trans sd2⟩)
                              have hd9 := xr199_0
                              rw [dl0, dl1, dl2, dl3] at hd9
                              exact ⟨hP9, ⟨_, (show FoY (iv 12 23).toInt (fa 12 24) (fa 12 25) (fa 12 26) (fa 12 27) (fa 12 28) 1 b.toInt (r1 : Int32).toInt from xr1_0), Or.inr ⟨by omega, _, (show FoY (iv 12 23).toInt (fa 12 24) (fa 12 25) (fa 12 26) (fa 12 27) (fa 12 28) 3 b.toInt (r5 : Int32).toInt from xr5_0), Or.inr ⟨by omega, Or.inr ⟨by omega, r13, (show FoY (iv 12 23).toInt (fa 12 24) (fa 12 25) (fa 12 26) (fa 12 27) (fa 12 28) 2 b.toInt (r13 : Int32).toInt from xr13_0), _, (show FoY (iv 12 23).toInt (fa 12 24) (fa 12 25) (fa 12 26) (fa 12 27) (fa 12 28) 5 b.toInt (r9 : Int32).toInt from xr9_0), Or.inr ⟨(hd9.resolve_right (fun q => by omega)).2, Or.inr ⟨by omega, by omega, xr203_0⟩⟩⟩⟩⟩⟩⟩)), ⟨by decide, by decide⟩, rfl⟩, by rw [ht9]; exact hP9, hD9⟩, hS.F ht9⟩) hS.2.2 dX12_stateOf_212
                      · exact absurd c202 (by decide)
                    · have fc200 := z_eq (rfl : (r199).toInt = _) (by decide : (0 : Int32).toInt = 0) c200
                      refine lv_iload hx hb dX12_stateOf_161 (lv_at hl 4 rfl) ?_
                      refine lv_iconst (v := 1) hx hb dX12_stateOf_163 (by decide) ?_
                      refine lv_icmp_ne (tgt := 188) hx hb dX12_stateOf_164 (by decide) (fun c206 => ?_) (fun c206 => ?_)
                      · have fc206 := z_ne (rfl : (r9).toInt = _) (by decide : (1 : Int32).toInt = 1) c206
                        refine lv_aload_n hx hb dX12_stateOf_188 rfl (lv_at hl 7 rfl) ?_
                        refine lv_iconst (v := 0) hx hb dX12_stateOf_189 (by decide) ?_
                        refine lv_iconst (v := 1) hx hb dX12_stateOf_190 (by decide) ?_
                        have hFc := free_all hD hS hA
                        refine va_callv (va_runV (As := [.int 0, .int 1]) (rest := []) ⟨hx, hb, hml, hown, ht⟩ (c_X12_half_w01 l dC dI H.size h g ca (u2 (u2 iv 12 41 n16) 12 19 n151) (u2 (u2 lv 12 17 n152) 12 18 n153) (u2 (u2 fa 12 39 n14) 12 40 n15) (u2 (u2 la 12 42 f154) 12 43 f155) (IX_a (c := 12) (k := 40) (IX_a (c := 12) (k := 39) (IX_i (c := 12) (k := 19) (IX_i (c := 12) (k := 41) hI (show inb (0, 8) n16 from ⟨by omega, by omega⟩)) (full_i _)) hn14) hn15)) (kV 2 ht m_1548 m_1550 m_61 m_89 m_1551 rfl rfl hd_X12_half_v ⟨Nat.le_of_ble_eq_true rfl, Nat.le_of_ble_eq_true rfl⟩) (vW hP hK hD (rM_12 hK hP)) rfl rfl hl.1 rfl (lv_room (Nat.le_of_ble_eq_true rfl)) dX12_stateOf_191 ⟨Nat.le_of_ble_eq_true rfl, Nat.le_of_ble_eq_true rfl⟩) hS (fun q _ h => hFc q h) hFc (fun u t H1 locs ht9 hvm hr207 hB hz1 hk1 hS => ?_)
                        obtain ⟨n208, n209, xr207_0, xr207_1, rfl⟩ := hr207
                        obtain ⟨hP, hD⟩ := hB
                        rw [ht9] at hP
                        generalize H1 = H at hP hS ⊢
                        have hP : va_P (dC, dI) classes (WM h g ca (u2 (u2 iv 12 41 n16) 12 19 n151) (u2 (u2 (u2 (u2 lv 12 17 n152) 12 18 n153) 12 44 n208) 12 45 n209) (u2 (u2 fa 12 39 n14) 12 40 n15) (u2 (u2 la 12 42 f154) 12 43 f155)) H := hP
                        have hD : va_D A (WM h g ca (u2 (u2 iv 12 41 n16) 12 19 n151) (u2 (u2 (u2 (u2 lv 12 17 n152) 12 18 n153) 12 44 n208) 12 45 n209) (u2 (u2 fa 12 39 n14) 12 40 n15) (u2 (u2 la 12 42 f154) 12 43 f155)) := (show va_D _ (WM h g ca (u2 (u2 iv 12 41 n16) 12 19 n151) (u2 (u2 (u2 (u2 lv 12 17 n152) 12 18 n153) 12 44 n208) 12 45 n209) (u2 (u2 fa 12 39 n14) 12 40 n15) (u2 (u2 la 12 42 f154) 12 43 f155)) from hD).weaken (fun _ _ _ h => hFc _ h)
                        have xr207_0 : (n208 : Int64).toInt = (f154 0 * f155 1 + f154 1 * f155 0).toInt := xr207_0
                        have xr207_1 : (n209 : Int64).toInt = (2 * f155 0 * f155 1).toInt := xr207_1
                        refine lv_iconst (v := 1) hx hb dX12_stateOf_194 (by decide) ?_
                        have hP9 : va_P (dC, dI) classes (WM h g ca (u2 (u2 iv 12 19 n151) 12 41 n16) (u2 (u2 (u2 (u2 lv 12 17 n152) 12 18 n153) 12 44 n208) 12 45 n209) (u2 (u2 fa 12 39 n14) 12 40 n15) (u2 (u2 la 12 42 f154) 12 43 f155)) H := hP
                        have hD9 : va_D A (WM h g ca (u2 (u2 iv 12 19 n151) 12 41 n16) (u2 (u2 (u2 (u2 lv 12 17 n152) 12 18 n153) 12 44 n208) 12 45 n209) (u2 (u2 fa 12 39 n14) 12 40 n15) (u2 (u2 la 12 42 f154) 12 43 f155)) := hD
                        exact W.iret (v := 1) hx hb hr (fun t ht9 hW => ⟨⟨1, ((u2 (u2 iv 12 19 n151) 12 41 n16), (u2 (u2 (u2 (u2 lv 12 17 n152) 12 18 n153) 12 44 n208) 12 45 n209), (u2 (u2 fa 12 39 n14) 12 40 n15), (u2 (u2 la 12 42 f154) 12 43 f155)), rfl, ⟨n14, n15, f154, f155, n151, n16, n152, n153, n208, n209, hn14, hn15, (show inb (0, 8) n16 from ⟨by omega, by omega⟩), (show LwT (fun q v => FoY (iv 12 23).toInt (fa 12 24) (fa 12 25) (fa 12 26) (fa 12 27) (fa 12 28) q (b).toInt v) (fa 12 4) (fa 12 5) (fa 12 11) (fa 12 12) (fa 12 7) (fa 12 8) (a).toInt (b).toInt ((iv 12 3).toInt).toNat f154 f155 (n208 : Int64).toInt (n209 : Int64).toInt (1 : Int32).toInt from (by
                              have hP9 : ∀ l : Nat, l < 3 → f155 l = sY (fa 12 4) (fa 12 5) (fa 12 11) (fa 12 12) (fa 12 7) a.toInt b.toInt (l : Int) ((iv 12 3).toInt).toNat ∧ f154 l = sY (fa 12 4) (fa 12 5) (fa 12 11) (fa 12 12) (fa 12 8) a.toInt b.toInt (l : Int) ((iv 12 3).toInt).toNat := (fun l hl => by
                               rcases (by omega : l = 0 ∨ l = 1 ∨ l = 2) with rfl | rfl | rfl
                               · exact ⟨(show f155 0 = _ from yf155_0).trans sr0, (show f154 0 = _ from yf154_0).trans sd0⟩
                               · exact ⟨(show f155 1 = _ from yf155_1).trans sr1, (show f154 1 = _ from yf154_1).trans sd1⟩
                               · exact ⟨(show f155 2 = _ from yf155_2).trans sr2, (show f154 2 = _ from yf154_2).trans sd2⟩)
                              have hd9 := xr199_0
                              rw [dl0, dl1, dl2, dl3] at hd9
                              exact ⟨hP9, ⟨_, (show FoY (iv 12 23).toInt (fa 12 24) (fa 12 25) (fa 12 26) (fa 12 27) (fa 12 28) 1 b.toInt (r1 : Int32).toInt from xr1_0), Or.inr ⟨by omega, _, (show FoY (iv 12 23).toInt (fa 12 24) (fa 12 25) (fa 12 26) (fa 12 27) (fa 12 28) 3 b.toInt (r5 : Int32).toInt from xr5_0), Or.inr ⟨by omega, Or.inr ⟨by omega, r13, (show FoY (iv 12 23).toInt (fa 12 24) (fa 12 25) (fa 12 26) (fa 12 27) (fa 12 28) 2 b.toInt (r13 : Int32).toInt from xr13_0), _, (show FoY (iv 12 23).toInt (fa 12 24) (fa 12 25) (fa 12 26) (fa 12 27) (fa 12 28) 5 b.toInt (r9 : Int32).toInt from xr9_0), Or.inl ⟨(hd9.resolve_left (fun q => by omega)).2, by omega, ⟨0, 1, Or.inl ⟨by omega, rfl, rfl⟩, Or.inr ⟨by decide, xr207_0, xr207_1⟩⟩⟩⟩⟩⟩⟩⟩)), ⟨by decide, by decide⟩, rfl⟩, by rw [ht9]; exact hP9, hD9⟩, hS.F ht9⟩) hS.2.2 dX12_stateOf_195
                      · have fc206 := z_eq (rfl : (r9).toInt = _) (by decide : (1 : Int32).toInt = 1) c206
                        refine lv_aload_n hx hb dX12_stateOf_167 rfl (lv_at hl 7 rfl) ?_
                        refine lv_aload_n hx hb dX12_stateOf_168 rfl (lv_at hl 7 rfl) ?_
                        refine lv_iconst (v := 1) hx hb dX12_stateOf_169 (by decide) ?_
                        refine lv_iconst (v := 0) hx hb dX12_stateOf_170 (by decide) ?_
                        refine vp_callSi (W.runV (As := [.int 1, .int 0]) (rest := [.ref h]) ⟨hx, hb, hml, hown, ht⟩ (c_X12_isLess_w l dC dI h g ca (u2 (u2 iv 12 41 n16) 12 19 n151) (u2 (u2 lv 12 17 n152) 12 18 n153) (u2 (u2 fa 12 39 n14) 12 40 n15) (u2 (u2 la 12 42 f154) 12 43 f155) (IX_a (c := 12) (k := 40) (IX_a (c := 12) (k := 39) (IX_i (c := 12) (k := 19) (IX_i (c := 12) (k := 41) hI (show inb (0, 8) n16 from ⟨by omega, by omega⟩)) (full_i _)) hn14) hn15) 1 0 ⟨by decide, by decide⟩ ⟨by decide, by decide⟩) (kV 2 ht m_1544 m_1546 m_60 m_89 m_1547 rfl rfl hd_X12_isLess_v ⟨Nat.le_of_ble_eq_true rfl, Nat.le_of_ble_eq_true rfl⟩) (vR hP hK (rM_12 hK hP)) rfl rfl hl.1 rfl (lv_room (Nat.le_of_ble_eq_true rfl)) dX12_stateOf_171 ⟨Nat.le_of_ble_eq_true rfl, Nat.le_of_ble_eq_true rfl⟩) (fun r210 hr210 => ?_)
                        obtain ⟨hr210, xr210_0⟩ := hr210
                        have xr210_0 : (((r210 : Int32).toInt = 1 ∧ (f154 ((1 : Int32).toInt).toNat * f155 ((0 : Int32).toInt).toNat).toInt < (f154 ((0 : Int32).toInt).toNat * f155 ((1 : Int32).toInt).toNat).toInt) ∨ ((r210 : Int32).toInt = 0 ∧ ¬ (f154 ((1 : Int32).toInt).toNat * f155 ((0 : Int32).toInt).toNat).toInt < (f154 ((0 : Int32).toInt).toNat * f155 ((1 : Int32).toInt).toNat).toInt)) := xr210_0
                        refine lv_if_eq (tgt := 181) hx hb dX12_stateOf_174 (by decide) (fun c211 => ?_) (fun c211 => ?_)
                        · have fc211 := z_eq (rfl : (r210).toInt = _) (by decide : (0 : Int32).toInt = 0) c211
                          refine lv_iconst (v := 0) hx hb dX12_stateOf_181 (by decide) ?_
                          have hFc := free_all hD hS hA
                          refine va_callv (va_runV (As := [.int 0]) (rest := []) ⟨hx, hb, hml, hown, ht⟩ (c_X12_only_w0 l dC dI H.size h g ca (u2 (u2 iv 12 41 n16) 12 19 n151) (u2 (u2 lv 12 17 n152) 12 18 n153) (u2 (u2 fa 12 39 n14) 12 40 n15) (u2 (u2 la 12 42 f154) 12 43 f155) (IX_a (c := 12) (k := 40) (IX_a (c := 12) (k := 39) (IX_i (c := 12) (k := 19) (IX_i (c := 12) (k := 41) hI (show inb (0, 8) n16 from ⟨by omega, by omega⟩)) (full_i _)) hn14) hn15)) (kV 1 ht m_1536 m_1538 m_59 m_89 m_1539 rfl rfl hd_X12_only_v ⟨Nat.le_of_ble_eq_true rfl, Nat.le_of_ble_eq_true rfl⟩) (vW hP hK hD (rM_12 hK hP)) rfl rfl hl.1 rfl (lv_room (Nat.le_of_ble_eq_true rfl)) dX12_stateOf_182 ⟨Nat.le_of_ble_eq_true rfl, Nat.le_of_ble_eq_true rfl⟩) hS (fun q _ h => hFc q h) hFc (fun u t H1 locs ht9 hvm hr212 hB hz1 hk1 hS => ?_)
                          obtain ⟨n213, n214, xr212_0, xr212_1, rfl⟩ := hr212
                          obtain ⟨hP, hD⟩ := hB
                          rw [ht9] at hP
                          generalize H1 = H at hP hS ⊢
                          have hP : va_P (dC, dI) classes (WM h g ca (u2 (u2 iv 12 41 n16) 12 19 n151) (u2 (u2 (u2 (u2 lv 12 17 n152) 12 18 n153) 12 44 n213) 12 45 n214) (u2 (u2 fa 12 39 n14) 12 40 n15) (u2 (u2 la 12 42 f154) 12 43 f155)) H := hP
                          have hD : va_D A (WM h g ca (u2 (u2 iv 12 41 n16) 12 19 n151) (u2 (u2 (u2 (u2 lv 12 17 n152) 12 18 n153) 12 44 n213) 12 45 n214) (u2 (u2 fa 12 39 n14) 12 40 n15) (u2 (u2 la 12 42 f154) 12 43 f155)) := (show va_D _ (WM h g ca (u2 (u2 iv 12 41 n16) 12 19 n151) (u2 (u2 (u2 (u2 lv 12 17 n152) 12 18 n153) 12 44 n213) 12 45 n214) (u2 (u2 fa 12 39 n14) 12 40 n15) (u2 (u2 la 12 42 f154) 12 43 f155)) from hD).weaken (fun _ _ _ h => hFc _ h)
                          have xr212_0 : (n213 : Int64).toInt = (f154 0).toInt := xr212_0
                          have xr212_1 : (n214 : Int64).toInt = (f155 0).toInt := xr212_1
                          refine lv_goto (tgt := 194) hx hb dX12_stateOf_185 (by decide) ?_
                          refine lv_iconst (v := 1) hx hb dX12_stateOf_194 (by decide) ?_
                          have hP9 : va_P (dC, dI) classes (WM h g ca (u2 (u2 iv 12 19 n151) 12 41 n16) (u2 (u2 (u2 (u2 lv 12 17 n152) 12 18 n153) 12 44 n213) 12 45 n214) (u2 (u2 fa 12 39 n14) 12 40 n15) (u2 (u2 la 12 42 f154) 12 43 f155)) H := hP
                          have hD9 : va_D A (WM h g ca (u2 (u2 iv 12 19 n151) 12 41 n16) (u2 (u2 (u2 (u2 lv 12 17 n152) 12 18 n153) 12 44 n213) 12 45 n214) (u2 (u2 fa 12 39 n14) 12 40 n15) (u2 (u2 la 12 42 f154) 12 43 f155)) := hD
                          exact W.iret (v := 1) hx hb hr (fun t ht9 hW => ⟨⟨1, ((u2 (u2 iv 12 19 n151) 12 41 n16), (u2 (u2 (u2 (u2 lv 12 17 n152) 12 18 n153) 12 44 n213) 12 45 n214), (u2 (u2 fa 12 39 n14) 12 40 n15), (u2 (u2 la 12 42 f154) 12 43 f155)), rfl, ⟨n14, n15, f154, f155, n151, n16, n152, n153, n213, n214, hn14, hn15, (show inb (0, 8) n16 from ⟨by omega, by omega⟩), (show LwT (fun q v => FoY (iv 12 23).toInt (fa 12 24) (fa 12 25) (fa 12 26) (fa 12 27) (fa 12 28) q (b).toInt v) (fa 12 4) (fa 12 5) (fa 12 11) (fa 12 12) (fa 12 7) (fa 12 8) (a).toInt (b).toInt ((iv 12 3).toInt).toNat f154 f155 (n213 : Int64).toInt (n214 : Int64).toInt (1 : Int32).toInt from (by
                                have hP9 : ∀ l : Nat, l < 3 → f155 l = sY (fa 12 4) (fa 12 5) (fa 12 11) (fa 12 12) (fa 12 7) a.toInt b.toInt (l : Int) ((iv 12 3).toInt).toNat ∧ f154 l = sY (fa 12 4) (fa 12 5) (fa 12 11) (fa 12 12) (fa 12 8) a.toInt b.toInt (l : Int) ((iv 12 3).toInt).toNat := (fun l hl => by
                                 rcases (by omega : l = 0 ∨ l = 1 ∨ l = 2) with rfl | rfl | rfl
                                 · exact ⟨(show f155 0 = _ from yf155_0).trans sr0, (show f154 0 = _ from yf154_0).trans sd0⟩
                                 · exact ⟨(show f155 1 = _ from yf155_1).trans sr1, (show f154 1 = _ from yf154_1).trans sd1⟩
                                 · exact ⟨(show f155 2 = _ from yf155_2).trans sr2, (show f154 2 = _ from yf154_2).trans sd2⟩)
                                have hd9 := xr199_0
                                rw [dl0, dl1, dl2, dl3] at hd9
                                exact ⟨hP9, ⟨_, (show FoY (iv 12 23).toInt (fa 12 24) (fa 12 25) (fa 12 26) (fa 12 27) (fa 12 28) 1 b.toInt (r1 : Int32).toInt from xr1_0), Or.inr ⟨by omega, _, (show FoY (iv 12 23).toInt (fa 12 24) (fa 12 25) (fa 12 26) (fa 12 27) (fa 12 28) 3 b.toInt (r5 : Int32).toInt from xr5_0), Or.inr ⟨by omega, Or.inr ⟨by omega, r13, (show FoY (iv 12 23).toInt (fa 12 24) (fa 12 25) (fa 12 26) (fa 12 27) (fa 12 28) 2 b.toInt (r13 : Int32).toInt from xr13_0), _, (show FoY (iv 12 23).toInt (fa 12 24) (fa 12 25) (fa 12 26) (fa 12 27) (fa 12 28) 5 b.toInt (r9 : Int32).toInt from xr9_0), Or.inl ⟨(hd9.resolve_left (fun q => by omega)).2, by omega, ⟨0, 0, Or.inr ⟨by omega, (by have h9 := lsN_n (D := f154) (R := f155) (p := 0) (q := 1) (xr210_0.resolve_left (fun q => by omega)).2; omega), rfl⟩, Or.inl ⟨rfl, xr212_0, xr212_1⟩⟩⟩⟩⟩⟩⟩⟩)), ⟨by decide, by decide⟩, rfl⟩, by rw [ht9]; exact hP9, hD9⟩, hS.F ht9⟩) hS.2.2 dX12_stateOf_195
                        · have fc211 := z_ne (rfl : (r210).toInt = _) (by decide : (0 : Int32).toInt = 0) c211
                          refine lv_iconst (v := 1) hx hb dX12_stateOf_177 (by decide) ?_
                          refine lv_goto (tgt := 182) hx hb dX12_stateOf_178 (by decide) ?_
                          have hFc := free_all hD hS hA
                          refine va_callv (va_runV (As := [.int 1]) (rest := []) ⟨hx, hb, hml, hown, ht⟩ (c_X12_only_w1 l dC dI H.size h g ca (u2 (u2 iv 12 41 n16) 12 19 n151) (u2 (u2 lv 12 17 n152) 12 18 n153) (u2 (u2 fa 12 39 n14) 12 40 n15) (u2 (u2 la 12 42 f154) 12 43 f155) (IX_a (c := 12) (k := 40) (IX_a (c := 12) (k := 39) (IX_i (c := 12) (k := 19) (IX_i (c := 12) (k := 41) hI (show inb (0, 8) n16 from ⟨by omega, by omega⟩)) (full_i _)) hn14) hn15)) (kV 1 ht m_1536 m_1538 m_59 m_89 m_1539 rfl rfl hd_X12_only_v ⟨Nat.le_of_ble_eq_true rfl, Nat.le_of_ble_eq_true rfl⟩) (vW hP hK hD (rM_12 hK hP)) rfl rfl hl.1 rfl (lv_room (Nat.le_of_ble_eq_true rfl)) dX12_stateOf_182 ⟨Nat.le_of_ble_eq_true rfl, Nat.le_of_ble_eq_true rfl⟩) hS (fun q _ h => hFc q h) hFc (fun u t H1 locs ht9 hvm hr215 hB hz1 hk1 hS => ?_)
                          obtain ⟨n216, n217, xr215_0, xr215_1, rfl⟩ := hr215
                          obtain ⟨hP, hD⟩ := hB
                          rw [ht9] at hP
                          generalize H1 = H at hP hS ⊢
                          have hP : va_P (dC, dI) classes (WM h g ca (u2 (u2 iv 12 41 n16) 12 19 n151) (u2 (u2 (u2 (u2 lv 12 17 n152) 12 18 n153) 12 44 n216) 12 45 n217) (u2 (u2 fa 12 39 n14) 12 40 n15) (u2 (u2 la 12 42 f154) 12 43 f155)) H := hP
                          have hD : va_D A (WM h g ca (u2 (u2 iv 12 41 n16) 12 19 n151) (u2 (u2 (u2 (u2 lv 12 17 n152) 12 18 n153) 12 44 n216) 12 45 n217) (u2 (u2 fa 12 39 n14) 12 40 n15) (u2 (u2 la 12 42 f154) 12 43 f155)) := (show va_D _ (WM h g ca (u2 (u2 iv 12 41 n16) 12 19 n151) (u2 (u2 (u2 (u2 lv 12 17 n152) 12 18 n153) 12 44 n216) 12 45 n217) (u2 (u2 fa 12 39 n14) 12 40 n15) (u2 (u2 la 12 42 f154) 12 43 f155)) from hD).weaken (fun _ _ _ h => hFc _ h)
                          have xr215_0 : (n216 : Int64).toInt = (f154 1).toInt := xr215_0
                          have xr215_1 : (n217 : Int64).toInt = (f155 1).toInt := xr215_1
                          refine lv_goto (tgt := 194) hx hb dX12_stateOf_185 (by decide) ?_
                          refine lv_iconst (v := 1) hx hb dX12_stateOf_194 (by decide) ?_
                          have hP9 : va_P (dC, dI) classes (WM h g ca (u2 (u2 iv 12 19 n151) 12 41 n16) (u2 (u2 (u2 (u2 lv 12 17 n152) 12 18 n153) 12 44 n216) 12 45 n217) (u2 (u2 fa 12 39 n14) 12 40 n15) (u2 (u2 la 12 42 f154) 12 43 f155)) H := hP
                          have hD9 : va_D A (WM h g ca (u2 (u2 iv 12 19 n151) 12 41 n16) (u2 (u2 (u2 (u2 lv 12 17 n152) 12 18 n153) 12 44 n216) 12 45 n217) (u2 (u2 fa 12 39 n14) 12 40 n15) (u2 (u2 la 12 42 f154) 12 43 f155)) := hD
                          exact W.iret (v := 1) hx hb hr (fun t ht9 hW => ⟨⟨1, ((u2 (u2 iv 12 19 n151) 12 41 n16), (u2 (u2 (u2 (u2 lv 12 17 n152) 12 18 n153) 12 44 n216) 12 45 n217), (u2 (u2 fa 12 39 n14) 12 40 n15), (u2 (u2 la 12 42 f154) 12 43 f155)), rfl, ⟨n14, n15, f154, f155, n151, n16, n152, n153, n216, n217, hn14, hn15, (show inb (0, 8) n16 from ⟨by omega, by omega⟩), (show LwT (fun q v => FoY (iv 12 23).toInt (fa 12 24) (fa 12 25) (fa 12 26) (fa 12 27) (fa 12 28) q (b).toInt v) (fa 12 4) (fa 12 5) (fa 12 11) (fa 12 12) (fa 12 7) (fa 12 8) (a).toInt (b).toInt ((iv 12 3).toInt).toNat f154 f155 (n216 : Int64).toInt (n217 : Int64).toInt (1 : Int32).toInt from (by
                                have hP9 : ∀ l : Nat, l < 3 → f155 l = sY (fa 12 4) (fa 12 5) (fa 12 11) (fa 12 12) (fa 12 7) a.toInt b.toInt (l : Int) ((iv 12 3).toInt).toNat ∧ f154 l = sY (fa 12 4) (fa 12 5) (fa 12 11) (fa 12 12) (fa 12 8) a.toInt b.toInt (l : Int) ((iv 12 3).toInt).toNat := (fun l hl => by
                                 rcases (by omega : l = 0 ∨ l = 1 ∨ l = 2) with rfl | rfl | rfl
                                 · exact ⟨(show f155 0 = _ from yf155_0).trans sr0, (show f154 0 = _ from yf154_0).trans sd0⟩
                                 · exact ⟨(show f155 1 = _ from yf155_1).trans sr1, (show f154 1 = _ from yf154_1).trans sd1⟩
                                 · exact ⟨(show f155 2 = _ from yf155_2).trans sr2, (show f154 2 = _ from yf154_2).trans sd2⟩)
                                have hd9 := xr199_0
                                rw [dl0, dl1, dl2, dl3] at hd9
                                exact ⟨hP9, ⟨_, (show FoY (iv 12 23).toInt (fa 12 24) (fa 12 25) (fa 12 26) (fa 12 27) (fa 12 28) 1 b.toInt (r1 : Int32).toInt from xr1_0), Or.inr ⟨by omega, _, (show FoY (iv 12 23).toInt (fa 12 24) (fa 12 25) (fa 12 26) (fa 12 27) (fa 12 28) 3 b.toInt (r5 : Int32).toInt from xr5_0), Or.inr ⟨by omega, Or.inr ⟨by omega, r13, (show FoY (iv 12 23).toInt (fa 12 24) (fa 12 25) (fa 12 26) (fa 12 27) (fa 12 28) 2 b.toInt (r13 : Int32).toInt from xr13_0), _, (show FoY (iv 12 23).toInt (fa 12 24) (fa 12 25) (fa 12 26) (fa 12 27) (fa 12 28) 5 b.toInt (r9 : Int32).toInt from xr9_0), Or.inl ⟨(hd9.resolve_left (fun q => by omega)).2, by omega, ⟨1, 1, Or.inr ⟨by omega, (by have h9 := lsN_y (D := f154) (R := f155) (p := 0) (q := 1) (xr210_0.resolve_right (fun q => by omega)).2; omega), rfl⟩, Or.inl ⟨rfl, xr215_0, xr215_1⟩⟩⟩⟩⟩⟩⟩⟩)), ⟨by decide, by decide⟩, rfl⟩, by rw [ht9]; exact hP9, hD9⟩, hS.F ht9⟩) hS.2.2 dX12_stateOf_195
                  · exact absurd rfl c194
                · have fc192 := z_eq (rfl : (r5).toInt = _) (by decide : (1 : Int32).toInt = 1) c192
                  refine lv_aload_n hx hb dX12_stateOf_109 rfl (lv_at hl 7 rfl) ?_
                  refine lv_iconst (v := 0) hx hb dX12_stateOf_110 (by decide) ?_
                  have hFc := free_all hD hS hA
                  refine va_callv (va_runV (As := [.int 0]) (rest := []) ⟨hx, hb, hml, hown, ht⟩ (c_X12_only_w0 l dC dI H.size h g ca (u2 (u2 iv 12 41 n16) 12 19 n151) (u2 (u2 lv 12 17 n152) 12 18 n153) (u2 (u2 fa 12 39 n14) 12 40 n15) (u2 (u2 la 12 42 f154) 12 43 f155) (IX_a (c := 12) (k := 40) (IX_a (c := 12) (k := 39) (IX_i (c := 12) (k := 19) (IX_i (c := 12) (k := 41) hI (show inb (0, 8) n16 from ⟨by omega, by omega⟩)) (full_i _)) hn14) hn15)) (kV 1 ht m_1536 m_1538 m_59 m_89 m_1539 rfl rfl hd_X12_only_v ⟨Nat.le_of_ble_eq_true rfl, Nat.le_of_ble_eq_true rfl⟩) (vW hP hK hD (rM_12 hK hP)) rfl rfl hl.1 rfl (lv_room (Nat.le_of_ble_eq_true rfl)) dX12_stateOf_111 ⟨Nat.le_of_ble_eq_true rfl, Nat.le_of_ble_eq_true rfl⟩) hS (fun q _ h => hFc q h) hFc (fun u t H1 locs ht9 hvm hr218 hB hz1 hk1 hS => ?_)
                  obtain ⟨n219, n220, xr218_0, xr218_1, rfl⟩ := hr218
                  obtain ⟨hP, hD⟩ := hB
                  rw [ht9] at hP
                  generalize H1 = H at hP hS ⊢
                  have hP : va_P (dC, dI) classes (WM h g ca (u2 (u2 iv 12 41 n16) 12 19 n151) (u2 (u2 (u2 (u2 lv 12 17 n152) 12 18 n153) 12 44 n219) 12 45 n220) (u2 (u2 fa 12 39 n14) 12 40 n15) (u2 (u2 la 12 42 f154) 12 43 f155)) H := hP
                  have hD : va_D A (WM h g ca (u2 (u2 iv 12 41 n16) 12 19 n151) (u2 (u2 (u2 (u2 lv 12 17 n152) 12 18 n153) 12 44 n219) 12 45 n220) (u2 (u2 fa 12 39 n14) 12 40 n15) (u2 (u2 la 12 42 f154) 12 43 f155)) := (show va_D _ (WM h g ca (u2 (u2 iv 12 41 n16) 12 19 n151) (u2 (u2 (u2 (u2 lv 12 17 n152) 12 18 n153) 12 44 n219) 12 45 n220) (u2 (u2 fa 12 39 n14) 12 40 n15) (u2 (u2 la 12 42 f154) 12 43 f155)) from hD).weaken (fun _ _ _ h => hFc _ h)
                  have xr218_0 : (n219 : Int64).toInt = (f154 0).toInt := xr218_0
                  have xr218_1 : (n220 : Int64).toInt = (f155 0).toInt := xr218_1
                  refine lv_iload hx hb dX12_stateOf_114 (lv_at hl 1 rfl) ?_
                  refine lv_iconst (v := 1) hx hb dX12_stateOf_116 (by decide) ?_
                  refine lv_iand hx hb dX12_stateOf_117 ?_
                  refine lv_topi (fun v221 ev221 => ?_)
                  obtain rfl : 1 = v221 := (ev221.trans (by decide)).symm
                  have hP9 : va_P (dC, dI) classes (WM h g ca (u2 (u2 iv 12 19 n151) 12 41 n16) (u2 (u2 (u2 (u2 lv 12 17 n152) 12 18 n153) 12 44 n219) 12 45 n220) (u2 (u2 fa 12 39 n14) 12 40 n15) (u2 (u2 la 12 42 f154) 12 43 f155)) H := hP
                  have hD9 : va_D A (WM h g ca (u2 (u2 iv 12 19 n151) 12 41 n16) (u2 (u2 (u2 (u2 lv 12 17 n152) 12 18 n153) 12 44 n219) 12 45 n220) (u2 (u2 fa 12 39 n14) 12 40 n15) (u2 (u2 la 12 42 f154) 12 43 f155)) := hD
                  exact W.iret (v := 1) hx hb hr (fun t ht9 hW => ⟨⟨1, ((u2 (u2 iv 12 19 n151) 12 41 n16), (u2 (u2 (u2 (u2 lv 12 17 n152) 12 18 n153) 12 44 n219) 12 45 n220), (u2 (u2 fa 12 39 n14) 12 40 n15), (u2 (u2 la 12 42 f154) 12 43 f155)), rfl, ⟨n14, n15, f154, f155, n151, n16, n152, n153, n219, n220, hn14, hn15, (show inb (0, 8) n16 from ⟨by omega, by omega⟩), (show LwT (fun q v => FoY (iv 12 23).toInt (fa 12 24) (fa 12 25) (fa 12 26) (fa 12 27) (fa 12 28) q (b).toInt v) (fa 12 4) (fa 12 5) (fa 12 11) (fa 12 12) (fa 12 7) (fa 12 8) (a).toInt (b).toInt ((iv 12 3).toInt).toNat f154 f155 (n219 : Int64).toInt (n220 : Int64).toInt (1 : Int32).toInt from (by
                        have hP9 : ∀ l : Nat, l < 3 → f155 l = sY (fa 12 4) (fa 12 5) (fa 12 11) (fa 12 12) (fa 12 7) a.toInt b.toInt (l : Int) ((iv 12 3).toInt).toNat ∧ f154 l = sY (fa 12 4) (fa 12 5) (fa 12 11) (fa 12 12) (fa 12 8) a.toInt b.toInt (l : Int) ((iv 12 3).toInt).toNat := (fun l hl => by
                         rcases (by omega : l = 0 ∨ l = 1 ∨ l = 2) with rfl | rfl | rfl
                         · exact ⟨(show f155 0 = _ from yf155_0).trans sr0, (show f154 0 = _ from yf154_0).trans sd0⟩
                         · exact ⟨(show f155 1 = _ from yf155_1).trans sr1, (show f154 1 = _ from yf154_1).trans sd1⟩
                         · exact ⟨(show f155 2 = _ from yf155_2).trans sr2, (show f154 2 = _ from yf154_2).trans sd2⟩)
                        exact ⟨hP9, ⟨_, (show FoY (iv 12 23).toInt (fa 12 24) (fa 12 25) (fa 12 26) (fa 12 27) (fa 12 28) 1 b.toInt (r1 : Int32).toInt from xr1_0), Or.inr ⟨by omega, _, (show FoY (iv 12 23).toInt (fa 12 24) (fa 12 25) (fa 12 26) (fa 12 27) (fa 12 28) 3 b.toInt (r5 : Int32).toInt from xr5_0), Or.inl ⟨by omega, by omega, xr218_0, xr218_1⟩⟩⟩⟩)), ⟨by decide, by decide⟩, rfl⟩, by rw [ht9]; exact hP9, hD9⟩, hS.F ht9⟩) hS.2.2 dX12_stateOf_118
              · exact absurd c191 (by decide)
