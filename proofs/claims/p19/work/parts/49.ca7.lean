/-! ===== ca7 ===== -/
set_option maxHeartbeats 4000000 in
set_option maxRecDepth 100000 in
/-- X12_cause -/
theorem c_X12_cause_w (l : Launch) (dC : Nat → ClassId) (dI : Nat → Nat → Nat) (sz : Nat) (h : Nat) (g : Nat → Nat → Nat) (ca : Nat → Nat → ClassId) (iv : Nat → Nat → Int32) (lv : Nat → Nat → Int64) (fa : Nat → Nat → Nat → Int32) (la : Nat → Nat → Nat → Int64) (hI : IX iv fa) (a : Int32) (b : Int32) (hJC : JCf (iv 12 23).toInt (fa 12 25) (fa 12 26) (fa 12 27) (fa 12 28)) (hJR : JRf (iv 12 3).toInt (fa 12 7)) (hJO : (iv 12 20).toInt = -1 ∧ (iv 12 21).toInt = -1 ∧ (iv 12 22).toInt = -1) (hJK : ∀ k j : Nat, (k : Int) < (iv 12 23).toInt → 12 * k ≤ j → (j : Int) < 12 * (k : Int) + (fa 12 25 k).toInt → (fa 12 26 j).toInt = 3 → 0 ≤ (fa 12 28 j).toInt ∧ (fa 12 28 j).toInt < (k : Int)) (hJU : ∀ s : Nat, (s : Int) < (iv 12 3).toInt → 0 ≤ (fa 12 5 s).toInt) : Met l yX12_cause (wc yX12_cause cX12_cause 5 (some .int)) ({ frames := 4, cells := 0, slots := 0, locals := 108 } : Room) (pW (dC, dI) classes (WM h g ca iv lv fa la) (TM ca) sz [.ref h, .int a, .int b]) (va_Qi (fun r (u : SS) => ∃ (na_12_39 : Nat → Int32) (na_12_40 : Nat → Int32) (na_12_49 : Nat → Int32) (ni_12_19 : Int32) (ni_12_20 : Int32) (ni_12_21 : Int32) (ni_12_22 : Int32) (ni_12_41 : Int32) (ni_12_48 : Int32) (nl_12_17 : Int64) (nl_12_18 : Int64), (∀ j, inb (bA 12 39 j) (na_12_39 j)) ∧ (∀ j, inb (bA 12 40 j) (na_12_40 j)) ∧ inb (bI 12 41) ni_12_41 ∧ inb (bI 12 48) ni_12_48 ∧ ((ni_12_20).toInt = -1) ∧ ((ni_12_21).toInt = -1) ∧ ((ni_12_22).toInt = -1) ∧ (((r.toInt = -100001 ∧ ¬ (0 ≤ a.toInt ∧ a.toInt < (iv 12 1).toInt)) ∨ ((0 ≤ a.toInt ∧ a.toInt < (iv 12 1).toInt) ∧ ∃ pt : Int32, FoY (iv 12 23).toInt (fa 12 24) (fa 12 25) (fa 12 26) (fa 12 27) (fa 12 28) 2 (iv 12 0).toInt pt.toInt ∧ ((¬ PaR (cyP (fa 12 4) (fa 12 5) (fa 12 11) (fa 12 12) a.toInt (iv 12 0).toInt 0) (cyP (fa 12 4) (fa 12 5) (fa 12 11) (fa 12 12) a.toInt (iv 12 0).toInt 1) (fa 12 7) (fa 12 8) ((iv 12 3).toInt).toNat pt ∧ r.toInt = -100003) ∨ (PaR (cyP (fa 12 4) (fa 12 5) (fa 12 11) (fa 12 12) a.toInt (iv 12 0).toInt 0) (cyP (fa 12 4) (fa 12 5) (fa 12 11) (fa 12 12) a.toInt (iv 12 0).toInt 1) (fa 12 7) (fa 12 8) ((iv 12 3).toInt).toNat pt ∧ CuR (fun c : Nat => CaY (fa 12 4) (fa 12 5) (fa 12 11) (fa 12 12) (fa 12 7) (fa 12 8) (fa 12 9) (fa 12 10) a.toInt (iv 12 0).toInt ((iv 12 3).toInt).toNat pt (c : Int)) (100 + ((iv 12 3).toInt).toNat) b.toInt r.toInt))))) ∧ (True) ∧ u = ((u2 (u2 (u2 (u2 (u2 (u2 iv 12 19 ni_12_19) 12 20 ni_12_20) 12 21 ni_12_21) 12 22 ni_12_22) 12 41 ni_12_41) 12 48 ni_12_48), (u2 (u2 lv 12 17 nl_12_17) 12 18 nl_12_18), (u2 (u2 (u2 fa 12 39 na_12_39) 12 40 na_12_40) 12 49 na_12_49), la)) (bM (dC, dI) h g ca (va_A (WM h g ca iv lv fa la) sz)) (va_A (WM h g ca iv lv fa la) sz)) 0 0 (va_A (WM h g ca iv lv fa la) sz) := by
  refine Met.ofW (cc := cX12_cause) (maxL := 5) (ret := (some .int)) (by decide) rfl ?_
  intro p e s m args below meth c s₁ B hml hv
  obtain ⟨rfl, hsz, hP, hK, hD0⟩ := hv
  have hx := B.exec
  have hb := B.bytes
  have hr := B.returns
  have ht := tb_tl (atoms_spec (ws := wc yX12_cause cX12_cause 5 (some .int)) B.pre)
  have hown : s.vm.findClass RX12 = some m.cls := findClass_of_methodNamed B.named
  have hlocks := B.notSynchronized
  subst hsz
  have hD := hD0.self (sz := s.heap.size)
  generalize hAe : va_A (WM h g ca iv lv fa la) s.heap.size = A at hD ⊢
  have hA : ∀ q : Nat, s.heap.size ≤ q → A q := fun q h => by rw [← hAe]; exact Or.inr h
  have hS : va_S A s.heap s.heap [] := va_S.rf
  have hl := lv_entry [.ref h, .int a, .int b] (n := 5) (Nat.le_of_ble_eq_true rfl)
  rw [lg_entry_eq]
  generalize (lg_sl [.ref h, .int a, .int b] ++ List.replicate (5 - (lg_sl [.ref h, .int a, .int b]).length) Slot.unset).toArray = ls at hl ⊢
  have hl : lv_has ls 5 [(0, .ref h), (1, .int a), (2, .int b)] := hl
  refine lv_aload_n hx hb dX12_cause_0 rfl (lv_at hl 0 rfl) ?_
  refine lv_iload_n hx hb dX12_cause_1 rfl (lv_at hl 1 rfl) ?_
  refine vp_callSi (W.runV (As := [.int a]) (rest := []) ⟨hx, hb, hml, hown, ht⟩ (c_X12_noBale l dC dI h g ca iv lv fa la hI a) (kV 1 ht m_1385 m_1387 m_42 m_89 m_1388 rfl rfl hd_X12_noBale_v ⟨Nat.le_of_ble_eq_true rfl, Nat.le_of_ble_eq_true rfl⟩) (vR hP hK (rM_12 hK hP)) rfl rfl hl.1 rfl (lv_room (Nat.le_of_ble_eq_true rfl)) dX12_cause_2 ⟨Nat.le_of_ble_eq_true rfl, Nat.le_of_ble_eq_true rfl⟩) (fun r1 hr1 => ?_)
  rcases hr1 with ⟨rfl, fr1⟩ | ⟨rfl, fr1⟩
  · skip
    have i_12_1 : 0 ≤ (iv 12 1).toInt ∧ (iv 12 1).toInt ≤ 10 := hI.1 12 1
    have fr1 : ¬ (0 ≤ (a : Int32).toInt ∧ (a : Int32).toInt < ((iv 12 1) : Int32).toInt) := fr1
    refine lv_if_eq (tgt := 11) hx hb dX12_cause_5 (by decide) (fun c2 => ?_) (fun c2 => ?_)
    · exact absurd c2 (by decide)
    · skip
      refine lv_ldc hx hb hown (ht _ m_1389) dX12_cause_8 ?_
      have : ((-100001) : Int32).toInt = (-100001) := (by decide)
      have hP9 : va_P (dC, dI) classes (WM h g ca (u2 (u2 (u2 (u2 (u2 (u2 iv 12 19 (iv 12 19)) 12 20 (iv 12 20)) 12 21 (iv 12 21)) 12 22 (iv 12 22)) 12 41 (iv 12 41)) 12 48 (iv 12 48)) (u2 (u2 lv 12 17 (lv 12 17)) 12 18 (lv 12 18)) (u2 (u2 (u2 fa 12 39 (fa 12 39)) 12 40 (fa 12 40)) 12 49 (fa 12 49)) la) s.heap := hP
      have hD9 : va_D A (WM h g ca (u2 (u2 (u2 (u2 (u2 (u2 iv 12 19 (iv 12 19)) 12 20 (iv 12 20)) 12 21 (iv 12 21)) 12 22 (iv 12 22)) 12 41 (iv 12 41)) 12 48 (iv 12 48)) (u2 (u2 lv 12 17 (lv 12 17)) 12 18 (lv 12 18)) (u2 (u2 (u2 fa 12 39 (fa 12 39)) 12 40 (fa 12 40)) 12 49 (fa 12 49)) la) := hD
      exact W.iret (v := (-100001)) hx hb hr (fun t ht9 hW => ⟨⟨(-100001), ((u2 (u2 (u2 (u2 (u2 (u2 iv 12 19 (iv 12 19)) 12 20 (iv 12 20)) 12 21 (iv 12 21)) 12 22 (iv 12 22)) 12 41 (iv 12 41)) 12 48 (iv 12 48)), (u2 (u2 lv 12 17 (lv 12 17)) 12 18 (lv 12 18)), (u2 (u2 (u2 fa 12 39 (fa 12 39)) 12 40 (fa 12 40)) 12 49 (fa 12 49)), la), rfl, ⟨(fa 12 39), (fa 12 40), (fa 12 49), (iv 12 19), (iv 12 20), (iv 12 21), (iv 12 22), (iv 12 41), (iv 12 48), (lv 12 17), (lv 12 18), (hI.2 12 39), (hI.2 12 40), (hI.1 12 41), (hI.1 12 48), (show ((iv 12 20) : Int32).toInt = -1 from by omega), (show ((iv 12 21) : Int32).toInt = -1 from by omega), (show ((iv 12 22) : Int32).toInt = -1 from by omega), (show ((((-100001) : Int32).toInt = -100001 ∧ ¬ (0 ≤ (a).toInt ∧ (a).toInt < (iv 12 1).toInt)) ∨ ((0 ≤ (a).toInt ∧ (a).toInt < (iv 12 1).toInt) ∧ ∃ pt : Int32, FoY (iv 12 23).toInt (fa 12 24) (fa 12 25) (fa 12 26) (fa 12 27) (fa 12 28) 2 (iv 12 0).toInt pt.toInt ∧ ((¬ PaR (cyP (fa 12 4) (fa 12 5) (fa 12 11) (fa 12 12) (a).toInt (iv 12 0).toInt 0) (cyP (fa 12 4) (fa 12 5) (fa 12 11) (fa 12 12) (a).toInt (iv 12 0).toInt 1) (fa 12 7) (fa 12 8) ((iv 12 3).toInt).toNat pt ∧ ((-100001) : Int32).toInt = -100003) ∨ (PaR (cyP (fa 12 4) (fa 12 5) (fa 12 11) (fa 12 12) (a).toInt (iv 12 0).toInt 0) (cyP (fa 12 4) (fa 12 5) (fa 12 11) (fa 12 12) (a).toInt (iv 12 0).toInt 1) (fa 12 7) (fa 12 8) ((iv 12 3).toInt).toNat pt ∧ CuR (fun c : Nat => CaY (fa 12 4) (fa 12 5) (fa 12 11) (fa 12 12) (fa 12 7) (fa 12 8) (fa 12 9) (fa 12 10) (a).toInt (iv 12 0).toInt ((iv 12 3).toInt).toNat pt (c : Int)) (100 + ((iv 12 3).toInt).toNat) (b).toInt ((-100001) : Int32).toInt)))) from Or.inl ⟨by omega, by omega⟩), trivial, rfl⟩, by rw [ht9]; exact hP9, hD9⟩, hS.F ht9⟩) hS.2.2 dX12_cause_10
  · skip
    have i_12_1 : 0 ≤ (iv 12 1).toInt ∧ (iv 12 1).toInt ≤ 10 := hI.1 12 1
    have fr1 : (0 ≤ (a : Int32).toInt ∧ (a : Int32).toInt < ((iv 12 1) : Int32).toInt) := Decidable.not_not.mp fr1
    refine lv_if_eq (tgt := 11) hx hb dX12_cause_5 (by decide) (fun c3 => ?_) (fun c3 => ?_)
    · skip
      refine lv_aload_n hx hb dX12_cause_11 rfl (lv_at hl 0 rfl) ?_
      refine lv_iconst (v := 2) hx hb dX12_cause_12 (by decide) ?_
      refine lv_aload_n hx hb dX12_cause_13 rfl (lv_at hl 0 rfl) ?_
      have i_12_0 : 0 ≤ (iv 12 0).toInt ∧ (iv 12 0).toInt ≤ 3000 := hI.1 12 0
      refine gM_12_0 hx hb ht hown hK hP m_1139 (v := (iv 12 0)) rfl dX12_cause_14 ?_
      have hFc := free_all hD hS hA
      refine va_calli (va_runV (As := [.int 2, .int (iv 12 0)]) (rest := []) ⟨hx, hb, hml, hown, ht⟩ (c_X12_forceOf_f l dC dI s.heap.size h g ca iv lv fa la hI 2 (iv 12 0) ⟨by decide, by decide⟩ hJC hJK) (kV 2 ht m_1509 m_1511 m_55 m_89 m_1512 rfl rfl hd_X12_forceOf_v ⟨Nat.le_of_ble_eq_true rfl, Nat.le_of_ble_eq_true rfl⟩) (vW hP hK hD (rM_12 hK hP)) rfl rfl hl.1 rfl (lv_room (Nat.le_of_ble_eq_true rfl)) dX12_cause_17 ⟨Nat.le_of_ble_eq_true rfl, Nat.le_of_ble_eq_true rfl⟩) hS (fun q _ h => hFc q h) hFc (fun r4 u t H1 locs ht9 hvm hr4 hB hz1 hk1 hS => ?_)
      obtain ⟨n5, n6, n7, hn5, hn6, hn7, xr4_0, hr4, rfl⟩ := hr4
      have hn7 : 0 ≤ n7.toInt ∧ n7.toInt ≤ 8 := hn7
      obtain ⟨hP, hD⟩ := hB
      rw [ht9] at hP
      generalize H1 = H at hP hS ⊢
      have hP : va_P (dC, dI) classes (WM h g ca (u2 iv 12 41 n7) lv (u2 (u2 fa 12 39 n5) 12 40 n6) la) H := hP
      have hD : va_D A (WM h g ca (u2 iv 12 41 n7) lv (u2 (u2 fa 12 39 n5) 12 40 n6) la) := (show va_D _ (WM h g ca (u2 iv 12 41 n7) lv (u2 (u2 fa 12 39 n5) 12 40 n6) la) from hD).weaken (fun _ _ _ h => hFc _ h)
      have i_12_23 : 0 ≤ (iv 12 23).toInt ∧ (iv 12 23).toInt ≤ 8 := hI.1 12 23
      have : (2 : Int32).toInt = 2 := (by decide)
      have xr4_0 : FoY ((iv 12 23) : Int32).toInt (fa 12 24) (fa 12 25) (fa 12 26) (fa 12 27) (fa 12 28) (2 : Int32).toInt ((iv 12 0) : Int32).toInt (r4 : Int32).toInt := xr4_0
      refine lv_istore_n (lv' := [(3, .int r4), (0, .ref h), (1, .int a), (2, .int b)]) hx hb dX12_cause_20 rfl hl (by decide) rfl (fun ls hl => ?_)
      refine lv_aload_n hx hb dX12_cause_21 rfl (lv_at hl 1 rfl) ?_
      refine lv_iload_n hx hb dX12_cause_22 rfl (lv_at hl 2 rfl) ?_
      have i_12_3 : 0 ≤ (iv 12 3).toInt ∧ (iv 12 3).toInt ≤ 60 := hI.1 12 3
      have hFc := free_all hD hS hA
      refine va_calli (va_runV (As := [.int a]) (rest := []) ⟨hx, hb, hml, hown, ht⟩ (c_X12_haveBoth_q l dC dI H.size h g ca (u2 iv 12 41 n7) lv (u2 (u2 fa 12 39 n5) 12 40 n6) la (IX_a (c := 12) (k := 40) (IX_a (c := 12) (k := 39) (IX_i (c := 12) (k := 41) hI (show inb (0, 8) n7 from ⟨by omega, by omega⟩)) hn5) hn6) a hJR) (kV 1 ht m_1578 m_1580 m_64 m_89 m_1581 rfl rfl hd_X12_haveBoth_v ⟨Nat.le_of_ble_eq_true rfl, Nat.le_of_ble_eq_true rfl⟩) (vW hP hK hD (rM_12 hK hP)) rfl rfl hl.1 rfl (lv_room (Nat.le_of_ble_eq_true rfl)) dX12_cause_23 ⟨Nat.le_of_ble_eq_true rfl, Nat.le_of_ble_eq_true rfl⟩) hS (fun q _ h => hFc q h) hFc (fun r8 u t H1 locs ht9 hvm hr8 hB hz1 hk1 hS => ?_)
      obtain ⟨n9, n10, n11, xr8_0, hr8, rfl⟩ := hr8
      obtain ⟨hP, hD⟩ := hB
      rw [ht9] at hP
      generalize H1 = H at hP hS ⊢
      have hP : va_P (dC, dI) classes (WM h g ca (u2 (u2 iv 12 41 n7) 12 19 n9) (u2 (u2 lv 12 17 n10) 12 18 n11) (u2 (u2 fa 12 39 n5) 12 40 n6) la) H := hP
      have hD : va_D A (WM h g ca (u2 (u2 iv 12 41 n7) 12 19 n9) (u2 (u2 lv 12 17 n10) 12 18 n11) (u2 (u2 fa 12 39 n5) 12 40 n6) la) := (show va_D _ (WM h g ca (u2 (u2 iv 12 41 n7) 12 19 n9) (u2 (u2 lv 12 17 n10) 12 18 n11) (u2 (u2 fa 12 39 n5) 12 40 n6) la) from hD).weaken (fun _ _ _ h => hFc _ h)
      have xr8_0 : (((r8 : Int32).toInt = 1 ∧ (0 < (caC (cyP (fa 12 4) (fa 12 5) (fa 12 11) (fa 12 12) (a : Int32).toInt ((iv 12 0) : Int32).toInt 0) (owY (fa 12 9) (fa 12 10) ((iv 12 20) : Int32).toInt ((iv 12 21) : Int32).toInt ((iv 12 22) : Int32).toInt) (((iv 12 3) : Int32).toInt).toNat).toInt ∧ 0 < (caC (cyP (fa 12 4) (fa 12 5) (fa 12 11) (fa 12 12) (a : Int32).toInt ((iv 12 0) : Int32).toInt 1) (owY (fa 12 9) (fa 12 10) ((iv 12 20) : Int32).toInt ((iv 12 21) : Int32).toInt ((iv 12 22) : Int32).toInt) (((iv 12 3) : Int32).toInt).toNat).toInt)) ∨ ((r8 : Int32).toInt = 0 ∧ ¬ (0 < (caC (cyP (fa 12 4) (fa 12 5) (fa 12 11) (fa 12 12) (a : Int32).toInt ((iv 12 0) : Int32).toInt 0) (owY (fa 12 9) (fa 12 10) ((iv 12 20) : Int32).toInt ((iv 12 21) : Int32).toInt ((iv 12 22) : Int32).toInt) (((iv 12 3) : Int32).toInt).toNat).toInt ∧ 0 < (caC (cyP (fa 12 4) (fa 12 5) (fa 12 11) (fa 12 12) (a : Int32).toInt ((iv 12 0) : Int32).toInt 1) (owY (fa 12 9) (fa 12 10) ((iv 12 20) : Int32).toInt ((iv 12 21) : Int32).toInt ((iv 12 22) : Int32).toInt) (((iv 12 3) : Int32).toInt).toNat).toInt))) := xr8_0
      refine lv_if_eq (tgt := 38) hx hb dX12_cause_26 (by decide) (fun c12 => ?_) (fun c12 => ?_)
      · have fc12 := z_eq (rfl : (r8).toInt = _) (by decide : (0 : Int32).toInt = 0) c12
        refine lv_ldc hx hb hown (ht _ m_1374) dX12_cause_38 ?_
        have : ((-100003) : Int32).toInt = (-100003) := (by decide)
        have hP9 : va_P (dC, dI) classes (WM h g ca (u2 (u2 (u2 (u2 (u2 (u2 iv 12 19 n9) 12 20 (iv 12 20)) 12 21 (iv 12 21)) 12 22 (iv 12 22)) 12 41 n7) 12 48 (iv 12 48)) (u2 (u2 lv 12 17 n10) 12 18 n11) (u2 (u2 (u2 fa 12 39 n5) 12 40 n6) 12 49 (fa 12 49)) la) H := hP
        have hD9 : va_D A (WM h g ca (u2 (u2 (u2 (u2 (u2 (u2 iv 12 19 n9) 12 20 (iv 12 20)) 12 21 (iv 12 21)) 12 22 (iv 12 22)) 12 41 n7) 12 48 (iv 12 48)) (u2 (u2 lv 12 17 n10) 12 18 n11) (u2 (u2 (u2 fa 12 39 n5) 12 40 n6) 12 49 (fa 12 49)) la) := hD
        exact W.iret (v := (-100003)) hx hb hr (fun t ht9 hW => ⟨⟨(-100003), ((u2 (u2 (u2 (u2 (u2 (u2 iv 12 19 n9) 12 20 (iv 12 20)) 12 21 (iv 12 21)) 12 22 (iv 12 22)) 12 41 n7) 12 48 (iv 12 48)), (u2 (u2 lv 12 17 n10) 12 18 n11), (u2 (u2 (u2 fa 12 39 n5) 12 40 n6) 12 49 (fa 12 49)), la), rfl, ⟨n5, n6, (fa 12 49), n9, (iv 12 20), (iv 12 21), (iv 12 22), n7, (iv 12 48), n10, n11, hn5, hn6, (show inb (0, 8) n7 from ⟨by omega, by omega⟩), (hI.1 12 48), (show ((iv 12 20) : Int32).toInt = -1 from by omega), (show ((iv 12 21) : Int32).toInt = -1 from by omega), (show ((iv 12 22) : Int32).toInt = -1 from by omega), (show ((((-100003) : Int32).toInt = -100001 ∧ ¬ (0 ≤ (a).toInt ∧ (a).toInt < (iv 12 1).toInt)) ∨ ((0 ≤ (a).toInt ∧ (a).toInt < (iv 12 1).toInt) ∧ ∃ pt : Int32, FoY (iv 12 23).toInt (fa 12 24) (fa 12 25) (fa 12 26) (fa 12 27) (fa 12 28) 2 (iv 12 0).toInt pt.toInt ∧ ((¬ PaR (cyP (fa 12 4) (fa 12 5) (fa 12 11) (fa 12 12) (a).toInt (iv 12 0).toInt 0) (cyP (fa 12 4) (fa 12 5) (fa 12 11) (fa 12 12) (a).toInt (iv 12 0).toInt 1) (fa 12 7) (fa 12 8) ((iv 12 3).toInt).toNat pt ∧ ((-100003) : Int32).toInt = -100003) ∨ (PaR (cyP (fa 12 4) (fa 12 5) (fa 12 11) (fa 12 12) (a).toInt (iv 12 0).toInt 0) (cyP (fa 12 4) (fa 12 5) (fa 12 11) (fa 12 12) (a).toInt (iv 12 0).toInt 1) (fa 12 7) (fa 12 8) ((iv 12 3).toInt).toNat pt ∧ CuR (fun c : Nat => CaY (fa 12 4) (fa 12 5) (fa 12 11) (fa 12 12) (fa 12 7) (fa 12 8) (fa 12 9) (fa 12 10) (a).toInt (iv 12 0).toInt ((iv 12 3).toInt).toNat pt (c : Int)) (100 + ((iv 12 3).toInt).toNat) (b).toInt ((-100003) : Int32).toInt)))) from (by
              have hw9 : ∀ s : Nat, s < ((iv 12 3).toInt).toNat → ¬ owY (fa 12 9) (fa 12 10) (iv 12 20).toInt (iv 12 21).toInt (iv 12 22).toInt s := fun s _ z => by
                have z1 : 0 ≤ (fa 12 9 s).toInt ∧ (fa 12 9 s).toInt ≤ 3 := hI.2 12 9 s
                have z2 : 0 ≤ (fa 12 10 s).toInt ∧ (fa 12 10 s).toInt ≤ 7 := hI.2 12 10 s
                unfold owY at z
                omega
              have hv9 := xr8_0
              rw [caC_0 hw9, caC_0 hw9] at hv9
              exact Or.inr ⟨⟨by omega, by omega⟩, r4, xr4_0, Or.inl ⟨fun z => (hv9.resolve_left (fun q => by omega)).2 ⟨z.1, z.2.1⟩, by omega⟩⟩)), trivial, rfl⟩, by rw [ht9]; exact hP9, hD9⟩, hS.F ht9⟩) hS.2.2 dX12_cause_40
      · have fc12 := z_ne (rfl : (r8).toInt = _) (by decide : (0 : Int32).toInt = 0) c12
        refine lv_aload_n hx hb dX12_cause_29 rfl (lv_at hl 1 rfl) ?_
        refine lv_iload_n hx hb dX12_cause_30 rfl (lv_at hl 2 rfl) ?_
        refine lv_iload_n hx hb dX12_cause_31 rfl (lv_at hl 0 rfl) ?_
        have hFc := free_all hD hS hA
        refine va_calli (va_runV (As := [.int a, .int r4]) (rest := []) ⟨hx, hb, hml, hown, ht⟩ (c_X12_doLooksPart_q l dC dI H.size h g ca (u2 (u2 iv 12 41 n7) 12 19 n9) (u2 (u2 lv 12 17 n10) 12 18 n11) (u2 (u2 fa 12 39 n5) 12 40 n6) la (IX_a (c := 12) (k := 40) (IX_a (c := 12) (k := 39) (IX_i (c := 12) (k := 19) (IX_i (c := 12) (k := 41) hI (show inb (0, 8) n7 from ⟨by omega, by omega⟩)) (full_i _)) hn5) hn6) a r4 hJR) (kV 2 ht m_1582 m_1584 m_65 m_89 m_1585 rfl rfl hd_X12_doLooksPart_v ⟨Nat.le_of_ble_eq_true rfl, Nat.le_of_ble_eq_true rfl⟩) (vW hP hK hD (rM_12 hK hP)) rfl rfl hl.1 rfl (lv_room (Nat.le_of_ble_eq_true rfl)) dX12_cause_32 ⟨Nat.le_of_ble_eq_true rfl, Nat.le_of_ble_eq_true rfl⟩) hS (fun q _ h => hFc q h) hFc (fun r13 u t H1 locs ht9 hvm hr13 hB hz1 hk1 hS => ?_)
        obtain ⟨n14, n15, n16, xr13_0, hr13, rfl⟩ := hr13
        obtain ⟨hP, hD⟩ := hB
        rw [ht9] at hP
        generalize H1 = H at hP hS ⊢
        have hP : va_P (dC, dI) classes (WM h g ca (u2 (u2 iv 12 41 n7) 12 19 n14) (u2 (u2 lv 12 17 n15) 12 18 n16) (u2 (u2 fa 12 39 n5) 12 40 n6) la) H := hP
        have hD : va_D A (WM h g ca (u2 (u2 iv 12 41 n7) 12 19 n14) (u2 (u2 lv 12 17 n15) 12 18 n16) (u2 (u2 fa 12 39 n5) 12 40 n6) la) := (show va_D _ (WM h g ca (u2 (u2 iv 12 41 n7) 12 19 n14) (u2 (u2 lv 12 17 n15) 12 18 n16) (u2 (u2 fa 12 39 n5) 12 40 n6) la) from hD).weaken (fun _ _ _ h => hFc _ h)
        have xr13_0 : (((r13 : Int32).toInt = 1 ∧ DpR (cyP (fa 12 4) (fa 12 5) (fa 12 11) (fa 12 12) (a : Int32).toInt ((iv 12 0) : Int32).toInt 0) (cyP (fa 12 4) (fa 12 5) (fa 12 11) (fa 12 12) (a : Int32).toInt ((iv 12 0) : Int32).toInt 1) (owY (fa 12 9) (fa 12 10) ((iv 12 20) : Int32).toInt ((iv 12 21) : Int32).toInt ((iv 12 22) : Int32).toInt) (fa 12 7) (fa 12 8) (((iv 12 3) : Int32).toInt).toNat (r4 : Int32)) ∨ ((r13 : Int32).toInt = 0 ∧ ¬ DpR (cyP (fa 12 4) (fa 12 5) (fa 12 11) (fa 12 12) (a : Int32).toInt ((iv 12 0) : Int32).toInt 0) (cyP (fa 12 4) (fa 12 5) (fa 12 11) (fa 12 12) (a : Int32).toInt ((iv 12 0) : Int32).toInt 1) (owY (fa 12 9) (fa 12 10) ((iv 12 20) : Int32).toInt ((iv 12 21) : Int32).toInt ((iv 12 22) : Int32).toInt) (fa 12 7) (fa 12 8) (((iv 12 3) : Int32).toInt).toNat (r4 : Int32))) := xr13_0
        refine lv_if_ne (tgt := 41) hx hb dX12_cause_35 (by decide) (fun c17 => ?_) (fun c17 => ?_)
        · have fc17 := z_ne (rfl : (r13).toInt = _) (by decide : (0 : Int32).toInt = 0) c17
          refine lv_aload_n hx hb dX12_cause_41 rfl (lv_at hl 1 rfl) ?_
          refine lv_iconst (v := 0) hx hb dX12_cause_42 (by decide) ?_
          refine pM_12_48 (v := 0) hx hb ht hown hK hP hD hS m_1187 dX12_cause_43 (fun H locs hP hD hS => ?_)
          refine lv_iconst (v := 0) hx hb dX12_cause_46 (by decide) ?_
          refine lv_istore (lv' := [(4, .int 0), (3, .int r4), (0, .ref h), (1, .int a), (2, .int b)]) hx hb dX12_cause_47 hl (by decide) rfl (fun ls hl => ?_)
          have lp1444 : ∀ (nn1444 : Nat) (x1443_4 : Int32) (w1443_i_12_19 : Int32) (w1443_i_12_48 : Int32) (w1443_i_12_20 : Int32) (w1443_i_12_21 : Int32) (w1443_i_12_22 : Int32) (w1443_l_12_17 : Int64) (w1443_l_12_18 : Int64) (w1443_a_12_49 : Nat → Int32), 0 ≤ x1443_4.toInt ∧ x1443_4.toInt ≤ 4 → 0 ≤ w1443_i_12_48.toInt ∧ w1443_i_12_48.toInt ≤ 72 → (∀ j, inb (bA 12 49 j) (w1443_a_12_49 j)) → (LsA (fun c : Nat => CaY (fa 12 4) (fa 12 5) (fa 12 11) (fa 12 12) (fa 12 7) (fa 12 8) (fa 12 9) (fa 12 10) (a).toInt (iv 12 0).toInt ((iv 12 3).toInt).toNat (r4 : Int32) (c : Int)) (0 + ((x1443_4 : Int32).toInt).toNat) (w1443_i_12_48 : Int32).toInt w1443_a_12_49) → (w1443_i_12_48 : Int32).toInt ≤ (x1443_4 : Int32).toInt → (x1443_4 : Int32).toInt ≤ 4 → (w1443_i_12_20 : Int32).toInt = -1 → (w1443_i_12_21 : Int32).toInt = -1 → (w1443_i_12_22 : Int32).toInt = -1 → 4 - x1443_4.toInt < (nn1444 : Int) → ∀ (H : Heap) (locs : List Loc), ∀ (ls : Array Slot), va_P (dC, dI) classes (WM h g ca (u2 (u2 (u2 (u2 (u2 (u2 iv 12 41 n7) 12 19 w1443_i_12_19) 12 48 w1443_i_12_48) 12 20 w1443_i_12_20) 12 21 w1443_i_12_21) 12 22 w1443_i_12_22) (u2 (u2 lv 12 17 w1443_l_12_17) 12 18 w1443_l_12_18) (u2 (u2 (u2 fa 12 39 n5) 12 40 n6) 12 49 w1443_a_12_49) la) H → va_D A (WM h g ca (u2 (u2 (u2 (u2 (u2 (u2 iv 12 41 n7) 12 19 w1443_i_12_19) 12 48 w1443_i_12_48) 12 20 w1443_i_12_20) 12 21 w1443_i_12_21) 12 22 w1443_i_12_22) (u2 (u2 lv 12 17 w1443_l_12_17) 12 18 w1443_l_12_18) (u2 (u2 (u2 fa 12 39 n5) 12 40 n6) 12 49 w1443_a_12_49) la) → va_S A s.heap H locs → lv_has ls 5 [(4, .int x1443_4), (3, .int r4), (0, .ref h), (1, .int a), (2, .int b)] → W p l e ({ frames := 4, cells := 0, slots := 0, locals := 108 } : Room) s m ([.ref h, .int a, .int b] : List Value).toArray below meth c H locs 0 0 (MQ below (va_Qi (fun r (u : SS) => ∃ (na_12_39 : Nat → Int32) (na_12_40 : Nat → Int32) (na_12_49 : Nat → Int32) (ni_12_19 : Int32) (ni_12_20 : Int32) (ni_12_21 : Int32) (ni_12_22 : Int32) (ni_12_41 : Int32) (ni_12_48 : Int32) (nl_12_17 : Int64) (nl_12_18 : Int64), (∀ j, inb (bA 12 39 j) (na_12_39 j)) ∧ (∀ j, inb (bA 12 40 j) (na_12_40 j)) ∧ inb (bI 12 41) ni_12_41 ∧ inb (bI 12 48) ni_12_48 ∧ ((ni_12_20).toInt = -1) ∧ ((ni_12_21).toInt = -1) ∧ ((ni_12_22).toInt = -1) ∧ (((r.toInt = -100001 ∧ ¬ (0 ≤ a.toInt ∧ a.toInt < (iv 12 1).toInt)) ∨ ((0 ≤ a.toInt ∧ a.toInt < (iv 12 1).toInt) ∧ ∃ pt : Int32, FoY (iv 12 23).toInt (fa 12 24) (fa 12 25) (fa 12 26) (fa 12 27) (fa 12 28) 2 (iv 12 0).toInt pt.toInt ∧ ((¬ PaR (cyP (fa 12 4) (fa 12 5) (fa 12 11) (fa 12 12) a.toInt (iv 12 0).toInt 0) (cyP (fa 12 4) (fa 12 5) (fa 12 11) (fa 12 12) a.toInt (iv 12 0).toInt 1) (fa 12 7) (fa 12 8) ((iv 12 3).toInt).toNat pt ∧ r.toInt = -100003) ∨ (PaR (cyP (fa 12 4) (fa 12 5) (fa 12 11) (fa 12 12) a.toInt (iv 12 0).toInt 0) (cyP (fa 12 4) (fa 12 5) (fa 12 11) (fa 12 12) a.toInt (iv 12 0).toInt 1) (fa 12 7) (fa 12 8) ((iv 12 3).toInt).toNat pt ∧ CuR (fun c : Nat => CaY (fa 12 4) (fa 12 5) (fa 12 11) (fa 12 12) (fa 12 7) (fa 12 8) (fa 12 9) (fa 12 10) a.toInt (iv 12 0).toInt ((iv 12 3).toInt).toNat pt (c : Int)) (100 + ((iv 12 3).toInt).toNat) b.toInt r.toInt))))) ∧ (True) ∧ u = ((u2 (u2 (u2 (u2 (u2 (u2 iv 12 19 ni_12_19) 12 20 ni_12_20) 12 21 ni_12_21) 12 22 ni_12_22) 12 41 ni_12_41) 12 48 ni_12_48), (u2 (u2 lv 12 17 nl_12_17) 12 18 nl_12_18), (u2 (u2 (u2 fa 12 39 na_12_39) 12 40 na_12_40) 12 49 na_12_49), la)) (bM (dC, dI) h g ca A) A) ([.ref h, .int a, .int b] : List Value).toArray s 0 0 A) (F0 m 49 ls []) := by
            intro nn1444
            induction nn1444 with
            | zero => intro x1443_4 w1443_i_12_19 w1443_i_12_48 w1443_i_12_20 w1443_i_12_21 w1443_i_12_22 w1443_l_12_17 w1443_l_12_18 w1443_a_12_49 hx1443_4 hw1443_i_12_48 hw1443_a_12_49 hq1444_0 hq1444_1 hq1444_2 hq1444_3 hq1444_4 hq1444_5 hm1444; exfalso; omega
            | succ nn1444 ih1444 =>
              intro x1443_4 w1443_i_12_19 w1443_i_12_48 w1443_i_12_20 w1443_i_12_21 w1443_i_12_22 w1443_l_12_17 w1443_l_12_18 w1443_a_12_49 hx1443_4 hw1443_i_12_48 hw1443_a_12_49 hq1444_0 hq1444_1 hq1444_2 hq1444_3 hq1444_4 hq1444_5 hm1444 H locs ls hP hD hS hl
              refine lv_iload hx hb dX12_cause_49 (lv_at hl 0 rfl) ?_
              refine lv_iconst (v := 4) hx hb dX12_cause_51 (by decide) ?_
              refine lv_icmp_ge (tgt := 71) hx hb dX12_cause_52 (by decide) (fun c1445 => ?_) (fun c1445 => ?_)
              · have fc1445 := z_le (by decide : (4 : Int32).toInt = 4) (rfl : (x1443_4).toInt = _) c1445
                refine lv_iconst (v := 0) hx hb dX12_cause_71 (by decide) ?_
                refine lv_istore (lv' := [(4, .int 0), (3, .int r4), (0, .ref h), (1, .int a), (2, .int b)]) hx hb dX12_cause_72 hl (by decide) rfl (fun ls hl => ?_)
                have lp2177 : ∀ (nn2177 : Nat) (x2176_4 : Int32) (w2176_i_12_19 : Int32) (w2176_i_12_48 : Int32) (w2176_i_12_20 : Int32) (w2176_i_12_21 : Int32) (w2176_i_12_22 : Int32) (w2176_l_12_17 : Int64) (w2176_l_12_18 : Int64) (w2176_a_12_49 : Nat → Int32), 0 ≤ x2176_4.toInt ∧ x2176_4.toInt ≤ 8 → 0 ≤ w2176_i_12_48.toInt ∧ w2176_i_12_48.toInt ≤ 72 → (∀ j, inb (bA 12 49 j) (w2176_a_12_49 j)) → (LsA (fun c : Nat => CaY (fa 12 4) (fa 12 5) (fa 12 11) (fa 12 12) (fa 12 7) (fa 12 8) (fa 12 9) (fa 12 10) (a).toInt (iv 12 0).toInt ((iv 12 3).toInt).toNat (r4 : Int32) (c : Int)) (10 + ((x2176_4 : Int32).toInt).toNat) (w2176_i_12_48 : Int32).toInt w2176_a_12_49) → (w2176_i_12_48 : Int32).toInt ≤ 4 + (x2176_4 : Int32).toInt → (x2176_4 : Int32).toInt ≤ 8 → (w2176_i_12_20 : Int32).toInt = -1 → (w2176_i_12_21 : Int32).toInt = -1 → (w2176_i_12_22 : Int32).toInt = -1 → 8 - x2176_4.toInt < (nn2177 : Int) → ∀ (H : Heap) (locs : List Loc), ∀ (ls : Array Slot), va_P (dC, dI) classes (WM h g ca (u2 (u2 (u2 (u2 (u2 (u2 iv 12 41 n7) 12 19 w2176_i_12_19) 12 48 w2176_i_12_48) 12 20 w2176_i_12_20) 12 21 w2176_i_12_21) 12 22 w2176_i_12_22) (u2 (u2 lv 12 17 w2176_l_12_17) 12 18 w2176_l_12_18) (u2 (u2 (u2 fa 12 39 n5) 12 40 n6) 12 49 w2176_a_12_49) la) H → va_D A (WM h g ca (u2 (u2 (u2 (u2 (u2 (u2 iv 12 41 n7) 12 19 w2176_i_12_19) 12 48 w2176_i_12_48) 12 20 w2176_i_12_20) 12 21 w2176_i_12_21) 12 22 w2176_i_12_22) (u2 (u2 lv 12 17 w2176_l_12_17) 12 18 w2176_l_12_18) (u2 (u2 (u2 fa 12 39 n5) 12 40 n6) 12 49 w2176_a_12_49) la) → va_S A s.heap H locs → lv_has ls 5 [(4, .int x2176_4), (3, .int r4), (0, .ref h), (1, .int a), (2, .int b)] → W p l e ({ frames := 4, cells := 0, slots := 0, locals := 108 } : Room) s m ([.ref h, .int a, .int b] : List Value).toArray below meth c H locs 0 0 (MQ below (va_Qi (fun r (u : SS) => ∃ (na_12_39 : Nat → Int32) (na_12_40 : Nat → Int32) (na_12_49 : Nat → Int32) (ni_12_19 : Int32) (ni_12_20 : Int32) (ni_12_21 : Int32) (ni_12_22 : Int32) (ni_12_41 : Int32) (ni_12_48 : Int32) (nl_12_17 : Int64) (nl_12_18 : Int64), (∀ j, inb (bA 12 39 j) (na_12_39 j)) ∧ (∀ j, inb (bA 12 40 j) (na_12_40 j)) ∧ inb (bI 12 41) ni_12_41 ∧ inb (bI 12 48) ni_12_48 ∧ ((ni_12_20).toInt = -1) ∧ ((ni_12_21).toInt = -1) ∧ ((ni_12_22).toInt = -1) ∧ (((r.toInt = -100001 ∧ ¬ (0 ≤ a.toInt ∧ a.toInt < (iv 12 1).toInt)) ∨ ((0 ≤ a.toInt ∧ a.toInt < (iv 12 1).toInt) ∧ ∃ pt : Int32, FoY (iv 12 23).toInt (fa 12 24) (fa 12 25) (fa 12 26) (fa 12 27) (fa 12 28) 2 (iv 12 0).toInt pt.toInt ∧ ((¬ PaR (cyP (fa 12 4) (fa 12 5) (fa 12 11) (fa 12 12) a.toInt (iv 12 0).toInt 0) (cyP (fa 12 4) (fa 12 5) (fa 12 11) (fa 12 12) a.toInt (iv 12 0).toInt 1) (fa 12 7) (fa 12 8) ((iv 12 3).toInt).toNat pt ∧ r.toInt = -100003) ∨ (PaR (cyP (fa 12 4) (fa 12 5) (fa 12 11) (fa 12 12) a.toInt (iv 12 0).toInt 0) (cyP (fa 12 4) (fa 12 5) (fa 12 11) (fa 12 12) a.toInt (iv 12 0).toInt 1) (fa 12 7) (fa 12 8) ((iv 12 3).toInt).toNat pt ∧ CuR (fun c : Nat => CaY (fa 12 4) (fa 12 5) (fa 12 11) (fa 12 12) (fa 12 7) (fa 12 8) (fa 12 9) (fa 12 10) a.toInt (iv 12 0).toInt ((iv 12 3).toInt).toNat pt (c : Int)) (100 + ((iv 12 3).toInt).toNat) b.toInt r.toInt))))) ∧ (True) ∧ u = ((u2 (u2 (u2 (u2 (u2 (u2 iv 12 19 ni_12_19) 12 20 ni_12_20) 12 21 ni_12_21) 12 22 ni_12_22) 12 41 ni_12_41) 12 48 ni_12_48), (u2 (u2 lv 12 17 nl_12_17) 12 18 nl_12_18), (u2 (u2 (u2 fa 12 39 na_12_39) 12 40 na_12_40) 12 49 na_12_49), la)) (bM (dC, dI) h g ca A) A) ([.ref h, .int a, .int b] : List Value).toArray s 0 0 A) (F0 m 74 ls []) := by
                  intro nn2177
                  induction nn2177 with
                  | zero => intro x2176_4 w2176_i_12_19 w2176_i_12_48 w2176_i_12_20 w2176_i_12_21 w2176_i_12_22 w2176_l_12_17 w2176_l_12_18 w2176_a_12_49 hx2176_4 hw2176_i_12_48 hw2176_a_12_49 hq2177_0 hq2177_1 hq2177_2 hq2177_3 hq2177_4 hq2177_5 hm2177; exfalso; omega
                  | succ nn2177 ih2177 =>
                    intro x2176_4 w2176_i_12_19 w2176_i_12_48 w2176_i_12_20 w2176_i_12_21 w2176_i_12_22 w2176_l_12_17 w2176_l_12_18 w2176_a_12_49 hx2176_4 hw2176_i_12_48 hw2176_a_12_49 hq2177_0 hq2177_1 hq2177_2 hq2177_3 hq2177_4 hq2177_5 hm2177 H locs ls hP hD hS hl
                    refine lv_iload hx hb dX12_cause_74 (lv_at hl 0 rfl) ?_
                    refine lv_bipush (v := 8) hx hb dX12_cause_76 (by decide) ?_
                    refine lv_icmp_ge (tgt := 97) hx hb dX12_cause_78 (by decide) (fun c2178 => ?_) (fun c2178 => ?_)
                    · have fc2178 := z_le (by decide : (8 : Int32).toInt = 8) (rfl : (x2176_4).toInt = _) c2178
                      refine lv_iconst (v := 0) hx hb dX12_cause_97 (by decide) ?_
                      refine lv_istore (lv' := [(4, .int 0), (3, .int r4), (0, .ref h), (1, .int a), (2, .int b)]) hx hb dX12_cause_98 hl (by decide) rfl (fun ls hl => ?_)
                      have lp2774 : ∀ (nn2774 : Nat) (x2773_4 : Int32) (w2773_i_12_19 : Int32) (w2773_i_12_48 : Int32) (w2773_i_12_20 : Int32) (w2773_i_12_21 : Int32) (w2773_i_12_22 : Int32) (w2773_l_12_17 : Int64) (w2773_l_12_18 : Int64) (w2773_a_12_49 : Nat → Int32), 0 ≤ x2773_4.toInt ∧ x2773_4.toInt ≤ 60 → 0 ≤ w2773_i_12_48.toInt ∧ w2773_i_12_48.toInt ≤ 72 → (∀ j, inb (bA 12 49 j) (w2773_a_12_49 j)) → (LsA (fun c : Nat => CaY (fa 12 4) (fa 12 5) (fa 12 11) (fa 12 12) (fa 12 7) (fa 12 8) (fa 12 9) (fa 12 10) (a).toInt (iv 12 0).toInt ((iv 12 3).toInt).toNat (r4 : Int32) (c : Int)) (100 + ((x2773_4 : Int32).toInt).toNat) (w2773_i_12_48 : Int32).toInt w2773_a_12_49) → (w2773_i_12_48 : Int32).toInt ≤ 12 + (x2773_4 : Int32).toInt → (x2773_4 : Int32).toInt ≤ ((iv 12 3) : Int32).toInt → (w2773_i_12_20 : Int32).toInt = -1 → (w2773_i_12_21 : Int32).toInt = -1 → (w2773_i_12_22 : Int32).toInt = -1 → 60 - x2773_4.toInt < (nn2774 : Int) → ∀ (H : Heap) (locs : List Loc), ∀ (ls : Array Slot), va_P (dC, dI) classes (WM h g ca (u2 (u2 (u2 (u2 (u2 (u2 iv 12 41 n7) 12 19 w2773_i_12_19) 12 48 w2773_i_12_48) 12 20 w2773_i_12_20) 12 21 w2773_i_12_21) 12 22 w2773_i_12_22) (u2 (u2 lv 12 17 w2773_l_12_17) 12 18 w2773_l_12_18) (u2 (u2 (u2 fa 12 39 n5) 12 40 n6) 12 49 w2773_a_12_49) la) H → va_D A (WM h g ca (u2 (u2 (u2 (u2 (u2 (u2 iv 12 41 n7) 12 19 w2773_i_12_19) 12 48 w2773_i_12_48) 12 20 w2773_i_12_20) 12 21 w2773_i_12_21) 12 22 w2773_i_12_22) (u2 (u2 lv 12 17 w2773_l_12_17) 12 18 w2773_l_12_18) (u2 (u2 (u2 fa 12 39 n5) 12 40 n6) 12 49 w2773_a_12_49) la) → va_S A s.heap H locs → lv_has ls 5 [(4, .int x2773_4), (3, .int r4), (0, .ref h), (1, .int a), (2, .int b)] → W p l e ({ frames := 4, cells := 0, slots := 0, locals := 108 } : Room) s m ([.ref h, .int a, .int b] : List Value).toArray below meth c H locs 0 0 (MQ below (va_Qi (fun r (u : SS) => ∃ (na_12_39 : Nat → Int32) (na_12_40 : Nat → Int32) (na_12_49 : Nat → Int32) (ni_12_19 : Int32) (ni_12_20 : Int32) (ni_12_21 : Int32) (ni_12_22 : Int32) (ni_12_41 : Int32) (ni_12_48 : Int32) (nl_12_17 : Int64) (nl_12_18 : Int64), (∀ j, inb (bA 12 39 j) (na_12_39 j)) ∧ (∀ j, inb (bA 12 40 j) (na_12_40 j)) ∧ inb (bI 12 41) ni_12_41 ∧ inb (bI 12 48) ni_12_48 ∧ ((ni_12_20).toInt = -1) ∧ ((ni_12_21).toInt = -1) ∧ ((ni_12_22).toInt = -1) ∧ (((r.toInt = -100001 ∧ ¬ (0 ≤ a.toInt ∧ a.toInt < (iv 12 1).toInt)) ∨ ((0 ≤ a.toInt ∧ a.toInt < (iv 12 1).toInt) ∧ ∃ pt : Int32, FoY (iv 12 23).toInt (fa 12 24) (fa 12 25) (fa 12 26) (fa 12 27) (fa 12 28) 2 (iv 12 0).toInt pt.toInt ∧ ((¬ PaR (cyP (fa 12 4) (fa 12 5) (fa 12 11) (fa 12 12) a.toInt (iv 12 0).toInt 0) (cyP (fa 12 4) (fa 12 5) (fa 12 11) (fa 12 12) a.toInt (iv 12 0).toInt 1) (fa 12 7) (fa 12 8) ((iv 12 3).toInt).toNat pt ∧ r.toInt = -100003) ∨ (PaR (cyP (fa 12 4) (fa 12 5) (fa 12 11) (fa 12 12) a.toInt (iv 12 0).toInt 0) (cyP (fa 12 4) (fa 12 5) (fa 12 11) (fa 12 12) a.toInt (iv 12 0).toInt 1) (fa 12 7) (fa 12 8) ((iv 12 3).toInt).toNat pt ∧ CuR (fun c : Nat => CaY (fa 12 4) (fa 12 5) (fa 12 11) (fa 12 12) (fa 12 7) (fa 12 8) (fa 12 9) (fa 12 10) a.toInt (iv 12 0).toInt ((iv 12 3).toInt).toNat pt (c : Int)) (100 + ((iv 12 3).toInt).toNat) b.toInt r.toInt))))) ∧ (True) ∧ u = ((u2 (u2 (u2 (u2 (u2 (u2 iv 12 19 ni_12_19) 12 20 ni_12_20) 12 21 ni_12_21) 12 22 ni_12_22) 12 41 ni_12_41) 12 48 ni_12_48), (u2 (u2 lv 12 17 nl_12_17) 12 18 nl_12_18), (u2 (u2 (u2 fa 12 39 na_12_39) 12 40 na_12_40) 12 49 na_12_49), la)) (bM (dC, dI) h g ca A) A) ([.ref h, .int a, .int b] : List Value).toArray s 0 0 A) (F0 m 100 ls []) := by
                        intro nn2774
                        induction nn2774 with
                        | zero => intro x2773_4 w2773_i_12_19 w2773_i_12_48 w2773_i_12_20 w2773_i_12_21 w2773_i_12_22 w2773_l_12_17 w2773_l_12_18 w2773_a_12_49 hx2773_4 hw2773_i_12_48 hw2773_a_12_49 hq2774_0 hq2774_1 hq2774_2 hq2774_3 hq2774_4 hq2774_5 hm2774; exfalso; omega
                        | succ nn2774 ih2774 =>
                          intro x2773_4 w2773_i_12_19 w2773_i_12_48 w2773_i_12_20 w2773_i_12_21 w2773_i_12_22 w2773_l_12_17 w2773_l_12_18 w2773_a_12_49 hx2773_4 hw2773_i_12_48 hw2773_a_12_49 hq2774_0 hq2774_1 hq2774_2 hq2774_3 hq2774_4 hq2774_5 hm2774 H locs ls hP hD hS hl
                          refine lv_iload hx hb dX12_cause_100 (lv_at hl 0 rfl) ?_
                          refine lv_aload_n hx hb dX12_cause_102 rfl (lv_at hl 2 rfl) ?_
                          refine gM_12_3 hx hb ht hown hK hP m_1142 (v := (iv 12 3)) rfl dX12_cause_103 ?_
                          refine lv_icmp_ge (tgt := 160) hx hb dX12_cause_106 (by decide) (fun c2775 => ?_) (fun c2775 => ?_)
                          · have fc2775 := z_le (rfl : ((iv 12 3)).toInt = _) (rfl : (x2773_4).toInt = _) c2775
                            refine lv_iload_n hx hb dX12_cause_160 rfl (lv_at hl 4 rfl) ?_
                            refine lv_iconst (v := (-1)) hx hb dX12_cause_161 (by decide) ?_
                            refine lv_icmp_ne (tgt := 172) hx hb dX12_cause_162 (by decide) (fun c2776 => ?_) (fun c2776 => ?_)
                            · have fc2776 := z_ne (rfl : (b).toInt = _) (by decide : ((-1) : Int32).toInt = (-1)) c2776
                              refine lv_iload_n hx hb dX12_cause_172 rfl (lv_at hl 4 rfl) ?_
                              refine lv_i2l (v := (b.toInt64)) hx hb dX12_cause_173 rfl ?_
                              refine lv_lconst (v := 0) hx hb dX12_cause_174 (by decide) ?_
                              refine lv_aload_n hx hb dX12_cause_175 rfl (lv_at hl 2 rfl) ?_
                              refine gM_12_48 hx hb ht hown hK hP m_1187 (v := w2773_i_12_48) rfl dX12_cause_176 ?_
                              refine lv_iconst (v := 1) hx hb dX12_cause_179 (by decide) ?_
                              refine lv_isub hx hb dX12_cause_180 ?_
                              refine lv_topi (fun v2777 ev2777 => ?_)
                              have tv2777 := z_sub ev2777 (rfl : (w2773_i_12_48).toInt = _) (by decide : (1 : Int32).toInt = 1) (by omega) (by omega)
                              refine lv_i2l (v := (v2777.toInt64)) hx hb dX12_cause_181 rfl ?_
                              refine vp_callSi (W.runS (As := [.long (b.toInt64), .long 0, .long (v2777.toInt64)]) (rest := []) ⟨hx, hb, hml, hown, ht⟩ (c_X12_in l dC dI (b.toInt64) 0 (v2777.toInt64) (b.toInt) (0) (v2777.toInt) ((Int32.toInt_toInt64 b).trans rfl) (by decide : (0 : Int64).toInt = 0) ((Int32.toInt_toInt64 v2777).trans rfl)) (kS 3 ht m_1370 m_1371 m_89 m_1372 rfl rfl hd_X12_in_v ⟨Nat.le_of_ble_eq_true rfl, Nat.le_of_ble_eq_true rfl⟩) (sR noP (hK.sub (tys' := []) [] rfl)) rfl rfl hl.1 rfl (lv_room (Nat.le_of_ble_eq_true rfl)) dX12_cause_182 ⟨Nat.le_of_ble_eq_true rfl, Nat.le_of_ble_eq_true rfl⟩) (fun r2778 hr2778 => ?_)
                              rcases hr2778 with ⟨rfl, fr2778⟩ | ⟨rfl, fr2778⟩
                              · skip
                                refine lv_if_eq (tgt := 197) hx hb dX12_cause_185 (by decide) (fun c2779 => ?_) (fun c2779 => ?_)
                                · exact absurd c2779 (by decide)
                                · skip
                                  refine lv_aload_n hx hb dX12_cause_188 rfl (lv_at hl 2 rfl) ?_
                                  refine gM_12_49 hx hb ht hown hK hP m_1188 dX12_cause_189 ?_
                                  refine lv_iload_n hx hb dX12_cause_192 rfl (lv_at hl 4 rfl) ?_
                                  refine lM_12_49 hx hb hK hP (f := w2773_a_12_49) rfl (vp_in_iff.mpr ⟨by omega, by omega⟩) dX12_cause_193 ?_
                                  refine lv_topi (fun v2780 ev2780 => ?_)
                                  refine lv_goto (tgt := 198) hx hb dX12_cause_194 (by decide) ?_
                                  have hP9 : va_P (dC, dI) classes (WM h g ca (u2 (u2 (u2 (u2 (u2 (u2 iv 12 19 w2773_i_12_19) 12 20 w2773_i_12_20) 12 21 w2773_i_12_21) 12 22 w2773_i_12_22) 12 41 n7) 12 48 w2773_i_12_48) (u2 (u2 lv 12 17 w2773_l_12_17) 12 18 w2773_l_12_18) (u2 (u2 (u2 fa 12 39 n5) 12 40 n6) 12 49 w2773_a_12_49) la) H := hP
                                  have hD9 : va_D A (WM h g ca (u2 (u2 (u2 (u2 (u2 (u2 iv 12 19 w2773_i_12_19) 12 20 w2773_i_12_20) 12 21 w2773_i_12_21) 12 22 w2773_i_12_22) 12 41 n7) 12 48 w2773_i_12_48) (u2 (u2 lv 12 17 w2773_l_12_17) 12 18 w2773_l_12_18) (u2 (u2 (u2 fa 12 39 n5) 12 40 n6) 12 49 w2773_a_12_49) la) := hD
                                  exact W.iret (v := v2780) hx hb hr (fun t ht9 hW => ⟨⟨v2780, ((u2 (u2 (u2 (u2 (u2 (u2 iv 12 19 w2773_i_12_19) 12 20 w2773_i_12_20) 12 21 w2773_i_12_21) 12 22 w2773_i_12_22) 12 41 n7) 12 48 w2773_i_12_48), (u2 (u2 lv 12 17 w2773_l_12_17) 12 18 w2773_l_12_18), (u2 (u2 (u2 fa 12 39 n5) 12 40 n6) 12 49 w2773_a_12_49), la), rfl, ⟨n5, n6, w2773_a_12_49, w2773_i_12_19, w2773_i_12_20, w2773_i_12_21, w2773_i_12_22, n7, w2773_i_12_48, w2773_l_12_17, w2773_l_12_18, hn5, hn6, (show inb (0, 8) n7 from ⟨by omega, by omega⟩), (show inb (0, 72) w2773_i_12_48 from ⟨by omega, by omega⟩), (show (w2773_i_12_20 : Int32).toInt = -1 from by omega), (show (w2773_i_12_21 : Int32).toInt = -1 from by omega), (show (w2773_i_12_22 : Int32).toInt = -1 from by omega), (show (((v2780 : Int32).toInt = -100001 ∧ ¬ (0 ≤ (a).toInt ∧ (a).toInt < (iv 12 1).toInt)) ∨ ((0 ≤ (a).toInt ∧ (a).toInt < (iv 12 1).toInt) ∧ ∃ pt : Int32, FoY (iv 12 23).toInt (fa 12 24) (fa 12 25) (fa 12 26) (fa 12 27) (fa 12 28) 2 (iv 12 0).toInt pt.toInt ∧ ((¬ PaR (cyP (fa 12 4) (fa 12 5) (fa 12 11) (fa 12 12) (a).toInt (iv 12 0).toInt 0) (cyP (fa 12 4) (fa 12 5) (fa 12 11) (fa 12 12) (a).toInt (iv 12 0).toInt 1) (fa 12 7) (fa 12 8) ((iv 12 3).toInt).toNat pt ∧ (v2780 : Int32).toInt = -100003) ∨ (PaR (cyP (fa 12 4) (fa 12 5) (fa 12 11) (fa 12 12) (a).toInt (iv 12 0).toInt 0) (cyP (fa 12 4) (fa 12 5) (fa 12 11) (fa 12 12) (a).toInt (iv 12 0).toInt 1) (fa 12 7) (fa 12 8) ((iv 12 3).toInt).toNat pt ∧ CuR (fun c : Nat => CaY (fa 12 4) (fa 12 5) (fa 12 11) (fa 12 12) (fa 12 7) (fa 12 8) (fa 12 9) (fa 12 10) (a).toInt (iv 12 0).toInt ((iv 12 3).toInt).toNat pt (c : Int)) (100 + ((iv 12 3).toInt).toNat) (b).toInt (v2780 : Int32).toInt)))) from (by
                                        have hw9 : ∀ s : Nat, s < ((iv 12 3).toInt).toNat → ¬ owY (fa 12 9) (fa 12 10) (iv 12 20).toInt (iv 12 21).toInt (iv 12 22).toInt s := fun s _ z => by
                                          have z1 : 0 ≤ (fa 12 9 s).toInt ∧ (fa 12 9 s).toInt ≤ 3 := hI.2 12 9 s
                                          have z2 : 0 ≤ (fa 12 10 s).toInt ∧ (fa 12 10 s).toInt ≤ 7 := hI.2 12 10 s
                                          unfold owY at z
                                          omega
                                        have hv9 := xr8_0
                                        rw [caC_0 hw9, caC_0 hw9] at hv9
                                        have hd9 := xr13_0
                                        have hD9 := DpR_0 (P0 := (cyP (fa 12 4) (fa 12 5) (fa 12 11) (fa 12 12) a.toInt (iv 12 0).toInt 0)) (P1 := (cyP (fa 12 4) (fa 12 5) (fa 12 11) (fa 12 12) a.toInt (iv 12 0).toInt 1)) (ra := fa 12 7) (dr := fa 12 8) (p := r4) hw9
                                        have hP9 := hD9.mp (hd9.resolve_right (fun q => by omega)).2
                                        have hq9 := hq2774_0
                                        rw [show ((x2773_4 : Int32).toInt).toNat = ((iv 12 3).toInt).toNat from by omega] at hq9
                                        exact Or.inr ⟨⟨by omega, by omega⟩, r4, xr4_0, Or.inr ⟨hP9, Or.inr (Or.inl ⟨by omega, ⟨by omega, (by rw [← hq9.1]; omega)⟩, (congrArg Int32.toInt (show v2780 = w2773_a_12_49 (b.toInt).toNat from ev2780)).trans (hq9.2 _ (by have h9 := hq9.1; omega))⟩)⟩⟩)), trivial, rfl⟩, by rw [ht9]; exact hP9, hD9⟩, hS.F ht9⟩) hS.2.2 dX12_cause_198
                              · skip
                                refine lv_if_eq (tgt := 197) hx hb dX12_cause_185 (by decide) (fun c2781 => ?_) (fun c2781 => ?_)
                                · skip
                                  refine lv_iconst (v := (-1)) hx hb dX12_cause_197 (by decide) ?_
                                  have : ((-1) : Int32).toInt = (-1) := (by decide)
                                  have hP9 : va_P (dC, dI) classes (WM h g ca (u2 (u2 (u2 (u2 (u2 (u2 iv 12 19 w2773_i_12_19) 12 20 w2773_i_12_20) 12 21 w2773_i_12_21) 12 22 w2773_i_12_22) 12 41 n7) 12 48 w2773_i_12_48) (u2 (u2 lv 12 17 w2773_l_12_17) 12 18 w2773_l_12_18) (u2 (u2 (u2 fa 12 39 n5) 12 40 n6) 12 49 w2773_a_12_49) la) H := hP
                                  have hD9 : va_D A (WM h g ca (u2 (u2 (u2 (u2 (u2 (u2 iv 12 19 w2773_i_12_19) 12 20 w2773_i_12_20) 12 21 w2773_i_12_21) 12 22 w2773_i_12_22) 12 41 n7) 12 48 w2773_i_12_48) (u2 (u2 lv 12 17 w2773_l_12_17) 12 18 w2773_l_12_18) (u2 (u2 (u2 fa 12 39 n5) 12 40 n6) 12 49 w2773_a_12_49) la) := hD
                                  exact W.iret (v := (-1)) hx hb hr (fun t ht9 hW => ⟨⟨(-1), ((u2 (u2 (u2 (u2 (u2 (u2 iv 12 19 w2773_i_12_19) 12 20 w2773_i_12_20) 12 21 w2773_i_12_21) 12 22 w2773_i_12_22) 12 41 n7) 12 48 w2773_i_12_48), (u2 (u2 lv 12 17 w2773_l_12_17) 12 18 w2773_l_12_18), (u2 (u2 (u2 fa 12 39 n5) 12 40 n6) 12 49 w2773_a_12_49), la), rfl, ⟨n5, n6, w2773_a_12_49, w2773_i_12_19, w2773_i_12_20, w2773_i_12_21, w2773_i_12_22, n7, w2773_i_12_48, w2773_l_12_17, w2773_l_12_18, hn5, hn6, (show inb (0, 8) n7 from ⟨by omega, by omega⟩), (show inb (0, 72) w2773_i_12_48 from ⟨by omega, by omega⟩), (show (w2773_i_12_20 : Int32).toInt = -1 from by omega), (show (w2773_i_12_21 : Int32).toInt = -1 from by omega), (show (w2773_i_12_22 : Int32).toInt = -1 from by omega), (show ((((-1) : Int32).toInt = -100001 ∧ ¬ (0 ≤ (a).toInt ∧ (a).toInt < (iv 12 1).toInt)) ∨ ((0 ≤ (a).toInt ∧ (a).toInt < (iv 12 1).toInt) ∧ ∃ pt : Int32, FoY (iv 12 23).toInt (fa 12 24) (fa 12 25) (fa 12 26) (fa 12 27) (fa 12 28) 2 (iv 12 0).toInt pt.toInt ∧ ((¬ PaR (cyP (fa 12 4) (fa 12 5) (fa 12 11) (fa 12 12) (a).toInt (iv 12 0).toInt 0) (cyP (fa 12 4) (fa 12 5) (fa 12 11) (fa 12 12) (a).toInt (iv 12 0).toInt 1) (fa 12 7) (fa 12 8) ((iv 12 3).toInt).toNat pt ∧ ((-1) : Int32).toInt = -100003) ∨ (PaR (cyP (fa 12 4) (fa 12 5) (fa 12 11) (fa 12 12) (a).toInt (iv 12 0).toInt 0) (cyP (fa 12 4) (fa 12 5) (fa 12 11) (fa 12 12) (a).toInt (iv 12 0).toInt 1) (fa 12 7) (fa 12 8) ((iv 12 3).toInt).toNat pt ∧ CuR (fun c : Nat => CaY (fa 12 4) (fa 12 5) (fa 12 11) (fa 12 12) (fa 12 7) (fa 12 8) (fa 12 9) (fa 12 10) (a).toInt (iv 12 0).toInt ((iv 12 3).toInt).toNat pt (c : Int)) (100 + ((iv 12 3).toInt).toNat) (b).toInt ((-1) : Int32).toInt)))) from (by
                                        have hw9 : ∀ s : Nat, s < ((iv 12 3).toInt).toNat → ¬ owY (fa 12 9) (fa 12 10) (iv 12 20).toInt (iv 12 21).toInt (iv 12 22).toInt s := fun s _ z => by
                                          have z1 : 0 ≤ (fa 12 9 s).toInt ∧ (fa 12 9 s).toInt ≤ 3 := hI.2 12 9 s
                                          have z2 : 0 ≤ (fa 12 10 s).toInt ∧ (fa 12 10 s).toInt ≤ 7 := hI.2 12 10 s
                                          unfold owY at z
                                          omega
                                        have hv9 := xr8_0
                                        rw [caC_0 hw9, caC_0 hw9] at hv9
                                        have hd9 := xr13_0
                                        have hD9 := DpR_0 (P0 := (cyP (fa 12 4) (fa 12 5) (fa 12 11) (fa 12 12) a.toInt (iv 12 0).toInt 0)) (P1 := (cyP (fa 12 4) (fa 12 5) (fa 12 11) (fa 12 12) a.toInt (iv 12 0).toInt 1)) (ra := fa 12 7) (dr := fa 12 8) (p := r4) hw9
                                        have hP9 := hD9.mp (hd9.resolve_right (fun q => by omega)).2
                                        have hq9 := hq2774_0
                                        rw [show ((x2773_4 : Int32).toInt).toNat = ((iv 12 3).toInt).toNat from by omega] at hq9
                                        exact Or.inr ⟨⟨by omega, by omega⟩, r4, xr4_0, Or.inr ⟨hP9, Or.inr (Or.inr ⟨by omega, (by rw [← hq9.1]; omega), by omega⟩)⟩⟩)), trivial, rfl⟩, by rw [ht9]; exact hP9, hD9⟩, hS.F ht9⟩) hS.2.2 dX12_cause_198
                                · exact absurd rfl c2781
                            · have fc2776 := z_eq (rfl : (b).toInt = _) (by decide : ((-1) : Int32).toInt = (-1)) c2776
                              refine lv_aload_n hx hb dX12_cause_165 rfl (lv_at hl 2 rfl) ?_
                              refine gM_12_48 hx hb ht hown hK hP m_1187 (v := w2773_i_12_48) rfl dX12_cause_166 ?_
                              refine lv_goto (tgt := 198) hx hb dX12_cause_169 (by decide) ?_
                              have hP9 : va_P (dC, dI) classes (WM h g ca (u2 (u2 (u2 (u2 (u2 (u2 iv 12 19 w2773_i_12_19) 12 20 w2773_i_12_20) 12 21 w2773_i_12_21) 12 22 w2773_i_12_22) 12 41 n7) 12 48 w2773_i_12_48) (u2 (u2 lv 12 17 w2773_l_12_17) 12 18 w2773_l_12_18) (u2 (u2 (u2 fa 12 39 n5) 12 40 n6) 12 49 w2773_a_12_49) la) H := hP
                              have hD9 : va_D A (WM h g ca (u2 (u2 (u2 (u2 (u2 (u2 iv 12 19 w2773_i_12_19) 12 20 w2773_i_12_20) 12 21 w2773_i_12_21) 12 22 w2773_i_12_22) 12 41 n7) 12 48 w2773_i_12_48) (u2 (u2 lv 12 17 w2773_l_12_17) 12 18 w2773_l_12_18) (u2 (u2 (u2 fa 12 39 n5) 12 40 n6) 12 49 w2773_a_12_49) la) := hD
                              exact W.iret (v := w2773_i_12_48) hx hb hr (fun t ht9 hW => ⟨⟨w2773_i_12_48, ((u2 (u2 (u2 (u2 (u2 (u2 iv 12 19 w2773_i_12_19) 12 20 w2773_i_12_20) 12 21 w2773_i_12_21) 12 22 w2773_i_12_22) 12 41 n7) 12 48 w2773_i_12_48), (u2 (u2 lv 12 17 w2773_l_12_17) 12 18 w2773_l_12_18), (u2 (u2 (u2 fa 12 39 n5) 12 40 n6) 12 49 w2773_a_12_49), la), rfl, ⟨n5, n6, w2773_a_12_49, w2773_i_12_19, w2773_i_12_20, w2773_i_12_21, w2773_i_12_22, n7, w2773_i_12_48, w2773_l_12_17, w2773_l_12_18, hn5, hn6, (show inb (0, 8) n7 from ⟨by omega, by omega⟩), (show inb (0, 72) w2773_i_12_48 from ⟨by omega, by omega⟩), (show (w2773_i_12_20 : Int32).toInt = -1 from by omega), (show (w2773_i_12_21 : Int32).toInt = -1 from by omega), (show (w2773_i_12_22 : Int32).toInt = -1 from by omega), (show (((w2773_i_12_48 : Int32).toInt = -100001 ∧ ¬ (0 ≤ (a).toInt ∧ (a).toInt < (iv 12 1).toInt)) ∨ ((0 ≤ (a).toInt ∧ (a).toInt < (iv 12 1).toInt) ∧ ∃ pt : Int32, FoY (iv 12 23).toInt (fa 12 24) (fa 12 25) (fa 12 26) (fa 12 27) (fa 12 28) 2 (iv 12 0).toInt pt.toInt ∧ ((¬ PaR (cyP (fa 12 4) (fa 12 5) (fa 12 11) (fa 12 12) (a).toInt (iv 12 0).toInt 0) (cyP (fa 12 4) (fa 12 5) (fa 12 11) (fa 12 12) (a).toInt (iv 12 0).toInt 1) (fa 12 7) (fa 12 8) ((iv 12 3).toInt).toNat pt ∧ (w2773_i_12_48 : Int32).toInt = -100003) ∨ (PaR (cyP (fa 12 4) (fa 12 5) (fa 12 11) (fa 12 12) (a).toInt (iv 12 0).toInt 0) (cyP (fa 12 4) (fa 12 5) (fa 12 11) (fa 12 12) (a).toInt (iv 12 0).toInt 1) (fa 12 7) (fa 12 8) ((iv 12 3).toInt).toNat pt ∧ CuR (fun c : Nat => CaY (fa 12 4) (fa 12 5) (fa 12 11) (fa 12 12) (fa 12 7) (fa 12 8) (fa 12 9) (fa 12 10) (a).toInt (iv 12 0).toInt ((iv 12 3).toInt).toNat pt (c : Int)) (100 + ((iv 12 3).toInt).toNat) (b).toInt (w2773_i_12_48 : Int32).toInt)))) from (by
                                    have hw9 : ∀ s : Nat, s < ((iv 12 3).toInt).toNat → ¬ owY (fa 12 9) (fa 12 10) (iv 12 20).toInt (iv 12 21).toInt (iv 12 22).toInt s := fun s _ z => by
                                      have z1 : 0 ≤ (fa 12 9 s).toInt ∧ (fa 12 9 s).toInt ≤ 3 := hI.2 12 9 s
                                      have z2 : 0 ≤ (fa 12 10 s).toInt ∧ (fa 12 10 s).toInt ≤ 7 := hI.2 12 10 s
                                      unfold owY at z
                                      omega
                                    have hv9 := xr8_0
                                    rw [caC_0 hw9, caC_0 hw9] at hv9
                                    have hd9 := xr13_0
                                    have hD9 := DpR_0 (P0 := (cyP (fa 12 4) (fa 12 5) (fa 12 11) (fa 12 12) a.toInt (iv 12 0).toInt 0)) (P1 := (cyP (fa 12 4) (fa 12 5) (fa 12 11) (fa 12 12) a.toInt (iv 12 0).toInt 1)) (ra := fa 12 7) (dr := fa 12 8) (p := r4) hw9
                                    have hP9 := hD9.mp (hd9.resolve_right (fun q => by omega)).2
                                    have hq9 := hq2774_0
                                    rw [show ((x2773_4 : Int32).toInt).toNat = ((iv 12 3).toInt).toNat from by omega] at hq9
                                    exact Or.inr ⟨⟨by omega, by omega⟩, r4, xr4_0, Or.inr ⟨hP9, Or.inl ⟨by omega, hq9.1⟩⟩⟩)), trivial, rfl⟩, by rw [ht9]; exact hP9, hD9⟩, hS.F ht9⟩) hS.2.2 dX12_cause_198
                          · have fc2775 := z_nle (rfl : ((iv 12 3)).toInt = _) (rfl : (x2773_4).toInt = _) c2775
                            refine lv_aload_n hx hb dX12_cause_109 rfl (lv_at hl 2 rfl) ?_
                            refine gM_12_4 hx hb ht hown hK hP m_1143 dX12_cause_110 ?_
                            refine lv_iload hx hb dX12_cause_113 (lv_at hl 0 rfl) ?_
                            refine lM_12_4 hx hb hK hP (f := (fa 12 4)) rfl (vp_in_iff.mpr ⟨by omega, by omega⟩) dX12_cause_115 ?_
                            refine lv_topi (fun v2782 ev2782 => ?_)
                            refine lv_iload_n hx hb dX12_cause_116 rfl (lv_at hl 3 rfl) ?_
                            refine lv_icmp_ne (tgt := 154) hx hb dX12_cause_117 (by decide) (fun c2783 => ?_) (fun c2783 => ?_)
                            · have fc2783 := z_ne (rfl : (v2782).toInt = _) (rfl : (a).toInt = _) c2783
                              obtain ⟨v2784, ev2784⟩ : ∃ y : Int32, y = x2773_4 + 1 := ⟨_, rfl⟩
                              have tv2784 := z_add ev2784 rfl (by decide : (1 : Int32).toInt = 1) (by omega) (by omega)
                              refine lv_iinc (v := v2784) (lv' := [(4, .int v2784), (3, .int r4), (0, .ref h), (1, .int a), (2, .int b)]) hx hb dX12_cause_154 hl (k := 0) rfl (by rw [ev2784]; rfl) (by decide) rfl (fun ls hl => ?_)
                              refine lv_goto (tgt := 100) hx hb dX12_cause_157 (by decide) ?_
                              exact ih2774 v2784 w2773_i_12_19 w2773_i_12_48 w2773_i_12_20 w2773_i_12_21 w2773_i_12_22 w2773_l_12_17 w2773_l_12_18 w2773_a_12_49 ⟨by omega, by omega⟩ ⟨by omega, by omega⟩ hw2773_a_12_49 (show LsA (fun c : Nat => CaY (fa 12 4) (fa 12 5) (fa 12 11) (fa 12 12) (fa 12 7) (fa 12 8) (fa 12 9) (fa 12 10) (a).toInt (iv 12 0).toInt ((iv 12 3).toInt).toNat (r4 : Int32) (c : Int)) (100 + ((v2784 : Int32).toInt).toNat) (w2773_i_12_48 : Int32).toInt w2773_a_12_49 from (by
                                    have hq9 := hq2774_0
                                    have hs9 : 100 + ((v2784 : Int32).toInt).toNat = 100 + ((x2773_4 : Int32).toInt).toNat + 1 := by omega
                                    have hc9 : ((100 + ((x2773_4 : Int32).toInt).toNat : Nat) : Int) = 100 + (x2773_4 : Int32).toInt := by omega
                                    have := congrArg Int32.toInt (show v2782 = fa 12 4 ((x2773_4 : Int32).toInt).toNat from ev2782)
                                    have hu9 := hJU ((x2773_4 : Int32).toInt).toNat (by omega)
                                    have hm9 : ((100 + ((x2773_4 : Int32).toInt).toNat : Nat) : Int).toNat - 100 = ((x2773_4 : Int32).toInt).toNat := by omega
                                    have hn9 : ¬ (fun c : Nat => CaY (fa 12 4) (fa 12 5) (fa 12 11) (fa 12 12) (fa 12 7) (fa 12 8) (fa 12 9) (fa 12 10) a.toInt (iv 12 0).toInt ((iv 12 3).toInt).toNat (r4 : Int32) (c : Int)) (100 + ((x2773_4 : Int32).toInt).toNat) := fun z => by
                                      rcases z with ⟨z1, -⟩ | ⟨z1, -⟩ | ⟨z1, z2, -⟩
                                      · omega
                                      · omega
                                      · rw [hm9] at z2
                                        have z3 : ((fa 12 4 ((x2773_4 : Int32).toInt).toNat).toInt = a.toInt ∧ (fa 12 5 ((x2773_4 : Int32).toInt).toNat).toInt = 0 ∧ (fa 12 11 ((x2773_4 : Int32).toInt).toNat).toInt ≤ (iv 12 0).toInt ∧ ((fa 12 12 ((x2773_4 : Int32).toInt).toNat).toInt < 0 ∨ (iv 12 0).toInt < (fa 12 12 ((x2773_4 : Int32).toInt).toNat).toInt)) ∨ ((fa 12 4 ((x2773_4 : Int32).toInt).toNat).toInt = a.toInt ∧ (fa 12 5 ((x2773_4 : Int32).toInt).toNat).toInt = 1 ∧ (fa 12 11 ((x2773_4 : Int32).toInt).toNat).toInt ≤ (iv 12 0).toInt ∧ ((fa 12 12 ((x2773_4 : Int32).toInt).toNat).toInt < 0 ∨ (iv 12 0).toInt < (fa 12 12 ((x2773_4 : Int32).toInt).toNat).toInt)) := z2
                                        omega
                                    exact LsA_n hs9 hq9 hn9 rfl (fun j => rfl))) (show (w2773_i_12_48 : Int32).toInt ≤ 12 + (v2784 : Int32).toInt from by omega) (show (v2784 : Int32).toInt ≤ ((iv 12 3) : Int32).toInt from by omega) (show (w2773_i_12_20 : Int32).toInt = -1 from by omega) (show (w2773_i_12_21 : Int32).toInt = -1 from by omega) (show (w2773_i_12_22 : Int32).toInt = -1 from by omega) (by omega) _ _ ls hP hD hS (lv_sub hl [0, 1, 2, 3, 4] rfl)
                            · have fc2783 := z_eq (rfl : (v2782).toInt = _) (rfl : (a).toInt = _) c2783
                              refine lv_aload_n hx hb dX12_cause_120 rfl (lv_at hl 2 rfl) ?_
                              refine gM_12_5 hx hb ht hown hK hP m_1144 dX12_cause_121 ?_
                              refine lv_iload hx hb dX12_cause_124 (lv_at hl 0 rfl) ?_
                              refine lM_12_5 hx hb hK hP (f := (fa 12 5)) rfl (vp_in_iff.mpr ⟨by omega, by omega⟩) dX12_cause_126 ?_
                              refine lv_topi (fun v2785 ev2785 => ?_)
                              refine lv_iconst (v := 2) hx hb dX12_cause_127 (by decide) ?_
                              refine lv_icmp_ge (tgt := 154) hx hb dX12_cause_128 (by decide) (fun c2786 => ?_) (fun c2786 => ?_)
                              · have fc2786 := z_le (by decide : (2 : Int32).toInt = 2) (rfl : (v2785).toInt = _) c2786
                                obtain ⟨v2787, ev2787⟩ : ∃ y : Int32, y = x2773_4 + 1 := ⟨_, rfl⟩
                                have tv2787 := z_add ev2787 rfl (by decide : (1 : Int32).toInt = 1) (by omega) (by omega)
                                refine lv_iinc (v := v2787) (lv' := [(4, .int v2787), (3, .int r4), (0, .ref h), (1, .int a), (2, .int b)]) hx hb dX12_cause_154 hl (k := 0) rfl (by rw [ev2787]; rfl) (by decide) rfl (fun ls hl => ?_)
                                refine lv_goto (tgt := 100) hx hb dX12_cause_157 (by decide) ?_
                                exact ih2774 v2787 w2773_i_12_19 w2773_i_12_48 w2773_i_12_20 w2773_i_12_21 w2773_i_12_22 w2773_l_12_17 w2773_l_12_18 w2773_a_12_49 ⟨by omega, by omega⟩ ⟨by omega, by omega⟩ hw2773_a_12_49 (show LsA (fun c : Nat => CaY (fa 12 4) (fa 12 5) (fa 12 11) (fa 12 12) (fa 12 7) (fa 12 8) (fa 12 9) (fa 12 10) (a).toInt (iv 12 0).toInt ((iv 12 3).toInt).toNat (r4 : Int32) (c : Int)) (100 + ((v2787 : Int32).toInt).toNat) (w2773_i_12_48 : Int32).toInt w2773_a_12_49 from (by
                                      have hq9 := hq2774_0
                                      have hs9 : 100 + ((v2787 : Int32).toInt).toNat = 100 + ((x2773_4 : Int32).toInt).toNat + 1 := by omega
                                      have hc9 : ((100 + ((x2773_4 : Int32).toInt).toNat : Nat) : Int) = 100 + (x2773_4 : Int32).toInt := by omega
                                      have := congrArg Int32.toInt (show v2782 = fa 12 4 ((x2773_4 : Int32).toInt).toNat from ev2782)
                                      have := congrArg Int32.toInt (show v2785 = fa 12 5 ((x2773_4 : Int32).toInt).toNat from ev2785)
                                      have hu9 := hJU ((x2773_4 : Int32).toInt).toNat (by omega)
                                      have hm9 : ((100 + ((x2773_4 : Int32).toInt).toNat : Nat) : Int).toNat - 100 = ((x2773_4 : Int32).toInt).toNat := by omega
                                      have hn9 : ¬ (fun c : Nat => CaY (fa 12 4) (fa 12 5) (fa 12 11) (fa 12 12) (fa 12 7) (fa 12 8) (fa 12 9) (fa 12 10) a.toInt (iv 12 0).toInt ((iv 12 3).toInt).toNat (r4 : Int32) (c : Int)) (100 + ((x2773_4 : Int32).toInt).toNat) := fun z => by
                                        rcases z with ⟨z1, -⟩ | ⟨z1, -⟩ | ⟨z1, z2, -⟩
                                        · omega
                                        · omega
                                        · rw [hm9] at z2
                                          have z3 : ((fa 12 4 ((x2773_4 : Int32).toInt).toNat).toInt = a.toInt ∧ (fa 12 5 ((x2773_4 : Int32).toInt).toNat).toInt = 0 ∧ (fa 12 11 ((x2773_4 : Int32).toInt).toNat).toInt ≤ (iv 12 0).toInt ∧ ((fa 12 12 ((x2773_4 : Int32).toInt).toNat).toInt < 0 ∨ (iv 12 0).toInt < (fa 12 12 ((x2773_4 : Int32).toInt).toNat).toInt)) ∨ ((fa 12 4 ((x2773_4 : Int32).toInt).toNat).toInt = a.toInt ∧ (fa 12 5 ((x2773_4 : Int32).toInt).toNat).toInt = 1 ∧ (fa 12 11 ((x2773_4 : Int32).toInt).toNat).toInt ≤ (iv 12 0).toInt ∧ ((fa 12 12 ((x2773_4 : Int32).toInt).toNat).toInt < 0 ∨ (iv 12 0).toInt < (fa 12 12 ((x2773_4 : Int32).toInt).toNat).toInt)) := z2
                                          omega
                                      exact LsA_n hs9 hq9 hn9 rfl (fun j => rfl))) (show (w2773_i_12_48 : Int32).toInt ≤ 12 + (v2787 : Int32).toInt from by omega) (show (v2787 : Int32).toInt ≤ ((iv 12 3) : Int32).toInt from by omega) (show (w2773_i_12_20 : Int32).toInt = -1 from by omega) (show (w2773_i_12_21 : Int32).toInt = -1 from by omega) (show (w2773_i_12_22 : Int32).toInt = -1 from by omega) (by omega) _ _ ls hP hD hS (lv_sub hl [0, 1, 2, 3, 4] rfl)
                              · have fc2786 := z_nle (by decide : (2 : Int32).toInt = 2) (rfl : (v2785).toInt = _) c2786
                                refine lv_aload_n hx hb dX12_cause_131 rfl (lv_at hl 2 rfl) ?_
                                refine lv_iload hx hb dX12_cause_132 (lv_at hl 0 rfl) ?_
                                refine lv_aload_n hx hb dX12_cause_134 rfl (lv_at hl 2 rfl) ?_
                                refine gM_12_0 hx hb ht hown hK hP m_1139 (v := (iv 12 0)) rfl dX12_cause_135 ?_
                                refine vp_callSi (W.runV (As := [.int x2773_4, .int (iv 12 0)]) (rest := []) ⟨hx, hb, hml, hown, ht⟩ (c_X12_isThere_x l dC dI h g ca (u2 (u2 (u2 (u2 (u2 (u2 iv 12 41 n7) 12 19 w2773_i_12_19) 12 48 w2773_i_12_48) 12 20 w2773_i_12_20) 12 21 w2773_i_12_21) 12 22 w2773_i_12_22) (u2 (u2 lv 12 17 w2773_l_12_17) 12 18 w2773_l_12_18) (u2 (u2 (u2 fa 12 39 n5) 12 40 n6) 12 49 w2773_a_12_49) la (IX_a (c := 12) (k := 49) (IX_a (c := 12) (k := 40) (IX_a (c := 12) (k := 39) (IX_i (c := 12) (k := 22) (IX_i (c := 12) (k := 21) (IX_i (c := 12) (k := 20) (IX_i (c := 12) (k := 48) (IX_i (c := 12) (k := 19) (IX_i (c := 12) (k := 41) hI (show inb (0, 8) n7 from ⟨by omega, by omega⟩)) (full_i _)) (show inb (0, 72) w2773_i_12_48 from ⟨by omega, by omega⟩)) (full_i _)) (full_i _)) (full_i _)) hn5) hn6) hw2773_a_12_49) x2773_4 (iv 12 0) ⟨by omega, by omega⟩) (kV 2 ht m_1438 m_1440 m_46 m_89 m_1441 rfl rfl hd_X12_isThere_v ⟨Nat.le_of_ble_eq_true rfl, Nat.le_of_ble_eq_true rfl⟩) (vR hP hK (rM_12 hK hP)) rfl rfl hl.1 rfl (lv_room (Nat.le_of_ble_eq_true rfl)) dX12_cause_138 ⟨Nat.le_of_ble_eq_true rfl, Nat.le_of_ble_eq_true rfl⟩) (fun r2788 hr2788 => ?_)
                                obtain ⟨hr2788, xr2788_0⟩ := hr2788
                                have xr2788_0 : (((r2788 : Int32).toInt = 1 ∧ ((fa 12 11) (x2773_4 : Int32).toNatClampNeg).toInt ≤ ((iv 12 0) : Int32).toInt ∧ (((fa 12 12) (x2773_4 : Int32).toNatClampNeg).toInt < 0 ∨ ((iv 12 0) : Int32).toInt < ((fa 12 12) (x2773_4 : Int32).toNatClampNeg).toInt)) ∨ ((r2788 : Int32).toInt = 0 ∧ ¬ (((fa 12 11) (x2773_4 : Int32).toNatClampNeg).toInt ≤ ((iv 12 0) : Int32).toInt ∧ (((fa 12 12) (x2773_4 : Int32).toNatClampNeg).toInt < 0 ∨ ((iv 12 0) : Int32).toInt < ((fa 12 12) (x2773_4 : Int32).toNatClampNeg).toInt)))) := xr2788_0
                                refine lv_if_eq (tgt := 154) hx hb dX12_cause_141 (by decide) (fun c2789 => ?_) (fun c2789 => ?_)
                                · have fc2789 := z_eq (rfl : (r2788).toInt = _) (by decide : (0 : Int32).toInt = 0) c2789
                                  obtain ⟨v2790, ev2790⟩ : ∃ y : Int32, y = x2773_4 + 1 := ⟨_, rfl⟩
                                  have tv2790 := z_add ev2790 rfl (by decide : (1 : Int32).toInt = 1) (by omega) (by omega)
                                  refine lv_iinc (v := v2790) (lv' := [(4, .int v2790), (3, .int r4), (0, .ref h), (1, .int a), (2, .int b)]) hx hb dX12_cause_154 hl (k := 0) rfl (by rw [ev2790]; rfl) (by decide) rfl (fun ls hl => ?_)
                                  refine lv_goto (tgt := 100) hx hb dX12_cause_157 (by decide) ?_
                                  exact ih2774 v2790 w2773_i_12_19 w2773_i_12_48 w2773_i_12_20 w2773_i_12_21 w2773_i_12_22 w2773_l_12_17 w2773_l_12_18 w2773_a_12_49 ⟨by omega, by omega⟩ ⟨by omega, by omega⟩ hw2773_a_12_49 (show LsA (fun c : Nat => CaY (fa 12 4) (fa 12 5) (fa 12 11) (fa 12 12) (fa 12 7) (fa 12 8) (fa 12 9) (fa 12 10) (a).toInt (iv 12 0).toInt ((iv 12 3).toInt).toNat (r4 : Int32) (c : Int)) (100 + ((v2790 : Int32).toInt).toNat) (w2773_i_12_48 : Int32).toInt w2773_a_12_49 from (by
                                        have hq9 := hq2774_0
                                        have hs9 : 100 + ((v2790 : Int32).toInt).toNat = 100 + ((x2773_4 : Int32).toInt).toNat + 1 := by omega
                                        have hc9 : ((100 + ((x2773_4 : Int32).toInt).toNat : Nat) : Int) = 100 + (x2773_4 : Int32).toInt := by omega
                                        have := congrArg Int32.toInt (show v2782 = fa 12 4 ((x2773_4 : Int32).toInt).toNat from ev2782)
                                        have := congrArg Int32.toInt (show v2785 = fa 12 5 ((x2773_4 : Int32).toInt).toNat from ev2785)
                                        have y9 : ((r2788 : Int32).toInt = 1 ∧ (fa 12 11 ((x2773_4 : Int32).toInt).toNat).toInt ≤ ((iv 12 0) : Int32).toInt ∧ ((fa 12 12 ((x2773_4 : Int32).toInt).toNat).toInt < 0 ∨ ((iv 12 0) : Int32).toInt < (fa 12 12 ((x2773_4 : Int32).toInt).toNat).toInt)) ∨ ((r2788 : Int32).toInt = 0 ∧ ¬ ((fa 12 11 ((x2773_4 : Int32).toInt).toNat).toInt ≤ ((iv 12 0) : Int32).toInt ∧ ((fa 12 12 ((x2773_4 : Int32).toInt).toNat).toInt < 0 ∨ ((iv 12 0) : Int32).toInt < (fa 12 12 ((x2773_4 : Int32).toInt).toNat).toInt))) := xr2788_0
                                        have hu9 := hJU ((x2773_4 : Int32).toInt).toNat (by omega)
                                        have hm9 : ((100 + ((x2773_4 : Int32).toInt).toNat : Nat) : Int).toNat - 100 = ((x2773_4 : Int32).toInt).toNat := by omega
                                        have hn9 : ¬ (fun c : Nat => CaY (fa 12 4) (fa 12 5) (fa 12 11) (fa 12 12) (fa 12 7) (fa 12 8) (fa 12 9) (fa 12 10) a.toInt (iv 12 0).toInt ((iv 12 3).toInt).toNat (r4 : Int32) (c : Int)) (100 + ((x2773_4 : Int32).toInt).toNat) := fun z => by
                                          rcases z with ⟨z1, -⟩ | ⟨z1, -⟩ | ⟨z1, z2, -⟩
                                          · omega
                                          · omega
                                          · rw [hm9] at z2
                                            have z3 : ((fa 12 4 ((x2773_4 : Int32).toInt).toNat).toInt = a.toInt ∧ (fa 12 5 ((x2773_4 : Int32).toInt).toNat).toInt = 0 ∧ (fa 12 11 ((x2773_4 : Int32).toInt).toNat).toInt ≤ (iv 12 0).toInt ∧ ((fa 12 12 ((x2773_4 : Int32).toInt).toNat).toInt < 0 ∨ (iv 12 0).toInt < (fa 12 12 ((x2773_4 : Int32).toInt).toNat).toInt)) ∨ ((fa 12 4 ((x2773_4 : Int32).toInt).toNat).toInt = a.toInt ∧ (fa 12 5 ((x2773_4 : Int32).toInt).toNat).toInt = 1 ∧ (fa 12 11 ((x2773_4 : Int32).toInt).toNat).toInt ≤ (iv 12 0).toInt ∧ ((fa 12 12 ((x2773_4 : Int32).toInt).toNat).toInt < 0 ∨ (iv 12 0).toInt < (fa 12 12 ((x2773_4 : Int32).toInt).toNat).toInt)) := z2
                                            omega
                                        exact LsA_n hs9 hq9 hn9 rfl (fun j => rfl))) (show (w2773_i_12_48 : Int32).toInt ≤ 12 + (v2790 : Int32).toInt from by omega) (show (v2790 : Int32).toInt ≤ ((iv 12 3) : Int32).toInt from by omega) (show (w2773_i_12_20 : Int32).toInt = -1 from by omega) (show (w2773_i_12_21 : Int32).toInt = -1 from by omega) (show (w2773_i_12_22 : Int32).toInt = -1 from by omega) (by omega) _ _ ls hP hD hS (lv_sub hl [0, 1, 2, 3, 4] rfl)
                                · have fc2789 := z_ne (rfl : (r2788).toInt = _) (by decide : (0 : Int32).toInt = 0) c2789
                                  refine lv_aload_n hx hb dX12_cause_144 rfl (lv_at hl 2 rfl) ?_
                                  refine lv_iload_n hx hb dX12_cause_145 rfl (lv_at hl 3 rfl) ?_
                                  refine lv_iload_n hx hb dX12_cause_146 rfl (lv_at hl 1 rfl) ?_
                                  refine lv_iconst (v := (-1)) hx hb dX12_cause_147 (by decide) ?_
                                  refine lv_iconst (v := (-1)) hx hb dX12_cause_148 (by decide) ?_
                                  refine lv_iload hx hb dX12_cause_149 (lv_at hl 0 rfl) ?_
                                  have : 0 ≤ (w2773_i_12_48 : Int32).toInt ∧ (w2773_i_12_48 : Int32).toInt ≤ 71 := ⟨by omega, by omega⟩
                                  have hFc := free_all hD hS hA
                                  refine va_callv (va_runV (As := [.int a, .int r4, .int (-1), .int (-1), .int x2773_4]) (rest := []) ⟨hx, hb, hml, hown, ht⟩ (c_X12_tryCause_t l dC dI H.size h g ca (u2 (u2 (u2 (u2 (u2 (u2 iv 12 41 n7) 12 19 w2773_i_12_19) 12 48 w2773_i_12_48) 12 20 w2773_i_12_20) 12 21 w2773_i_12_21) 12 22 w2773_i_12_22) (u2 (u2 lv 12 17 w2773_l_12_17) 12 18 w2773_l_12_18) (u2 (u2 (u2 fa 12 39 n5) 12 40 n6) 12 49 w2773_a_12_49) la (IX_a (c := 12) (k := 49) (IX_a (c := 12) (k := 40) (IX_a (c := 12) (k := 39) (IX_i (c := 12) (k := 22) (IX_i (c := 12) (k := 21) (IX_i (c := 12) (k := 20) (IX_i (c := 12) (k := 48) (IX_i (c := 12) (k := 19) (IX_i (c := 12) (k := 41) hI (show inb (0, 8) n7 from ⟨by omega, by omega⟩)) (full_i _)) (show inb (0, 72) w2773_i_12_48 from ⟨by omega, by omega⟩)) (full_i _)) (full_i _)) (full_i _)) hn5) hn6) hw2773_a_12_49) a r4 x2773_4 (show 0 ≤ (w2773_i_12_48 : Int32).toInt ∧ (w2773_i_12_48 : Int32).toInt ≤ 71 from ⟨by omega, by omega⟩) ⟨by omega, by omega⟩ (show (w2773_i_12_20 : Int32).toInt = -1 from by omega) (show (w2773_i_12_21 : Int32).toInt = -1 from by omega) (show (w2773_i_12_22 : Int32).toInt = -1 from by omega) hJR) (kV 5 ht m_1586 m_1588 m_66 m_89 m_1589 rfl rfl hd_X12_tryCause_v ⟨Nat.le_of_ble_eq_true rfl, Nat.le_of_ble_eq_true rfl⟩) (vW hP hK hD (rM_12 hK hP)) rfl rfl hl.1 rfl (lv_room (Nat.le_of_ble_eq_true rfl)) dX12_cause_151 ⟨Nat.le_of_ble_eq_true rfl, Nat.le_of_ble_eq_true rfl⟩) hS (fun q _ h => hFc q h) hFc (fun u t H1 locs ht9 hvm hr2791 hB hz1 hk1 hS => ?_)
                                  obtain ⟨n2792, n2793, n2794, n2795, n2796, n2797, n2798, n2799, hn2797, xr2791_0, xr2791_1, xr2791_2, xr2791_3, xr2791_4, rfl⟩ := hr2791
                                  have hn2792 : ∀ j, inb (bA 12 49 j) (n2792 j) := fun j => full_i _
                                  have hn2797 : 0 ≤ n2797.toInt ∧ n2797.toInt ≤ 72 := hn2797
                                  obtain ⟨hP, hD⟩ := hB
                                  rw [ht9] at hP
                                  generalize H1 = H at hP hS ⊢
                                  have hP : va_P (dC, dI) classes (WM h g ca (u2 (u2 (u2 (u2 (u2 (u2 iv 12 41 n7) 12 19 n2793) 12 48 n2797) 12 20 n2794) 12 21 n2795) 12 22 n2796) (u2 (u2 lv 12 17 n2798) 12 18 n2799) (u2 (u2 (u2 fa 12 39 n5) 12 40 n6) 12 49 n2792) la) H := hP
                                  have hD : va_D A (WM h g ca (u2 (u2 (u2 (u2 (u2 (u2 iv 12 41 n7) 12 19 n2793) 12 48 n2797) 12 20 n2794) 12 21 n2795) 12 22 n2796) (u2 (u2 lv 12 17 n2798) 12 18 n2799) (u2 (u2 (u2 fa 12 39 n5) 12 40 n6) 12 49 n2792) la) := (show va_D _ (WM h g ca (u2 (u2 (u2 (u2 (u2 (u2 iv 12 41 n7) 12 19 n2793) 12 48 n2797) 12 20 n2794) 12 21 n2795) 12 22 n2796) (u2 (u2 lv 12 17 n2798) 12 18 n2799) (u2 (u2 (u2 fa 12 39 n5) 12 40 n6) 12 49 n2792) la) from hD).weaken (fun _ _ _ h => hFc _ h)
                                  have xr2791_0 : (n2794 : Int32).toInt = -1 := xr2791_0
                                  have xr2791_1 : (n2795 : Int32).toInt = -1 := xr2791_1
                                  have xr2791_2 : (n2796 : Int32).toInt = -1 := xr2791_2
                                  have xr2791_3 : (n2797 : Int32).toInt ≤ (w2773_i_12_48 : Int32).toInt + 1 := xr2791_3
                                  have xr2791_4 : (((n2797 : Int32).toInt = (w2773_i_12_48 : Int32).toInt + 1 ∧ AgR (cyP (fa 12 4) (fa 12 5) (fa 12 11) (fa 12 12) (a : Int32).toInt ((iv 12 0) : Int32).toInt 0) (cyP (fa 12 4) (fa 12 5) (fa 12 11) (fa 12 12) (a : Int32).toInt ((iv 12 0) : Int32).toInt 1) (owY (fa 12 9) (fa 12 10) (-1) (-1) (x2773_4 : Int32).toInt) (fa 12 7) (fa 12 8) (((iv 12 3) : Int32).toInt).toNat 1 (r4 : Int32) ∧ (n2792 ((w2773_i_12_48 : Int32).toInt).toNat).toInt = 100 + (x2773_4 : Int32).toInt ∧ ∀ j : Nat, j ≠ ((w2773_i_12_48 : Int32).toInt).toNat → n2792 j = w2773_a_12_49 j) ∨ ((n2797 : Int32).toInt = (w2773_i_12_48 : Int32).toInt ∧ ¬ AgR (cyP (fa 12 4) (fa 12 5) (fa 12 11) (fa 12 12) (a : Int32).toInt ((iv 12 0) : Int32).toInt 0) (cyP (fa 12 4) (fa 12 5) (fa 12 11) (fa 12 12) (a : Int32).toInt ((iv 12 0) : Int32).toInt 1) (owY (fa 12 9) (fa 12 10) (-1) (-1) (x2773_4 : Int32).toInt) (fa 12 7) (fa 12 8) (((iv 12 3) : Int32).toInt).toNat 1 (r4 : Int32) ∧ ∀ j : Nat, n2792 j = w2773_a_12_49 j)) := xr2791_4
                                  obtain ⟨v2800, ev2800⟩ : ∃ y : Int32, y = x2773_4 + 1 := ⟨_, rfl⟩
                                  have tv2800 := z_add ev2800 rfl (by decide : (1 : Int32).toInt = 1) (by omega) (by omega)
                                  refine lv_iinc (v := v2800) (lv' := [(4, .int v2800), (3, .int r4), (0, .ref h), (1, .int a), (2, .int b)]) hx hb dX12_cause_154 hl (k := 0) rfl (by rw [ev2800]; rfl) (by decide) rfl (fun ls hl => ?_)
                                  refine lv_goto (tgt := 100) hx hb dX12_cause_157 (by decide) ?_
                                  exact ih2774 v2800 n2793 n2797 n2794 n2795 n2796 n2798 n2799 n2792 ⟨by omega, by omega⟩ ⟨by omega, by omega⟩ hn2792 (show LsA (fun c : Nat => CaY (fa 12 4) (fa 12 5) (fa 12 11) (fa 12 12) (fa 12 7) (fa 12 8) (fa 12 9) (fa 12 10) (a).toInt (iv 12 0).toInt ((iv 12 3).toInt).toNat (r4 : Int32) (c : Int)) (100 + ((v2800 : Int32).toInt).toNat) (n2797 : Int32).toInt n2792 from (by
                                        have hq9 := hq2774_0
                                        have hs9 : 100 + ((v2800 : Int32).toInt).toNat = 100 + ((x2773_4 : Int32).toInt).toNat + 1 := by omega
                                        have hc9 : ((100 + ((x2773_4 : Int32).toInt).toNat : Nat) : Int) = 100 + (x2773_4 : Int32).toInt := by omega
                                        have := congrArg Int32.toInt (show v2782 = fa 12 4 ((x2773_4 : Int32).toInt).toNat from ev2782)
                                        have := congrArg Int32.toInt (show v2785 = fa 12 5 ((x2773_4 : Int32).toInt).toNat from ev2785)
                                        have y9 : ((r2788 : Int32).toInt = 1 ∧ (fa 12 11 ((x2773_4 : Int32).toInt).toNat).toInt ≤ ((iv 12 0) : Int32).toInt ∧ ((fa 12 12 ((x2773_4 : Int32).toInt).toNat).toInt < 0 ∨ ((iv 12 0) : Int32).toInt < (fa 12 12 ((x2773_4 : Int32).toInt).toNat).toInt)) ∨ ((r2788 : Int32).toInt = 0 ∧ ¬ ((fa 12 11 ((x2773_4 : Int32).toInt).toNat).toInt ≤ ((iv 12 0) : Int32).toInt ∧ ((fa 12 12 ((x2773_4 : Int32).toInt).toNat).toInt < 0 ∨ ((iv 12 0) : Int32).toInt < (fa 12 12 ((x2773_4 : Int32).toInt).toNat).toInt))) := xr2788_0
                                        have hu9 := hJU ((x2773_4 : Int32).toInt).toNat (by omega)
                                        have hm9 : ((100 + ((x2773_4 : Int32).toInt).toNat : Nat) : Int).toNat - 100 = ((x2773_4 : Int32).toInt).toNat := by omega
                                        have he9 : ((100 + ((x2773_4 : Int32).toInt).toNat : Nat) : Int) - 100 = (x2773_4 : Int32).toInt := by omega
                                        have hm8 := xr2791_4
                                        rw [← he9] at hm8
                                        have hi9 : ((fa 12 4 ((x2773_4 : Int32).toInt).toNat).toInt = a.toInt ∧ (fa 12 5 ((x2773_4 : Int32).toInt).toNat).toInt = 0 ∧ (fa 12 11 ((x2773_4 : Int32).toInt).toNat).toInt ≤ (iv 12 0).toInt ∧ ((fa 12 12 ((x2773_4 : Int32).toInt).toNat).toInt < 0 ∨ (iv 12 0).toInt < (fa 12 12 ((x2773_4 : Int32).toInt).toNat).toInt)) ∨ ((fa 12 4 ((x2773_4 : Int32).toInt).toNat).toInt = a.toInt ∧ (fa 12 5 ((x2773_4 : Int32).toInt).toNat).toInt = 1 ∧ (fa 12 11 ((x2773_4 : Int32).toInt).toNat).toInt ≤ (iv 12 0).toInt ∧ ((fa 12 12 ((x2773_4 : Int32).toInt).toNat).toInt < 0 ∨ (iv 12 0).toInt < (fa 12 12 ((x2773_4 : Int32).toInt).toNat).toInt)) := by omega
                                        rcases hm8 with ⟨z1, z2, z3, z4⟩ | ⟨z1, z2, z3⟩
                                        · have hn9 : (fun c : Nat => CaY (fa 12 4) (fa 12 5) (fa 12 11) (fa 12 12) (fa 12 7) (fa 12 8) (fa 12 9) (fa 12 10) a.toInt (iv 12 0).toInt ((iv 12 3).toInt).toNat (r4 : Int32) (c : Int)) (100 + ((x2773_4 : Int32).toInt).toNat) := Or.inr (Or.inr ⟨by omega, (by rw [hm9]; exact hi9), z2⟩)
                                          exact LsA_y hs9 hq9 hn9 z1 (by omega) z4
                                        · have hn9 : ¬ (fun c : Nat => CaY (fa 12 4) (fa 12 5) (fa 12 11) (fa 12 12) (fa 12 7) (fa 12 8) (fa 12 9) (fa 12 10) a.toInt (iv 12 0).toInt ((iv 12 3).toInt).toNat (r4 : Int32) (c : Int)) (100 + ((x2773_4 : Int32).toInt).toNat) := fun z => by
                                            rcases z with ⟨z1, -⟩ | ⟨z1, -⟩ | ⟨-, -, z1⟩
                                            · omega
                                            · omega
                                            · exact z2 z1
                                          exact LsA_n hs9 hq9 hn9 z1 z3)) (show (n2797 : Int32).toInt ≤ 12 + (v2800 : Int32).toInt from by omega) (show (v2800 : Int32).toInt ≤ ((iv 12 3) : Int32).toInt from by omega) (show (n2794 : Int32).toInt = -1 from by omega) (show (n2795 : Int32).toInt = -1 from by omega) (show (n2796 : Int32).toInt = -1 from by omega) (by omega) _ _ ls hP hD hS (lv_sub hl [0, 1, 2, 3, 4] rfl)
                      have : (0 : Int32).toInt = 0 := (by decide)
                      exact lp2774 61 0 w2176_i_12_19 w2176_i_12_48 w2176_i_12_20 w2176_i_12_21 w2176_i_12_22 w2176_l_12_17 w2176_l_12_18 w2176_a_12_49 ⟨by decide, by decide⟩ ⟨by omega, by omega⟩ hw2176_a_12_49 (show LsA (fun c : Nat => CaY (fa 12 4) (fa 12 5) (fa 12 11) (fa 12 12) (fa 12 7) (fa 12 8) (fa 12 9) (fa 12 10) (a).toInt (iv 12 0).toInt ((iv 12 3).toInt).toNat (r4 : Int32) (c : Int)) (100 + ((0 : Int32).toInt).toNat) (w2176_i_12_48 : Int32).toInt w2176_a_12_49 from (by
                            have hz : ((0 : Int32).toInt).toNat = 0 := (by decide)
                            rw [hz]
                            have hq9 := hq2177_0
                            rw [show 10 + ((x2176_4 : Int32).toInt).toNat = 18 from by omega] at hq9
                            exact LsA_cut hq9 (by omega) (fun j h1 h2 z => by
                              rcases z with ⟨z1, -⟩ | ⟨z1, -⟩ | ⟨z1, -⟩
                              · omega
                              · omega
                              · omega))) (show (w2176_i_12_48 : Int32).toInt ≤ 12 + (0 : Int32).toInt from by omega) (show (0 : Int32).toInt ≤ ((iv 12 3) : Int32).toInt from by omega) (show (w2176_i_12_20 : Int32).toInt = -1 from by omega) (show (w2176_i_12_21 : Int32).toInt = -1 from by omega) (show (w2176_i_12_22 : Int32).toInt = -1 from by omega) (by first | decide | omega) _ _ ls hP hD hS (lv_sub hl [0, 1, 2, 3, 4] rfl)
                    · have fc2178 := z_nle (by decide : (8 : Int32).toInt = 8) (rfl : (x2176_4).toInt = _) c2178
                      refine lv_aload_n hx hb dX12_cause_81 rfl (lv_at hl 2 rfl) ?_
                      refine lv_iload_n hx hb dX12_cause_82 rfl (lv_at hl 3 rfl) ?_
                      refine lv_iload_n hx hb dX12_cause_83 rfl (lv_at hl 1 rfl) ?_
                      refine lv_iconst (v := (-1)) hx hb dX12_cause_84 (by decide) ?_
                      refine lv_iload hx hb dX12_cause_85 (lv_at hl 0 rfl) ?_
                      refine lv_iconst (v := (-1)) hx hb dX12_cause_87 (by decide) ?_
                      have : 0 ≤ (w2176_i_12_48 : Int32).toInt ∧ (w2176_i_12_48 : Int32).toInt ≤ 71 := ⟨by omega, by omega⟩
                      have hFc := free_all hD hS hA
                      refine va_callv (va_runV (As := [.int a, .int r4, .int (-1), .int x2176_4, .int (-1)]) (rest := []) ⟨hx, hb, hml, hown, ht⟩ (c_X12_tryCause_h l dC dI H.size h g ca (u2 (u2 (u2 (u2 (u2 (u2 iv 12 41 n7) 12 19 w2176_i_12_19) 12 48 w2176_i_12_48) 12 20 w2176_i_12_20) 12 21 w2176_i_12_21) 12 22 w2176_i_12_22) (u2 (u2 lv 12 17 w2176_l_12_17) 12 18 w2176_l_12_18) (u2 (u2 (u2 fa 12 39 n5) 12 40 n6) 12 49 w2176_a_12_49) la (IX_a (c := 12) (k := 49) (IX_a (c := 12) (k := 40) (IX_a (c := 12) (k := 39) (IX_i (c := 12) (k := 22) (IX_i (c := 12) (k := 21) (IX_i (c := 12) (k := 20) (IX_i (c := 12) (k := 48) (IX_i (c := 12) (k := 19) (IX_i (c := 12) (k := 41) hI (show inb (0, 8) n7 from ⟨by omega, by omega⟩)) (full_i _)) (show inb (0, 72) w2176_i_12_48 from ⟨by omega, by omega⟩)) (full_i _)) (full_i _)) (full_i _)) hn5) hn6) hw2176_a_12_49) a r4 x2176_4 (show 0 ≤ (w2176_i_12_48 : Int32).toInt ∧ (w2176_i_12_48 : Int32).toInt ≤ 71 from ⟨by omega, by omega⟩) ⟨by omega, by omega⟩ (show (w2176_i_12_20 : Int32).toInt = -1 from by omega) (show (w2176_i_12_21 : Int32).toInt = -1 from by omega) (show (w2176_i_12_22 : Int32).toInt = -1 from by omega) hJR) (kV 5 ht m_1586 m_1588 m_66 m_89 m_1589 rfl rfl hd_X12_tryCause_v ⟨Nat.le_of_ble_eq_true rfl, Nat.le_of_ble_eq_true rfl⟩) (vW hP hK hD (rM_12 hK hP)) rfl rfl hl.1 rfl (lv_room (Nat.le_of_ble_eq_true rfl)) dX12_cause_88 ⟨Nat.le_of_ble_eq_true rfl, Nat.le_of_ble_eq_true rfl⟩) hS (fun q _ h => hFc q h) hFc (fun u t H1 locs ht9 hvm hr2801 hB hz1 hk1 hS => ?_)
                      obtain ⟨n2802, n2803, n2804, n2805, n2806, n2807, n2808, n2809, hn2807, xr2801_0, xr2801_1, xr2801_2, xr2801_3, xr2801_4, rfl⟩ := hr2801
                      have hn2802 : ∀ j, inb (bA 12 49 j) (n2802 j) := fun j => full_i _
                      have hn2807 : 0 ≤ n2807.toInt ∧ n2807.toInt ≤ 72 := hn2807
                      obtain ⟨hP, hD⟩ := hB
                      rw [ht9] at hP
                      generalize H1 = H at hP hS ⊢
                      have hP : va_P (dC, dI) classes (WM h g ca (u2 (u2 (u2 (u2 (u2 (u2 iv 12 41 n7) 12 19 n2803) 12 48 n2807) 12 20 n2804) 12 21 n2805) 12 22 n2806) (u2 (u2 lv 12 17 n2808) 12 18 n2809) (u2 (u2 (u2 fa 12 39 n5) 12 40 n6) 12 49 n2802) la) H := hP
                      have hD : va_D A (WM h g ca (u2 (u2 (u2 (u2 (u2 (u2 iv 12 41 n7) 12 19 n2803) 12 48 n2807) 12 20 n2804) 12 21 n2805) 12 22 n2806) (u2 (u2 lv 12 17 n2808) 12 18 n2809) (u2 (u2 (u2 fa 12 39 n5) 12 40 n6) 12 49 n2802) la) := (show va_D _ (WM h g ca (u2 (u2 (u2 (u2 (u2 (u2 iv 12 41 n7) 12 19 n2803) 12 48 n2807) 12 20 n2804) 12 21 n2805) 12 22 n2806) (u2 (u2 lv 12 17 n2808) 12 18 n2809) (u2 (u2 (u2 fa 12 39 n5) 12 40 n6) 12 49 n2802) la) from hD).weaken (fun _ _ _ h => hFc _ h)
                      have xr2801_0 : (n2804 : Int32).toInt = -1 := xr2801_0
                      have xr2801_1 : (n2805 : Int32).toInt = -1 := xr2801_1
                      have xr2801_2 : (n2806 : Int32).toInt = -1 := xr2801_2
                      have xr2801_3 : (n2807 : Int32).toInt ≤ (w2176_i_12_48 : Int32).toInt + 1 := xr2801_3
                      have xr2801_4 : (((n2807 : Int32).toInt = (w2176_i_12_48 : Int32).toInt + 1 ∧ AgR (cyP (fa 12 4) (fa 12 5) (fa 12 11) (fa 12 12) (a : Int32).toInt ((iv 12 0) : Int32).toInt 0) (cyP (fa 12 4) (fa 12 5) (fa 12 11) (fa 12 12) (a : Int32).toInt ((iv 12 0) : Int32).toInt 1) (owY (fa 12 9) (fa 12 10) (-1) (x2176_4 : Int32).toInt (-1)) (fa 12 7) (fa 12 8) (((iv 12 3) : Int32).toInt).toNat 2 (r4 : Int32) ∧ (n2802 ((w2176_i_12_48 : Int32).toInt).toNat).toInt = 10 + (x2176_4 : Int32).toInt ∧ ∀ j : Nat, j ≠ ((w2176_i_12_48 : Int32).toInt).toNat → n2802 j = w2176_a_12_49 j) ∨ ((n2807 : Int32).toInt = (w2176_i_12_48 : Int32).toInt ∧ ¬ AgR (cyP (fa 12 4) (fa 12 5) (fa 12 11) (fa 12 12) (a : Int32).toInt ((iv 12 0) : Int32).toInt 0) (cyP (fa 12 4) (fa 12 5) (fa 12 11) (fa 12 12) (a : Int32).toInt ((iv 12 0) : Int32).toInt 1) (owY (fa 12 9) (fa 12 10) (-1) (x2176_4 : Int32).toInt (-1)) (fa 12 7) (fa 12 8) (((iv 12 3) : Int32).toInt).toNat 2 (r4 : Int32) ∧ ∀ j : Nat, n2802 j = w2176_a_12_49 j)) := xr2801_4
                      obtain ⟨v2810, ev2810⟩ : ∃ y : Int32, y = x2176_4 + 1 := ⟨_, rfl⟩
                      have tv2810 := z_add ev2810 rfl (by decide : (1 : Int32).toInt = 1) (by omega) (by omega)
                      refine lv_iinc (v := v2810) (lv' := [(4, .int v2810), (3, .int r4), (0, .ref h), (1, .int a), (2, .int b)]) hx hb dX12_cause_91 hl (k := 0) rfl (by rw [ev2810]; rfl) (by decide) rfl (fun ls hl => ?_)
                      refine lv_goto (tgt := 74) hx hb dX12_cause_94 (by decide) ?_
                      exact ih2177 v2810 n2803 n2807 n2804 n2805 n2806 n2808 n2809 n2802 ⟨by omega, by omega⟩ ⟨by omega, by omega⟩ hn2802 (show LsA (fun c : Nat => CaY (fa 12 4) (fa 12 5) (fa 12 11) (fa 12 12) (fa 12 7) (fa 12 8) (fa 12 9) (fa 12 10) (a).toInt (iv 12 0).toInt ((iv 12 3).toInt).toNat (r4 : Int32) (c : Int)) (10 + ((v2810 : Int32).toInt).toNat) (n2807 : Int32).toInt n2802 from (by
                            have hq9 := hq2177_0
                            have hs9 : 10 + ((v2810 : Int32).toInt).toNat = 10 + ((x2176_4 : Int32).toInt).toNat + 1 := by omega
                            have hc9 : ((10 + ((x2176_4 : Int32).toInt).toNat : Nat) : Int) = 10 + (x2176_4 : Int32).toInt := by omega
                            have he9 : ((10 + ((x2176_4 : Int32).toInt).toNat : Nat) : Int) - 10 = (x2176_4 : Int32).toInt := by omega
                            have hm8 := xr2801_4
                            rw [← he9] at hm8
                            rcases hm8 with ⟨z1, z2, z3, z4⟩ | ⟨z1, z2, z3⟩
                            · have hn9 : (fun c : Nat => CaY (fa 12 4) (fa 12 5) (fa 12 11) (fa 12 12) (fa 12 7) (fa 12 8) (fa 12 9) (fa 12 10) a.toInt (iv 12 0).toInt ((iv 12 3).toInt).toNat (r4 : Int32) (c : Int)) (10 + ((x2176_4 : Int32).toInt).toNat) := Or.inr (Or.inl ⟨⟨by omega, by omega⟩, z2⟩)
                              exact LsA_y hs9 hq9 hn9 z1 (by omega) z4
                            · have hn9 : ¬ (fun c : Nat => CaY (fa 12 4) (fa 12 5) (fa 12 11) (fa 12 12) (fa 12 7) (fa 12 8) (fa 12 9) (fa 12 10) a.toInt (iv 12 0).toInt ((iv 12 3).toInt).toNat (r4 : Int32) (c : Int)) (10 + ((x2176_4 : Int32).toInt).toNat) := fun z => by
                                rcases z with ⟨z1, -⟩ | ⟨-, z1⟩ | ⟨z1, -⟩
                                · omega
                                · exact z2 z1
                                · omega
                              exact LsA_n hs9 hq9 hn9 z1 z3)) (show (n2807 : Int32).toInt ≤ 4 + (v2810 : Int32).toInt from by omega) (show (v2810 : Int32).toInt ≤ 8 from by omega) (show (n2804 : Int32).toInt = -1 from by omega) (show (n2805 : Int32).toInt = -1 from by omega) (show (n2806 : Int32).toInt = -1 from by omega) (by omega) _ _ ls hP hD hS (lv_sub hl [0, 1, 2, 3, 4] rfl)
                have : (0 : Int32).toInt = 0 := (by decide)
                exact lp2177 9 0 w1443_i_12_19 w1443_i_12_48 w1443_i_12_20 w1443_i_12_21 w1443_i_12_22 w1443_l_12_17 w1443_l_12_18 w1443_a_12_49 ⟨by decide, by decide⟩ ⟨by omega, by omega⟩ hw1443_a_12_49 (show LsA (fun c : Nat => CaY (fa 12 4) (fa 12 5) (fa 12 11) (fa 12 12) (fa 12 7) (fa 12 8) (fa 12 9) (fa 12 10) (a).toInt (iv 12 0).toInt ((iv 12 3).toInt).toNat (r4 : Int32) (c : Int)) (10 + ((0 : Int32).toInt).toNat) (w1443_i_12_48 : Int32).toInt w1443_a_12_49 from (by
                      have hz : ((0 : Int32).toInt).toNat = 0 := (by decide)
                      rw [hz]
                      have hq9 := hq1444_0
                      rw [show 0 + ((x1443_4 : Int32).toInt).toNat = 4 from by omega] at hq9
                      exact LsA_cut hq9 (by omega) (fun j h1 h2 z => by
                        rcases z with ⟨z1, -⟩ | ⟨z1, -⟩ | ⟨z1, -⟩
                        · omega
                        · omega
                        · omega))) (show (w1443_i_12_48 : Int32).toInt ≤ 4 + (0 : Int32).toInt from by omega) (show (0 : Int32).toInt ≤ 8 from by omega) (show (w1443_i_12_20 : Int32).toInt = -1 from by omega) (show (w1443_i_12_21 : Int32).toInt = -1 from by omega) (show (w1443_i_12_22 : Int32).toInt = -1 from by omega) (by first | decide | omega) _ _ ls hP hD hS (lv_sub hl [0, 1, 2, 3, 4] rfl)
              · have fc1445 := z_nle (by decide : (4 : Int32).toInt = 4) (rfl : (x1443_4).toInt = _) c1445
                refine lv_aload_n hx hb dX12_cause_55 rfl (lv_at hl 2 rfl) ?_
                refine lv_iload_n hx hb dX12_cause_56 rfl (lv_at hl 3 rfl) ?_
                refine lv_iload_n hx hb dX12_cause_57 rfl (lv_at hl 1 rfl) ?_
                refine lv_iload hx hb dX12_cause_58 (lv_at hl 0 rfl) ?_
                refine lv_iconst (v := (-1)) hx hb dX12_cause_60 (by decide) ?_
                refine lv_iconst (v := (-1)) hx hb dX12_cause_61 (by decide) ?_
                have : 0 ≤ (w1443_i_12_48 : Int32).toInt ∧ (w1443_i_12_48 : Int32).toInt ≤ 71 := ⟨by omega, by omega⟩
                have hFc := free_all hD hS hA
                refine va_callv (va_runV (As := [.int a, .int r4, .int x1443_4, .int (-1), .int (-1)]) (rest := []) ⟨hx, hb, hml, hown, ht⟩ (c_X12_tryCause_o l dC dI H.size h g ca (u2 (u2 (u2 (u2 (u2 (u2 iv 12 41 n7) 12 19 w1443_i_12_19) 12 48 w1443_i_12_48) 12 20 w1443_i_12_20) 12 21 w1443_i_12_21) 12 22 w1443_i_12_22) (u2 (u2 lv 12 17 w1443_l_12_17) 12 18 w1443_l_12_18) (u2 (u2 (u2 fa 12 39 n5) 12 40 n6) 12 49 w1443_a_12_49) la (IX_a (c := 12) (k := 49) (IX_a (c := 12) (k := 40) (IX_a (c := 12) (k := 39) (IX_i (c := 12) (k := 22) (IX_i (c := 12) (k := 21) (IX_i (c := 12) (k := 20) (IX_i (c := 12) (k := 48) (IX_i (c := 12) (k := 19) (IX_i (c := 12) (k := 41) hI (show inb (0, 8) n7 from ⟨by omega, by omega⟩)) (full_i _)) (show inb (0, 72) w1443_i_12_48 from ⟨by omega, by omega⟩)) (full_i _)) (full_i _)) (full_i _)) hn5) hn6) hw1443_a_12_49) a r4 x1443_4 (show 0 ≤ (w1443_i_12_48 : Int32).toInt ∧ (w1443_i_12_48 : Int32).toInt ≤ 71 from ⟨by omega, by omega⟩) ⟨by omega, by omega⟩ (show (w1443_i_12_20 : Int32).toInt = -1 from by omega) (show (w1443_i_12_21 : Int32).toInt = -1 from by omega) (show (w1443_i_12_22 : Int32).toInt = -1 from by omega) hJR) (kV 5 ht m_1586 m_1588 m_66 m_89 m_1589 rfl rfl hd_X12_tryCause_v ⟨Nat.le_of_ble_eq_true rfl, Nat.le_of_ble_eq_true rfl⟩) (vW hP hK hD (rM_12 hK hP)) rfl rfl hl.1 rfl (lv_room (Nat.le_of_ble_eq_true rfl)) dX12_cause_62 ⟨Nat.le_of_ble_eq_true rfl, Nat.le_of_ble_eq_true rfl⟩) hS (fun q _ h => hFc q h) hFc (fun u t H1 locs ht9 hvm hr2811 hB hz1 hk1 hS => ?_)
                obtain ⟨n2812, n2813, n2814, n2815, n2816, n2817, n2818, n2819, hn2817, xr2811_0, xr2811_1, xr2811_2, xr2811_3, xr2811_4, rfl⟩ := hr2811
                have hn2812 : ∀ j, inb (bA 12 49 j) (n2812 j) := fun j => full_i _
                have hn2817 : 0 ≤ n2817.toInt ∧ n2817.toInt ≤ 72 := hn2817
                obtain ⟨hP, hD⟩ := hB
                rw [ht9] at hP
                generalize H1 = H at hP hS ⊢
                have hP : va_P (dC, dI) classes (WM h g ca (u2 (u2 (u2 (u2 (u2 (u2 iv 12 41 n7) 12 19 n2813) 12 48 n2817) 12 20 n2814) 12 21 n2815) 12 22 n2816) (u2 (u2 lv 12 17 n2818) 12 18 n2819) (u2 (u2 (u2 fa 12 39 n5) 12 40 n6) 12 49 n2812) la) H := hP
                have hD : va_D A (WM h g ca (u2 (u2 (u2 (u2 (u2 (u2 iv 12 41 n7) 12 19 n2813) 12 48 n2817) 12 20 n2814) 12 21 n2815) 12 22 n2816) (u2 (u2 lv 12 17 n2818) 12 18 n2819) (u2 (u2 (u2 fa 12 39 n5) 12 40 n6) 12 49 n2812) la) := (show va_D _ (WM h g ca (u2 (u2 (u2 (u2 (u2 (u2 iv 12 41 n7) 12 19 n2813) 12 48 n2817) 12 20 n2814) 12 21 n2815) 12 22 n2816) (u2 (u2 lv 12 17 n2818) 12 18 n2819) (u2 (u2 (u2 fa 12 39 n5) 12 40 n6) 12 49 n2812) la) from hD).weaken (fun _ _ _ h => hFc _ h)
                have xr2811_0 : (n2814 : Int32).toInt = -1 := xr2811_0
                have xr2811_1 : (n2815 : Int32).toInt = -1 := xr2811_1
                have xr2811_2 : (n2816 : Int32).toInt = -1 := xr2811_2
                have xr2811_3 : (n2817 : Int32).toInt ≤ (w1443_i_12_48 : Int32).toInt + 1 := xr2811_3
                have xr2811_4 : (((n2817 : Int32).toInt = (w1443_i_12_48 : Int32).toInt + 1 ∧ AgR (cyP (fa 12 4) (fa 12 5) (fa 12 11) (fa 12 12) (a : Int32).toInt ((iv 12 0) : Int32).toInt 0) (cyP (fa 12 4) (fa 12 5) (fa 12 11) (fa 12 12) (a : Int32).toInt ((iv 12 0) : Int32).toInt 1) (owY (fa 12 9) (fa 12 10) (x1443_4 : Int32).toInt (-1) (-1)) (fa 12 7) (fa 12 8) (((iv 12 3) : Int32).toInt).toNat 2 (r4 : Int32) ∧ (n2812 ((w1443_i_12_48 : Int32).toInt).toNat).toInt = (x1443_4 : Int32).toInt ∧ ∀ j : Nat, j ≠ ((w1443_i_12_48 : Int32).toInt).toNat → n2812 j = w1443_a_12_49 j) ∨ ((n2817 : Int32).toInt = (w1443_i_12_48 : Int32).toInt ∧ ¬ AgR (cyP (fa 12 4) (fa 12 5) (fa 12 11) (fa 12 12) (a : Int32).toInt ((iv 12 0) : Int32).toInt 0) (cyP (fa 12 4) (fa 12 5) (fa 12 11) (fa 12 12) (a : Int32).toInt ((iv 12 0) : Int32).toInt 1) (owY (fa 12 9) (fa 12 10) (x1443_4 : Int32).toInt (-1) (-1)) (fa 12 7) (fa 12 8) (((iv 12 3) : Int32).toInt).toNat 2 (r4 : Int32) ∧ ∀ j : Nat, n2812 j = w1443_a_12_49 j)) := xr2811_4
                obtain ⟨v2820, ev2820⟩ : ∃ y : Int32, y = x1443_4 + 1 := ⟨_, rfl⟩
                have tv2820 := z_add ev2820 rfl (by decide : (1 : Int32).toInt = 1) (by omega) (by omega)
                refine lv_iinc (v := v2820) (lv' := [(4, .int v2820), (3, .int r4), (0, .ref h), (1, .int a), (2, .int b)]) hx hb dX12_cause_65 hl (k := 0) rfl (by rw [ev2820]; rfl) (by decide) rfl (fun ls hl => ?_)
                refine lv_goto (tgt := 49) hx hb dX12_cause_68 (by decide) ?_
                exact ih1444 v2820 n2813 n2817 n2814 n2815 n2816 n2818 n2819 n2812 ⟨by omega, by omega⟩ ⟨by omega, by omega⟩ hn2812 (show LsA (fun c : Nat => CaY (fa 12 4) (fa 12 5) (fa 12 11) (fa 12 12) (fa 12 7) (fa 12 8) (fa 12 9) (fa 12 10) (a).toInt (iv 12 0).toInt ((iv 12 3).toInt).toNat (r4 : Int32) (c : Int)) (0 + ((v2820 : Int32).toInt).toNat) (n2817 : Int32).toInt n2812 from (by
                      have hq9 := hq1444_0
                      have hs9 : 0 + ((v2820 : Int32).toInt).toNat = 0 + ((x1443_4 : Int32).toInt).toNat + 1 := by omega
                      have hc9 : ((0 + ((x1443_4 : Int32).toInt).toNat : Nat) : Int) = 0 + (x1443_4 : Int32).toInt := by omega
                      have he9 : ((0 + ((x1443_4 : Int32).toInt).toNat : Nat) : Int) = (x1443_4 : Int32).toInt := by omega
                      have hm8 := xr2811_4
                      rw [← he9] at hm8
                      rcases hm8 with ⟨z1, z2, z3, z4⟩ | ⟨z1, z2, z3⟩
                      · have hn9 : (fun c : Nat => CaY (fa 12 4) (fa 12 5) (fa 12 11) (fa 12 12) (fa 12 7) (fa 12 8) (fa 12 9) (fa 12 10) a.toInt (iv 12 0).toInt ((iv 12 3).toInt).toNat (r4 : Int32) (c : Int)) (0 + ((x1443_4 : Int32).toInt).toNat) := Or.inl ⟨by omega, z2⟩
                        exact LsA_y hs9 hq9 hn9 z1 (by omega) z4
                      · have hn9 : ¬ (fun c : Nat => CaY (fa 12 4) (fa 12 5) (fa 12 11) (fa 12 12) (fa 12 7) (fa 12 8) (fa 12 9) (fa 12 10) a.toInt (iv 12 0).toInt ((iv 12 3).toInt).toNat (r4 : Int32) (c : Int)) (0 + ((x1443_4 : Int32).toInt).toNat) := fun z => by
                          rcases z with ⟨-, z1⟩ | ⟨z1, -⟩ | ⟨z1, -⟩
                          · exact z2 z1
                          · omega
                          · omega
                        exact LsA_n hs9 hq9 hn9 z1 z3)) (show (n2817 : Int32).toInt ≤ (v2820 : Int32).toInt from by omega) (show (v2820 : Int32).toInt ≤ 4 from by omega) (show (n2814 : Int32).toInt = -1 from by omega) (show (n2815 : Int32).toInt = -1 from by omega) (show (n2816 : Int32).toInt = -1 from by omega) (by omega) _ _ ls hP hD hS (lv_sub hl [0, 1, 2, 3, 4] rfl)
          have : (0 : Int32).toInt = 0 := (by decide)
          exact lp1444 5 0 n14 0 (iv 12 20) (iv 12 21) (iv 12 22) n15 n16 (fa 12 49) ⟨by decide, by decide⟩ ⟨by decide, by decide⟩ (hI.2 12 49) (show LsA (fun c : Nat => CaY (fa 12 4) (fa 12 5) (fa 12 11) (fa 12 12) (fa 12 7) (fa 12 8) (fa 12 9) (fa 12 10) (a).toInt (iv 12 0).toInt ((iv 12 3).toInt).toNat (r4 : Int32) (c : Int)) (0 + ((0 : Int32).toInt).toNat) (0 : Int32).toInt (fa 12 49) from (by
                have hz : ((0 : Int32).toInt).toNat = 0 := (by decide)
                rw [hz]
                exact LsA_0 (by omega))) (show (0 : Int32).toInt ≤ (0 : Int32).toInt from by omega) (show (0 : Int32).toInt ≤ 4 from by omega) (show ((iv 12 20) : Int32).toInt = -1 from by omega) (show ((iv 12 21) : Int32).toInt = -1 from by omega) (show ((iv 12 22) : Int32).toInt = -1 from by omega) (by first | decide | omega) _ _ ls hP hD hS (lv_sub hl [0, 1, 2, 3, 4] rfl)
        · have fc17 := z_eq (rfl : (r13).toInt = _) (by decide : (0 : Int32).toInt = 0) c17
          refine lv_ldc hx hb hown (ht _ m_1374) dX12_cause_38 ?_
          have : ((-100003) : Int32).toInt = (-100003) := (by decide)
          have hP9 : va_P (dC, dI) classes (WM h g ca (u2 (u2 (u2 (u2 (u2 (u2 iv 12 19 n14) 12 20 (iv 12 20)) 12 21 (iv 12 21)) 12 22 (iv 12 22)) 12 41 n7) 12 48 (iv 12 48)) (u2 (u2 lv 12 17 n15) 12 18 n16) (u2 (u2 (u2 fa 12 39 n5) 12 40 n6) 12 49 (fa 12 49)) la) H := hP
          have hD9 : va_D A (WM h g ca (u2 (u2 (u2 (u2 (u2 (u2 iv 12 19 n14) 12 20 (iv 12 20)) 12 21 (iv 12 21)) 12 22 (iv 12 22)) 12 41 n7) 12 48 (iv 12 48)) (u2 (u2 lv 12 17 n15) 12 18 n16) (u2 (u2 (u2 fa 12 39 n5) 12 40 n6) 12 49 (fa 12 49)) la) := hD
          exact W.iret (v := (-100003)) hx hb hr (fun t ht9 hW => ⟨⟨(-100003), ((u2 (u2 (u2 (u2 (u2 (u2 iv 12 19 n14) 12 20 (iv 12 20)) 12 21 (iv 12 21)) 12 22 (iv 12 22)) 12 41 n7) 12 48 (iv 12 48)), (u2 (u2 lv 12 17 n15) 12 18 n16), (u2 (u2 (u2 fa 12 39 n5) 12 40 n6) 12 49 (fa 12 49)), la), rfl, ⟨n5, n6, (fa 12 49), n14, (iv 12 20), (iv 12 21), (iv 12 22), n7, (iv 12 48), n15, n16, hn5, hn6, (show inb (0, 8) n7 from ⟨by omega, by omega⟩), (hI.1 12 48), (show ((iv 12 20) : Int32).toInt = -1 from by omega), (show ((iv 12 21) : Int32).toInt = -1 from by omega), (show ((iv 12 22) : Int32).toInt = -1 from by omega), (show ((((-100003) : Int32).toInt = -100001 ∧ ¬ (0 ≤ (a).toInt ∧ (a).toInt < (iv 12 1).toInt)) ∨ ((0 ≤ (a).toInt ∧ (a).toInt < (iv 12 1).toInt) ∧ ∃ pt : Int32, FoY (iv 12 23).toInt (fa 12 24) (fa 12 25) (fa 12 26) (fa 12 27) (fa 12 28) 2 (iv 12 0).toInt pt.toInt ∧ ((¬ PaR (cyP (fa 12 4) (fa 12 5) (fa 12 11) (fa 12 12) (a).toInt (iv 12 0).toInt 0) (cyP (fa 12 4) (fa 12 5) (fa 12 11) (fa 12 12) (a).toInt (iv 12 0).toInt 1) (fa 12 7) (fa 12 8) ((iv 12 3).toInt).toNat pt ∧ ((-100003) : Int32).toInt = -100003) ∨ (PaR (cyP (fa 12 4) (fa 12 5) (fa 12 11) (fa 12 12) (a).toInt (iv 12 0).toInt 0) (cyP (fa 12 4) (fa 12 5) (fa 12 11) (fa 12 12) (a).toInt (iv 12 0).toInt 1) (fa 12 7) (fa 12 8) ((iv 12 3).toInt).toNat pt ∧ CuR (fun c : Nat => CaY (fa 12 4) (fa 12 5) (fa 12 11) (fa 12 12) (fa 12 7) (fa 12 8) (fa 12 9) (fa 12 10) (a).toInt (iv 12 0).toInt ((iv 12 3).toInt).toNat pt (c : Int)) (100 + ((iv 12 3).toInt).toNat) (b).toInt ((-100003) : Int32).toInt)))) from (by
                have hw9 : ∀ s : Nat, s < ((iv 12 3).toInt).toNat → ¬ owY (fa 12 9) (fa 12 10) (iv 12 20).toInt (iv 12 21).toInt (iv 12 22).toInt s := fun s _ z => by
                  have z1 : 0 ≤ (fa 12 9 s).toInt ∧ (fa 12 9 s).toInt ≤ 3 := hI.2 12 9 s
                  have z2 : 0 ≤ (fa 12 10 s).toInt ∧ (fa 12 10 s).toInt ≤ 7 := hI.2 12 10 s
                  unfold owY at z
                  omega
                have hv9 := xr8_0
                rw [caC_0 hw9, caC_0 hw9] at hv9
                have hd9 := xr13_0
                have hD9 := DpR_0 (P0 := (cyP (fa 12 4) (fa 12 5) (fa 12 11) (fa 12 12) a.toInt (iv 12 0).toInt 0)) (P1 := (cyP (fa 12 4) (fa 12 5) (fa 12 11) (fa 12 12) a.toInt (iv 12 0).toInt 1)) (ra := fa 12 7) (dr := fa 12 8) (p := r4) hw9
                exact Or.inr ⟨⟨by omega, by omega⟩, r4, xr4_0, Or.inl ⟨fun z => (hd9.resolve_left (fun q => by omega)).2 (hD9.mpr z), by omega⟩⟩)), trivial, rfl⟩, by rw [ht9]; exact hP9, hD9⟩, hS.F ht9⟩) hS.2.2 dX12_cause_40
    · exact absurd rfl c3
