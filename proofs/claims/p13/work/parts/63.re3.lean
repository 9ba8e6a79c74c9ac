/-! ===== re3 ===== -/
set_option maxHeartbeats 4000000 in
set_option maxRecDepth 100000 in
/-- X12_readName -/
theorem c_X12_readName_r (l : Launch) (dC : Nat → ClassId) (dI : Nat → Nat → Nat) (sz : Nat) (h : Nat) (g : Nat → Nat → Nat) (ca : Nat → Nat → ClassId) (iv : Nat → Nat → Int32) (lv : Nat → Nat → Int64) (fa : Nat → Nat → Nat → Int32) (la : Nat → Nat → Nat → Int64) (hI : IX iv fa) (k : Int32) (q_12_35 : 0 ≤ (iv 12 35).toInt ∧ (iv 12 35).toInt ≤ 0) (h_k : 0 ≤ k.toInt ∧ k.toInt ≤ 95) (hJT : ∀ j : Nat, 0 ≤ (fa 12 32 j).toInt) : Met l yX12_readName (wc yX12_readName cX12_readName 3 none) ({ frames := 2, cells := 0, slots := 0, locals := 50 } : Room) (pW (dC, dI) classes (WM h g ca iv lv fa la) (TM ca) sz [.ref h, .int k]) (va_Qv (fun (u : SS) => ∃ (na_12_28 : Nat → Int32) (na_12_29 : Nat → Int32) (na_12_30 : Nat → Int32) (na_12_31 : Nat → Int32) (ni_12_34 : Int32) (ni_12_35 : Int32) (ni_12_36 : Int32) (ni_12_37 : Int32) (ni_12_38 : Int32), (∀ j, inb (bA 12 30 j) (na_12_30 j)) ∧ inb (bI 12 34) ni_12_34 ∧ inb (bI 12 35) ni_12_35 ∧ inb (bI 12 37) ni_12_37 ∧ inb (bI 12 38) ni_12_38 ∧ ((iv 12 34).toInt ≤ (ni_12_34).toInt) ∧ (∀ j : Nat, j ≠ k.toNatClampNeg → na_12_28 j = (fa 12 28) j) ∧ (∀ j : Nat, j ≠ k.toNatClampNeg → na_12_29 j = (fa 12 29) j) ∧ (∀ j : Nat, j ≠ k.toNatClampNeg → na_12_30 j = (fa 12 30) j) ∧ (∀ j : Nat, (j : Int) < 8 * k.toInt → na_12_31 j = (fa 12 31) j) ∧ ((((ni_12_35).toInt ≠ 0 ∧ ∃ (b v1 v2 : Int) (wd : Nat → Int), NmP (fun j => sg ((fa 12 32) j).toInt) (iv 12 33).toInt (iv 12 34).toInt (ni_12_35).toInt (ni_12_36).toInt b v1 v2 wd) ∨ ((ni_12_35).toInt = 0 ∧ (ni_12_36).toInt = (iv 12 36).toInt ∧ NmP (fun j => sg ((fa 12 32) j).toInt) (iv 12 33).toInt (iv 12 34).toInt 0 0 (ni_12_34).toInt (na_12_28 (k.toInt).toNat).toInt (na_12_29 (k.toInt).toNat).toInt (fun j => if (j : Int) < (na_12_30 (k.toInt).toNat).toInt then (na_12_31 (8 * (k.toInt).toNat + j)).toInt else 0)))) ∧ u = ((u2 (u2 (u2 (u2 (u2 iv 12 34 ni_12_34) 12 35 ni_12_35) 12 36 ni_12_36) 12 37 ni_12_37) 12 38 ni_12_38), lv, (u2 (u2 (u2 (u2 fa 12 28 na_12_28) 12 29 na_12_29) 12 30 na_12_30) 12 31 na_12_31), la)) (bM (dC, dI) h g ca (va_A (WM h g ca iv lv fa la) sz)) (va_A (WM h g ca iv lv fa la) sz)) 0 0 (va_A (WM h g ca iv lv fa la) sz) := by
  refine Met.ofW (cc := cX12_readName) (maxL := 3) (ret := none) (by decide) rfl ?_
  intro p e s m args below meth c s₁ B hml hv
  obtain ⟨rfl, hsz, hP, hK, hD0⟩ := hv
  have hx := B.exec
  have hb := B.bytes
  have hr := B.returns
  have ht := tb_tl (atoms_spec (ws := wc yX12_readName cX12_readName 3 none) B.pre)
  have hown : s.vm.findClass RX12 = some m.cls := findClass_of_methodNamed B.named
  have hlocks := B.notSynchronized
  subst hsz
  have hD := hD0.self (sz := s.heap.size)
  generalize hAe : va_A (WM h g ca iv lv fa la) s.heap.size = A at hD ⊢
  have hA : ∀ q : Nat, s.heap.size ≤ q → A q := fun q h => by rw [← hAe]; exact Or.inr h
  have hS : va_S A s.heap s.heap [] := va_S.rf
  have hl := lv_entry [.ref h, .int k] (n := 3) (Nat.le_of_ble_eq_true rfl)
  rw [lg_entry_eq]
  generalize (lg_sl [.ref h, .int k] ++ List.replicate (3 - (lg_sl [.ref h, .int k]).length) Slot.unset).toArray = ls at hl ⊢
  have hl : lv_has ls 3 [(0, .ref h), (1, .int k)] := hl
  refine lv_aload_n hx hb dX12_readName_0 rfl (lv_at hl 0 rfl) ?_
  have i_12_34 : 0 ≤ (iv 12 34).toInt ∧ (iv 12 34).toInt ≤ 200 := hI.1 12 34
  have hFc := free_all hD hS hA
  refine va_callv (va_runV (As := []) (rest := []) ⟨hx, hb, hml, hown, ht⟩ (c_X12_takeWord_r l dC dI s.heap.size h g ca iv lv fa la hI) (kV 0 ht m_1462 m_1464 m_48 m_89 m_1465 rfl rfl hd_X12_takeWord_v ⟨Nat.le_of_ble_eq_true rfl, Nat.le_of_ble_eq_true rfl⟩) (vW hP hK hD (rM_12 hK hP)) rfl rfl hl.1 rfl (lv_room (Nat.le_of_ble_eq_true rfl)) dX12_readName_1 ⟨Nat.le_of_ble_eq_true rfl, Nat.le_of_ble_eq_true rfl⟩) hS (fun q _ h => hFc q h) hFc (fun u t H1 locs ht9 hvm hr1 hB hz1 hk1 hS => ?_)
  obtain ⟨n2, n3, n4, hn2, hn3, hn4, xr1_0, xr1_1, xr1_2, xr1_3, rfl⟩ := hr1
  have hn2 : 0 ≤ n2.toInt ∧ n2.toInt ≤ 200 := hn2
  have hn3 : 0 ≤ n3.toInt ∧ n3.toInt ≤ 200 := hn3
  have hn4 : 0 ≤ n4.toInt ∧ n4.toInt ≤ 200 := hn4
  obtain ⟨hP, hD⟩ := hB
  rw [ht9] at hP
  generalize H1 = H at hP hS ⊢
  have hP : va_P (dC, dI) classes (WM h g ca (u2 (u2 (u2 iv 12 34 n2) 12 37 n3) 12 38 n4) lv fa la) H := hP
  have hD : va_D A (WM h g ca (u2 (u2 (u2 iv 12 34 n2) 12 37 n3) 12 38 n4) lv fa la) := (show va_D _ (WM h g ca (u2 (u2 (u2 iv 12 34 n2) 12 37 n3) 12 38 n4) lv fa la) from hD).weaken (fun _ _ _ h => hFc _ h)
  have xr1_0 : ((iv 12 34) : Int32).toInt ≤ (n3 : Int32).toInt := xr1_0
  have xr1_1 : (n3 : Int32).toInt + (n4 : Int32).toInt = (n2 : Int32).toInt := xr1_1
  have i_12_33 : 0 ≤ (iv 12 33).toInt ∧ (iv 12 33).toInt ≤ 200 := hI.1 12 33
  have xr1_2 : Sk (fun j => sg ((fa 12 32) j).toInt) ((iv 12 33) : Int32).toInt ((iv 12 34) : Int32).toInt (n3 : Int32).toInt := xr1_2
  have xr1_3 : Rn (fun j => sg ((fa 12 32) j).toInt) ((iv 12 33) : Int32).toInt 97 122 (n3 : Int32).toInt (n2 : Int32).toInt := xr1_3
  refine lv_aload_n hx hb dX12_readName_4 rfl (lv_at hl 0 rfl) ?_
  refine lv_aload_n hx hb dX12_readName_5 rfl (lv_at hl 0 rfl) ?_
  refine gM_12_38 hx hb ht hown hK hP m_1177 (v := n4) rfl dX12_readName_6 ?_
  refine lv_if_le (tgt := 16) hx hb dX12_readName_9 (by decide) (fun c5 => ?_) (fun c5 => ?_)
  · have fc5 := z_le (rfl : (n4).toInt = _) (by decide : (0 : Int32).toInt = 0) c5
    refine lv_iconst (v := 0) hx hb dX12_readName_16 (by decide) ?_
    refine lv_iconst (v := 1) hx hb dX12_readName_17 (by decide) ?_
    refine lv_aload_n hx hb dX12_readName_18 rfl (lv_at hl 0 rfl) ?_
    refine gM_12_37 hx hb ht hown hK hP m_1176 (v := n3) rfl dX12_readName_19 ?_
    have i_12_35 : 0 ≤ (iv 12 35).toInt ∧ (iv 12 35).toInt ≤ 5 := hI.1 12 35
    have hFc := free_all hD hS hA
    refine va_calli (va_runV (As := [.int 0, .int 1, .int n3]) (rest := []) ⟨hx, hb, hml, hown, ht⟩ (c_X12_want_r0 l dC dI H.size h g ca (u2 (u2 (u2 iv 12 34 n2) 12 37 n3) 12 38 n4) lv fa la (IX_i (c := 12) (k := 38) (IX_i (c := 12) (k := 37) (IX_i (c := 12) (k := 34) hI (show inb (0, 200) n2 from ⟨by omega, by omega⟩)) (show inb (0, 200) n3 from ⟨by omega, by omega⟩)) (show inb (0, 200) n4 from ⟨by omega, by omega⟩)) 1 n3 ⟨by decide, by decide⟩) (kV 3 ht m_1472 m_1474 m_50 m_89 m_1475 rfl rfl hd_X12_want_v ⟨Nat.le_of_ble_eq_true rfl, Nat.le_of_ble_eq_true rfl⟩) (vW hP hK hD (rM_12 hK hP)) rfl rfl hl.1 rfl (lv_room (Nat.le_of_ble_eq_true rfl)) dX12_readName_22 ⟨Nat.le_of_ble_eq_true rfl, Nat.le_of_ble_eq_true rfl⟩) hS (fun q _ h => hFc q h) hFc (fun r6 u t H1 locs ht9 hvm hr6 hB hz1 hk1 hS => ?_)
    obtain ⟨n7, n8, hn7, xr6_0, xr6_1, hr6, rfl⟩ := hr6
    have hn7 : 0 ≤ n7.toInt ∧ n7.toInt ≤ 5 := hn7
    obtain ⟨hP, hD⟩ := hB
    rw [ht9] at hP
    generalize H1 = H at hP hS ⊢
    have hP : va_P (dC, dI) classes (WM h g ca (u2 (u2 (u2 (u2 (u2 iv 12 34 n2) 12 37 n3) 12 38 n4) 12 35 n7) 12 36 n8) lv fa la) H := hP
    have hD : va_D A (WM h g ca (u2 (u2 (u2 (u2 (u2 iv 12 34 n2) 12 37 n3) 12 38 n4) 12 35 n7) 12 36 n8) lv fa la) := (show va_D _ (WM h g ca (u2 (u2 (u2 (u2 (u2 iv 12 34 n2) 12 37 n3) 12 38 n4) 12 35 n7) 12 36 n8) lv fa la) from hD).weaken (fun _ _ _ h => hFc _ h)
    have xr6_0 : 1 ≤ (n7 : Int32).toInt := xr6_0
    have : (1 : Int32).toInt = 1 := (by decide)
    have xr6_1 : ((((iv 12 35) : Int32).toInt = 0 ∧ (n7 : Int32).toInt = (1 : Int32).toInt ∧ (n8 : Int32).toInt = (n3 : Int32).toInt) ∨ (((iv 12 35) : Int32).toInt ≠ 0 ∧ (n7 : Int32).toInt = ((iv 12 35) : Int32).toInt ∧ (n8 : Int32).toInt = ((iv 12 36) : Int32).toInt)) := xr6_1
    obtain rfl : 0 = r6 := hr6.symm
    refine lv_if_eq (tgt := 54) hx hb dX12_readName_25 (by decide) (fun c9 => ?_) (fun c9 => ?_)
    · skip
      have hP9 : va_P (dC, dI) classes (WM h g ca (u2 (u2 (u2 (u2 (u2 iv 12 34 n2) 12 35 n7) 12 36 n8) 12 37 n3) 12 38 n4) lv (u2 (u2 (u2 (u2 fa 12 28 (fa 12 28)) 12 29 (fa 12 29)) 12 30 (fa 12 30)) 12 31 (fa 12 31)) la) H := hP
      have hD9 : va_D A (WM h g ca (u2 (u2 (u2 (u2 (u2 iv 12 34 n2) 12 35 n7) 12 36 n8) 12 37 n3) 12 38 n4) lv (u2 (u2 (u2 (u2 fa 12 28 (fa 12 28)) 12 29 (fa 12 29)) 12 30 (fa 12 30)) 12 31 (fa 12 31)) la) := hD
      exact W.vret hx hb hr (fun t ht9 hW => ⟨⟨((u2 (u2 (u2 (u2 (u2 iv 12 34 n2) 12 35 n7) 12 36 n8) 12 37 n3) 12 38 n4), lv, (u2 (u2 (u2 (u2 fa 12 28 (fa 12 28)) 12 29 (fa 12 29)) 12 30 (fa 12 30)) 12 31 (fa 12 31)), la), rfl, ⟨(fa 12 28), (fa 12 29), (fa 12 30), (fa 12 31), n2, n7, n8, n3, n4, (hI.2 12 30), (show inb (0, 200) n2 from ⟨by omega, by omega⟩), (show inb (0, 5) n7 from ⟨by omega, by omega⟩), (show inb (0, 200) n3 from ⟨by omega, by omega⟩), (show inb (0, 200) n4 from ⟨by omega, by omega⟩), (show (iv 12 34).toInt ≤ (n2 : Int32).toInt from by omega), (show ∀ j : Nat, j ≠ k.toNatClampNeg → (fa 12 28) j = (fa 12 28) j from fun j hj => rfl), (show ∀ j : Nat, j ≠ k.toNatClampNeg → (fa 12 29) j = (fa 12 29) j from fun j hj => rfl), (show ∀ j : Nat, j ≠ k.toNatClampNeg → (fa 12 30) j = (fa 12 30) j from fun j hj => rfl), (show ∀ j : Nat, (j : Int) < 8 * (k).toInt → (fa 12 31) j = (fa 12 31) j from fun j hj => rfl), (show (((n7 : Int32).toInt ≠ 0 ∧ ∃ (b v1 v2 : Int) (wd : Nat → Int), NmP (fun j => sg ((fa 12 32) j).toInt) ((iv 12 33) : Int32).toInt (iv 12 34).toInt (n7 : Int32).toInt (n8 : Int32).toInt b v1 v2 wd) ∨ ((n7 : Int32).toInt = 0 ∧ (n8 : Int32).toInt = (iv 12 36).toInt ∧ NmP (fun j => sg ((fa 12 32) j).toInt) ((iv 12 33) : Int32).toInt (iv 12 34).toInt 0 0 (n2 : Int32).toInt ((fa 12 28) ((k).toInt).toNat).toInt ((fa 12 29) ((k).toInt).toNat).toInt (fun j => if (j : Int) < ((fa 12 30) ((k).toInt).toNat).toInt then ((fa 12 31) (8 * ((k).toInt).toNat + j)).toInt else 0))) from (by exact Or.inl ⟨by omega, 0, 0, 0, (fun _ => 0), _, _, xr1_2, xr1_3, Or.inl ⟨by omega, by omega, by omega⟩⟩)), rfl⟩, by rw [ht9]; exact hP9, hD9⟩, hS.F ht9⟩) hS.2.2 dX12_readName_54
    · exact absurd rfl c9
  · have fc5 := z_nle (rfl : (n4).toInt = _) (by decide : (0 : Int32).toInt = 0) c5
    refine lv_iconst (v := 1) hx hb dX12_readName_12 (by decide) ?_
    refine lv_goto (tgt := 17) hx hb dX12_readName_13 (by decide) ?_
    refine lv_iconst (v := 1) hx hb dX12_readName_17 (by decide) ?_
    refine lv_aload_n hx hb dX12_readName_18 rfl (lv_at hl 0 rfl) ?_
    refine gM_12_37 hx hb ht hown hK hP m_1176 (v := n3) rfl dX12_readName_19 ?_
    refine vp_callSi (W.runV (As := [.int 1, .int 1, .int n3]) (rest := []) ⟨hx, hb, hml, hown, ht⟩ (c_X12_want_1 l dC dI h g ca (u2 (u2 (u2 iv 12 34 n2) 12 37 n3) 12 38 n4) lv fa la (IX_i (c := 12) (k := 38) (IX_i (c := 12) (k := 37) (IX_i (c := 12) (k := 34) hI (show inb (0, 200) n2 from ⟨by omega, by omega⟩)) (show inb (0, 200) n3 from ⟨by omega, by omega⟩)) (show inb (0, 200) n4 from ⟨by omega, by omega⟩)) 1 n3) (kV 3 ht m_1472 m_1474 m_50 m_89 m_1475 rfl rfl hd_X12_want_v ⟨Nat.le_of_ble_eq_true rfl, Nat.le_of_ble_eq_true rfl⟩) (vR hP hK (rM_12 hK hP)) rfl rfl hl.1 rfl (lv_room (Nat.le_of_ble_eq_true rfl)) dX12_readName_22 ⟨Nat.le_of_ble_eq_true rfl, Nat.le_of_ble_eq_true rfl⟩) (fun r10 hr10 => ?_)
    rcases hr10 with ⟨rfl, fr10⟩ | ⟨rfl, fr10⟩
    have i_12_35 : 0 ≤ (iv 12 35).toInt ∧ (iv 12 35).toInt ≤ 5 := hI.1 12 35
    · skip
      have i_12_35 : 0 ≤ (iv 12 35).toInt ∧ (iv 12 35).toInt ≤ 5 := hI.1 12 35
      have fr10 : (((iv 12 35) : Int32).toInt = 0) := fr10
      refine lv_if_eq (tgt := 54) hx hb dX12_readName_25 (by decide) (fun c11 => ?_) (fun c11 => ?_)
      · exact absurd c11 (by decide)
      · skip
        refine lv_aload_n hx hb dX12_readName_28 rfl (lv_at hl 0 rfl) ?_
        refine lv_aload_n hx hb dX12_readName_29 rfl (lv_at hl 0 rfl) ?_
        refine gM_12_38 hx hb ht hown hK hP m_1177 (v := n4) rfl dX12_readName_30 ?_
        refine lv_bipush (v := 9) hx hb dX12_readName_33 (by decide) ?_
        refine lv_icmp_ge (tgt := 42) hx hb dX12_readName_35 (by decide) (fun c12 => ?_) (fun c12 => ?_)
        · have fc12 := z_le (by decide : (9 : Int32).toInt = 9) (rfl : (n4).toInt = _) c12
          refine lv_iconst (v := 0) hx hb dX12_readName_42 (by decide) ?_
          refine lv_iconst (v := 4) hx hb dX12_readName_43 (by decide) ?_
          refine lv_aload_n hx hb dX12_readName_44 rfl (lv_at hl 0 rfl) ?_
          refine gM_12_37 hx hb ht hown hK hP m_1176 (v := n3) rfl dX12_readName_45 ?_
          have hFc := free_all hD hS hA
          refine va_calli (va_runV (As := [.int 0, .int 4, .int n3]) (rest := []) ⟨hx, hb, hml, hown, ht⟩ (c_X12_want_r0 l dC dI H.size h g ca (u2 (u2 (u2 iv 12 34 n2) 12 37 n3) 12 38 n4) lv fa la (IX_i (c := 12) (k := 38) (IX_i (c := 12) (k := 37) (IX_i (c := 12) (k := 34) hI (show inb (0, 200) n2 from ⟨by omega, by omega⟩)) (show inb (0, 200) n3 from ⟨by omega, by omega⟩)) (show inb (0, 200) n4 from ⟨by omega, by omega⟩)) 4 n3 ⟨by decide, by decide⟩) (kV 3 ht m_1472 m_1474 m_50 m_89 m_1475 rfl rfl hd_X12_want_v ⟨Nat.le_of_ble_eq_true rfl, Nat.le_of_ble_eq_true rfl⟩) (vW hP hK hD (rM_12 hK hP)) rfl rfl hl.1 rfl (lv_room (Nat.le_of_ble_eq_true rfl)) dX12_readName_48 ⟨Nat.le_of_ble_eq_true rfl, Nat.le_of_ble_eq_true rfl⟩) hS (fun q _ h => hFc q h) hFc (fun r13 u t H1 locs ht9 hvm hr13 hB hz1 hk1 hS => ?_)
          obtain ⟨n14, n15, hn14, xr13_0, xr13_1, hr13, rfl⟩ := hr13
          have hn14 : 0 ≤ n14.toInt ∧ n14.toInt ≤ 5 := hn14
          obtain ⟨hP, hD⟩ := hB
          rw [ht9] at hP
          generalize H1 = H at hP hS ⊢
          have hP : va_P (dC, dI) classes (WM h g ca (u2 (u2 (u2 (u2 (u2 iv 12 34 n2) 12 37 n3) 12 38 n4) 12 35 n14) 12 36 n15) lv fa la) H := hP
          have hD : va_D A (WM h g ca (u2 (u2 (u2 (u2 (u2 iv 12 34 n2) 12 37 n3) 12 38 n4) 12 35 n14) 12 36 n15) lv fa la) := (show va_D _ (WM h g ca (u2 (u2 (u2 (u2 (u2 iv 12 34 n2) 12 37 n3) 12 38 n4) 12 35 n14) 12 36 n15) lv fa la) from hD).weaken (fun _ _ _ h => hFc _ h)
          have xr13_0 : 1 ≤ (n14 : Int32).toInt := xr13_0
          have : (4 : Int32).toInt = 4 := (by decide)
          have xr13_1 : ((((iv 12 35) : Int32).toInt = 0 ∧ (n14 : Int32).toInt = (4 : Int32).toInt ∧ (n15 : Int32).toInt = (n3 : Int32).toInt) ∨ (((iv 12 35) : Int32).toInt ≠ 0 ∧ (n14 : Int32).toInt = ((iv 12 35) : Int32).toInt ∧ (n15 : Int32).toInt = ((iv 12 36) : Int32).toInt)) := xr13_1
          obtain rfl : 0 = r13 := hr13.symm
          refine lv_if_ne (tgt := 55) hx hb dX12_readName_51 (by decide) (fun c16 => ?_) (fun c16 => ?_)
          · exact absurd rfl c16
          · skip
            have hP9 : va_P (dC, dI) classes (WM h g ca (u2 (u2 (u2 (u2 (u2 iv 12 34 n2) 12 35 n14) 12 36 n15) 12 37 n3) 12 38 n4) lv (u2 (u2 (u2 (u2 fa 12 28 (fa 12 28)) 12 29 (fa 12 29)) 12 30 (fa 12 30)) 12 31 (fa 12 31)) la) H := hP
            have hD9 : va_D A (WM h g ca (u2 (u2 (u2 (u2 (u2 iv 12 34 n2) 12 35 n14) 12 36 n15) 12 37 n3) 12 38 n4) lv (u2 (u2 (u2 (u2 fa 12 28 (fa 12 28)) 12 29 (fa 12 29)) 12 30 (fa 12 30)) 12 31 (fa 12 31)) la) := hD
            exact W.vret hx hb hr (fun t ht9 hW => ⟨⟨((u2 (u2 (u2 (u2 (u2 iv 12 34 n2) 12 35 n14) 12 36 n15) 12 37 n3) 12 38 n4), lv, (u2 (u2 (u2 (u2 fa 12 28 (fa 12 28)) 12 29 (fa 12 29)) 12 30 (fa 12 30)) 12 31 (fa 12 31)), la), rfl, ⟨(fa 12 28), (fa 12 29), (fa 12 30), (fa 12 31), n2, n14, n15, n3, n4, (hI.2 12 30), (show inb (0, 200) n2 from ⟨by omega, by omega⟩), (show inb (0, 5) n14 from ⟨by omega, by omega⟩), (show inb (0, 200) n3 from ⟨by omega, by omega⟩), (show inb (0, 200) n4 from ⟨by omega, by omega⟩), (show (iv 12 34).toInt ≤ (n2 : Int32).toInt from by omega), (show ∀ j : Nat, j ≠ k.toNatClampNeg → (fa 12 28) j = (fa 12 28) j from fun j hj => rfl), (show ∀ j : Nat, j ≠ k.toNatClampNeg → (fa 12 29) j = (fa 12 29) j from fun j hj => rfl), (show ∀ j : Nat, j ≠ k.toNatClampNeg → (fa 12 30) j = (fa 12 30) j from fun j hj => rfl), (show ∀ j : Nat, (j : Int) < 8 * (k).toInt → (fa 12 31) j = (fa 12 31) j from fun j hj => rfl), (show (((n14 : Int32).toInt ≠ 0 ∧ ∃ (b v1 v2 : Int) (wd : Nat → Int), NmP (fun j => sg ((fa 12 32) j).toInt) ((iv 12 33) : Int32).toInt (iv 12 34).toInt (n14 : Int32).toInt (n15 : Int32).toInt b v1 v2 wd) ∨ ((n14 : Int32).toInt = 0 ∧ (n15 : Int32).toInt = (iv 12 36).toInt ∧ NmP (fun j => sg ((fa 12 32) j).toInt) ((iv 12 33) : Int32).toInt (iv 12 34).toInt 0 0 (n2 : Int32).toInt ((fa 12 28) ((k).toInt).toNat).toInt ((fa 12 29) ((k).toInt).toNat).toInt (fun j => if (j : Int) < ((fa 12 30) ((k).toInt).toNat).toInt then ((fa 12 31) (8 * ((k).toInt).toNat + j)).toInt else 0))) from (by exact Or.inl ⟨by omega, 0, 0, 0, (fun _ => 0), _, _, xr1_2, xr1_3, Or.inr (Or.inl ⟨by omega, by omega, by omega⟩)⟩)), rfl⟩, by rw [ht9]; exact hP9, hD9⟩, hS.F ht9⟩) hS.2.2 dX12_readName_54
        · have fc12 := z_nle (by decide : (9 : Int32).toInt = 9) (rfl : (n4).toInt = _) c12
          refine lv_iconst (v := 1) hx hb dX12_readName_38 (by decide) ?_
          refine lv_goto (tgt := 43) hx hb dX12_readName_39 (by decide) ?_
          refine lv_iconst (v := 4) hx hb dX12_readName_43 (by decide) ?_
          refine lv_aload_n hx hb dX12_readName_44 rfl (lv_at hl 0 rfl) ?_
          refine gM_12_37 hx hb ht hown hK hP m_1176 (v := n3) rfl dX12_readName_45 ?_
          refine vp_callSi (W.runV (As := [.int 1, .int 4, .int n3]) (rest := []) ⟨hx, hb, hml, hown, ht⟩ (c_X12_want_1 l dC dI h g ca (u2 (u2 (u2 iv 12 34 n2) 12 37 n3) 12 38 n4) lv fa la (IX_i (c := 12) (k := 38) (IX_i (c := 12) (k := 37) (IX_i (c := 12) (k := 34) hI (show inb (0, 200) n2 from ⟨by omega, by omega⟩)) (show inb (0, 200) n3 from ⟨by omega, by omega⟩)) (show inb (0, 200) n4 from ⟨by omega, by omega⟩)) 4 n3) (kV 3 ht m_1472 m_1474 m_50 m_89 m_1475 rfl rfl hd_X12_want_v ⟨Nat.le_of_ble_eq_true rfl, Nat.le_of_ble_eq_true rfl⟩) (vR hP hK (rM_12 hK hP)) rfl rfl hl.1 rfl (lv_room (Nat.le_of_ble_eq_true rfl)) dX12_readName_48 ⟨Nat.le_of_ble_eq_true rfl, Nat.le_of_ble_eq_true rfl⟩) (fun r17 hr17 => ?_)
          rcases hr17 with ⟨rfl, fr17⟩ | ⟨rfl, fr17⟩
          · skip
            have fr17 : (((iv 12 35) : Int32).toInt = 0) := fr17
            refine lv_if_ne (tgt := 55) hx hb dX12_readName_51 (by decide) (fun c18 => ?_) (fun c18 => ?_)
            · skip
              refine lv_aload_n hx hb dX12_readName_55 rfl (lv_at hl 0 rfl) ?_
              refine gM_12_30 hx hb ht hown hK hP m_1169 dX12_readName_56 ?_
              refine lv_iload_n hx hb dX12_readName_59 rfl (lv_at hl 1 rfl) ?_
              refine lv_aload_n hx hb dX12_readName_60 rfl (lv_at hl 0 rfl) ?_
              refine gM_12_38 hx hb ht hown hK hP m_1177 (v := n4) rfl dX12_readName_61 ?_
              refine tM_12_30 hx hb hK hP hD hS (f0 := (fa 12 30)) rfl (i := k) (x := n4) (vp_in_iff.mpr ⟨by omega, by omega⟩) dX12_readName_64 (fun f19 ef19 H locs hP hD hS => ?_)
              have hf19 : ∀ j, inb (bA 12 30 j) (f19 j) := by rw [ef19]; exact upd_b (b := bA 12 30) (hI.2 12 30) (show inb (0, 8) n4 from ⟨by omega, by omega⟩)
              refine lv_iconst (v := 0) hx hb dX12_readName_65 (by decide) ?_
              refine lv_istore_n (lv' := [(2, .int 0), (0, .ref h), (1, .int k)]) hx hb dX12_readName_66 rfl hl (by decide) rfl (fun ls hl => ?_)
              have lp309 : ∀ (nn309 : Nat) (x308_2 : Int32) (w308_a_12_31 : Nat → Int32), 0 ≤ x308_2.toInt ∧ x308_2.toInt ≤ 8 → (∀ j, inb (bA 12 31 j) (w308_a_12_31 j)) → (∀ j : Nat, (j : Int) < 8 * (k).toInt → w308_a_12_31 j = (fa 12 31) j) → (∀ j : Nat, (j : Int) < (x308_2 : Int32).toInt → w308_a_12_31 (8 * ((k).toInt).toNat + j) = (fa 12 32) (((n3 : Int32).toInt).toNat + j)) → (x308_2 : Int32).toInt ≤ (n4 : Int32).toInt → 0 ≤ (x308_2 : Int32).toInt → 8 - x308_2.toInt < (nn309 : Int) → ∀ (H : Heap) (locs : List Loc), ∀ (ls : Array Slot), va_P (dC, dI) classes (WM h g ca (u2 (u2 (u2 iv 12 34 n2) 12 37 n3) 12 38 n4) lv (u2 (u2 fa 12 30 f19) 12 31 w308_a_12_31) la) H → va_D A (WM h g ca (u2 (u2 (u2 iv 12 34 n2) 12 37 n3) 12 38 n4) lv (u2 (u2 fa 12 30 f19) 12 31 w308_a_12_31) la) → va_S A s.heap H locs → lv_has ls 3 [(2, .int x308_2), (0, .ref h), (1, .int k)] → W p l e ({ frames := 2, cells := 0, slots := 0, locals := 50 } : Room) s m ([.ref h, .int k] : List Value).toArray below meth c H locs 0 0 (MQ below (va_Qv (fun (u : SS) => ∃ (na_12_28 : Nat → Int32) (na_12_29 : Nat → Int32) (na_12_30 : Nat → Int32) (na_12_31 : Nat → Int32) (ni_12_34 : Int32) (ni_12_35 : Int32) (ni_12_36 : Int32) (ni_12_37 : Int32) (ni_12_38 : Int32), (∀ j, inb (bA 12 30 j) (na_12_30 j)) ∧ inb (bI 12 34) ni_12_34 ∧ inb (bI 12 35) ni_12_35 ∧ inb (bI 12 37) ni_12_37 ∧ inb (bI 12 38) ni_12_38 ∧ ((iv 12 34).toInt ≤ (ni_12_34).toInt) ∧ (∀ j : Nat, j ≠ k.toNatClampNeg → na_12_28 j = (fa 12 28) j) ∧ (∀ j : Nat, j ≠ k.toNatClampNeg → na_12_29 j = (fa 12 29) j) ∧ (∀ j : Nat, j ≠ k.toNatClampNeg → na_12_30 j = (fa 12 30) j) ∧ (∀ j : Nat, (j : Int) < 8 * k.toInt → na_12_31 j = (fa 12 31) j) ∧ ((((ni_12_35).toInt ≠ 0 ∧ ∃ (b v1 v2 : Int) (wd : Nat → Int), NmP (fun j => sg ((fa 12 32) j).toInt) (iv 12 33).toInt (iv 12 34).toInt (ni_12_35).toInt (ni_12_36).toInt b v1 v2 wd) ∨ ((ni_12_35).toInt = 0 ∧ (ni_12_36).toInt = (iv 12 36).toInt ∧ NmP (fun j => sg ((fa 12 32) j).toInt) (iv 12 33).toInt (iv 12 34).toInt 0 0 (ni_12_34).toInt (na_12_28 (k.toInt).toNat).toInt (na_12_29 (k.toInt).toNat).toInt (fun j => if (j : Int) < (na_12_30 (k.toInt).toNat).toInt then (na_12_31 (8 * (k.toInt).toNat + j)).toInt else 0)))) ∧ u = ((u2 (u2 (u2 (u2 (u2 iv 12 34 ni_12_34) 12 35 ni_12_35) 12 36 ni_12_36) 12 37 ni_12_37) 12 38 ni_12_38), lv, (u2 (u2 (u2 (u2 fa 12 28 na_12_28) 12 29 na_12_29) 12 30 na_12_30) 12 31 na_12_31), la)) (bM (dC, dI) h g ca A) A) ([.ref h, .int k] : List Value).toArray s 0 0 A) (F0 m 67 ls []) := by
                intro nn309
                induction nn309 with
                | zero => intro x308_2 w308_a_12_31 hx308_2 hw308_a_12_31 hq309_0 hq309_1 hq309_2 hq309_3 hm309; exfalso; omega
                | succ nn309 ih309 =>
                  intro x308_2 w308_a_12_31 hx308_2 hw308_a_12_31 hq309_0 hq309_1 hq309_2 hq309_3 hm309 H locs ls hP hD hS hl
                  refine lv_iload_n hx hb dX12_readName_67 rfl (lv_at hl 0 rfl) ?_
                  refine lv_aload_n hx hb dX12_readName_68 rfl (lv_at hl 1 rfl) ?_
                  refine gM_12_38 hx hb ht hown hK hP m_1177 (v := n4) rfl dX12_readName_69 ?_
                  refine lv_icmp_ge (tgt := 103) hx hb dX12_readName_72 (by decide) (fun c310 => ?_) (fun c310 => ?_)
                  · have fc310 := z_le (rfl : (n4).toInt = _) (rfl : (x308_2).toInt = _) c310
                    refine lv_aload_n hx hb dX12_readName_103 rfl (lv_at hl 1 rfl) ?_
                    refine gM_12_28 hx hb ht hown hK hP m_1167 dX12_readName_104 ?_
                    refine lv_iload_n hx hb dX12_readName_107 rfl (lv_at hl 2 rfl) ?_
                    refine lv_aload_n hx hb dX12_readName_108 rfl (lv_at hl 1 rfl) ?_
                    refine lv_iconst (v := 0) hx hb dX12_readName_109 (by decide) ?_
                    refine lv_sipush (v := 9999) hx hb dX12_readName_110 (by decide) ?_
                    have hFc := free_all hD hS hA
                    refine va_calli (va_runV (As := [.int 0, .int 9999]) (rest := [.int k, .ref (g 12 28)]) ⟨hx, hb, hml, hown, ht⟩ (c_X12_takeNumber_r l dC dI H.size h g ca (u2 (u2 (u2 iv 12 34 n2) 12 37 n3) 12 38 n4) lv (u2 (u2 fa 12 30 f19) 12 31 w308_a_12_31) la (IX_a (c := 12) (k := 31) (IX_a (c := 12) (k := 30) (IX_i (c := 12) (k := 38) (IX_i (c := 12) (k := 37) (IX_i (c := 12) (k := 34) hI (show inb (0, 200) n2 from ⟨by omega, by omega⟩)) (show inb (0, 200) n3 from ⟨by omega, by omega⟩)) (show inb (0, 200) n4 from ⟨by omega, by omega⟩)) hf19) hw308_a_12_31) 0 9999 (show 0 ≤ ((iv 12 35) : Int32).toInt ∧ ((iv 12 35) : Int32).toInt ≤ 0 from ⟨by omega, by omega⟩) hJT) (kV 2 ht m_1490 m_1492 m_53 m_89 m_1493 rfl rfl hd_X12_takeNumber_v ⟨Nat.le_of_ble_eq_true rfl, Nat.le_of_ble_eq_true rfl⟩) (vW hP hK hD (rM_12 hK hP)) rfl rfl hl.1 rfl (lv_room (Nat.le_of_ble_eq_true rfl)) dX12_readName_113 ⟨Nat.le_of_ble_eq_true rfl, Nat.le_of_ble_eq_true rfl⟩) hS (fun q _ h => hFc q h) hFc (fun r311 u t H1 locs ht9 hvm hr311 hB hz1 hk1 hS => ?_)
                    obtain ⟨n312, n313, n314, n315, hn312, hn313, hn315, xr311_0, xr311_1, xr311_2, xr311_3, hr311, rfl⟩ := hr311
                    have hn312 : 0 ≤ n312.toInt ∧ n312.toInt ≤ 200 := hn312
                    have hn313 : 0 ≤ n313.toInt ∧ n313.toInt ≤ 5 := hn313
                    have hn315 : 0 ≤ n315.toInt ∧ n315.toInt ≤ 200 := hn315
                    obtain ⟨hP, hD⟩ := hB
                    rw [ht9] at hP
                    generalize H1 = H at hP hS ⊢
                    have hP : va_P (dC, dI) classes (WM h g ca (u2 (u2 (u2 (u2 (u2 iv 12 34 n312) 12 37 n315) 12 38 n4) 12 35 n313) 12 36 n314) lv (u2 (u2 fa 12 30 f19) 12 31 w308_a_12_31) la) H := hP
                    have hD : va_D A (WM h g ca (u2 (u2 (u2 (u2 (u2 iv 12 34 n312) 12 37 n315) 12 38 n4) 12 35 n313) 12 36 n314) lv (u2 (u2 fa 12 30 f19) 12 31 w308_a_12_31) la) := (show va_D _ (WM h g ca (u2 (u2 (u2 (u2 (u2 iv 12 34 n312) 12 37 n315) 12 38 n4) 12 35 n313) 12 36 n314) lv (u2 (u2 fa 12 30 f19) 12 31 w308_a_12_31) la) from hD).weaken (fun _ _ _ h => hFc _ h)
                    have xr311_0 : (n2 : Int32).toInt ≤ (n312 : Int32).toInt := xr311_0
                    have : (0 : Int32).toInt = 0 := (by decide)
                    have : (9999 : Int32).toInt = 9999 := (by decide)
                    have xr311_1 : ((n313 : Int32).toInt ≠ 0 ∨ ((0 : Int32).toInt ≤ (r311 : Int32).toInt ∧ (r311 : Int32).toInt ≤ (9999 : Int32).toInt)) := xr311_1
                    have xr311_2 : (((n313 : Int32).toInt ≠ 0 ∧ Num (fun j => sg ((fa 12 32) j).toInt) ((iv 12 33) : Int32).toInt (0 : Int32).toInt (9999 : Int32).toInt (n2 : Int32).toInt (n313 : Int32).toInt (n314 : Int32).toInt 0 0) ∨ ((n313 : Int32).toInt = 0 ∧ (n314 : Int32).toInt = ((iv 12 36) : Int32).toInt ∧ Num (fun j => sg ((fa 12 32) j).toInt) ((iv 12 33) : Int32).toInt (0 : Int32).toInt (9999 : Int32).toInt (n2 : Int32).toInt 0 0 (r311 : Int32).toInt (n312 : Int32).toInt)) := xr311_2
                    have xr311_3 : Sk (fun j => sg ((fa 12 32) j).toInt) ((iv 12 33) : Int32).toInt (n2 : Int32).toInt (n315 : Int32).toInt := xr311_3
                    refine tM_12_28 hx hb hK hP hD hS (f0 := (fa 12 28)) rfl (i := k) (x := r311) (vp_in_iff.mpr ⟨by omega, by omega⟩) dX12_readName_116 (fun f316 ef316 H locs hP hD hS => ?_)
                    have hf316 : ∀ j, inb (bA 12 28 j) (f316 j) := fun j => full_i _
                    refine lv_aload_n hx hb dX12_readName_117 rfl (lv_at hl 1 rfl) ?_
                    refine gM_12_35 hx hb ht hown hK hP m_1174 (v := n313) rfl dX12_readName_118 ?_
                    refine lv_if_ne (tgt := 174) hx hb dX12_readName_121 (by decide) (fun c317 => ?_) (fun c317 => ?_)
                    · have fc317 := z_ne (rfl : (n313).toInt = _) (by decide : (0 : Int32).toInt = 0) c317
                      have hP9 : va_P (dC, dI) classes (WM h g ca (u2 (u2 (u2 (u2 (u2 iv 12 34 n312) 12 35 n313) 12 36 n314) 12 37 n315) 12 38 n4) lv (u2 (u2 (u2 (u2 fa 12 28 f316) 12 29 (fa 12 29)) 12 30 f19) 12 31 w308_a_12_31) la) H := hP
                      have hD9 : va_D A (WM h g ca (u2 (u2 (u2 (u2 (u2 iv 12 34 n312) 12 35 n313) 12 36 n314) 12 37 n315) 12 38 n4) lv (u2 (u2 (u2 (u2 fa 12 28 f316) 12 29 (fa 12 29)) 12 30 f19) 12 31 w308_a_12_31) la) := hD
                      exact W.vret hx hb hr (fun t ht9 hW => ⟨⟨((u2 (u2 (u2 (u2 (u2 iv 12 34 n312) 12 35 n313) 12 36 n314) 12 37 n315) 12 38 n4), lv, (u2 (u2 (u2 (u2 fa 12 28 f316) 12 29 (fa 12 29)) 12 30 f19) 12 31 w308_a_12_31), la), rfl, ⟨f316, (fa 12 29), f19, w308_a_12_31, n312, n313, n314, n315, n4, hf19, (show inb (0, 200) n312 from ⟨by omega, by omega⟩), (show inb (0, 5) n313 from ⟨by omega, by omega⟩), (show inb (0, 200) n315 from ⟨by omega, by omega⟩), (show inb (0, 200) n4 from ⟨by omega, by omega⟩), (show (iv 12 34).toInt ≤ (n312 : Int32).toInt from by omega), (show ∀ j : Nat, j ≠ k.toNatClampNeg → f316 j = (fa 12 28) j from fun j hj => by rw [ef316, upd_ne (show j ≠ k.toNatClampNeg from hj)]), (show ∀ j : Nat, j ≠ k.toNatClampNeg → (fa 12 29) j = (fa 12 29) j from fun j hj => rfl), (show ∀ j : Nat, j ≠ k.toNatClampNeg → f19 j = (fa 12 30) j from fun j hj => by rw [ef19, upd_ne (show j ≠ k.toNatClampNeg from hj)]), (show ∀ j : Nat, (j : Int) < 8 * (k).toInt → w308_a_12_31 j = (fa 12 31) j from hq309_0), (show (((n313 : Int32).toInt ≠ 0 ∧ ∃ (b v1 v2 : Int) (wd : Nat → Int), NmP (fun j => sg ((fa 12 32) j).toInt) ((iv 12 33) : Int32).toInt (iv 12 34).toInt (n313 : Int32).toInt (n314 : Int32).toInt b v1 v2 wd) ∨ ((n313 : Int32).toInt = 0 ∧ (n314 : Int32).toInt = (iv 12 36).toInt ∧ NmP (fun j => sg ((fa 12 32) j).toInt) ((iv 12 33) : Int32).toInt (iv 12 34).toInt 0 0 (n312 : Int32).toInt (f316 ((k).toInt).toNat).toInt ((fa 12 29) ((k).toInt).toNat).toInt (fun j => if (j : Int) < (f19 ((k).toInt).toNat).toInt then (w308_a_12_31 (8 * ((k).toInt).toNat + j)).toInt else 0))) from (by
                            have hE30 : f19 (k.toInt).toNat = n4 := (by rw [ef19]; exact upd_eq)
                            have hE28 : f316 (k.toInt).toNat = r311 := (by rw [ef316]; exact upd_eq)
                            have hw : ∀ j : Nat, j < 8 → ((j : Int) < (n2 : Int32).toInt - (n3 : Int32).toInt → (fun j : Nat => if (j : Int) < (f19 (k.toInt).toNat).toInt then (w308_a_12_31 (8 * (k.toInt).toNat + j)).toInt else 0) j = (fun j => sg (fa 12 32 j).toInt) (((n3 : Int32).toInt).toNat + j)) ∧ ((n2 : Int32).toInt - (n3 : Int32).toInt ≤ (j : Int) → (fun j : Nat => if (j : Int) < (f19 (k.toInt).toNat).toInt then (w308_a_12_31 (8 * (k.toInt).toNat + j)).toInt else 0) j = 0) := by
                              intro j hj
                              refine ⟨fun h9 => ?_, fun h9 => ?_⟩
                              · show (if (j : Int) < (f19 (k.toInt).toNat).toInt then (w308_a_12_31 (8 * (k.toInt).toNat + j)).toInt else 0) = sg (fa 12 32 (((n3 : Int32).toInt).toNat + j)).toInt
                                rw [hE30, if_pos (by omega), hq309_1 j (by omega)]
                                have hg := sg_i (fa 12 32 (((n3 : Int32).toInt).toNat + j)).toInt
                                have hr : 97 ≤ sg (fa 12 32 (((n3 : Int32).toInt).toNat + j)).toInt ∧ sg (fa 12 32 (((n3 : Int32).toInt).toNat + j)).toInt ≤ 122 := (xr1_3.2.1 (((n3 : Int32).toInt).toNat + j) (by omega) (by omega)).2
                                omega
                              · show (if (j : Int) < (f19 (k.toInt).toNat).toInt then (w308_a_12_31 (8 * (k.toInt).toNat + j)).toInt else 0) = 0
                                rw [hE30, if_neg (by omega)]
                            rcases xr311_2 with ⟨yn1q, yn2q⟩ | ⟨yn1q, -⟩
                            · exact Or.inl ⟨by omega, 0, 0, 0, _, _, _, xr1_2, xr1_3, Or.inr (Or.inr ⟨⟨by omega, by omega⟩, hw, _, _, _, yn2q, Or.inl ⟨by omega, rfl, rfl⟩⟩)⟩
                            · exfalso; omega)), rfl⟩, by rw [ht9]; exact hP9, hD9⟩, hS.F ht9⟩) hS.2.2 dX12_readName_174
                    · have fc317 := z_eq (rfl : (n313).toInt = _) (by decide : (0 : Int32).toInt = 0) c317
                      refine lv_aload_n hx hb dX12_readName_124 rfl (lv_at hl 1 rfl) ?_
                      have hFc := free_all hD hS hA
                      refine va_callv (va_runV (As := []) (rest := []) ⟨hx, hb, hml, hown, ht⟩ (c_X12_takeWord_r l dC dI H.size h g ca (u2 (u2 (u2 (u2 (u2 iv 12 34 n312) 12 37 n315) 12 38 n4) 12 35 n313) 12 36 n314) lv (u2 (u2 (u2 fa 12 30 f19) 12 31 w308_a_12_31) 12 28 f316) la (IX_a (c := 12) (k := 28) (IX_a (c := 12) (k := 31) (IX_a (c := 12) (k := 30) (IX_i (c := 12) (k := 36) (IX_i (c := 12) (k := 35) (IX_i (c := 12) (k := 38) (IX_i (c := 12) (k := 37) (IX_i (c := 12) (k := 34) hI (show inb (0, 200) n312 from ⟨by omega, by omega⟩)) (show inb (0, 200) n315 from ⟨by omega, by omega⟩)) (show inb (0, 200) n4 from ⟨by omega, by omega⟩)) (show inb (0, 5) n313 from ⟨by omega, by omega⟩)) (full_i _)) hf19) hw308_a_12_31) hf316)) (kV 0 ht m_1462 m_1464 m_48 m_89 m_1465 rfl rfl hd_X12_takeWord_v ⟨Nat.le_of_ble_eq_true rfl, Nat.le_of_ble_eq_true rfl⟩) (vW hP hK hD (rM_12 hK hP)) rfl rfl hl.1 rfl (lv_room (Nat.le_of_ble_eq_true rfl)) dX12_readName_125 ⟨Nat.le_of_ble_eq_true rfl, Nat.le_of_ble_eq_true rfl⟩) hS (fun q _ h => hFc q h) hFc (fun u t H1 locs ht9 hvm hr318 hB hz1 hk1 hS => ?_)
                      obtain ⟨n319, n320, n321, hn319, hn320, hn321, xr318_0, xr318_1, xr318_2, xr318_3, rfl⟩ := hr318
                      have hn319 : 0 ≤ n319.toInt ∧ n319.toInt ≤ 200 := hn319
                      have hn320 : 0 ≤ n320.toInt ∧ n320.toInt ≤ 200 := hn320
                      have hn321 : 0 ≤ n321.toInt ∧ n321.toInt ≤ 200 := hn321
                      obtain ⟨hP, hD⟩ := hB
                      rw [ht9] at hP
                      generalize H1 = H at hP hS ⊢
                      have hP : va_P (dC, dI) classes (WM h g ca (u2 (u2 (u2 (u2 (u2 iv 12 34 n319) 12 37 n320) 12 38 n321) 12 35 n313) 12 36 n314) lv (u2 (u2 (u2 fa 12 30 f19) 12 31 w308_a_12_31) 12 28 f316) la) H := hP
                      have hD : va_D A (WM h g ca (u2 (u2 (u2 (u2 (u2 iv 12 34 n319) 12 37 n320) 12 38 n321) 12 35 n313) 12 36 n314) lv (u2 (u2 (u2 fa 12 30 f19) 12 31 w308_a_12_31) 12 28 f316) la) := (show va_D _ (WM h g ca (u2 (u2 (u2 (u2 (u2 iv 12 34 n319) 12 37 n320) 12 38 n321) 12 35 n313) 12 36 n314) lv (u2 (u2 (u2 fa 12 30 f19) 12 31 w308_a_12_31) 12 28 f316) la) from hD).weaken (fun _ _ _ h => hFc _ h)
                      have xr318_0 : (n312 : Int32).toInt ≤ (n320 : Int32).toInt := xr318_0
                      have xr318_1 : (n320 : Int32).toInt + (n321 : Int32).toInt = (n319 : Int32).toInt := xr318_1
                      have xr318_2 : Sk (fun j => sg ((fa 12 32) j).toInt) ((iv 12 33) : Int32).toInt (n312 : Int32).toInt (n320 : Int32).toInt := xr318_2
                      have xr318_3 : Rn (fun j => sg ((fa 12 32) j).toInt) ((iv 12 33) : Int32).toInt 97 122 (n320 : Int32).toInt (n319 : Int32).toInt := xr318_3
                      refine lv_aload_n hx hb dX12_readName_128 rfl (lv_at hl 1 rfl) ?_
                      refine lv_aload_n hx hb dX12_readName_129 rfl (lv_at hl 1 rfl) ?_
                      refine lv_iconst (v := 2) hx hb dX12_readName_130 (by decide) ?_
                      refine lv_bipush (v := 116) hx hb dX12_readName_131 (by decide) ?_
                      refine lv_bipush (v := 111) hx hb dX12_readName_133 (by decide) ?_
                      refine lv_iconst (v := 0) hx hb dX12_readName_135 (by decide) ?_
                      refine lv_iconst (v := 0) hx hb dX12_readName_136 (by decide) ?_
                      refine lv_iconst (v := 0) hx hb dX12_readName_137 (by decide) ?_
                      refine lv_iconst (v := 0) hx hb dX12_readName_138 (by decide) ?_
                      refine vp_callSi (W.runV (As := [.int 2, .int 116, .int 111, .int 0, .int 0, .int 0, .int 0]) (rest := [.ref h]) ⟨hx, hb, hml, hown, ht⟩ (c_X12_isWord_r_to l dC dI h g ca (u2 (u2 (u2 (u2 (u2 iv 12 34 n319) 12 37 n320) 12 38 n321) 12 35 n313) 12 36 n314) lv (u2 (u2 (u2 fa 12 30 f19) 12 31 w308_a_12_31) 12 28 f316) la (IX_a (c := 12) (k := 28) (IX_a (c := 12) (k := 31) (IX_a (c := 12) (k := 30) (IX_i (c := 12) (k := 36) (IX_i (c := 12) (k := 35) (IX_i (c := 12) (k := 38) (IX_i (c := 12) (k := 37) (IX_i (c := 12) (k := 34) hI (show inb (0, 200) n319 from ⟨by omega, by omega⟩)) (show inb (0, 200) n320 from ⟨by omega, by omega⟩)) (show inb (0, 200) n321 from ⟨by omega, by omega⟩)) (show inb (0, 5) n313 from ⟨by omega, by omega⟩)) (full_i _)) hf19) hw308_a_12_31) hf316) (show (n320 : Int32).toInt + (n321 : Int32).toInt ≤ 200 from by omega)) (kV 7 ht m_1468 m_1470 m_49 m_89 m_1471 rfl rfl hd_X12_isWord_v ⟨Nat.le_of_ble_eq_true rfl, Nat.le_of_ble_eq_true rfl⟩) (vR hP hK (rM_12 hK hP)) rfl rfl hl.1 rfl (lv_room (Nat.le_of_ble_eq_true rfl)) dX12_readName_139 ⟨Nat.le_of_ble_eq_true rfl, Nat.le_of_ble_eq_true rfl⟩) (fun r322 hr322 => ?_)
                      obtain ⟨hr322, xr322_0, xr322_1⟩ := hr322
                      have xr322_0 : (((r322 : Int32).toInt = 1 ∧ w_to (fun j => sg ((fa 12 32) j).toInt) (n320 : Int32).toInt ((n320 : Int32).toInt + (n321 : Int32).toInt)) ∨ ((r322 : Int32).toInt = 0 ∧ ¬ w_to (fun j => sg ((fa 12 32) j).toInt) (n320 : Int32).toInt ((n320 : Int32).toInt + (n321 : Int32).toInt))) := xr322_0
                      have xr322_1 : ((r322 : Int32).toInt = 0 ∨ (n321 : Int32).toInt = 2) := xr322_1
                      refine lv_iconst (v := 1) hx hb dX12_readName_142 (by decide) ?_
                      refine lv_aload_n hx hb dX12_readName_143 rfl (lv_at hl 1 rfl) ?_
                      refine gM_12_37 hx hb ht hown hK hP m_1176 (v := n320) rfl dX12_readName_144 ?_
                      rcases (by omega : (r322 : Int32).toInt = 0 ∨ (r322 : Int32).toInt = 1) with q323 | q323
                      · obtain rfl : r322 = 0 := z_of (by decide) q323
                        have : (0 : Int32).toInt = 0 := by decide
                        have hFc := free_all hD hS hA
                        refine va_calli (va_runV (As := [.int 0, .int 1, .int n320]) (rest := []) ⟨hx, hb, hml, hown, ht⟩ (c_X12_want_r0 l dC dI H.size h g ca (u2 (u2 (u2 (u2 (u2 iv 12 34 n319) 12 37 n320) 12 38 n321) 12 35 n313) 12 36 n314) lv (u2 (u2 (u2 fa 12 30 f19) 12 31 w308_a_12_31) 12 28 f316) la (IX_a (c := 12) (k := 28) (IX_a (c := 12) (k := 31) (IX_a (c := 12) (k := 30) (IX_i (c := 12) (k := 36) (IX_i (c := 12) (k := 35) (IX_i (c := 12) (k := 38) (IX_i (c := 12) (k := 37) (IX_i (c := 12) (k := 34) hI (show inb (0, 200) n319 from ⟨by omega, by omega⟩)) (show inb (0, 200) n320 from ⟨by omega, by omega⟩)) (show inb (0, 200) n321 from ⟨by omega, by omega⟩)) (show inb (0, 5) n313 from ⟨by omega, by omega⟩)) (full_i _)) hf19) hw308_a_12_31) hf316) 1 n320 ⟨by decide, by decide⟩) (kV 3 ht m_1472 m_1474 m_50 m_89 m_1475 rfl rfl hd_X12_want_v ⟨Nat.le_of_ble_eq_true rfl, Nat.le_of_ble_eq_true rfl⟩) (vW hP hK hD (rM_12 hK hP)) rfl rfl hl.1 rfl (lv_room (Nat.le_of_ble_eq_true rfl)) dX12_readName_147 ⟨Nat.le_of_ble_eq_true rfl, Nat.le_of_ble_eq_true rfl⟩) hS (fun q _ h => hFc q h) hFc (fun r324 u t H1 locs ht9 hvm hr324 hB hz1 hk1 hS => ?_)
                        obtain ⟨n325, n326, hn325, xr324_0, xr324_1, hr324, rfl⟩ := hr324
                        have hn325 : 0 ≤ n325.toInt ∧ n325.toInt ≤ 5 := hn325
                        obtain ⟨hP, hD⟩ := hB
                        rw [ht9] at hP
                        generalize H1 = H at hP hS ⊢
                        have hP : va_P (dC, dI) classes (WM h g ca (u2 (u2 (u2 (u2 (u2 iv 12 34 n319) 12 37 n320) 12 38 n321) 12 35 n325) 12 36 n326) lv (u2 (u2 (u2 fa 12 30 f19) 12 31 w308_a_12_31) 12 28 f316) la) H := hP
                        have hD : va_D A (WM h g ca (u2 (u2 (u2 (u2 (u2 iv 12 34 n319) 12 37 n320) 12 38 n321) 12 35 n325) 12 36 n326) lv (u2 (u2 (u2 fa 12 30 f19) 12 31 w308_a_12_31) 12 28 f316) la) := (show va_D _ (WM h g ca (u2 (u2 (u2 (u2 (u2 iv 12 34 n319) 12 37 n320) 12 38 n321) 12 35 n325) 12 36 n326) lv (u2 (u2 (u2 fa 12 30 f19) 12 31 w308_a_12_31) 12 28 f316) la) from hD).weaken (fun _ _ _ h => hFc _ h)
                        have xr324_0 : 1 ≤ (n325 : Int32).toInt := xr324_0
                        have : (1 : Int32).toInt = 1 := (by decide)
                        have xr324_1 : (((n313 : Int32).toInt = 0 ∧ (n325 : Int32).toInt = (1 : Int32).toInt ∧ (n326 : Int32).toInt = (n320 : Int32).toInt) ∨ ((n313 : Int32).toInt ≠ 0 ∧ (n325 : Int32).toInt = (n313 : Int32).toInt ∧ (n326 : Int32).toInt = (n314 : Int32).toInt)) := xr324_1
                        obtain rfl : 0 = r324 := hr324.symm
                        refine lv_if_eq (tgt := 174) hx hb dX12_readName_150 (by decide) (fun c327 => ?_) (fun c327 => ?_)
                        · skip
                          have hP9 : va_P (dC, dI) classes (WM h g ca (u2 (u2 (u2 (u2 (u2 iv 12 34 n319) 12 35 n325) 12 36 n326) 12 37 n320) 12 38 n321) lv (u2 (u2 (u2 (u2 fa 12 28 f316) 12 29 (fa 12 29)) 12 30 f19) 12 31 w308_a_12_31) la) H := hP
                          have hD9 : va_D A (WM h g ca (u2 (u2 (u2 (u2 (u2 iv 12 34 n319) 12 35 n325) 12 36 n326) 12 37 n320) 12 38 n321) lv (u2 (u2 (u2 (u2 fa 12 28 f316) 12 29 (fa 12 29)) 12 30 f19) 12 31 w308_a_12_31) la) := hD
                          exact W.vret hx hb hr (fun t ht9 hW => ⟨⟨((u2 (u2 (u2 (u2 (u2 iv 12 34 n319) 12 35 n325) 12 36 n326) 12 37 n320) 12 38 n321), lv, (u2 (u2 (u2 (u2 fa 12 28 f316) 12 29 (fa 12 29)) 12 30 f19) 12 31 w308_a_12_31), la), rfl, ⟨f316, (fa 12 29), f19, w308_a_12_31, n319, n325, n326, n320, n321, hf19, (show inb (0, 200) n319 from ⟨by omega, by omega⟩), (show inb (0, 5) n325 from ⟨by omega, by omega⟩), (show inb (0, 200) n320 from ⟨by omega, by omega⟩), (show inb (0, 200) n321 from ⟨by omega, by omega⟩), (show (iv 12 34).toInt ≤ (n319 : Int32).toInt from by omega), (show ∀ j : Nat, j ≠ k.toNatClampNeg → f316 j = (fa 12 28) j from fun j hj => by rw [ef316, upd_ne (show j ≠ k.toNatClampNeg from hj)]), (show ∀ j : Nat, j ≠ k.toNatClampNeg → (fa 12 29) j = (fa 12 29) j from fun j hj => rfl), (show ∀ j : Nat, j ≠ k.toNatClampNeg → f19 j = (fa 12 30) j from fun j hj => by rw [ef19, upd_ne (show j ≠ k.toNatClampNeg from hj)]), (show ∀ j : Nat, (j : Int) < 8 * (k).toInt → w308_a_12_31 j = (fa 12 31) j from hq309_0), (show (((n325 : Int32).toInt ≠ 0 ∧ ∃ (b v1 v2 : Int) (wd : Nat → Int), NmP (fun j => sg ((fa 12 32) j).toInt) ((iv 12 33) : Int32).toInt (iv 12 34).toInt (n325 : Int32).toInt (n326 : Int32).toInt b v1 v2 wd) ∨ ((n325 : Int32).toInt = 0 ∧ (n326 : Int32).toInt = (iv 12 36).toInt ∧ NmP (fun j => sg ((fa 12 32) j).toInt) ((iv 12 33) : Int32).toInt (iv 12 34).toInt 0 0 (n319 : Int32).toInt (f316 ((k).toInt).toNat).toInt ((fa 12 29) ((k).toInt).toNat).toInt (fun j => if (j : Int) < (f19 ((k).toInt).toNat).toInt then (w308_a_12_31 (8 * ((k).toInt).toNat + j)).toInt else 0))) from (by
                                have hE30 : f19 (k.toInt).toNat = n4 := (by rw [ef19]; exact upd_eq)
                                have hE28 : f316 (k.toInt).toNat = r311 := (by rw [ef316]; exact upd_eq)
                                have hw : ∀ j : Nat, j < 8 → ((j : Int) < (n2 : Int32).toInt - (n3 : Int32).toInt → (fun j : Nat => if (j : Int) < (f19 (k.toInt).toNat).toInt then (w308_a_12_31 (8 * (k.toInt).toNat + j)).toInt else 0) j = (fun j => sg (fa 12 32 j).toInt) (((n3 : Int32).toInt).toNat + j)) ∧ ((n2 : Int32).toInt - (n3 : Int32).toInt ≤ (j : Int) → (fun j : Nat => if (j : Int) < (f19 (k.toInt).toNat).toInt then (w308_a_12_31 (8 * (k.toInt).toNat + j)).toInt else 0) j = 0) := by
                                  intro j hj
                                  refine ⟨fun h9 => ?_, fun h9 => ?_⟩
                                  · show (if (j : Int) < (f19 (k.toInt).toNat).toInt then (w308_a_12_31 (8 * (k.toInt).toNat + j)).toInt else 0) = sg (fa 12 32 (((n3 : Int32).toInt).toNat + j)).toInt
                                    rw [hE30, if_pos (by omega), hq309_1 j (by omega)]
                                    have hg := sg_i (fa 12 32 (((n3 : Int32).toInt).toNat + j)).toInt
                                    have hr : 97 ≤ sg (fa 12 32 (((n3 : Int32).toInt).toNat + j)).toInt ∧ sg (fa 12 32 (((n3 : Int32).toInt).toNat + j)).toInt ≤ 122 := (xr1_3.2.1 (((n3 : Int32).toInt).toNat + j) (by omega) (by omega)).2
                                    omega
                                  · show (if (j : Int) < (f19 (k.toInt).toNat).toInt then (w308_a_12_31 (8 * (k.toInt).toNat + j)).toInt else 0) = 0
                                    rw [hE30, if_neg (by omega)]
                                rcases xr311_2 with ⟨yn1q, -⟩ | ⟨yn1q, yn2q, yn3q⟩
                                · exfalso; omega
                                · have g := (xr322_0.resolve_left (fun q => by omega)).2
                                  rw [xr318_1] at g
                                  exact Or.inl ⟨by omega, 0, _, 0, _, _, _, xr1_2, xr1_3, Or.inr (Or.inr ⟨⟨by omega, by omega⟩, hw, _, _, _, yn3q, Or.inr ⟨rfl, _, _, xr318_2, xr318_3, Or.inl ⟨g, by omega, by omega⟩⟩⟩)⟩)), rfl⟩, by rw [ht9]; exact hP9, hD9⟩, hS.F ht9⟩) hS.2.2 dX12_readName_174
                        · exact absurd rfl c327
                      · obtain rfl : r322 = 1 := z_of (by decide) q323
                        have : (1 : Int32).toInt = 1 := by decide
                        refine vp_callSi (W.runV (As := [.int 1, .int 1, .int n320]) (rest := []) ⟨hx, hb, hml, hown, ht⟩ (c_X12_want_1 l dC dI h g ca (u2 (u2 (u2 (u2 (u2 iv 12 34 n319) 12 37 n320) 12 38 n321) 12 35 n313) 12 36 n314) lv (u2 (u2 (u2 fa 12 30 f19) 12 31 w308_a_12_31) 12 28 f316) la (IX_a (c := 12) (k := 28) (IX_a (c := 12) (k := 31) (IX_a (c := 12) (k := 30) (IX_i (c := 12) (k := 36) (IX_i (c := 12) (k := 35) (IX_i (c := 12) (k := 38) (IX_i (c := 12) (k := 37) (IX_i (c := 12) (k := 34) hI (show inb (0, 200) n319 from ⟨by omega, by omega⟩)) (show inb (0, 200) n320 from ⟨by omega, by omega⟩)) (show inb (0, 200) n321 from ⟨by omega, by omega⟩)) (show inb (0, 5) n313 from ⟨by omega, by omega⟩)) (full_i _)) hf19) hw308_a_12_31) hf316) 1 n320) (kV 3 ht m_1472 m_1474 m_50 m_89 m_1475 rfl rfl hd_X12_want_v ⟨Nat.le_of_ble_eq_true rfl, Nat.le_of_ble_eq_true rfl⟩) (vR hP hK (rM_12 hK hP)) rfl rfl hl.1 rfl (lv_room (Nat.le_of_ble_eq_true rfl)) dX12_readName_147 ⟨Nat.le_of_ble_eq_true rfl, Nat.le_of_ble_eq_true rfl⟩) (fun r328 hr328 => ?_)
                        rcases hr328 with ⟨rfl, fr328⟩ | ⟨rfl, fr328⟩
                        · skip
                          have fr328 : ((n313 : Int32).toInt = 0) := fr328
                          refine lv_if_eq (tgt := 174) hx hb dX12_readName_150 (by decide) (fun c329 => ?_) (fun c329 => ?_)
                          · exact absurd c329 (by decide)
                          · skip
                            refine lv_aload_n hx hb dX12_readName_153 rfl (lv_at hl 1 rfl) ?_
                            refine gM_12_29 hx hb ht hown hK hP m_1168 dX12_readName_154 ?_
                            refine lv_iload_n hx hb dX12_readName_157 rfl (lv_at hl 2 rfl) ?_
                            refine lv_aload_n hx hb dX12_readName_158 rfl (lv_at hl 1 rfl) ?_
                            refine lv_aload_n hx hb dX12_readName_159 rfl (lv_at hl 1 rfl) ?_
                            refine gM_12_28 hx hb ht hown hK hP m_1167 dX12_readName_160 ?_
                            refine lv_iload_n hx hb dX12_readName_163 rfl (lv_at hl 2 rfl) ?_
                            refine lM_12_28 hx hb hK hP (f := f316) rfl (vp_in_iff.mpr ⟨by omega, by omega⟩) dX12_readName_164 ?_
                            refine lv_topi (fun v330 ev330 => ?_)
                            have hl8 := congrArg Int32.toInt (ev330.trans (show f316 k.toNatClampNeg = r311 from (by rw [ef316]; exact upd_eq)))
                            have : 0 ≤ (v330 : Int32).toInt ∧ (v330 : Int32).toInt ≤ 9999 := ⟨by omega, by omega⟩
                            refine lv_iconst (v := 1) hx hb dX12_readName_165 (by decide) ?_
                            refine lv_iadd hx hb dX12_readName_166 ?_
                            refine lv_topi (fun v331 ev331 => ?_)
                            have tv331 := z_add ev331 (rfl : (v330).toInt = _) (by decide : (1 : Int32).toInt = 1) (by omega) (by omega)
                            refine lv_sipush (v := 9999) hx hb dX12_readName_167 (by decide) ?_
                            have hFc := free_all hD hS hA
                            refine va_calli (va_runV (As := [.int v331, .int 9999]) (rest := [.int k, .ref (g 12 29)]) ⟨hx, hb, hml, hown, ht⟩ (c_X12_takeNumber_r l dC dI H.size h g ca (u2 (u2 (u2 (u2 (u2 iv 12 34 n319) 12 37 n320) 12 38 n321) 12 35 n313) 12 36 n314) lv (u2 (u2 (u2 fa 12 30 f19) 12 31 w308_a_12_31) 12 28 f316) la (IX_a (c := 12) (k := 28) (IX_a (c := 12) (k := 31) (IX_a (c := 12) (k := 30) (IX_i (c := 12) (k := 36) (IX_i (c := 12) (k := 35) (IX_i (c := 12) (k := 38) (IX_i (c := 12) (k := 37) (IX_i (c := 12) (k := 34) hI (show inb (0, 200) n319 from ⟨by omega, by omega⟩)) (show inb (0, 200) n320 from ⟨by omega, by omega⟩)) (show inb (0, 200) n321 from ⟨by omega, by omega⟩)) (show inb (0, 5) n313 from ⟨by omega, by omega⟩)) (full_i _)) hf19) hw308_a_12_31) hf316) v331 9999 (show 0 ≤ (n313 : Int32).toInt ∧ (n313 : Int32).toInt ≤ 0 from ⟨by omega, by omega⟩) hJT) (kV 2 ht m_1490 m_1492 m_53 m_89 m_1493 rfl rfl hd_X12_takeNumber_v ⟨Nat.le_of_ble_eq_true rfl, Nat.le_of_ble_eq_true rfl⟩) (vW hP hK hD (rM_12 hK hP)) rfl rfl hl.1 rfl (lv_room (Nat.le_of_ble_eq_true rfl)) dX12_readName_170 ⟨Nat.le_of_ble_eq_true rfl, Nat.le_of_ble_eq_true rfl⟩) hS (fun q _ h => hFc q h) hFc (fun r332 u t H1 locs ht9 hvm hr332 hB hz1 hk1 hS => ?_)
                            obtain ⟨n333, n334, n335, n336, hn333, hn334, hn336, xr332_0, xr332_1, xr332_2, xr332_3, hr332, rfl⟩ := hr332
                            have hn333 : 0 ≤ n333.toInt ∧ n333.toInt ≤ 200 := hn333
                            have hn334 : 0 ≤ n334.toInt ∧ n334.toInt ≤ 5 := hn334
                            have hn336 : 0 ≤ n336.toInt ∧ n336.toInt ≤ 200 := hn336
                            obtain ⟨hP, hD⟩ := hB
                            rw [ht9] at hP
                            generalize H1 = H at hP hS ⊢
                            have hP : va_P (dC, dI) classes (WM h g ca (u2 (u2 (u2 (u2 (u2 iv 12 34 n333) 12 37 n336) 12 38 n321) 12 35 n334) 12 36 n335) lv (u2 (u2 (u2 fa 12 30 f19) 12 31 w308_a_12_31) 12 28 f316) la) H := hP
                            have hD : va_D A (WM h g ca (u2 (u2 (u2 (u2 (u2 iv 12 34 n333) 12 37 n336) 12 38 n321) 12 35 n334) 12 36 n335) lv (u2 (u2 (u2 fa 12 30 f19) 12 31 w308_a_12_31) 12 28 f316) la) := (show va_D _ (WM h g ca (u2 (u2 (u2 (u2 (u2 iv 12 34 n333) 12 37 n336) 12 38 n321) 12 35 n334) 12 36 n335) lv (u2 (u2 (u2 fa 12 30 f19) 12 31 w308_a_12_31) 12 28 f316) la) from hD).weaken (fun _ _ _ h => hFc _ h)
                            have xr332_0 : (n319 : Int32).toInt ≤ (n333 : Int32).toInt := xr332_0
                            have xr332_1 : ((n334 : Int32).toInt ≠ 0 ∨ ((v331 : Int32).toInt ≤ (r332 : Int32).toInt ∧ (r332 : Int32).toInt ≤ (9999 : Int32).toInt)) := xr332_1
                            have xr332_2 : (((n334 : Int32).toInt ≠ 0 ∧ Num (fun j => sg ((fa 12 32) j).toInt) ((iv 12 33) : Int32).toInt (v331 : Int32).toInt (9999 : Int32).toInt (n319 : Int32).toInt (n334 : Int32).toInt (n335 : Int32).toInt 0 0) ∨ ((n334 : Int32).toInt = 0 ∧ (n335 : Int32).toInt = (n314 : Int32).toInt ∧ Num (fun j => sg ((fa 12 32) j).toInt) ((iv 12 33) : Int32).toInt (v331 : Int32).toInt (9999 : Int32).toInt (n319 : Int32).toInt 0 0 (r332 : Int32).toInt (n333 : Int32).toInt)) := xr332_2
                            have xr332_3 : Sk (fun j => sg ((fa 12 32) j).toInt) ((iv 12 33) : Int32).toInt (n319 : Int32).toInt (n336 : Int32).toInt := xr332_3
                            refine tM_12_29 hx hb hK hP hD hS (f0 := (fa 12 29)) rfl (i := k) (x := r332) (vp_in_iff.mpr ⟨by omega, by omega⟩) dX12_readName_173 (fun f337 ef337 H locs hP hD hS => ?_)
                            have hf337 : ∀ j, inb (bA 12 29 j) (f337 j) := fun j => full_i _
                            have hP9 : va_P (dC, dI) classes (WM h g ca (u2 (u2 (u2 (u2 (u2 iv 12 34 n333) 12 35 n334) 12 36 n335) 12 37 n336) 12 38 n321) lv (u2 (u2 (u2 (u2 fa 12 28 f316) 12 29 f337) 12 30 f19) 12 31 w308_a_12_31) la) H := hP
                            have hD9 : va_D A (WM h g ca (u2 (u2 (u2 (u2 (u2 iv 12 34 n333) 12 35 n334) 12 36 n335) 12 37 n336) 12 38 n321) lv (u2 (u2 (u2 (u2 fa 12 28 f316) 12 29 f337) 12 30 f19) 12 31 w308_a_12_31) la) := hD
                            exact W.vret hx hb hr (fun t ht9 hW => ⟨⟨((u2 (u2 (u2 (u2 (u2 iv 12 34 n333) 12 35 n334) 12 36 n335) 12 37 n336) 12 38 n321), lv, (u2 (u2 (u2 (u2 fa 12 28 f316) 12 29 f337) 12 30 f19) 12 31 w308_a_12_31), la), rfl, ⟨f316, f337, f19, w308_a_12_31, n333, n334, n335, n336, n321, hf19, (show inb (0, 200) n333 from ⟨by omega, by omega⟩), (show inb (0, 5) n334 from ⟨by omega, by omega⟩), (show inb (0, 200) n336 from ⟨by omega, by omega⟩), (show inb (0, 200) n321 from ⟨by omega, by omega⟩), (show (iv 12 34).toInt ≤ (n333 : Int32).toInt from by omega), (show ∀ j : Nat, j ≠ k.toNatClampNeg → f316 j = (fa 12 28) j from fun j hj => by rw [ef316, upd_ne (show j ≠ k.toNatClampNeg from hj)]), (show ∀ j : Nat, j ≠ k.toNatClampNeg → f337 j = (fa 12 29) j from fun j hj => by rw [ef337, upd_ne (show j ≠ k.toNatClampNeg from hj)]), (show ∀ j : Nat, j ≠ k.toNatClampNeg → f19 j = (fa 12 30) j from fun j hj => by rw [ef19, upd_ne (show j ≠ k.toNatClampNeg from hj)]), (show ∀ j : Nat, (j : Int) < 8 * (k).toInt → w308_a_12_31 j = (fa 12 31) j from hq309_0), (show (((n334 : Int32).toInt ≠ 0 ∧ ∃ (b v1 v2 : Int) (wd : Nat → Int), NmP (fun j => sg ((fa 12 32) j).toInt) ((iv 12 33) : Int32).toInt (iv 12 34).toInt (n334 : Int32).toInt (n335 : Int32).toInt b v1 v2 wd) ∨ ((n334 : Int32).toInt = 0 ∧ (n335 : Int32).toInt = (iv 12 36).toInt ∧ NmP (fun j => sg ((fa 12 32) j).toInt) ((iv 12 33) : Int32).toInt (iv 12 34).toInt 0 0 (n333 : Int32).toInt (f316 ((k).toInt).toNat).toInt (f337 ((k).toInt).toNat).toInt (fun j => if (j : Int) < (f19 ((k).toInt).toNat).toInt then (w308_a_12_31 (8 * ((k).toInt).toNat + j)).toInt else 0))) from (by
                                  have hE30 : f19 (k.toInt).toNat = n4 := (by rw [ef19]; exact upd_eq)
                                  have hE28 : f316 (k.toInt).toNat = r311 := (by rw [ef316]; exact upd_eq)
                                  have hw : ∀ j : Nat, j < 8 → ((j : Int) < (n2 : Int32).toInt - (n3 : Int32).toInt → (fun j : Nat => if (j : Int) < (f19 (k.toInt).toNat).toInt then (w308_a_12_31 (8 * (k.toInt).toNat + j)).toInt else 0) j = (fun j => sg (fa 12 32 j).toInt) (((n3 : Int32).toInt).toNat + j)) ∧ ((n2 : Int32).toInt - (n3 : Int32).toInt ≤ (j : Int) → (fun j : Nat => if (j : Int) < (f19 (k.toInt).toNat).toInt then (w308_a_12_31 (8 * (k.toInt).toNat + j)).toInt else 0) j = 0) := by
                                    intro j hj
                                    refine ⟨fun h9 => ?_, fun h9 => ?_⟩
                                    · show (if (j : Int) < (f19 (k.toInt).toNat).toInt then (w308_a_12_31 (8 * (k.toInt).toNat + j)).toInt else 0) = sg (fa 12 32 (((n3 : Int32).toInt).toNat + j)).toInt
                                      rw [hE30, if_pos (by omega), hq309_1 j (by omega)]
                                      have hg := sg_i (fa 12 32 (((n3 : Int32).toInt).toNat + j)).toInt
                                      have hr : 97 ≤ sg (fa 12 32 (((n3 : Int32).toInt).toNat + j)).toInt ∧ sg (fa 12 32 (((n3 : Int32).toInt).toNat + j)).toInt ≤ 122 := (xr1_3.2.1 (((n3 : Int32).toInt).toNat + j) (by omega) (by omega)).2
                                      omega
                                    · show (if (j : Int) < (f19 (k.toInt).toNat).toInt then (w308_a_12_31 (8 * (k.toInt).toNat + j)).toInt else 0) = 0
                                      rw [hE30, if_neg (by omega)]
                                  rcases xr311_2 with ⟨yn1q, -⟩ | ⟨yn1q, yn2q, yn3q⟩
                                  · exfalso; omega
                                  · have g := (xr322_0.resolve_right (fun q => by omega)).2
                                    rw [xr318_1] at g
                                    have hl9 := congrArg Int32.toInt (ev330.trans (show f316 k.toNatClampNeg = r311 from hE28))
                                    have hp9 : (v331 : Int32).toInt = (r311 : Int32).toInt + 1 := by omega
                                    rcases xr332_2 with ⟨ym1q, ym2q⟩ | ⟨ym1q, ym2q, ym3q⟩
                                    · rw [hp9] at ym2q; exact Or.inl ⟨by omega, 0, _, 0, _, _, _, xr1_2, xr1_3, Or.inr (Or.inr ⟨⟨by omega, by omega⟩, hw, _, _, _, yn3q, Or.inr ⟨rfl, _, _, xr318_2, xr318_3, Or.inr ⟨g, _, _, _, ym2q, Or.inl ⟨by omega, rfl, rfl⟩⟩⟩⟩)⟩
                                    · rw [hp9] at ym3q; have hE29 : f337 (k.toInt).toNat = r332 := (by rw [ef337]; exact upd_eq)
                                      rw [hE28, hE29]; exact Or.inr ⟨by omega, by omega, _, _, xr1_2, xr1_3, Or.inr (Or.inr ⟨⟨by omega, by omega⟩, hw, _, _, _, yn3q, Or.inr ⟨rfl, _, _, xr318_2, xr318_3, Or.inr ⟨g, _, _, _, ym3q, Or.inr ⟨rfl, rfl, rfl⟩⟩⟩⟩)⟩)), rfl⟩, by rw [ht9]; exact hP9, hD9⟩, hS.F ht9⟩) hS.2.2 dX12_readName_174
                        · skip
                          have fr328 : ¬ ((n313 : Int32).toInt = 0) := fr328
                          exfalso; omega
                  · have fc310 := z_nle (rfl : (n4).toInt = _) (rfl : (x308_2).toInt = _) c310
                    refine lv_aload_n hx hb dX12_readName_75 rfl (lv_at hl 1 rfl) ?_
                    refine gM_12_31 hx hb ht hown hK hP m_1170 dX12_readName_76 ?_
                    refine lv_bipush (v := 8) hx hb dX12_readName_79 (by decide) ?_
                    refine lv_iload_n hx hb dX12_readName_81 rfl (lv_at hl 2 rfl) ?_
                    refine lv_imul hx hb dX12_readName_82 ?_
                    refine lv_topi (fun v338 ev338 => ?_)
                    have tv338 := z_mul ev338 (by decide : (8 : Int32).toInt = 8) (rfl : (k).toInt = _) (by omega) (by omega)
                    refine lv_iload_n hx hb dX12_readName_83 rfl (lv_at hl 0 rfl) ?_
                    refine lv_iadd hx hb dX12_readName_84 ?_
                    refine lv_topi (fun v339 ev339 => ?_)
                    have tv339 := z_add ev339 (rfl : (v338).toInt = _) (rfl : (x308_2).toInt = _) (by omega) (by omega)
                    refine lv_aload_n hx hb dX12_readName_85 rfl (lv_at hl 1 rfl) ?_
                    refine gM_12_32 hx hb ht hown hK hP m_1171 dX12_readName_86 ?_
                    refine lv_aload_n hx hb dX12_readName_89 rfl (lv_at hl 1 rfl) ?_
                    refine gM_12_37 hx hb ht hown hK hP m_1176 (v := n3) rfl dX12_readName_90 ?_
                    refine lv_iload_n hx hb dX12_readName_93 rfl (lv_at hl 0 rfl) ?_
                    refine lv_iadd hx hb dX12_readName_94 ?_
                    refine lv_topi (fun v340 ev340 => ?_)
                    have tv340 := z_add ev340 (rfl : (n3).toInt = _) (rfl : (x308_2).toInt = _) (by omega) (by omega)
                    have : 0 ≤ (v340 : Int32).toInt ∧ (v340 : Int32).toInt ≤ 199 := ⟨by omega, by omega⟩
                    refine lM_12_32 hx hb hK hP (f := (fa 12 32)) rfl (vp_in_iff.mpr ⟨by omega, by omega⟩) dX12_readName_95 ?_
                    refine lv_topi (fun v341 ev341 => ?_)
                    refine tM_12_31 hx hb hK hP hD hS (f0 := w308_a_12_31) rfl (i := v339) (x := v341) (vp_in_iff.mpr ⟨by omega, by omega⟩) dX12_readName_96 (fun f342 ef342 H locs hP hD hS => ?_)
                    have hf342 : ∀ j, inb (bA 12 31 j) (f342 j) := fun j => full_i _
                    have hP : va_P (dC, dI) classes (WM h g ca (u2 (u2 (u2 iv 12 34 n2) 12 37 n3) 12 38 n4) lv (u2 (u2 fa 12 30 f19) 12 31 f342) la) H := hP
                    have hD : va_D A (WM h g ca (u2 (u2 (u2 iv 12 34 n2) 12 37 n3) 12 38 n4) lv (u2 (u2 fa 12 30 f19) 12 31 f342) la) := hD
                    obtain ⟨v343, ev343⟩ : ∃ y : Int32, y = x308_2 + 1 := ⟨_, rfl⟩
                    have tv343 := z_add ev343 rfl (by decide : (1 : Int32).toInt = 1) (by omega) (by omega)
                    refine lv_iinc (v := v343) (lv' := [(2, .int v343), (0, .ref h), (1, .int k)]) hx hb dX12_readName_97 hl (k := 0) rfl (by rw [ev343]; rfl) (by decide) rfl (fun ls hl => ?_)
                    refine lv_goto (tgt := 67) hx hb dX12_readName_100 (by decide) ?_
                    exact ih309 v343 f342 ⟨by omega, by omega⟩ hf342 (show ∀ j : Nat, (j : Int) < 8 * (k).toInt → f342 j = (fa 12 31) j from fun j hj => by rw [ef342, upd_ne (by show j ≠ (v339 : Int32).toInt.toNat; omega)]; exact hq309_0 j hj) (show ∀ j : Nat, (j : Int) < (v343 : Int32).toInt → f342 (8 * ((k).toInt).toNat + j) = (fa 12 32) (((n3 : Int32).toInt).toNat + j) from (fun j hj => by
                          by_cases hj2 : (j : Int) < (x308_2 : Int32).toInt
                          · rw [ef342, upd_ne (by show _ ≠ (v339 : Int32).toInt.toNat; omega)]; exact hq309_1 j hj2
                          · have hj4 : 8 * (k.toInt).toNat + j = (v339 : Int32).toNatClampNeg := by show _ = (v339 : Int32).toInt.toNat; omega
                            rw [hj4, ef342, upd_eq, ev341]
                            exact congrArg (fa 12 32) (by show (v340 : Int32).toInt.toNat = _; omega))) (show (v343 : Int32).toInt ≤ (n4 : Int32).toInt from by omega) (show 0 ≤ (v343 : Int32).toInt from by omega) (by omega) _ _ ls hP hD hS (lv_sub hl [0, 1, 2] rfl)
              have : (0 : Int32).toInt = 0 := (by decide)
              exact lp309 9 0 (fa 12 31) ⟨by decide, by decide⟩ (hI.2 12 31) (show ∀ j : Nat, (j : Int) < 8 * (k).toInt → (fa 12 31) j = (fa 12 31) j from fun j hj => rfl) (show ∀ j : Nat, (j : Int) < (0 : Int32).toInt → (fa 12 31) (8 * ((k).toInt).toNat + j) = (fa 12 32) (((n3 : Int32).toInt).toNat + j) from fun j hj => absurd hj (by omega)) (show (0 : Int32).toInt ≤ (n4 : Int32).toInt from by omega) (show 0 ≤ (0 : Int32).toInt from by omega) (by first | decide | omega) _ _ ls hP hD hS (lv_sub hl [0, 1, 2] rfl)
            · exact absurd c18 (by decide)
          · skip
            have fr17 : ¬ (((iv 12 35) : Int32).toInt = 0) := fr17
            exfalso; omega
    · skip
      have fr10 : ¬ (((iv 12 35) : Int32).toInt = 0) := fr10
      exfalso; omega
set_option maxHeartbeats 4000000 in
set_option maxRecDepth 100000 in
/-- X12_leastOf -/
theorem c_X12_leastOf_r (l : Launch) (dC : Nat → ClassId) (dI : Nat → Nat → Nat) (a : Int32) : Met l yX12_leastOf (wc yX12_leastOf cX12_leastOf 1 (some .int)) ({ frames := 0, cells := 0, slots := 0, locals := 0 } : Room) (pR (dC, dI) classes [] [] [.int a]) (vp_Si (fun r => (0 ≤ r.toInt ∧ r.toInt ≤ 1) ∧ ((((a.toInt = 1 ∨ a.toInt = 3) ∧ r.toInt = 1) ∨ (¬ (a.toInt = 1 ∨ a.toInt = 3) ∧ r.toInt = 0))))) 0 0 (fun _ => False) := by
  refine Met.ofW (cc := cX12_leastOf) (maxL := 1) (ret := (some .int)) (by decide) rfl ?_
  intro p e s m args below meth c s₁ B hml hv
  obtain ⟨rfl, hP, hK⟩ := hv
  have hx := B.exec
  have hb := B.bytes
  have hr := B.returns
  have ht := tb_tl (atoms_spec (ws := wc yX12_leastOf cX12_leastOf 1 (some .int)) B.pre)
  have hown : s.vm.findClass RX12 = some m.cls := findClass_of_methodNamed B.named
  have hlocks := B.notSynchronized
  have hl := lv_entry [.int a] (n := 1) (Nat.le_of_ble_eq_true rfl)
  rw [lg_entry_eq]
  generalize (lg_sl [.int a] ++ List.replicate (1 - (lg_sl [.int a]).length) Slot.unset).toArray = ls at hl ⊢
  have hl : lv_has ls 1 [(0, .int a)] := hl
  refine lv_iload_n hx hb dX12_leastOf_0 rfl (lv_at hl 0 rfl) ?_
  refine lv_iconst (v := 1) hx hb dX12_leastOf_1 (by decide) ?_
  refine lv_icmp_eq (tgt := 10) hx hb dX12_leastOf_2 (by decide) (fun c1 => ?_) (fun c1 => ?_)
  · have fc1 := z_eq (rfl : (a).toInt = _) (by decide : (1 : Int32).toInt = 1) c1
    refine lv_iconst (v := 1) hx hb dX12_leastOf_10 (by decide) ?_
    refine lv_goto (tgt := 15) hx hb dX12_leastOf_11 (by decide) ?_
    have : (1 : Int32).toInt = 1 := (by decide)
    exact W.iret (v := 1) hx hb hr (fun t ht9 hW => ⟨1, rfl, ⟨⟨by decide, by decide⟩, (show ((((a).toInt = 1 ∨ (a).toInt = 3) ∧ (1 : Int32).toInt = 1) ∨ (¬ ((a).toInt = 1 ∨ (a).toInt = 3) ∧ (1 : Int32).toInt = 0)) from by omega)⟩, ht9⟩) (fun q hq => by cases hq) dX12_leastOf_15
  · have fc1 := z_ne (rfl : (a).toInt = _) (by decide : (1 : Int32).toInt = 1) c1
    refine lv_iload_n hx hb dX12_leastOf_5 rfl (lv_at hl 0 rfl) ?_
    refine lv_iconst (v := 3) hx hb dX12_leastOf_6 (by decide) ?_
    refine lv_icmp_ne (tgt := 14) hx hb dX12_leastOf_7 (by decide) (fun c2 => ?_) (fun c2 => ?_)
    · have fc2 := z_ne (rfl : (a).toInt = _) (by decide : (3 : Int32).toInt = 3) c2
      refine lv_iconst (v := 0) hx hb dX12_leastOf_14 (by decide) ?_
      have : (0 : Int32).toInt = 0 := (by decide)
      exact W.iret (v := 0) hx hb hr (fun t ht9 hW => ⟨0, rfl, ⟨⟨by decide, by decide⟩, (show ((((a).toInt = 1 ∨ (a).toInt = 3) ∧ (0 : Int32).toInt = 1) ∨ (¬ ((a).toInt = 1 ∨ (a).toInt = 3) ∧ (0 : Int32).toInt = 0)) from by omega)⟩, ht9⟩) (fun q hq => by cases hq) dX12_leastOf_15
    · have fc2 := z_eq (rfl : (a).toInt = _) (by decide : (3 : Int32).toInt = 3) c2
      refine lv_iconst (v := 1) hx hb dX12_leastOf_10 (by decide) ?_
      refine lv_goto (tgt := 15) hx hb dX12_leastOf_11 (by decide) ?_
      have : (1 : Int32).toInt = 1 := (by decide)
      exact W.iret (v := 1) hx hb hr (fun t ht9 hW => ⟨1, rfl, ⟨⟨by decide, by decide⟩, (show ((((a).toInt = 1 ∨ (a).toInt = 3) ∧ (1 : Int32).toInt = 1) ∨ (¬ ((a).toInt = 1 ∨ (a).toInt = 3) ∧ (1 : Int32).toInt = 0)) from by omega)⟩, ht9⟩) (fun q hq => by cases hq) dX12_leastOf_15
set_option maxHeartbeats 4000000 in
set_option maxRecDepth 100000 in
/-- X12_mostOf -/
theorem c_X12_mostOf_r (l : Launch) (dC : Nat → ClassId) (dI : Nat → Nat → Nat) (a : Int32) : Met l yX12_mostOf (wc yX12_mostOf cX12_mostOf 1 (some .int)) ({ frames := 0, cells := 0, slots := 0, locals := 0 } : Room) (pR (dC, dI) classes [] [] [.int a]) (vp_Si (fun r => (2 ≤ r.toInt ∧ r.toInt ≤ 999) ∧ (((a.toInt = 0 ∧ r.toInt = 300) ∨ (a.toInt = 1 ∧ r.toInt = 9) ∨ (a.toInt = 2 ∧ r.toInt = 200) ∨ (a.toInt = 3 ∧ r.toInt = 2) ∨ ((a.toInt < 0 ∨ 3 < a.toInt) ∧ r.toInt = 999))))) 0 0 (fun _ => False) := by
  refine Met.ofW (cc := cX12_mostOf) (maxL := 1) (ret := (some .int)) (by decide) rfl ?_
  intro p e s m args below meth c s₁ B hml hv
  obtain ⟨rfl, hP, hK⟩ := hv
  have hx := B.exec
  have hb := B.bytes
  have hr := B.returns
  have ht := tb_tl (atoms_spec (ws := wc yX12_mostOf cX12_mostOf 1 (some .int)) B.pre)
  have hown : s.vm.findClass RX12 = some m.cls := findClass_of_methodNamed B.named
  have hlocks := B.notSynchronized
  have hl := lv_entry [.int a] (n := 1) (Nat.le_of_ble_eq_true rfl)
  rw [lg_entry_eq]
  generalize (lg_sl [.int a] ++ List.replicate (1 - (lg_sl [.int a]).length) Slot.unset).toArray = ls at hl ⊢
  have hl : lv_has ls 1 [(0, .int a)] := hl
  refine lv_iload_n hx hb dX12_mostOf_0 rfl (lv_at hl 0 rfl) ?_
  rcases sw_0_3 a with h1 | rfl | rfl | rfl | rfl
  · refine lv_tableOut (tgt := 45) hx hb dX12_mostOf_1 h1 (by decide) ?_
    refine lv_sipush (v := 999) hx hb dX12_mostOf_45 (by decide) ?_
    have : (999 : Int32).toInt = 999 := (by decide)
    exact W.iret (v := 999) hx hb hr (fun t ht9 hW => ⟨999, rfl, ⟨⟨by decide, by decide⟩, (show (((a).toInt = 0 ∧ (999 : Int32).toInt = 300) ∨ ((a).toInt = 1 ∧ (999 : Int32).toInt = 9) ∨ ((a).toInt = 2 ∧ (999 : Int32).toInt = 200) ∨ ((a).toInt = 3 ∧ (999 : Int32).toInt = 2) ∨ (((a).toInt < 0 ∨ 3 < (a).toInt) ∧ (999 : Int32).toInt = 999)) from by omega)⟩, ht9⟩) (fun q hq => by cases hq) dX12_mostOf_48
  · refine lv_tableIn (tgt := 32) (off := 31) hx hb dX12_mostOf_1 (by decide) (by decide) rfl (by decide) ?_
    refine lv_sipush (v := 300) hx hb dX12_mostOf_32 (by decide) ?_
    have : (0 : Int32).toInt = 0 := (by decide)
    have : (300 : Int32).toInt = 300 := (by decide)
    exact W.iret (v := 300) hx hb hr (fun t ht9 hW => ⟨300, rfl, ⟨⟨by decide, by decide⟩, (show (((0 : Int32).toInt = 0 ∧ (300 : Int32).toInt = 300) ∨ ((0 : Int32).toInt = 1 ∧ (300 : Int32).toInt = 9) ∨ ((0 : Int32).toInt = 2 ∧ (300 : Int32).toInt = 200) ∨ ((0 : Int32).toInt = 3 ∧ (300 : Int32).toInt = 2) ∨ (((0 : Int32).toInt < 0 ∨ 3 < (0 : Int32).toInt) ∧ (300 : Int32).toInt = 999)) from by omega)⟩, ht9⟩) (fun q hq => by cases hq) dX12_mostOf_35
  · refine lv_tableIn (tgt := 36) (off := 35) hx hb dX12_mostOf_1 (by decide) (by decide) rfl (by decide) ?_
    refine lv_bipush (v := 9) hx hb dX12_mostOf_36 (by decide) ?_
    have : (1 : Int32).toInt = 1 := (by decide)
    have : (9 : Int32).toInt = 9 := (by decide)
    exact W.iret (v := 9) hx hb hr (fun t ht9 hW => ⟨9, rfl, ⟨⟨by decide, by decide⟩, (show (((1 : Int32).toInt = 0 ∧ (9 : Int32).toInt = 300) ∨ ((1 : Int32).toInt = 1 ∧ (9 : Int32).toInt = 9) ∨ ((1 : Int32).toInt = 2 ∧ (9 : Int32).toInt = 200) ∨ ((1 : Int32).toInt = 3 ∧ (9 : Int32).toInt = 2) ∨ (((1 : Int32).toInt < 0 ∨ 3 < (1 : Int32).toInt) ∧ (9 : Int32).toInt = 999)) from by omega)⟩, ht9⟩) (fun q hq => by cases hq) dX12_mostOf_38
  · refine lv_tableIn (tgt := 39) (off := 38) hx hb dX12_mostOf_1 (by decide) (by decide) rfl (by decide) ?_
    refine lv_sipush (v := 200) hx hb dX12_mostOf_39 (by decide) ?_
    have : (2 : Int32).toInt = 2 := (by decide)
    have : (200 : Int32).toInt = 200 := (by decide)
    exact W.iret (v := 200) hx hb hr (fun t ht9 hW => ⟨200, rfl, ⟨⟨by decide, by decide⟩, (show (((2 : Int32).toInt = 0 ∧ (200 : Int32).toInt = 300) ∨ ((2 : Int32).toInt = 1 ∧ (200 : Int32).toInt = 9) ∨ ((2 : Int32).toInt = 2 ∧ (200 : Int32).toInt = 200) ∨ ((2 : Int32).toInt = 3 ∧ (200 : Int32).toInt = 2) ∨ (((2 : Int32).toInt < 0 ∨ 3 < (2 : Int32).toInt) ∧ (200 : Int32).toInt = 999)) from by omega)⟩, ht9⟩) (fun q hq => by cases hq) dX12_mostOf_42
  · refine lv_tableIn (tgt := 43) (off := 42) hx hb dX12_mostOf_1 (by decide) (by decide) rfl (by decide) ?_
    refine lv_iconst (v := 2) hx hb dX12_mostOf_43 (by decide) ?_
    have : (3 : Int32).toInt = 3 := (by decide)
    have : (2 : Int32).toInt = 2 := (by decide)
    exact W.iret (v := 2) hx hb hr (fun t ht9 hW => ⟨2, rfl, ⟨⟨by decide, by decide⟩, (show (((3 : Int32).toInt = 0 ∧ (2 : Int32).toInt = 300) ∨ ((3 : Int32).toInt = 1 ∧ (2 : Int32).toInt = 9) ∨ ((3 : Int32).toInt = 2 ∧ (2 : Int32).toInt = 200) ∨ ((3 : Int32).toInt = 3 ∧ (2 : Int32).toInt = 2) ∨ (((3 : Int32).toInt < 0 ∨ 3 < (3 : Int32).toInt) ∧ (2 : Int32).toInt = 999)) from by omega)⟩, ht9⟩) (fun q hq => by cases hq) dX12_mostOf_44
theorem loN_e {a r : Int} (h : ((a = 1 ∨ a = 3) ∧ r = 1) ∨ (¬ (a = 1 ∨ a = 3) ∧ r = 0)) : r = loN a := by
  unfold loN; split
  · omega
  · omega
theorem hiN_e {a r : Int} (h : (a = 0 ∧ r = 300) ∨ (a = 1 ∧ r = 9) ∨ (a = 2 ∧ r = 200) ∨ (a = 3 ∧ r = 2) ∨ ((a < 0 ∨ 3 < a) ∧ r = 999)) : r = hiN a := by
  unfold hiN; split
  · omega
  · split
    · omega
    · split
      · omega
      · split
        · omega
        · omega
