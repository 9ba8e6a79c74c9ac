/-! ===== re4 ===== -/
set_option maxHeartbeats 4000000 in
set_option maxRecDepth 100000 in
/-- X12_readClause -/
theorem c_X12_readClause_r0 (l : Launch) (dC : Nat → ClassId) (dI : Nat → Nat → Nat) (sz : Nat) (h : Nat) (g : Nat → Nat → Nat) (ca : Nat → Nat → ClassId) (iv : Nat → Nat → Int32) (lv : Nat → Nat → Int64) (fa : Nat → Nat → Nat → Int32) (la : Nat → Nat → Nat → Int64) (hI : IX iv fa) (k : Int32) (q_12_35 : 0 ≤ (iv 12 35).toInt ∧ (iv 12 35).toInt ≤ 0) (h_k : 0 ≤ k.toInt ∧ k.toInt ≤ 95) (hJT : ∀ j : Nat, 0 ≤ (fa 12 32 j).toInt) : Met l yX12_readClause (wc yX12_readClause cX12_readClause 4 none) ({ frames := 2, cells := 0, slots := 0, locals := 50 } : Room) (pW (dC, dI) classes (WM h g ca iv lv fa la) (TM ca) sz [.ref h, .int 0, .int k]) (va_Qv (fun (u : SS) => ∃ (na_12_26 : Nat → Int32) (na_12_27 : Nat → Int32) (na_12_28 : Nat → Int32) (na_12_30 : Nat → Int32) (ni_12_34 : Int32) (ni_12_35 : Int32) (ni_12_36 : Int32) (ni_12_37 : Int32) (ni_12_38 : Int32), (∀ j, inb (bA 12 30 j) (na_12_30 j)) ∧ inb (bI 12 34) ni_12_34 ∧ inb (bI 12 35) ni_12_35 ∧ inb (bI 12 37) ni_12_37 ∧ inb (bI 12 38) ni_12_38 ∧ ((iv 12 34).toInt ≤ (ni_12_34).toInt) ∧ (∀ j : Nat, j ≠ k.toNatClampNeg → na_12_26 j = (fa 12 26) j ∧ na_12_27 j = (fa 12 27) j ∧ na_12_28 j = (fa 12 28) j) ∧ (((ni_12_35).toInt ≠ 0 ∨ gd3 (na_12_26 k.toNatClampNeg) (na_12_27 k.toNatClampNeg) (na_12_28 k.toNatClampNeg))) ∧ (∀ j : Nat, j ≠ k.toNatClampNeg → (fa 12 29) j = (fa 12 29) j ∧ na_12_30 j = (fa 12 30) j) ∧ (∀ j : Nat, (j : Int) < 8 * k.toInt → (fa 12 31) j = (fa 12 31) j) ∧ (na_12_26 (k.toInt).toNat = 0) ∧ ((((ni_12_35).toInt ≠ 0 ∧ ∃ b kd v1 : Int, LetR (fun j => sg ((fa 12 32) j).toInt) (iv 12 33).toInt (iv 12 34).toInt (ni_12_35).toInt (ni_12_36).toInt b kd v1) ∨ ((ni_12_35).toInt = 0 ∧ (ni_12_36).toInt = (iv 12 36).toInt ∧ LetR (fun j => sg ((fa 12 32) j).toInt) (iv 12 33).toInt (iv 12 34).toInt 0 0 (ni_12_34).toInt (na_12_27 (k.toInt).toNat).toInt (na_12_28 (k.toInt).toNat).toInt))) ∧ u = ((u2 (u2 (u2 (u2 (u2 iv 12 34 ni_12_34) 12 35 ni_12_35) 12 36 ni_12_36) 12 37 ni_12_37) 12 38 ni_12_38), lv, (u2 (u2 (u2 (u2 fa 12 26 na_12_26) 12 27 na_12_27) 12 28 na_12_28) 12 30 na_12_30), la)) (bM (dC, dI) h g ca (va_A (WM h g ca iv lv fa la) sz)) (va_A (WM h g ca iv lv fa la) sz)) 0 0 (va_A (WM h g ca iv lv fa la) sz) := by
  refine Met.ofW (cc := cX12_readClause) (maxL := 4) (ret := none) (by decide) rfl ?_
  intro p e s m args below meth c s₁ B hml hv
  obtain ⟨rfl, hsz, hP, hK, hD0⟩ := hv
  have hx := B.exec
  have hb := B.bytes
  have hr := B.returns
  have ht := tb_tl (atoms_spec (ws := wc yX12_readClause cX12_readClause 4 none) B.pre)
  have hown : s.vm.findClass RX12 = some m.cls := findClass_of_methodNamed B.named
  have hlocks := B.notSynchronized
  subst hsz
  have hD := hD0.self (sz := s.heap.size)
  generalize hAe : va_A (WM h g ca iv lv fa la) s.heap.size = A at hD ⊢
  have hA : ∀ q : Nat, s.heap.size ≤ q → A q := fun q h => by rw [← hAe]; exact Or.inr h
  have hS : va_S A s.heap s.heap [] := va_S.rf
  have hl := lv_entry [.ref h, .int 0, .int k] (n := 4) (Nat.le_of_ble_eq_true rfl)
  rw [lg_entry_eq]
  generalize (lg_sl [.ref h, .int 0, .int k] ++ List.replicate (4 - (lg_sl [.ref h, .int 0, .int k]).length) Slot.unset).toArray = ls at hl ⊢
  have hl : lv_has ls 4 [(0, .ref h), (1, .int 0), (2, .int k)] := hl
  refine lv_aload_n hx hb dX12_readClause_0 rfl (lv_at hl 0 rfl) ?_
  refine gM_12_26 hx hb ht hown hK hP m_1165 dX12_readClause_1 ?_
  refine lv_iload_n hx hb dX12_readClause_4 rfl (lv_at hl 2 rfl) ?_
  refine lv_iload_n hx hb dX12_readClause_5 rfl (lv_at hl 1 rfl) ?_
  refine tM_12_26 hx hb hK hP hD hS (f0 := (fa 12 26)) rfl (i := k) (x := 0) (vp_in_iff.mpr ⟨by omega, by omega⟩) dX12_readClause_6 (fun f1 ef1 H locs hP hD hS => ?_)
  have hf1 : ∀ j, inb (bA 12 26 j) (f1 j) := fun j => full_i _
  refine lv_aload_n hx hb dX12_readClause_7 rfl (lv_at hl 0 rfl) ?_
  refine gM_12_30 hx hb ht hown hK hP m_1169 dX12_readClause_8 ?_
  refine lv_iload_n hx hb dX12_readClause_11 rfl (lv_at hl 2 rfl) ?_
  refine lv_iconst (v := 0) hx hb dX12_readClause_12 (by decide) ?_
  refine tM_12_30 hx hb hK hP hD hS (f0 := (fa 12 30)) rfl (i := k) (x := 0) (vp_in_iff.mpr ⟨by omega, by omega⟩) dX12_readClause_13 (fun f2 ef2 H locs hP hD hS => ?_)
  have hf2 : ∀ j, inb (bA 12 30 j) (f2 j) := by rw [ef2]; exact upd_b (b := bA 12 30) (hI.2 12 30) (show inb (0, 8) 0 from ⟨by decide, by decide⟩)
  refine lv_iload_n hx hb dX12_readClause_14 rfl (lv_at hl 1 rfl) ?_
  refine lv_if_ne (tgt := 89) hx hb dX12_readClause_15 (by decide) (fun c3 => ?_) (fun c3 => ?_)
  · exact absurd rfl c3
  · skip
    refine lv_aload_n hx hb dX12_readClause_18 rfl (lv_at hl 0 rfl) ?_
    have i_12_34 : 0 ≤ (iv 12 34).toInt ∧ (iv 12 34).toInt ≤ 200 := hI.1 12 34
    have hFc := free_all hD hS hA
    refine va_callv (va_runV (As := []) (rest := []) ⟨hx, hb, hml, hown, ht⟩ (c_X12_takeWord_r l dC dI H.size h g ca iv lv (u2 (u2 fa 12 26 f1) 12 30 f2) la (IX_a (c := 12) (k := 30) (IX_a (c := 12) (k := 26) hI hf1) hf2)) (kV 0 ht m_1462 m_1464 m_48 m_89 m_1465 rfl rfl hd_X12_takeWord_v ⟨Nat.le_of_ble_eq_true rfl, Nat.le_of_ble_eq_true rfl⟩) (vW hP hK hD (rM_12 hK hP)) rfl rfl hl.1 rfl (lv_room (Nat.le_of_ble_eq_true rfl)) dX12_readClause_19 ⟨Nat.le_of_ble_eq_true rfl, Nat.le_of_ble_eq_true rfl⟩) hS (fun q _ h => hFc q h) hFc (fun u t H1 locs ht9 hvm hr4 hB hz1 hk1 hS => ?_)
    obtain ⟨n5, n6, n7, hn5, hn6, hn7, xr4_0, xr4_1, xr4_2, xr4_3, rfl⟩ := hr4
    have hn5 : 0 ≤ n5.toInt ∧ n5.toInt ≤ 200 := hn5
    have hn6 : 0 ≤ n6.toInt ∧ n6.toInt ≤ 200 := hn6
    have hn7 : 0 ≤ n7.toInt ∧ n7.toInt ≤ 200 := hn7
    obtain ⟨hP, hD⟩ := hB
    rw [ht9] at hP
    generalize H1 = H at hP hS ⊢
    have hP : va_P (dC, dI) classes (WM h g ca (u2 (u2 (u2 iv 12 34 n5) 12 37 n6) 12 38 n7) lv (u2 (u2 fa 12 26 f1) 12 30 f2) la) H := hP
    have hD : va_D A (WM h g ca (u2 (u2 (u2 iv 12 34 n5) 12 37 n6) 12 38 n7) lv (u2 (u2 fa 12 26 f1) 12 30 f2) la) := (show va_D _ (WM h g ca (u2 (u2 (u2 iv 12 34 n5) 12 37 n6) 12 38 n7) lv (u2 (u2 fa 12 26 f1) 12 30 f2) la) from hD).weaken (fun _ _ _ h => hFc _ h)
    have xr4_0 : ((iv 12 34) : Int32).toInt ≤ (n6 : Int32).toInt := xr4_0
    have xr4_1 : (n6 : Int32).toInt + (n7 : Int32).toInt = (n5 : Int32).toInt := xr4_1
    have i_12_33 : 0 ≤ (iv 12 33).toInt ∧ (iv 12 33).toInt ≤ 200 := hI.1 12 33
    have xr4_2 : Sk (fun j => sg ((fa 12 32) j).toInt) ((iv 12 33) : Int32).toInt ((iv 12 34) : Int32).toInt (n6 : Int32).toInt := xr4_2
    have xr4_3 : Rn (fun j => sg ((fa 12 32) j).toInt) ((iv 12 33) : Int32).toInt 97 122 (n6 : Int32).toInt (n5 : Int32).toInt := xr4_3
    refine lv_aload_n hx hb dX12_readClause_22 rfl (lv_at hl 0 rfl) ?_
    refine gM_12_27 hx hb ht hown hK hP m_1166 dX12_readClause_23 ?_
    refine lv_iload_n hx hb dX12_readClause_26 rfl (lv_at hl 2 rfl) ?_
    refine lv_aload_n hx hb dX12_readClause_27 rfl (lv_at hl 0 rfl) ?_
    refine vp_callSi (W.runV (As := []) (rest := [.int k, .ref (g 12 27)]) ⟨hx, hb, hml, hown, ht⟩ (c_X12_letOf_r l dC dI h g ca (u2 (u2 (u2 iv 12 34 n5) 12 37 n6) 12 38 n7) lv (u2 (u2 fa 12 26 f1) 12 30 f2) la (IX_a (c := 12) (k := 30) (IX_a (c := 12) (k := 26) (IX_i (c := 12) (k := 38) (IX_i (c := 12) (k := 37) (IX_i (c := 12) (k := 34) hI (show inb (0, 200) n5 from ⟨by omega, by omega⟩)) (show inb (0, 200) n6 from ⟨by omega, by omega⟩)) (show inb (0, 200) n7 from ⟨by omega, by omega⟩)) hf1) hf2) (show (n6 : Int32).toInt + (n7 : Int32).toInt ≤ 200 from by omega)) (kV 0 ht m_1480 m_1482 m_52 m_89 m_1483 rfl rfl hd_X12_letOf_v ⟨Nat.le_of_ble_eq_true rfl, Nat.le_of_ble_eq_true rfl⟩) (vR hP hK (rM_12 hK hP)) rfl rfl hl.1 rfl (lv_room (Nat.le_of_ble_eq_true rfl)) dX12_readClause_28 ⟨Nat.le_of_ble_eq_true rfl, Nat.le_of_ble_eq_true rfl⟩) (fun r8 hr8 => ?_)
    obtain ⟨hr8, xr8_0⟩ := hr8
    have xr8_0 : (r8 : Int32).toInt = kwN (fun j => sg ((fa 12 32) j).toInt) (n6 : Int32).toInt ((n6 : Int32).toInt + (n7 : Int32).toInt) := xr8_0
    refine tM_12_27 hx hb hK hP hD hS (f0 := (fa 12 27)) rfl (i := k) (x := r8) (vp_in_iff.mpr ⟨by omega, by omega⟩) dX12_readClause_31 (fun f9 ef9 H locs hP hD hS => ?_)
    have hf9 : ∀ j, inb (bA 12 27 j) (f9 j) := fun j => full_i _
    refine lv_aload_n hx hb dX12_readClause_32 rfl (lv_at hl 0 rfl) ?_
    refine lv_aload_n hx hb dX12_readClause_33 rfl (lv_at hl 0 rfl) ?_
    refine gM_12_27 hx hb ht hown hK hP m_1166 dX12_readClause_34 ?_
    refine lv_iload_n hx hb dX12_readClause_37 rfl (lv_at hl 2 rfl) ?_
    refine lM_12_27 hx hb hK hP (f := f9) rfl (vp_in_iff.mpr ⟨by omega, by omega⟩) dX12_readClause_38 ?_
    refine lv_topi (fun v10 ev10 => ?_)
    refine lv_if_lt (tgt := 46) hx hb dX12_readClause_39 (by decide) (fun c11 => ?_) (fun c11 => ?_)
    · have fc11 := z_lt (rfl : (v10).toInt = _) (by decide : (0 : Int32).toInt = 0) c11
      refine lv_iconst (v := 0) hx hb dX12_readClause_46 (by decide) ?_
      refine lv_iconst (v := 1) hx hb dX12_readClause_47 (by decide) ?_
      refine lv_aload_n hx hb dX12_readClause_48 rfl (lv_at hl 0 rfl) ?_
      refine gM_12_37 hx hb ht hown hK hP m_1176 (v := n6) rfl dX12_readClause_49 ?_
      have i_12_35 : 0 ≤ (iv 12 35).toInt ∧ (iv 12 35).toInt ≤ 5 := hI.1 12 35
      have hFc := free_all hD hS hA
      refine va_calli (va_runV (As := [.int 0, .int 1, .int n6]) (rest := []) ⟨hx, hb, hml, hown, ht⟩ (c_X12_want_r0 l dC dI H.size h g ca (u2 (u2 (u2 iv 12 34 n5) 12 37 n6) 12 38 n7) lv (u2 (u2 (u2 fa 12 26 f1) 12 30 f2) 12 27 f9) la (IX_a (c := 12) (k := 27) (IX_a (c := 12) (k := 30) (IX_a (c := 12) (k := 26) (IX_i (c := 12) (k := 38) (IX_i (c := 12) (k := 37) (IX_i (c := 12) (k := 34) hI (show inb (0, 200) n5 from ⟨by omega, by omega⟩)) (show inb (0, 200) n6 from ⟨by omega, by omega⟩)) (show inb (0, 200) n7 from ⟨by omega, by omega⟩)) hf1) hf2) hf9) 1 n6 ⟨by decide, by decide⟩) (kV 3 ht m_1472 m_1474 m_50 m_89 m_1475 rfl rfl hd_X12_want_v ⟨Nat.le_of_ble_eq_true rfl, Nat.le_of_ble_eq_true rfl⟩) (vW hP hK hD (rM_12 hK hP)) rfl rfl hl.1 rfl (lv_room (Nat.le_of_ble_eq_true rfl)) dX12_readClause_52 ⟨Nat.le_of_ble_eq_true rfl, Nat.le_of_ble_eq_true rfl⟩) hS (fun q _ h => hFc q h) hFc (fun r12 u t H1 locs ht9 hvm hr12 hB hz1 hk1 hS => ?_)
      obtain ⟨n13, n14, hn13, xr12_0, xr12_1, hr12, rfl⟩ := hr12
      have hn13 : 0 ≤ n13.toInt ∧ n13.toInt ≤ 5 := hn13
      obtain ⟨hP, hD⟩ := hB
      rw [ht9] at hP
      generalize H1 = H at hP hS ⊢
      have hP : va_P (dC, dI) classes (WM h g ca (u2 (u2 (u2 (u2 (u2 iv 12 34 n5) 12 37 n6) 12 38 n7) 12 35 n13) 12 36 n14) lv (u2 (u2 (u2 fa 12 26 f1) 12 30 f2) 12 27 f9) la) H := hP
      have hD : va_D A (WM h g ca (u2 (u2 (u2 (u2 (u2 iv 12 34 n5) 12 37 n6) 12 38 n7) 12 35 n13) 12 36 n14) lv (u2 (u2 (u2 fa 12 26 f1) 12 30 f2) 12 27 f9) la) := (show va_D _ (WM h g ca (u2 (u2 (u2 (u2 (u2 iv 12 34 n5) 12 37 n6) 12 38 n7) 12 35 n13) 12 36 n14) lv (u2 (u2 (u2 fa 12 26 f1) 12 30 f2) 12 27 f9) la) from hD).weaken (fun _ _ _ h => hFc _ h)
      have xr12_0 : 1 ≤ (n13 : Int32).toInt := xr12_0
      have : (1 : Int32).toInt = 1 := (by decide)
      have xr12_1 : ((((iv 12 35) : Int32).toInt = 0 ∧ (n13 : Int32).toInt = (1 : Int32).toInt ∧ (n14 : Int32).toInt = (n6 : Int32).toInt) ∨ (((iv 12 35) : Int32).toInt ≠ 0 ∧ (n13 : Int32).toInt = ((iv 12 35) : Int32).toInt ∧ (n14 : Int32).toInt = ((iv 12 36) : Int32).toInt)) := xr12_1
      obtain rfl : 0 = r12 := hr12.symm
      refine lv_if_eq (tgt := 257) hx hb dX12_readClause_55 (by decide) (fun c15 => ?_) (fun c15 => ?_)
      · skip
        refine lv_aload_n hx hb dX12_readClause_257 rfl (lv_at hl 0 rfl) ?_
        have hFc := free_all hD hS hA
        refine va_calli (va_runV (As := []) (rest := []) ⟨hx, hb, hml, hown, ht⟩ (c_X12_here_r l dC dI H.size h g ca (u2 (u2 (u2 (u2 (u2 iv 12 34 n5) 12 37 n6) 12 38 n7) 12 35 n13) 12 36 n14) lv (u2 (u2 (u2 fa 12 26 f1) 12 30 f2) 12 27 f9) la (IX_a (c := 12) (k := 27) (IX_a (c := 12) (k := 30) (IX_a (c := 12) (k := 26) (IX_i (c := 12) (k := 36) (IX_i (c := 12) (k := 35) (IX_i (c := 12) (k := 38) (IX_i (c := 12) (k := 37) (IX_i (c := 12) (k := 34) hI (show inb (0, 200) n5 from ⟨by omega, by omega⟩)) (show inb (0, 200) n6 from ⟨by omega, by omega⟩)) (show inb (0, 200) n7 from ⟨by omega, by omega⟩)) (show inb (0, 5) n13 from ⟨by omega, by omega⟩)) (full_i _)) hf1) hf2) hf9)) (kV 0 ht m_1458 m_1460 m_47 m_89 m_1461 rfl rfl hd_X12_here_v ⟨Nat.le_of_ble_eq_true rfl, Nat.le_of_ble_eq_true rfl⟩) (vW hP hK hD (rM_12 hK hP)) rfl rfl hl.1 rfl (lv_room (Nat.le_of_ble_eq_true rfl)) dX12_readClause_258 ⟨Nat.le_of_ble_eq_true rfl, Nat.le_of_ble_eq_true rfl⟩) hS (fun q _ h => hFc q h) hFc (fun r16 u t H1 locs ht9 hvm hr16 hB hz1 hk1 hS => ?_)
        obtain ⟨n17, hn17, xr16_0, xr16_1, xr16_2, hr16, rfl⟩ := hr16
        have hn17 : 0 ≤ n17.toInt ∧ n17.toInt ≤ 200 := hn17
        obtain ⟨hP, hD⟩ := hB
        rw [ht9] at hP
        generalize H1 = H at hP hS ⊢
        have hP : va_P (dC, dI) classes (WM h g ca (u2 (u2 (u2 (u2 (u2 iv 12 34 n17) 12 37 n6) 12 38 n7) 12 35 n13) 12 36 n14) lv (u2 (u2 (u2 fa 12 26 f1) 12 30 f2) 12 27 f9) la) H := hP
        have hD : va_D A (WM h g ca (u2 (u2 (u2 (u2 (u2 iv 12 34 n17) 12 37 n6) 12 38 n7) 12 35 n13) 12 36 n14) lv (u2 (u2 (u2 fa 12 26 f1) 12 30 f2) 12 27 f9) la) := (show va_D _ (WM h g ca (u2 (u2 (u2 (u2 (u2 iv 12 34 n17) 12 37 n6) 12 38 n7) 12 35 n13) 12 36 n14) lv (u2 (u2 (u2 fa 12 26 f1) 12 30 f2) 12 27 f9) la) from hD).weaken (fun _ _ _ h => hFc _ h)
        have xr16_0 : (n5 : Int32).toInt ≤ (n17 : Int32).toInt := xr16_0
        have xr16_1 : Sk (fun j => sg ((fa 12 32) j).toInt) ((iv 12 33) : Int32).toInt (n5 : Int32).toInt (n17 : Int32).toInt := xr16_1
        have xr16_2 : (((r16 : Int32).toInt = -1 ∧ ((iv 12 33) : Int32).toInt ≤ (n17 : Int32).toInt) ∨ ((n17 : Int32).toInt < ((iv 12 33) : Int32).toInt ∧ (r16 : Int32).toInt = ((fa 12 32) ((n17 : Int32).toInt).toNat).toInt)) := xr16_2
        refine lv_istore_n (lv' := [(3, .int r16), (0, .ref h), (1, .int 0), (2, .int k)]) hx hb dX12_readClause_261 rfl hl (by decide) rfl (fun ls hl => ?_)
        refine lv_aload_n hx hb dX12_readClause_262 rfl (lv_at hl 1 rfl) ?_
        refine lv_iload_n hx hb dX12_readClause_263 rfl (lv_at hl 0 rfl) ?_
        refine lv_bipush (v := 59) hx hb dX12_readClause_264 (by decide) ?_
        refine lv_icmp_ne (tgt := 273) hx hb dX12_readClause_266 (by decide) (fun c18 => ?_) (fun c18 => ?_)
        · have fc18 := z_ne (rfl : (r16).toInt = _) (by decide : (59 : Int32).toInt = 59) c18
          refine lv_iconst (v := 0) hx hb dX12_readClause_273 (by decide) ?_
          refine lv_iconst (v := 1) hx hb dX12_readClause_274 (by decide) ?_
          refine lv_aload_n hx hb dX12_readClause_275 rfl (lv_at hl 1 rfl) ?_
          refine gM_12_34 hx hb ht hown hK hP m_1173 (v := n17) rfl dX12_readClause_276 ?_
          have hFc := free_all hD hS hA
          refine va_calli (va_runV (As := [.int 0, .int 1, .int n17]) (rest := []) ⟨hx, hb, hml, hown, ht⟩ (c_X12_want_r0 l dC dI H.size h g ca (u2 (u2 (u2 (u2 (u2 iv 12 34 n17) 12 37 n6) 12 38 n7) 12 35 n13) 12 36 n14) lv (u2 (u2 (u2 fa 12 26 f1) 12 30 f2) 12 27 f9) la (IX_a (c := 12) (k := 27) (IX_a (c := 12) (k := 30) (IX_a (c := 12) (k := 26) (IX_i (c := 12) (k := 36) (IX_i (c := 12) (k := 35) (IX_i (c := 12) (k := 38) (IX_i (c := 12) (k := 37) (IX_i (c := 12) (k := 34) hI (show inb (0, 200) n17 from ⟨by omega, by omega⟩)) (show inb (0, 200) n6 from ⟨by omega, by omega⟩)) (show inb (0, 200) n7 from ⟨by omega, by omega⟩)) (show inb (0, 5) n13 from ⟨by omega, by omega⟩)) (full_i _)) hf1) hf2) hf9) 1 n17 ⟨by decide, by decide⟩) (kV 3 ht m_1472 m_1474 m_50 m_89 m_1475 rfl rfl hd_X12_want_v ⟨Nat.le_of_ble_eq_true rfl, Nat.le_of_ble_eq_true rfl⟩) (vW hP hK hD (rM_12 hK hP)) rfl rfl hl.1 rfl (lv_room (Nat.le_of_ble_eq_true rfl)) dX12_readClause_279 ⟨Nat.le_of_ble_eq_true rfl, Nat.le_of_ble_eq_true rfl⟩) hS (fun q _ h => hFc q h) hFc (fun r19 u t H1 locs ht9 hvm hr19 hB hz1 hk1 hS => ?_)
          obtain ⟨n20, n21, hn20, xr19_0, xr19_1, hr19, rfl⟩ := hr19
          have hn20 : 0 ≤ n20.toInt ∧ n20.toInt ≤ 5 := hn20
          obtain ⟨hP, hD⟩ := hB
          rw [ht9] at hP
          generalize H1 = H at hP hS ⊢
          have hP : va_P (dC, dI) classes (WM h g ca (u2 (u2 (u2 (u2 (u2 iv 12 34 n17) 12 37 n6) 12 38 n7) 12 35 n20) 12 36 n21) lv (u2 (u2 (u2 fa 12 26 f1) 12 30 f2) 12 27 f9) la) H := hP
          have hD : va_D A (WM h g ca (u2 (u2 (u2 (u2 (u2 iv 12 34 n17) 12 37 n6) 12 38 n7) 12 35 n20) 12 36 n21) lv (u2 (u2 (u2 fa 12 26 f1) 12 30 f2) 12 27 f9) la) := (show va_D _ (WM h g ca (u2 (u2 (u2 (u2 (u2 iv 12 34 n17) 12 37 n6) 12 38 n7) 12 35 n20) 12 36 n21) lv (u2 (u2 (u2 fa 12 26 f1) 12 30 f2) 12 27 f9) la) from hD).weaken (fun _ _ _ h => hFc _ h)
          have xr19_0 : 1 ≤ (n20 : Int32).toInt := xr19_0
          have xr19_1 : (((n13 : Int32).toInt = 0 ∧ (n20 : Int32).toInt = (1 : Int32).toInt ∧ (n21 : Int32).toInt = (n17 : Int32).toInt) ∨ ((n13 : Int32).toInt ≠ 0 ∧ (n20 : Int32).toInt = (n13 : Int32).toInt ∧ (n21 : Int32).toInt = (n14 : Int32).toInt)) := xr19_1
          obtain rfl : 0 = r19 := hr19.symm
          refine lv_if_eq (tgt := 295) hx hb dX12_readClause_282 (by decide) (fun c22 => ?_) (fun c22 => ?_)
          · skip
            have hP9 : va_P (dC, dI) classes (WM h g ca (u2 (u2 (u2 (u2 (u2 iv 12 34 n17) 12 35 n20) 12 36 n21) 12 37 n6) 12 38 n7) lv (u2 (u2 (u2 (u2 fa 12 26 f1) 12 27 f9) 12 28 (fa 12 28)) 12 30 f2) la) H := hP
            have hD9 : va_D A (WM h g ca (u2 (u2 (u2 (u2 (u2 iv 12 34 n17) 12 35 n20) 12 36 n21) 12 37 n6) 12 38 n7) lv (u2 (u2 (u2 (u2 fa 12 26 f1) 12 27 f9) 12 28 (fa 12 28)) 12 30 f2) la) := hD
            exact W.vret hx hb hr (fun t ht9 hW => ⟨⟨((u2 (u2 (u2 (u2 (u2 iv 12 34 n17) 12 35 n20) 12 36 n21) 12 37 n6) 12 38 n7), lv, (u2 (u2 (u2 (u2 fa 12 26 f1) 12 27 f9) 12 28 (fa 12 28)) 12 30 f2), la), rfl, ⟨f1, f9, (fa 12 28), f2, n17, n20, n21, n6, n7, hf2, (show inb (0, 200) n17 from ⟨by omega, by omega⟩), (show inb (0, 5) n20 from ⟨by omega, by omega⟩), (show inb (0, 200) n6 from ⟨by omega, by omega⟩), (show inb (0, 200) n7 from ⟨by omega, by omega⟩), (show (iv 12 34).toInt ≤ (n17 : Int32).toInt from by omega), (show ∀ j : Nat, j ≠ k.toNatClampNeg → f1 j = (fa 12 26) j ∧ f9 j = (fa 12 27) j ∧ (fa 12 28) j = (fa 12 28) j from fun j hj => ⟨(by rw [ef1, upd_ne hj]), (by rw [ef9, upd_ne hj]), rfl⟩), (show ((n20 : Int32).toInt ≠ 0 ∨ gd3 (f1 k.toNatClampNeg) (f9 k.toNatClampNeg) ((fa 12 28) k.toNatClampNeg)) from (by
                  have kc : (0 : Int32).toInt = 0 := by decide
                  have kE : f1 k.toNatClampNeg = 0 := by rw [ef1]; exact upd_eq
                  have nE : f9 k.toNatClampNeg = r8 := by rw [ef9]; exact upd_eq
                  have := congrArg Int32.toInt (ev10.trans nE)
                  by_cases h0 : (n20 : Int32).toInt = 0
                  · refine Or.inr ?_; rw [kE, nE]; unfold gd3; exact ⟨fun h => by omega, fun h h2 => by omega⟩
                  · exact Or.inl h0)), (show ∀ j : Nat, j ≠ k.toNatClampNeg → (fa 12 29) j = (fa 12 29) j ∧ f2 j = (fa 12 30) j from fun j hj => ⟨(rfl), (by rw [ef2, upd_ne (show j ≠ k.toNatClampNeg from hj)])⟩), (show ∀ j : Nat, (j : Int) < 8 * (k).toInt → (fa 12 31) j = (fa 12 31) j from fun j hj => rfl), (show f1 ((k).toInt).toNat = 0 from (by rw [ef1]; exact upd_eq)), (show (((n20 : Int32).toInt ≠ 0 ∧ ∃ b kd v1 : Int, LetR (fun j => sg ((fa 12 32) j).toInt) ((iv 12 33) : Int32).toInt (iv 12 34).toInt (n20 : Int32).toInt (n21 : Int32).toInt b kd v1) ∨ ((n20 : Int32).toInt = 0 ∧ (n21 : Int32).toInt = (iv 12 36).toInt ∧ LetR (fun j => sg ((fa 12 32) j).toInt) ((iv 12 33) : Int32).toInt (iv 12 34).toInt 0 0 (n17 : Int32).toInt (f9 ((k).toInt).toNat).toInt ((fa 12 28) ((k).toInt).toNat).toInt)) from (by
                  have hb := kwN_b (fun j => sg (fa 12 32 j).toInt) (n6 : Int32).toInt (n5 : Int32).toInt
                  have hE27 : f9 (k.toInt).toNat = r8 := (by rw [ef9]; exact upd_eq)
                  have hk := xr8_0
                  rw [xr4_1] at hk
                  have hl := congrArg Int32.toInt (ev10.trans (show f9 k.toNatClampNeg = r8 from hE27))
                  exact Or.inl ⟨by omega, 0, 0, 0, _, _, xr4_2, xr4_3, Or.inl ⟨by omega, by omega, by omega⟩⟩)), rfl⟩, by rw [ht9]; exact hP9, hD9⟩, hS.F ht9⟩) hS.2.2 dX12_readClause_295
          · exact absurd rfl c22
        · have fc18 := z_eq (rfl : (r16).toInt = _) (by decide : (59 : Int32).toInt = 59) c18
          refine lv_iconst (v := 1) hx hb dX12_readClause_269 (by decide) ?_
          refine lv_goto (tgt := 274) hx hb dX12_readClause_270 (by decide) ?_
          refine lv_iconst (v := 1) hx hb dX12_readClause_274 (by decide) ?_
          refine lv_aload_n hx hb dX12_readClause_275 rfl (lv_at hl 1 rfl) ?_
          refine gM_12_34 hx hb ht hown hK hP m_1173 (v := n17) rfl dX12_readClause_276 ?_
          refine vp_callSi (W.runV (As := [.int 1, .int 1, .int n17]) (rest := []) ⟨hx, hb, hml, hown, ht⟩ (c_X12_want_1 l dC dI h g ca (u2 (u2 (u2 (u2 (u2 iv 12 34 n17) 12 37 n6) 12 38 n7) 12 35 n13) 12 36 n14) lv (u2 (u2 (u2 fa 12 26 f1) 12 30 f2) 12 27 f9) la (IX_a (c := 12) (k := 27) (IX_a (c := 12) (k := 30) (IX_a (c := 12) (k := 26) (IX_i (c := 12) (k := 36) (IX_i (c := 12) (k := 35) (IX_i (c := 12) (k := 38) (IX_i (c := 12) (k := 37) (IX_i (c := 12) (k := 34) hI (show inb (0, 200) n17 from ⟨by omega, by omega⟩)) (show inb (0, 200) n6 from ⟨by omega, by omega⟩)) (show inb (0, 200) n7 from ⟨by omega, by omega⟩)) (show inb (0, 5) n13 from ⟨by omega, by omega⟩)) (full_i _)) hf1) hf2) hf9) 1 n17) (kV 3 ht m_1472 m_1474 m_50 m_89 m_1475 rfl rfl hd_X12_want_v ⟨Nat.le_of_ble_eq_true rfl, Nat.le_of_ble_eq_true rfl⟩) (vR hP hK (rM_12 hK hP)) rfl rfl hl.1 rfl (lv_room (Nat.le_of_ble_eq_true rfl)) dX12_readClause_279 ⟨Nat.le_of_ble_eq_true rfl, Nat.le_of_ble_eq_true rfl⟩) (fun r23 hr23 => ?_)
          rcases hr23 with ⟨rfl, fr23⟩ | ⟨rfl, fr23⟩
          · skip
            have fr23 : ((n13 : Int32).toInt = 0) := fr23
            refine lv_if_eq (tgt := 295) hx hb dX12_readClause_282 (by decide) (fun c24 => ?_) (fun c24 => ?_)
            · exact absurd c24 (by decide)
            · skip
              refine lv_aload_n hx hb dX12_readClause_285 rfl (lv_at hl 1 rfl) ?_
              refine lv_dup hx hb dX12_readClause_286 rfl ?_
              refine gM_12_34 hx hb ht hown hK hP m_1173 (v := n17) rfl dX12_readClause_287 ?_
              refine lv_iconst (v := 1) hx hb dX12_readClause_290 (by decide) ?_
              refine lv_iadd hx hb dX12_readClause_291 ?_
              refine lv_topi (fun v25 ev25 => ?_)
              have tv25 := z_add ev25 (rfl : (n17).toInt = _) (by decide : (1 : Int32).toInt = 1) (by omega) (by omega)
              have : 0 ≤ (v25 : Int32).toInt ∧ (v25 : Int32).toInt ≤ 200 := ⟨by omega, by omega⟩
              refine pM_12_34 (v := v25) hx hb ht hown hK hP hD hS m_1173 dX12_readClause_292 (fun H locs hP hD hS => ?_)
              have hP : va_P (dC, dI) classes (WM h g ca (u2 (u2 (u2 (u2 (u2 iv 12 34 v25) 12 37 n6) 12 38 n7) 12 35 n13) 12 36 n14) lv (u2 (u2 (u2 fa 12 26 f1) 12 30 f2) 12 27 f9) la) H := hP
              have hD : va_D A (WM h g ca (u2 (u2 (u2 (u2 (u2 iv 12 34 v25) 12 37 n6) 12 38 n7) 12 35 n13) 12 36 n14) lv (u2 (u2 (u2 fa 12 26 f1) 12 30 f2) 12 27 f9) la) := hD
              have hP9 : va_P (dC, dI) classes (WM h g ca (u2 (u2 (u2 (u2 (u2 iv 12 34 v25) 12 35 n13) 12 36 n14) 12 37 n6) 12 38 n7) lv (u2 (u2 (u2 (u2 fa 12 26 f1) 12 27 f9) 12 28 (fa 12 28)) 12 30 f2) la) H := hP
              have hD9 : va_D A (WM h g ca (u2 (u2 (u2 (u2 (u2 iv 12 34 v25) 12 35 n13) 12 36 n14) 12 37 n6) 12 38 n7) lv (u2 (u2 (u2 (u2 fa 12 26 f1) 12 27 f9) 12 28 (fa 12 28)) 12 30 f2) la) := hD
              exact W.vret hx hb hr (fun t ht9 hW => ⟨⟨((u2 (u2 (u2 (u2 (u2 iv 12 34 v25) 12 35 n13) 12 36 n14) 12 37 n6) 12 38 n7), lv, (u2 (u2 (u2 (u2 fa 12 26 f1) 12 27 f9) 12 28 (fa 12 28)) 12 30 f2), la), rfl, ⟨f1, f9, (fa 12 28), f2, v25, n13, n14, n6, n7, hf2, (show inb (0, 200) v25 from ⟨by omega, by omega⟩), (show inb (0, 5) n13 from ⟨by omega, by omega⟩), (show inb (0, 200) n6 from ⟨by omega, by omega⟩), (show inb (0, 200) n7 from ⟨by omega, by omega⟩), (show (iv 12 34).toInt ≤ (v25 : Int32).toInt from by omega), (show ∀ j : Nat, j ≠ k.toNatClampNeg → f1 j = (fa 12 26) j ∧ f9 j = (fa 12 27) j ∧ (fa 12 28) j = (fa 12 28) j from fun j hj => ⟨(by rw [ef1, upd_ne hj]), (by rw [ef9, upd_ne hj]), rfl⟩), (show ((n13 : Int32).toInt ≠ 0 ∨ gd3 (f1 k.toNatClampNeg) (f9 k.toNatClampNeg) ((fa 12 28) k.toNatClampNeg)) from (by
                    have kc : (0 : Int32).toInt = 0 := by decide
                    have kE : f1 k.toNatClampNeg = 0 := by rw [ef1]; exact upd_eq
                    have nE : f9 k.toNatClampNeg = r8 := by rw [ef9]; exact upd_eq
                    have := congrArg Int32.toInt (ev10.trans nE)
                    by_cases h0 : (n13 : Int32).toInt = 0
                    · refine Or.inr ?_; rw [kE, nE]; unfold gd3; exact ⟨fun h => by omega, fun h h2 => by omega⟩
                    · exact Or.inl h0)), (show ∀ j : Nat, j ≠ k.toNatClampNeg → (fa 12 29) j = (fa 12 29) j ∧ f2 j = (fa 12 30) j from fun j hj => ⟨(rfl), (by rw [ef2, upd_ne (show j ≠ k.toNatClampNeg from hj)])⟩), (show ∀ j : Nat, (j : Int) < 8 * (k).toInt → (fa 12 31) j = (fa 12 31) j from fun j hj => rfl), (show f1 ((k).toInt).toNat = 0 from (by rw [ef1]; exact upd_eq)), (show (((n13 : Int32).toInt ≠ 0 ∧ ∃ b kd v1 : Int, LetR (fun j => sg ((fa 12 32) j).toInt) ((iv 12 33) : Int32).toInt (iv 12 34).toInt (n13 : Int32).toInt (n14 : Int32).toInt b kd v1) ∨ ((n13 : Int32).toInt = 0 ∧ (n14 : Int32).toInt = (iv 12 36).toInt ∧ LetR (fun j => sg ((fa 12 32) j).toInt) ((iv 12 33) : Int32).toInt (iv 12 34).toInt 0 0 (v25 : Int32).toInt (f9 ((k).toInt).toNat).toInt ((fa 12 28) ((k).toInt).toNat).toInt)) from (by
                    have hb := kwN_b (fun j => sg (fa 12 32 j).toInt) (n6 : Int32).toInt (n5 : Int32).toInt
                    have hE27 : f9 (k.toInt).toNat = r8 := (by rw [ef9]; exact upd_eq)
                    have hk := xr8_0
                    rw [xr4_1] at hk
                    have hl := congrArg Int32.toInt (ev10.trans (show f9 k.toNatClampNeg = r8 from hE27))
                    exfalso; omega)), rfl⟩, by rw [ht9]; exact hP9, hD9⟩, hS.F ht9⟩) hS.2.2 dX12_readClause_295
          · skip
            have fr23 : ¬ ((n13 : Int32).toInt = 0) := fr23
            refine lv_if_eq (tgt := 295) hx hb dX12_readClause_282 (by decide) (fun c26 => ?_) (fun c26 => ?_)
            · skip
              have hP9 : va_P (dC, dI) classes (WM h g ca (u2 (u2 (u2 (u2 (u2 iv 12 34 n17) 12 35 n13) 12 36 n14) 12 37 n6) 12 38 n7) lv (u2 (u2 (u2 (u2 fa 12 26 f1) 12 27 f9) 12 28 (fa 12 28)) 12 30 f2) la) H := hP
              have hD9 : va_D A (WM h g ca (u2 (u2 (u2 (u2 (u2 iv 12 34 n17) 12 35 n13) 12 36 n14) 12 37 n6) 12 38 n7) lv (u2 (u2 (u2 (u2 fa 12 26 f1) 12 27 f9) 12 28 (fa 12 28)) 12 30 f2) la) := hD
              exact W.vret hx hb hr (fun t ht9 hW => ⟨⟨((u2 (u2 (u2 (u2 (u2 iv 12 34 n17) 12 35 n13) 12 36 n14) 12 37 n6) 12 38 n7), lv, (u2 (u2 (u2 (u2 fa 12 26 f1) 12 27 f9) 12 28 (fa 12 28)) 12 30 f2), la), rfl, ⟨f1, f9, (fa 12 28), f2, n17, n13, n14, n6, n7, hf2, (show inb (0, 200) n17 from ⟨by omega, by omega⟩), (show inb (0, 5) n13 from ⟨by omega, by omega⟩), (show inb (0, 200) n6 from ⟨by omega, by omega⟩), (show inb (0, 200) n7 from ⟨by omega, by omega⟩), (show (iv 12 34).toInt ≤ (n17 : Int32).toInt from by omega), (show ∀ j : Nat, j ≠ k.toNatClampNeg → f1 j = (fa 12 26) j ∧ f9 j = (fa 12 27) j ∧ (fa 12 28) j = (fa 12 28) j from fun j hj => ⟨(by rw [ef1, upd_ne hj]), (by rw [ef9, upd_ne hj]), rfl⟩), (show ((n13 : Int32).toInt ≠ 0 ∨ gd3 (f1 k.toNatClampNeg) (f9 k.toNatClampNeg) ((fa 12 28) k.toNatClampNeg)) from Or.inl (by omega)), (show ∀ j : Nat, j ≠ k.toNatClampNeg → (fa 12 29) j = (fa 12 29) j ∧ f2 j = (fa 12 30) j from fun j hj => ⟨(rfl), (by rw [ef2, upd_ne (show j ≠ k.toNatClampNeg from hj)])⟩), (show ∀ j : Nat, (j : Int) < 8 * (k).toInt → (fa 12 31) j = (fa 12 31) j from fun j hj => rfl), (show f1 ((k).toInt).toNat = 0 from (by rw [ef1]; exact upd_eq)), (show (((n13 : Int32).toInt ≠ 0 ∧ ∃ b kd v1 : Int, LetR (fun j => sg ((fa 12 32) j).toInt) ((iv 12 33) : Int32).toInt (iv 12 34).toInt (n13 : Int32).toInt (n14 : Int32).toInt b kd v1) ∨ ((n13 : Int32).toInt = 0 ∧ (n14 : Int32).toInt = (iv 12 36).toInt ∧ LetR (fun j => sg ((fa 12 32) j).toInt) ((iv 12 33) : Int32).toInt (iv 12 34).toInt 0 0 (n17 : Int32).toInt (f9 ((k).toInt).toNat).toInt ((fa 12 28) ((k).toInt).toNat).toInt)) from (by
                    have hb := kwN_b (fun j => sg (fa 12 32 j).toInt) (n6 : Int32).toInt (n5 : Int32).toInt
                    have hE27 : f9 (k.toInt).toNat = r8 := (by rw [ef9]; exact upd_eq)
                    have hk := xr8_0
                    rw [xr4_1] at hk
                    have hl := congrArg Int32.toInt (ev10.trans (show f9 k.toNatClampNeg = r8 from hE27))
                    exact Or.inl ⟨by omega, 0, 0, 0, _, _, xr4_2, xr4_3, Or.inl ⟨by omega, by omega, by omega⟩⟩)), rfl⟩, by rw [ht9]; exact hP9, hD9⟩, hS.F ht9⟩) hS.2.2 dX12_readClause_295
            · exact absurd rfl c26
      · exact absurd rfl c15
    · have fc11 := z_nlt (rfl : (v10).toInt = _) (by decide : (0 : Int32).toInt = 0) c11
      refine lv_iconst (v := 1) hx hb dX12_readClause_42 (by decide) ?_
      refine lv_goto (tgt := 47) hx hb dX12_readClause_43 (by decide) ?_
      refine lv_iconst (v := 1) hx hb dX12_readClause_47 (by decide) ?_
      refine lv_aload_n hx hb dX12_readClause_48 rfl (lv_at hl 0 rfl) ?_
      refine gM_12_37 hx hb ht hown hK hP m_1176 (v := n6) rfl dX12_readClause_49 ?_
      refine vp_callSi (W.runV (As := [.int 1, .int 1, .int n6]) (rest := []) ⟨hx, hb, hml, hown, ht⟩ (c_X12_want_1 l dC dI h g ca (u2 (u2 (u2 iv 12 34 n5) 12 37 n6) 12 38 n7) lv (u2 (u2 (u2 fa 12 26 f1) 12 30 f2) 12 27 f9) la (IX_a (c := 12) (k := 27) (IX_a (c := 12) (k := 30) (IX_a (c := 12) (k := 26) (IX_i (c := 12) (k := 38) (IX_i (c := 12) (k := 37) (IX_i (c := 12) (k := 34) hI (show inb (0, 200) n5 from ⟨by omega, by omega⟩)) (show inb (0, 200) n6 from ⟨by omega, by omega⟩)) (show inb (0, 200) n7 from ⟨by omega, by omega⟩)) hf1) hf2) hf9) 1 n6) (kV 3 ht m_1472 m_1474 m_50 m_89 m_1475 rfl rfl hd_X12_want_v ⟨Nat.le_of_ble_eq_true rfl, Nat.le_of_ble_eq_true rfl⟩) (vR hP hK (rM_12 hK hP)) rfl rfl hl.1 rfl (lv_room (Nat.le_of_ble_eq_true rfl)) dX12_readClause_52 ⟨Nat.le_of_ble_eq_true rfl, Nat.le_of_ble_eq_true rfl⟩) (fun r27 hr27 => ?_)
      rcases hr27 with ⟨rfl, fr27⟩ | ⟨rfl, fr27⟩
      have i_12_35 : 0 ≤ (iv 12 35).toInt ∧ (iv 12 35).toInt ≤ 5 := hI.1 12 35
      · skip
        have i_12_35 : 0 ≤ (iv 12 35).toInt ∧ (iv 12 35).toInt ≤ 5 := hI.1 12 35
        have fr27 : (((iv 12 35) : Int32).toInt = 0) := fr27
        refine lv_if_eq (tgt := 257) hx hb dX12_readClause_55 (by decide) (fun c28 => ?_) (fun c28 => ?_)
        · exact absurd c28 (by decide)
        · skip
          refine lv_aload_n hx hb dX12_readClause_58 rfl (lv_at hl 0 rfl) ?_
          refine gM_12_28 hx hb ht hown hK hP m_1167 dX12_readClause_59 ?_
          refine lv_iload_n hx hb dX12_readClause_62 rfl (lv_at hl 2 rfl) ?_
          refine lv_aload_n hx hb dX12_readClause_63 rfl (lv_at hl 0 rfl) ?_
          refine lv_aload_n hx hb dX12_readClause_64 rfl (lv_at hl 0 rfl) ?_
          refine gM_12_27 hx hb ht hown hK hP m_1166 dX12_readClause_65 ?_
          refine lv_iload_n hx hb dX12_readClause_68 rfl (lv_at hl 2 rfl) ?_
          refine lM_12_27 hx hb hK hP (f := f9) rfl (vp_in_iff.mpr ⟨by omega, by omega⟩) dX12_readClause_69 ?_
          refine lv_topi (fun v29 ev29 => ?_)
          obtain rfl : v10 = v29 := ev10.trans ev29.symm
          refine vp_callSi (W.runS (As := [.int v10]) (rest := [.ref h, .int k, .ref (g 12 28)]) ⟨hx, hb, hml, hown, ht⟩ (c_X12_leastOf_r l dC dI v10) (kS 1 ht m_1484 m_1485 m_89 m_1486 rfl rfl hd_X12_leastOf_v ⟨Nat.le_of_ble_eq_true rfl, Nat.le_of_ble_eq_true rfl⟩) (sR noP (hK.sub (tys' := []) [] rfl)) rfl rfl hl.1 rfl (lv_room (Nat.le_of_ble_eq_true rfl)) dX12_readClause_70 ⟨Nat.le_of_ble_eq_true rfl, Nat.le_of_ble_eq_true rfl⟩) (fun r30 hr30 => ?_)
          obtain ⟨hr30, xr30_0⟩ := hr30
          have xr30_0 : ((((v10 : Int32).toInt = 1 ∨ (v10 : Int32).toInt = 3) ∧ (r30 : Int32).toInt = 1) ∨ (¬ ((v10 : Int32).toInt = 1 ∨ (v10 : Int32).toInt = 3) ∧ (r30 : Int32).toInt = 0)) := xr30_0
          refine lv_aload_n hx hb dX12_readClause_73 rfl (lv_at hl 0 rfl) ?_
          refine gM_12_27 hx hb ht hown hK hP m_1166 dX12_readClause_74 ?_
          refine lv_iload_n hx hb dX12_readClause_77 rfl (lv_at hl 2 rfl) ?_
          refine lM_12_27 hx hb hK hP (f := f9) rfl (vp_in_iff.mpr ⟨by omega, by omega⟩) dX12_readClause_78 ?_
          refine lv_topi (fun v31 ev31 => ?_)
          obtain rfl : v10 = v31 := ev10.trans ev31.symm
          refine vp_callSi (W.runS (As := [.int v10]) (rest := [.int r30, .ref h, .int k, .ref (g 12 28)]) ⟨hx, hb, hml, hown, ht⟩ (c_X12_mostOf_r l dC dI v10) (kS 1 ht m_1487 m_1488 m_89 m_1489 rfl rfl hd_X12_mostOf_v ⟨Nat.le_of_ble_eq_true rfl, Nat.le_of_ble_eq_true rfl⟩) (sR noP (hK.sub (tys' := []) [] rfl)) rfl rfl hl.1 rfl (lv_room (Nat.le_of_ble_eq_true rfl)) dX12_readClause_79 ⟨Nat.le_of_ble_eq_true rfl, Nat.le_of_ble_eq_true rfl⟩) (fun r32 hr32 => ?_)
          obtain ⟨hr32, xr32_0⟩ := hr32
          have xr32_0 : (((v10 : Int32).toInt = 0 ∧ (r32 : Int32).toInt = 300) ∨ ((v10 : Int32).toInt = 1 ∧ (r32 : Int32).toInt = 9) ∨ ((v10 : Int32).toInt = 2 ∧ (r32 : Int32).toInt = 200) ∨ ((v10 : Int32).toInt = 3 ∧ (r32 : Int32).toInt = 2) ∨ (((v10 : Int32).toInt < 0 ∨ 3 < (v10 : Int32).toInt) ∧ (r32 : Int32).toInt = 999)) := xr32_0
          have hFc := free_all hD hS hA
          refine va_calli (va_runV (As := [.int r30, .int r32]) (rest := [.int k, .ref (g 12 28)]) ⟨hx, hb, hml, hown, ht⟩ (c_X12_takeNumber_r l dC dI H.size h g ca (u2 (u2 (u2 iv 12 34 n5) 12 37 n6) 12 38 n7) lv (u2 (u2 (u2 fa 12 26 f1) 12 30 f2) 12 27 f9) la (IX_a (c := 12) (k := 27) (IX_a (c := 12) (k := 30) (IX_a (c := 12) (k := 26) (IX_i (c := 12) (k := 38) (IX_i (c := 12) (k := 37) (IX_i (c := 12) (k := 34) hI (show inb (0, 200) n5 from ⟨by omega, by omega⟩)) (show inb (0, 200) n6 from ⟨by omega, by omega⟩)) (show inb (0, 200) n7 from ⟨by omega, by omega⟩)) hf1) hf2) hf9) r30 r32 (show 0 ≤ ((iv 12 35) : Int32).toInt ∧ ((iv 12 35) : Int32).toInt ≤ 0 from ⟨by omega, by omega⟩) hJT) (kV 2 ht m_1490 m_1492 m_53 m_89 m_1493 rfl rfl hd_X12_takeNumber_v ⟨Nat.le_of_ble_eq_true rfl, Nat.le_of_ble_eq_true rfl⟩) (vW hP hK hD (rM_12 hK hP)) rfl rfl hl.1 rfl (lv_room (Nat.le_of_ble_eq_true rfl)) dX12_readClause_82 ⟨Nat.le_of_ble_eq_true rfl, Nat.le_of_ble_eq_true rfl⟩) hS (fun q _ h => hFc q h) hFc (fun r33 u t H1 locs ht9 hvm hr33 hB hz1 hk1 hS => ?_)
          obtain ⟨n34, n35, n36, n37, hn34, hn35, hn37, xr33_0, xr33_1, xr33_2, xr33_3, hr33, rfl⟩ := hr33
          have hn34 : 0 ≤ n34.toInt ∧ n34.toInt ≤ 200 := hn34
          have hn35 : 0 ≤ n35.toInt ∧ n35.toInt ≤ 5 := hn35
          have hn37 : 0 ≤ n37.toInt ∧ n37.toInt ≤ 200 := hn37
          obtain ⟨hP, hD⟩ := hB
          rw [ht9] at hP
          generalize H1 = H at hP hS ⊢
          have hP : va_P (dC, dI) classes (WM h g ca (u2 (u2 (u2 (u2 (u2 iv 12 34 n34) 12 37 n37) 12 38 n7) 12 35 n35) 12 36 n36) lv (u2 (u2 (u2 fa 12 26 f1) 12 30 f2) 12 27 f9) la) H := hP
          have hD : va_D A (WM h g ca (u2 (u2 (u2 (u2 (u2 iv 12 34 n34) 12 37 n37) 12 38 n7) 12 35 n35) 12 36 n36) lv (u2 (u2 (u2 fa 12 26 f1) 12 30 f2) 12 27 f9) la) := (show va_D _ (WM h g ca (u2 (u2 (u2 (u2 (u2 iv 12 34 n34) 12 37 n37) 12 38 n7) 12 35 n35) 12 36 n36) lv (u2 (u2 (u2 fa 12 26 f1) 12 30 f2) 12 27 f9) la) from hD).weaken (fun _ _ _ h => hFc _ h)
          have xr33_0 : (n5 : Int32).toInt ≤ (n34 : Int32).toInt := xr33_0
          have xr33_1 : ((n35 : Int32).toInt ≠ 0 ∨ ((r30 : Int32).toInt ≤ (r33 : Int32).toInt ∧ (r33 : Int32).toInt ≤ (r32 : Int32).toInt)) := xr33_1
          have xr33_2 : (((n35 : Int32).toInt ≠ 0 ∧ Num (fun j => sg ((fa 12 32) j).toInt) ((iv 12 33) : Int32).toInt (r30 : Int32).toInt (r32 : Int32).toInt (n5 : Int32).toInt (n35 : Int32).toInt (n36 : Int32).toInt 0 0) ∨ ((n35 : Int32).toInt = 0 ∧ (n36 : Int32).toInt = ((iv 12 36) : Int32).toInt ∧ Num (fun j => sg ((fa 12 32) j).toInt) ((iv 12 33) : Int32).toInt (r30 : Int32).toInt (r32 : Int32).toInt (n5 : Int32).toInt 0 0 (r33 : Int32).toInt (n34 : Int32).toInt)) := xr33_2
          have xr33_3 : Sk (fun j => sg ((fa 12 32) j).toInt) ((iv 12 33) : Int32).toInt (n5 : Int32).toInt (n37 : Int32).toInt := xr33_3
          refine tM_12_28 hx hb hK hP hD hS (f0 := (fa 12 28)) rfl (i := k) (x := r33) (vp_in_iff.mpr ⟨by omega, by omega⟩) dX12_readClause_85 (fun f38 ef38 H locs hP hD hS => ?_)
          have hf38 : ∀ j, inb (bA 12 28 j) (f38 j) := fun j => full_i _
          refine lv_goto (tgt := 257) hx hb dX12_readClause_86 (by decide) ?_
          refine lv_aload_n hx hb dX12_readClause_257 rfl (lv_at hl 0 rfl) ?_
          have hFc := free_all hD hS hA
          refine va_calli (va_runV (As := []) (rest := []) ⟨hx, hb, hml, hown, ht⟩ (c_X12_here_r l dC dI H.size h g ca (u2 (u2 (u2 (u2 (u2 iv 12 34 n34) 12 37 n37) 12 38 n7) 12 35 n35) 12 36 n36) lv (u2 (u2 (u2 (u2 fa 12 26 f1) 12 30 f2) 12 27 f9) 12 28 f38) la (IX_a (c := 12) (k := 28) (IX_a (c := 12) (k := 27) (IX_a (c := 12) (k := 30) (IX_a (c := 12) (k := 26) (IX_i (c := 12) (k := 36) (IX_i (c := 12) (k := 35) (IX_i (c := 12) (k := 38) (IX_i (c := 12) (k := 37) (IX_i (c := 12) (k := 34) hI (show inb (0, 200) n34 from ⟨by omega, by omega⟩)) (show inb (0, 200) n37 from ⟨by omega, by omega⟩)) (show inb (0, 200) n7 from ⟨by omega, by omega⟩)) (show inb (0, 5) n35 from ⟨by omega, by omega⟩)) (full_i _)) hf1) hf2) hf9) hf38)) (kV 0 ht m_1458 m_1460 m_47 m_89 m_1461 rfl rfl hd_X12_here_v ⟨Nat.le_of_ble_eq_true rfl, Nat.le_of_ble_eq_true rfl⟩) (vW hP hK hD (rM_12 hK hP)) rfl rfl hl.1 rfl (lv_room (Nat.le_of_ble_eq_true rfl)) dX12_readClause_258 ⟨Nat.le_of_ble_eq_true rfl, Nat.le_of_ble_eq_true rfl⟩) hS (fun q _ h => hFc q h) hFc (fun r39 u t H1 locs ht9 hvm hr39 hB hz1 hk1 hS => ?_)
          obtain ⟨n40, hn40, xr39_0, xr39_1, xr39_2, hr39, rfl⟩ := hr39
          have hn40 : 0 ≤ n40.toInt ∧ n40.toInt ≤ 200 := hn40
          obtain ⟨hP, hD⟩ := hB
          rw [ht9] at hP
          generalize H1 = H at hP hS ⊢
          have hP : va_P (dC, dI) classes (WM h g ca (u2 (u2 (u2 (u2 (u2 iv 12 34 n40) 12 37 n37) 12 38 n7) 12 35 n35) 12 36 n36) lv (u2 (u2 (u2 (u2 fa 12 26 f1) 12 30 f2) 12 27 f9) 12 28 f38) la) H := hP
          have hD : va_D A (WM h g ca (u2 (u2 (u2 (u2 (u2 iv 12 34 n40) 12 37 n37) 12 38 n7) 12 35 n35) 12 36 n36) lv (u2 (u2 (u2 (u2 fa 12 26 f1) 12 30 f2) 12 27 f9) 12 28 f38) la) := (show va_D _ (WM h g ca (u2 (u2 (u2 (u2 (u2 iv 12 34 n40) 12 37 n37) 12 38 n7) 12 35 n35) 12 36 n36) lv (u2 (u2 (u2 (u2 fa 12 26 f1) 12 30 f2) 12 27 f9) 12 28 f38) la) from hD).weaken (fun _ _ _ h => hFc _ h)
          have xr39_0 : (n34 : Int32).toInt ≤ (n40 : Int32).toInt := xr39_0
          have xr39_1 : Sk (fun j => sg ((fa 12 32) j).toInt) ((iv 12 33) : Int32).toInt (n34 : Int32).toInt (n40 : Int32).toInt := xr39_1
          have xr39_2 : (((r39 : Int32).toInt = -1 ∧ ((iv 12 33) : Int32).toInt ≤ (n40 : Int32).toInt) ∨ ((n40 : Int32).toInt < ((iv 12 33) : Int32).toInt ∧ (r39 : Int32).toInt = ((fa 12 32) ((n40 : Int32).toInt).toNat).toInt)) := xr39_2
          refine lv_istore_n (lv' := [(3, .int r39), (0, .ref h), (1, .int 0), (2, .int k)]) hx hb dX12_readClause_261 rfl hl (by decide) rfl (fun ls hl => ?_)
          refine lv_aload_n hx hb dX12_readClause_262 rfl (lv_at hl 1 rfl) ?_
          refine lv_iload_n hx hb dX12_readClause_263 rfl (lv_at hl 0 rfl) ?_
          refine lv_bipush (v := 59) hx hb dX12_readClause_264 (by decide) ?_
          refine lv_icmp_ne (tgt := 273) hx hb dX12_readClause_266 (by decide) (fun c41 => ?_) (fun c41 => ?_)
          · have fc41 := z_ne (rfl : (r39).toInt = _) (by decide : (59 : Int32).toInt = 59) c41
            refine lv_iconst (v := 0) hx hb dX12_readClause_273 (by decide) ?_
            refine lv_iconst (v := 1) hx hb dX12_readClause_274 (by decide) ?_
            refine lv_aload_n hx hb dX12_readClause_275 rfl (lv_at hl 1 rfl) ?_
            refine gM_12_34 hx hb ht hown hK hP m_1173 (v := n40) rfl dX12_readClause_276 ?_
            have hFc := free_all hD hS hA
            refine va_calli (va_runV (As := [.int 0, .int 1, .int n40]) (rest := []) ⟨hx, hb, hml, hown, ht⟩ (c_X12_want_r0 l dC dI H.size h g ca (u2 (u2 (u2 (u2 (u2 iv 12 34 n40) 12 37 n37) 12 38 n7) 12 35 n35) 12 36 n36) lv (u2 (u2 (u2 (u2 fa 12 26 f1) 12 30 f2) 12 27 f9) 12 28 f38) la (IX_a (c := 12) (k := 28) (IX_a (c := 12) (k := 27) (IX_a (c := 12) (k := 30) (IX_a (c := 12) (k := 26) (IX_i (c := 12) (k := 36) (IX_i (c := 12) (k := 35) (IX_i (c := 12) (k := 38) (IX_i (c := 12) (k := 37) (IX_i (c := 12) (k := 34) hI (show inb (0, 200) n40 from ⟨by omega, by omega⟩)) (show inb (0, 200) n37 from ⟨by omega, by omega⟩)) (show inb (0, 200) n7 from ⟨by omega, by omega⟩)) (show inb (0, 5) n35 from ⟨by omega, by omega⟩)) (full_i _)) hf1) hf2) hf9) hf38) 1 n40 ⟨by decide, by decide⟩) (kV 3 ht m_1472 m_1474 m_50 m_89 m_1475 rfl rfl hd_X12_want_v ⟨Nat.le_of_ble_eq_true rfl, Nat.le_of_ble_eq_true rfl⟩) (vW hP hK hD (rM_12 hK hP)) rfl rfl hl.1 rfl (lv_room (Nat.le_of_ble_eq_true rfl)) dX12_readClause_279 ⟨Nat.le_of_ble_eq_true rfl, Nat.le_of_ble_eq_true rfl⟩) hS (fun q _ h => hFc q h) hFc (fun r42 u t H1 locs ht9 hvm hr42 hB hz1 hk1 hS => ?_)
            obtain ⟨n43, n44, hn43, xr42_0, xr42_1, hr42, rfl⟩ := hr42
            have hn43 : 0 ≤ n43.toInt ∧ n43.toInt ≤ 5 := hn43
            obtain ⟨hP, hD⟩ := hB
            rw [ht9] at hP
            generalize H1 = H at hP hS ⊢
            have hP : va_P (dC, dI) classes (WM h g ca (u2 (u2 (u2 (u2 (u2 iv 12 34 n40) 12 37 n37) 12 38 n7) 12 35 n43) 12 36 n44) lv (u2 (u2 (u2 (u2 fa 12 26 f1) 12 30 f2) 12 27 f9) 12 28 f38) la) H := hP
            have hD : va_D A (WM h g ca (u2 (u2 (u2 (u2 (u2 iv 12 34 n40) 12 37 n37) 12 38 n7) 12 35 n43) 12 36 n44) lv (u2 (u2 (u2 (u2 fa 12 26 f1) 12 30 f2) 12 27 f9) 12 28 f38) la) := (show va_D _ (WM h g ca (u2 (u2 (u2 (u2 (u2 iv 12 34 n40) 12 37 n37) 12 38 n7) 12 35 n43) 12 36 n44) lv (u2 (u2 (u2 (u2 fa 12 26 f1) 12 30 f2) 12 27 f9) 12 28 f38) la) from hD).weaken (fun _ _ _ h => hFc _ h)
            have xr42_0 : 1 ≤ (n43 : Int32).toInt := xr42_0
            have : (1 : Int32).toInt = 1 := (by decide)
            have xr42_1 : (((n35 : Int32).toInt = 0 ∧ (n43 : Int32).toInt = (1 : Int32).toInt ∧ (n44 : Int32).toInt = (n40 : Int32).toInt) ∨ ((n35 : Int32).toInt ≠ 0 ∧ (n43 : Int32).toInt = (n35 : Int32).toInt ∧ (n44 : Int32).toInt = (n36 : Int32).toInt)) := xr42_1
            obtain rfl : 0 = r42 := hr42.symm
            refine lv_if_eq (tgt := 295) hx hb dX12_readClause_282 (by decide) (fun c45 => ?_) (fun c45 => ?_)
            · skip
              have hP9 : va_P (dC, dI) classes (WM h g ca (u2 (u2 (u2 (u2 (u2 iv 12 34 n40) 12 35 n43) 12 36 n44) 12 37 n37) 12 38 n7) lv (u2 (u2 (u2 (u2 fa 12 26 f1) 12 27 f9) 12 28 f38) 12 30 f2) la) H := hP
              have hD9 : va_D A (WM h g ca (u2 (u2 (u2 (u2 (u2 iv 12 34 n40) 12 35 n43) 12 36 n44) 12 37 n37) 12 38 n7) lv (u2 (u2 (u2 (u2 fa 12 26 f1) 12 27 f9) 12 28 f38) 12 30 f2) la) := hD
              exact W.vret hx hb hr (fun t ht9 hW => ⟨⟨((u2 (u2 (u2 (u2 (u2 iv 12 34 n40) 12 35 n43) 12 36 n44) 12 37 n37) 12 38 n7), lv, (u2 (u2 (u2 (u2 fa 12 26 f1) 12 27 f9) 12 28 f38) 12 30 f2), la), rfl, ⟨f1, f9, f38, f2, n40, n43, n44, n37, n7, hf2, (show inb (0, 200) n40 from ⟨by omega, by omega⟩), (show inb (0, 5) n43 from ⟨by omega, by omega⟩), (show inb (0, 200) n37 from ⟨by omega, by omega⟩), (show inb (0, 200) n7 from ⟨by omega, by omega⟩), (show (iv 12 34).toInt ≤ (n40 : Int32).toInt from by omega), (show ∀ j : Nat, j ≠ k.toNatClampNeg → f1 j = (fa 12 26) j ∧ f9 j = (fa 12 27) j ∧ f38 j = (fa 12 28) j from fun j hj => ⟨(by rw [ef1, upd_ne hj]), (by rw [ef9, upd_ne hj]), (by rw [ef38, upd_ne hj])⟩), (show ((n43 : Int32).toInt ≠ 0 ∨ gd3 (f1 k.toNatClampNeg) (f9 k.toNatClampNeg) (f38 k.toNatClampNeg)) from (by
                    have kc : (0 : Int32).toInt = 0 := by decide
                    have kE : f1 k.toNatClampNeg = 0 := by rw [ef1]; exact upd_eq
                    have nE : f9 k.toNatClampNeg = r8 := by rw [ef9]; exact upd_eq
                    have fE : f38 k.toNatClampNeg = r33 := by rw [ef38]; exact upd_eq
                    have := congrArg Int32.toInt (ev10.trans nE)
                    by_cases h0 : (n43 : Int32).toInt = 0
                    · refine Or.inr ?_; rw [kE, nE, fE]; unfold gd3; exact ⟨fun h => by omega, fun h h2 => by omega⟩
                    · exact Or.inl h0)), (show ∀ j : Nat, j ≠ k.toNatClampNeg → (fa 12 29) j = (fa 12 29) j ∧ f2 j = (fa 12 30) j from fun j hj => ⟨(rfl), (by rw [ef2, upd_ne (show j ≠ k.toNatClampNeg from hj)])⟩), (show ∀ j : Nat, (j : Int) < 8 * (k).toInt → (fa 12 31) j = (fa 12 31) j from fun j hj => rfl), (show f1 ((k).toInt).toNat = 0 from (by rw [ef1]; exact upd_eq)), (show (((n43 : Int32).toInt ≠ 0 ∧ ∃ b kd v1 : Int, LetR (fun j => sg ((fa 12 32) j).toInt) ((iv 12 33) : Int32).toInt (iv 12 34).toInt (n43 : Int32).toInt (n44 : Int32).toInt b kd v1) ∨ ((n43 : Int32).toInt = 0 ∧ (n44 : Int32).toInt = (iv 12 36).toInt ∧ LetR (fun j => sg ((fa 12 32) j).toInt) ((iv 12 33) : Int32).toInt (iv 12 34).toInt 0 0 (n40 : Int32).toInt (f9 ((k).toInt).toNat).toInt (f38 ((k).toInt).toNat).toInt)) from (by
                    have hb := kwN_b (fun j => sg (fa 12 32 j).toInt) (n6 : Int32).toInt (n5 : Int32).toInt
                    have hE27 : f9 (k.toInt).toNat = r8 := (by rw [ef9]; exact upd_eq)
                    have hk := xr8_0
                    rw [xr4_1] at hk
                    have hl := congrArg Int32.toInt (ev10.trans (show f9 k.toNatClampNeg = r8 from hE27))
                    have hE28 : f38 (k.toInt).toNat = r33 := (by rw [ef38]; exact upd_eq)
                    have hlo := loN_e xr30_0
                    have hhi := hiN_e xr32_0
                    rw [hl, hk] at hlo hhi
                    have hg := sg_i (fa 12 32 ((n40 : Int32).toInt).toNat).toInt
                    have hS9 : (n35 : Int32).toInt = 0 → StpR (fun j => sg (fa 12 32 j).toInt) (iv 12 33).toInt (n34 : Int32).toInt (n43 : Int32).toInt (n44 : Int32).toInt 0 := fun h0 => ⟨_, xr39_1, Or.inl ⟨fun q => (by have q2 : sg (fa 12 32 ((n40 : Int32).toInt).toNat).toInt = 59 := q.2; omega), by omega, by omega⟩⟩
                    rcases xr33_2 with ⟨yn1q, yn2q⟩ | ⟨yn1q, yn2q, yn3q⟩
                    · rw [hlo, hhi] at yn2q; exact Or.inl ⟨by omega, 0, 0, 0, _, _, xr4_2, xr4_3, Or.inr ⟨by omega, _, _, _, yn2q, Or.inl ⟨by omega, by omega, by omega⟩⟩⟩
                    · rw [hlo, hhi] at yn3q; exact Or.inl ⟨by omega, 0, _, _, _, _, xr4_2, xr4_3, Or.inr ⟨by omega, _, _, _, yn3q, Or.inr ⟨rfl, rfl, hS9 (by omega)⟩⟩⟩)), rfl⟩, by rw [ht9]; exact hP9, hD9⟩, hS.F ht9⟩) hS.2.2 dX12_readClause_295
            · exact absurd rfl c45
          · have fc41 := z_eq (rfl : (r39).toInt = _) (by decide : (59 : Int32).toInt = 59) c41
            refine lv_iconst (v := 1) hx hb dX12_readClause_269 (by decide) ?_
            refine lv_goto (tgt := 274) hx hb dX12_readClause_270 (by decide) ?_
            refine lv_iconst (v := 1) hx hb dX12_readClause_274 (by decide) ?_
            refine lv_aload_n hx hb dX12_readClause_275 rfl (lv_at hl 1 rfl) ?_
            refine gM_12_34 hx hb ht hown hK hP m_1173 (v := n40) rfl dX12_readClause_276 ?_
            refine vp_callSi (W.runV (As := [.int 1, .int 1, .int n40]) (rest := []) ⟨hx, hb, hml, hown, ht⟩ (c_X12_want_1 l dC dI h g ca (u2 (u2 (u2 (u2 (u2 iv 12 34 n40) 12 37 n37) 12 38 n7) 12 35 n35) 12 36 n36) lv (u2 (u2 (u2 (u2 fa 12 26 f1) 12 30 f2) 12 27 f9) 12 28 f38) la (IX_a (c := 12) (k := 28) (IX_a (c := 12) (k := 27) (IX_a (c := 12) (k := 30) (IX_a (c := 12) (k := 26) (IX_i (c := 12) (k := 36) (IX_i (c := 12) (k := 35) (IX_i (c := 12) (k := 38) (IX_i (c := 12) (k := 37) (IX_i (c := 12) (k := 34) hI (show inb (0, 200) n40 from ⟨by omega, by omega⟩)) (show inb (0, 200) n37 from ⟨by omega, by omega⟩)) (show inb (0, 200) n7 from ⟨by omega, by omega⟩)) (show inb (0, 5) n35 from ⟨by omega, by omega⟩)) (full_i _)) hf1) hf2) hf9) hf38) 1 n40) (kV 3 ht m_1472 m_1474 m_50 m_89 m_1475 rfl rfl hd_X12_want_v ⟨Nat.le_of_ble_eq_true rfl, Nat.le_of_ble_eq_true rfl⟩) (vR hP hK (rM_12 hK hP)) rfl rfl hl.1 rfl (lv_room (Nat.le_of_ble_eq_true rfl)) dX12_readClause_279 ⟨Nat.le_of_ble_eq_true rfl, Nat.le_of_ble_eq_true rfl⟩) (fun r46 hr46 => ?_)
            rcases hr46 with ⟨rfl, fr46⟩ | ⟨rfl, fr46⟩
            · skip
              have fr46 : ((n35 : Int32).toInt = 0) := fr46
              refine lv_if_eq (tgt := 295) hx hb dX12_readClause_282 (by decide) (fun c47 => ?_) (fun c47 => ?_)
              · exact absurd c47 (by decide)
              · skip
                refine lv_aload_n hx hb dX12_readClause_285 rfl (lv_at hl 1 rfl) ?_
                refine lv_dup hx hb dX12_readClause_286 rfl ?_
                refine gM_12_34 hx hb ht hown hK hP m_1173 (v := n40) rfl dX12_readClause_287 ?_
                refine lv_iconst (v := 1) hx hb dX12_readClause_290 (by decide) ?_
                refine lv_iadd hx hb dX12_readClause_291 ?_
                refine lv_topi (fun v48 ev48 => ?_)
                have tv48 := z_add ev48 (rfl : (n40).toInt = _) (by decide : (1 : Int32).toInt = 1) (by omega) (by omega)
                have : 0 ≤ (v48 : Int32).toInt ∧ (v48 : Int32).toInt ≤ 200 := ⟨by omega, by omega⟩
                refine pM_12_34 (v := v48) hx hb ht hown hK hP hD hS m_1173 dX12_readClause_292 (fun H locs hP hD hS => ?_)
                have hP : va_P (dC, dI) classes (WM h g ca (u2 (u2 (u2 (u2 (u2 iv 12 34 v48) 12 37 n37) 12 38 n7) 12 35 n35) 12 36 n36) lv (u2 (u2 (u2 (u2 fa 12 26 f1) 12 30 f2) 12 27 f9) 12 28 f38) la) H := hP
                have hD : va_D A (WM h g ca (u2 (u2 (u2 (u2 (u2 iv 12 34 v48) 12 37 n37) 12 38 n7) 12 35 n35) 12 36 n36) lv (u2 (u2 (u2 (u2 fa 12 26 f1) 12 30 f2) 12 27 f9) 12 28 f38) la) := hD
                have hP9 : va_P (dC, dI) classes (WM h g ca (u2 (u2 (u2 (u2 (u2 iv 12 34 v48) 12 35 n35) 12 36 n36) 12 37 n37) 12 38 n7) lv (u2 (u2 (u2 (u2 fa 12 26 f1) 12 27 f9) 12 28 f38) 12 30 f2) la) H := hP
                have hD9 : va_D A (WM h g ca (u2 (u2 (u2 (u2 (u2 iv 12 34 v48) 12 35 n35) 12 36 n36) 12 37 n37) 12 38 n7) lv (u2 (u2 (u2 (u2 fa 12 26 f1) 12 27 f9) 12 28 f38) 12 30 f2) la) := hD
                exact W.vret hx hb hr (fun t ht9 hW => ⟨⟨((u2 (u2 (u2 (u2 (u2 iv 12 34 v48) 12 35 n35) 12 36 n36) 12 37 n37) 12 38 n7), lv, (u2 (u2 (u2 (u2 fa 12 26 f1) 12 27 f9) 12 28 f38) 12 30 f2), la), rfl, ⟨f1, f9, f38, f2, v48, n35, n36, n37, n7, hf2, (show inb (0, 200) v48 from ⟨by omega, by omega⟩), (show inb (0, 5) n35 from ⟨by omega, by omega⟩), (show inb (0, 200) n37 from ⟨by omega, by omega⟩), (show inb (0, 200) n7 from ⟨by omega, by omega⟩), (show (iv 12 34).toInt ≤ (v48 : Int32).toInt from by omega), (show ∀ j : Nat, j ≠ k.toNatClampNeg → f1 j = (fa 12 26) j ∧ f9 j = (fa 12 27) j ∧ f38 j = (fa 12 28) j from fun j hj => ⟨(by rw [ef1, upd_ne hj]), (by rw [ef9, upd_ne hj]), (by rw [ef38, upd_ne hj])⟩), (show ((n35 : Int32).toInt ≠ 0 ∨ gd3 (f1 k.toNatClampNeg) (f9 k.toNatClampNeg) (f38 k.toNatClampNeg)) from (by
                      have kc : (0 : Int32).toInt = 0 := by decide
                      have kE : f1 k.toNatClampNeg = 0 := by rw [ef1]; exact upd_eq
                      have nE : f9 k.toNatClampNeg = r8 := by rw [ef9]; exact upd_eq
                      have fE : f38 k.toNatClampNeg = r33 := by rw [ef38]; exact upd_eq
                      have := congrArg Int32.toInt (ev10.trans nE)
                      by_cases h0 : (n35 : Int32).toInt = 0
                      · refine Or.inr ?_; rw [kE, nE, fE]; unfold gd3; exact ⟨fun h => by omega, fun h h2 => by omega⟩
                      · exact Or.inl h0)), (show ∀ j : Nat, j ≠ k.toNatClampNeg → (fa 12 29) j = (fa 12 29) j ∧ f2 j = (fa 12 30) j from fun j hj => ⟨(rfl), (by rw [ef2, upd_ne (show j ≠ k.toNatClampNeg from hj)])⟩), (show ∀ j : Nat, (j : Int) < 8 * (k).toInt → (fa 12 31) j = (fa 12 31) j from fun j hj => rfl), (show f1 ((k).toInt).toNat = 0 from (by rw [ef1]; exact upd_eq)), (show (((n35 : Int32).toInt ≠ 0 ∧ ∃ b kd v1 : Int, LetR (fun j => sg ((fa 12 32) j).toInt) ((iv 12 33) : Int32).toInt (iv 12 34).toInt (n35 : Int32).toInt (n36 : Int32).toInt b kd v1) ∨ ((n35 : Int32).toInt = 0 ∧ (n36 : Int32).toInt = (iv 12 36).toInt ∧ LetR (fun j => sg ((fa 12 32) j).toInt) ((iv 12 33) : Int32).toInt (iv 12 34).toInt 0 0 (v48 : Int32).toInt (f9 ((k).toInt).toNat).toInt (f38 ((k).toInt).toNat).toInt)) from (by
                      have hb := kwN_b (fun j => sg (fa 12 32 j).toInt) (n6 : Int32).toInt (n5 : Int32).toInt
                      have hE27 : f9 (k.toInt).toNat = r8 := (by rw [ef9]; exact upd_eq)
                      have hk := xr8_0
                      rw [xr4_1] at hk
                      have hl := congrArg Int32.toInt (ev10.trans (show f9 k.toNatClampNeg = r8 from hE27))
                      have hE28 : f38 (k.toInt).toNat = r33 := (by rw [ef38]; exact upd_eq)
                      have hlo := loN_e xr30_0
                      have hhi := hiN_e xr32_0
                      rw [hl, hk] at hlo hhi
                      have hg := sg_i (fa 12 32 ((n40 : Int32).toInt).toNat).toInt
                      have hS9 : StpR (fun j => sg (fa 12 32 j).toInt) (iv 12 33).toInt (n34 : Int32).toInt 0 0 (v48 : Int32).toInt := ⟨_, xr39_1, Or.inr ⟨⟨by omega, (show sg (fa 12 32 ((n40 : Int32).toInt).toNat).toInt = 59 from by omega)⟩, rfl, by omega⟩⟩
                      rcases xr33_2 with ⟨yn1q, yn2q⟩ | ⟨yn1q, yn2q, yn3q⟩
                      · exfalso; omega
                      · rw [hlo, hhi] at yn3q; rw [hE27, hE28]; exact Or.inr ⟨by omega, by omega, _, _, xr4_2, xr4_3, Or.inr ⟨by omega, _, _, _, yn3q, Or.inr ⟨rfl, by omega, hS9⟩⟩⟩)), rfl⟩, by rw [ht9]; exact hP9, hD9⟩, hS.F ht9⟩) hS.2.2 dX12_readClause_295
            · skip
              have fr46 : ¬ ((n35 : Int32).toInt = 0) := fr46
              refine lv_if_eq (tgt := 295) hx hb dX12_readClause_282 (by decide) (fun c49 => ?_) (fun c49 => ?_)
              · skip
                have hP9 : va_P (dC, dI) classes (WM h g ca (u2 (u2 (u2 (u2 (u2 iv 12 34 n40) 12 35 n35) 12 36 n36) 12 37 n37) 12 38 n7) lv (u2 (u2 (u2 (u2 fa 12 26 f1) 12 27 f9) 12 28 f38) 12 30 f2) la) H := hP
                have hD9 : va_D A (WM h g ca (u2 (u2 (u2 (u2 (u2 iv 12 34 n40) 12 35 n35) 12 36 n36) 12 37 n37) 12 38 n7) lv (u2 (u2 (u2 (u2 fa 12 26 f1) 12 27 f9) 12 28 f38) 12 30 f2) la) := hD
                exact W.vret hx hb hr (fun t ht9 hW => ⟨⟨((u2 (u2 (u2 (u2 (u2 iv 12 34 n40) 12 35 n35) 12 36 n36) 12 37 n37) 12 38 n7), lv, (u2 (u2 (u2 (u2 fa 12 26 f1) 12 27 f9) 12 28 f38) 12 30 f2), la), rfl, ⟨f1, f9, f38, f2, n40, n35, n36, n37, n7, hf2, (show inb (0, 200) n40 from ⟨by omega, by omega⟩), (show inb (0, 5) n35 from ⟨by omega, by omega⟩), (show inb (0, 200) n37 from ⟨by omega, by omega⟩), (show inb (0, 200) n7 from ⟨by omega, by omega⟩), (show (iv 12 34).toInt ≤ (n40 : Int32).toInt from by omega), (show ∀ j : Nat, j ≠ k.toNatClampNeg → f1 j = (fa 12 26) j ∧ f9 j = (fa 12 27) j ∧ f38 j = (fa 12 28) j from fun j hj => ⟨(by rw [ef1, upd_ne hj]), (by rw [ef9, upd_ne hj]), (by rw [ef38, upd_ne hj])⟩), (show ((n35 : Int32).toInt ≠ 0 ∨ gd3 (f1 k.toNatClampNeg) (f9 k.toNatClampNeg) (f38 k.toNatClampNeg)) from Or.inl (by omega)), (show ∀ j : Nat, j ≠ k.toNatClampNeg → (fa 12 29) j = (fa 12 29) j ∧ f2 j = (fa 12 30) j from fun j hj => ⟨(rfl), (by rw [ef2, upd_ne (show j ≠ k.toNatClampNeg from hj)])⟩), (show ∀ j : Nat, (j : Int) < 8 * (k).toInt → (fa 12 31) j = (fa 12 31) j from fun j hj => rfl), (show f1 ((k).toInt).toNat = 0 from (by rw [ef1]; exact upd_eq)), (show (((n35 : Int32).toInt ≠ 0 ∧ ∃ b kd v1 : Int, LetR (fun j => sg ((fa 12 32) j).toInt) ((iv 12 33) : Int32).toInt (iv 12 34).toInt (n35 : Int32).toInt (n36 : Int32).toInt b kd v1) ∨ ((n35 : Int32).toInt = 0 ∧ (n36 : Int32).toInt = (iv 12 36).toInt ∧ LetR (fun j => sg ((fa 12 32) j).toInt) ((iv 12 33) : Int32).toInt (iv 12 34).toInt 0 0 (n40 : Int32).toInt (f9 ((k).toInt).toNat).toInt (f38 ((k).toInt).toNat).toInt)) from (by
                      have hb := kwN_b (fun j => sg (fa 12 32 j).toInt) (n6 : Int32).toInt (n5 : Int32).toInt
                      have hE27 : f9 (k.toInt).toNat = r8 := (by rw [ef9]; exact upd_eq)
                      have hk := xr8_0
                      rw [xr4_1] at hk
                      have hl := congrArg Int32.toInt (ev10.trans (show f9 k.toNatClampNeg = r8 from hE27))
                      have hE28 : f38 (k.toInt).toNat = r33 := (by rw [ef38]; exact upd_eq)
                      have hlo := loN_e xr30_0
                      have hhi := hiN_e xr32_0
                      rw [hl, hk] at hlo hhi
                      rcases xr33_2 with ⟨yn1q, yn2q⟩ | ⟨yn1q, yn2q, yn3q⟩
                      · rw [hlo, hhi] at yn2q; exact Or.inl ⟨by omega, 0, 0, 0, _, _, xr4_2, xr4_3, Or.inr ⟨by omega, _, _, _, yn2q, Or.inl ⟨by omega, by omega, by omega⟩⟩⟩
                      · exfalso; omega)), rfl⟩, by rw [ht9]; exact hP9, hD9⟩, hS.F ht9⟩) hS.2.2 dX12_readClause_295
              · exact absurd rfl c49
      · skip
        have fr27 : ¬ (((iv 12 35) : Int32).toInt = 0) := fr27
        exfalso; omega
set_option maxHeartbeats 4000000 in
set_option maxRecDepth 100000 in
/-- X12_readClause -/
theorem c_X12_readClause_r1 (l : Launch) (dC : Nat → ClassId) (dI : Nat → Nat → Nat) (sz : Nat) (h : Nat) (g : Nat → Nat → Nat) (ca : Nat → Nat → ClassId) (iv : Nat → Nat → Int32) (lv : Nat → Nat → Int64) (fa : Nat → Nat → Nat → Int32) (la : Nat → Nat → Nat → Int64) (hI : IX iv fa) (k : Int32) (q_12_35 : 0 ≤ (iv 12 35).toInt ∧ (iv 12 35).toInt ≤ 0) (h_k : 0 ≤ k.toInt ∧ k.toInt ≤ 95) (hJT : ∀ j : Nat, 0 ≤ (fa 12 32 j).toInt) : Met l yX12_readClause (wc yX12_readClause cX12_readClause 4 none) ({ frames := 2, cells := 0, slots := 0, locals := 46 } : Room) (pW (dC, dI) classes (WM h g ca iv lv fa la) (TM ca) sz [.ref h, .int 1, .int k]) (va_Qv (fun (u : SS) => ∃ (na_12_26 : Nat → Int32) (na_12_28 : Nat → Int32) (na_12_30 : Nat → Int32) (ni_12_34 : Int32) (ni_12_35 : Int32) (ni_12_36 : Int32) (ni_12_37 : Int32) (ni_12_38 : Int32), (∀ j, inb (bA 12 30 j) (na_12_30 j)) ∧ inb (bI 12 34) ni_12_34 ∧ inb (bI 12 35) ni_12_35 ∧ inb (bI 12 37) ni_12_37 ∧ inb (bI 12 38) ni_12_38 ∧ ((iv 12 34).toInt ≤ (ni_12_34).toInt) ∧ (∀ j : Nat, j ≠ k.toNatClampNeg → na_12_26 j = (fa 12 26) j ∧ (fa 12 27) j = (fa 12 27) j ∧ na_12_28 j = (fa 12 28) j) ∧ (((ni_12_35).toInt ≠ 0 ∨ gd3 (na_12_26 k.toNatClampNeg) ((fa 12 27) k.toNatClampNeg) (na_12_28 k.toNatClampNeg))) ∧ (∀ j : Nat, j ≠ k.toNatClampNeg → (fa 12 29) j = (fa 12 29) j ∧ na_12_30 j = (fa 12 30) j) ∧ (∀ j : Nat, (j : Int) < 8 * k.toInt → (fa 12 31) j = (fa 12 31) j) ∧ (na_12_26 (k.toInt).toNat = 1) ∧ ((((ni_12_35).toInt ≠ 0 ∧ ∃ b kd v1 : Int, TakR (fun j => sg ((fa 12 32) j).toInt) (iv 12 33).toInt (iv 12 34).toInt (ni_12_35).toInt (ni_12_36).toInt b kd v1) ∨ ((ni_12_35).toInt = 0 ∧ (ni_12_36).toInt = (iv 12 36).toInt ∧ TakR (fun j => sg ((fa 12 32) j).toInt) (iv 12 33).toInt (iv 12 34).toInt 0 0 (ni_12_34).toInt 5 (na_12_28 (k.toInt).toNat).toInt))) ∧ u = ((u2 (u2 (u2 (u2 (u2 iv 12 34 ni_12_34) 12 35 ni_12_35) 12 36 ni_12_36) 12 37 ni_12_37) 12 38 ni_12_38), lv, (u2 (u2 (u2 fa 12 26 na_12_26) 12 28 na_12_28) 12 30 na_12_30), la)) (bM (dC, dI) h g ca (va_A (WM h g ca iv lv fa la) sz)) (va_A (WM h g ca iv lv fa la) sz)) 0 0 (va_A (WM h g ca iv lv fa la) sz) := by
  refine Met.ofW (cc := cX12_readClause) (maxL := 4) (ret := none) (by decide) rfl ?_
  intro p e s m args below meth c s₁ B hml hv
  obtain ⟨rfl, hsz, hP, hK, hD0⟩ := hv
  have hx := B.exec
  have hb := B.bytes
  have hr := B.returns
  have ht := tb_tl (atoms_spec (ws := wc yX12_readClause cX12_readClause 4 none) B.pre)
  have hown : s.vm.findClass RX12 = some m.cls := findClass_of_methodNamed B.named
  have hlocks := B.notSynchronized
  subst hsz
  have hD := hD0.self (sz := s.heap.size)
  generalize hAe : va_A (WM h g ca iv lv fa la) s.heap.size = A at hD ⊢
  have hA : ∀ q : Nat, s.heap.size ≤ q → A q := fun q h => by rw [← hAe]; exact Or.inr h
  have hS : va_S A s.heap s.heap [] := va_S.rf
  have hl := lv_entry [.ref h, .int 1, .int k] (n := 4) (Nat.le_of_ble_eq_true rfl)
  rw [lg_entry_eq]
  generalize (lg_sl [.ref h, .int 1, .int k] ++ List.replicate (4 - (lg_sl [.ref h, .int 1, .int k]).length) Slot.unset).toArray = ls at hl ⊢
  have hl : lv_has ls 4 [(0, .ref h), (1, .int 1), (2, .int k)] := hl
  refine lv_aload_n hx hb dX12_readClause_0 rfl (lv_at hl 0 rfl) ?_
  refine gM_12_26 hx hb ht hown hK hP m_1165 dX12_readClause_1 ?_
  refine lv_iload_n hx hb dX12_readClause_4 rfl (lv_at hl 2 rfl) ?_
  refine lv_iload_n hx hb dX12_readClause_5 rfl (lv_at hl 1 rfl) ?_
  refine tM_12_26 hx hb hK hP hD hS (f0 := (fa 12 26)) rfl (i := k) (x := 1) (vp_in_iff.mpr ⟨by omega, by omega⟩) dX12_readClause_6 (fun f1 ef1 H locs hP hD hS => ?_)
  have hf1 : ∀ j, inb (bA 12 26 j) (f1 j) := fun j => full_i _
  refine lv_aload_n hx hb dX12_readClause_7 rfl (lv_at hl 0 rfl) ?_
  refine gM_12_30 hx hb ht hown hK hP m_1169 dX12_readClause_8 ?_
  refine lv_iload_n hx hb dX12_readClause_11 rfl (lv_at hl 2 rfl) ?_
  refine lv_iconst (v := 0) hx hb dX12_readClause_12 (by decide) ?_
  refine tM_12_30 hx hb hK hP hD hS (f0 := (fa 12 30)) rfl (i := k) (x := 0) (vp_in_iff.mpr ⟨by omega, by omega⟩) dX12_readClause_13 (fun f2 ef2 H locs hP hD hS => ?_)
  have hf2 : ∀ j, inb (bA 12 30 j) (f2 j) := by rw [ef2]; exact upd_b (b := bA 12 30) (hI.2 12 30) (show inb (0, 8) 0 from ⟨by decide, by decide⟩)
  refine lv_iload_n hx hb dX12_readClause_14 rfl (lv_at hl 1 rfl) ?_
  refine lv_if_ne (tgt := 89) hx hb dX12_readClause_15 (by decide) (fun c3 => ?_) (fun c3 => ?_)
  · skip
    refine lv_iload_n hx hb dX12_readClause_89 rfl (lv_at hl 1 rfl) ?_
    refine lv_iconst (v := 1) hx hb dX12_readClause_90 (by decide) ?_
    refine lv_icmp_ne (tgt := 202) hx hb dX12_readClause_91 (by decide) (fun c4 => ?_) (fun c4 => ?_)
    · exact absurd rfl c4
    · skip
      refine lv_aload_n hx hb dX12_readClause_94 rfl (lv_at hl 0 rfl) ?_
      have i_12_34 : 0 ≤ (iv 12 34).toInt ∧ (iv 12 34).toInt ≤ 200 := hI.1 12 34
      have hFc := free_all hD hS hA
      refine va_callv (va_runV (As := []) (rest := []) ⟨hx, hb, hml, hown, ht⟩ (c_X12_takeWord_r l dC dI H.size h g ca iv lv (u2 (u2 fa 12 26 f1) 12 30 f2) la (IX_a (c := 12) (k := 30) (IX_a (c := 12) (k := 26) hI hf1) hf2)) (kV 0 ht m_1462 m_1464 m_48 m_89 m_1465 rfl rfl hd_X12_takeWord_v ⟨Nat.le_of_ble_eq_true rfl, Nat.le_of_ble_eq_true rfl⟩) (vW hP hK hD (rM_12 hK hP)) rfl rfl hl.1 rfl (lv_room (Nat.le_of_ble_eq_true rfl)) dX12_readClause_95 ⟨Nat.le_of_ble_eq_true rfl, Nat.le_of_ble_eq_true rfl⟩) hS (fun q _ h => hFc q h) hFc (fun u t H1 locs ht9 hvm hr5 hB hz1 hk1 hS => ?_)
      obtain ⟨n6, n7, n8, hn6, hn7, hn8, xr5_0, xr5_1, xr5_2, xr5_3, rfl⟩ := hr5
      have hn6 : 0 ≤ n6.toInt ∧ n6.toInt ≤ 200 := hn6
      have hn7 : 0 ≤ n7.toInt ∧ n7.toInt ≤ 200 := hn7
      have hn8 : 0 ≤ n8.toInt ∧ n8.toInt ≤ 200 := hn8
      obtain ⟨hP, hD⟩ := hB
      rw [ht9] at hP
      generalize H1 = H at hP hS ⊢
      have hP : va_P (dC, dI) classes (WM h g ca (u2 (u2 (u2 iv 12 34 n6) 12 37 n7) 12 38 n8) lv (u2 (u2 fa 12 26 f1) 12 30 f2) la) H := hP
      have hD : va_D A (WM h g ca (u2 (u2 (u2 iv 12 34 n6) 12 37 n7) 12 38 n8) lv (u2 (u2 fa 12 26 f1) 12 30 f2) la) := (show va_D _ (WM h g ca (u2 (u2 (u2 iv 12 34 n6) 12 37 n7) 12 38 n8) lv (u2 (u2 fa 12 26 f1) 12 30 f2) la) from hD).weaken (fun _ _ _ h => hFc _ h)
      have xr5_0 : ((iv 12 34) : Int32).toInt ≤ (n7 : Int32).toInt := xr5_0
      have xr5_1 : (n7 : Int32).toInt + (n8 : Int32).toInt = (n6 : Int32).toInt := xr5_1
      have i_12_33 : 0 ≤ (iv 12 33).toInt ∧ (iv 12 33).toInt ≤ 200 := hI.1 12 33
      have xr5_2 : Sk (fun j => sg ((fa 12 32) j).toInt) ((iv 12 33) : Int32).toInt ((iv 12 34) : Int32).toInt (n7 : Int32).toInt := xr5_2
      have xr5_3 : Rn (fun j => sg ((fa 12 32) j).toInt) ((iv 12 33) : Int32).toInt 97 122 (n7 : Int32).toInt (n6 : Int32).toInt := xr5_3
      refine lv_aload_n hx hb dX12_readClause_98 rfl (lv_at hl 0 rfl) ?_
      refine gM_12_28 hx hb ht hown hK hP m_1167 dX12_readClause_99 ?_
      refine lv_iload_n hx hb dX12_readClause_102 rfl (lv_at hl 2 rfl) ?_
      refine lv_aload_n hx hb dX12_readClause_103 rfl (lv_at hl 0 rfl) ?_
      refine lv_iconst (v := 4) hx hb dX12_readClause_104 (by decide) ?_
      refine lv_bipush (v := 109) hx hb dX12_readClause_105 (by decide) ?_
      refine lv_bipush (v := 101) hx hb dX12_readClause_107 (by decide) ?_
      refine lv_bipush (v := 97) hx hb dX12_readClause_109 (by decide) ?_
      refine lv_bipush (v := 110) hx hb dX12_readClause_111 (by decide) ?_
      refine lv_iconst (v := 0) hx hb dX12_readClause_113 (by decide) ?_
      refine lv_iconst (v := 0) hx hb dX12_readClause_114 (by decide) ?_
      refine vp_callSi (W.runV (As := [.int 4, .int 109, .int 101, .int 97, .int 110, .int 0, .int 0]) (rest := [.int k, .ref (g 12 28)]) ⟨hx, hb, hml, hown, ht⟩ (c_X12_isWord_g l dC dI h g ca (u2 (u2 (u2 iv 12 34 n6) 12 37 n7) 12 38 n8) lv (u2 (u2 fa 12 26 f1) 12 30 f2) la (IX_a (c := 12) (k := 30) (IX_a (c := 12) (k := 26) (IX_i (c := 12) (k := 38) (IX_i (c := 12) (k := 37) (IX_i (c := 12) (k := 34) hI (show inb (0, 200) n6 from ⟨by omega, by omega⟩)) (show inb (0, 200) n7 from ⟨by omega, by omega⟩)) (show inb (0, 200) n8 from ⟨by omega, by omega⟩)) hf1) hf2) 4 109 101 97 110 0 0 ⟨by decide, by decide⟩ ⟨by decide, by decide⟩ ⟨by decide, by decide⟩ ⟨by decide, by decide⟩ ⟨by decide, by decide⟩ ⟨by decide, by decide⟩ ⟨by decide, by decide⟩ (show (n7 : Int32).toInt + (n8 : Int32).toInt ≤ 200 from by omega)) (kV 7 ht m_1468 m_1470 m_49 m_89 m_1471 rfl rfl hd_X12_isWord_v ⟨Nat.le_of_ble_eq_true rfl, Nat.le_of_ble_eq_true rfl⟩) (vR hP hK (rM_12 hK hP)) rfl rfl hl.1 rfl (lv_room (Nat.le_of_ble_eq_true rfl)) dX12_readClause_115 ⟨Nat.le_of_ble_eq_true rfl, Nat.le_of_ble_eq_true rfl⟩) (fun r9 hr9 => ?_)
      obtain ⟨hr9, xr9_0, xr9_1⟩ := hr9
      have : (4 : Int32).toInt = 4 := (by decide)
      have xr9_0 : (((r9 : Int32).toInt = 1 ∧ WdG (fun j => sg ((fa 12 32) j).toInt) (n7 : Int32).toInt ((n7 : Int32).toInt + (n8 : Int32).toInt) (4 : Int32).toInt (lt6 (109 : Int32) (101 : Int32) (97 : Int32) (110 : Int32) (0 : Int32) (0 : Int32))) ∨ ((r9 : Int32).toInt = 0 ∧ ¬ WdG (fun j => sg ((fa 12 32) j).toInt) (n7 : Int32).toInt ((n7 : Int32).toInt + (n8 : Int32).toInt) (4 : Int32).toInt (lt6 (109 : Int32) (101 : Int32) (97 : Int32) (110 : Int32) (0 : Int32) (0 : Int32)))) := xr9_0
      have xr9_1 : ((r9 : Int32).toInt = 0 ∨ (n8 : Int32).toInt = (4 : Int32).toInt) := xr9_1
      refine lv_if_eq (tgt := 125) hx hb dX12_readClause_118 (by decide) (fun c10 => ?_) (fun c10 => ?_)
      · have fc10 := z_eq (rfl : (r9).toInt = _) (by decide : (0 : Int32).toInt = 0) c10
        refine lv_aload_n hx hb dX12_readClause_125 rfl (lv_at hl 0 rfl) ?_
        refine lv_iconst (v := 5) hx hb dX12_readClause_126 (by decide) ?_
        refine lv_bipush (v := 108) hx hb dX12_readClause_127 (by decide) ?_
        refine lv_bipush (v := 101) hx hb dX12_readClause_129 (by decide) ?_
        refine lv_bipush (v := 97) hx hb dX12_readClause_131 (by decide) ?_
        refine lv_bipush (v := 115) hx hb dX12_readClause_133 (by decide) ?_
        refine lv_bipush (v := 116) hx hb dX12_readClause_135 (by decide) ?_
        refine lv_iconst (v := 0) hx hb dX12_readClause_137 (by decide) ?_
        refine vp_callSi (W.runV (As := [.int 5, .int 108, .int 101, .int 97, .int 115, .int 116, .int 0]) (rest := [.int k, .ref (g 12 28)]) ⟨hx, hb, hml, hown, ht⟩ (c_X12_isWord_g l dC dI h g ca (u2 (u2 (u2 iv 12 34 n6) 12 37 n7) 12 38 n8) lv (u2 (u2 fa 12 26 f1) 12 30 f2) la (IX_a (c := 12) (k := 30) (IX_a (c := 12) (k := 26) (IX_i (c := 12) (k := 38) (IX_i (c := 12) (k := 37) (IX_i (c := 12) (k := 34) hI (show inb (0, 200) n6 from ⟨by omega, by omega⟩)) (show inb (0, 200) n7 from ⟨by omega, by omega⟩)) (show inb (0, 200) n8 from ⟨by omega, by omega⟩)) hf1) hf2) 5 108 101 97 115 116 0 ⟨by decide, by decide⟩ ⟨by decide, by decide⟩ ⟨by decide, by decide⟩ ⟨by decide, by decide⟩ ⟨by decide, by decide⟩ ⟨by decide, by decide⟩ ⟨by decide, by decide⟩ (show (n7 : Int32).toInt + (n8 : Int32).toInt ≤ 200 from by omega)) (kV 7 ht m_1468 m_1470 m_49 m_89 m_1471 rfl rfl hd_X12_isWord_v ⟨Nat.le_of_ble_eq_true rfl, Nat.le_of_ble_eq_true rfl⟩) (vR hP hK (rM_12 hK hP)) rfl rfl hl.1 rfl (lv_room (Nat.le_of_ble_eq_true rfl)) dX12_readClause_138 ⟨Nat.le_of_ble_eq_true rfl, Nat.le_of_ble_eq_true rfl⟩) (fun r11 hr11 => ?_)
        obtain ⟨hr11, xr11_0, xr11_1⟩ := hr11
        have : (5 : Int32).toInt = 5 := (by decide)
        have xr11_0 : (((r11 : Int32).toInt = 1 ∧ WdG (fun j => sg ((fa 12 32) j).toInt) (n7 : Int32).toInt ((n7 : Int32).toInt + (n8 : Int32).toInt) (5 : Int32).toInt (lt6 (108 : Int32) (101 : Int32) (97 : Int32) (115 : Int32) (116 : Int32) (0 : Int32))) ∨ ((r11 : Int32).toInt = 0 ∧ ¬ WdG (fun j => sg ((fa 12 32) j).toInt) (n7 : Int32).toInt ((n7 : Int32).toInt + (n8 : Int32).toInt) (5 : Int32).toInt (lt6 (108 : Int32) (101 : Int32) (97 : Int32) (115 : Int32) (116 : Int32) (0 : Int32)))) := xr11_0
        have xr11_1 : ((r11 : Int32).toInt = 0 ∨ (n8 : Int32).toInt = (5 : Int32).toInt) := xr11_1
        refine lv_if_eq (tgt := 148) hx hb dX12_readClause_141 (by decide) (fun c12 => ?_) (fun c12 => ?_)
        · have fc12 := z_eq (rfl : (r11).toInt = _) (by decide : (0 : Int32).toInt = 0) c12
          refine lv_aload_n hx hb dX12_readClause_148 rfl (lv_at hl 0 rfl) ?_
          refine lv_bipush (v := 6) hx hb dX12_readClause_149 (by decide) ?_
          refine lv_bipush (v := 109) hx hb dX12_readClause_151 (by decide) ?_
          refine lv_bipush (v := 105) hx hb dX12_readClause_153 (by decide) ?_
          refine lv_bipush (v := 100) hx hb dX12_readClause_155 (by decide) ?_
          refine lv_bipush (v := 100) hx hb dX12_readClause_157 (by decide) ?_
          refine lv_bipush (v := 108) hx hb dX12_readClause_159 (by decide) ?_
          refine lv_bipush (v := 101) hx hb dX12_readClause_161 (by decide) ?_
          refine vp_callSi (W.runV (As := [.int 6, .int 109, .int 105, .int 100, .int 100, .int 108, .int 101]) (rest := [.int k, .ref (g 12 28)]) ⟨hx, hb, hml, hown, ht⟩ (c_X12_isWord_g l dC dI h g ca (u2 (u2 (u2 iv 12 34 n6) 12 37 n7) 12 38 n8) lv (u2 (u2 fa 12 26 f1) 12 30 f2) la (IX_a (c := 12) (k := 30) (IX_a (c := 12) (k := 26) (IX_i (c := 12) (k := 38) (IX_i (c := 12) (k := 37) (IX_i (c := 12) (k := 34) hI (show inb (0, 200) n6 from ⟨by omega, by omega⟩)) (show inb (0, 200) n7 from ⟨by omega, by omega⟩)) (show inb (0, 200) n8 from ⟨by omega, by omega⟩)) hf1) hf2) 6 109 105 100 100 108 101 ⟨by decide, by decide⟩ ⟨by decide, by decide⟩ ⟨by decide, by decide⟩ ⟨by decide, by decide⟩ ⟨by decide, by decide⟩ ⟨by decide, by decide⟩ ⟨by decide, by decide⟩ (show (n7 : Int32).toInt + (n8 : Int32).toInt ≤ 200 from by omega)) (kV 7 ht m_1468 m_1470 m_49 m_89 m_1471 rfl rfl hd_X12_isWord_v ⟨Nat.le_of_ble_eq_true rfl, Nat.le_of_ble_eq_true rfl⟩) (vR hP hK (rM_12 hK hP)) rfl rfl hl.1 rfl (lv_room (Nat.le_of_ble_eq_true rfl)) dX12_readClause_163 ⟨Nat.le_of_ble_eq_true rfl, Nat.le_of_ble_eq_true rfl⟩) (fun r13 hr13 => ?_)
          obtain ⟨hr13, xr13_0, xr13_1⟩ := hr13
          have : (6 : Int32).toInt = 6 := (by decide)
          have xr13_0 : (((r13 : Int32).toInt = 1 ∧ WdG (fun j => sg ((fa 12 32) j).toInt) (n7 : Int32).toInt ((n7 : Int32).toInt + (n8 : Int32).toInt) (6 : Int32).toInt (lt6 (109 : Int32) (105 : Int32) (100 : Int32) (100 : Int32) (108 : Int32) (101 : Int32))) ∨ ((r13 : Int32).toInt = 0 ∧ ¬ WdG (fun j => sg ((fa 12 32) j).toInt) (n7 : Int32).toInt ((n7 : Int32).toInt + (n8 : Int32).toInt) (6 : Int32).toInt (lt6 (109 : Int32) (105 : Int32) (100 : Int32) (100 : Int32) (108 : Int32) (101 : Int32)))) := xr13_0
          have xr13_1 : ((r13 : Int32).toInt = 0 ∨ (n8 : Int32).toInt = (6 : Int32).toInt) := xr13_1
          refine lv_if_eq (tgt := 173) hx hb dX12_readClause_166 (by decide) (fun c14 => ?_) (fun c14 => ?_)
          · have fc14 := z_eq (rfl : (r13).toInt = _) (by decide : (0 : Int32).toInt = 0) c14
            refine lv_iconst (v := (-1)) hx hb dX12_readClause_173 (by decide) ?_
            refine tM_12_28 hx hb hK hP hD hS (f0 := (fa 12 28)) rfl (i := k) (x := (-1)) (vp_in_iff.mpr ⟨by omega, by omega⟩) dX12_readClause_174 (fun f15 ef15 H locs hP hD hS => ?_)
            have hf15 : ∀ j, inb (bA 12 28 j) (f15 j) := fun j => full_i _
            refine lv_aload_n hx hb dX12_readClause_175 rfl (lv_at hl 0 rfl) ?_
            refine lv_aload_n hx hb dX12_readClause_176 rfl (lv_at hl 0 rfl) ?_
            refine gM_12_28 hx hb ht hown hK hP m_1167 dX12_readClause_177 ?_
            refine lv_iload_n hx hb dX12_readClause_180 rfl (lv_at hl 2 rfl) ?_
            refine lM_12_28 hx hb hK hP (f := f15) rfl (vp_in_iff.mpr ⟨by omega, by omega⟩) dX12_readClause_181 ?_
            refine lv_topi (fun v16 ev16 => ?_)
            refine lv_if_lt (tgt := 189) hx hb dX12_readClause_182 (by decide) (fun c17 => ?_) (fun c17 => ?_)
            · have fc17 := z_lt (rfl : (v16).toInt = _) (by decide : (0 : Int32).toInt = 0) c17
              refine lv_iconst (v := 0) hx hb dX12_readClause_189 (by decide) ?_
              refine lv_iconst (v := 1) hx hb dX12_readClause_190 (by decide) ?_
              refine lv_aload_n hx hb dX12_readClause_191 rfl (lv_at hl 0 rfl) ?_
              refine gM_12_37 hx hb ht hown hK hP m_1176 (v := n7) rfl dX12_readClause_192 ?_
              have i_12_35 : 0 ≤ (iv 12 35).toInt ∧ (iv 12 35).toInt ≤ 5 := hI.1 12 35
              have hFc := free_all hD hS hA
              refine va_calli (va_runV (As := [.int 0, .int 1, .int n7]) (rest := []) ⟨hx, hb, hml, hown, ht⟩ (c_X12_want_r0 l dC dI H.size h g ca (u2 (u2 (u2 iv 12 34 n6) 12 37 n7) 12 38 n8) lv (u2 (u2 (u2 fa 12 26 f1) 12 30 f2) 12 28 f15) la (IX_a (c := 12) (k := 28) (IX_a (c := 12) (k := 30) (IX_a (c := 12) (k := 26) (IX_i (c := 12) (k := 38) (IX_i (c := 12) (k := 37) (IX_i (c := 12) (k := 34) hI (show inb (0, 200) n6 from ⟨by omega, by omega⟩)) (show inb (0, 200) n7 from ⟨by omega, by omega⟩)) (show inb (0, 200) n8 from ⟨by omega, by omega⟩)) hf1) hf2) hf15) 1 n7 ⟨by decide, by decide⟩) (kV 3 ht m_1472 m_1474 m_50 m_89 m_1475 rfl rfl hd_X12_want_v ⟨Nat.le_of_ble_eq_true rfl, Nat.le_of_ble_eq_true rfl⟩) (vW hP hK hD (rM_12 hK hP)) rfl rfl hl.1 rfl (lv_room (Nat.le_of_ble_eq_true rfl)) dX12_readClause_195 ⟨Nat.le_of_ble_eq_true rfl, Nat.le_of_ble_eq_true rfl⟩) hS (fun q _ h => hFc q h) hFc (fun r18 u t H1 locs ht9 hvm hr18 hB hz1 hk1 hS => ?_)
              obtain ⟨n19, n20, hn19, xr18_0, xr18_1, hr18, rfl⟩ := hr18
              have hn19 : 0 ≤ n19.toInt ∧ n19.toInt ≤ 5 := hn19
              obtain ⟨hP, hD⟩ := hB
              rw [ht9] at hP
              generalize H1 = H at hP hS ⊢
              have hP : va_P (dC, dI) classes (WM h g ca (u2 (u2 (u2 (u2 (u2 iv 12 34 n6) 12 37 n7) 12 38 n8) 12 35 n19) 12 36 n20) lv (u2 (u2 (u2 fa 12 26 f1) 12 30 f2) 12 28 f15) la) H := hP
              have hD : va_D A (WM h g ca (u2 (u2 (u2 (u2 (u2 iv 12 34 n6) 12 37 n7) 12 38 n8) 12 35 n19) 12 36 n20) lv (u2 (u2 (u2 fa 12 26 f1) 12 30 f2) 12 28 f15) la) := (show va_D _ (WM h g ca (u2 (u2 (u2 (u2 (u2 iv 12 34 n6) 12 37 n7) 12 38 n8) 12 35 n19) 12 36 n20) lv (u2 (u2 (u2 fa 12 26 f1) 12 30 f2) 12 28 f15) la) from hD).weaken (fun _ _ _ h => hFc _ h)
              have xr18_0 : 1 ≤ (n19 : Int32).toInt := xr18_0
              have : (1 : Int32).toInt = 1 := (by decide)
              have xr18_1 : ((((iv 12 35) : Int32).toInt = 0 ∧ (n19 : Int32).toInt = (1 : Int32).toInt ∧ (n20 : Int32).toInt = (n7 : Int32).toInt) ∨ (((iv 12 35) : Int32).toInt ≠ 0 ∧ (n19 : Int32).toInt = ((iv 12 35) : Int32).toInt ∧ (n20 : Int32).toInt = ((iv 12 36) : Int32).toInt)) := xr18_1
              obtain rfl : 0 = r18 := hr18.symm
              refine lv_istore_n (lv' := [(3, .int 0), (0, .ref h), (1, .int 1), (2, .int k)]) hx hb dX12_readClause_198 rfl hl (by decide) rfl (fun ls hl => ?_)
              refine lv_goto (tgt := 257) hx hb dX12_readClause_199 (by decide) ?_
              refine lv_aload_n hx hb dX12_readClause_257 rfl (lv_at hl 1 rfl) ?_
              have hFc := free_all hD hS hA
              refine va_calli (va_runV (As := []) (rest := []) ⟨hx, hb, hml, hown, ht⟩ (c_X12_here_r l dC dI H.size h g ca (u2 (u2 (u2 (u2 (u2 iv 12 34 n6) 12 37 n7) 12 38 n8) 12 35 n19) 12 36 n20) lv (u2 (u2 (u2 fa 12 26 f1) 12 30 f2) 12 28 f15) la (IX_a (c := 12) (k := 28) (IX_a (c := 12) (k := 30) (IX_a (c := 12) (k := 26) (IX_i (c := 12) (k := 36) (IX_i (c := 12) (k := 35) (IX_i (c := 12) (k := 38) (IX_i (c := 12) (k := 37) (IX_i (c := 12) (k := 34) hI (show inb (0, 200) n6 from ⟨by omega, by omega⟩)) (show inb (0, 200) n7 from ⟨by omega, by omega⟩)) (show inb (0, 200) n8 from ⟨by omega, by omega⟩)) (show inb (0, 5) n19 from ⟨by omega, by omega⟩)) (full_i _)) hf1) hf2) hf15)) (kV 0 ht m_1458 m_1460 m_47 m_89 m_1461 rfl rfl hd_X12_here_v ⟨Nat.le_of_ble_eq_true rfl, Nat.le_of_ble_eq_true rfl⟩) (vW hP hK hD (rM_12 hK hP)) rfl rfl hl.1 rfl (lv_room (Nat.le_of_ble_eq_true rfl)) dX12_readClause_258 ⟨Nat.le_of_ble_eq_true rfl, Nat.le_of_ble_eq_true rfl⟩) hS (fun q _ h => hFc q h) hFc (fun r21 u t H1 locs ht9 hvm hr21 hB hz1 hk1 hS => ?_)
              obtain ⟨n22, hn22, xr21_0, xr21_1, xr21_2, hr21, rfl⟩ := hr21
              have hn22 : 0 ≤ n22.toInt ∧ n22.toInt ≤ 200 := hn22
              obtain ⟨hP, hD⟩ := hB
              rw [ht9] at hP
              generalize H1 = H at hP hS ⊢
              have hP : va_P (dC, dI) classes (WM h g ca (u2 (u2 (u2 (u2 (u2 iv 12 34 n22) 12 37 n7) 12 38 n8) 12 35 n19) 12 36 n20) lv (u2 (u2 (u2 fa 12 26 f1) 12 30 f2) 12 28 f15) la) H := hP
              have hD : va_D A (WM h g ca (u2 (u2 (u2 (u2 (u2 iv 12 34 n22) 12 37 n7) 12 38 n8) 12 35 n19) 12 36 n20) lv (u2 (u2 (u2 fa 12 26 f1) 12 30 f2) 12 28 f15) la) := (show va_D _ (WM h g ca (u2 (u2 (u2 (u2 (u2 iv 12 34 n22) 12 37 n7) 12 38 n8) 12 35 n19) 12 36 n20) lv (u2 (u2 (u2 fa 12 26 f1) 12 30 f2) 12 28 f15) la) from hD).weaken (fun _ _ _ h => hFc _ h)
              have xr21_0 : (n6 : Int32).toInt ≤ (n22 : Int32).toInt := xr21_0
              have xr21_1 : Sk (fun j => sg ((fa 12 32) j).toInt) ((iv 12 33) : Int32).toInt (n6 : Int32).toInt (n22 : Int32).toInt := xr21_1
              have xr21_2 : (((r21 : Int32).toInt = -1 ∧ ((iv 12 33) : Int32).toInt ≤ (n22 : Int32).toInt) ∨ ((n22 : Int32).toInt < ((iv 12 33) : Int32).toInt ∧ (r21 : Int32).toInt = ((fa 12 32) ((n22 : Int32).toInt).toNat).toInt)) := xr21_2
              refine lv_istore_n (lv' := [(3, .int r21), (0, .ref h), (1, .int 1), (2, .int k)]) hx hb dX12_readClause_261 rfl hl (by decide) rfl (fun ls hl => ?_)
              refine lv_aload_n hx hb dX12_readClause_262 rfl (lv_at hl 1 rfl) ?_
              refine lv_iload_n hx hb dX12_readClause_263 rfl (lv_at hl 0 rfl) ?_
              refine lv_bipush (v := 59) hx hb dX12_readClause_264 (by decide) ?_
              refine lv_icmp_ne (tgt := 273) hx hb dX12_readClause_266 (by decide) (fun c23 => ?_) (fun c23 => ?_)
              · have fc23 := z_ne (rfl : (r21).toInt = _) (by decide : (59 : Int32).toInt = 59) c23
                refine lv_iconst (v := 0) hx hb dX12_readClause_273 (by decide) ?_
                refine lv_iconst (v := 1) hx hb dX12_readClause_274 (by decide) ?_
                refine lv_aload_n hx hb dX12_readClause_275 rfl (lv_at hl 1 rfl) ?_
                refine gM_12_34 hx hb ht hown hK hP m_1173 (v := n22) rfl dX12_readClause_276 ?_
                have hFc := free_all hD hS hA
                refine va_calli (va_runV (As := [.int 0, .int 1, .int n22]) (rest := []) ⟨hx, hb, hml, hown, ht⟩ (c_X12_want_r0 l dC dI H.size h g ca (u2 (u2 (u2 (u2 (u2 iv 12 34 n22) 12 37 n7) 12 38 n8) 12 35 n19) 12 36 n20) lv (u2 (u2 (u2 fa 12 26 f1) 12 30 f2) 12 28 f15) la (IX_a (c := 12) (k := 28) (IX_a (c := 12) (k := 30) (IX_a (c := 12) (k := 26) (IX_i (c := 12) (k := 36) (IX_i (c := 12) (k := 35) (IX_i (c := 12) (k := 38) (IX_i (c := 12) (k := 37) (IX_i (c := 12) (k := 34) hI (show inb (0, 200) n22 from ⟨by omega, by omega⟩)) (show inb (0, 200) n7 from ⟨by omega, by omega⟩)) (show inb (0, 200) n8 from ⟨by omega, by omega⟩)) (show inb (0, 5) n19 from ⟨by omega, by omega⟩)) (full_i _)) hf1) hf2) hf15) 1 n22 ⟨by decide, by decide⟩) (kV 3 ht m_1472 m_1474 m_50 m_89 m_1475 rfl rfl hd_X12_want_v ⟨Nat.le_of_ble_eq_true rfl, Nat.le_of_ble_eq_true rfl⟩) (vW hP hK hD (rM_12 hK hP)) rfl rfl hl.1 rfl (lv_room (Nat.le_of_ble_eq_true rfl)) dX12_readClause_279 ⟨Nat.le_of_ble_eq_true rfl, Nat.le_of_ble_eq_true rfl⟩) hS (fun q _ h => hFc q h) hFc (fun r24 u t H1 locs ht9 hvm hr24 hB hz1 hk1 hS => ?_)
                obtain ⟨n25, n26, hn25, xr24_0, xr24_1, hr24, rfl⟩ := hr24
                have hn25 : 0 ≤ n25.toInt ∧ n25.toInt ≤ 5 := hn25
                obtain ⟨hP, hD⟩ := hB
                rw [ht9] at hP
                generalize H1 = H at hP hS ⊢
                have hP : va_P (dC, dI) classes (WM h g ca (u2 (u2 (u2 (u2 (u2 iv 12 34 n22) 12 37 n7) 12 38 n8) 12 35 n25) 12 36 n26) lv (u2 (u2 (u2 fa 12 26 f1) 12 30 f2) 12 28 f15) la) H := hP
                have hD : va_D A (WM h g ca (u2 (u2 (u2 (u2 (u2 iv 12 34 n22) 12 37 n7) 12 38 n8) 12 35 n25) 12 36 n26) lv (u2 (u2 (u2 fa 12 26 f1) 12 30 f2) 12 28 f15) la) := (show va_D _ (WM h g ca (u2 (u2 (u2 (u2 (u2 iv 12 34 n22) 12 37 n7) 12 38 n8) 12 35 n25) 12 36 n26) lv (u2 (u2 (u2 fa 12 26 f1) 12 30 f2) 12 28 f15) la) from hD).weaken (fun _ _ _ h => hFc _ h)
                have xr24_0 : 1 ≤ (n25 : Int32).toInt := xr24_0
                have xr24_1 : (((n19 : Int32).toInt = 0 ∧ (n25 : Int32).toInt = (1 : Int32).toInt ∧ (n26 : Int32).toInt = (n22 : Int32).toInt) ∨ ((n19 : Int32).toInt ≠ 0 ∧ (n25 : Int32).toInt = (n19 : Int32).toInt ∧ (n26 : Int32).toInt = (n20 : Int32).toInt)) := xr24_1
                obtain rfl : 0 = r24 := hr24.symm
                refine lv_if_eq (tgt := 295) hx hb dX12_readClause_282 (by decide) (fun c27 => ?_) (fun c27 => ?_)
                · skip
                  have hP9 : va_P (dC, dI) classes (WM h g ca (u2 (u2 (u2 (u2 (u2 iv 12 34 n22) 12 35 n25) 12 36 n26) 12 37 n7) 12 38 n8) lv (u2 (u2 (u2 fa 12 26 f1) 12 28 f15) 12 30 f2) la) H := hP
                  have hD9 : va_D A (WM h g ca (u2 (u2 (u2 (u2 (u2 iv 12 34 n22) 12 35 n25) 12 36 n26) 12 37 n7) 12 38 n8) lv (u2 (u2 (u2 fa 12 26 f1) 12 28 f15) 12 30 f2) la) := hD
                  exact W.vret hx hb hr (fun t ht9 hW => ⟨⟨((u2 (u2 (u2 (u2 (u2 iv 12 34 n22) 12 35 n25) 12 36 n26) 12 37 n7) 12 38 n8), lv, (u2 (u2 (u2 fa 12 26 f1) 12 28 f15) 12 30 f2), la), rfl, ⟨f1, f15, f2, n22, n25, n26, n7, n8, hf2, (show inb (0, 200) n22 from ⟨by omega, by omega⟩), (show inb (0, 5) n25 from ⟨by omega, by omega⟩), (show inb (0, 200) n7 from ⟨by omega, by omega⟩), (show inb (0, 200) n8 from ⟨by omega, by omega⟩), (show (iv 12 34).toInt ≤ (n22 : Int32).toInt from by omega), (show ∀ j : Nat, j ≠ k.toNatClampNeg → f1 j = (fa 12 26) j ∧ (fa 12 27) j = (fa 12 27) j ∧ f15 j = (fa 12 28) j from fun j hj => ⟨(by rw [ef1, upd_ne hj]), rfl, (by rw [ef15, upd_ne hj])⟩), (show ((n25 : Int32).toInt ≠ 0 ∨ gd3 (f1 k.toNatClampNeg) ((fa 12 27) k.toNatClampNeg) (f15 k.toNatClampNeg)) from (by
                        have kc : (1 : Int32).toInt = 1 := by decide
                        have kE : f1 k.toNatClampNeg = 1 := by rw [ef1]; exact upd_eq
                        have fE : f15 k.toNatClampNeg = (-1) := by rw [ef15]; exact upd_eq
                        have := congrArg Int32.toInt (ev16.trans fE)
                        by_cases h0 : (n25 : Int32).toInt = 0
                        · refine Or.inr ?_; rw [kE, fE]; unfold gd3; exact ⟨fun h => by omega, fun h h2 => by omega⟩
                        · exact Or.inl h0)), (show ∀ j : Nat, j ≠ k.toNatClampNeg → (fa 12 29) j = (fa 12 29) j ∧ f2 j = (fa 12 30) j from fun j hj => ⟨(rfl), (by rw [ef2, upd_ne (show j ≠ k.toNatClampNeg from hj)])⟩), (show ∀ j : Nat, (j : Int) < 8 * (k).toInt → (fa 12 31) j = (fa 12 31) j from fun j hj => rfl), (show f1 ((k).toInt).toNat = 1 from (by rw [ef1]; exact upd_eq)), (show (((n25 : Int32).toInt ≠ 0 ∧ ∃ b kd v1 : Int, TakR (fun j => sg ((fa 12 32) j).toInt) ((iv 12 33) : Int32).toInt (iv 12 34).toInt (n25 : Int32).toInt (n26 : Int32).toInt b kd v1) ∨ ((n25 : Int32).toInt = 0 ∧ (n26 : Int32).toInt = (iv 12 36).toInt ∧ TakR (fun j => sg ((fa 12 32) j).toInt) ((iv 12 33) : Int32).toInt (iv 12 34).toInt 0 0 (n22 : Int32).toInt 5 (f15 ((k).toInt).toNat).toInt)) from (by
                        have hE28 : f15 (k.toInt).toNat = (-1) := (by rw [ef15]; exact upd_eq)
                        have hl := congrArg Int32.toInt (ev16.trans (show f15 k.toNatClampNeg = (-1) from hE28))
                        have hz9 : ((-1) : Int32).toInt = -1 := by decide
                        have g0 := ((cw_mean xr9_0).resolve_left (fun q => by omega)).2
                        rw [xr5_1] at g0
                        have g1 := ((cw_least xr11_0).resolve_left (fun q => by omega)).2
                        rw [xr5_1] at g1
                        have g2 := ((cw_middle xr13_0).resolve_left (fun q => by omega)).2
                        rw [xr5_1] at g2
                        have hk : kwW (fun j => sg (fa 12 32 j).toInt) (n7 : Int32).toInt (n6 : Int32).toInt = -1 := by unfold kwW; rw [if_neg g0, if_neg g1, if_neg g2]
                        exact Or.inl ⟨by omega, 0, 0, 0, _, _, xr5_2, xr5_3, Or.inl ⟨hk, by omega, by omega⟩⟩)), rfl⟩, by rw [ht9]; exact hP9, hD9⟩, hS.F ht9⟩) hS.2.2 dX12_readClause_295
                · exact absurd rfl c27
              · have fc23 := z_eq (rfl : (r21).toInt = _) (by decide : (59 : Int32).toInt = 59) c23
                refine lv_iconst (v := 1) hx hb dX12_readClause_269 (by decide) ?_
                refine lv_goto (tgt := 274) hx hb dX12_readClause_270 (by decide) ?_
                refine lv_iconst (v := 1) hx hb dX12_readClause_274 (by decide) ?_
                refine lv_aload_n hx hb dX12_readClause_275 rfl (lv_at hl 1 rfl) ?_
                refine gM_12_34 hx hb ht hown hK hP m_1173 (v := n22) rfl dX12_readClause_276 ?_
                refine vp_callSi (W.runV (As := [.int 1, .int 1, .int n22]) (rest := []) ⟨hx, hb, hml, hown, ht⟩ (c_X12_want_1 l dC dI h g ca (u2 (u2 (u2 (u2 (u2 iv 12 34 n22) 12 37 n7) 12 38 n8) 12 35 n19) 12 36 n20) lv (u2 (u2 (u2 fa 12 26 f1) 12 30 f2) 12 28 f15) la (IX_a (c := 12) (k := 28) (IX_a (c := 12) (k := 30) (IX_a (c := 12) (k := 26) (IX_i (c := 12) (k := 36) (IX_i (c := 12) (k := 35) (IX_i (c := 12) (k := 38) (IX_i (c := 12) (k := 37) (IX_i (c := 12) (k := 34) hI (show inb (0, 200) n22 from ⟨by omega, by omega⟩)) (show inb (0, 200) n7 from ⟨by omega, by omega⟩)) (show inb (0, 200) n8 from ⟨by omega, by omega⟩)) (show inb (0, 5) n19 from ⟨by omega, by omega⟩)) (full_i _)) hf1) hf2) hf15) 1 n22) (kV 3 ht m_1472 m_1474 m_50 m_89 m_1475 rfl rfl hd_X12_want_v ⟨Nat.le_of_ble_eq_true rfl, Nat.le_of_ble_eq_true rfl⟩) (vR hP hK (rM_12 hK hP)) rfl rfl hl.1 rfl (lv_room (Nat.le_of_ble_eq_true rfl)) dX12_readClause_279 ⟨Nat.le_of_ble_eq_true rfl, Nat.le_of_ble_eq_true rfl⟩) (fun r28 hr28 => ?_)
                rcases hr28 with ⟨rfl, fr28⟩ | ⟨rfl, fr28⟩
                · skip
                  have fr28 : ((n19 : Int32).toInt = 0) := fr28
                  refine lv_if_eq (tgt := 295) hx hb dX12_readClause_282 (by decide) (fun c29 => ?_) (fun c29 => ?_)
                  · exact absurd c29 (by decide)
                  · skip
                    refine lv_aload_n hx hb dX12_readClause_285 rfl (lv_at hl 1 rfl) ?_
                    refine lv_dup hx hb dX12_readClause_286 rfl ?_
                    refine gM_12_34 hx hb ht hown hK hP m_1173 (v := n22) rfl dX12_readClause_287 ?_
                    refine lv_iconst (v := 1) hx hb dX12_readClause_290 (by decide) ?_
                    refine lv_iadd hx hb dX12_readClause_291 ?_
                    refine lv_topi (fun v30 ev30 => ?_)
                    have tv30 := z_add ev30 (rfl : (n22).toInt = _) (by decide : (1 : Int32).toInt = 1) (by omega) (by omega)
                    have : 0 ≤ (v30 : Int32).toInt ∧ (v30 : Int32).toInt ≤ 200 := ⟨by omega, by omega⟩
                    refine pM_12_34 (v := v30) hx hb ht hown hK hP hD hS m_1173 dX12_readClause_292 (fun H locs hP hD hS => ?_)
                    have hP : va_P (dC, dI) classes (WM h g ca (u2 (u2 (u2 (u2 (u2 iv 12 34 v30) 12 37 n7) 12 38 n8) 12 35 n19) 12 36 n20) lv (u2 (u2 (u2 fa 12 26 f1) 12 30 f2) 12 28 f15) la) H := hP
                    have hD : va_D A (WM h g ca (u2 (u2 (u2 (u2 (u2 iv 12 34 v30) 12 37 n7) 12 38 n8) 12 35 n19) 12 36 n20) lv (u2 (u2 (u2 fa 12 26 f1) 12 30 f2) 12 28 f15) la) := hD
                    have hP9 : va_P (dC, dI) classes (WM h g ca (u2 (u2 (u2 (u2 (u2 iv 12 34 v30) 12 35 n19) 12 36 n20) 12 37 n7) 12 38 n8) lv (u2 (u2 (u2 fa 12 26 f1) 12 28 f15) 12 30 f2) la) H := hP
                    have hD9 : va_D A (WM h g ca (u2 (u2 (u2 (u2 (u2 iv 12 34 v30) 12 35 n19) 12 36 n20) 12 37 n7) 12 38 n8) lv (u2 (u2 (u2 fa 12 26 f1) 12 28 f15) 12 30 f2) la) := hD
                    exact W.vret hx hb hr (fun t ht9 hW => ⟨⟨((u2 (u2 (u2 (u2 (u2 iv 12 34 v30) 12 35 n19) 12 36 n20) 12 37 n7) 12 38 n8), lv, (u2 (u2 (u2 fa 12 26 f1) 12 28 f15) 12 30 f2), la), rfl, ⟨f1, f15, f2, v30, n19, n20, n7, n8, hf2, (show inb (0, 200) v30 from ⟨by omega, by omega⟩), (show inb (0, 5) n19 from ⟨by omega, by omega⟩), (show inb (0, 200) n7 from ⟨by omega, by omega⟩), (show inb (0, 200) n8 from ⟨by omega, by omega⟩), (show (iv 12 34).toInt ≤ (v30 : Int32).toInt from by omega), (show ∀ j : Nat, j ≠ k.toNatClampNeg → f1 j = (fa 12 26) j ∧ (fa 12 27) j = (fa 12 27) j ∧ f15 j = (fa 12 28) j from fun j hj => ⟨(by rw [ef1, upd_ne hj]), rfl, (by rw [ef15, upd_ne hj])⟩), (show ((n19 : Int32).toInt ≠ 0 ∨ gd3 (f1 k.toNatClampNeg) ((fa 12 27) k.toNatClampNeg) (f15 k.toNatClampNeg)) from (by
                          have kc : (1 : Int32).toInt = 1 := by decide
                          have kE : f1 k.toNatClampNeg = 1 := by rw [ef1]; exact upd_eq
                          have fE : f15 k.toNatClampNeg = (-1) := by rw [ef15]; exact upd_eq
                          have := congrArg Int32.toInt (ev16.trans fE)
                          by_cases h0 : (n19 : Int32).toInt = 0
                          · refine Or.inr ?_; rw [kE, fE]; unfold gd3; exact ⟨fun h => by omega, fun h h2 => by omega⟩
                          · exact Or.inl h0)), (show ∀ j : Nat, j ≠ k.toNatClampNeg → (fa 12 29) j = (fa 12 29) j ∧ f2 j = (fa 12 30) j from fun j hj => ⟨(rfl), (by rw [ef2, upd_ne (show j ≠ k.toNatClampNeg from hj)])⟩), (show ∀ j : Nat, (j : Int) < 8 * (k).toInt → (fa 12 31) j = (fa 12 31) j from fun j hj => rfl), (show f1 ((k).toInt).toNat = 1 from (by rw [ef1]; exact upd_eq)), (show (((n19 : Int32).toInt ≠ 0 ∧ ∃ b kd v1 : Int, TakR (fun j => sg ((fa 12 32) j).toInt) ((iv 12 33) : Int32).toInt (iv 12 34).toInt (n19 : Int32).toInt (n20 : Int32).toInt b kd v1) ∨ ((n19 : Int32).toInt = 0 ∧ (n20 : Int32).toInt = (iv 12 36).toInt ∧ TakR (fun j => sg ((fa 12 32) j).toInt) ((iv 12 33) : Int32).toInt (iv 12 34).toInt 0 0 (v30 : Int32).toInt 5 (f15 ((k).toInt).toNat).toInt)) from (by
                          have hE28 : f15 (k.toInt).toNat = (-1) := (by rw [ef15]; exact upd_eq)
                          have hl := congrArg Int32.toInt (ev16.trans (show f15 k.toNatClampNeg = (-1) from hE28))
                          have hz9 : ((-1) : Int32).toInt = -1 := by decide
                          have g0 := ((cw_mean xr9_0).resolve_left (fun q => by omega)).2
                          rw [xr5_1] at g0
                          have g1 := ((cw_least xr11_0).resolve_left (fun q => by omega)).2
                          rw [xr5_1] at g1
                          have g2 := ((cw_middle xr13_0).resolve_left (fun q => by omega)).2
                          rw [xr5_1] at g2
                          have hk : kwW (fun j => sg (fa 12 32 j).toInt) (n7 : Int32).toInt (n6 : Int32).toInt = -1 := by unfold kwW; rw [if_neg g0, if_neg g1, if_neg g2]
                          exfalso; omega)), rfl⟩, by rw [ht9]; exact hP9, hD9⟩, hS.F ht9⟩) hS.2.2 dX12_readClause_295
                · skip
                  have fr28 : ¬ ((n19 : Int32).toInt = 0) := fr28
                  refine lv_if_eq (tgt := 295) hx hb dX12_readClause_282 (by decide) (fun c31 => ?_) (fun c31 => ?_)
                  · skip
                    have hP9 : va_P (dC, dI) classes (WM h g ca (u2 (u2 (u2 (u2 (u2 iv 12 34 n22) 12 35 n19) 12 36 n20) 12 37 n7) 12 38 n8) lv (u2 (u2 (u2 fa 12 26 f1) 12 28 f15) 12 30 f2) la) H := hP
                    have hD9 : va_D A (WM h g ca (u2 (u2 (u2 (u2 (u2 iv 12 34 n22) 12 35 n19) 12 36 n20) 12 37 n7) 12 38 n8) lv (u2 (u2 (u2 fa 12 26 f1) 12 28 f15) 12 30 f2) la) := hD
                    exact W.vret hx hb hr (fun t ht9 hW => ⟨⟨((u2 (u2 (u2 (u2 (u2 iv 12 34 n22) 12 35 n19) 12 36 n20) 12 37 n7) 12 38 n8), lv, (u2 (u2 (u2 fa 12 26 f1) 12 28 f15) 12 30 f2), la), rfl, ⟨f1, f15, f2, n22, n19, n20, n7, n8, hf2, (show inb (0, 200) n22 from ⟨by omega, by omega⟩), (show inb (0, 5) n19 from ⟨by omega, by omega⟩), (show inb (0, 200) n7 from ⟨by omega, by omega⟩), (show inb (0, 200) n8 from ⟨by omega, by omega⟩), (show (iv 12 34).toInt ≤ (n22 : Int32).toInt from by omega), (show ∀ j : Nat, j ≠ k.toNatClampNeg → f1 j = (fa 12 26) j ∧ (fa 12 27) j = (fa 12 27) j ∧ f15 j = (fa 12 28) j from fun j hj => ⟨(by rw [ef1, upd_ne hj]), rfl, (by rw [ef15, upd_ne hj])⟩), (show ((n19 : Int32).toInt ≠ 0 ∨ gd3 (f1 k.toNatClampNeg) ((fa 12 27) k.toNatClampNeg) (f15 k.toNatClampNeg)) from Or.inl (by omega)), (show ∀ j : Nat, j ≠ k.toNatClampNeg → (fa 12 29) j = (fa 12 29) j ∧ f2 j = (fa 12 30) j from fun j hj => ⟨(rfl), (by rw [ef2, upd_ne (show j ≠ k.toNatClampNeg from hj)])⟩), (show ∀ j : Nat, (j : Int) < 8 * (k).toInt → (fa 12 31) j = (fa 12 31) j from fun j hj => rfl), (show f1 ((k).toInt).toNat = 1 from (by rw [ef1]; exact upd_eq)), (show (((n19 : Int32).toInt ≠ 0 ∧ ∃ b kd v1 : Int, TakR (fun j => sg ((fa 12 32) j).toInt) ((iv 12 33) : Int32).toInt (iv 12 34).toInt (n19 : Int32).toInt (n20 : Int32).toInt b kd v1) ∨ ((n19 : Int32).toInt = 0 ∧ (n20 : Int32).toInt = (iv 12 36).toInt ∧ TakR (fun j => sg ((fa 12 32) j).toInt) ((iv 12 33) : Int32).toInt (iv 12 34).toInt 0 0 (n22 : Int32).toInt 5 (f15 ((k).toInt).toNat).toInt)) from (by
                          have hE28 : f15 (k.toInt).toNat = (-1) := (by rw [ef15]; exact upd_eq)
                          have hl := congrArg Int32.toInt (ev16.trans (show f15 k.toNatClampNeg = (-1) from hE28))
                          have hz9 : ((-1) : Int32).toInt = -1 := by decide
                          have g0 := ((cw_mean xr9_0).resolve_left (fun q => by omega)).2
                          rw [xr5_1] at g0
                          have g1 := ((cw_least xr11_0).resolve_left (fun q => by omega)).2
                          rw [xr5_1] at g1
                          have g2 := ((cw_middle xr13_0).resolve_left (fun q => by omega)).2
                          rw [xr5_1] at g2
                          have hk : kwW (fun j => sg (fa 12 32 j).toInt) (n7 : Int32).toInt (n6 : Int32).toInt = -1 := by unfold kwW; rw [if_neg g0, if_neg g1, if_neg g2]
                          exact Or.inl ⟨by omega, 0, 0, 0, _, _, xr5_2, xr5_3, Or.inl ⟨hk, by omega, by omega⟩⟩)), rfl⟩, by rw [ht9]; exact hP9, hD9⟩, hS.F ht9⟩) hS.2.2 dX12_readClause_295
                  · exact absurd rfl c31
            · have fc17 := z_nlt (rfl : (v16).toInt = _) (by decide : (0 : Int32).toInt = 0) c17
              refine lv_iconst (v := 1) hx hb dX12_readClause_185 (by decide) ?_
              refine lv_goto (tgt := 190) hx hb dX12_readClause_186 (by decide) ?_
              refine lv_iconst (v := 1) hx hb dX12_readClause_190 (by decide) ?_
              refine lv_aload_n hx hb dX12_readClause_191 rfl (lv_at hl 0 rfl) ?_
              refine gM_12_37 hx hb ht hown hK hP m_1176 (v := n7) rfl dX12_readClause_192 ?_
              refine vp_callSi (W.runV (As := [.int 1, .int 1, .int n7]) (rest := []) ⟨hx, hb, hml, hown, ht⟩ (c_X12_want_1 l dC dI h g ca (u2 (u2 (u2 iv 12 34 n6) 12 37 n7) 12 38 n8) lv (u2 (u2 (u2 fa 12 26 f1) 12 30 f2) 12 28 f15) la (IX_a (c := 12) (k := 28) (IX_a (c := 12) (k := 30) (IX_a (c := 12) (k := 26) (IX_i (c := 12) (k := 38) (IX_i (c := 12) (k := 37) (IX_i (c := 12) (k := 34) hI (show inb (0, 200) n6 from ⟨by omega, by omega⟩)) (show inb (0, 200) n7 from ⟨by omega, by omega⟩)) (show inb (0, 200) n8 from ⟨by omega, by omega⟩)) hf1) hf2) hf15) 1 n7) (kV 3 ht m_1472 m_1474 m_50 m_89 m_1475 rfl rfl hd_X12_want_v ⟨Nat.le_of_ble_eq_true rfl, Nat.le_of_ble_eq_true rfl⟩) (vR hP hK (rM_12 hK hP)) rfl rfl hl.1 rfl (lv_room (Nat.le_of_ble_eq_true rfl)) dX12_readClause_195 ⟨Nat.le_of_ble_eq_true rfl, Nat.le_of_ble_eq_true rfl⟩) (fun r32 hr32 => ?_)
              rcases hr32 with ⟨rfl, fr32⟩ | ⟨rfl, fr32⟩
              have i_12_35 : 0 ≤ (iv 12 35).toInt ∧ (iv 12 35).toInt ≤ 5 := hI.1 12 35
              · skip
                have i_12_35 : 0 ≤ (iv 12 35).toInt ∧ (iv 12 35).toInt ≤ 5 := hI.1 12 35
                have fr32 : (((iv 12 35) : Int32).toInt = 0) := fr32
                refine lv_istore_n (lv' := [(3, .int 1), (0, .ref h), (1, .int 1), (2, .int k)]) hx hb dX12_readClause_198 rfl hl (by decide) rfl (fun ls hl => ?_)
                refine lv_goto (tgt := 257) hx hb dX12_readClause_199 (by decide) ?_
                refine lv_aload_n hx hb dX12_readClause_257 rfl (lv_at hl 1 rfl) ?_
                have hFc := free_all hD hS hA
                refine va_calli (va_runV (As := []) (rest := []) ⟨hx, hb, hml, hown, ht⟩ (c_X12_here_r l dC dI H.size h g ca (u2 (u2 (u2 iv 12 34 n6) 12 37 n7) 12 38 n8) lv (u2 (u2 (u2 fa 12 26 f1) 12 30 f2) 12 28 f15) la (IX_a (c := 12) (k := 28) (IX_a (c := 12) (k := 30) (IX_a (c := 12) (k := 26) (IX_i (c := 12) (k := 38) (IX_i (c := 12) (k := 37) (IX_i (c := 12) (k := 34) hI (show inb (0, 200) n6 from ⟨by omega, by omega⟩)) (show inb (0, 200) n7 from ⟨by omega, by omega⟩)) (show inb (0, 200) n8 from ⟨by omega, by omega⟩)) hf1) hf2) hf15)) (kV 0 ht m_1458 m_1460 m_47 m_89 m_1461 rfl rfl hd_X12_here_v ⟨Nat.le_of_ble_eq_true rfl, Nat.le_of_ble_eq_true rfl⟩) (vW hP hK hD (rM_12 hK hP)) rfl rfl hl.1 rfl (lv_room (Nat.le_of_ble_eq_true rfl)) dX12_readClause_258 ⟨Nat.le_of_ble_eq_true rfl, Nat.le_of_ble_eq_true rfl⟩) hS (fun q _ h => hFc q h) hFc (fun r33 u t H1 locs ht9 hvm hr33 hB hz1 hk1 hS => ?_)
                obtain ⟨n34, hn34, xr33_0, xr33_1, xr33_2, hr33, rfl⟩ := hr33
                have hn34 : 0 ≤ n34.toInt ∧ n34.toInt ≤ 200 := hn34
                obtain ⟨hP, hD⟩ := hB
                rw [ht9] at hP
                generalize H1 = H at hP hS ⊢
                have hP : va_P (dC, dI) classes (WM h g ca (u2 (u2 (u2 iv 12 34 n34) 12 37 n7) 12 38 n8) lv (u2 (u2 (u2 fa 12 26 f1) 12 30 f2) 12 28 f15) la) H := hP
                have hD : va_D A (WM h g ca (u2 (u2 (u2 iv 12 34 n34) 12 37 n7) 12 38 n8) lv (u2 (u2 (u2 fa 12 26 f1) 12 30 f2) 12 28 f15) la) := (show va_D _ (WM h g ca (u2 (u2 (u2 iv 12 34 n34) 12 37 n7) 12 38 n8) lv (u2 (u2 (u2 fa 12 26 f1) 12 30 f2) 12 28 f15) la) from hD).weaken (fun _ _ _ h => hFc _ h)
                have xr33_0 : (n6 : Int32).toInt ≤ (n34 : Int32).toInt := xr33_0
                have xr33_1 : Sk (fun j => sg ((fa 12 32) j).toInt) ((iv 12 33) : Int32).toInt (n6 : Int32).toInt (n34 : Int32).toInt := xr33_1
                have xr33_2 : (((r33 : Int32).toInt = -1 ∧ ((iv 12 33) : Int32).toInt ≤ (n34 : Int32).toInt) ∨ ((n34 : Int32).toInt < ((iv 12 33) : Int32).toInt ∧ (r33 : Int32).toInt = ((fa 12 32) ((n34 : Int32).toInt).toNat).toInt)) := xr33_2
                refine lv_istore_n (lv' := [(3, .int r33), (0, .ref h), (1, .int 1), (2, .int k)]) hx hb dX12_readClause_261 rfl hl (by decide) rfl (fun ls hl => ?_)
                refine lv_aload_n hx hb dX12_readClause_262 rfl (lv_at hl 1 rfl) ?_
                refine lv_iload_n hx hb dX12_readClause_263 rfl (lv_at hl 0 rfl) ?_
                refine lv_bipush (v := 59) hx hb dX12_readClause_264 (by decide) ?_
                refine lv_icmp_ne (tgt := 273) hx hb dX12_readClause_266 (by decide) (fun c35 => ?_) (fun c35 => ?_)
                · have fc35 := z_ne (rfl : (r33).toInt = _) (by decide : (59 : Int32).toInt = 59) c35
                  refine lv_iconst (v := 0) hx hb dX12_readClause_273 (by decide) ?_
                  refine lv_iconst (v := 1) hx hb dX12_readClause_274 (by decide) ?_
                  refine lv_aload_n hx hb dX12_readClause_275 rfl (lv_at hl 1 rfl) ?_
                  refine gM_12_34 hx hb ht hown hK hP m_1173 (v := n34) rfl dX12_readClause_276 ?_
                  have hFc := free_all hD hS hA
                  refine va_calli (va_runV (As := [.int 0, .int 1, .int n34]) (rest := []) ⟨hx, hb, hml, hown, ht⟩ (c_X12_want_r0 l dC dI H.size h g ca (u2 (u2 (u2 iv 12 34 n34) 12 37 n7) 12 38 n8) lv (u2 (u2 (u2 fa 12 26 f1) 12 30 f2) 12 28 f15) la (IX_a (c := 12) (k := 28) (IX_a (c := 12) (k := 30) (IX_a (c := 12) (k := 26) (IX_i (c := 12) (k := 38) (IX_i (c := 12) (k := 37) (IX_i (c := 12) (k := 34) hI (show inb (0, 200) n34 from ⟨by omega, by omega⟩)) (show inb (0, 200) n7 from ⟨by omega, by omega⟩)) (show inb (0, 200) n8 from ⟨by omega, by omega⟩)) hf1) hf2) hf15) 1 n34 ⟨by decide, by decide⟩) (kV 3 ht m_1472 m_1474 m_50 m_89 m_1475 rfl rfl hd_X12_want_v ⟨Nat.le_of_ble_eq_true rfl, Nat.le_of_ble_eq_true rfl⟩) (vW hP hK hD (rM_12 hK hP)) rfl rfl hl.1 rfl (lv_room (Nat.le_of_ble_eq_true rfl)) dX12_readClause_279 ⟨Nat.le_of_ble_eq_true rfl, Nat.le_of_ble_eq_true rfl⟩) hS (fun q _ h => hFc q h) hFc (fun r36 u t H1 locs ht9 hvm hr36 hB hz1 hk1 hS => ?_)
                  obtain ⟨n37, n38, hn37, xr36_0, xr36_1, hr36, rfl⟩ := hr36
                  have hn37 : 0 ≤ n37.toInt ∧ n37.toInt ≤ 5 := hn37
                  obtain ⟨hP, hD⟩ := hB
                  rw [ht9] at hP
                  generalize H1 = H at hP hS ⊢
                  have hP : va_P (dC, dI) classes (WM h g ca (u2 (u2 (u2 (u2 (u2 iv 12 34 n34) 12 37 n7) 12 38 n8) 12 35 n37) 12 36 n38) lv (u2 (u2 (u2 fa 12 26 f1) 12 30 f2) 12 28 f15) la) H := hP
                  have hD : va_D A (WM h g ca (u2 (u2 (u2 (u2 (u2 iv 12 34 n34) 12 37 n7) 12 38 n8) 12 35 n37) 12 36 n38) lv (u2 (u2 (u2 fa 12 26 f1) 12 30 f2) 12 28 f15) la) := (show va_D _ (WM h g ca (u2 (u2 (u2 (u2 (u2 iv 12 34 n34) 12 37 n7) 12 38 n8) 12 35 n37) 12 36 n38) lv (u2 (u2 (u2 fa 12 26 f1) 12 30 f2) 12 28 f15) la) from hD).weaken (fun _ _ _ h => hFc _ h)
                  have xr36_0 : 1 ≤ (n37 : Int32).toInt := xr36_0
                  have : (1 : Int32).toInt = 1 := (by decide)
                  have xr36_1 : ((((iv 12 35) : Int32).toInt = 0 ∧ (n37 : Int32).toInt = (1 : Int32).toInt ∧ (n38 : Int32).toInt = (n34 : Int32).toInt) ∨ (((iv 12 35) : Int32).toInt ≠ 0 ∧ (n37 : Int32).toInt = ((iv 12 35) : Int32).toInt ∧ (n38 : Int32).toInt = ((iv 12 36) : Int32).toInt)) := xr36_1
                  obtain rfl : 0 = r36 := hr36.symm
                  refine lv_if_eq (tgt := 295) hx hb dX12_readClause_282 (by decide) (fun c39 => ?_) (fun c39 => ?_)
                  · skip
                    have hP9 : va_P (dC, dI) classes (WM h g ca (u2 (u2 (u2 (u2 (u2 iv 12 34 n34) 12 35 n37) 12 36 n38) 12 37 n7) 12 38 n8) lv (u2 (u2 (u2 fa 12 26 f1) 12 28 f15) 12 30 f2) la) H := hP
                    have hD9 : va_D A (WM h g ca (u2 (u2 (u2 (u2 (u2 iv 12 34 n34) 12 35 n37) 12 36 n38) 12 37 n7) 12 38 n8) lv (u2 (u2 (u2 fa 12 26 f1) 12 28 f15) 12 30 f2) la) := hD
                    exact W.vret hx hb hr (fun t ht9 hW => ⟨⟨((u2 (u2 (u2 (u2 (u2 iv 12 34 n34) 12 35 n37) 12 36 n38) 12 37 n7) 12 38 n8), lv, (u2 (u2 (u2 fa 12 26 f1) 12 28 f15) 12 30 f2), la), rfl, ⟨f1, f15, f2, n34, n37, n38, n7, n8, hf2, (show inb (0, 200) n34 from ⟨by omega, by omega⟩), (show inb (0, 5) n37 from ⟨by omega, by omega⟩), (show inb (0, 200) n7 from ⟨by omega, by omega⟩), (show inb (0, 200) n8 from ⟨by omega, by omega⟩), (show (iv 12 34).toInt ≤ (n34 : Int32).toInt from by omega), (show ∀ j : Nat, j ≠ k.toNatClampNeg → f1 j = (fa 12 26) j ∧ (fa 12 27) j = (fa 12 27) j ∧ f15 j = (fa 12 28) j from fun j hj => ⟨(by rw [ef1, upd_ne hj]), rfl, (by rw [ef15, upd_ne hj])⟩), (show ((n37 : Int32).toInt ≠ 0 ∨ gd3 (f1 k.toNatClampNeg) ((fa 12 27) k.toNatClampNeg) (f15 k.toNatClampNeg)) from (by
                          have kc : (1 : Int32).toInt = 1 := by decide
                          have kE : f1 k.toNatClampNeg = 1 := by rw [ef1]; exact upd_eq
                          have fE : f15 k.toNatClampNeg = (-1) := by rw [ef15]; exact upd_eq
                          have := congrArg Int32.toInt (ev16.trans fE)
                          by_cases h0 : (n37 : Int32).toInt = 0
                          · refine Or.inr ?_; rw [kE, fE]; unfold gd3; exact ⟨fun h => by omega, fun h h2 => by omega⟩
                          · exact Or.inl h0)), (show ∀ j : Nat, j ≠ k.toNatClampNeg → (fa 12 29) j = (fa 12 29) j ∧ f2 j = (fa 12 30) j from fun j hj => ⟨(rfl), (by rw [ef2, upd_ne (show j ≠ k.toNatClampNeg from hj)])⟩), (show ∀ j : Nat, (j : Int) < 8 * (k).toInt → (fa 12 31) j = (fa 12 31) j from fun j hj => rfl), (show f1 ((k).toInt).toNat = 1 from (by rw [ef1]; exact upd_eq)), (show (((n37 : Int32).toInt ≠ 0 ∧ ∃ b kd v1 : Int, TakR (fun j => sg ((fa 12 32) j).toInt) ((iv 12 33) : Int32).toInt (iv 12 34).toInt (n37 : Int32).toInt (n38 : Int32).toInt b kd v1) ∨ ((n37 : Int32).toInt = 0 ∧ (n38 : Int32).toInt = (iv 12 36).toInt ∧ TakR (fun j => sg ((fa 12 32) j).toInt) ((iv 12 33) : Int32).toInt (iv 12 34).toInt 0 0 (n34 : Int32).toInt 5 (f15 ((k).toInt).toNat).toInt)) from (by
                          have hE28 : f15 (k.toInt).toNat = (-1) := (by rw [ef15]; exact upd_eq)
                          have hl := congrArg Int32.toInt (ev16.trans (show f15 k.toNatClampNeg = (-1) from hE28))
                          have hz9 : ((-1) : Int32).toInt = -1 := by decide
                          exfalso; omega)), rfl⟩, by rw [ht9]; exact hP9, hD9⟩, hS.F ht9⟩) hS.2.2 dX12_readClause_295
                  · exact absurd rfl c39
                · have fc35 := z_eq (rfl : (r33).toInt = _) (by decide : (59 : Int32).toInt = 59) c35
                  refine lv_iconst (v := 1) hx hb dX12_readClause_269 (by decide) ?_
                  refine lv_goto (tgt := 274) hx hb dX12_readClause_270 (by decide) ?_
                  refine lv_iconst (v := 1) hx hb dX12_readClause_274 (by decide) ?_
                  refine lv_aload_n hx hb dX12_readClause_275 rfl (lv_at hl 1 rfl) ?_
                  refine gM_12_34 hx hb ht hown hK hP m_1173 (v := n34) rfl dX12_readClause_276 ?_
                  refine vp_callSi (W.runV (As := [.int 1, .int 1, .int n34]) (rest := []) ⟨hx, hb, hml, hown, ht⟩ (c_X12_want_1 l dC dI h g ca (u2 (u2 (u2 iv 12 34 n34) 12 37 n7) 12 38 n8) lv (u2 (u2 (u2 fa 12 26 f1) 12 30 f2) 12 28 f15) la (IX_a (c := 12) (k := 28) (IX_a (c := 12) (k := 30) (IX_a (c := 12) (k := 26) (IX_i (c := 12) (k := 38) (IX_i (c := 12) (k := 37) (IX_i (c := 12) (k := 34) hI (show inb (0, 200) n34 from ⟨by omega, by omega⟩)) (show inb (0, 200) n7 from ⟨by omega, by omega⟩)) (show inb (0, 200) n8 from ⟨by omega, by omega⟩)) hf1) hf2) hf15) 1 n34) (kV 3 ht m_1472 m_1474 m_50 m_89 m_1475 rfl rfl hd_X12_want_v ⟨Nat.le_of_ble_eq_true rfl, Nat.le_of_ble_eq_true rfl⟩) (vR hP hK (rM_12 hK hP)) rfl rfl hl.1 rfl (lv_room (Nat.le_of_ble_eq_true rfl)) dX12_readClause_279 ⟨Nat.le_of_ble_eq_true rfl, Nat.le_of_ble_eq_true rfl⟩) (fun r40 hr40 => ?_)
                  rcases hr40 with ⟨rfl, fr40⟩ | ⟨rfl, fr40⟩
                  · skip
                    have fr40 : (((iv 12 35) : Int32).toInt = 0) := fr40
                    refine lv_if_eq (tgt := 295) hx hb dX12_readClause_282 (by decide) (fun c41 => ?_) (fun c41 => ?_)
                    · exact absurd c41 (by decide)
                    · skip
                      refine lv_aload_n hx hb dX12_readClause_285 rfl (lv_at hl 1 rfl) ?_
                      refine lv_dup hx hb dX12_readClause_286 rfl ?_
                      refine gM_12_34 hx hb ht hown hK hP m_1173 (v := n34) rfl dX12_readClause_287 ?_
                      refine lv_iconst (v := 1) hx hb dX12_readClause_290 (by decide) ?_
                      refine lv_iadd hx hb dX12_readClause_291 ?_
                      refine lv_topi (fun v42 ev42 => ?_)
                      have tv42 := z_add ev42 (rfl : (n34).toInt = _) (by decide : (1 : Int32).toInt = 1) (by omega) (by omega)
                      have : 0 ≤ (v42 : Int32).toInt ∧ (v42 : Int32).toInt ≤ 200 := ⟨by omega, by omega⟩
                      refine pM_12_34 (v := v42) hx hb ht hown hK hP hD hS m_1173 dX12_readClause_292 (fun H locs hP hD hS => ?_)
                      have hP : va_P (dC, dI) classes (WM h g ca (u2 (u2 (u2 iv 12 34 v42) 12 37 n7) 12 38 n8) lv (u2 (u2 (u2 fa 12 26 f1) 12 30 f2) 12 28 f15) la) H := hP
                      have hD : va_D A (WM h g ca (u2 (u2 (u2 iv 12 34 v42) 12 37 n7) 12 38 n8) lv (u2 (u2 (u2 fa 12 26 f1) 12 30 f2) 12 28 f15) la) := hD
                      have hP9 : va_P (dC, dI) classes (WM h g ca (u2 (u2 (u2 (u2 (u2 iv 12 34 v42) 12 35 (iv 12 35)) 12 36 (iv 12 36)) 12 37 n7) 12 38 n8) lv (u2 (u2 (u2 fa 12 26 f1) 12 28 f15) 12 30 f2) la) H := hP
                      have hD9 : va_D A (WM h g ca (u2 (u2 (u2 (u2 (u2 iv 12 34 v42) 12 35 (iv 12 35)) 12 36 (iv 12 36)) 12 37 n7) 12 38 n8) lv (u2 (u2 (u2 fa 12 26 f1) 12 28 f15) 12 30 f2) la) := hD
                      exact W.vret hx hb hr (fun t ht9 hW => ⟨⟨((u2 (u2 (u2 (u2 (u2 iv 12 34 v42) 12 35 (iv 12 35)) 12 36 (iv 12 36)) 12 37 n7) 12 38 n8), lv, (u2 (u2 (u2 fa 12 26 f1) 12 28 f15) 12 30 f2), la), rfl, ⟨f1, f15, f2, v42, (iv 12 35), (iv 12 36), n7, n8, hf2, (show inb (0, 200) v42 from ⟨by omega, by omega⟩), (hI.1 12 35), (show inb (0, 200) n7 from ⟨by omega, by omega⟩), (show inb (0, 200) n8 from ⟨by omega, by omega⟩), (show (iv 12 34).toInt ≤ (v42 : Int32).toInt from by omega), (show ∀ j : Nat, j ≠ k.toNatClampNeg → f1 j = (fa 12 26) j ∧ (fa 12 27) j = (fa 12 27) j ∧ f15 j = (fa 12 28) j from fun j hj => ⟨(by rw [ef1, upd_ne hj]), rfl, (by rw [ef15, upd_ne hj])⟩), (show (((iv 12 35) : Int32).toInt ≠ 0 ∨ gd3 (f1 k.toNatClampNeg) ((fa 12 27) k.toNatClampNeg) (f15 k.toNatClampNeg)) from (by
                            have kc : (1 : Int32).toInt = 1 := by decide
                            have kE : f1 k.toNatClampNeg = 1 := by rw [ef1]; exact upd_eq
                            have fE : f15 k.toNatClampNeg = (-1) := by rw [ef15]; exact upd_eq
                            have := congrArg Int32.toInt (ev16.trans fE)
                            by_cases h0 : ((iv 12 35) : Int32).toInt = 0
                            · refine Or.inr ?_; rw [kE, fE]; unfold gd3; exact ⟨fun h => by omega, fun h h2 => by omega⟩
                            · exact Or.inl h0)), (show ∀ j : Nat, j ≠ k.toNatClampNeg → (fa 12 29) j = (fa 12 29) j ∧ f2 j = (fa 12 30) j from fun j hj => ⟨(rfl), (by rw [ef2, upd_ne (show j ≠ k.toNatClampNeg from hj)])⟩), (show ∀ j : Nat, (j : Int) < 8 * (k).toInt → (fa 12 31) j = (fa 12 31) j from fun j hj => rfl), (show f1 ((k).toInt).toNat = 1 from (by rw [ef1]; exact upd_eq)), (show ((((iv 12 35) : Int32).toInt ≠ 0 ∧ ∃ b kd v1 : Int, TakR (fun j => sg ((fa 12 32) j).toInt) ((iv 12 33) : Int32).toInt (iv 12 34).toInt ((iv 12 35) : Int32).toInt ((iv 12 36) : Int32).toInt b kd v1) ∨ (((iv 12 35) : Int32).toInt = 0 ∧ ((iv 12 36) : Int32).toInt = (iv 12 36).toInt ∧ TakR (fun j => sg ((fa 12 32) j).toInt) ((iv 12 33) : Int32).toInt (iv 12 34).toInt 0 0 (v42 : Int32).toInt 5 (f15 ((k).toInt).toNat).toInt)) from (by
                            have hE28 : f15 (k.toInt).toNat = (-1) := (by rw [ef15]; exact upd_eq)
                            have hl := congrArg Int32.toInt (ev16.trans (show f15 k.toNatClampNeg = (-1) from hE28))
                            have hz9 : ((-1) : Int32).toInt = -1 := by decide
                            exfalso; omega)), rfl⟩, by rw [ht9]; exact hP9, hD9⟩, hS.F ht9⟩) hS.2.2 dX12_readClause_295
                  · skip
                    have fr40 : ¬ (((iv 12 35) : Int32).toInt = 0) := fr40
                    exfalso; omega
              · skip
                have fr32 : ¬ (((iv 12 35) : Int32).toInt = 0) := fr32
                exfalso; omega
          · have fc14 := z_ne (rfl : (r13).toInt = _) (by decide : (0 : Int32).toInt = 0) c14
            refine lv_iconst (v := 2) hx hb dX12_readClause_169 (by decide) ?_
            refine lv_goto (tgt := 174) hx hb dX12_readClause_170 (by decide) ?_
            refine tM_12_28 hx hb hK hP hD hS (f0 := (fa 12 28)) rfl (i := k) (x := 2) (vp_in_iff.mpr ⟨by omega, by omega⟩) dX12_readClause_174 (fun f43 ef43 H locs hP hD hS => ?_)
            have hf43 : ∀ j, inb (bA 12 28 j) (f43 j) := fun j => full_i _
            refine lv_aload_n hx hb dX12_readClause_175 rfl (lv_at hl 0 rfl) ?_
            refine lv_aload_n hx hb dX12_readClause_176 rfl (lv_at hl 0 rfl) ?_
            refine gM_12_28 hx hb ht hown hK hP m_1167 dX12_readClause_177 ?_
            refine lv_iload_n hx hb dX12_readClause_180 rfl (lv_at hl 2 rfl) ?_
            refine lM_12_28 hx hb hK hP (f := f43) rfl (vp_in_iff.mpr ⟨by omega, by omega⟩) dX12_readClause_181 ?_
            refine lv_topi (fun v44 ev44 => ?_)
            refine lv_if_lt (tgt := 189) hx hb dX12_readClause_182 (by decide) (fun c45 => ?_) (fun c45 => ?_)
            · have fc45 := z_lt (rfl : (v44).toInt = _) (by decide : (0 : Int32).toInt = 0) c45
              refine lv_iconst (v := 0) hx hb dX12_readClause_189 (by decide) ?_
              refine lv_iconst (v := 1) hx hb dX12_readClause_190 (by decide) ?_
              refine lv_aload_n hx hb dX12_readClause_191 rfl (lv_at hl 0 rfl) ?_
              refine gM_12_37 hx hb ht hown hK hP m_1176 (v := n7) rfl dX12_readClause_192 ?_
              have i_12_35 : 0 ≤ (iv 12 35).toInt ∧ (iv 12 35).toInt ≤ 5 := hI.1 12 35
              have hFc := free_all hD hS hA
              refine va_calli (va_runV (As := [.int 0, .int 1, .int n7]) (rest := []) ⟨hx, hb, hml, hown, ht⟩ (c_X12_want_r0 l dC dI H.size h g ca (u2 (u2 (u2 iv 12 34 n6) 12 37 n7) 12 38 n8) lv (u2 (u2 (u2 fa 12 26 f1) 12 30 f2) 12 28 f43) la (IX_a (c := 12) (k := 28) (IX_a (c := 12) (k := 30) (IX_a (c := 12) (k := 26) (IX_i (c := 12) (k := 38) (IX_i (c := 12) (k := 37) (IX_i (c := 12) (k := 34) hI (show inb (0, 200) n6 from ⟨by omega, by omega⟩)) (show inb (0, 200) n7 from ⟨by omega, by omega⟩)) (show inb (0, 200) n8 from ⟨by omega, by omega⟩)) hf1) hf2) hf43) 1 n7 ⟨by decide, by decide⟩) (kV 3 ht m_1472 m_1474 m_50 m_89 m_1475 rfl rfl hd_X12_want_v ⟨Nat.le_of_ble_eq_true rfl, Nat.le_of_ble_eq_true rfl⟩) (vW hP hK hD (rM_12 hK hP)) rfl rfl hl.1 rfl (lv_room (Nat.le_of_ble_eq_true rfl)) dX12_readClause_195 ⟨Nat.le_of_ble_eq_true rfl, Nat.le_of_ble_eq_true rfl⟩) hS (fun q _ h => hFc q h) hFc (fun r46 u t H1 locs ht9 hvm hr46 hB hz1 hk1 hS => ?_)
              obtain ⟨n47, n48, hn47, xr46_0, xr46_1, hr46, rfl⟩ := hr46
              have hn47 : 0 ≤ n47.toInt ∧ n47.toInt ≤ 5 := hn47
              obtain ⟨hP, hD⟩ := hB
              rw [ht9] at hP
              generalize H1 = H at hP hS ⊢
              have hP : va_P (dC, dI) classes (WM h g ca (u2 (u2 (u2 (u2 (u2 iv 12 34 n6) 12 37 n7) 12 38 n8) 12 35 n47) 12 36 n48) lv (u2 (u2 (u2 fa 12 26 f1) 12 30 f2) 12 28 f43) la) H := hP
              have hD : va_D A (WM h g ca (u2 (u2 (u2 (u2 (u2 iv 12 34 n6) 12 37 n7) 12 38 n8) 12 35 n47) 12 36 n48) lv (u2 (u2 (u2 fa 12 26 f1) 12 30 f2) 12 28 f43) la) := (show va_D _ (WM h g ca (u2 (u2 (u2 (u2 (u2 iv 12 34 n6) 12 37 n7) 12 38 n8) 12 35 n47) 12 36 n48) lv (u2 (u2 (u2 fa 12 26 f1) 12 30 f2) 12 28 f43) la) from hD).weaken (fun _ _ _ h => hFc _ h)
              have xr46_0 : 1 ≤ (n47 : Int32).toInt := xr46_0
              have : (1 : Int32).toInt = 1 := (by decide)
              have xr46_1 : ((((iv 12 35) : Int32).toInt = 0 ∧ (n47 : Int32).toInt = (1 : Int32).toInt ∧ (n48 : Int32).toInt = (n7 : Int32).toInt) ∨ (((iv 12 35) : Int32).toInt ≠ 0 ∧ (n47 : Int32).toInt = ((iv 12 35) : Int32).toInt ∧ (n48 : Int32).toInt = ((iv 12 36) : Int32).toInt)) := xr46_1
              obtain rfl : 0 = r46 := hr46.symm
              refine lv_istore_n (lv' := [(3, .int 0), (0, .ref h), (1, .int 1), (2, .int k)]) hx hb dX12_readClause_198 rfl hl (by decide) rfl (fun ls hl => ?_)
              refine lv_goto (tgt := 257) hx hb dX12_readClause_199 (by decide) ?_
              refine lv_aload_n hx hb dX12_readClause_257 rfl (lv_at hl 1 rfl) ?_
              have hFc := free_all hD hS hA
              refine va_calli (va_runV (As := []) (rest := []) ⟨hx, hb, hml, hown, ht⟩ (c_X12_here_r l dC dI H.size h g ca (u2 (u2 (u2 (u2 (u2 iv 12 34 n6) 12 37 n7) 12 38 n8) 12 35 n47) 12 36 n48) lv (u2 (u2 (u2 fa 12 26 f1) 12 30 f2) 12 28 f43) la (IX_a (c := 12) (k := 28) (IX_a (c := 12) (k := 30) (IX_a (c := 12) (k := 26) (IX_i (c := 12) (k := 36) (IX_i (c := 12) (k := 35) (IX_i (c := 12) (k := 38) (IX_i (c := 12) (k := 37) (IX_i (c := 12) (k := 34) hI (show inb (0, 200) n6 from ⟨by omega, by omega⟩)) (show inb (0, 200) n7 from ⟨by omega, by omega⟩)) (show inb (0, 200) n8 from ⟨by omega, by omega⟩)) (show inb (0, 5) n47 from ⟨by omega, by omega⟩)) (full_i _)) hf1) hf2) hf43)) (kV 0 ht m_1458 m_1460 m_47 m_89 m_1461 rfl rfl hd_X12_here_v ⟨Nat.le_of_ble_eq_true rfl, Nat.le_of_ble_eq_true rfl⟩) (vW hP hK hD (rM_12 hK hP)) rfl rfl hl.1 rfl (lv_room (Nat.le_of_ble_eq_true rfl)) dX12_readClause_258 ⟨Nat.le_of_ble_eq_true rfl, Nat.le_of_ble_eq_true rfl⟩) hS (fun q _ h => hFc q h) hFc (fun r49 u t H1 locs ht9 hvm hr49 hB hz1 hk1 hS => ?_)
              obtain ⟨n50, hn50, xr49_0, xr49_1, xr49_2, hr49, rfl⟩ := hr49
              have hn50 : 0 ≤ n50.toInt ∧ n50.toInt ≤ 200 := hn50
              obtain ⟨hP, hD⟩ := hB
              rw [ht9] at hP
              generalize H1 = H at hP hS ⊢
              have hP : va_P (dC, dI) classes (WM h g ca (u2 (u2 (u2 (u2 (u2 iv 12 34 n50) 12 37 n7) 12 38 n8) 12 35 n47) 12 36 n48) lv (u2 (u2 (u2 fa 12 26 f1) 12 30 f2) 12 28 f43) la) H := hP
              have hD : va_D A (WM h g ca (u2 (u2 (u2 (u2 (u2 iv 12 34 n50) 12 37 n7) 12 38 n8) 12 35 n47) 12 36 n48) lv (u2 (u2 (u2 fa 12 26 f1) 12 30 f2) 12 28 f43) la) := (show va_D _ (WM h g ca (u2 (u2 (u2 (u2 (u2 iv 12 34 n50) 12 37 n7) 12 38 n8) 12 35 n47) 12 36 n48) lv (u2 (u2 (u2 fa 12 26 f1) 12 30 f2) 12 28 f43) la) from hD).weaken (fun _ _ _ h => hFc _ h)
              have xr49_0 : (n6 : Int32).toInt ≤ (n50 : Int32).toInt := xr49_0
              have xr49_1 : Sk (fun j => sg ((fa 12 32) j).toInt) ((iv 12 33) : Int32).toInt (n6 : Int32).toInt (n50 : Int32).toInt := xr49_1
              have xr49_2 : (((r49 : Int32).toInt = -1 ∧ ((iv 12 33) : Int32).toInt ≤ (n50 : Int32).toInt) ∨ ((n50 : Int32).toInt < ((iv 12 33) : Int32).toInt ∧ (r49 : Int32).toInt = ((fa 12 32) ((n50 : Int32).toInt).toNat).toInt)) := xr49_2
              refine lv_istore_n (lv' := [(3, .int r49), (0, .ref h), (1, .int 1), (2, .int k)]) hx hb dX12_readClause_261 rfl hl (by decide) rfl (fun ls hl => ?_)
              refine lv_aload_n hx hb dX12_readClause_262 rfl (lv_at hl 1 rfl) ?_
              refine lv_iload_n hx hb dX12_readClause_263 rfl (lv_at hl 0 rfl) ?_
              refine lv_bipush (v := 59) hx hb dX12_readClause_264 (by decide) ?_
              refine lv_icmp_ne (tgt := 273) hx hb dX12_readClause_266 (by decide) (fun c51 => ?_) (fun c51 => ?_)
              · have fc51 := z_ne (rfl : (r49).toInt = _) (by decide : (59 : Int32).toInt = 59) c51
                refine lv_iconst (v := 0) hx hb dX12_readClause_273 (by decide) ?_
                refine lv_iconst (v := 1) hx hb dX12_readClause_274 (by decide) ?_
                refine lv_aload_n hx hb dX12_readClause_275 rfl (lv_at hl 1 rfl) ?_
                refine gM_12_34 hx hb ht hown hK hP m_1173 (v := n50) rfl dX12_readClause_276 ?_
                have hFc := free_all hD hS hA
                refine va_calli (va_runV (As := [.int 0, .int 1, .int n50]) (rest := []) ⟨hx, hb, hml, hown, ht⟩ (c_X12_want_r0 l dC dI H.size h g ca (u2 (u2 (u2 (u2 (u2 iv 12 34 n50) 12 37 n7) 12 38 n8) 12 35 n47) 12 36 n48) lv (u2 (u2 (u2 fa 12 26 f1) 12 30 f2) 12 28 f43) la (IX_a (c := 12) (k := 28) (IX_a (c := 12) (k := 30) (IX_a (c := 12) (k := 26) (IX_i (c := 12) (k := 36) (IX_i (c := 12) (k := 35) (IX_i (c := 12) (k := 38) (IX_i (c := 12) (k := 37) (IX_i (c := 12) (k := 34) hI (show inb (0, 200) n50 from ⟨by omega, by omega⟩)) (show inb (0, 200) n7 from ⟨by omega, by omega⟩)) (show inb (0, 200) n8 from ⟨by omega, by omega⟩)) (show inb (0, 5) n47 from ⟨by omega, by omega⟩)) (full_i _)) hf1) hf2) hf43) 1 n50 ⟨by decide, by decide⟩) (kV 3 ht m_1472 m_1474 m_50 m_89 m_1475 rfl rfl hd_X12_want_v ⟨Nat.le_of_ble_eq_true rfl, Nat.le_of_ble_eq_true rfl⟩) (vW hP hK hD (rM_12 hK hP)) rfl rfl hl.1 rfl (lv_room (Nat.le_of_ble_eq_true rfl)) dX12_readClause_279 ⟨Nat.le_of_ble_eq_true rfl, Nat.le_of_ble_eq_true rfl⟩) hS (fun q _ h => hFc q h) hFc (fun r52 u t H1 locs ht9 hvm hr52 hB hz1 hk1 hS => ?_)
                obtain ⟨n53, n54, hn53, xr52_0, xr52_1, hr52, rfl⟩ := hr52
                have hn53 : 0 ≤ n53.toInt ∧ n53.toInt ≤ 5 := hn53
                obtain ⟨hP, hD⟩ := hB
                rw [ht9] at hP
                generalize H1 = H at hP hS ⊢
                have hP : va_P (dC, dI) classes (WM h g ca (u2 (u2 (u2 (u2 (u2 iv 12 34 n50) 12 37 n7) 12 38 n8) 12 35 n53) 12 36 n54) lv (u2 (u2 (u2 fa 12 26 f1) 12 30 f2) 12 28 f43) la) H := hP
                have hD : va_D A (WM h g ca (u2 (u2 (u2 (u2 (u2 iv 12 34 n50) 12 37 n7) 12 38 n8) 12 35 n53) 12 36 n54) lv (u2 (u2 (u2 fa 12 26 f1) 12 30 f2) 12 28 f43) la) := (show va_D _ (WM h g ca (u2 (u2 (u2 (u2 (u2 iv 12 34 n50) 12 37 n7) 12 38 n8) 12 35 n53) 12 36 n54) lv (u2 (u2 (u2 fa 12 26 f1) 12 30 f2) 12 28 f43) la) from hD).weaken (fun _ _ _ h => hFc _ h)
                have xr52_0 : 1 ≤ (n53 : Int32).toInt := xr52_0
                have xr52_1 : (((n47 : Int32).toInt = 0 ∧ (n53 : Int32).toInt = (1 : Int32).toInt ∧ (n54 : Int32).toInt = (n50 : Int32).toInt) ∨ ((n47 : Int32).toInt ≠ 0 ∧ (n53 : Int32).toInt = (n47 : Int32).toInt ∧ (n54 : Int32).toInt = (n48 : Int32).toInt)) := xr52_1
                obtain rfl : 0 = r52 := hr52.symm
                refine lv_if_eq (tgt := 295) hx hb dX12_readClause_282 (by decide) (fun c55 => ?_) (fun c55 => ?_)
                · skip
                  have hP9 : va_P (dC, dI) classes (WM h g ca (u2 (u2 (u2 (u2 (u2 iv 12 34 n50) 12 35 n53) 12 36 n54) 12 37 n7) 12 38 n8) lv (u2 (u2 (u2 fa 12 26 f1) 12 28 f43) 12 30 f2) la) H := hP
                  have hD9 : va_D A (WM h g ca (u2 (u2 (u2 (u2 (u2 iv 12 34 n50) 12 35 n53) 12 36 n54) 12 37 n7) 12 38 n8) lv (u2 (u2 (u2 fa 12 26 f1) 12 28 f43) 12 30 f2) la) := hD
                  exact W.vret hx hb hr (fun t ht9 hW => ⟨⟨((u2 (u2 (u2 (u2 (u2 iv 12 34 n50) 12 35 n53) 12 36 n54) 12 37 n7) 12 38 n8), lv, (u2 (u2 (u2 fa 12 26 f1) 12 28 f43) 12 30 f2), la), rfl, ⟨f1, f43, f2, n50, n53, n54, n7, n8, hf2, (show inb (0, 200) n50 from ⟨by omega, by omega⟩), (show inb (0, 5) n53 from ⟨by omega, by omega⟩), (show inb (0, 200) n7 from ⟨by omega, by omega⟩), (show inb (0, 200) n8 from ⟨by omega, by omega⟩), (show (iv 12 34).toInt ≤ (n50 : Int32).toInt from by omega), (show ∀ j : Nat, j ≠ k.toNatClampNeg → f1 j = (fa 12 26) j ∧ (fa 12 27) j = (fa 12 27) j ∧ f43 j = (fa 12 28) j from fun j hj => ⟨(by rw [ef1, upd_ne hj]), rfl, (by rw [ef43, upd_ne hj])⟩), (show ((n53 : Int32).toInt ≠ 0 ∨ gd3 (f1 k.toNatClampNeg) ((fa 12 27) k.toNatClampNeg) (f43 k.toNatClampNeg)) from (by
                        have kc : (1 : Int32).toInt = 1 := by decide
                        have kE : f1 k.toNatClampNeg = 1 := by rw [ef1]; exact upd_eq
                        have fE : f43 k.toNatClampNeg = 2 := by rw [ef43]; exact upd_eq
                        have := congrArg Int32.toInt (ev44.trans fE)
                        by_cases h0 : (n53 : Int32).toInt = 0
                        · refine Or.inr ?_; rw [kE, fE]; unfold gd3; exact ⟨fun h => by omega, fun h h2 => by omega⟩
                        · exact Or.inl h0)), (show ∀ j : Nat, j ≠ k.toNatClampNeg → (fa 12 29) j = (fa 12 29) j ∧ f2 j = (fa 12 30) j from fun j hj => ⟨(rfl), (by rw [ef2, upd_ne (show j ≠ k.toNatClampNeg from hj)])⟩), (show ∀ j : Nat, (j : Int) < 8 * (k).toInt → (fa 12 31) j = (fa 12 31) j from fun j hj => rfl), (show f1 ((k).toInt).toNat = 1 from (by rw [ef1]; exact upd_eq)), (show (((n53 : Int32).toInt ≠ 0 ∧ ∃ b kd v1 : Int, TakR (fun j => sg ((fa 12 32) j).toInt) ((iv 12 33) : Int32).toInt (iv 12 34).toInt (n53 : Int32).toInt (n54 : Int32).toInt b kd v1) ∨ ((n53 : Int32).toInt = 0 ∧ (n54 : Int32).toInt = (iv 12 36).toInt ∧ TakR (fun j => sg ((fa 12 32) j).toInt) ((iv 12 33) : Int32).toInt (iv 12 34).toInt 0 0 (n50 : Int32).toInt 5 (f43 ((k).toInt).toNat).toInt)) from (by
                        have hE28 : f43 (k.toInt).toNat = 2 := (by rw [ef43]; exact upd_eq)
                        have hl := congrArg Int32.toInt (ev44.trans (show f43 k.toNatClampNeg = 2 from hE28))
                        have hz9 : (2 : Int32).toInt = 2 := by decide
                        exfalso; omega)), rfl⟩, by rw [ht9]; exact hP9, hD9⟩, hS.F ht9⟩) hS.2.2 dX12_readClause_295
                · exact absurd rfl c55
              · have fc51 := z_eq (rfl : (r49).toInt = _) (by decide : (59 : Int32).toInt = 59) c51
                refine lv_iconst (v := 1) hx hb dX12_readClause_269 (by decide) ?_
                refine lv_goto (tgt := 274) hx hb dX12_readClause_270 (by decide) ?_
                refine lv_iconst (v := 1) hx hb dX12_readClause_274 (by decide) ?_
                refine lv_aload_n hx hb dX12_readClause_275 rfl (lv_at hl 1 rfl) ?_
                refine gM_12_34 hx hb ht hown hK hP m_1173 (v := n50) rfl dX12_readClause_276 ?_
                refine vp_callSi (W.runV (As := [.int 1, .int 1, .int n50]) (rest := []) ⟨hx, hb, hml, hown, ht⟩ (c_X12_want_1 l dC dI h g ca (u2 (u2 (u2 (u2 (u2 iv 12 34 n50) 12 37 n7) 12 38 n8) 12 35 n47) 12 36 n48) lv (u2 (u2 (u2 fa 12 26 f1) 12 30 f2) 12 28 f43) la (IX_a (c := 12) (k := 28) (IX_a (c := 12) (k := 30) (IX_a (c := 12) (k := 26) (IX_i (c := 12) (k := 36) (IX_i (c := 12) (k := 35) (IX_i (c := 12) (k := 38) (IX_i (c := 12) (k := 37) (IX_i (c := 12) (k := 34) hI (show inb (0, 200) n50 from ⟨by omega, by omega⟩)) (show inb (0, 200) n7 from ⟨by omega, by omega⟩)) (show inb (0, 200) n8 from ⟨by omega, by omega⟩)) (show inb (0, 5) n47 from ⟨by omega, by omega⟩)) (full_i _)) hf1) hf2) hf43) 1 n50) (kV 3 ht m_1472 m_1474 m_50 m_89 m_1475 rfl rfl hd_X12_want_v ⟨Nat.le_of_ble_eq_true rfl, Nat.le_of_ble_eq_true rfl⟩) (vR hP hK (rM_12 hK hP)) rfl rfl hl.1 rfl (lv_room (Nat.le_of_ble_eq_true rfl)) dX12_readClause_279 ⟨Nat.le_of_ble_eq_true rfl, Nat.le_of_ble_eq_true rfl⟩) (fun r56 hr56 => ?_)
                rcases hr56 with ⟨rfl, fr56⟩ | ⟨rfl, fr56⟩
                · skip
                  have fr56 : ((n47 : Int32).toInt = 0) := fr56
                  refine lv_if_eq (tgt := 295) hx hb dX12_readClause_282 (by decide) (fun c57 => ?_) (fun c57 => ?_)
                  · exact absurd c57 (by decide)
                  · skip
                    refine lv_aload_n hx hb dX12_readClause_285 rfl (lv_at hl 1 rfl) ?_
                    refine lv_dup hx hb dX12_readClause_286 rfl ?_
                    refine gM_12_34 hx hb ht hown hK hP m_1173 (v := n50) rfl dX12_readClause_287 ?_
                    refine lv_iconst (v := 1) hx hb dX12_readClause_290 (by decide) ?_
                    refine lv_iadd hx hb dX12_readClause_291 ?_
                    refine lv_topi (fun v58 ev58 => ?_)
                    have tv58 := z_add ev58 (rfl : (n50).toInt = _) (by decide : (1 : Int32).toInt = 1) (by omega) (by omega)
                    have : 0 ≤ (v58 : Int32).toInt ∧ (v58 : Int32).toInt ≤ 200 := ⟨by omega, by omega⟩
                    refine pM_12_34 (v := v58) hx hb ht hown hK hP hD hS m_1173 dX12_readClause_292 (fun H locs hP hD hS => ?_)
                    have hP : va_P (dC, dI) classes (WM h g ca (u2 (u2 (u2 (u2 (u2 iv 12 34 v58) 12 37 n7) 12 38 n8) 12 35 n47) 12 36 n48) lv (u2 (u2 (u2 fa 12 26 f1) 12 30 f2) 12 28 f43) la) H := hP
                    have hD : va_D A (WM h g ca (u2 (u2 (u2 (u2 (u2 iv 12 34 v58) 12 37 n7) 12 38 n8) 12 35 n47) 12 36 n48) lv (u2 (u2 (u2 fa 12 26 f1) 12 30 f2) 12 28 f43) la) := hD
                    have hP9 : va_P (dC, dI) classes (WM h g ca (u2 (u2 (u2 (u2 (u2 iv 12 34 v58) 12 35 n47) 12 36 n48) 12 37 n7) 12 38 n8) lv (u2 (u2 (u2 fa 12 26 f1) 12 28 f43) 12 30 f2) la) H := hP
                    have hD9 : va_D A (WM h g ca (u2 (u2 (u2 (u2 (u2 iv 12 34 v58) 12 35 n47) 12 36 n48) 12 37 n7) 12 38 n8) lv (u2 (u2 (u2 fa 12 26 f1) 12 28 f43) 12 30 f2) la) := hD
                    exact W.vret hx hb hr (fun t ht9 hW => ⟨⟨((u2 (u2 (u2 (u2 (u2 iv 12 34 v58) 12 35 n47) 12 36 n48) 12 37 n7) 12 38 n8), lv, (u2 (u2 (u2 fa 12 26 f1) 12 28 f43) 12 30 f2), la), rfl, ⟨f1, f43, f2, v58, n47, n48, n7, n8, hf2, (show inb (0, 200) v58 from ⟨by omega, by omega⟩), (show inb (0, 5) n47 from ⟨by omega, by omega⟩), (show inb (0, 200) n7 from ⟨by omega, by omega⟩), (show inb (0, 200) n8 from ⟨by omega, by omega⟩), (show (iv 12 34).toInt ≤ (v58 : Int32).toInt from by omega), (show ∀ j : Nat, j ≠ k.toNatClampNeg → f1 j = (fa 12 26) j ∧ (fa 12 27) j = (fa 12 27) j ∧ f43 j = (fa 12 28) j from fun j hj => ⟨(by rw [ef1, upd_ne hj]), rfl, (by rw [ef43, upd_ne hj])⟩), (show ((n47 : Int32).toInt ≠ 0 ∨ gd3 (f1 k.toNatClampNeg) ((fa 12 27) k.toNatClampNeg) (f43 k.toNatClampNeg)) from (by
                          have kc : (1 : Int32).toInt = 1 := by decide
                          have kE : f1 k.toNatClampNeg = 1 := by rw [ef1]; exact upd_eq
                          have fE : f43 k.toNatClampNeg = 2 := by rw [ef43]; exact upd_eq
                          have := congrArg Int32.toInt (ev44.trans fE)
                          by_cases h0 : (n47 : Int32).toInt = 0
                          · refine Or.inr ?_; rw [kE, fE]; unfold gd3; exact ⟨fun h => by omega, fun h h2 => by omega⟩
                          · exact Or.inl h0)), (show ∀ j : Nat, j ≠ k.toNatClampNeg → (fa 12 29) j = (fa 12 29) j ∧ f2 j = (fa 12 30) j from fun j hj => ⟨(rfl), (by rw [ef2, upd_ne (show j ≠ k.toNatClampNeg from hj)])⟩), (show ∀ j : Nat, (j : Int) < 8 * (k).toInt → (fa 12 31) j = (fa 12 31) j from fun j hj => rfl), (show f1 ((k).toInt).toNat = 1 from (by rw [ef1]; exact upd_eq)), (show (((n47 : Int32).toInt ≠ 0 ∧ ∃ b kd v1 : Int, TakR (fun j => sg ((fa 12 32) j).toInt) ((iv 12 33) : Int32).toInt (iv 12 34).toInt (n47 : Int32).toInt (n48 : Int32).toInt b kd v1) ∨ ((n47 : Int32).toInt = 0 ∧ (n48 : Int32).toInt = (iv 12 36).toInt ∧ TakR (fun j => sg ((fa 12 32) j).toInt) ((iv 12 33) : Int32).toInt (iv 12 34).toInt 0 0 (v58 : Int32).toInt 5 (f43 ((k).toInt).toNat).toInt)) from (by
                          have hE28 : f43 (k.toInt).toNat = 2 := (by rw [ef43]; exact upd_eq)
                          have hl := congrArg Int32.toInt (ev44.trans (show f43 k.toNatClampNeg = 2 from hE28))
                          have hz9 : (2 : Int32).toInt = 2 := by decide
                          exfalso; omega)), rfl⟩, by rw [ht9]; exact hP9, hD9⟩, hS.F ht9⟩) hS.2.2 dX12_readClause_295
                · skip
                  have fr56 : ¬ ((n47 : Int32).toInt = 0) := fr56
                  refine lv_if_eq (tgt := 295) hx hb dX12_readClause_282 (by decide) (fun c59 => ?_) (fun c59 => ?_)
                  · skip
                    have hP9 : va_P (dC, dI) classes (WM h g ca (u2 (u2 (u2 (u2 (u2 iv 12 34 n50) 12 35 n47) 12 36 n48) 12 37 n7) 12 38 n8) lv (u2 (u2 (u2 fa 12 26 f1) 12 28 f43) 12 30 f2) la) H := hP
                    have hD9 : va_D A (WM h g ca (u2 (u2 (u2 (u2 (u2 iv 12 34 n50) 12 35 n47) 12 36 n48) 12 37 n7) 12 38 n8) lv (u2 (u2 (u2 fa 12 26 f1) 12 28 f43) 12 30 f2) la) := hD
                    exact W.vret hx hb hr (fun t ht9 hW => ⟨⟨((u2 (u2 (u2 (u2 (u2 iv 12 34 n50) 12 35 n47) 12 36 n48) 12 37 n7) 12 38 n8), lv, (u2 (u2 (u2 fa 12 26 f1) 12 28 f43) 12 30 f2), la), rfl, ⟨f1, f43, f2, n50, n47, n48, n7, n8, hf2, (show inb (0, 200) n50 from ⟨by omega, by omega⟩), (show inb (0, 5) n47 from ⟨by omega, by omega⟩), (show inb (0, 200) n7 from ⟨by omega, by omega⟩), (show inb (0, 200) n8 from ⟨by omega, by omega⟩), (show (iv 12 34).toInt ≤ (n50 : Int32).toInt from by omega), (show ∀ j : Nat, j ≠ k.toNatClampNeg → f1 j = (fa 12 26) j ∧ (fa 12 27) j = (fa 12 27) j ∧ f43 j = (fa 12 28) j from fun j hj => ⟨(by rw [ef1, upd_ne hj]), rfl, (by rw [ef43, upd_ne hj])⟩), (show ((n47 : Int32).toInt ≠ 0 ∨ gd3 (f1 k.toNatClampNeg) ((fa 12 27) k.toNatClampNeg) (f43 k.toNatClampNeg)) from Or.inl (by omega)), (show ∀ j : Nat, j ≠ k.toNatClampNeg → (fa 12 29) j = (fa 12 29) j ∧ f2 j = (fa 12 30) j from fun j hj => ⟨(rfl), (by rw [ef2, upd_ne (show j ≠ k.toNatClampNeg from hj)])⟩), (show ∀ j : Nat, (j : Int) < 8 * (k).toInt → (fa 12 31) j = (fa 12 31) j from fun j hj => rfl), (show f1 ((k).toInt).toNat = 1 from (by rw [ef1]; exact upd_eq)), (show (((n47 : Int32).toInt ≠ 0 ∧ ∃ b kd v1 : Int, TakR (fun j => sg ((fa 12 32) j).toInt) ((iv 12 33) : Int32).toInt (iv 12 34).toInt (n47 : Int32).toInt (n48 : Int32).toInt b kd v1) ∨ ((n47 : Int32).toInt = 0 ∧ (n48 : Int32).toInt = (iv 12 36).toInt ∧ TakR (fun j => sg ((fa 12 32) j).toInt) ((iv 12 33) : Int32).toInt (iv 12 34).toInt 0 0 (n50 : Int32).toInt 5 (f43 ((k).toInt).toNat).toInt)) from (by
                          have hE28 : f43 (k.toInt).toNat = 2 := (by rw [ef43]; exact upd_eq)
                          have hl := congrArg Int32.toInt (ev44.trans (show f43 k.toNatClampNeg = 2 from hE28))
                          have hz9 : (2 : Int32).toInt = 2 := by decide
                          exfalso; omega)), rfl⟩, by rw [ht9]; exact hP9, hD9⟩, hS.F ht9⟩) hS.2.2 dX12_readClause_295
                  · exact absurd rfl c59
            · have fc45 := z_nlt (rfl : (v44).toInt = _) (by decide : (0 : Int32).toInt = 0) c45
              refine lv_iconst (v := 1) hx hb dX12_readClause_185 (by decide) ?_
              refine lv_goto (tgt := 190) hx hb dX12_readClause_186 (by decide) ?_
              refine lv_iconst (v := 1) hx hb dX12_readClause_190 (by decide) ?_
              refine lv_aload_n hx hb dX12_readClause_191 rfl (lv_at hl 0 rfl) ?_
              refine gM_12_37 hx hb ht hown hK hP m_1176 (v := n7) rfl dX12_readClause_192 ?_
              refine vp_callSi (W.runV (As := [.int 1, .int 1, .int n7]) (rest := []) ⟨hx, hb, hml, hown, ht⟩ (c_X12_want_1 l dC dI h g ca (u2 (u2 (u2 iv 12 34 n6) 12 37 n7) 12 38 n8) lv (u2 (u2 (u2 fa 12 26 f1) 12 30 f2) 12 28 f43) la (IX_a (c := 12) (k := 28) (IX_a (c := 12) (k := 30) (IX_a (c := 12) (k := 26) (IX_i (c := 12) (k := 38) (IX_i (c := 12) (k := 37) (IX_i (c := 12) (k := 34) hI (show inb (0, 200) n6 from ⟨by omega, by omega⟩)) (show inb (0, 200) n7 from ⟨by omega, by omega⟩)) (show inb (0, 200) n8 from ⟨by omega, by omega⟩)) hf1) hf2) hf43) 1 n7) (kV 3 ht m_1472 m_1474 m_50 m_89 m_1475 rfl rfl hd_X12_want_v ⟨Nat.le_of_ble_eq_true rfl, Nat.le_of_ble_eq_true rfl⟩) (vR hP hK (rM_12 hK hP)) rfl rfl hl.1 rfl (lv_room (Nat.le_of_ble_eq_true rfl)) dX12_readClause_195 ⟨Nat.le_of_ble_eq_true rfl, Nat.le_of_ble_eq_true rfl⟩) (fun r60 hr60 => ?_)
              rcases hr60 with ⟨rfl, fr60⟩ | ⟨rfl, fr60⟩
              have i_12_35 : 0 ≤ (iv 12 35).toInt ∧ (iv 12 35).toInt ≤ 5 := hI.1 12 35
              · skip
                have i_12_35 : 0 ≤ (iv 12 35).toInt ∧ (iv 12 35).toInt ≤ 5 := hI.1 12 35
                have fr60 : (((iv 12 35) : Int32).toInt = 0) := fr60
                refine lv_istore_n (lv' := [(3, .int 1), (0, .ref h), (1, .int 1), (2, .int k)]) hx hb dX12_readClause_198 rfl hl (by decide) rfl (fun ls hl => ?_)
                refine lv_goto (tgt := 257) hx hb dX12_readClause_199 (by decide) ?_
                refine lv_aload_n hx hb dX12_readClause_257 rfl (lv_at hl 1 rfl) ?_
                have hFc := free_all hD hS hA
                refine va_calli (va_runV (As := []) (rest := []) ⟨hx, hb, hml, hown, ht⟩ (c_X12_here_r l dC dI H.size h g ca (u2 (u2 (u2 iv 12 34 n6) 12 37 n7) 12 38 n8) lv (u2 (u2 (u2 fa 12 26 f1) 12 30 f2) 12 28 f43) la (IX_a (c := 12) (k := 28) (IX_a (c := 12) (k := 30) (IX_a (c := 12) (k := 26) (IX_i (c := 12) (k := 38) (IX_i (c := 12) (k := 37) (IX_i (c := 12) (k := 34) hI (show inb (0, 200) n6 from ⟨by omega, by omega⟩)) (show inb (0, 200) n7 from ⟨by omega, by omega⟩)) (show inb (0, 200) n8 from ⟨by omega, by omega⟩)) hf1) hf2) hf43)) (kV 0 ht m_1458 m_1460 m_47 m_89 m_1461 rfl rfl hd_X12_here_v ⟨Nat.le_of_ble_eq_true rfl, Nat.le_of_ble_eq_true rfl⟩) (vW hP hK hD (rM_12 hK hP)) rfl rfl hl.1 rfl (lv_room (Nat.le_of_ble_eq_true rfl)) dX12_readClause_258 ⟨Nat.le_of_ble_eq_true rfl, Nat.le_of_ble_eq_true rfl⟩) hS (fun q _ h => hFc q h) hFc (fun r61 u t H1 locs ht9 hvm hr61 hB hz1 hk1 hS => ?_)
                obtain ⟨n62, hn62, xr61_0, xr61_1, xr61_2, hr61, rfl⟩ := hr61
                have hn62 : 0 ≤ n62.toInt ∧ n62.toInt ≤ 200 := hn62
                obtain ⟨hP, hD⟩ := hB
                rw [ht9] at hP
                generalize H1 = H at hP hS ⊢
                have hP : va_P (dC, dI) classes (WM h g ca (u2 (u2 (u2 iv 12 34 n62) 12 37 n7) 12 38 n8) lv (u2 (u2 (u2 fa 12 26 f1) 12 30 f2) 12 28 f43) la) H := hP
                have hD : va_D A (WM h g ca (u2 (u2 (u2 iv 12 34 n62) 12 37 n7) 12 38 n8) lv (u2 (u2 (u2 fa 12 26 f1) 12 30 f2) 12 28 f43) la) := (show va_D _ (WM h g ca (u2 (u2 (u2 iv 12 34 n62) 12 37 n7) 12 38 n8) lv (u2 (u2 (u2 fa 12 26 f1) 12 30 f2) 12 28 f43) la) from hD).weaken (fun _ _ _ h => hFc _ h)
                have xr61_0 : (n6 : Int32).toInt ≤ (n62 : Int32).toInt := xr61_0
                have xr61_1 : Sk (fun j => sg ((fa 12 32) j).toInt) ((iv 12 33) : Int32).toInt (n6 : Int32).toInt (n62 : Int32).toInt := xr61_1
                have xr61_2 : (((r61 : Int32).toInt = -1 ∧ ((iv 12 33) : Int32).toInt ≤ (n62 : Int32).toInt) ∨ ((n62 : Int32).toInt < ((iv 12 33) : Int32).toInt ∧ (r61 : Int32).toInt = ((fa 12 32) ((n62 : Int32).toInt).toNat).toInt)) := xr61_2
                refine lv_istore_n (lv' := [(3, .int r61), (0, .ref h), (1, .int 1), (2, .int k)]) hx hb dX12_readClause_261 rfl hl (by decide) rfl (fun ls hl => ?_)
                refine lv_aload_n hx hb dX12_readClause_262 rfl (lv_at hl 1 rfl) ?_
                refine lv_iload_n hx hb dX12_readClause_263 rfl (lv_at hl 0 rfl) ?_
                refine lv_bipush (v := 59) hx hb dX12_readClause_264 (by decide) ?_
                refine lv_icmp_ne (tgt := 273) hx hb dX12_readClause_266 (by decide) (fun c63 => ?_) (fun c63 => ?_)
                · have fc63 := z_ne (rfl : (r61).toInt = _) (by decide : (59 : Int32).toInt = 59) c63
                  refine lv_iconst (v := 0) hx hb dX12_readClause_273 (by decide) ?_
                  refine lv_iconst (v := 1) hx hb dX12_readClause_274 (by decide) ?_
                  refine lv_aload_n hx hb dX12_readClause_275 rfl (lv_at hl 1 rfl) ?_
                  refine gM_12_34 hx hb ht hown hK hP m_1173 (v := n62) rfl dX12_readClause_276 ?_
                  have hFc := free_all hD hS hA
                  refine va_calli (va_runV (As := [.int 0, .int 1, .int n62]) (rest := []) ⟨hx, hb, hml, hown, ht⟩ (c_X12_want_r0 l dC dI H.size h g ca (u2 (u2 (u2 iv 12 34 n62) 12 37 n7) 12 38 n8) lv (u2 (u2 (u2 fa 12 26 f1) 12 30 f2) 12 28 f43) la (IX_a (c := 12) (k := 28) (IX_a (c := 12) (k := 30) (IX_a (c := 12) (k := 26) (IX_i (c := 12) (k := 38) (IX_i (c := 12) (k := 37) (IX_i (c := 12) (k := 34) hI (show inb (0, 200) n62 from ⟨by omega, by omega⟩)) (show inb (0, 200) n7 from ⟨by omega, by omega⟩)) (show inb (0, 200) n8 from ⟨by omega, by omega⟩)) hf1) hf2) hf43) 1 n62 ⟨by decide, by decide⟩) (kV 3 ht m_1472 m_1474 m_50 m_89 m_1475 rfl rfl hd_X12_want_v ⟨Nat.le_of_ble_eq_true rfl, Nat.le_of_ble_eq_true rfl⟩) (vW hP hK hD (rM_12 hK hP)) rfl rfl hl.1 rfl (lv_room (Nat.le_of_ble_eq_true rfl)) dX12_readClause_279 ⟨Nat.le_of_ble_eq_true rfl, Nat.le_of_ble_eq_true rfl⟩) hS (fun q _ h => hFc q h) hFc (fun r64 u t H1 locs ht9 hvm hr64 hB hz1 hk1 hS => ?_)
                  obtain ⟨n65, n66, hn65, xr64_0, xr64_1, hr64, rfl⟩ := hr64
                  have hn65 : 0 ≤ n65.toInt ∧ n65.toInt ≤ 5 := hn65
                  obtain ⟨hP, hD⟩ := hB
                  rw [ht9] at hP
                  generalize H1 = H at hP hS ⊢
                  have hP : va_P (dC, dI) classes (WM h g ca (u2 (u2 (u2 (u2 (u2 iv 12 34 n62) 12 37 n7) 12 38 n8) 12 35 n65) 12 36 n66) lv (u2 (u2 (u2 fa 12 26 f1) 12 30 f2) 12 28 f43) la) H := hP
                  have hD : va_D A (WM h g ca (u2 (u2 (u2 (u2 (u2 iv 12 34 n62) 12 37 n7) 12 38 n8) 12 35 n65) 12 36 n66) lv (u2 (u2 (u2 fa 12 26 f1) 12 30 f2) 12 28 f43) la) := (show va_D _ (WM h g ca (u2 (u2 (u2 (u2 (u2 iv 12 34 n62) 12 37 n7) 12 38 n8) 12 35 n65) 12 36 n66) lv (u2 (u2 (u2 fa 12 26 f1) 12 30 f2) 12 28 f43) la) from hD).weaken (fun _ _ _ h => hFc _ h)
                  have xr64_0 : 1 ≤ (n65 : Int32).toInt := xr64_0
                  have : (1 : Int32).toInt = 1 := (by decide)
                  have xr64_1 : ((((iv 12 35) : Int32).toInt = 0 ∧ (n65 : Int32).toInt = (1 : Int32).toInt ∧ (n66 : Int32).toInt = (n62 : Int32).toInt) ∨ (((iv 12 35) : Int32).toInt ≠ 0 ∧ (n65 : Int32).toInt = ((iv 12 35) : Int32).toInt ∧ (n66 : Int32).toInt = ((iv 12 36) : Int32).toInt)) := xr64_1
                  obtain rfl : 0 = r64 := hr64.symm
                  refine lv_if_eq (tgt := 295) hx hb dX12_readClause_282 (by decide) (fun c67 => ?_) (fun c67 => ?_)
                  · skip
                    have hP9 : va_P (dC, dI) classes (WM h g ca (u2 (u2 (u2 (u2 (u2 iv 12 34 n62) 12 35 n65) 12 36 n66) 12 37 n7) 12 38 n8) lv (u2 (u2 (u2 fa 12 26 f1) 12 28 f43) 12 30 f2) la) H := hP
                    have hD9 : va_D A (WM h g ca (u2 (u2 (u2 (u2 (u2 iv 12 34 n62) 12 35 n65) 12 36 n66) 12 37 n7) 12 38 n8) lv (u2 (u2 (u2 fa 12 26 f1) 12 28 f43) 12 30 f2) la) := hD
                    exact W.vret hx hb hr (fun t ht9 hW => ⟨⟨((u2 (u2 (u2 (u2 (u2 iv 12 34 n62) 12 35 n65) 12 36 n66) 12 37 n7) 12 38 n8), lv, (u2 (u2 (u2 fa 12 26 f1) 12 28 f43) 12 30 f2), la), rfl, ⟨f1, f43, f2, n62, n65, n66, n7, n8, hf2, (show inb (0, 200) n62 from ⟨by omega, by omega⟩), (show inb (0, 5) n65 from ⟨by omega, by omega⟩), (show inb (0, 200) n7 from ⟨by omega, by omega⟩), (show inb (0, 200) n8 from ⟨by omega, by omega⟩), (show (iv 12 34).toInt ≤ (n62 : Int32).toInt from by omega), (show ∀ j : Nat, j ≠ k.toNatClampNeg → f1 j = (fa 12 26) j ∧ (fa 12 27) j = (fa 12 27) j ∧ f43 j = (fa 12 28) j from fun j hj => ⟨(by rw [ef1, upd_ne hj]), rfl, (by rw [ef43, upd_ne hj])⟩), (show ((n65 : Int32).toInt ≠ 0 ∨ gd3 (f1 k.toNatClampNeg) ((fa 12 27) k.toNatClampNeg) (f43 k.toNatClampNeg)) from (by
                          have kc : (1 : Int32).toInt = 1 := by decide
                          have kE : f1 k.toNatClampNeg = 1 := by rw [ef1]; exact upd_eq
                          have fE : f43 k.toNatClampNeg = 2 := by rw [ef43]; exact upd_eq
                          have := congrArg Int32.toInt (ev44.trans fE)
                          by_cases h0 : (n65 : Int32).toInt = 0
                          · refine Or.inr ?_; rw [kE, fE]; unfold gd3; exact ⟨fun h => by omega, fun h h2 => by omega⟩
                          · exact Or.inl h0)), (show ∀ j : Nat, j ≠ k.toNatClampNeg → (fa 12 29) j = (fa 12 29) j ∧ f2 j = (fa 12 30) j from fun j hj => ⟨(rfl), (by rw [ef2, upd_ne (show j ≠ k.toNatClampNeg from hj)])⟩), (show ∀ j : Nat, (j : Int) < 8 * (k).toInt → (fa 12 31) j = (fa 12 31) j from fun j hj => rfl), (show f1 ((k).toInt).toNat = 1 from (by rw [ef1]; exact upd_eq)), (show (((n65 : Int32).toInt ≠ 0 ∧ ∃ b kd v1 : Int, TakR (fun j => sg ((fa 12 32) j).toInt) ((iv 12 33) : Int32).toInt (iv 12 34).toInt (n65 : Int32).toInt (n66 : Int32).toInt b kd v1) ∨ ((n65 : Int32).toInt = 0 ∧ (n66 : Int32).toInt = (iv 12 36).toInt ∧ TakR (fun j => sg ((fa 12 32) j).toInt) ((iv 12 33) : Int32).toInt (iv 12 34).toInt 0 0 (n62 : Int32).toInt 5 (f43 ((k).toInt).toNat).toInt)) from (by
                          have hE28 : f43 (k.toInt).toNat = 2 := (by rw [ef43]; exact upd_eq)
                          have hl := congrArg Int32.toInt (ev44.trans (show f43 k.toNatClampNeg = 2 from hE28))
                          have hz9 : (2 : Int32).toInt = 2 := by decide
                          have g0 := ((cw_mean xr9_0).resolve_left (fun q => by omega)).2
                          rw [xr5_1] at g0
                          have g1 := ((cw_least xr11_0).resolve_left (fun q => by omega)).2
                          rw [xr5_1] at g1
                          have g2 := ((cw_middle xr13_0).resolve_right (fun q => by omega)).2
                          rw [xr5_1] at g2
                          have hk : kwW (fun j => sg (fa 12 32 j).toInt) (n7 : Int32).toInt (n6 : Int32).toInt = 2 := by unfold kwW; rw [if_neg g0, if_neg g1, if_pos g2]
                          have hg := sg_i (fa 12 32 ((n62 : Int32).toInt).toNat).toInt
                          have hS9 : ((iv 12 35) : Int32).toInt = 0 → StpR (fun j => sg (fa 12 32 j).toInt) (iv 12 33).toInt (n6 : Int32).toInt (n65 : Int32).toInt (n66 : Int32).toInt 0 := fun h0 => ⟨_, xr61_1, Or.inl ⟨fun q => (by have q2 : sg (fa 12 32 ((n62 : Int32).toInt).toNat).toInt = 59 := q.2; omega), by omega, by omega⟩⟩
                          exact Or.inl ⟨by omega, 0, _, _, _, _, xr5_2, xr5_3, Or.inr ⟨by omega, rfl, rfl, hS9 (by omega)⟩⟩)), rfl⟩, by rw [ht9]; exact hP9, hD9⟩, hS.F ht9⟩) hS.2.2 dX12_readClause_295
                  · exact absurd rfl c67
                · have fc63 := z_eq (rfl : (r61).toInt = _) (by decide : (59 : Int32).toInt = 59) c63
                  refine lv_iconst (v := 1) hx hb dX12_readClause_269 (by decide) ?_
                  refine lv_goto (tgt := 274) hx hb dX12_readClause_270 (by decide) ?_
                  refine lv_iconst (v := 1) hx hb dX12_readClause_274 (by decide) ?_
                  refine lv_aload_n hx hb dX12_readClause_275 rfl (lv_at hl 1 rfl) ?_
                  refine gM_12_34 hx hb ht hown hK hP m_1173 (v := n62) rfl dX12_readClause_276 ?_
                  refine vp_callSi (W.runV (As := [.int 1, .int 1, .int n62]) (rest := []) ⟨hx, hb, hml, hown, ht⟩ (c_X12_want_1 l dC dI h g ca (u2 (u2 (u2 iv 12 34 n62) 12 37 n7) 12 38 n8) lv (u2 (u2 (u2 fa 12 26 f1) 12 30 f2) 12 28 f43) la (IX_a (c := 12) (k := 28) (IX_a (c := 12) (k := 30) (IX_a (c := 12) (k := 26) (IX_i (c := 12) (k := 38) (IX_i (c := 12) (k := 37) (IX_i (c := 12) (k := 34) hI (show inb (0, 200) n62 from ⟨by omega, by omega⟩)) (show inb (0, 200) n7 from ⟨by omega, by omega⟩)) (show inb (0, 200) n8 from ⟨by omega, by omega⟩)) hf1) hf2) hf43) 1 n62) (kV 3 ht m_1472 m_1474 m_50 m_89 m_1475 rfl rfl hd_X12_want_v ⟨Nat.le_of_ble_eq_true rfl, Nat.le_of_ble_eq_true rfl⟩) (vR hP hK (rM_12 hK hP)) rfl rfl hl.1 rfl (lv_room (Nat.le_of_ble_eq_true rfl)) dX12_readClause_279 ⟨Nat.le_of_ble_eq_true rfl, Nat.le_of_ble_eq_true rfl⟩) (fun r68 hr68 => ?_)
                  rcases hr68 with ⟨rfl, fr68⟩ | ⟨rfl, fr68⟩
                  · skip
                    have fr68 : (((iv 12 35) : Int32).toInt = 0) := fr68
                    refine lv_if_eq (tgt := 295) hx hb dX12_readClause_282 (by decide) (fun c69 => ?_) (fun c69 => ?_)
                    · exact absurd c69 (by decide)
                    · skip
                      refine lv_aload_n hx hb dX12_readClause_285 rfl (lv_at hl 1 rfl) ?_
                      refine lv_dup hx hb dX12_readClause_286 rfl ?_
                      refine gM_12_34 hx hb ht hown hK hP m_1173 (v := n62) rfl dX12_readClause_287 ?_
                      refine lv_iconst (v := 1) hx hb dX12_readClause_290 (by decide) ?_
                      refine lv_iadd hx hb dX12_readClause_291 ?_
                      refine lv_topi (fun v70 ev70 => ?_)
                      have tv70 := z_add ev70 (rfl : (n62).toInt = _) (by decide : (1 : Int32).toInt = 1) (by omega) (by omega)
                      have : 0 ≤ (v70 : Int32).toInt ∧ (v70 : Int32).toInt ≤ 200 := ⟨by omega, by omega⟩
                      refine pM_12_34 (v := v70) hx hb ht hown hK hP hD hS m_1173 dX12_readClause_292 (fun H locs hP hD hS => ?_)
                      have hP : va_P (dC, dI) classes (WM h g ca (u2 (u2 (u2 iv 12 34 v70) 12 37 n7) 12 38 n8) lv (u2 (u2 (u2 fa 12 26 f1) 12 30 f2) 12 28 f43) la) H := hP
                      have hD : va_D A (WM h g ca (u2 (u2 (u2 iv 12 34 v70) 12 37 n7) 12 38 n8) lv (u2 (u2 (u2 fa 12 26 f1) 12 30 f2) 12 28 f43) la) := hD
                      have hP9 : va_P (dC, dI) classes (WM h g ca (u2 (u2 (u2 (u2 (u2 iv 12 34 v70) 12 35 (iv 12 35)) 12 36 (iv 12 36)) 12 37 n7) 12 38 n8) lv (u2 (u2 (u2 fa 12 26 f1) 12 28 f43) 12 30 f2) la) H := hP
                      have hD9 : va_D A (WM h g ca (u2 (u2 (u2 (u2 (u2 iv 12 34 v70) 12 35 (iv 12 35)) 12 36 (iv 12 36)) 12 37 n7) 12 38 n8) lv (u2 (u2 (u2 fa 12 26 f1) 12 28 f43) 12 30 f2) la) := hD
                      exact W.vret hx hb hr (fun t ht9 hW => ⟨⟨((u2 (u2 (u2 (u2 (u2 iv 12 34 v70) 12 35 (iv 12 35)) 12 36 (iv 12 36)) 12 37 n7) 12 38 n8), lv, (u2 (u2 (u2 fa 12 26 f1) 12 28 f43) 12 30 f2), la), rfl, ⟨f1, f43, f2, v70, (iv 12 35), (iv 12 36), n7, n8, hf2, (show inb (0, 200) v70 from ⟨by omega, by omega⟩), (hI.1 12 35), (show inb (0, 200) n7 from ⟨by omega, by omega⟩), (show inb (0, 200) n8 from ⟨by omega, by omega⟩), (show (iv 12 34).toInt ≤ (v70 : Int32).toInt from by omega), (show ∀ j : Nat, j ≠ k.toNatClampNeg → f1 j = (fa 12 26) j ∧ (fa 12 27) j = (fa 12 27) j ∧ f43 j = (fa 12 28) j from fun j hj => ⟨(by rw [ef1, upd_ne hj]), rfl, (by rw [ef43, upd_ne hj])⟩), (show (((iv 12 35) : Int32).toInt ≠ 0 ∨ gd3 (f1 k.toNatClampNeg) ((fa 12 27) k.toNatClampNeg) (f43 k.toNatClampNeg)) from (by
                            have kc : (1 : Int32).toInt = 1 := by decide
                            have kE : f1 k.toNatClampNeg = 1 := by rw [ef1]; exact upd_eq
                            have fE : f43 k.toNatClampNeg = 2 := by rw [ef43]; exact upd_eq
                            have := congrArg Int32.toInt (ev44.trans fE)
                            by_cases h0 : ((iv 12 35) : Int32).toInt = 0
                            · refine Or.inr ?_; rw [kE, fE]; unfold gd3; exact ⟨fun h => by omega, fun h h2 => by omega⟩
                            · exact Or.inl h0)), (show ∀ j : Nat, j ≠ k.toNatClampNeg → (fa 12 29) j = (fa 12 29) j ∧ f2 j = (fa 12 30) j from fun j hj => ⟨(rfl), (by rw [ef2, upd_ne (show j ≠ k.toNatClampNeg from hj)])⟩), (show ∀ j : Nat, (j : Int) < 8 * (k).toInt → (fa 12 31) j = (fa 12 31) j from fun j hj => rfl), (show f1 ((k).toInt).toNat = 1 from (by rw [ef1]; exact upd_eq)), (show ((((iv 12 35) : Int32).toInt ≠ 0 ∧ ∃ b kd v1 : Int, TakR (fun j => sg ((fa 12 32) j).toInt) ((iv 12 33) : Int32).toInt (iv 12 34).toInt ((iv 12 35) : Int32).toInt ((iv 12 36) : Int32).toInt b kd v1) ∨ (((iv 12 35) : Int32).toInt = 0 ∧ ((iv 12 36) : Int32).toInt = (iv 12 36).toInt ∧ TakR (fun j => sg ((fa 12 32) j).toInt) ((iv 12 33) : Int32).toInt (iv 12 34).toInt 0 0 (v70 : Int32).toInt 5 (f43 ((k).toInt).toNat).toInt)) from (by
                            have hE28 : f43 (k.toInt).toNat = 2 := (by rw [ef43]; exact upd_eq)
                            have hl := congrArg Int32.toInt (ev44.trans (show f43 k.toNatClampNeg = 2 from hE28))
                            have hz9 : (2 : Int32).toInt = 2 := by decide
                            have g0 := ((cw_mean xr9_0).resolve_left (fun q => by omega)).2
                            rw [xr5_1] at g0
                            have g1 := ((cw_least xr11_0).resolve_left (fun q => by omega)).2
                            rw [xr5_1] at g1
                            have g2 := ((cw_middle xr13_0).resolve_right (fun q => by omega)).2
                            rw [xr5_1] at g2
                            have hk : kwW (fun j => sg (fa 12 32 j).toInt) (n7 : Int32).toInt (n6 : Int32).toInt = 2 := by unfold kwW; rw [if_neg g0, if_neg g1, if_pos g2]
                            have hg := sg_i (fa 12 32 ((n62 : Int32).toInt).toNat).toInt
                            have hS9 : StpR (fun j => sg (fa 12 32 j).toInt) (iv 12 33).toInt (n6 : Int32).toInt 0 0 (v70 : Int32).toInt := ⟨_, xr61_1, Or.inr ⟨⟨by omega, (show sg (fa 12 32 ((n62 : Int32).toInt).toNat).toInt = 59 from by omega)⟩, rfl, by omega⟩⟩
                            rw [hE28]; exact Or.inr ⟨by omega, by omega, _, _, xr5_2, xr5_3, Or.inr ⟨by omega, rfl, by omega, hS9⟩⟩)), rfl⟩, by rw [ht9]; exact hP9, hD9⟩, hS.F ht9⟩) hS.2.2 dX12_readClause_295
                  · skip
                    have fr68 : ¬ (((iv 12 35) : Int32).toInt = 0) := fr68
                    exfalso; omega
              · skip
                have fr60 : ¬ (((iv 12 35) : Int32).toInt = 0) := fr60
                exfalso; omega
        · have fc12 := z_ne (rfl : (r11).toInt = _) (by decide : (0 : Int32).toInt = 0) c12
          refine lv_iconst (v := 1) hx hb dX12_readClause_144 (by decide) ?_
          refine lv_goto (tgt := 174) hx hb dX12_readClause_145 (by decide) ?_
          refine tM_12_28 hx hb hK hP hD hS (f0 := (fa 12 28)) rfl (i := k) (x := 1) (vp_in_iff.mpr ⟨by omega, by omega⟩) dX12_readClause_174 (fun f71 ef71 H locs hP hD hS => ?_)
          have hf71 : ∀ j, inb (bA 12 28 j) (f71 j) := fun j => full_i _
          refine lv_aload_n hx hb dX12_readClause_175 rfl (lv_at hl 0 rfl) ?_
          refine lv_aload_n hx hb dX12_readClause_176 rfl (lv_at hl 0 rfl) ?_
          refine gM_12_28 hx hb ht hown hK hP m_1167 dX12_readClause_177 ?_
          refine lv_iload_n hx hb dX12_readClause_180 rfl (lv_at hl 2 rfl) ?_
          refine lM_12_28 hx hb hK hP (f := f71) rfl (vp_in_iff.mpr ⟨by omega, by omega⟩) dX12_readClause_181 ?_
          refine lv_topi (fun v72 ev72 => ?_)
          refine lv_if_lt (tgt := 189) hx hb dX12_readClause_182 (by decide) (fun c73 => ?_) (fun c73 => ?_)
          · have fc73 := z_lt (rfl : (v72).toInt = _) (by decide : (0 : Int32).toInt = 0) c73
            refine lv_iconst (v := 0) hx hb dX12_readClause_189 (by decide) ?_
            refine lv_iconst (v := 1) hx hb dX12_readClause_190 (by decide) ?_
            refine lv_aload_n hx hb dX12_readClause_191 rfl (lv_at hl 0 rfl) ?_
            refine gM_12_37 hx hb ht hown hK hP m_1176 (v := n7) rfl dX12_readClause_192 ?_
            have i_12_35 : 0 ≤ (iv 12 35).toInt ∧ (iv 12 35).toInt ≤ 5 := hI.1 12 35
            have hFc := free_all hD hS hA
            refine va_calli (va_runV (As := [.int 0, .int 1, .int n7]) (rest := []) ⟨hx, hb, hml, hown, ht⟩ (c_X12_want_r0 l dC dI H.size h g ca (u2 (u2 (u2 iv 12 34 n6) 12 37 n7) 12 38 n8) lv (u2 (u2 (u2 fa 12 26 f1) 12 30 f2) 12 28 f71) la (IX_a (c := 12) (k := 28) (IX_a (c := 12) (k := 30) (IX_a (c := 12) (k := 26) (IX_i (c := 12) (k := 38) (IX_i (c := 12) (k := 37) (IX_i (c := 12) (k := 34) hI (show inb (0, 200) n6 from ⟨by omega, by omega⟩)) (show inb (0, 200) n7 from ⟨by omega, by omega⟩)) (show inb (0, 200) n8 from ⟨by omega, by omega⟩)) hf1) hf2) hf71) 1 n7 ⟨by decide, by decide⟩) (kV 3 ht m_1472 m_1474 m_50 m_89 m_1475 rfl rfl hd_X12_want_v ⟨Nat.le_of_ble_eq_true rfl, Nat.le_of_ble_eq_true rfl⟩) (vW hP hK hD (rM_12 hK hP)) rfl rfl hl.1 rfl (lv_room (Nat.le_of_ble_eq_true rfl)) dX12_readClause_195 ⟨Nat.le_of_ble_eq_true rfl, Nat.le_of_ble_eq_true rfl⟩) hS (fun q _ h => hFc q h) hFc (fun r74 u t H1 locs ht9 hvm hr74 hB hz1 hk1 hS => ?_)
            obtain ⟨n75, n76, hn75, xr74_0, xr74_1, hr74, rfl⟩ := hr74
            have hn75 : 0 ≤ n75.toInt ∧ n75.toInt ≤ 5 := hn75
            obtain ⟨hP, hD⟩ := hB
            rw [ht9] at hP
            generalize H1 = H at hP hS ⊢
            have hP : va_P (dC, dI) classes (WM h g ca (u2 (u2 (u2 (u2 (u2 iv 12 34 n6) 12 37 n7) 12 38 n8) 12 35 n75) 12 36 n76) lv (u2 (u2 (u2 fa 12 26 f1) 12 30 f2) 12 28 f71) la) H := hP
            have hD : va_D A (WM h g ca (u2 (u2 (u2 (u2 (u2 iv 12 34 n6) 12 37 n7) 12 38 n8) 12 35 n75) 12 36 n76) lv (u2 (u2 (u2 fa 12 26 f1) 12 30 f2) 12 28 f71) la) := (show va_D _ (WM h g ca (u2 (u2 (u2 (u2 (u2 iv 12 34 n6) 12 37 n7) 12 38 n8) 12 35 n75) 12 36 n76) lv (u2 (u2 (u2 fa 12 26 f1) 12 30 f2) 12 28 f71) la) from hD).weaken (fun _ _ _ h => hFc _ h)
            have xr74_0 : 1 ≤ (n75 : Int32).toInt := xr74_0
            have : (1 : Int32).toInt = 1 := (by decide)
            have xr74_1 : ((((iv 12 35) : Int32).toInt = 0 ∧ (n75 : Int32).toInt = (1 : Int32).toInt ∧ (n76 : Int32).toInt = (n7 : Int32).toInt) ∨ (((iv 12 35) : Int32).toInt ≠ 0 ∧ (n75 : Int32).toInt = ((iv 12 35) : Int32).toInt ∧ (n76 : Int32).toInt = ((iv 12 36) : Int32).toInt)) := xr74_1
            obtain rfl : 0 = r74 := hr74.symm
            refine lv_istore_n (lv' := [(3, .int 0), (0, .ref h), (1, .int 1), (2, .int k)]) hx hb dX12_readClause_198 rfl hl (by decide) rfl (fun ls hl => ?_)
            refine lv_goto (tgt := 257) hx hb dX12_readClause_199 (by decide) ?_
            refine lv_aload_n hx hb dX12_readClause_257 rfl (lv_at hl 1 rfl) ?_
            have hFc := free_all hD hS hA
            refine va_calli (va_runV (As := []) (rest := []) ⟨hx, hb, hml, hown, ht⟩ (c_X12_here_r l dC dI H.size h g ca (u2 (u2 (u2 (u2 (u2 iv 12 34 n6) 12 37 n7) 12 38 n8) 12 35 n75) 12 36 n76) lv (u2 (u2 (u2 fa 12 26 f1) 12 30 f2) 12 28 f71) la (IX_a (c := 12) (k := 28) (IX_a (c := 12) (k := 30) (IX_a (c := 12) (k := 26) (IX_i (c := 12) (k := 36) (IX_i (c := 12) (k := 35) (IX_i (c := 12) (k := 38) (IX_i (c := 12) (k := 37) (IX_i (c := 12) (k := 34) hI (show inb (0, 200) n6 from ⟨by omega, by omega⟩)) (show inb (0, 200) n7 from ⟨by omega, by omega⟩)) (show inb (0, 200) n8 from ⟨by omega, by omega⟩)) (show inb (0, 5) n75 from ⟨by omega, by omega⟩)) (full_i _)) hf1) hf2) hf71)) (kV 0 ht m_1458 m_1460 m_47 m_89 m_1461 rfl rfl hd_X12_here_v ⟨Nat.le_of_ble_eq_true rfl, Nat.le_of_ble_eq_true rfl⟩) (vW hP hK hD (rM_12 hK hP)) rfl rfl hl.1 rfl (lv_room (Nat.le_of_ble_eq_true rfl)) dX12_readClause_258 ⟨Nat.le_of_ble_eq_true rfl, Nat.le_of_ble_eq_true rfl⟩) hS (fun q _ h => hFc q h) hFc (fun r77 u t H1 locs ht9 hvm hr77 hB hz1 hk1 hS => ?_)
            obtain ⟨n78, hn78, xr77_0, xr77_1, xr77_2, hr77, rfl⟩ := hr77
            have hn78 : 0 ≤ n78.toInt ∧ n78.toInt ≤ 200 := hn78
            obtain ⟨hP, hD⟩ := hB
            rw [ht9] at hP
            generalize H1 = H at hP hS ⊢
            have hP : va_P (dC, dI) classes (WM h g ca (u2 (u2 (u2 (u2 (u2 iv 12 34 n78) 12 37 n7) 12 38 n8) 12 35 n75) 12 36 n76) lv (u2 (u2 (u2 fa 12 26 f1) 12 30 f2) 12 28 f71) la) H := hP
            have hD : va_D A (WM h g ca (u2 (u2 (u2 (u2 (u2 iv 12 34 n78) 12 37 n7) 12 38 n8) 12 35 n75) 12 36 n76) lv (u2 (u2 (u2 fa 12 26 f1) 12 30 f2) 12 28 f71) la) := (show va_D _ (WM h g ca (u2 (u2 (u2 (u2 (u2 iv 12 34 n78) 12 37 n7) 12 38 n8) 12 35 n75) 12 36 n76) lv (u2 (u2 (u2 fa 12 26 f1) 12 30 f2) 12 28 f71) la) from hD).weaken (fun _ _ _ h => hFc _ h)
            have xr77_0 : (n6 : Int32).toInt ≤ (n78 : Int32).toInt := xr77_0
            have xr77_1 : Sk (fun j => sg ((fa 12 32) j).toInt) ((iv 12 33) : Int32).toInt (n6 : Int32).toInt (n78 : Int32).toInt := xr77_1
            have xr77_2 : (((r77 : Int32).toInt = -1 ∧ ((iv 12 33) : Int32).toInt ≤ (n78 : Int32).toInt) ∨ ((n78 : Int32).toInt < ((iv 12 33) : Int32).toInt ∧ (r77 : Int32).toInt = ((fa 12 32) ((n78 : Int32).toInt).toNat).toInt)) := xr77_2
            refine lv_istore_n (lv' := [(3, .int r77), (0, .ref h), (1, .int 1), (2, .int k)]) hx hb dX12_readClause_261 rfl hl (by decide) rfl (fun ls hl => ?_)
            refine lv_aload_n hx hb dX12_readClause_262 rfl (lv_at hl 1 rfl) ?_
            refine lv_iload_n hx hb dX12_readClause_263 rfl (lv_at hl 0 rfl) ?_
            refine lv_bipush (v := 59) hx hb dX12_readClause_264 (by decide) ?_
            refine lv_icmp_ne (tgt := 273) hx hb dX12_readClause_266 (by decide) (fun c79 => ?_) (fun c79 => ?_)
            · have fc79 := z_ne (rfl : (r77).toInt = _) (by decide : (59 : Int32).toInt = 59) c79
              refine lv_iconst (v := 0) hx hb dX12_readClause_273 (by decide) ?_
              refine lv_iconst (v := 1) hx hb dX12_readClause_274 (by decide) ?_
              refine lv_aload_n hx hb dX12_readClause_275 rfl (lv_at hl 1 rfl) ?_
              refine gM_12_34 hx hb ht hown hK hP m_1173 (v := n78) rfl dX12_readClause_276 ?_
              have hFc := free_all hD hS hA
              refine va_calli (va_runV (As := [.int 0, .int 1, .int n78]) (rest := []) ⟨hx, hb, hml, hown, ht⟩ (c_X12_want_r0 l dC dI H.size h g ca (u2 (u2 (u2 (u2 (u2 iv 12 34 n78) 12 37 n7) 12 38 n8) 12 35 n75) 12 36 n76) lv (u2 (u2 (u2 fa 12 26 f1) 12 30 f2) 12 28 f71) la (IX_a (c := 12) (k := 28) (IX_a (c := 12) (k := 30) (IX_a (c := 12) (k := 26) (IX_i (c := 12) (k := 36) (IX_i (c := 12) (k := 35) (IX_i (c := 12) (k := 38) (IX_i (c := 12) (k := 37) (IX_i (c := 12) (k := 34) hI (show inb (0, 200) n78 from ⟨by omega, by omega⟩)) (show inb (0, 200) n7 from ⟨by omega, by omega⟩)) (show inb (0, 200) n8 from ⟨by omega, by omega⟩)) (show inb (0, 5) n75 from ⟨by omega, by omega⟩)) (full_i _)) hf1) hf2) hf71) 1 n78 ⟨by decide, by decide⟩) (kV 3 ht m_1472 m_1474 m_50 m_89 m_1475 rfl rfl hd_X12_want_v ⟨Nat.le_of_ble_eq_true rfl, Nat.le_of_ble_eq_true rfl⟩) (vW hP hK hD (rM_12 hK hP)) rfl rfl hl.1 rfl (lv_room (Nat.le_of_ble_eq_true rfl)) dX12_readClause_279 ⟨Nat.le_of_ble_eq_true rfl, Nat.le_of_ble_eq_true rfl⟩) hS (fun q _ h => hFc q h) hFc (fun r80 u t H1 locs ht9 hvm hr80 hB hz1 hk1 hS => ?_)
              obtain ⟨n81, n82, hn81, xr80_0, xr80_1, hr80, rfl⟩ := hr80
              have hn81 : 0 ≤ n81.toInt ∧ n81.toInt ≤ 5 := hn81
              obtain ⟨hP, hD⟩ := hB
              rw [ht9] at hP
              generalize H1 = H at hP hS ⊢
              have hP : va_P (dC, dI) classes (WM h g ca (u2 (u2 (u2 (u2 (u2 iv 12 34 n78) 12 37 n7) 12 38 n8) 12 35 n81) 12 36 n82) lv (u2 (u2 (u2 fa 12 26 f1) 12 30 f2) 12 28 f71) la) H := hP
              have hD : va_D A (WM h g ca (u2 (u2 (u2 (u2 (u2 iv 12 34 n78) 12 37 n7) 12 38 n8) 12 35 n81) 12 36 n82) lv (u2 (u2 (u2 fa 12 26 f1) 12 30 f2) 12 28 f71) la) := (show va_D _ (WM h g ca (u2 (u2 (u2 (u2 (u2 iv 12 34 n78) 12 37 n7) 12 38 n8) 12 35 n81) 12 36 n82) lv (u2 (u2 (u2 fa 12 26 f1) 12 30 f2) 12 28 f71) la) from hD).weaken (fun _ _ _ h => hFc _ h)
              have xr80_0 : 1 ≤ (n81 : Int32).toInt := xr80_0
              have xr80_1 : (((n75 : Int32).toInt = 0 ∧ (n81 : Int32).toInt = (1 : Int32).toInt ∧ (n82 : Int32).toInt = (n78 : Int32).toInt) ∨ ((n75 : Int32).toInt ≠ 0 ∧ (n81 : Int32).toInt = (n75 : Int32).toInt ∧ (n82 : Int32).toInt = (n76 : Int32).toInt)) := xr80_1
              obtain rfl : 0 = r80 := hr80.symm
              refine lv_if_eq (tgt := 295) hx hb dX12_readClause_282 (by decide) (fun c83 => ?_) (fun c83 => ?_)
              · skip
                have hP9 : va_P (dC, dI) classes (WM h g ca (u2 (u2 (u2 (u2 (u2 iv 12 34 n78) 12 35 n81) 12 36 n82) 12 37 n7) 12 38 n8) lv (u2 (u2 (u2 fa 12 26 f1) 12 28 f71) 12 30 f2) la) H := hP
                have hD9 : va_D A (WM h g ca (u2 (u2 (u2 (u2 (u2 iv 12 34 n78) 12 35 n81) 12 36 n82) 12 37 n7) 12 38 n8) lv (u2 (u2 (u2 fa 12 26 f1) 12 28 f71) 12 30 f2) la) := hD
                exact W.vret hx hb hr (fun t ht9 hW => ⟨⟨((u2 (u2 (u2 (u2 (u2 iv 12 34 n78) 12 35 n81) 12 36 n82) 12 37 n7) 12 38 n8), lv, (u2 (u2 (u2 fa 12 26 f1) 12 28 f71) 12 30 f2), la), rfl, ⟨f1, f71, f2, n78, n81, n82, n7, n8, hf2, (show inb (0, 200) n78 from ⟨by omega, by omega⟩), (show inb (0, 5) n81 from ⟨by omega, by omega⟩), (show inb (0, 200) n7 from ⟨by omega, by omega⟩), (show inb (0, 200) n8 from ⟨by omega, by omega⟩), (show (iv 12 34).toInt ≤ (n78 : Int32).toInt from by omega), (show ∀ j : Nat, j ≠ k.toNatClampNeg → f1 j = (fa 12 26) j ∧ (fa 12 27) j = (fa 12 27) j ∧ f71 j = (fa 12 28) j from fun j hj => ⟨(by rw [ef1, upd_ne hj]), rfl, (by rw [ef71, upd_ne hj])⟩), (show ((n81 : Int32).toInt ≠ 0 ∨ gd3 (f1 k.toNatClampNeg) ((fa 12 27) k.toNatClampNeg) (f71 k.toNatClampNeg)) from (by
                      have kc : (1 : Int32).toInt = 1 := by decide
                      have kE : f1 k.toNatClampNeg = 1 := by rw [ef1]; exact upd_eq
                      have fE : f71 k.toNatClampNeg = 1 := by rw [ef71]; exact upd_eq
                      have := congrArg Int32.toInt (ev72.trans fE)
                      by_cases h0 : (n81 : Int32).toInt = 0
                      · refine Or.inr ?_; rw [kE, fE]; unfold gd3; exact ⟨fun h => by omega, fun h h2 => by omega⟩
                      · exact Or.inl h0)), (show ∀ j : Nat, j ≠ k.toNatClampNeg → (fa 12 29) j = (fa 12 29) j ∧ f2 j = (fa 12 30) j from fun j hj => ⟨(rfl), (by rw [ef2, upd_ne (show j ≠ k.toNatClampNeg from hj)])⟩), (show ∀ j : Nat, (j : Int) < 8 * (k).toInt → (fa 12 31) j = (fa 12 31) j from fun j hj => rfl), (show f1 ((k).toInt).toNat = 1 from (by rw [ef1]; exact upd_eq)), (show (((n81 : Int32).toInt ≠ 0 ∧ ∃ b kd v1 : Int, TakR (fun j => sg ((fa 12 32) j).toInt) ((iv 12 33) : Int32).toInt (iv 12 34).toInt (n81 : Int32).toInt (n82 : Int32).toInt b kd v1) ∨ ((n81 : Int32).toInt = 0 ∧ (n82 : Int32).toInt = (iv 12 36).toInt ∧ TakR (fun j => sg ((fa 12 32) j).toInt) ((iv 12 33) : Int32).toInt (iv 12 34).toInt 0 0 (n78 : Int32).toInt 5 (f71 ((k).toInt).toNat).toInt)) from (by
                      have hE28 : f71 (k.toInt).toNat = 1 := (by rw [ef71]; exact upd_eq)
                      have hl := congrArg Int32.toInt (ev72.trans (show f71 k.toNatClampNeg = 1 from hE28))
                      have hz9 : (1 : Int32).toInt = 1 := by decide
                      exfalso; omega)), rfl⟩, by rw [ht9]; exact hP9, hD9⟩, hS.F ht9⟩) hS.2.2 dX12_readClause_295
              · exact absurd rfl c83
            · have fc79 := z_eq (rfl : (r77).toInt = _) (by decide : (59 : Int32).toInt = 59) c79
              refine lv_iconst (v := 1) hx hb dX12_readClause_269 (by decide) ?_
              refine lv_goto (tgt := 274) hx hb dX12_readClause_270 (by decide) ?_
              refine lv_iconst (v := 1) hx hb dX12_readClause_274 (by decide) ?_
              refine lv_aload_n hx hb dX12_readClause_275 rfl (lv_at hl 1 rfl) ?_
              refine gM_12_34 hx hb ht hown hK hP m_1173 (v := n78) rfl dX12_readClause_276 ?_
              refine vp_callSi (W.runV (As := [.int 1, .int 1, .int n78]) (rest := []) ⟨hx, hb, hml, hown, ht⟩ (c_X12_want_1 l dC dI h g ca (u2 (u2 (u2 (u2 (u2 iv 12 34 n78) 12 37 n7) 12 38 n8) 12 35 n75) 12 36 n76) lv (u2 (u2 (u2 fa 12 26 f1) 12 30 f2) 12 28 f71) la (IX_a (c := 12) (k := 28) (IX_a (c := 12) (k := 30) (IX_a (c := 12) (k := 26) (IX_i (c := 12) (k := 36) (IX_i (c := 12) (k := 35) (IX_i (c := 12) (k := 38) (IX_i (c := 12) (k := 37) (IX_i (c := 12) (k := 34) hI (show inb (0, 200) n78 from ⟨by omega, by omega⟩)) (show inb (0, 200) n7 from ⟨by omega, by omega⟩)) (show inb (0, 200) n8 from ⟨by omega, by omega⟩)) (show inb (0, 5) n75 from ⟨by omega, by omega⟩)) (full_i _)) hf1) hf2) hf71) 1 n78) (kV 3 ht m_1472 m_1474 m_50 m_89 m_1475 rfl rfl hd_X12_want_v ⟨Nat.le_of_ble_eq_true rfl, Nat.le_of_ble_eq_true rfl⟩) (vR hP hK (rM_12 hK hP)) rfl rfl hl.1 rfl (lv_room (Nat.le_of_ble_eq_true rfl)) dX12_readClause_279 ⟨Nat.le_of_ble_eq_true rfl, Nat.le_of_ble_eq_true rfl⟩) (fun r84 hr84 => ?_)
              rcases hr84 with ⟨rfl, fr84⟩ | ⟨rfl, fr84⟩
              · skip
                have fr84 : ((n75 : Int32).toInt = 0) := fr84
                refine lv_if_eq (tgt := 295) hx hb dX12_readClause_282 (by decide) (fun c85 => ?_) (fun c85 => ?_)
                · exact absurd c85 (by decide)
                · skip
                  refine lv_aload_n hx hb dX12_readClause_285 rfl (lv_at hl 1 rfl) ?_
                  refine lv_dup hx hb dX12_readClause_286 rfl ?_
                  refine gM_12_34 hx hb ht hown hK hP m_1173 (v := n78) rfl dX12_readClause_287 ?_
                  refine lv_iconst (v := 1) hx hb dX12_readClause_290 (by decide) ?_
                  refine lv_iadd hx hb dX12_readClause_291 ?_
                  refine lv_topi (fun v86 ev86 => ?_)
                  have tv86 := z_add ev86 (rfl : (n78).toInt = _) (by decide : (1 : Int32).toInt = 1) (by omega) (by omega)
                  have : 0 ≤ (v86 : Int32).toInt ∧ (v86 : Int32).toInt ≤ 200 := ⟨by omega, by omega⟩
                  refine pM_12_34 (v := v86) hx hb ht hown hK hP hD hS m_1173 dX12_readClause_292 (fun H locs hP hD hS => ?_)
                  have hP : va_P (dC, dI) classes (WM h g ca (u2 (u2 (u2 (u2 (u2 iv 12 34 v86) 12 37 n7) 12 38 n8) 12 35 n75) 12 36 n76) lv (u2 (u2 (u2 fa 12 26 f1) 12 30 f2) 12 28 f71) la) H := hP
                  have hD : va_D A (WM h g ca (u2 (u2 (u2 (u2 (u2 iv 12 34 v86) 12 37 n7) 12 38 n8) 12 35 n75) 12 36 n76) lv (u2 (u2 (u2 fa 12 26 f1) 12 30 f2) 12 28 f71) la) := hD
                  have hP9 : va_P (dC, dI) classes (WM h g ca (u2 (u2 (u2 (u2 (u2 iv 12 34 v86) 12 35 n75) 12 36 n76) 12 37 n7) 12 38 n8) lv (u2 (u2 (u2 fa 12 26 f1) 12 28 f71) 12 30 f2) la) H := hP
                  have hD9 : va_D A (WM h g ca (u2 (u2 (u2 (u2 (u2 iv 12 34 v86) 12 35 n75) 12 36 n76) 12 37 n7) 12 38 n8) lv (u2 (u2 (u2 fa 12 26 f1) 12 28 f71) 12 30 f2) la) := hD
                  exact W.vret hx hb hr (fun t ht9 hW => ⟨⟨((u2 (u2 (u2 (u2 (u2 iv 12 34 v86) 12 35 n75) 12 36 n76) 12 37 n7) 12 38 n8), lv, (u2 (u2 (u2 fa 12 26 f1) 12 28 f71) 12 30 f2), la), rfl, ⟨f1, f71, f2, v86, n75, n76, n7, n8, hf2, (show inb (0, 200) v86 from ⟨by omega, by omega⟩), (show inb (0, 5) n75 from ⟨by omega, by omega⟩), (show inb (0, 200) n7 from ⟨by omega, by omega⟩), (show inb (0, 200) n8 from ⟨by omega, by omega⟩), (show (iv 12 34).toInt ≤ (v86 : Int32).toInt from by omega), (show ∀ j : Nat, j ≠ k.toNatClampNeg → f1 j = (fa 12 26) j ∧ (fa 12 27) j = (fa 12 27) j ∧ f71 j = (fa 12 28) j from fun j hj => ⟨(by rw [ef1, upd_ne hj]), rfl, (by rw [ef71, upd_ne hj])⟩), (show ((n75 : Int32).toInt ≠ 0 ∨ gd3 (f1 k.toNatClampNeg) ((fa 12 27) k.toNatClampNeg) (f71 k.toNatClampNeg)) from (by
                        have kc : (1 : Int32).toInt = 1 := by decide
                        have kE : f1 k.toNatClampNeg = 1 := by rw [ef1]; exact upd_eq
                        have fE : f71 k.toNatClampNeg = 1 := by rw [ef71]; exact upd_eq
                        have := congrArg Int32.toInt (ev72.trans fE)
                        by_cases h0 : (n75 : Int32).toInt = 0
                        · refine Or.inr ?_; rw [kE, fE]; unfold gd3; exact ⟨fun h => by omega, fun h h2 => by omega⟩
                        · exact Or.inl h0)), (show ∀ j : Nat, j ≠ k.toNatClampNeg → (fa 12 29) j = (fa 12 29) j ∧ f2 j = (fa 12 30) j from fun j hj => ⟨(rfl), (by rw [ef2, upd_ne (show j ≠ k.toNatClampNeg from hj)])⟩), (show ∀ j : Nat, (j : Int) < 8 * (k).toInt → (fa 12 31) j = (fa 12 31) j from fun j hj => rfl), (show f1 ((k).toInt).toNat = 1 from (by rw [ef1]; exact upd_eq)), (show (((n75 : Int32).toInt ≠ 0 ∧ ∃ b kd v1 : Int, TakR (fun j => sg ((fa 12 32) j).toInt) ((iv 12 33) : Int32).toInt (iv 12 34).toInt (n75 : Int32).toInt (n76 : Int32).toInt b kd v1) ∨ ((n75 : Int32).toInt = 0 ∧ (n76 : Int32).toInt = (iv 12 36).toInt ∧ TakR (fun j => sg ((fa 12 32) j).toInt) ((iv 12 33) : Int32).toInt (iv 12 34).toInt 0 0 (v86 : Int32).toInt 5 (f71 ((k).toInt).toNat).toInt)) from (by
                        have hE28 : f71 (k.toInt).toNat = 1 := (by rw [ef71]; exact upd_eq)
                        have hl := congrArg Int32.toInt (ev72.trans (show f71 k.toNatClampNeg = 1 from hE28))
                        have hz9 : (1 : Int32).toInt = 1 := by decide
                        exfalso; omega)), rfl⟩, by rw [ht9]; exact hP9, hD9⟩, hS.F ht9⟩) hS.2.2 dX12_readClause_295
              · skip
                have fr84 : ¬ ((n75 : Int32).toInt = 0) := fr84
                refine lv_if_eq (tgt := 295) hx hb dX12_readClause_282 (by decide) (fun c87 => ?_) (fun c87 => ?_)
                · skip
                  have hP9 : va_P (dC, dI) classes (WM h g ca (u2 (u2 (u2 (u2 (u2 iv 12 34 n78) 12 35 n75) 12 36 n76) 12 37 n7) 12 38 n8) lv (u2 (u2 (u2 fa 12 26 f1) 12 28 f71) 12 30 f2) la) H := hP
                  have hD9 : va_D A (WM h g ca (u2 (u2 (u2 (u2 (u2 iv 12 34 n78) 12 35 n75) 12 36 n76) 12 37 n7) 12 38 n8) lv (u2 (u2 (u2 fa 12 26 f1) 12 28 f71) 12 30 f2) la) := hD
                  exact W.vret hx hb hr (fun t ht9 hW => ⟨⟨((u2 (u2 (u2 (u2 (u2 iv 12 34 n78) 12 35 n75) 12 36 n76) 12 37 n7) 12 38 n8), lv, (u2 (u2 (u2 fa 12 26 f1) 12 28 f71) 12 30 f2), la), rfl, ⟨f1, f71, f2, n78, n75, n76, n7, n8, hf2, (show inb (0, 200) n78 from ⟨by omega, by omega⟩), (show inb (0, 5) n75 from ⟨by omega, by omega⟩), (show inb (0, 200) n7 from ⟨by omega, by omega⟩), (show inb (0, 200) n8 from ⟨by omega, by omega⟩), (show (iv 12 34).toInt ≤ (n78 : Int32).toInt from by omega), (show ∀ j : Nat, j ≠ k.toNatClampNeg → f1 j = (fa 12 26) j ∧ (fa 12 27) j = (fa 12 27) j ∧ f71 j = (fa 12 28) j from fun j hj => ⟨(by rw [ef1, upd_ne hj]), rfl, (by rw [ef71, upd_ne hj])⟩), (show ((n75 : Int32).toInt ≠ 0 ∨ gd3 (f1 k.toNatClampNeg) ((fa 12 27) k.toNatClampNeg) (f71 k.toNatClampNeg)) from Or.inl (by omega)), (show ∀ j : Nat, j ≠ k.toNatClampNeg → (fa 12 29) j = (fa 12 29) j ∧ f2 j = (fa 12 30) j from fun j hj => ⟨(rfl), (by rw [ef2, upd_ne (show j ≠ k.toNatClampNeg from hj)])⟩), (show ∀ j : Nat, (j : Int) < 8 * (k).toInt → (fa 12 31) j = (fa 12 31) j from fun j hj => rfl), (show f1 ((k).toInt).toNat = 1 from (by rw [ef1]; exact upd_eq)), (show (((n75 : Int32).toInt ≠ 0 ∧ ∃ b kd v1 : Int, TakR (fun j => sg ((fa 12 32) j).toInt) ((iv 12 33) : Int32).toInt (iv 12 34).toInt (n75 : Int32).toInt (n76 : Int32).toInt b kd v1) ∨ ((n75 : Int32).toInt = 0 ∧ (n76 : Int32).toInt = (iv 12 36).toInt ∧ TakR (fun j => sg ((fa 12 32) j).toInt) ((iv 12 33) : Int32).toInt (iv 12 34).toInt 0 0 (n78 : Int32).toInt 5 (f71 ((k).toInt).toNat).toInt)) from (by
                        have hE28 : f71 (k.toInt).toNat = 1 := (by rw [ef71]; exact upd_eq)
                        have hl := congrArg Int32.toInt (ev72.trans (show f71 k.toNatClampNeg = 1 from hE28))
                        have hz9 : (1 : Int32).toInt = 1 := by decide
                        exfalso; omega)), rfl⟩, by rw [ht9]; exact hP9, hD9⟩, hS.F ht9⟩) hS.2.2 dX12_readClause_295
                · exact absurd rfl c87
          · have fc73 := z_nlt (rfl : (v72).toInt = _) (by decide : (0 : Int32).toInt = 0) c73
            refine lv_iconst (v := 1) hx hb dX12_readClause_185 (by decide) ?_
            refine lv_goto (tgt := 190) hx hb dX12_readClause_186 (by decide) ?_
            refine lv_iconst (v := 1) hx hb dX12_readClause_190 (by decide) ?_
            refine lv_aload_n hx hb dX12_readClause_191 rfl (lv_at hl 0 rfl) ?_
            refine gM_12_37 hx hb ht hown hK hP m_1176 (v := n7) rfl dX12_readClause_192 ?_
            refine vp_callSi (W.runV (As := [.int 1, .int 1, .int n7]) (rest := []) ⟨hx, hb, hml, hown, ht⟩ (c_X12_want_1 l dC dI h g ca (u2 (u2 (u2 iv 12 34 n6) 12 37 n7) 12 38 n8) lv (u2 (u2 (u2 fa 12 26 f1) 12 30 f2) 12 28 f71) la (IX_a (c := 12) (k := 28) (IX_a (c := 12) (k := 30) (IX_a (c := 12) (k := 26) (IX_i (c := 12) (k := 38) (IX_i (c := 12) (k := 37) (IX_i (c := 12) (k := 34) hI (show inb (0, 200) n6 from ⟨by omega, by omega⟩)) (show inb (0, 200) n7 from ⟨by omega, by omega⟩)) (show inb (0, 200) n8 from ⟨by omega, by omega⟩)) hf1) hf2) hf71) 1 n7) (kV 3 ht m_1472 m_1474 m_50 m_89 m_1475 rfl rfl hd_X12_want_v ⟨Nat.le_of_ble_eq_true rfl, Nat.le_of_ble_eq_true rfl⟩) (vR hP hK (rM_12 hK hP)) rfl rfl hl.1 rfl (lv_room (Nat.le_of_ble_eq_true rfl)) dX12_readClause_195 ⟨Nat.le_of_ble_eq_true rfl, Nat.le_of_ble_eq_true rfl⟩) (fun r88 hr88 => ?_)
            rcases hr88 with ⟨rfl, fr88⟩ | ⟨rfl, fr88⟩
            have i_12_35 : 0 ≤ (iv 12 35).toInt ∧ (iv 12 35).toInt ≤ 5 := hI.1 12 35
            · skip
              have i_12_35 : 0 ≤ (iv 12 35).toInt ∧ (iv 12 35).toInt ≤ 5 := hI.1 12 35
              have fr88 : (((iv 12 35) : Int32).toInt = 0) := fr88
              refine lv_istore_n (lv' := [(3, .int 1), (0, .ref h), (1, .int 1), (2, .int k)]) hx hb dX12_readClause_198 rfl hl (by decide) rfl (fun ls hl => ?_)
              refine lv_goto (tgt := 257) hx hb dX12_readClause_199 (by decide) ?_
              refine lv_aload_n hx hb dX12_readClause_257 rfl (lv_at hl 1 rfl) ?_
              have hFc := free_all hD hS hA
              refine va_calli (va_runV (As := []) (rest := []) ⟨hx, hb, hml, hown, ht⟩ (c_X12_here_r l dC dI H.size h g ca (u2 (u2 (u2 iv 12 34 n6) 12 37 n7) 12 38 n8) lv (u2 (u2 (u2 fa 12 26 f1) 12 30 f2) 12 28 f71) la (IX_a (c := 12) (k := 28) (IX_a (c := 12) (k := 30) (IX_a (c := 12) (k := 26) (IX_i (c := 12) (k := 38) (IX_i (c := 12) (k := 37) (IX_i (c := 12) (k := 34) hI (show inb (0, 200) n6 from ⟨by omega, by omega⟩)) (show inb (0, 200) n7 from ⟨by omega, by omega⟩)) (show inb (0, 200) n8 from ⟨by omega, by omega⟩)) hf1) hf2) hf71)) (kV 0 ht m_1458 m_1460 m_47 m_89 m_1461 rfl rfl hd_X12_here_v ⟨Nat.le_of_ble_eq_true rfl, Nat.le_of_ble_eq_true rfl⟩) (vW hP hK hD (rM_12 hK hP)) rfl rfl hl.1 rfl (lv_room (Nat.le_of_ble_eq_true rfl)) dX12_readClause_258 ⟨Nat.le_of_ble_eq_true rfl, Nat.le_of_ble_eq_true rfl⟩) hS (fun q _ h => hFc q h) hFc (fun r89 u t H1 locs ht9 hvm hr89 hB hz1 hk1 hS => ?_)
              obtain ⟨n90, hn90, xr89_0, xr89_1, xr89_2, hr89, rfl⟩ := hr89
              have hn90 : 0 ≤ n90.toInt ∧ n90.toInt ≤ 200 := hn90
              obtain ⟨hP, hD⟩ := hB
              rw [ht9] at hP
              generalize H1 = H at hP hS ⊢
              have hP : va_P (dC, dI) classes (WM h g ca (u2 (u2 (u2 iv 12 34 n90) 12 37 n7) 12 38 n8) lv (u2 (u2 (u2 fa 12 26 f1) 12 30 f2) 12 28 f71) la) H := hP
              have hD : va_D A (WM h g ca (u2 (u2 (u2 iv 12 34 n90) 12 37 n7) 12 38 n8) lv (u2 (u2 (u2 fa 12 26 f1) 12 30 f2) 12 28 f71) la) := (show va_D _ (WM h g ca (u2 (u2 (u2 iv 12 34 n90) 12 37 n7) 12 38 n8) lv (u2 (u2 (u2 fa 12 26 f1) 12 30 f2) 12 28 f71) la) from hD).weaken (fun _ _ _ h => hFc _ h)
              have xr89_0 : (n6 : Int32).toInt ≤ (n90 : Int32).toInt := xr89_0
              have xr89_1 : Sk (fun j => sg ((fa 12 32) j).toInt) ((iv 12 33) : Int32).toInt (n6 : Int32).toInt (n90 : Int32).toInt := xr89_1
              have xr89_2 : (((r89 : Int32).toInt = -1 ∧ ((iv 12 33) : Int32).toInt ≤ (n90 : Int32).toInt) ∨ ((n90 : Int32).toInt < ((iv 12 33) : Int32).toInt ∧ (r89 : Int32).toInt = ((fa 12 32) ((n90 : Int32).toInt).toNat).toInt)) := xr89_2
              refine lv_istore_n (lv' := [(3, .int r89), (0, .ref h), (1, .int 1), (2, .int k)]) hx hb dX12_readClause_261 rfl hl (by decide) rfl (fun ls hl => ?_)
              refine lv_aload_n hx hb dX12_readClause_262 rfl (lv_at hl 1 rfl) ?_
              refine lv_iload_n hx hb dX12_readClause_263 rfl (lv_at hl 0 rfl) ?_
              refine lv_bipush (v := 59) hx hb dX12_readClause_264 (by decide) ?_
              refine lv_icmp_ne (tgt := 273) hx hb dX12_readClause_266 (by decide) (fun c91 => ?_) (fun c91 => ?_)
              · have fc91 := z_ne (rfl : (r89).toInt = _) (by decide : (59 : Int32).toInt = 59) c91
                refine lv_iconst (v := 0) hx hb dX12_readClause_273 (by decide) ?_
                refine lv_iconst (v := 1) hx hb dX12_readClause_274 (by decide) ?_
                refine lv_aload_n hx hb dX12_readClause_275 rfl (lv_at hl 1 rfl) ?_
                refine gM_12_34 hx hb ht hown hK hP m_1173 (v := n90) rfl dX12_readClause_276 ?_
                have hFc := free_all hD hS hA
                refine va_calli (va_runV (As := [.int 0, .int 1, .int n90]) (rest := []) ⟨hx, hb, hml, hown, ht⟩ (c_X12_want_r0 l dC dI H.size h g ca (u2 (u2 (u2 iv 12 34 n90) 12 37 n7) 12 38 n8) lv (u2 (u2 (u2 fa 12 26 f1) 12 30 f2) 12 28 f71) la (IX_a (c := 12) (k := 28) (IX_a (c := 12) (k := 30) (IX_a (c := 12) (k := 26) (IX_i (c := 12) (k := 38) (IX_i (c := 12) (k := 37) (IX_i (c := 12) (k := 34) hI (show inb (0, 200) n90 from ⟨by omega, by omega⟩)) (show inb (0, 200) n7 from ⟨by omega, by omega⟩)) (show inb (0, 200) n8 from ⟨by omega, by omega⟩)) hf1) hf2) hf71) 1 n90 ⟨by decide, by decide⟩) (kV 3 ht m_1472 m_1474 m_50 m_89 m_1475 rfl rfl hd_X12_want_v ⟨Nat.le_of_ble_eq_true rfl, Nat.le_of_ble_eq_true rfl⟩) (vW hP hK hD (rM_12 hK hP)) rfl rfl hl.1 rfl (lv_room (Nat.le_of_ble_eq_true rfl)) dX12_readClause_279 ⟨Nat.le_of_ble_eq_true rfl, Nat.le_of_ble_eq_true rfl⟩) hS (fun q _ h => hFc q h) hFc (fun r92 u t H1 locs ht9 hvm hr92 hB hz1 hk1 hS => ?_)
                obtain ⟨n93, n94, hn93, xr92_0, xr92_1, hr92, rfl⟩ := hr92
                have hn93 : 0 ≤ n93.toInt ∧ n93.toInt ≤ 5 := hn93
                obtain ⟨hP, hD⟩ := hB
                rw [ht9] at hP
                generalize H1 = H at hP hS ⊢
                have hP : va_P (dC, dI) classes (WM h g ca (u2 (u2 (u2 (u2 (u2 iv 12 34 n90) 12 37 n7) 12 38 n8) 12 35 n93) 12 36 n94) lv (u2 (u2 (u2 fa 12 26 f1) 12 30 f2) 12 28 f71) la) H := hP
                have hD : va_D A (WM h g ca (u2 (u2 (u2 (u2 (u2 iv 12 34 n90) 12 37 n7) 12 38 n8) 12 35 n93) 12 36 n94) lv (u2 (u2 (u2 fa 12 26 f1) 12 30 f2) 12 28 f71) la) := (show va_D _ (WM h g ca (u2 (u2 (u2 (u2 (u2 iv 12 34 n90) 12 37 n7) 12 38 n8) 12 35 n93) 12 36 n94) lv (u2 (u2 (u2 fa 12 26 f1) 12 30 f2) 12 28 f71) la) from hD).weaken (fun _ _ _ h => hFc _ h)
                have xr92_0 : 1 ≤ (n93 : Int32).toInt := xr92_0
                have : (1 : Int32).toInt = 1 := (by decide)
                have xr92_1 : ((((iv 12 35) : Int32).toInt = 0 ∧ (n93 : Int32).toInt = (1 : Int32).toInt ∧ (n94 : Int32).toInt = (n90 : Int32).toInt) ∨ (((iv 12 35) : Int32).toInt ≠ 0 ∧ (n93 : Int32).toInt = ((iv 12 35) : Int32).toInt ∧ (n94 : Int32).toInt = ((iv 12 36) : Int32).toInt)) := xr92_1
                obtain rfl : 0 = r92 := hr92.symm
                refine lv_if_eq (tgt := 295) hx hb dX12_readClause_282 (by decide) (fun c95 => ?_) (fun c95 => ?_)
                · skip
                  have hP9 : va_P (dC, dI) classes (WM h g ca (u2 (u2 (u2 (u2 (u2 iv 12 34 n90) 12 35 n93) 12 36 n94) 12 37 n7) 12 38 n8) lv (u2 (u2 (u2 fa 12 26 f1) 12 28 f71) 12 30 f2) la) H := hP
                  have hD9 : va_D A (WM h g ca (u2 (u2 (u2 (u2 (u2 iv 12 34 n90) 12 35 n93) 12 36 n94) 12 37 n7) 12 38 n8) lv (u2 (u2 (u2 fa 12 26 f1) 12 28 f71) 12 30 f2) la) := hD
                  exact W.vret hx hb hr (fun t ht9 hW => ⟨⟨((u2 (u2 (u2 (u2 (u2 iv 12 34 n90) 12 35 n93) 12 36 n94) 12 37 n7) 12 38 n8), lv, (u2 (u2 (u2 fa 12 26 f1) 12 28 f71) 12 30 f2), la), rfl, ⟨f1, f71, f2, n90, n93, n94, n7, n8, hf2, (show inb (0, 200) n90 from ⟨by omega, by omega⟩), (show inb (0, 5) n93 from ⟨by omega, by omega⟩), (show inb (0, 200) n7 from ⟨by omega, by omega⟩), (show inb (0, 200) n8 from ⟨by omega, by omega⟩), (show (iv 12 34).toInt ≤ (n90 : Int32).toInt from by omega), (show ∀ j : Nat, j ≠ k.toNatClampNeg → f1 j = (fa 12 26) j ∧ (fa 12 27) j = (fa 12 27) j ∧ f71 j = (fa 12 28) j from fun j hj => ⟨(by rw [ef1, upd_ne hj]), rfl, (by rw [ef71, upd_ne hj])⟩), (show ((n93 : Int32).toInt ≠ 0 ∨ gd3 (f1 k.toNatClampNeg) ((fa 12 27) k.toNatClampNeg) (f71 k.toNatClampNeg)) from (by
                        have kc : (1 : Int32).toInt = 1 := by decide
                        have kE : f1 k.toNatClampNeg = 1 := by rw [ef1]; exact upd_eq
                        have fE : f71 k.toNatClampNeg = 1 := by rw [ef71]; exact upd_eq
                        have := congrArg Int32.toInt (ev72.trans fE)
                        by_cases h0 : (n93 : Int32).toInt = 0
                        · refine Or.inr ?_; rw [kE, fE]; unfold gd3; exact ⟨fun h => by omega, fun h h2 => by omega⟩
                        · exact Or.inl h0)), (show ∀ j : Nat, j ≠ k.toNatClampNeg → (fa 12 29) j = (fa 12 29) j ∧ f2 j = (fa 12 30) j from fun j hj => ⟨(rfl), (by rw [ef2, upd_ne (show j ≠ k.toNatClampNeg from hj)])⟩), (show ∀ j : Nat, (j : Int) < 8 * (k).toInt → (fa 12 31) j = (fa 12 31) j from fun j hj => rfl), (show f1 ((k).toInt).toNat = 1 from (by rw [ef1]; exact upd_eq)), (show (((n93 : Int32).toInt ≠ 0 ∧ ∃ b kd v1 : Int, TakR (fun j => sg ((fa 12 32) j).toInt) ((iv 12 33) : Int32).toInt (iv 12 34).toInt (n93 : Int32).toInt (n94 : Int32).toInt b kd v1) ∨ ((n93 : Int32).toInt = 0 ∧ (n94 : Int32).toInt = (iv 12 36).toInt ∧ TakR (fun j => sg ((fa 12 32) j).toInt) ((iv 12 33) : Int32).toInt (iv 12 34).toInt 0 0 (n90 : Int32).toInt 5 (f71 ((k).toInt).toNat).toInt)) from (by
                        have hE28 : f71 (k.toInt).toNat = 1 := (by rw [ef71]; exact upd_eq)
                        have hl := congrArg Int32.toInt (ev72.trans (show f71 k.toNatClampNeg = 1 from hE28))
                        have hz9 : (1 : Int32).toInt = 1 := by decide
                        have g0 := ((cw_mean xr9_0).resolve_left (fun q => by omega)).2
                        rw [xr5_1] at g0
                        have g1 := ((cw_least xr11_0).resolve_right (fun q => by omega)).2
                        rw [xr5_1] at g1
                        have hk : kwW (fun j => sg (fa 12 32 j).toInt) (n7 : Int32).toInt (n6 : Int32).toInt = 1 := by unfold kwW; rw [if_neg g0, if_pos g1]
                        have hg := sg_i (fa 12 32 ((n90 : Int32).toInt).toNat).toInt
                        have hS9 : ((iv 12 35) : Int32).toInt = 0 → StpR (fun j => sg (fa 12 32 j).toInt) (iv 12 33).toInt (n6 : Int32).toInt (n93 : Int32).toInt (n94 : Int32).toInt 0 := fun h0 => ⟨_, xr89_1, Or.inl ⟨fun q => (by have q2 : sg (fa 12 32 ((n90 : Int32).toInt).toNat).toInt = 59 := q.2; omega), by omega, by omega⟩⟩
                        exact Or.inl ⟨by omega, 0, _, _, _, _, xr5_2, xr5_3, Or.inr ⟨by omega, rfl, rfl, hS9 (by omega)⟩⟩)), rfl⟩, by rw [ht9]; exact hP9, hD9⟩, hS.F ht9⟩) hS.2.2 dX12_readClause_295
                · exact absurd rfl c95
              · have fc91 := z_eq (rfl : (r89).toInt = _) (by decide : (59 : Int32).toInt = 59) c91
                refine lv_iconst (v := 1) hx hb dX12_readClause_269 (by decide) ?_
                refine lv_goto (tgt := 274) hx hb dX12_readClause_270 (by decide) ?_
                refine lv_iconst (v := 1) hx hb dX12_readClause_274 (by decide) ?_
                refine lv_aload_n hx hb dX12_readClause_275 rfl (lv_at hl 1 rfl) ?_
                refine gM_12_34 hx hb ht hown hK hP m_1173 (v := n90) rfl dX12_readClause_276 ?_
                refine vp_callSi (W.runV (As := [.int 1, .int 1, .int n90]) (rest := []) ⟨hx, hb, hml, hown, ht⟩ (c_X12_want_1 l dC dI h g ca (u2 (u2 (u2 iv 12 34 n90) 12 37 n7) 12 38 n8) lv (u2 (u2 (u2 fa 12 26 f1) 12 30 f2) 12 28 f71) la (IX_a (c := 12) (k := 28) (IX_a (c := 12) (k := 30) (IX_a (c := 12) (k := 26) (IX_i (c := 12) (k := 38) (IX_i (c := 12) (k := 37) (IX_i (c := 12) (k := 34) hI (show inb (0, 200) n90 from ⟨by omega, by omega⟩)) (show inb (0, 200) n7 from ⟨by omega, by omega⟩)) (show inb (0, 200) n8 from ⟨by omega, by omega⟩)) hf1) hf2) hf71) 1 n90) (kV 3 ht m_1472 m_1474 m_50 m_89 m_1475 rfl rfl hd_X12_want_v ⟨Nat.le_of_ble_eq_true rfl, Nat.le_of_ble_eq_true rfl⟩) (vR hP hK (rM_12 hK hP)) rfl rfl hl.1 rfl (lv_room (Nat.le_of_ble_eq_true rfl)) dX12_readClause_279 ⟨Nat.le_of_ble_eq_true rfl, Nat.le_of_ble_eq_true rfl⟩) (fun r96 hr96 => ?_)
                rcases hr96 with ⟨rfl, fr96⟩ | ⟨rfl, fr96⟩
                · skip
                  have fr96 : (((iv 12 35) : Int32).toInt = 0) := fr96
                  refine lv_if_eq (tgt := 295) hx hb dX12_readClause_282 (by decide) (fun c97 => ?_) (fun c97 => ?_)
                  · exact absurd c97 (by decide)
                  · skip
                    refine lv_aload_n hx hb dX12_readClause_285 rfl (lv_at hl 1 rfl) ?_
                    refine lv_dup hx hb dX12_readClause_286 rfl ?_
                    refine gM_12_34 hx hb ht hown hK hP m_1173 (v := n90) rfl dX12_readClause_287 ?_
                    refine lv_iconst (v := 1) hx hb dX12_readClause_290 (by decide) ?_
                    refine lv_iadd hx hb dX12_readClause_291 ?_
                    refine lv_topi (fun v98 ev98 => ?_)
                    have tv98 := z_add ev98 (rfl : (n90).toInt = _) (by decide : (1 : Int32).toInt = 1) (by omega) (by omega)
                    have : 0 ≤ (v98 : Int32).toInt ∧ (v98 : Int32).toInt ≤ 200 := ⟨by omega, by omega⟩
                    refine pM_12_34 (v := v98) hx hb ht hown hK hP hD hS m_1173 dX12_readClause_292 (fun H locs hP hD hS => ?_)
                    have hP : va_P (dC, dI) classes (WM h g ca (u2 (u2 (u2 iv 12 34 v98) 12 37 n7) 12 38 n8) lv (u2 (u2 (u2 fa 12 26 f1) 12 30 f2) 12 28 f71) la) H := hP
                    have hD : va_D A (WM h g ca (u2 (u2 (u2 iv 12 34 v98) 12 37 n7) 12 38 n8) lv (u2 (u2 (u2 fa 12 26 f1) 12 30 f2) 12 28 f71) la) := hD
                    have hP9 : va_P (dC, dI) classes (WM h g ca (u2 (u2 (u2 (u2 (u2 iv 12 34 v98) 12 35 (iv 12 35)) 12 36 (iv 12 36)) 12 37 n7) 12 38 n8) lv (u2 (u2 (u2 fa 12 26 f1) 12 28 f71) 12 30 f2) la) H := hP
                    have hD9 : va_D A (WM h g ca (u2 (u2 (u2 (u2 (u2 iv 12 34 v98) 12 35 (iv 12 35)) 12 36 (iv 12 36)) 12 37 n7) 12 38 n8) lv (u2 (u2 (u2 fa 12 26 f1) 12 28 f71) 12 30 f2) la) := hD
                    exact W.vret hx hb hr (fun t ht9 hW => ⟨⟨((u2 (u2 (u2 (u2 (u2 iv 12 34 v98) 12 35 (iv 12 35)) 12 36 (iv 12 36)) 12 37 n7) 12 38 n8), lv, (u2 (u2 (u2 fa 12 26 f1) 12 28 f71) 12 30 f2), la), rfl, ⟨f1, f71, f2, v98, (iv 12 35), (iv 12 36), n7, n8, hf2, (show inb (0, 200) v98 from ⟨by omega, by omega⟩), (hI.1 12 35), (show inb (0, 200) n7 from ⟨by omega, by omega⟩), (show inb (0, 200) n8 from ⟨by omega, by omega⟩), (show (iv 12 34).toInt ≤ (v98 : Int32).toInt from by omega), (show ∀ j : Nat, j ≠ k.toNatClampNeg → f1 j = (fa 12 26) j ∧ (fa 12 27) j = (fa 12 27) j ∧ f71 j = (fa 12 28) j from fun j hj => ⟨(by rw [ef1, upd_ne hj]), rfl, (by rw [ef71, upd_ne hj])⟩), (show (((iv 12 35) : Int32).toInt ≠ 0 ∨ gd3 (f1 k.toNatClampNeg) ((fa 12 27) k.toNatClampNeg) (f71 k.toNatClampNeg)) from (by
                          have kc : (1 : Int32).toInt = 1 := by decide
                          have kE : f1 k.toNatClampNeg = 1 := by rw [ef1]; exact upd_eq
                          have fE : f71 k.toNatClampNeg = 1 := by rw [ef71]; exact upd_eq
                          have := congrArg Int32.toInt (ev72.trans fE)
                          by_cases h0 : ((iv 12 35) : Int32).toInt = 0
                          · refine Or.inr ?_; rw [kE, fE]; unfold gd3; exact ⟨fun h => by omega, fun h h2 => by omega⟩
                          · exact Or.inl h0)), (show ∀ j : Nat, j ≠ k.toNatClampNeg → (fa 12 29) j = (fa 12 29) j ∧ f2 j = (fa 12 30) j from fun j hj => ⟨(rfl), (by rw [ef2, upd_ne (show j ≠ k.toNatClampNeg from hj)])⟩), (show ∀ j : Nat, (j : Int) < 8 * (k).toInt → (fa 12 31) j = (fa 12 31) j from fun j hj => rfl), (show f1 ((k).toInt).toNat = 1 from (by rw [ef1]; exact upd_eq)), (show ((((iv 12 35) : Int32).toInt ≠ 0 ∧ ∃ b kd v1 : Int, TakR (fun j => sg ((fa 12 32) j).toInt) ((iv 12 33) : Int32).toInt (iv 12 34).toInt ((iv 12 35) : Int32).toInt ((iv 12 36) : Int32).toInt b kd v1) ∨ (((iv 12 35) : Int32).toInt = 0 ∧ ((iv 12 36) : Int32).toInt = (iv 12 36).toInt ∧ TakR (fun j => sg ((fa 12 32) j).toInt) ((iv 12 33) : Int32).toInt (iv 12 34).toInt 0 0 (v98 : Int32).toInt 5 (f71 ((k).toInt).toNat).toInt)) from (by
                          have hE28 : f71 (k.toInt).toNat = 1 := (by rw [ef71]; exact upd_eq)
                          have hl := congrArg Int32.toInt (ev72.trans (show f71 k.toNatClampNeg = 1 from hE28))
                          have hz9 : (1 : Int32).toInt = 1 := by decide
                          have g0 := ((cw_mean xr9_0).resolve_left (fun q => by omega)).2
                          rw [xr5_1] at g0
                          have g1 := ((cw_least xr11_0).resolve_right (fun q => by omega)).2
                          rw [xr5_1] at g1
                          have hk : kwW (fun j => sg (fa 12 32 j).toInt) (n7 : Int32).toInt (n6 : Int32).toInt = 1 := by unfold kwW; rw [if_neg g0, if_pos g1]
                          have hg := sg_i (fa 12 32 ((n90 : Int32).toInt).toNat).toInt
                          have hS9 : StpR (fun j => sg (fa 12 32 j).toInt) (iv 12 33).toInt (n6 : Int32).toInt 0 0 (v98 : Int32).toInt := ⟨_, xr89_1, Or.inr ⟨⟨by omega, (show sg (fa 12 32 ((n90 : Int32).toInt).toNat).toInt = 59 from by omega)⟩, rfl, by omega⟩⟩
                          rw [hE28]; exact Or.inr ⟨by omega, by omega, _, _, xr5_2, xr5_3, Or.inr ⟨by omega, rfl, by omega, hS9⟩⟩)), rfl⟩, by rw [ht9]; exact hP9, hD9⟩, hS.F ht9⟩) hS.2.2 dX12_readClause_295
                · skip
                  have fr96 : ¬ (((iv 12 35) : Int32).toInt = 0) := fr96
                  exfalso; omega
            · skip
              have fr88 : ¬ (((iv 12 35) : Int32).toInt = 0) := fr88
              exfalso; omega
      · have fc10 := z_ne (rfl : (r9).toInt = _) (by decide : (0 : Int32).toInt = 0) c10
        refine lv_iconst (v := 0) hx hb dX12_readClause_121 (by decide) ?_
        refine lv_goto (tgt := 174) hx hb dX12_readClause_122 (by decide) ?_
        refine tM_12_28 hx hb hK hP hD hS (f0 := (fa 12 28)) rfl (i := k) (x := 0) (vp_in_iff.mpr ⟨by omega, by omega⟩) dX12_readClause_174 (fun f99 ef99 H locs hP hD hS => ?_)
        have hf99 : ∀ j, inb (bA 12 28 j) (f99 j) := fun j => full_i _
        refine lv_aload_n hx hb dX12_readClause_175 rfl (lv_at hl 0 rfl) ?_
        refine lv_aload_n hx hb dX12_readClause_176 rfl (lv_at hl 0 rfl) ?_
        refine gM_12_28 hx hb ht hown hK hP m_1167 dX12_readClause_177 ?_
        refine lv_iload_n hx hb dX12_readClause_180 rfl (lv_at hl 2 rfl) ?_
        refine lM_12_28 hx hb hK hP (f := f99) rfl (vp_in_iff.mpr ⟨by omega, by omega⟩) dX12_readClause_181 ?_
        refine lv_topi (fun v100 ev100 => ?_)
        refine lv_if_lt (tgt := 189) hx hb dX12_readClause_182 (by decide) (fun c101 => ?_) (fun c101 => ?_)
        · have fc101 := z_lt (rfl : (v100).toInt = _) (by decide : (0 : Int32).toInt = 0) c101
          refine lv_iconst (v := 0) hx hb dX12_readClause_189 (by decide) ?_
          refine lv_iconst (v := 1) hx hb dX12_readClause_190 (by decide) ?_
          refine lv_aload_n hx hb dX12_readClause_191 rfl (lv_at hl 0 rfl) ?_
          refine gM_12_37 hx hb ht hown hK hP m_1176 (v := n7) rfl dX12_readClause_192 ?_
          have i_12_35 : 0 ≤ (iv 12 35).toInt ∧ (iv 12 35).toInt ≤ 5 := hI.1 12 35
          have hFc := free_all hD hS hA
          refine va_calli (va_runV (As := [.int 0, .int 1, .int n7]) (rest := []) ⟨hx, hb, hml, hown, ht⟩ (c_X12_want_r0 l dC dI H.size h g ca (u2 (u2 (u2 iv 12 34 n6) 12 37 n7) 12 38 n8) lv (u2 (u2 (u2 fa 12 26 f1) 12 30 f2) 12 28 f99) la (IX_a (c := 12) (k := 28) (IX_a (c := 12) (k := 30) (IX_a (c := 12) (k := 26) (IX_i (c := 12) (k := 38) (IX_i (c := 12) (k := 37) (IX_i (c := 12) (k := 34) hI (show inb (0, 200) n6 from ⟨by omega, by omega⟩)) (show inb (0, 200) n7 from ⟨by omega, by omega⟩)) (show inb (0, 200) n8 from ⟨by omega, by omega⟩)) hf1) hf2) hf99) 1 n7 ⟨by decide, by decide⟩) (kV 3 ht m_1472 m_1474 m_50 m_89 m_1475 rfl rfl hd_X12_want_v ⟨Nat.le_of_ble_eq_true rfl, Nat.le_of_ble_eq_true rfl⟩) (vW hP hK hD (rM_12 hK hP)) rfl rfl hl.1 rfl (lv_room (Nat.le_of_ble_eq_true rfl)) dX12_readClause_195 ⟨Nat.le_of_ble_eq_true rfl, Nat.le_of_ble_eq_true rfl⟩) hS (fun q _ h => hFc q h) hFc (fun r102 u t H1 locs ht9 hvm hr102 hB hz1 hk1 hS => ?_)
          obtain ⟨n103, n104, hn103, xr102_0, xr102_1, hr102, rfl⟩ := hr102
          have hn103 : 0 ≤ n103.toInt ∧ n103.toInt ≤ 5 := hn103
          obtain ⟨hP, hD⟩ := hB
          rw [ht9] at hP
          generalize H1 = H at hP hS ⊢
          have hP : va_P (dC, dI) classes (WM h g ca (u2 (u2 (u2 (u2 (u2 iv 12 34 n6) 12 37 n7) 12 38 n8) 12 35 n103) 12 36 n104) lv (u2 (u2 (u2 fa 12 26 f1) 12 30 f2) 12 28 f99) la) H := hP
          have hD : va_D A (WM h g ca (u2 (u2 (u2 (u2 (u2 iv 12 34 n6) 12 37 n7) 12 38 n8) 12 35 n103) 12 36 n104) lv (u2 (u2 (u2 fa 12 26 f1) 12 30 f2) 12 28 f99) la) := (show va_D _ (WM h g ca (u2 (u2 (u2 (u2 (u2 iv 12 34 n6) 12 37 n7) 12 38 n8) 12 35 n103) 12 36 n104) lv (u2 (u2 (u2 fa 12 26 f1) 12 30 f2) 12 28 f99) la) from hD).weaken (fun _ _ _ h => hFc _ h)
          have xr102_0 : 1 ≤ (n103 : Int32).toInt := xr102_0
          have : (1 : Int32).toInt = 1 := (by decide)
          have xr102_1 : ((((iv 12 35) : Int32).toInt = 0 ∧ (n103 : Int32).toInt = (1 : Int32).toInt ∧ (n104 : Int32).toInt = (n7 : Int32).toInt) ∨ (((iv 12 35) : Int32).toInt ≠ 0 ∧ (n103 : Int32).toInt = ((iv 12 35) : Int32).toInt ∧ (n104 : Int32).toInt = ((iv 12 36) : Int32).toInt)) := xr102_1
          obtain rfl : 0 = r102 := hr102.symm
          refine lv_istore_n (lv' := [(3, .int 0), (0, .ref h), (1, .int 1), (2, .int k)]) hx hb dX12_readClause_198 rfl hl (by decide) rfl (fun ls hl => ?_)
          refine lv_goto (tgt := 257) hx hb dX12_readClause_199 (by decide) ?_
          refine lv_aload_n hx hb dX12_readClause_257 rfl (lv_at hl 1 rfl) ?_
          have hFc := free_all hD hS hA
          refine va_calli (va_runV (As := []) (rest := []) ⟨hx, hb, hml, hown, ht⟩ (c_X12_here_r l dC dI H.size h g ca (u2 (u2 (u2 (u2 (u2 iv 12 34 n6) 12 37 n7) 12 38 n8) 12 35 n103) 12 36 n104) lv (u2 (u2 (u2 fa 12 26 f1) 12 30 f2) 12 28 f99) la (IX_a (c := 12) (k := 28) (IX_a (c := 12) (k := 30) (IX_a (c := 12) (k := 26) (IX_i (c := 12) (k := 36) (IX_i (c := 12) (k := 35) (IX_i (c := 12) (k := 38) (IX_i (c := 12) (k := 37) (IX_i (c := 12) (k := 34) hI (show inb (0, 200) n6 from ⟨by omega, by omega⟩)) (show inb (0, 200) n7 from ⟨by omega, by omega⟩)) (show inb (0, 200) n8 from ⟨by omega, by omega⟩)) (show inb (0, 5) n103 from ⟨by omega, by omega⟩)) (full_i _)) hf1) hf2) hf99)) (kV 0 ht m_1458 m_1460 m_47 m_89 m_1461 rfl rfl hd_X12_here_v ⟨Nat.le_of_ble_eq_true rfl, Nat.le_of_ble_eq_true rfl⟩) (vW hP hK hD (rM_12 hK hP)) rfl rfl hl.1 rfl (lv_room (Nat.le_of_ble_eq_true rfl)) dX12_readClause_258 ⟨Nat.le_of_ble_eq_true rfl, Nat.le_of_ble_eq_true rfl⟩) hS (fun q _ h => hFc q h) hFc (fun r105 u t H1 locs ht9 hvm hr105 hB hz1 hk1 hS => ?_)
          obtain ⟨n106, hn106, xr105_0, xr105_1, xr105_2, hr105, rfl⟩ := hr105
          have hn106 : 0 ≤ n106.toInt ∧ n106.toInt ≤ 200 := hn106
          obtain ⟨hP, hD⟩ := hB
          rw [ht9] at hP
          generalize H1 = H at hP hS ⊢
          have hP : va_P (dC, dI) classes (WM h g ca (u2 (u2 (u2 (u2 (u2 iv 12 34 n106) 12 37 n7) 12 38 n8) 12 35 n103) 12 36 n104) lv (u2 (u2 (u2 fa 12 26 f1) 12 30 f2) 12 28 f99) la) H := hP
          have hD : va_D A (WM h g ca (u2 (u2 (u2 (u2 (u2 iv 12 34 n106) 12 37 n7) 12 38 n8) 12 35 n103) 12 36 n104) lv (u2 (u2 (u2 fa 12 26 f1) 12 30 f2) 12 28 f99) la) := (show va_D _ (WM h g ca (u2 (u2 (u2 (u2 (u2 iv 12 34 n106) 12 37 n7) 12 38 n8) 12 35 n103) 12 36 n104) lv (u2 (u2 (u2 fa 12 26 f1) 12 30 f2) 12 28 f99) la) from hD).weaken (fun _ _ _ h => hFc _ h)
          have xr105_0 : (n6 : Int32).toInt ≤ (n106 : Int32).toInt := xr105_0
          have xr105_1 : Sk (fun j => sg ((fa 12 32) j).toInt) ((iv 12 33) : Int32).toInt (n6 : Int32).toInt (n106 : Int32).toInt := xr105_1
          have xr105_2 : (((r105 : Int32).toInt = -1 ∧ ((iv 12 33) : Int32).toInt ≤ (n106 : Int32).toInt) ∨ ((n106 : Int32).toInt < ((iv 12 33) : Int32).toInt ∧ (r105 : Int32).toInt = ((fa 12 32) ((n106 : Int32).toInt).toNat).toInt)) := xr105_2
          refine lv_istore_n (lv' := [(3, .int r105), (0, .ref h), (1, .int 1), (2, .int k)]) hx hb dX12_readClause_261 rfl hl (by decide) rfl (fun ls hl => ?_)
          refine lv_aload_n hx hb dX12_readClause_262 rfl (lv_at hl 1 rfl) ?_
          refine lv_iload_n hx hb dX12_readClause_263 rfl (lv_at hl 0 rfl) ?_
          refine lv_bipush (v := 59) hx hb dX12_readClause_264 (by decide) ?_
          refine lv_icmp_ne (tgt := 273) hx hb dX12_readClause_266 (by decide) (fun c107 => ?_) (fun c107 => ?_)
          · have fc107 := z_ne (rfl : (r105).toInt = _) (by decide : (59 : Int32).toInt = 59) c107
            refine lv_iconst (v := 0) hx hb dX12_readClause_273 (by decide) ?_
            refine lv_iconst (v := 1) hx hb dX12_readClause_274 (by decide) ?_
            refine lv_aload_n hx hb dX12_readClause_275 rfl (lv_at hl 1 rfl) ?_
            refine gM_12_34 hx hb ht hown hK hP m_1173 (v := n106) rfl dX12_readClause_276 ?_
            have hFc := free_all hD hS hA
            refine va_calli (va_runV (As := [.int 0, .int 1, .int n106]) (rest := []) ⟨hx, hb, hml, hown, ht⟩ (c_X12_want_r0 l dC dI H.size h g ca (u2 (u2 (u2 (u2 (u2 iv 12 34 n106) 12 37 n7) 12 38 n8) 12 35 n103) 12 36 n104) lv (u2 (u2 (u2 fa 12 26 f1) 12 30 f2) 12 28 f99) la (IX_a (c := 12) (k := 28) (IX_a (c := 12) (k := 30) (IX_a (c := 12) (k := 26) (IX_i (c := 12) (k := 36) (IX_i (c := 12) (k := 35) (IX_i (c := 12) (k := 38) (IX_i (c := 12) (k := 37) (IX_i (c := 12) (k := 34) hI (show inb (0, 200) n106 from ⟨by omega, by omega⟩)) (show inb (0, 200) n7 from ⟨by omega, by omega⟩)) (show inb (0, 200) n8 from ⟨by omega, by omega⟩)) (show inb (0, 5) n103 from ⟨by omega, by omega⟩)) (full_i _)) hf1) hf2) hf99) 1 n106 ⟨by decide, by decide⟩) (kV 3 ht m_1472 m_1474 m_50 m_89 m_1475 rfl rfl hd_X12_want_v ⟨Nat.le_of_ble_eq_true rfl, Nat.le_of_ble_eq_true rfl⟩) (vW hP hK hD (rM_12 hK hP)) rfl rfl hl.1 rfl (lv_room (Nat.le_of_ble_eq_true rfl)) dX12_readClause_279 ⟨Nat.le_of_ble_eq_true rfl, Nat.le_of_ble_eq_true rfl⟩) hS (fun q _ h => hFc q h) hFc (fun r108 u t H1 locs ht9 hvm hr108 hB hz1 hk1 hS => ?_)
            obtain ⟨n109, n110, hn109, xr108_0, xr108_1, hr108, rfl⟩ := hr108
            have hn109 : 0 ≤ n109.toInt ∧ n109.toInt ≤ 5 := hn109
            obtain ⟨hP, hD⟩ := hB
            rw [ht9] at hP
            generalize H1 = H at hP hS ⊢
            have hP : va_P (dC, dI) classes (WM h g ca (u2 (u2 (u2 (u2 (u2 iv 12 34 n106) 12 37 n7) 12 38 n8) 12 35 n109) 12 36 n110) lv (u2 (u2 (u2 fa 12 26 f1) 12 30 f2) 12 28 f99) la) H := hP
            have hD : va_D A (WM h g ca (u2 (u2 (u2 (u2 (u2 iv 12 34 n106) 12 37 n7) 12 38 n8) 12 35 n109) 12 36 n110) lv (u2 (u2 (u2 fa 12 26 f1) 12 30 f2) 12 28 f99) la) := (show va_D _ (WM h g ca (u2 (u2 (u2 (u2 (u2 iv 12 34 n106) 12 37 n7) 12 38 n8) 12 35 n109) 12 36 n110) lv (u2 (u2 (u2 fa 12 26 f1) 12 30 f2) 12 28 f99) la) from hD).weaken (fun _ _ _ h => hFc _ h)
            have xr108_0 : 1 ≤ (n109 : Int32).toInt := xr108_0
            have xr108_1 : (((n103 : Int32).toInt = 0 ∧ (n109 : Int32).toInt = (1 : Int32).toInt ∧ (n110 : Int32).toInt = (n106 : Int32).toInt) ∨ ((n103 : Int32).toInt ≠ 0 ∧ (n109 : Int32).toInt = (n103 : Int32).toInt ∧ (n110 : Int32).toInt = (n104 : Int32).toInt)) := xr108_1
            obtain rfl : 0 = r108 := hr108.symm
            refine lv_if_eq (tgt := 295) hx hb dX12_readClause_282 (by decide) (fun c111 => ?_) (fun c111 => ?_)
            · skip
              have hP9 : va_P (dC, dI) classes (WM h g ca (u2 (u2 (u2 (u2 (u2 iv 12 34 n106) 12 35 n109) 12 36 n110) 12 37 n7) 12 38 n8) lv (u2 (u2 (u2 fa 12 26 f1) 12 28 f99) 12 30 f2) la) H := hP
              have hD9 : va_D A (WM h g ca (u2 (u2 (u2 (u2 (u2 iv 12 34 n106) 12 35 n109) 12 36 n110) 12 37 n7) 12 38 n8) lv (u2 (u2 (u2 fa 12 26 f1) 12 28 f99) 12 30 f2) la) := hD
              exact W.vret hx hb hr (fun t ht9 hW => ⟨⟨((u2 (u2 (u2 (u2 (u2 iv 12 34 n106) 12 35 n109) 12 36 n110) 12 37 n7) 12 38 n8), lv, (u2 (u2 (u2 fa 12 26 f1) 12 28 f99) 12 30 f2), la), rfl, ⟨f1, f99, f2, n106, n109, n110, n7, n8, hf2, (show inb (0, 200) n106 from ⟨by omega, by omega⟩), (show inb (0, 5) n109 from ⟨by omega, by omega⟩), (show inb (0, 200) n7 from ⟨by omega, by omega⟩), (show inb (0, 200) n8 from ⟨by omega, by omega⟩), (show (iv 12 34).toInt ≤ (n106 : Int32).toInt from by omega), (show ∀ j : Nat, j ≠ k.toNatClampNeg → f1 j = (fa 12 26) j ∧ (fa 12 27) j = (fa 12 27) j ∧ f99 j = (fa 12 28) j from fun j hj => ⟨(by rw [ef1, upd_ne hj]), rfl, (by rw [ef99, upd_ne hj])⟩), (show ((n109 : Int32).toInt ≠ 0 ∨ gd3 (f1 k.toNatClampNeg) ((fa 12 27) k.toNatClampNeg) (f99 k.toNatClampNeg)) from (by
                    have kc : (1 : Int32).toInt = 1 := by decide
                    have kE : f1 k.toNatClampNeg = 1 := by rw [ef1]; exact upd_eq
                    have fE : f99 k.toNatClampNeg = 0 := by rw [ef99]; exact upd_eq
                    have := congrArg Int32.toInt (ev100.trans fE)
                    by_cases h0 : (n109 : Int32).toInt = 0
                    · refine Or.inr ?_; rw [kE, fE]; unfold gd3; exact ⟨fun h => by omega, fun h h2 => by omega⟩
                    · exact Or.inl h0)), (show ∀ j : Nat, j ≠ k.toNatClampNeg → (fa 12 29) j = (fa 12 29) j ∧ f2 j = (fa 12 30) j from fun j hj => ⟨(rfl), (by rw [ef2, upd_ne (show j ≠ k.toNatClampNeg from hj)])⟩), (show ∀ j : Nat, (j : Int) < 8 * (k).toInt → (fa 12 31) j = (fa 12 31) j from fun j hj => rfl), (show f1 ((k).toInt).toNat = 1 from (by rw [ef1]; exact upd_eq)), (show (((n109 : Int32).toInt ≠ 0 ∧ ∃ b kd v1 : Int, TakR (fun j => sg ((fa 12 32) j).toInt) ((iv 12 33) : Int32).toInt (iv 12 34).toInt (n109 : Int32).toInt (n110 : Int32).toInt b kd v1) ∨ ((n109 : Int32).toInt = 0 ∧ (n110 : Int32).toInt = (iv 12 36).toInt ∧ TakR (fun j => sg ((fa 12 32) j).toInt) ((iv 12 33) : Int32).toInt (iv 12 34).toInt 0 0 (n106 : Int32).toInt 5 (f99 ((k).toInt).toNat).toInt)) from (by
                    have hE28 : f99 (k.toInt).toNat = 0 := (by rw [ef99]; exact upd_eq)
                    have hl := congrArg Int32.toInt (ev100.trans (show f99 k.toNatClampNeg = 0 from hE28))
                    have hz9 : (0 : Int32).toInt = 0 := by decide
                    exfalso; omega)), rfl⟩, by rw [ht9]; exact hP9, hD9⟩, hS.F ht9⟩) hS.2.2 dX12_readClause_295
            · exact absurd rfl c111
          · have fc107 := z_eq (rfl : (r105).toInt = _) (by decide : (59 : Int32).toInt = 59) c107
            refine lv_iconst (v := 1) hx hb dX12_readClause_269 (by decide) ?_
            refine lv_goto (tgt := 274) hx hb dX12_readClause_270 (by decide) ?_
            refine lv_iconst (v := 1) hx hb dX12_readClause_274 (by decide) ?_
            refine lv_aload_n hx hb dX12_readClause_275 rfl (lv_at hl 1 rfl) ?_
            refine gM_12_34 hx hb ht hown hK hP m_1173 (v := n106) rfl dX12_readClause_276 ?_
            refine vp_callSi (W.runV (As := [.int 1, .int 1, .int n106]) (rest := []) ⟨hx, hb, hml, hown, ht⟩ (c_X12_want_1 l dC dI h g ca (u2 (u2 (u2 (u2 (u2 iv 12 34 n106) 12 37 n7) 12 38 n8) 12 35 n103) 12 36 n104) lv (u2 (u2 (u2 fa 12 26 f1) 12 30 f2) 12 28 f99) la (IX_a (c := 12) (k := 28) (IX_a (c := 12) (k := 30) (IX_a (c := 12) (k := 26) (IX_i (c := 12) (k := 36) (IX_i (c := 12) (k := 35) (IX_i (c := 12) (k := 38) (IX_i (c := 12) (k := 37) (IX_i (c := 12) (k := 34) hI (show inb (0, 200) n106 from ⟨by omega, by omega⟩)) (show inb (0, 200) n7 from ⟨by omega, by omega⟩)) (show inb (0, 200) n8 from ⟨by omega, by omega⟩)) (show inb (0, 5) n103 from ⟨by omega, by omega⟩)) (full_i _)) hf1) hf2) hf99) 1 n106) (kV 3 ht m_1472 m_1474 m_50 m_89 m_1475 rfl rfl hd_X12_want_v ⟨Nat.le_of_ble_eq_true rfl, Nat.le_of_ble_eq_true rfl⟩) (vR hP hK (rM_12 hK hP)) rfl rfl hl.1 rfl (lv_room (Nat.le_of_ble_eq_true rfl)) dX12_readClause_279 ⟨Nat.le_of_ble_eq_true rfl, Nat.le_of_ble_eq_true rfl⟩) (fun r112 hr112 => ?_)
            rcases hr112 with ⟨rfl, fr112⟩ | ⟨rfl, fr112⟩
            · skip
              have fr112 : ((n103 : Int32).toInt = 0) := fr112
              refine lv_if_eq (tgt := 295) hx hb dX12_readClause_282 (by decide) (fun c113 => ?_) (fun c113 => ?_)
              · exact absurd c113 (by decide)
              · skip
                refine lv_aload_n hx hb dX12_readClause_285 rfl (lv_at hl 1 rfl) ?_
                refine lv_dup hx hb dX12_readClause_286 rfl ?_
                refine gM_12_34 hx hb ht hown hK hP m_1173 (v := n106) rfl dX12_readClause_287 ?_
                refine lv_iconst (v := 1) hx hb dX12_readClause_290 (by decide) ?_
                refine lv_iadd hx hb dX12_readClause_291 ?_
                refine lv_topi (fun v114 ev114 => ?_)
                have tv114 := z_add ev114 (rfl : (n106).toInt = _) (by decide : (1 : Int32).toInt = 1) (by omega) (by omega)
                have : 0 ≤ (v114 : Int32).toInt ∧ (v114 : Int32).toInt ≤ 200 := ⟨by omega, by omega⟩
                refine pM_12_34 (v := v114) hx hb ht hown hK hP hD hS m_1173 dX12_readClause_292 (fun H locs hP hD hS => ?_)
                have hP : va_P (dC, dI) classes (WM h g ca (u2 (u2 (u2 (u2 (u2 iv 12 34 v114) 12 37 n7) 12 38 n8) 12 35 n103) 12 36 n104) lv (u2 (u2 (u2 fa 12 26 f1) 12 30 f2) 12 28 f99) la) H := hP
                have hD : va_D A (WM h g ca (u2 (u2 (u2 (u2 (u2 iv 12 34 v114) 12 37 n7) 12 38 n8) 12 35 n103) 12 36 n104) lv (u2 (u2 (u2 fa 12 26 f1) 12 30 f2) 12 28 f99) la) := hD
                have hP9 : va_P (dC, dI) classes (WM h g ca (u2 (u2 (u2 (u2 (u2 iv 12 34 v114) 12 35 n103) 12 36 n104) 12 37 n7) 12 38 n8) lv (u2 (u2 (u2 fa 12 26 f1) 12 28 f99) 12 30 f2) la) H := hP
                have hD9 : va_D A (WM h g ca (u2 (u2 (u2 (u2 (u2 iv 12 34 v114) 12 35 n103) 12 36 n104) 12 37 n7) 12 38 n8) lv (u2 (u2 (u2 fa 12 26 f1) 12 28 f99) 12 30 f2) la) := hD
                exact W.vret hx hb hr (fun t ht9 hW => ⟨⟨((u2 (u2 (u2 (u2 (u2 iv 12 34 v114) 12 35 n103) 12 36 n104) 12 37 n7) 12 38 n8), lv, (u2 (u2 (u2 fa 12 26 f1) 12 28 f99) 12 30 f2), la), rfl, ⟨f1, f99, f2, v114, n103, n104, n7, n8, hf2, (show inb (0, 200) v114 from ⟨by omega, by omega⟩), (show inb (0, 5) n103 from ⟨by omega, by omega⟩), (show inb (0, 200) n7 from ⟨by omega, by omega⟩), (show inb (0, 200) n8 from ⟨by omega, by omega⟩), (show (iv 12 34).toInt ≤ (v114 : Int32).toInt from by omega), (show ∀ j : Nat, j ≠ k.toNatClampNeg → f1 j = (fa 12 26) j ∧ (fa 12 27) j = (fa 12 27) j ∧ f99 j = (fa 12 28) j from fun j hj => ⟨(by rw [ef1, upd_ne hj]), rfl, (by rw [ef99, upd_ne hj])⟩), (show ((n103 : Int32).toInt ≠ 0 ∨ gd3 (f1 k.toNatClampNeg) ((fa 12 27) k.toNatClampNeg) (f99 k.toNatClampNeg)) from (by
                      have kc : (1 : Int32).toInt = 1 := by decide
                      have kE : f1 k.toNatClampNeg = 1 := by rw [ef1]; exact upd_eq
                      have fE : f99 k.toNatClampNeg = 0 := by rw [ef99]; exact upd_eq
                      have := congrArg Int32.toInt (ev100.trans fE)
                      by_cases h0 : (n103 : Int32).toInt = 0
                      · refine Or.inr ?_; rw [kE, fE]; unfold gd3; exact ⟨fun h => by omega, fun h h2 => by omega⟩
                      · exact Or.inl h0)), (show ∀ j : Nat, j ≠ k.toNatClampNeg → (fa 12 29) j = (fa 12 29) j ∧ f2 j = (fa 12 30) j from fun j hj => ⟨(rfl), (by rw [ef2, upd_ne (show j ≠ k.toNatClampNeg from hj)])⟩), (show ∀ j : Nat, (j : Int) < 8 * (k).toInt → (fa 12 31) j = (fa 12 31) j from fun j hj => rfl), (show f1 ((k).toInt).toNat = 1 from (by rw [ef1]; exact upd_eq)), (show (((n103 : Int32).toInt ≠ 0 ∧ ∃ b kd v1 : Int, TakR (fun j => sg ((fa 12 32) j).toInt) ((iv 12 33) : Int32).toInt (iv 12 34).toInt (n103 : Int32).toInt (n104 : Int32).toInt b kd v1) ∨ ((n103 : Int32).toInt = 0 ∧ (n104 : Int32).toInt = (iv 12 36).toInt ∧ TakR (fun j => sg ((fa 12 32) j).toInt) ((iv 12 33) : Int32).toInt (iv 12 34).toInt 0 0 (v114 : Int32).toInt 5 (f99 ((k).toInt).toNat).toInt)) from (by
                      have hE28 : f99 (k.toInt).toNat = 0 := (by rw [ef99]; exact upd_eq)
                      have hl := congrArg Int32.toInt (ev100.trans (show f99 k.toNatClampNeg = 0 from hE28))
                      have hz9 : (0 : Int32).toInt = 0 := by decide
                      exfalso; omega)), rfl⟩, by rw [ht9]; exact hP9, hD9⟩, hS.F ht9⟩) hS.2.2 dX12_readClause_295
            · skip
              have fr112 : ¬ ((n103 : Int32).toInt = 0) := fr112
              refine lv_if_eq (tgt := 295) hx hb dX12_readClause_282 (by decide) (fun c115 => ?_) (fun c115 => ?_)
              · skip
                have hP9 : va_P (dC, dI) classes (WM h g ca (u2 (u2 (u2 (u2 (u2 iv 12 34 n106) 12 35 n103) 12 36 n104) 12 37 n7) 12 38 n8) lv (u2 (u2 (u2 fa 12 26 f1) 12 28 f99) 12 30 f2) la) H := hP
                have hD9 : va_D A (WM h g ca (u2 (u2 (u2 (u2 (u2 iv 12 34 n106) 12 35 n103) 12 36 n104) 12 37 n7) 12 38 n8) lv (u2 (u2 (u2 fa 12 26 f1) 12 28 f99) 12 30 f2) la) := hD
                exact W.vret hx hb hr (fun t ht9 hW => ⟨⟨((u2 (u2 (u2 (u2 (u2 iv 12 34 n106) 12 35 n103) 12 36 n104) 12 37 n7) 12 38 n8), lv, (u2 (u2 (u2 fa 12 26 f1) 12 28 f99) 12 30 f2), la), rfl, ⟨f1, f99, f2, n106, n103, n104, n7, n8, hf2, (show inb (0, 200) n106 from ⟨by omega, by omega⟩), (show inb (0, 5) n103 from ⟨by omega, by omega⟩), (show inb (0, 200) n7 from ⟨by omega, by omega⟩), (show inb (0, 200) n8 from ⟨by omega, by omega⟩), (show (iv 12 34).toInt ≤ (n106 : Int32).toInt from by omega), (show ∀ j : Nat, j ≠ k.toNatClampNeg → f1 j = (fa 12 26) j ∧ (fa 12 27) j = (fa 12 27) j ∧ f99 j = (fa 12 28) j from fun j hj => ⟨(by rw [ef1, upd_ne hj]), rfl, (by rw [ef99, upd_ne hj])⟩), (show ((n103 : Int32).toInt ≠ 0 ∨ gd3 (f1 k.toNatClampNeg) ((fa 12 27) k.toNatClampNeg) (f99 k.toNatClampNeg)) from Or.inl (by omega)), (show ∀ j : Nat, j ≠ k.toNatClampNeg → (fa 12 29) j = (fa 12 29) j ∧ f2 j = (fa 12 30) j from fun j hj => ⟨(rfl), (by rw [ef2, upd_ne (show j ≠ k.toNatClampNeg from hj)])⟩), (show ∀ j : Nat, (j : Int) < 8 * (k).toInt → (fa 12 31) j = (fa 12 31) j from fun j hj => rfl), (show f1 ((k).toInt).toNat = 1 from (by rw [ef1]; exact upd_eq)), (show (((n103 : Int32).toInt ≠ 0 ∧ ∃ b kd v1 : Int, TakR (fun j => sg ((fa 12 32) j).toInt) ((iv 12 33) : Int32).toInt (iv 12 34).toInt (n103 : Int32).toInt (n104 : Int32).toInt b kd v1) ∨ ((n103 : Int32).toInt = 0 ∧ (n104 : Int32).toInt = (iv 12 36).toInt ∧ TakR (fun j => sg ((fa 12 32) j).toInt) ((iv 12 33) : Int32).toInt (iv 12 34).toInt 0 0 (n106 : Int32).toInt 5 (f99 ((k).toInt).toNat).toInt)) from (by
                      have hE28 : f99 (k.toInt).toNat = 0 := (by rw [ef99]; exact upd_eq)
                      have hl := congrArg Int32.toInt (ev100.trans (show f99 k.toNatClampNeg = 0 from hE28))
                      have hz9 : (0 : Int32).toInt = 0 := by decide
                      exfalso; omega)), rfl⟩, by rw [ht9]; exact hP9, hD9⟩, hS.F ht9⟩) hS.2.2 dX12_readClause_295
              · exact absurd rfl c115
        · have fc101 := z_nlt (rfl : (v100).toInt = _) (by decide : (0 : Int32).toInt = 0) c101
          refine lv_iconst (v := 1) hx hb dX12_readClause_185 (by decide) ?_
          refine lv_goto (tgt := 190) hx hb dX12_readClause_186 (by decide) ?_
          refine lv_iconst (v := 1) hx hb dX12_readClause_190 (by decide) ?_
          refine lv_aload_n hx hb dX12_readClause_191 rfl (lv_at hl 0 rfl) ?_
          refine gM_12_37 hx hb ht hown hK hP m_1176 (v := n7) rfl dX12_readClause_192 ?_
          refine vp_callSi (W.runV (As := [.int 1, .int 1, .int n7]) (rest := []) ⟨hx, hb, hml, hown, ht⟩ (c_X12_want_1 l dC dI h g ca (u2 (u2 (u2 iv 12 34 n6) 12 37 n7) 12 38 n8) lv (u2 (u2 (u2 fa 12 26 f1) 12 30 f2) 12 28 f99) la (IX_a (c := 12) (k := 28) (IX_a (c := 12) (k := 30) (IX_a (c := 12) (k := 26) (IX_i (c := 12) (k := 38) (IX_i (c := 12) (k := 37) (IX_i (c := 12) (k := 34) hI (show inb (0, 200) n6 from ⟨by omega, by omega⟩)) (show inb (0, 200) n7 from ⟨by omega, by omega⟩)) (show inb (0, 200) n8 from ⟨by omega, by omega⟩)) hf1) hf2) hf99) 1 n7) (kV 3 ht m_1472 m_1474 m_50 m_89 m_1475 rfl rfl hd_X12_want_v ⟨Nat.le_of_ble_eq_true rfl, Nat.le_of_ble_eq_true rfl⟩) (vR hP hK (rM_12 hK hP)) rfl rfl hl.1 rfl (lv_room (Nat.le_of_ble_eq_true rfl)) dX12_readClause_195 ⟨Nat.le_of_ble_eq_true rfl, Nat.le_of_ble_eq_true rfl⟩) (fun r116 hr116 => ?_)
          rcases hr116 with ⟨rfl, fr116⟩ | ⟨rfl, fr116⟩
          have i_12_35 : 0 ≤ (iv 12 35).toInt ∧ (iv 12 35).toInt ≤ 5 := hI.1 12 35
          · skip
            have i_12_35 : 0 ≤ (iv 12 35).toInt ∧ (iv 12 35).toInt ≤ 5 := hI.1 12 35
            have fr116 : (((iv 12 35) : Int32).toInt = 0) := fr116
            refine lv_istore_n (lv' := [(3, .int 1), (0, .ref h), (1, .int 1), (2, .int k)]) hx hb dX12_readClause_198 rfl hl (by decide) rfl (fun ls hl => ?_)
            refine lv_goto (tgt := 257) hx hb dX12_readClause_199 (by decide) ?_
            refine lv_aload_n hx hb dX12_readClause_257 rfl (lv_at hl 1 rfl) ?_
            have hFc := free_all hD hS hA
            refine va_calli (va_runV (As := []) (rest := []) ⟨hx, hb, hml, hown, ht⟩ (c_X12_here_r l dC dI H.size h g ca (u2 (u2 (u2 iv 12 34 n6) 12 37 n7) 12 38 n8) lv (u2 (u2 (u2 fa 12 26 f1) 12 30 f2) 12 28 f99) la (IX_a (c := 12) (k := 28) (IX_a (c := 12) (k := 30) (IX_a (c := 12) (k := 26) (IX_i (c := 12) (k := 38) (IX_i (c := 12) (k := 37) (IX_i (c := 12) (k := 34) hI (show inb (0, 200) n6 from ⟨by omega, by omega⟩)) (show inb (0, 200) n7 from ⟨by omega, by omega⟩)) (show inb (0, 200) n8 from ⟨by omega, by omega⟩)) hf1) hf2) hf99)) (kV 0 ht m_1458 m_1460 m_47 m_89 m_1461 rfl rfl hd_X12_here_v ⟨Nat.le_of_ble_eq_true rfl, Nat.le_of_ble_eq_true rfl⟩) (vW hP hK hD (rM_12 hK hP)) rfl rfl hl.1 rfl (lv_room (Nat.le_of_ble_eq_true rfl)) dX12_readClause_258 ⟨Nat.le_of_ble_eq_true rfl, Nat.le_of_ble_eq_true rfl⟩) hS (fun q _ h => hFc q h) hFc (fun r117 u t H1 locs ht9 hvm hr117 hB hz1 hk1 hS => ?_)
            obtain ⟨n118, hn118, xr117_0, xr117_1, xr117_2, hr117, rfl⟩ := hr117
            have hn118 : 0 ≤ n118.toInt ∧ n118.toInt ≤ 200 := hn118
            obtain ⟨hP, hD⟩ := hB
            rw [ht9] at hP
            generalize H1 = H at hP hS ⊢
            have hP : va_P (dC, dI) classes (WM h g ca (u2 (u2 (u2 iv 12 34 n118) 12 37 n7) 12 38 n8) lv (u2 (u2 (u2 fa 12 26 f1) 12 30 f2) 12 28 f99) la) H := hP
            have hD : va_D A (WM h g ca (u2 (u2 (u2 iv 12 34 n118) 12 37 n7) 12 38 n8) lv (u2 (u2 (u2 fa 12 26 f1) 12 30 f2) 12 28 f99) la) := (show va_D _ (WM h g ca (u2 (u2 (u2 iv 12 34 n118) 12 37 n7) 12 38 n8) lv (u2 (u2 (u2 fa 12 26 f1) 12 30 f2) 12 28 f99) la) from hD).weaken (fun _ _ _ h => hFc _ h)
            have xr117_0 : (n6 : Int32).toInt ≤ (n118 : Int32).toInt := xr117_0
            have xr117_1 : Sk (fun j => sg ((fa 12 32) j).toInt) ((iv 12 33) : Int32).toInt (n6 : Int32).toInt (n118 : Int32).toInt := xr117_1
            have xr117_2 : (((r117 : Int32).toInt = -1 ∧ ((iv 12 33) : Int32).toInt ≤ (n118 : Int32).toInt) ∨ ((n118 : Int32).toInt < ((iv 12 33) : Int32).toInt ∧ (r117 : Int32).toInt = ((fa 12 32) ((n118 : Int32).toInt).toNat).toInt)) := xr117_2
            refine lv_istore_n (lv' := [(3, .int r117), (0, .ref h), (1, .int 1), (2, .int k)]) hx hb dX12_readClause_261 rfl hl (by decide) rfl (fun ls hl => ?_)
            refine lv_aload_n hx hb dX12_readClause_262 rfl (lv_at hl 1 rfl) ?_
            refine lv_iload_n hx hb dX12_readClause_263 rfl (lv_at hl 0 rfl) ?_
            refine lv_bipush (v := 59) hx hb dX12_readClause_264 (by decide) ?_
            refine lv_icmp_ne (tgt := 273) hx hb dX12_readClause_266 (by decide) (fun c119 => ?_) (fun c119 => ?_)
            · have fc119 := z_ne (rfl : (r117).toInt = _) (by decide : (59 : Int32).toInt = 59) c119
              refine lv_iconst (v := 0) hx hb dX12_readClause_273 (by decide) ?_
              refine lv_iconst (v := 1) hx hb dX12_readClause_274 (by decide) ?_
              refine lv_aload_n hx hb dX12_readClause_275 rfl (lv_at hl 1 rfl) ?_
              refine gM_12_34 hx hb ht hown hK hP m_1173 (v := n118) rfl dX12_readClause_276 ?_
              have hFc := free_all hD hS hA
              refine va_calli (va_runV (As := [.int 0, .int 1, .int n118]) (rest := []) ⟨hx, hb, hml, hown, ht⟩ (c_X12_want_r0 l dC dI H.size h g ca (u2 (u2 (u2 iv 12 34 n118) 12 37 n7) 12 38 n8) lv (u2 (u2 (u2 fa 12 26 f1) 12 30 f2) 12 28 f99) la (IX_a (c := 12) (k := 28) (IX_a (c := 12) (k := 30) (IX_a (c := 12) (k := 26) (IX_i (c := 12) (k := 38) (IX_i (c := 12) (k := 37) (IX_i (c := 12) (k := 34) hI (show inb (0, 200) n118 from ⟨by omega, by omega⟩)) (show inb (0, 200) n7 from ⟨by omega, by omega⟩)) (show inb (0, 200) n8 from ⟨by omega, by omega⟩)) hf1) hf2) hf99) 1 n118 ⟨by decide, by decide⟩) (kV 3 ht m_1472 m_1474 m_50 m_89 m_1475 rfl rfl hd_X12_want_v ⟨Nat.le_of_ble_eq_true rfl, Nat.le_of_ble_eq_true rfl⟩) (vW hP hK hD (rM_12 hK hP)) rfl rfl hl.1 rfl (lv_room (Nat.le_of_ble_eq_true rfl)) dX12_readClause_279 ⟨Nat.le_of_ble_eq_true rfl, Nat.le_of_ble_eq_true rfl⟩) hS (fun q _ h => hFc q h) hFc (fun r120 u t H1 locs ht9 hvm hr120 hB hz1 hk1 hS => ?_)
              obtain ⟨n121, n122, hn121, xr120_0, xr120_1, hr120, rfl⟩ := hr120
              have hn121 : 0 ≤ n121.toInt ∧ n121.toInt ≤ 5 := hn121
              obtain ⟨hP, hD⟩ := hB
              rw [ht9] at hP
              generalize H1 = H at hP hS ⊢
              have hP : va_P (dC, dI) classes (WM h g ca (u2 (u2 (u2 (u2 (u2 iv 12 34 n118) 12 37 n7) 12 38 n8) 12 35 n121) 12 36 n122) lv (u2 (u2 (u2 fa 12 26 f1) 12 30 f2) 12 28 f99) la) H := hP
              have hD : va_D A (WM h g ca (u2 (u2 (u2 (u2 (u2 iv 12 34 n118) 12 37 n7) 12 38 n8) 12 35 n121) 12 36 n122) lv (u2 (u2 (u2 fa 12 26 f1) 12 30 f2) 12 28 f99) la) := (show va_D _ (WM h g ca (u2 (u2 (u2 (u2 (u2 iv 12 34 n118) 12 37 n7) 12 38 n8) 12 35 n121) 12 36 n122) lv (u2 (u2 (u2 fa 12 26 f1) 12 30 f2) 12 28 f99) la) from hD).weaken (fun _ _ _ h => hFc _ h)
              have xr120_0 : 1 ≤ (n121 : Int32).toInt := xr120_0
              have : (1 : Int32).toInt = 1 := (by decide)
              have xr120_1 : ((((iv 12 35) : Int32).toInt = 0 ∧ (n121 : Int32).toInt = (1 : Int32).toInt ∧ (n122 : Int32).toInt = (n118 : Int32).toInt) ∨ (((iv 12 35) : Int32).toInt ≠ 0 ∧ (n121 : Int32).toInt = ((iv 12 35) : Int32).toInt ∧ (n122 : Int32).toInt = ((iv 12 36) : Int32).toInt)) := xr120_1
              obtain rfl : 0 = r120 := hr120.symm
              refine lv_if_eq (tgt := 295) hx hb dX12_readClause_282 (by decide) (fun c123 => ?_) (fun c123 => ?_)
              · skip
                have hP9 : va_P (dC, dI) classes (WM h g ca (u2 (u2 (u2 (u2 (u2 iv 12 34 n118) 12 35 n121) 12 36 n122) 12 37 n7) 12 38 n8) lv (u2 (u2 (u2 fa 12 26 f1) 12 28 f99) 12 30 f2) la) H := hP
                have hD9 : va_D A (WM h g ca (u2 (u2 (u2 (u2 (u2 iv 12 34 n118) 12 35 n121) 12 36 n122) 12 37 n7) 12 38 n8) lv (u2 (u2 (u2 fa 12 26 f1) 12 28 f99) 12 30 f2) la) := hD
                exact W.vret hx hb hr (fun t ht9 hW => ⟨⟨((u2 (u2 (u2 (u2 (u2 iv 12 34 n118) 12 35 n121) 12 36 n122) 12 37 n7) 12 38 n8), lv, (u2 (u2 (u2 fa 12 26 f1) 12 28 f99) 12 30 f2), la), rfl, ⟨f1, f99, f2, n118, n121, n122, n7, n8, hf2, (show inb (0, 200) n118 from ⟨by omega, by omega⟩), (show inb (0, 5) n121 from ⟨by omega, by omega⟩), (show inb (0, 200) n7 from ⟨by omega, by omega⟩), (show inb (0, 200) n8 from ⟨by omega, by omega⟩), (show (iv 12 34).toInt ≤ (n118 : Int32).toInt from by omega), (show ∀ j : Nat, j ≠ k.toNatClampNeg → f1 j = (fa 12 26) j ∧ (fa 12 27) j = (fa 12 27) j ∧ f99 j = (fa 12 28) j from fun j hj => ⟨(by rw [ef1, upd_ne hj]), rfl, (by rw [ef99, upd_ne hj])⟩), (show ((n121 : Int32).toInt ≠ 0 ∨ gd3 (f1 k.toNatClampNeg) ((fa 12 27) k.toNatClampNeg) (f99 k.toNatClampNeg)) from (by
                      have kc : (1 : Int32).toInt = 1 := by decide
                      have kE : f1 k.toNatClampNeg = 1 := by rw [ef1]; exact upd_eq
                      have fE : f99 k.toNatClampNeg = 0 := by rw [ef99]; exact upd_eq
                      have := congrArg Int32.toInt (ev100.trans fE)
                      by_cases h0 : (n121 : Int32).toInt = 0
                      · refine Or.inr ?_; rw [kE, fE]; unfold gd3; exact ⟨fun h => by omega, fun h h2 => by omega⟩
                      · exact Or.inl h0)), (show ∀ j : Nat, j ≠ k.toNatClampNeg → (fa 12 29) j = (fa 12 29) j ∧ f2 j = (fa 12 30) j from fun j hj => ⟨(rfl), (by rw [ef2, upd_ne (show j ≠ k.toNatClampNeg from hj)])⟩), (show ∀ j : Nat, (j : Int) < 8 * (k).toInt → (fa 12 31) j = (fa 12 31) j from fun j hj => rfl), (show f1 ((k).toInt).toNat = 1 from (by rw [ef1]; exact upd_eq)), (show (((n121 : Int32).toInt ≠ 0 ∧ ∃ b kd v1 : Int, TakR (fun j => sg ((fa 12 32) j).toInt) ((iv 12 33) : Int32).toInt (iv 12 34).toInt (n121 : Int32).toInt (n122 : Int32).toInt b kd v1) ∨ ((n121 : Int32).toInt = 0 ∧ (n122 : Int32).toInt = (iv 12 36).toInt ∧ TakR (fun j => sg ((fa 12 32) j).toInt) ((iv 12 33) : Int32).toInt (iv 12 34).toInt 0 0 (n118 : Int32).toInt 5 (f99 ((k).toInt).toNat).toInt)) from (by
                      have hE28 : f99 (k.toInt).toNat = 0 := (by rw [ef99]; exact upd_eq)
                      have hl := congrArg Int32.toInt (ev100.trans (show f99 k.toNatClampNeg = 0 from hE28))
                      have hz9 : (0 : Int32).toInt = 0 := by decide
                      have g0 := ((cw_mean xr9_0).resolve_right (fun q => by omega)).2
                      rw [xr5_1] at g0
                      have hk : kwW (fun j => sg (fa 12 32 j).toInt) (n7 : Int32).toInt (n6 : Int32).toInt = 0 := by unfold kwW; rw [if_pos g0]
                      have hg := sg_i (fa 12 32 ((n118 : Int32).toInt).toNat).toInt
                      have hS9 : ((iv 12 35) : Int32).toInt = 0 → StpR (fun j => sg (fa 12 32 j).toInt) (iv 12 33).toInt (n6 : Int32).toInt (n121 : Int32).toInt (n122 : Int32).toInt 0 := fun h0 => ⟨_, xr117_1, Or.inl ⟨fun q => (by have q2 : sg (fa 12 32 ((n118 : Int32).toInt).toNat).toInt = 59 := q.2; omega), by omega, by omega⟩⟩
                      exact Or.inl ⟨by omega, 0, _, _, _, _, xr5_2, xr5_3, Or.inr ⟨by omega, rfl, rfl, hS9 (by omega)⟩⟩)), rfl⟩, by rw [ht9]; exact hP9, hD9⟩, hS.F ht9⟩) hS.2.2 dX12_readClause_295
              · exact absurd rfl c123
            · have fc119 := z_eq (rfl : (r117).toInt = _) (by decide : (59 : Int32).toInt = 59) c119
              refine lv_iconst (v := 1) hx hb dX12_readClause_269 (by decide) ?_
              refine lv_goto (tgt := 274) hx hb dX12_readClause_270 (by decide) ?_
              refine lv_iconst (v := 1) hx hb dX12_readClause_274 (by decide) ?_
              refine lv_aload_n hx hb dX12_readClause_275 rfl (lv_at hl 1 rfl) ?_
              refine gM_12_34 hx hb ht hown hK hP m_1173 (v := n118) rfl dX12_readClause_276 ?_
              refine vp_callSi (W.runV (As := [.int 1, .int 1, .int n118]) (rest := []) ⟨hx, hb, hml, hown, ht⟩ (c_X12_want_1 l dC dI h g ca (u2 (u2 (u2 iv 12 34 n118) 12 37 n7) 12 38 n8) lv (u2 (u2 (u2 fa 12 26 f1) 12 30 f2) 12 28 f99) la (IX_a (c := 12) (k := 28) (IX_a (c := 12) (k := 30) (IX_a (c := 12) (k := 26) (IX_i (c := 12) (k := 38) (IX_i (c := 12) (k := 37) (IX_i (c := 12) (k := 34) hI (show inb (0, 200) n118 from ⟨by omega, by omega⟩)) (show inb (0, 200) n7 from ⟨by omega, by omega⟩)) (show inb (0, 200) n8 from ⟨by omega, by omega⟩)) hf1) hf2) hf99) 1 n118) (kV 3 ht m_1472 m_1474 m_50 m_89 m_1475 rfl rfl hd_X12_want_v ⟨Nat.le_of_ble_eq_true rfl, Nat.le_of_ble_eq_true rfl⟩) (vR hP hK (rM_12 hK hP)) rfl rfl hl.1 rfl (lv_room (Nat.le_of_ble_eq_true rfl)) dX12_readClause_279 ⟨Nat.le_of_ble_eq_true rfl, Nat.le_of_ble_eq_true rfl⟩) (fun r124 hr124 => ?_)
              rcases hr124 with ⟨rfl, fr124⟩ | ⟨rfl, fr124⟩
              · skip
                have fr124 : (((iv 12 35) : Int32).toInt = 0) := fr124
                refine lv_if_eq (tgt := 295) hx hb dX12_readClause_282 (by decide) (fun c125 => ?_) (fun c125 => ?_)
                · exact absurd c125 (by decide)
                · skip
                  refine lv_aload_n hx hb dX12_readClause_285 rfl (lv_at hl 1 rfl) ?_
                  refine lv_dup hx hb dX12_readClause_286 rfl ?_
                  refine gM_12_34 hx hb ht hown hK hP m_1173 (v := n118) rfl dX12_readClause_287 ?_
                  refine lv_iconst (v := 1) hx hb dX12_readClause_290 (by decide) ?_
                  refine lv_iadd hx hb dX12_readClause_291 ?_
                  refine lv_topi (fun v126 ev126 => ?_)
                  have tv126 := z_add ev126 (rfl : (n118).toInt = _) (by decide : (1 : Int32).toInt = 1) (by omega) (by omega)
                  have : 0 ≤ (v126 : Int32).toInt ∧ (v126 : Int32).toInt ≤ 200 := ⟨by omega, by omega⟩
                  refine pM_12_34 (v := v126) hx hb ht hown hK hP hD hS m_1173 dX12_readClause_292 (fun H locs hP hD hS => ?_)
                  have hP : va_P (dC, dI) classes (WM h g ca (u2 (u2 (u2 iv 12 34 v126) 12 37 n7) 12 38 n8) lv (u2 (u2 (u2 fa 12 26 f1) 12 30 f2) 12 28 f99) la) H := hP
                  have hD : va_D A (WM h g ca (u2 (u2 (u2 iv 12 34 v126) 12 37 n7) 12 38 n8) lv (u2 (u2 (u2 fa 12 26 f1) 12 30 f2) 12 28 f99) la) := hD
                  have hP9 : va_P (dC, dI) classes (WM h g ca (u2 (u2 (u2 (u2 (u2 iv 12 34 v126) 12 35 (iv 12 35)) 12 36 (iv 12 36)) 12 37 n7) 12 38 n8) lv (u2 (u2 (u2 fa 12 26 f1) 12 28 f99) 12 30 f2) la) H := hP
                  have hD9 : va_D A (WM h g ca (u2 (u2 (u2 (u2 (u2 iv 12 34 v126) 12 35 (iv 12 35)) 12 36 (iv 12 36)) 12 37 n7) 12 38 n8) lv (u2 (u2 (u2 fa 12 26 f1) 12 28 f99) 12 30 f2) la) := hD
                  exact W.vret hx hb hr (fun t ht9 hW => ⟨⟨((u2 (u2 (u2 (u2 (u2 iv 12 34 v126) 12 35 (iv 12 35)) 12 36 (iv 12 36)) 12 37 n7) 12 38 n8), lv, (u2 (u2 (u2 fa 12 26 f1) 12 28 f99) 12 30 f2), la), rfl, ⟨f1, f99, f2, v126, (iv 12 35), (iv 12 36), n7, n8, hf2, (show inb (0, 200) v126 from ⟨by omega, by omega⟩), (hI.1 12 35), (show inb (0, 200) n7 from ⟨by omega, by omega⟩), (show inb (0, 200) n8 from ⟨by omega, by omega⟩), (show (iv 12 34).toInt ≤ (v126 : Int32).toInt from by omega), (show ∀ j : Nat, j ≠ k.toNatClampNeg → f1 j = (fa 12 26) j ∧ (fa 12 27) j = (fa 12 27) j ∧ f99 j = (fa 12 28) j from fun j hj => ⟨(by rw [ef1, upd_ne hj]), rfl, (by rw [ef99, upd_ne hj])⟩), (show (((iv 12 35) : Int32).toInt ≠ 0 ∨ gd3 (f1 k.toNatClampNeg) ((fa 12 27) k.toNatClampNeg) (f99 k.toNatClampNeg)) from (by
                        have kc : (1 : Int32).toInt = 1 := by decide
                        have kE : f1 k.toNatClampNeg = 1 := by rw [ef1]; exact upd_eq
                        have fE : f99 k.toNatClampNeg = 0 := by rw [ef99]; exact upd_eq
                        have := congrArg Int32.toInt (ev100.trans fE)
                        by_cases h0 : ((iv 12 35) : Int32).toInt = 0
                        · refine Or.inr ?_; rw [kE, fE]; unfold gd3; exact ⟨fun h => by omega, fun h h2 => by omega⟩
                        · exact Or.inl h0)), (show ∀ j : Nat, j ≠ k.toNatClampNeg → (fa 12 29) j = (fa 12 29) j ∧ f2 j = (fa 12 30) j from fun j hj => ⟨(rfl), (by rw [ef2, upd_ne (show j ≠ k.toNatClampNeg from hj)])⟩), (show ∀ j : Nat, (j : Int) < 8 * (k).toInt → (fa 12 31) j = (fa 12 31) j from fun j hj => rfl), (show f1 ((k).toInt).toNat = 1 from (by rw [ef1]; exact upd_eq)), (show ((((iv 12 35) : Int32).toInt ≠ 0 ∧ ∃ b kd v1 : Int, TakR (fun j => sg ((fa 12 32) j).toInt) ((iv 12 33) : Int32).toInt (iv 12 34).toInt ((iv 12 35) : Int32).toInt ((iv 12 36) : Int32).toInt b kd v1) ∨ (((iv 12 35) : Int32).toInt = 0 ∧ ((iv 12 36) : Int32).toInt = (iv 12 36).toInt ∧ TakR (fun j => sg ((fa 12 32) j).toInt) ((iv 12 33) : Int32).toInt (iv 12 34).toInt 0 0 (v126 : Int32).toInt 5 (f99 ((k).toInt).toNat).toInt)) from (by
                        have hE28 : f99 (k.toInt).toNat = 0 := (by rw [ef99]; exact upd_eq)
                        have hl := congrArg Int32.toInt (ev100.trans (show f99 k.toNatClampNeg = 0 from hE28))
                        have hz9 : (0 : Int32).toInt = 0 := by decide
                        have g0 := ((cw_mean xr9_0).resolve_right (fun q => by omega)).2
                        rw [xr5_1] at g0
                        have hk : kwW (fun j => sg (fa 12 32 j).toInt) (n7 : Int32).toInt (n6 : Int32).toInt = 0 := by unfold kwW; rw [if_pos g0]
                        have hg := sg_i (fa 12 32 ((n118 : Int32).toInt).toNat).toInt
                        have hS9 : StpR (fun j => sg (fa 12 32 j).toInt) (iv 12 33).toInt (n6 : Int32).toInt 0 0 (v126 : Int32).toInt := ⟨_, xr117_1, Or.inr ⟨⟨by omega, (show sg (fa 12 32 ((n118 : Int32).toInt).toNat).toInt = 59 from by omega)⟩, rfl, by omega⟩⟩
                        rw [hE28]; exact Or.inr ⟨by omega, by omega, _, _, xr5_2, xr5_3, Or.inr ⟨by omega, rfl, by omega, hS9⟩⟩)), rfl⟩, by rw [ht9]; exact hP9, hD9⟩, hS.F ht9⟩) hS.2.2 dX12_readClause_295
              · skip
                have fr124 : ¬ (((iv 12 35) : Int32).toInt = 0) := fr124
                exfalso; omega
          · skip
            have fr116 : ¬ (((iv 12 35) : Int32).toInt = 0) := fr116
            exfalso; omega
  · exact absurd c3 (by decide)
set_option maxHeartbeats 4000000 in
set_option maxRecDepth 100000 in
/-- X12_readClause -/
theorem c_X12_readClause_r2 (l : Launch) (dC : Nat → ClassId) (dI : Nat → Nat → Nat) (sz : Nat) (h : Nat) (g : Nat → Nat → Nat) (ca : Nat → Nat → ClassId) (iv : Nat → Nat → Int32) (lv : Nat → Nat → Int64) (fa : Nat → Nat → Nat → Int32) (la : Nat → Nat → Nat → Int64) (hI : IX iv fa) (k : Int32) (q_12_35 : 0 ≤ (iv 12 35).toInt ∧ (iv 12 35).toInt ≤ 0) (h_k : 0 ≤ k.toInt ∧ k.toInt ≤ 95) (hJT : ∀ j : Nat, 0 ≤ (fa 12 32 j).toInt) : Met l yX12_readClause (wc yX12_readClause cX12_readClause 4 none) ({ frames := 3, cells := 0, slots := 0, locals := 72 } : Room) (pW (dC, dI) classes (WM h g ca iv lv fa la) (TM ca) sz [.ref h, .int 2, .int k]) (va_Qv (fun (u : SS) => ∃ (na_12_26 : Nat → Int32) (na_12_28 : Nat → Int32) (na_12_29 : Nat → Int32) (na_12_30 : Nat → Int32) (na_12_31 : Nat → Int32) (ni_12_34 : Int32) (ni_12_35 : Int32) (ni_12_36 : Int32) (ni_12_37 : Int32) (ni_12_38 : Int32), (∀ j, inb (bA 12 30 j) (na_12_30 j)) ∧ inb (bI 12 34) ni_12_34 ∧ inb (bI 12 35) ni_12_35 ∧ inb (bI 12 37) ni_12_37 ∧ inb (bI 12 38) ni_12_38 ∧ ((iv 12 34).toInt ≤ (ni_12_34).toInt) ∧ (∀ j : Nat, j ≠ k.toNatClampNeg → na_12_26 j = (fa 12 26) j ∧ (fa 12 27) j = (fa 12 27) j ∧ na_12_28 j = (fa 12 28) j) ∧ (((ni_12_35).toInt ≠ 0 ∨ gd3 (na_12_26 k.toNatClampNeg) ((fa 12 27) k.toNatClampNeg) (na_12_28 k.toNatClampNeg))) ∧ (∀ j : Nat, j ≠ k.toNatClampNeg → na_12_29 j = (fa 12 29) j ∧ na_12_30 j = (fa 12 30) j) ∧ (∀ j : Nat, (j : Int) < 8 * k.toInt → na_12_31 j = (fa 12 31) j) ∧ (na_12_26 (k.toInt).toNat = 2) ∧ ((((ni_12_35).toInt ≠ 0 ∧ ∃ (b kd v1 v2 : Int) (wd : Nat → Int), NamR (fun j => sg ((fa 12 32) j).toInt) (iv 12 33).toInt (iv 12 34).toInt (ni_12_35).toInt (ni_12_36).toInt b kd v1 v2 wd) ∨ ((ni_12_35).toInt = 0 ∧ (ni_12_36).toInt = (iv 12 36).toInt ∧ NamR (fun j => sg ((fa 12 32) j).toInt) (iv 12 33).toInt (iv 12 34).toInt 0 0 (ni_12_34).toInt 6 (na_12_28 (k.toInt).toNat).toInt (na_12_29 (k.toInt).toNat).toInt (fun j => if (j : Int) < (na_12_30 (k.toInt).toNat).toInt then (na_12_31 (8 * (k.toInt).toNat + j)).toInt else 0)))) ∧ u = ((u2 (u2 (u2 (u2 (u2 iv 12 34 ni_12_34) 12 35 ni_12_35) 12 36 ni_12_36) 12 37 ni_12_37) 12 38 ni_12_38), lv, (u2 (u2 (u2 (u2 (u2 fa 12 26 na_12_26) 12 28 na_12_28) 12 29 na_12_29) 12 30 na_12_30) 12 31 na_12_31), la)) (bM (dC, dI) h g ca (va_A (WM h g ca iv lv fa la) sz)) (va_A (WM h g ca iv lv fa la) sz)) 0 0 (va_A (WM h g ca iv lv fa la) sz) := by
  refine Met.ofW (cc := cX12_readClause) (maxL := 4) (ret := none) (by decide) rfl ?_
  intro p e s m args below meth c s₁ B hml hv
  obtain ⟨rfl, hsz, hP, hK, hD0⟩ := hv
  have hx := B.exec
  have hb := B.bytes
  have hr := B.returns
  have ht := tb_tl (atoms_spec (ws := wc yX12_readClause cX12_readClause 4 none) B.pre)
  have hown : s.vm.findClass RX12 = some m.cls := findClass_of_methodNamed B.named
  have hlocks := B.notSynchronized
  subst hsz
  have hD := hD0.self (sz := s.heap.size)
  generalize hAe : va_A (WM h g ca iv lv fa la) s.heap.size = A at hD ⊢
  have hA : ∀ q : Nat, s.heap.size ≤ q → A q := fun q h => by rw [← hAe]; exact Or.inr h
  have hS : va_S A s.heap s.heap [] := va_S.rf
  have hl := lv_entry [.ref h, .int 2, .int k] (n := 4) (Nat.le_of_ble_eq_true rfl)
  rw [lg_entry_eq]
  generalize (lg_sl [.ref h, .int 2, .int k] ++ List.replicate (4 - (lg_sl [.ref h, .int 2, .int k]).length) Slot.unset).toArray = ls at hl ⊢
  have hl : lv_has ls 4 [(0, .ref h), (1, .int 2), (2, .int k)] := hl
  refine lv_aload_n hx hb dX12_readClause_0 rfl (lv_at hl 0 rfl) ?_
  refine gM_12_26 hx hb ht hown hK hP m_1165 dX12_readClause_1 ?_
  refine lv_iload_n hx hb dX12_readClause_4 rfl (lv_at hl 2 rfl) ?_
  refine lv_iload_n hx hb dX12_readClause_5 rfl (lv_at hl 1 rfl) ?_
  refine tM_12_26 hx hb hK hP hD hS (f0 := (fa 12 26)) rfl (i := k) (x := 2) (vp_in_iff.mpr ⟨by omega, by omega⟩) dX12_readClause_6 (fun f1 ef1 H locs hP hD hS => ?_)
  have hf1 : ∀ j, inb (bA 12 26 j) (f1 j) := fun j => full_i _
  refine lv_aload_n hx hb dX12_readClause_7 rfl (lv_at hl 0 rfl) ?_
  refine gM_12_30 hx hb ht hown hK hP m_1169 dX12_readClause_8 ?_
  refine lv_iload_n hx hb dX12_readClause_11 rfl (lv_at hl 2 rfl) ?_
  refine lv_iconst (v := 0) hx hb dX12_readClause_12 (by decide) ?_
  refine tM_12_30 hx hb hK hP hD hS (f0 := (fa 12 30)) rfl (i := k) (x := 0) (vp_in_iff.mpr ⟨by omega, by omega⟩) dX12_readClause_13 (fun f2 ef2 H locs hP hD hS => ?_)
  have hf2 : ∀ j, inb (bA 12 30 j) (f2 j) := by rw [ef2]; exact upd_b (b := bA 12 30) (hI.2 12 30) (show inb (0, 8) 0 from ⟨by decide, by decide⟩)
  refine lv_iload_n hx hb dX12_readClause_14 rfl (lv_at hl 1 rfl) ?_
  refine lv_if_ne (tgt := 89) hx hb dX12_readClause_15 (by decide) (fun c3 => ?_) (fun c3 => ?_)
  · skip
    refine lv_iload_n hx hb dX12_readClause_89 rfl (lv_at hl 1 rfl) ?_
    refine lv_iconst (v := 1) hx hb dX12_readClause_90 (by decide) ?_
    refine lv_icmp_ne (tgt := 202) hx hb dX12_readClause_91 (by decide) (fun c4 => ?_) (fun c4 => ?_)
    · skip
      refine lv_iload_n hx hb dX12_readClause_202 rfl (lv_at hl 1 rfl) ?_
      refine lv_iconst (v := 3) hx hb dX12_readClause_203 (by decide) ?_
      refine lv_icmp_ne (tgt := 252) hx hb dX12_readClause_204 (by decide) (fun c5 => ?_) (fun c5 => ?_)
      · skip
        refine lv_aload_n hx hb dX12_readClause_252 rfl (lv_at hl 0 rfl) ?_
        refine lv_iload_n hx hb dX12_readClause_253 rfl (lv_at hl 2 rfl) ?_
        have i_12_35 : 0 ≤ (iv 12 35).toInt ∧ (iv 12 35).toInt ≤ 5 := hI.1 12 35
        have i_12_34 : 0 ≤ (iv 12 34).toInt ∧ (iv 12 34).toInt ≤ 200 := hI.1 12 34
        have hFc := free_all hD hS hA
        refine va_callv (va_runV (As := [.int k]) (rest := []) ⟨hx, hb, hml, hown, ht⟩ (c_X12_readName_r l dC dI H.size h g ca iv lv (u2 (u2 fa 12 26 f1) 12 30 f2) la (IX_a (c := 12) (k := 30) (IX_a (c := 12) (k := 26) hI hf1) hf2) k (show 0 ≤ ((iv 12 35) : Int32).toInt ∧ ((iv 12 35) : Int32).toInt ≤ 0 from ⟨by omega, by omega⟩) ⟨by omega, by omega⟩ hJT) (kV 1 ht m_1496 m_1498 m_54 m_89 m_1499 rfl rfl hd_X12_readName_v ⟨Nat.le_of_ble_eq_true rfl, Nat.le_of_ble_eq_true rfl⟩) (vW hP hK hD (rM_12 hK hP)) rfl rfl hl.1 rfl (lv_room (Nat.le_of_ble_eq_true rfl)) dX12_readClause_254 ⟨Nat.le_of_ble_eq_true rfl, Nat.le_of_ble_eq_true rfl⟩) hS (fun q _ h => hFc q h) hFc (fun u t H1 locs ht9 hvm hr6 hB hz1 hk1 hS => ?_)
        obtain ⟨n7, n8, n9, n10, n11, n12, n13, n14, n15, hn9, hn11, hn12, hn14, hn15, xr6_0, xr6_1, xr6_2, xr6_3, xr6_4, xr6_5, rfl⟩ := hr6
        have hn7 : ∀ j, inb (bA 12 28 j) (n7 j) := fun j => full_i _
        have hn8 : ∀ j, inb (bA 12 29 j) (n8 j) := fun j => full_i _
        have hn10 : ∀ j, inb (bA 12 31 j) (n10 j) := fun j => full_i _
        have hn11 : 0 ≤ n11.toInt ∧ n11.toInt ≤ 200 := hn11
        have hn12 : 0 ≤ n12.toInt ∧ n12.toInt ≤ 5 := hn12
        have hn14 : 0 ≤ n14.toInt ∧ n14.toInt ≤ 200 := hn14
        have hn15 : 0 ≤ n15.toInt ∧ n15.toInt ≤ 200 := hn15
        obtain ⟨hP, hD⟩ := hB
        rw [ht9] at hP
        generalize H1 = H at hP hS ⊢
        have hP : va_P (dC, dI) classes (WM h g ca (u2 (u2 (u2 (u2 (u2 iv 12 34 n11) 12 35 n12) 12 36 n13) 12 37 n14) 12 38 n15) lv (u2 (u2 (u2 (u2 (u2 fa 12 26 f1) 12 30 n9) 12 28 n7) 12 29 n8) 12 31 n10) la) H := hP
        have hD : va_D A (WM h g ca (u2 (u2 (u2 (u2 (u2 iv 12 34 n11) 12 35 n12) 12 36 n13) 12 37 n14) 12 38 n15) lv (u2 (u2 (u2 (u2 (u2 fa 12 26 f1) 12 30 n9) 12 28 n7) 12 29 n8) 12 31 n10) la) := (show va_D _ (WM h g ca (u2 (u2 (u2 (u2 (u2 iv 12 34 n11) 12 35 n12) 12 36 n13) 12 37 n14) 12 38 n15) lv (u2 (u2 (u2 (u2 (u2 fa 12 26 f1) 12 30 n9) 12 28 n7) 12 29 n8) 12 31 n10) la) from hD).weaken (fun _ _ _ h => hFc _ h)
        have xr6_0 : ((iv 12 34) : Int32).toInt ≤ (n11 : Int32).toInt := xr6_0
        have xr6_1 : ∀ j : Nat, j ≠ (k : Int32).toNatClampNeg → n7 j = (fa 12 28) j := xr6_1
        have xr6_2 : ∀ j : Nat, j ≠ (k : Int32).toNatClampNeg → n8 j = (fa 12 29) j := xr6_2
        have xr6_3 : ∀ j : Nat, j ≠ (k : Int32).toNatClampNeg → n9 j = f2 j := xr6_3
        have xr6_4 : ∀ j : Nat, (j : Int) < 8 * (k : Int32).toInt → n10 j = (fa 12 31) j := xr6_4
        have i_12_33 : 0 ≤ (iv 12 33).toInt ∧ (iv 12 33).toInt ≤ 200 := hI.1 12 33
        have xr6_5 : (((n12 : Int32).toInt ≠ 0 ∧ ∃ (b v1 v2 : Int) (wd : Nat → Int), NmP (fun j => sg ((fa 12 32) j).toInt) ((iv 12 33) : Int32).toInt ((iv 12 34) : Int32).toInt (n12 : Int32).toInt (n13 : Int32).toInt b v1 v2 wd) ∨ ((n12 : Int32).toInt = 0 ∧ (n13 : Int32).toInt = ((iv 12 36) : Int32).toInt ∧ NmP (fun j => sg ((fa 12 32) j).toInt) ((iv 12 33) : Int32).toInt ((iv 12 34) : Int32).toInt 0 0 (n11 : Int32).toInt (n7 ((k : Int32).toInt).toNat).toInt (n8 ((k : Int32).toInt).toNat).toInt (fun j => if (j : Int) < (n9 ((k : Int32).toInt).toNat).toInt then (n10 (8 * ((k : Int32).toInt).toNat + j)).toInt else 0))) := xr6_5
        refine lv_aload_n hx hb dX12_readClause_257 rfl (lv_at hl 0 rfl) ?_
        have hFc := free_all hD hS hA
        refine va_calli (va_runV (As := []) (rest := []) ⟨hx, hb, hml, hown, ht⟩ (c_X12_here_r l dC dI H.size h g ca (u2 (u2 (u2 (u2 (u2 iv 12 34 n11) 12 35 n12) 12 36 n13) 12 37 n14) 12 38 n15) lv (u2 (u2 (u2 (u2 (u2 fa 12 26 f1) 12 30 n9) 12 28 n7) 12 29 n8) 12 31 n10) la (IX_a (c := 12) (k := 31) (IX_a (c := 12) (k := 29) (IX_a (c := 12) (k := 28) (IX_a (c := 12) (k := 30) (IX_a (c := 12) (k := 26) (IX_i (c := 12) (k := 38) (IX_i (c := 12) (k := 37) (IX_i (c := 12) (k := 36) (IX_i (c := 12) (k := 35) (IX_i (c := 12) (k := 34) hI (show inb (0, 200) n11 from ⟨by omega, by omega⟩)) (show inb (0, 5) n12 from ⟨by omega, by omega⟩)) (full_i _)) (show inb (0, 200) n14 from ⟨by omega, by omega⟩)) (show inb (0, 200) n15 from ⟨by omega, by omega⟩)) hf1) hn9) hn7) hn8) hn10)) (kV 0 ht m_1458 m_1460 m_47 m_89 m_1461 rfl rfl hd_X12_here_v ⟨Nat.le_of_ble_eq_true rfl, Nat.le_of_ble_eq_true rfl⟩) (vW hP hK hD (rM_12 hK hP)) rfl rfl hl.1 rfl (lv_room (Nat.le_of_ble_eq_true rfl)) dX12_readClause_258 ⟨Nat.le_of_ble_eq_true rfl, Nat.le_of_ble_eq_true rfl⟩) hS (fun q _ h => hFc q h) hFc (fun r16 u t H1 locs ht9 hvm hr16 hB hz1 hk1 hS => ?_)
        obtain ⟨n17, hn17, xr16_0, xr16_1, xr16_2, hr16, rfl⟩ := hr16
        have hn17 : 0 ≤ n17.toInt ∧ n17.toInt ≤ 200 := hn17
        obtain ⟨hP, hD⟩ := hB
        rw [ht9] at hP
        generalize H1 = H at hP hS ⊢
        have hP : va_P (dC, dI) classes (WM h g ca (u2 (u2 (u2 (u2 (u2 iv 12 34 n17) 12 35 n12) 12 36 n13) 12 37 n14) 12 38 n15) lv (u2 (u2 (u2 (u2 (u2 fa 12 26 f1) 12 30 n9) 12 28 n7) 12 29 n8) 12 31 n10) la) H := hP
        have hD : va_D A (WM h g ca (u2 (u2 (u2 (u2 (u2 iv 12 34 n17) 12 35 n12) 12 36 n13) 12 37 n14) 12 38 n15) lv (u2 (u2 (u2 (u2 (u2 fa 12 26 f1) 12 30 n9) 12 28 n7) 12 29 n8) 12 31 n10) la) := (show va_D _ (WM h g ca (u2 (u2 (u2 (u2 (u2 iv 12 34 n17) 12 35 n12) 12 36 n13) 12 37 n14) 12 38 n15) lv (u2 (u2 (u2 (u2 (u2 fa 12 26 f1) 12 30 n9) 12 28 n7) 12 29 n8) 12 31 n10) la) from hD).weaken (fun _ _ _ h => hFc _ h)
        have xr16_0 : (n11 : Int32).toInt ≤ (n17 : Int32).toInt := xr16_0
        have xr16_1 : Sk (fun j => sg ((fa 12 32) j).toInt) ((iv 12 33) : Int32).toInt (n11 : Int32).toInt (n17 : Int32).toInt := xr16_1
        have xr16_2 : (((r16 : Int32).toInt = -1 ∧ ((iv 12 33) : Int32).toInt ≤ (n17 : Int32).toInt) ∨ ((n17 : Int32).toInt < ((iv 12 33) : Int32).toInt ∧ (r16 : Int32).toInt = ((fa 12 32) ((n17 : Int32).toInt).toNat).toInt)) := xr16_2
        refine lv_istore_n (lv' := [(3, .int r16), (0, .ref h), (1, .int 2), (2, .int k)]) hx hb dX12_readClause_261 rfl hl (by decide) rfl (fun ls hl => ?_)
        refine lv_aload_n hx hb dX12_readClause_262 rfl (lv_at hl 1 rfl) ?_
        refine lv_iload_n hx hb dX12_readClause_263 rfl (lv_at hl 0 rfl) ?_
        refine lv_bipush (v := 59) hx hb dX12_readClause_264 (by decide) ?_
        refine lv_icmp_ne (tgt := 273) hx hb dX12_readClause_266 (by decide) (fun c18 => ?_) (fun c18 => ?_)
        · have fc18 := z_ne (rfl : (r16).toInt = _) (by decide : (59 : Int32).toInt = 59) c18
          refine lv_iconst (v := 0) hx hb dX12_readClause_273 (by decide) ?_
          refine lv_iconst (v := 1) hx hb dX12_readClause_274 (by decide) ?_
          refine lv_aload_n hx hb dX12_readClause_275 rfl (lv_at hl 1 rfl) ?_
          refine gM_12_34 hx hb ht hown hK hP m_1173 (v := n17) rfl dX12_readClause_276 ?_
          have hFc := free_all hD hS hA
          refine va_calli (va_runV (As := [.int 0, .int 1, .int n17]) (rest := []) ⟨hx, hb, hml, hown, ht⟩ (c_X12_want_r0 l dC dI H.size h g ca (u2 (u2 (u2 (u2 (u2 iv 12 34 n17) 12 35 n12) 12 36 n13) 12 37 n14) 12 38 n15) lv (u2 (u2 (u2 (u2 (u2 fa 12 26 f1) 12 30 n9) 12 28 n7) 12 29 n8) 12 31 n10) la (IX_a (c := 12) (k := 31) (IX_a (c := 12) (k := 29) (IX_a (c := 12) (k := 28) (IX_a (c := 12) (k := 30) (IX_a (c := 12) (k := 26) (IX_i (c := 12) (k := 38) (IX_i (c := 12) (k := 37) (IX_i (c := 12) (k := 36) (IX_i (c := 12) (k := 35) (IX_i (c := 12) (k := 34) hI (show inb (0, 200) n17 from ⟨by omega, by omega⟩)) (show inb (0, 5) n12 from ⟨by omega, by omega⟩)) (full_i _)) (show inb (0, 200) n14 from ⟨by omega, by omega⟩)) (show inb (0, 200) n15 from ⟨by omega, by omega⟩)) hf1) hn9) hn7) hn8) hn10) 1 n17 ⟨by decide, by decide⟩) (kV 3 ht m_1472 m_1474 m_50 m_89 m_1475 rfl rfl hd_X12_want_v ⟨Nat.le_of_ble_eq_true rfl, Nat.le_of_ble_eq_true rfl⟩) (vW hP hK hD (rM_12 hK hP)) rfl rfl hl.1 rfl (lv_room (Nat.le_of_ble_eq_true rfl)) dX12_readClause_279 ⟨Nat.le_of_ble_eq_true rfl, Nat.le_of_ble_eq_true rfl⟩) hS (fun q _ h => hFc q h) hFc (fun r19 u t H1 locs ht9 hvm hr19 hB hz1 hk1 hS => ?_)
          obtain ⟨n20, n21, hn20, xr19_0, xr19_1, hr19, rfl⟩ := hr19
          have hn20 : 0 ≤ n20.toInt ∧ n20.toInt ≤ 5 := hn20
          obtain ⟨hP, hD⟩ := hB
          rw [ht9] at hP
          generalize H1 = H at hP hS ⊢
          have hP : va_P (dC, dI) classes (WM h g ca (u2 (u2 (u2 (u2 (u2 iv 12 34 n17) 12 35 n20) 12 36 n21) 12 37 n14) 12 38 n15) lv (u2 (u2 (u2 (u2 (u2 fa 12 26 f1) 12 30 n9) 12 28 n7) 12 29 n8) 12 31 n10) la) H := hP
          have hD : va_D A (WM h g ca (u2 (u2 (u2 (u2 (u2 iv 12 34 n17) 12 35 n20) 12 36 n21) 12 37 n14) 12 38 n15) lv (u2 (u2 (u2 (u2 (u2 fa 12 26 f1) 12 30 n9) 12 28 n7) 12 29 n8) 12 31 n10) la) := (show va_D _ (WM h g ca (u2 (u2 (u2 (u2 (u2 iv 12 34 n17) 12 35 n20) 12 36 n21) 12 37 n14) 12 38 n15) lv (u2 (u2 (u2 (u2 (u2 fa 12 26 f1) 12 30 n9) 12 28 n7) 12 29 n8) 12 31 n10) la) from hD).weaken (fun _ _ _ h => hFc _ h)
          have xr19_0 : 1 ≤ (n20 : Int32).toInt := xr19_0
          have : (1 : Int32).toInt = 1 := (by decide)
          have xr19_1 : (((n12 : Int32).toInt = 0 ∧ (n20 : Int32).toInt = (1 : Int32).toInt ∧ (n21 : Int32).toInt = (n17 : Int32).toInt) ∨ ((n12 : Int32).toInt ≠ 0 ∧ (n20 : Int32).toInt = (n12 : Int32).toInt ∧ (n21 : Int32).toInt = (n13 : Int32).toInt)) := xr19_1
          obtain rfl : 0 = r19 := hr19.symm
          refine lv_if_eq (tgt := 295) hx hb dX12_readClause_282 (by decide) (fun c22 => ?_) (fun c22 => ?_)
          · skip
            have hP9 : va_P (dC, dI) classes (WM h g ca (u2 (u2 (u2 (u2 (u2 iv 12 34 n17) 12 35 n20) 12 36 n21) 12 37 n14) 12 38 n15) lv (u2 (u2 (u2 (u2 (u2 fa 12 26 f1) 12 28 n7) 12 29 n8) 12 30 n9) 12 31 n10) la) H := hP
            have hD9 : va_D A (WM h g ca (u2 (u2 (u2 (u2 (u2 iv 12 34 n17) 12 35 n20) 12 36 n21) 12 37 n14) 12 38 n15) lv (u2 (u2 (u2 (u2 (u2 fa 12 26 f1) 12 28 n7) 12 29 n8) 12 30 n9) 12 31 n10) la) := hD
            exact W.vret hx hb hr (fun t ht9 hW => ⟨⟨((u2 (u2 (u2 (u2 (u2 iv 12 34 n17) 12 35 n20) 12 36 n21) 12 37 n14) 12 38 n15), lv, (u2 (u2 (u2 (u2 (u2 fa 12 26 f1) 12 28 n7) 12 29 n8) 12 30 n9) 12 31 n10), la), rfl, ⟨f1, n7, n8, n9, n10, n17, n20, n21, n14, n15, hn9, (show inb (0, 200) n17 from ⟨by omega, by omega⟩), (show inb (0, 5) n20 from ⟨by omega, by omega⟩), (show inb (0, 200) n14 from ⟨by omega, by omega⟩), (show inb (0, 200) n15 from ⟨by omega, by omega⟩), (show (iv 12 34).toInt ≤ (n17 : Int32).toInt from by omega), (show ∀ j : Nat, j ≠ k.toNatClampNeg → f1 j = (fa 12 26) j ∧ (fa 12 27) j = (fa 12 27) j ∧ n7 j = (fa 12 28) j from fun j hj => ⟨(by rw [ef1, upd_ne hj]), rfl, (xr6_1 j hj)⟩), (show ((n20 : Int32).toInt ≠ 0 ∨ gd3 (f1 k.toNatClampNeg) ((fa 12 27) k.toNatClampNeg) (n7 k.toNatClampNeg)) from (by
                  have kc : (2 : Int32).toInt = 2 := by decide
                  have kE : f1 k.toNatClampNeg = 2 := by rw [ef1]; exact upd_eq
                  by_cases h0 : (n20 : Int32).toInt = 0
                  · refine Or.inr ?_; rw [kE]; unfold gd3; exact ⟨fun h => by omega, fun h h2 => by omega⟩
                  · exact Or.inl h0)), (show ∀ j : Nat, j ≠ k.toNatClampNeg → n8 j = (fa 12 29) j ∧ n9 j = (fa 12 30) j from fun j hj => ⟨((xr6_2 j hj)), (((xr6_3 j hj).trans (by rw [ef2, upd_ne (show j ≠ k.toNatClampNeg from hj)])))⟩), (show ∀ j : Nat, (j : Int) < 8 * (k).toInt → n10 j = (fa 12 31) j from xr6_4), (show f1 ((k).toInt).toNat = 2 from (by rw [ef1]; exact upd_eq)), (show (((n20 : Int32).toInt ≠ 0 ∧ ∃ (b kd v1 v2 : Int) (wd : Nat → Int), NamR (fun j => sg ((fa 12 32) j).toInt) ((iv 12 33) : Int32).toInt (iv 12 34).toInt (n20 : Int32).toInt (n21 : Int32).toInt b kd v1 v2 wd) ∨ ((n20 : Int32).toInt = 0 ∧ (n21 : Int32).toInt = (iv 12 36).toInt ∧ NamR (fun j => sg ((fa 12 32) j).toInt) ((iv 12 33) : Int32).toInt (iv 12 34).toInt 0 0 (n17 : Int32).toInt 6 (n7 ((k).toInt).toNat).toInt (n8 ((k).toInt).toNat).toInt (fun j => if (j : Int) < (n9 ((k).toInt).toNat).toInt then (n10 (8 * ((k).toInt).toNat + j)).toInt else 0))) from (by
                  have hg := sg_i (fa 12 32 ((n17 : Int32).toInt).toNat).toInt
                  have hS9 : (n12 : Int32).toInt = 0 → StpR (fun j => sg (fa 12 32 j).toInt) (iv 12 33).toInt (n11 : Int32).toInt (n20 : Int32).toInt (n21 : Int32).toInt 0 := fun h0 => ⟨_, xr16_1, Or.inl ⟨fun q => (by have q2 : sg (fa 12 32 ((n17 : Int32).toInt).toNat).toInt = 59 := q.2; omega), by omega, by omega⟩⟩
                  rcases xr6_5 with ⟨yn1q, b, v1, v2, wd, yn2q⟩ | ⟨yn1q, yn2q, yn3q⟩
                  · have hF : (n20 : Int32).toInt = (n12 : Int32).toInt := by omega
                    have hP9 : (n21 : Int32).toInt = (n13 : Int32).toInt := by omega
                    rw [hF, hP9]; exact Or.inl ⟨by omega, 0, 0, v1, v2, wd, NmP_bad (by omega) yn2q⟩
                  · exact Or.inl ⟨by omega, 0, 6, _, _, _, NmP_ok yn3q rfl (hS9 (by omega))⟩)), rfl⟩, by rw [ht9]; exact hP9, hD9⟩, hS.F ht9⟩) hS.2.2 dX12_readClause_295
          · exact absurd rfl c22
        · have fc18 := z_eq (rfl : (r16).toInt = _) (by decide : (59 : Int32).toInt = 59) c18
          refine lv_iconst (v := 1) hx hb dX12_readClause_269 (by decide) ?_
          refine lv_goto (tgt := 274) hx hb dX12_readClause_270 (by decide) ?_
          refine lv_iconst (v := 1) hx hb dX12_readClause_274 (by decide) ?_
          refine lv_aload_n hx hb dX12_readClause_275 rfl (lv_at hl 1 rfl) ?_
          refine gM_12_34 hx hb ht hown hK hP m_1173 (v := n17) rfl dX12_readClause_276 ?_
          refine vp_callSi (W.runV (As := [.int 1, .int 1, .int n17]) (rest := []) ⟨hx, hb, hml, hown, ht⟩ (c_X12_want_1 l dC dI h g ca (u2 (u2 (u2 (u2 (u2 iv 12 34 n17) 12 35 n12) 12 36 n13) 12 37 n14) 12 38 n15) lv (u2 (u2 (u2 (u2 (u2 fa 12 26 f1) 12 30 n9) 12 28 n7) 12 29 n8) 12 31 n10) la (IX_a (c := 12) (k := 31) (IX_a (c := 12) (k := 29) (IX_a (c := 12) (k := 28) (IX_a (c := 12) (k := 30) (IX_a (c := 12) (k := 26) (IX_i (c := 12) (k := 38) (IX_i (c := 12) (k := 37) (IX_i (c := 12) (k := 36) (IX_i (c := 12) (k := 35) (IX_i (c := 12) (k := 34) hI (show inb (0, 200) n17 from ⟨by omega, by omega⟩)) (show inb (0, 5) n12 from ⟨by omega, by omega⟩)) (full_i _)) (show inb (0, 200) n14 from ⟨by omega, by omega⟩)) (show inb (0, 200) n15 from ⟨by omega, by omega⟩)) hf1) hn9) hn7) hn8) hn10) 1 n17) (kV 3 ht m_1472 m_1474 m_50 m_89 m_1475 rfl rfl hd_X12_want_v ⟨Nat.le_of_ble_eq_true rfl, Nat.le_of_ble_eq_true rfl⟩) (vR hP hK (rM_12 hK hP)) rfl rfl hl.1 rfl (lv_room (Nat.le_of_ble_eq_true rfl)) dX12_readClause_279 ⟨Nat.le_of_ble_eq_true rfl, Nat.le_of_ble_eq_true rfl⟩) (fun r23 hr23 => ?_)
          rcases hr23 with ⟨rfl, fr23⟩ | ⟨rfl, fr23⟩
          · skip
            have fr23 : ((n12 : Int32).toInt = 0) := fr23
            refine lv_if_eq (tgt := 295) hx hb dX12_readClause_282 (by decide) (fun c24 => ?_) (fun c24 => ?_)
            · exact absurd c24 (by decide)
            · skip
              refine lv_aload_n hx hb dX12_readClause_285 rfl (lv_at hl 1 rfl) ?_
              refine lv_dup hx hb dX12_readClause_286 rfl ?_
              refine gM_12_34 hx hb ht hown hK hP m_1173 (v := n17) rfl dX12_readClause_287 ?_
              refine lv_iconst (v := 1) hx hb dX12_readClause_290 (by decide) ?_
              refine lv_iadd hx hb dX12_readClause_291 ?_
              refine lv_topi (fun v25 ev25 => ?_)
              have tv25 := z_add ev25 (rfl : (n17).toInt = _) (by decide : (1 : Int32).toInt = 1) (by omega) (by omega)
              have : 0 ≤ (v25 : Int32).toInt ∧ (v25 : Int32).toInt ≤ 200 := ⟨by omega, by omega⟩
              refine pM_12_34 (v := v25) hx hb ht hown hK hP hD hS m_1173 dX12_readClause_292 (fun H locs hP hD hS => ?_)
              have hP : va_P (dC, dI) classes (WM h g ca (u2 (u2 (u2 (u2 (u2 iv 12 34 v25) 12 35 n12) 12 36 n13) 12 37 n14) 12 38 n15) lv (u2 (u2 (u2 (u2 (u2 fa 12 26 f1) 12 30 n9) 12 28 n7) 12 29 n8) 12 31 n10) la) H := hP
              have hD : va_D A (WM h g ca (u2 (u2 (u2 (u2 (u2 iv 12 34 v25) 12 35 n12) 12 36 n13) 12 37 n14) 12 38 n15) lv (u2 (u2 (u2 (u2 (u2 fa 12 26 f1) 12 30 n9) 12 28 n7) 12 29 n8) 12 31 n10) la) := hD
              have hP9 : va_P (dC, dI) classes (WM h g ca (u2 (u2 (u2 (u2 (u2 iv 12 34 v25) 12 35 n12) 12 36 n13) 12 37 n14) 12 38 n15) lv (u2 (u2 (u2 (u2 (u2 fa 12 26 f1) 12 28 n7) 12 29 n8) 12 30 n9) 12 31 n10) la) H := hP
              have hD9 : va_D A (WM h g ca (u2 (u2 (u2 (u2 (u2 iv 12 34 v25) 12 35 n12) 12 36 n13) 12 37 n14) 12 38 n15) lv (u2 (u2 (u2 (u2 (u2 fa 12 26 f1) 12 28 n7) 12 29 n8) 12 30 n9) 12 31 n10) la) := hD
              exact W.vret hx hb hr (fun t ht9 hW => ⟨⟨((u2 (u2 (u2 (u2 (u2 iv 12 34 v25) 12 35 n12) 12 36 n13) 12 37 n14) 12 38 n15), lv, (u2 (u2 (u2 (u2 (u2 fa 12 26 f1) 12 28 n7) 12 29 n8) 12 30 n9) 12 31 n10), la), rfl, ⟨f1, n7, n8, n9, n10, v25, n12, n13, n14, n15, hn9, (show inb (0, 200) v25 from ⟨by omega, by omega⟩), (show inb (0, 5) n12 from ⟨by omega, by omega⟩), (show inb (0, 200) n14 from ⟨by omega, by omega⟩), (show inb (0, 200) n15 from ⟨by omega, by omega⟩), (show (iv 12 34).toInt ≤ (v25 : Int32).toInt from by omega), (show ∀ j : Nat, j ≠ k.toNatClampNeg → f1 j = (fa 12 26) j ∧ (fa 12 27) j = (fa 12 27) j ∧ n7 j = (fa 12 28) j from fun j hj => ⟨(by rw [ef1, upd_ne hj]), rfl, (xr6_1 j hj)⟩), (show ((n12 : Int32).toInt ≠ 0 ∨ gd3 (f1 k.toNatClampNeg) ((fa 12 27) k.toNatClampNeg) (n7 k.toNatClampNeg)) from (by
                    have kc : (2 : Int32).toInt = 2 := by decide
                    have kE : f1 k.toNatClampNeg = 2 := by rw [ef1]; exact upd_eq
                    by_cases h0 : (n12 : Int32).toInt = 0
                    · refine Or.inr ?_; rw [kE]; unfold gd3; exact ⟨fun h => by omega, fun h h2 => by omega⟩
                    · exact Or.inl h0)), (show ∀ j : Nat, j ≠ k.toNatClampNeg → n8 j = (fa 12 29) j ∧ n9 j = (fa 12 30) j from fun j hj => ⟨((xr6_2 j hj)), (((xr6_3 j hj).trans (by rw [ef2, upd_ne (show j ≠ k.toNatClampNeg from hj)])))⟩), (show ∀ j : Nat, (j : Int) < 8 * (k).toInt → n10 j = (fa 12 31) j from xr6_4), (show f1 ((k).toInt).toNat = 2 from (by rw [ef1]; exact upd_eq)), (show (((n12 : Int32).toInt ≠ 0 ∧ ∃ (b kd v1 v2 : Int) (wd : Nat → Int), NamR (fun j => sg ((fa 12 32) j).toInt) ((iv 12 33) : Int32).toInt (iv 12 34).toInt (n12 : Int32).toInt (n13 : Int32).toInt b kd v1 v2 wd) ∨ ((n12 : Int32).toInt = 0 ∧ (n13 : Int32).toInt = (iv 12 36).toInt ∧ NamR (fun j => sg ((fa 12 32) j).toInt) ((iv 12 33) : Int32).toInt (iv 12 34).toInt 0 0 (v25 : Int32).toInt 6 (n7 ((k).toInt).toNat).toInt (n8 ((k).toInt).toNat).toInt (fun j => if (j : Int) < (n9 ((k).toInt).toNat).toInt then (n10 (8 * ((k).toInt).toNat + j)).toInt else 0))) from (by
                    have hg := sg_i (fa 12 32 ((n17 : Int32).toInt).toNat).toInt
                    have hS9 : StpR (fun j => sg (fa 12 32 j).toInt) (iv 12 33).toInt (n11 : Int32).toInt 0 0 (v25 : Int32).toInt := ⟨_, xr16_1, Or.inr ⟨⟨by omega, (show sg (fa 12 32 ((n17 : Int32).toInt).toNat).toInt = 59 from by omega)⟩, rfl, by omega⟩⟩
                    rcases xr6_5 with ⟨yn1q, b, v1, v2, wd, yn2q⟩ | ⟨yn1q, yn2q, yn3q⟩
                    · exfalso; omega
                    · exact Or.inr ⟨by omega, by omega, NmP_ok yn3q rfl hS9⟩)), rfl⟩, by rw [ht9]; exact hP9, hD9⟩, hS.F ht9⟩) hS.2.2 dX12_readClause_295
          · skip
            have fr23 : ¬ ((n12 : Int32).toInt = 0) := fr23
            refine lv_if_eq (tgt := 295) hx hb dX12_readClause_282 (by decide) (fun c26 => ?_) (fun c26 => ?_)
            · skip
              have hP9 : va_P (dC, dI) classes (WM h g ca (u2 (u2 (u2 (u2 (u2 iv 12 34 n17) 12 35 n12) 12 36 n13) 12 37 n14) 12 38 n15) lv (u2 (u2 (u2 (u2 (u2 fa 12 26 f1) 12 28 n7) 12 29 n8) 12 30 n9) 12 31 n10) la) H := hP
              have hD9 : va_D A (WM h g ca (u2 (u2 (u2 (u2 (u2 iv 12 34 n17) 12 35 n12) 12 36 n13) 12 37 n14) 12 38 n15) lv (u2 (u2 (u2 (u2 (u2 fa 12 26 f1) 12 28 n7) 12 29 n8) 12 30 n9) 12 31 n10) la) := hD
              exact W.vret hx hb hr (fun t ht9 hW => ⟨⟨((u2 (u2 (u2 (u2 (u2 iv 12 34 n17) 12 35 n12) 12 36 n13) 12 37 n14) 12 38 n15), lv, (u2 (u2 (u2 (u2 (u2 fa 12 26 f1) 12 28 n7) 12 29 n8) 12 30 n9) 12 31 n10), la), rfl, ⟨f1, n7, n8, n9, n10, n17, n12, n13, n14, n15, hn9, (show inb (0, 200) n17 from ⟨by omega, by omega⟩), (show inb (0, 5) n12 from ⟨by omega, by omega⟩), (show inb (0, 200) n14 from ⟨by omega, by omega⟩), (show inb (0, 200) n15 from ⟨by omega, by omega⟩), (show (iv 12 34).toInt ≤ (n17 : Int32).toInt from by omega), (show ∀ j : Nat, j ≠ k.toNatClampNeg → f1 j = (fa 12 26) j ∧ (fa 12 27) j = (fa 12 27) j ∧ n7 j = (fa 12 28) j from fun j hj => ⟨(by rw [ef1, upd_ne hj]), rfl, (xr6_1 j hj)⟩), (show ((n12 : Int32).toInt ≠ 0 ∨ gd3 (f1 k.toNatClampNeg) ((fa 12 27) k.toNatClampNeg) (n7 k.toNatClampNeg)) from Or.inl (by omega)), (show ∀ j : Nat, j ≠ k.toNatClampNeg → n8 j = (fa 12 29) j ∧ n9 j = (fa 12 30) j from fun j hj => ⟨((xr6_2 j hj)), (((xr6_3 j hj).trans (by rw [ef2, upd_ne (show j ≠ k.toNatClampNeg from hj)])))⟩), (show ∀ j : Nat, (j : Int) < 8 * (k).toInt → n10 j = (fa 12 31) j from xr6_4), (show f1 ((k).toInt).toNat = 2 from (by rw [ef1]; exact upd_eq)), (show (((n12 : Int32).toInt ≠ 0 ∧ ∃ (b kd v1 v2 : Int) (wd : Nat → Int), NamR (fun j => sg ((fa 12 32) j).toInt) ((iv 12 33) : Int32).toInt (iv 12 34).toInt (n12 : Int32).toInt (n13 : Int32).toInt b kd v1 v2 wd) ∨ ((n12 : Int32).toInt = 0 ∧ (n13 : Int32).toInt = (iv 12 36).toInt ∧ NamR (fun j => sg ((fa 12 32) j).toInt) ((iv 12 33) : Int32).toInt (iv 12 34).toInt 0 0 (n17 : Int32).toInt 6 (n7 ((k).toInt).toNat).toInt (n8 ((k).toInt).toNat).toInt (fun j => if (j : Int) < (n9 ((k).toInt).toNat).toInt then (n10 (8 * ((k).toInt).toNat + j)).toInt else 0))) from (by
                    rcases xr6_5 with ⟨yn1q, b, v1, v2, wd, yn2q⟩ | ⟨yn1q, yn2q, yn3q⟩
                    · have hF : (n12 : Int32).toInt = (n12 : Int32).toInt := by omega
                      have hP9 : (n13 : Int32).toInt = (n13 : Int32).toInt := by omega
                      rw [hF, hP9]; exact Or.inl ⟨by omega, 0, 0, v1, v2, wd, NmP_bad (by omega) yn2q⟩
                    · exfalso; omega)), rfl⟩, by rw [ht9]; exact hP9, hD9⟩, hS.F ht9⟩) hS.2.2 dX12_readClause_295
            · exact absurd rfl c26
      · exact absurd c5 (by decide)
    · exact absurd c4 (by decide)
  · exact absurd c3 (by decide)
set_option maxHeartbeats 4000000 in
set_option maxRecDepth 100000 in
/-- X12_readClause -/
theorem c_X12_readClause_r3 (l : Launch) (dC : Nat → ClassId) (dI : Nat → Nat → Nat) (sz : Nat) (h : Nat) (g : Nat → Nat → Nat) (ca : Nat → Nat → ClassId) (iv : Nat → Nat → Int32) (lv : Nat → Nat → Int64) (fa : Nat → Nat → Nat → Int32) (la : Nat → Nat → Nat → Int64) (hI : IX iv fa) (k : Int32) (q_12_35 : 0 ≤ (iv 12 35).toInt ∧ (iv 12 35).toInt ≤ 0) (h_k : 0 ≤ k.toInt ∧ k.toInt ≤ 95) (hJT : ∀ j : Nat, 0 ≤ (fa 12 32 j).toInt) : Met l yX12_readClause (wc yX12_readClause cX12_readClause 4 none) ({ frames := 2, cells := 0, slots := 0, locals := 50 } : Room) (pW (dC, dI) classes (WM h g ca iv lv fa la) (TM ca) sz [.ref h, .int 3, .int k]) (va_Qv (fun (u : SS) => ∃ (na_12_26 : Nat → Int32) (na_12_28 : Nat → Int32) (na_12_30 : Nat → Int32) (ni_12_34 : Int32) (ni_12_35 : Int32) (ni_12_36 : Int32) (ni_12_37 : Int32), (∀ j, inb (bA 12 30 j) (na_12_30 j)) ∧ inb (bI 12 34) ni_12_34 ∧ inb (bI 12 35) ni_12_35 ∧ inb (bI 12 37) ni_12_37 ∧ ((iv 12 34).toInt ≤ (ni_12_34).toInt) ∧ (∀ j : Nat, j ≠ k.toNatClampNeg → na_12_26 j = (fa 12 26) j ∧ (fa 12 27) j = (fa 12 27) j ∧ na_12_28 j = (fa 12 28) j) ∧ (((ni_12_35).toInt ≠ 0 ∨ gd3 (na_12_26 k.toNatClampNeg) ((fa 12 27) k.toNatClampNeg) (na_12_28 k.toNatClampNeg))) ∧ (∀ j : Nat, j ≠ k.toNatClampNeg → (fa 12 29) j = (fa 12 29) j ∧ na_12_30 j = (fa 12 30) j) ∧ (∀ j : Nat, (j : Int) < 8 * k.toInt → (fa 12 31) j = (fa 12 31) j) ∧ (na_12_26 (k.toInt).toNat = 3) ∧ ((((ni_12_35).toInt ≠ 0 ∧ ∃ b kd v1 : Int, StrR (fun j => sg ((fa 12 32) j).toInt) (iv 12 33).toInt (iv 12 23).toInt (iv 12 34).toInt (ni_12_35).toInt (ni_12_36).toInt b kd v1) ∨ ((ni_12_35).toInt = 0 ∧ (ni_12_36).toInt = (iv 12 36).toInt ∧ StrR (fun j => sg ((fa 12 32) j).toInt) (iv 12 33).toInt (iv 12 23).toInt (iv 12 34).toInt 0 0 (ni_12_34).toInt 7 (na_12_28 (k.toInt).toNat).toInt))) ∧ u = ((u2 (u2 (u2 (u2 iv 12 34 ni_12_34) 12 35 ni_12_35) 12 36 ni_12_36) 12 37 ni_12_37), lv, (u2 (u2 (u2 fa 12 26 na_12_26) 12 28 na_12_28) 12 30 na_12_30), la)) (bM (dC, dI) h g ca (va_A (WM h g ca iv lv fa la) sz)) (va_A (WM h g ca iv lv fa la) sz)) 0 0 (va_A (WM h g ca iv lv fa la) sz) := by
  refine Met.ofW (cc := cX12_readClause) (maxL := 4) (ret := none) (by decide) rfl ?_
  intro p e s m args below meth c s₁ B hml hv
  obtain ⟨rfl, hsz, hP, hK, hD0⟩ := hv
  have hx := B.exec
  have hb := B.bytes
  have hr := B.returns
  have ht := tb_tl (atoms_spec (ws := wc yX12_readClause cX12_readClause 4 none) B.pre)
  have hown : s.vm.findClass RX12 = some m.cls := findClass_of_methodNamed B.named
  have hlocks := B.notSynchronized
  subst hsz
  have hD := hD0.self (sz := s.heap.size)
  generalize hAe : va_A (WM h g ca iv lv fa la) s.heap.size = A at hD ⊢
  have hA : ∀ q : Nat, s.heap.size ≤ q → A q := fun q h => by rw [← hAe]; exact Or.inr h
  have hS : va_S A s.heap s.heap [] := va_S.rf
  have hl := lv_entry [.ref h, .int 3, .int k] (n := 4) (Nat.le_of_ble_eq_true rfl)
  rw [lg_entry_eq]
  generalize (lg_sl [.ref h, .int 3, .int k] ++ List.replicate (4 - (lg_sl [.ref h, .int 3, .int k]).length) Slot.unset).toArray = ls at hl ⊢
  have hl : lv_has ls 4 [(0, .ref h), (1, .int 3), (2, .int k)] := hl
  refine lv_aload_n hx hb dX12_readClause_0 rfl (lv_at hl 0 rfl) ?_
  refine gM_12_26 hx hb ht hown hK hP m_1165 dX12_readClause_1 ?_
  refine lv_iload_n hx hb dX12_readClause_4 rfl (lv_at hl 2 rfl) ?_
  refine lv_iload_n hx hb dX12_readClause_5 rfl (lv_at hl 1 rfl) ?_
  refine tM_12_26 hx hb hK hP hD hS (f0 := (fa 12 26)) rfl (i := k) (x := 3) (vp_in_iff.mpr ⟨by omega, by omega⟩) dX12_readClause_6 (fun f1 ef1 H locs hP hD hS => ?_)
  have hf1 : ∀ j, inb (bA 12 26 j) (f1 j) := fun j => full_i _
  refine lv_aload_n hx hb dX12_readClause_7 rfl (lv_at hl 0 rfl) ?_
  refine gM_12_30 hx hb ht hown hK hP m_1169 dX12_readClause_8 ?_
  refine lv_iload_n hx hb dX12_readClause_11 rfl (lv_at hl 2 rfl) ?_
  refine lv_iconst (v := 0) hx hb dX12_readClause_12 (by decide) ?_
  refine tM_12_30 hx hb hK hP hD hS (f0 := (fa 12 30)) rfl (i := k) (x := 0) (vp_in_iff.mpr ⟨by omega, by omega⟩) dX12_readClause_13 (fun f2 ef2 H locs hP hD hS => ?_)
  have hf2 : ∀ j, inb (bA 12 30 j) (f2 j) := by rw [ef2]; exact upd_b (b := bA 12 30) (hI.2 12 30) (show inb (0, 8) 0 from ⟨by decide, by decide⟩)
  refine lv_iload_n hx hb dX12_readClause_14 rfl (lv_at hl 1 rfl) ?_
  refine lv_if_ne (tgt := 89) hx hb dX12_readClause_15 (by decide) (fun c3 => ?_) (fun c3 => ?_)
  · skip
    refine lv_iload_n hx hb dX12_readClause_89 rfl (lv_at hl 1 rfl) ?_
    refine lv_iconst (v := 1) hx hb dX12_readClause_90 (by decide) ?_
    refine lv_icmp_ne (tgt := 202) hx hb dX12_readClause_91 (by decide) (fun c4 => ?_) (fun c4 => ?_)
    · skip
      refine lv_iload_n hx hb dX12_readClause_202 rfl (lv_at hl 1 rfl) ?_
      refine lv_iconst (v := 3) hx hb dX12_readClause_203 (by decide) ?_
      refine lv_icmp_ne (tgt := 252) hx hb dX12_readClause_204 (by decide) (fun c5 => ?_) (fun c5 => ?_)
      · exact absurd rfl c5
      · skip
        refine lv_aload_n hx hb dX12_readClause_207 rfl (lv_at hl 0 rfl) ?_
        refine gM_12_28 hx hb ht hown hK hP m_1167 dX12_readClause_208 ?_
        refine lv_iload_n hx hb dX12_readClause_211 rfl (lv_at hl 2 rfl) ?_
        refine lv_aload_n hx hb dX12_readClause_212 rfl (lv_at hl 0 rfl) ?_
        refine lv_iconst (v := 0) hx hb dX12_readClause_213 (by decide) ?_
        refine lv_sipush (v := 9999) hx hb dX12_readClause_214 (by decide) ?_
        have i_12_35 : 0 ≤ (iv 12 35).toInt ∧ (iv 12 35).toInt ≤ 5 := hI.1 12 35
        have i_12_34 : 0 ≤ (iv 12 34).toInt ∧ (iv 12 34).toInt ≤ 200 := hI.1 12 34
        have hFc := free_all hD hS hA
        refine va_calli (va_runV (As := [.int 0, .int 9999]) (rest := [.int k, .ref (g 12 28)]) ⟨hx, hb, hml, hown, ht⟩ (c_X12_takeNumber_r l dC dI H.size h g ca iv lv (u2 (u2 fa 12 26 f1) 12 30 f2) la (IX_a (c := 12) (k := 30) (IX_a (c := 12) (k := 26) hI hf1) hf2) 0 9999 (show 0 ≤ ((iv 12 35) : Int32).toInt ∧ ((iv 12 35) : Int32).toInt ≤ 0 from ⟨by omega, by omega⟩) hJT) (kV 2 ht m_1490 m_1492 m_53 m_89 m_1493 rfl rfl hd_X12_takeNumber_v ⟨Nat.le_of_ble_eq_true rfl, Nat.le_of_ble_eq_true rfl⟩) (vW hP hK hD (rM_12 hK hP)) rfl rfl hl.1 rfl (lv_room (Nat.le_of_ble_eq_true rfl)) dX12_readClause_217 ⟨Nat.le_of_ble_eq_true rfl, Nat.le_of_ble_eq_true rfl⟩) hS (fun q _ h => hFc q h) hFc (fun r6 u t H1 locs ht9 hvm hr6 hB hz1 hk1 hS => ?_)
        obtain ⟨n7, n8, n9, n10, hn7, hn8, hn10, xr6_0, xr6_1, xr6_2, xr6_3, hr6, rfl⟩ := hr6
        have hn7 : 0 ≤ n7.toInt ∧ n7.toInt ≤ 200 := hn7
        have hn8 : 0 ≤ n8.toInt ∧ n8.toInt ≤ 5 := hn8
        have hn10 : 0 ≤ n10.toInt ∧ n10.toInt ≤ 200 := hn10
        obtain ⟨hP, hD⟩ := hB
        rw [ht9] at hP
        generalize H1 = H at hP hS ⊢
        have hP : va_P (dC, dI) classes (WM h g ca (u2 (u2 (u2 (u2 iv 12 34 n7) 12 35 n8) 12 36 n9) 12 37 n10) lv (u2 (u2 fa 12 26 f1) 12 30 f2) la) H := hP
        have hD : va_D A (WM h g ca (u2 (u2 (u2 (u2 iv 12 34 n7) 12 35 n8) 12 36 n9) 12 37 n10) lv (u2 (u2 fa 12 26 f1) 12 30 f2) la) := (show va_D _ (WM h g ca (u2 (u2 (u2 (u2 iv 12 34 n7) 12 35 n8) 12 36 n9) 12 37 n10) lv (u2 (u2 fa 12 26 f1) 12 30 f2) la) from hD).weaken (fun _ _ _ h => hFc _ h)
        have xr6_0 : ((iv 12 34) : Int32).toInt ≤ (n7 : Int32).toInt := xr6_0
        have : (0 : Int32).toInt = 0 := (by decide)
        have : (9999 : Int32).toInt = 9999 := (by decide)
        have xr6_1 : ((n8 : Int32).toInt ≠ 0 ∨ ((0 : Int32).toInt ≤ (r6 : Int32).toInt ∧ (r6 : Int32).toInt ≤ (9999 : Int32).toInt)) := xr6_1
        have i_12_33 : 0 ≤ (iv 12 33).toInt ∧ (iv 12 33).toInt ≤ 200 := hI.1 12 33
        have xr6_2 : (((n8 : Int32).toInt ≠ 0 ∧ Num (fun j => sg ((fa 12 32) j).toInt) ((iv 12 33) : Int32).toInt (0 : Int32).toInt (9999 : Int32).toInt ((iv 12 34) : Int32).toInt (n8 : Int32).toInt (n9 : Int32).toInt 0 0) ∨ ((n8 : Int32).toInt = 0 ∧ (n9 : Int32).toInt = ((iv 12 36) : Int32).toInt ∧ Num (fun j => sg ((fa 12 32) j).toInt) ((iv 12 33) : Int32).toInt (0 : Int32).toInt (9999 : Int32).toInt ((iv 12 34) : Int32).toInt 0 0 (r6 : Int32).toInt (n7 : Int32).toInt)) := xr6_2
        have xr6_3 : Sk (fun j => sg ((fa 12 32) j).toInt) ((iv 12 33) : Int32).toInt ((iv 12 34) : Int32).toInt (n10 : Int32).toInt := xr6_3
        refine tM_12_28 hx hb hK hP hD hS (f0 := (fa 12 28)) rfl (i := k) (x := r6) (vp_in_iff.mpr ⟨by omega, by omega⟩) dX12_readClause_220 (fun f11 ef11 H locs hP hD hS => ?_)
        have hf11 : ∀ j, inb (bA 12 28 j) (f11 j) := fun j => full_i _
        refine lv_aload_n hx hb dX12_readClause_221 rfl (lv_at hl 0 rfl) ?_
        refine lv_aload_n hx hb dX12_readClause_222 rfl (lv_at hl 0 rfl) ?_
        refine gM_12_28 hx hb ht hown hK hP m_1167 dX12_readClause_223 ?_
        refine lv_iload_n hx hb dX12_readClause_226 rfl (lv_at hl 2 rfl) ?_
        refine lM_12_28 hx hb hK hP (f := f11) rfl (vp_in_iff.mpr ⟨by omega, by omega⟩) dX12_readClause_227 ?_
        refine lv_topi (fun v12 ev12 => ?_)
        refine lv_aload_n hx hb dX12_readClause_228 rfl (lv_at hl 0 rfl) ?_
        have i_12_23 : 0 ≤ (iv 12 23).toInt ∧ (iv 12 23).toInt ≤ 8 := hI.1 12 23
        refine gM_12_23 hx hb ht hown hK hP m_1162 (v := (iv 12 23)) rfl dX12_readClause_229 ?_
        refine lv_icmp_ge (tgt := 239) hx hb dX12_readClause_232 (by decide) (fun c13 => ?_) (fun c13 => ?_)
        · have fc13 := z_le (rfl : ((iv 12 23)).toInt = _) (rfl : (v12).toInt = _) c13
          refine lv_iconst (v := 0) hx hb dX12_readClause_239 (by decide) ?_
          refine lv_iconst (v := 3) hx hb dX12_readClause_240 (by decide) ?_
          refine lv_aload_n hx hb dX12_readClause_241 rfl (lv_at hl 0 rfl) ?_
          refine gM_12_37 hx hb ht hown hK hP m_1176 (v := n10) rfl dX12_readClause_242 ?_
          have hFc := free_all hD hS hA
          refine va_calli (va_runV (As := [.int 0, .int 3, .int n10]) (rest := []) ⟨hx, hb, hml, hown, ht⟩ (c_X12_want_r0 l dC dI H.size h g ca (u2 (u2 (u2 (u2 iv 12 34 n7) 12 35 n8) 12 36 n9) 12 37 n10) lv (u2 (u2 (u2 fa 12 26 f1) 12 30 f2) 12 28 f11) la (IX_a (c := 12) (k := 28) (IX_a (c := 12) (k := 30) (IX_a (c := 12) (k := 26) (IX_i (c := 12) (k := 37) (IX_i (c := 12) (k := 36) (IX_i (c := 12) (k := 35) (IX_i (c := 12) (k := 34) hI (show inb (0, 200) n7 from ⟨by omega, by omega⟩)) (show inb (0, 5) n8 from ⟨by omega, by omega⟩)) (full_i _)) (show inb (0, 200) n10 from ⟨by omega, by omega⟩)) hf1) hf2) hf11) 3 n10 ⟨by decide, by decide⟩) (kV 3 ht m_1472 m_1474 m_50 m_89 m_1475 rfl rfl hd_X12_want_v ⟨Nat.le_of_ble_eq_true rfl, Nat.le_of_ble_eq_true rfl⟩) (vW hP hK hD (rM_12 hK hP)) rfl rfl hl.1 rfl (lv_room (Nat.le_of_ble_eq_true rfl)) dX12_readClause_245 ⟨Nat.le_of_ble_eq_true rfl, Nat.le_of_ble_eq_true rfl⟩) hS (fun q _ h => hFc q h) hFc (fun r14 u t H1 locs ht9 hvm hr14 hB hz1 hk1 hS => ?_)
          obtain ⟨n15, n16, hn15, xr14_0, xr14_1, hr14, rfl⟩ := hr14
          have hn15 : 0 ≤ n15.toInt ∧ n15.toInt ≤ 5 := hn15
          obtain ⟨hP, hD⟩ := hB
          rw [ht9] at hP
          generalize H1 = H at hP hS ⊢
          have hP : va_P (dC, dI) classes (WM h g ca (u2 (u2 (u2 (u2 iv 12 34 n7) 12 35 n15) 12 36 n16) 12 37 n10) lv (u2 (u2 (u2 fa 12 26 f1) 12 30 f2) 12 28 f11) la) H := hP
          have hD : va_D A (WM h g ca (u2 (u2 (u2 (u2 iv 12 34 n7) 12 35 n15) 12 36 n16) 12 37 n10) lv (u2 (u2 (u2 fa 12 26 f1) 12 30 f2) 12 28 f11) la) := (show va_D _ (WM h g ca (u2 (u2 (u2 (u2 iv 12 34 n7) 12 35 n15) 12 36 n16) 12 37 n10) lv (u2 (u2 (u2 fa 12 26 f1) 12 30 f2) 12 28 f11) la) from hD).weaken (fun _ _ _ h => hFc _ h)
          have xr14_0 : 1 ≤ (n15 : Int32).toInt := xr14_0
          have : (3 : Int32).toInt = 3 := (by decide)
          have xr14_1 : (((n8 : Int32).toInt = 0 ∧ (n15 : Int32).toInt = (3 : Int32).toInt ∧ (n16 : Int32).toInt = (n10 : Int32).toInt) ∨ ((n8 : Int32).toInt ≠ 0 ∧ (n15 : Int32).toInt = (n8 : Int32).toInt ∧ (n16 : Int32).toInt = (n9 : Int32).toInt)) := xr14_1
          obtain rfl : 0 = r14 := hr14.symm
          refine lv_istore_n (lv' := [(3, .int 0), (0, .ref h), (1, .int 3), (2, .int k)]) hx hb dX12_readClause_248 rfl hl (by decide) rfl (fun ls hl => ?_)
          refine lv_goto (tgt := 257) hx hb dX12_readClause_249 (by decide) ?_
          refine lv_aload_n hx hb dX12_readClause_257 rfl (lv_at hl 1 rfl) ?_
          have hFc := free_all hD hS hA
          refine va_calli (va_runV (As := []) (rest := []) ⟨hx, hb, hml, hown, ht⟩ (c_X12_here_r l dC dI H.size h g ca (u2 (u2 (u2 (u2 iv 12 34 n7) 12 35 n15) 12 36 n16) 12 37 n10) lv (u2 (u2 (u2 fa 12 26 f1) 12 30 f2) 12 28 f11) la (IX_a (c := 12) (k := 28) (IX_a (c := 12) (k := 30) (IX_a (c := 12) (k := 26) (IX_i (c := 12) (k := 37) (IX_i (c := 12) (k := 36) (IX_i (c := 12) (k := 35) (IX_i (c := 12) (k := 34) hI (show inb (0, 200) n7 from ⟨by omega, by omega⟩)) (show inb (0, 5) n15 from ⟨by omega, by omega⟩)) (full_i _)) (show inb (0, 200) n10 from ⟨by omega, by omega⟩)) hf1) hf2) hf11)) (kV 0 ht m_1458 m_1460 m_47 m_89 m_1461 rfl rfl hd_X12_here_v ⟨Nat.le_of_ble_eq_true rfl, Nat.le_of_ble_eq_true rfl⟩) (vW hP hK hD (rM_12 hK hP)) rfl rfl hl.1 rfl (lv_room (Nat.le_of_ble_eq_true rfl)) dX12_readClause_258 ⟨Nat.le_of_ble_eq_true rfl, Nat.le_of_ble_eq_true rfl⟩) hS (fun q _ h => hFc q h) hFc (fun r17 u t H1 locs ht9 hvm hr17 hB hz1 hk1 hS => ?_)
          obtain ⟨n18, hn18, xr17_0, xr17_1, xr17_2, hr17, rfl⟩ := hr17
          have hn18 : 0 ≤ n18.toInt ∧ n18.toInt ≤ 200 := hn18
          obtain ⟨hP, hD⟩ := hB
          rw [ht9] at hP
          generalize H1 = H at hP hS ⊢
          have hP : va_P (dC, dI) classes (WM h g ca (u2 (u2 (u2 (u2 iv 12 34 n18) 12 35 n15) 12 36 n16) 12 37 n10) lv (u2 (u2 (u2 fa 12 26 f1) 12 30 f2) 12 28 f11) la) H := hP
          have hD : va_D A (WM h g ca (u2 (u2 (u2 (u2 iv 12 34 n18) 12 35 n15) 12 36 n16) 12 37 n10) lv (u2 (u2 (u2 fa 12 26 f1) 12 30 f2) 12 28 f11) la) := (show va_D _ (WM h g ca (u2 (u2 (u2 (u2 iv 12 34 n18) 12 35 n15) 12 36 n16) 12 37 n10) lv (u2 (u2 (u2 fa 12 26 f1) 12 30 f2) 12 28 f11) la) from hD).weaken (fun _ _ _ h => hFc _ h)
          have xr17_0 : (n7 : Int32).toInt ≤ (n18 : Int32).toInt := xr17_0
          have xr17_1 : Sk (fun j => sg ((fa 12 32) j).toInt) ((iv 12 33) : Int32).toInt (n7 : Int32).toInt (n18 : Int32).toInt := xr17_1
          have xr17_2 : (((r17 : Int32).toInt = -1 ∧ ((iv 12 33) : Int32).toInt ≤ (n18 : Int32).toInt) ∨ ((n18 : Int32).toInt < ((iv 12 33) : Int32).toInt ∧ (r17 : Int32).toInt = ((fa 12 32) ((n18 : Int32).toInt).toNat).toInt)) := xr17_2
          refine lv_istore_n (lv' := [(3, .int r17), (0, .ref h), (1, .int 3), (2, .int k)]) hx hb dX12_readClause_261 rfl hl (by decide) rfl (fun ls hl => ?_)
          refine lv_aload_n hx hb dX12_readClause_262 rfl (lv_at hl 1 rfl) ?_
          refine lv_iload_n hx hb dX12_readClause_263 rfl (lv_at hl 0 rfl) ?_
          refine lv_bipush (v := 59) hx hb dX12_readClause_264 (by decide) ?_
          refine lv_icmp_ne (tgt := 273) hx hb dX12_readClause_266 (by decide) (fun c19 => ?_) (fun c19 => ?_)
          · have fc19 := z_ne (rfl : (r17).toInt = _) (by decide : (59 : Int32).toInt = 59) c19
            refine lv_iconst (v := 0) hx hb dX12_readClause_273 (by decide) ?_
            refine lv_iconst (v := 1) hx hb dX12_readClause_274 (by decide) ?_
            refine lv_aload_n hx hb dX12_readClause_275 rfl (lv_at hl 1 rfl) ?_
            refine gM_12_34 hx hb ht hown hK hP m_1173 (v := n18) rfl dX12_readClause_276 ?_
            have hFc := free_all hD hS hA
            refine va_calli (va_runV (As := [.int 0, .int 1, .int n18]) (rest := []) ⟨hx, hb, hml, hown, ht⟩ (c_X12_want_r0 l dC dI H.size h g ca (u2 (u2 (u2 (u2 iv 12 34 n18) 12 35 n15) 12 36 n16) 12 37 n10) lv (u2 (u2 (u2 fa 12 26 f1) 12 30 f2) 12 28 f11) la (IX_a (c := 12) (k := 28) (IX_a (c := 12) (k := 30) (IX_a (c := 12) (k := 26) (IX_i (c := 12) (k := 37) (IX_i (c := 12) (k := 36) (IX_i (c := 12) (k := 35) (IX_i (c := 12) (k := 34) hI (show inb (0, 200) n18 from ⟨by omega, by omega⟩)) (show inb (0, 5) n15 from ⟨by omega, by omega⟩)) (full_i _)) (show inb (0, 200) n10 from ⟨by omega, by omega⟩)) hf1) hf2) hf11) 1 n18 ⟨by decide, by decide⟩) (kV 3 ht m_1472 m_1474 m_50 m_89 m_1475 rfl rfl hd_X12_want_v ⟨Nat.le_of_ble_eq_true rfl, Nat.le_of_ble_eq_true rfl⟩) (vW hP hK hD (rM_12 hK hP)) rfl rfl hl.1 rfl (lv_room (Nat.le_of_ble_eq_true rfl)) dX12_readClause_279 ⟨Nat.le_of_ble_eq_true rfl, Nat.le_of_ble_eq_true rfl⟩) hS (fun q _ h => hFc q h) hFc (fun r20 u t H1 locs ht9 hvm hr20 hB hz1 hk1 hS => ?_)
            obtain ⟨n21, n22, hn21, xr20_0, xr20_1, hr20, rfl⟩ := hr20
            have hn21 : 0 ≤ n21.toInt ∧ n21.toInt ≤ 5 := hn21
            obtain ⟨hP, hD⟩ := hB
            rw [ht9] at hP
            generalize H1 = H at hP hS ⊢
            have hP : va_P (dC, dI) classes (WM h g ca (u2 (u2 (u2 (u2 iv 12 34 n18) 12 35 n21) 12 36 n22) 12 37 n10) lv (u2 (u2 (u2 fa 12 26 f1) 12 30 f2) 12 28 f11) la) H := hP
            have hD : va_D A (WM h g ca (u2 (u2 (u2 (u2 iv 12 34 n18) 12 35 n21) 12 36 n22) 12 37 n10) lv (u2 (u2 (u2 fa 12 26 f1) 12 30 f2) 12 28 f11) la) := (show va_D _ (WM h g ca (u2 (u2 (u2 (u2 iv 12 34 n18) 12 35 n21) 12 36 n22) 12 37 n10) lv (u2 (u2 (u2 fa 12 26 f1) 12 30 f2) 12 28 f11) la) from hD).weaken (fun _ _ _ h => hFc _ h)
            have xr20_0 : 1 ≤ (n21 : Int32).toInt := xr20_0
            have : (1 : Int32).toInt = 1 := (by decide)
            have xr20_1 : (((n15 : Int32).toInt = 0 ∧ (n21 : Int32).toInt = (1 : Int32).toInt ∧ (n22 : Int32).toInt = (n18 : Int32).toInt) ∨ ((n15 : Int32).toInt ≠ 0 ∧ (n21 : Int32).toInt = (n15 : Int32).toInt ∧ (n22 : Int32).toInt = (n16 : Int32).toInt)) := xr20_1
            obtain rfl : 0 = r20 := hr20.symm
            refine lv_if_eq (tgt := 295) hx hb dX12_readClause_282 (by decide) (fun c23 => ?_) (fun c23 => ?_)
            · skip
              have hP9 : va_P (dC, dI) classes (WM h g ca (u2 (u2 (u2 (u2 iv 12 34 n18) 12 35 n21) 12 36 n22) 12 37 n10) lv (u2 (u2 (u2 fa 12 26 f1) 12 28 f11) 12 30 f2) la) H := hP
              have hD9 : va_D A (WM h g ca (u2 (u2 (u2 (u2 iv 12 34 n18) 12 35 n21) 12 36 n22) 12 37 n10) lv (u2 (u2 (u2 fa 12 26 f1) 12 28 f11) 12 30 f2) la) := hD
              exact W.vret hx hb hr (fun t ht9 hW => ⟨⟨((u2 (u2 (u2 (u2 iv 12 34 n18) 12 35 n21) 12 36 n22) 12 37 n10), lv, (u2 (u2 (u2 fa 12 26 f1) 12 28 f11) 12 30 f2), la), rfl, ⟨f1, f11, f2, n18, n21, n22, n10, hf2, (show inb (0, 200) n18 from ⟨by omega, by omega⟩), (show inb (0, 5) n21 from ⟨by omega, by omega⟩), (show inb (0, 200) n10 from ⟨by omega, by omega⟩), (show (iv 12 34).toInt ≤ (n18 : Int32).toInt from by omega), (show ∀ j : Nat, j ≠ k.toNatClampNeg → f1 j = (fa 12 26) j ∧ (fa 12 27) j = (fa 12 27) j ∧ f11 j = (fa 12 28) j from fun j hj => ⟨(by rw [ef1, upd_ne hj]), rfl, (by rw [ef11, upd_ne hj])⟩), (show ((n21 : Int32).toInt ≠ 0 ∨ gd3 (f1 k.toNatClampNeg) ((fa 12 27) k.toNatClampNeg) (f11 k.toNatClampNeg)) from (by
                    have kc : (3 : Int32).toInt = 3 := by decide
                    have kE : f1 k.toNatClampNeg = 3 := by rw [ef1]; exact upd_eq
                    have fE : f11 k.toNatClampNeg = r6 := by rw [ef11]; exact upd_eq
                    have := congrArg Int32.toInt (ev12.trans fE)
                    by_cases h0 : (n21 : Int32).toInt = 0
                    · refine Or.inr ?_; rw [kE, fE]; unfold gd3; exact ⟨fun h => by omega, fun h h2 => by omega⟩
                    · exact Or.inl h0)), (show ∀ j : Nat, j ≠ k.toNatClampNeg → (fa 12 29) j = (fa 12 29) j ∧ f2 j = (fa 12 30) j from fun j hj => ⟨(rfl), (by rw [ef2, upd_ne (show j ≠ k.toNatClampNeg from hj)])⟩), (show ∀ j : Nat, (j : Int) < 8 * (k).toInt → (fa 12 31) j = (fa 12 31) j from fun j hj => rfl), (show f1 ((k).toInt).toNat = 3 from (by rw [ef1]; exact upd_eq)), (show (((n21 : Int32).toInt ≠ 0 ∧ ∃ b kd v1 : Int, StrR (fun j => sg ((fa 12 32) j).toInt) ((iv 12 33) : Int32).toInt (iv 12 23).toInt (iv 12 34).toInt (n21 : Int32).toInt (n22 : Int32).toInt b kd v1) ∨ ((n21 : Int32).toInt = 0 ∧ (n22 : Int32).toInt = (iv 12 36).toInt ∧ StrR (fun j => sg ((fa 12 32) j).toInt) ((iv 12 33) : Int32).toInt (iv 12 23).toInt (iv 12 34).toInt 0 0 (n18 : Int32).toInt 7 (f11 ((k).toInt).toNat).toInt)) from (by
                    have hE28 : f11 (k.toInt).toNat = r6 := (by rw [ef11]; exact upd_eq)
                    have hl := congrArg Int32.toInt (ev12.trans (show f11 k.toNatClampNeg = r6 from hE28))
                    have hg := sg_i (fa 12 32 ((n18 : Int32).toInt).toNat).toInt
                    have hS9 : (n15 : Int32).toInt = 0 → StpR (fun j => sg (fa 12 32 j).toInt) (iv 12 33).toInt (n7 : Int32).toInt (n21 : Int32).toInt (n22 : Int32).toInt 0 := fun h0 => ⟨_, xr17_1, Or.inl ⟨fun q => (by have q2 : sg (fa 12 32 ((n18 : Int32).toInt).toNat).toInt = 59 := q.2; omega), by omega, by omega⟩⟩
                    rcases xr6_2 with ⟨yn1q, yn2q⟩ | ⟨yn1q, yn2q, yn3q⟩
                    · exact Or.inl ⟨by omega, 0, 0, 0, _, _, _, yn2q, Or.inl ⟨by omega, by omega, by omega⟩⟩
                    · have hF : (n22 : Int32).toInt = (n10 : Int32).toInt := by omega
                      exact Or.inl ⟨by omega, 0, 0, _, _, _, _, yn3q, Or.inr (Or.inl ⟨rfl, by omega, by omega, (by rw [hF]; exact xr6_3)⟩)⟩)), rfl⟩, by rw [ht9]; exact hP9, hD9⟩, hS.F ht9⟩) hS.2.2 dX12_readClause_295
            · exact absurd rfl c23
          · have fc19 := z_eq (rfl : (r17).toInt = _) (by decide : (59 : Int32).toInt = 59) c19
            refine lv_iconst (v := 1) hx hb dX12_readClause_269 (by decide) ?_
            refine lv_goto (tgt := 274) hx hb dX12_readClause_270 (by decide) ?_
            refine lv_iconst (v := 1) hx hb dX12_readClause_274 (by decide) ?_
            refine lv_aload_n hx hb dX12_readClause_275 rfl (lv_at hl 1 rfl) ?_
            refine gM_12_34 hx hb ht hown hK hP m_1173 (v := n18) rfl dX12_readClause_276 ?_
            refine vp_callSi (W.runV (As := [.int 1, .int 1, .int n18]) (rest := []) ⟨hx, hb, hml, hown, ht⟩ (c_X12_want_1 l dC dI h g ca (u2 (u2 (u2 (u2 iv 12 34 n18) 12 35 n15) 12 36 n16) 12 37 n10) lv (u2 (u2 (u2 fa 12 26 f1) 12 30 f2) 12 28 f11) la (IX_a (c := 12) (k := 28) (IX_a (c := 12) (k := 30) (IX_a (c := 12) (k := 26) (IX_i (c := 12) (k := 37) (IX_i (c := 12) (k := 36) (IX_i (c := 12) (k := 35) (IX_i (c := 12) (k := 34) hI (show inb (0, 200) n18 from ⟨by omega, by omega⟩)) (show inb (0, 5) n15 from ⟨by omega, by omega⟩)) (full_i _)) (show inb (0, 200) n10 from ⟨by omega, by omega⟩)) hf1) hf2) hf11) 1 n18) (kV 3 ht m_1472 m_1474 m_50 m_89 m_1475 rfl rfl hd_X12_want_v ⟨Nat.le_of_ble_eq_true rfl, Nat.le_of_ble_eq_true rfl⟩) (vR hP hK (rM_12 hK hP)) rfl rfl hl.1 rfl (lv_room (Nat.le_of_ble_eq_true rfl)) dX12_readClause_279 ⟨Nat.le_of_ble_eq_true rfl, Nat.le_of_ble_eq_true rfl⟩) (fun r24 hr24 => ?_)
            rcases hr24 with ⟨rfl, fr24⟩ | ⟨rfl, fr24⟩
            · skip
              have fr24 : ((n15 : Int32).toInt = 0) := fr24
              refine lv_if_eq (tgt := 295) hx hb dX12_readClause_282 (by decide) (fun c25 => ?_) (fun c25 => ?_)
              · exact absurd c25 (by decide)
              · skip
                refine lv_aload_n hx hb dX12_readClause_285 rfl (lv_at hl 1 rfl) ?_
                refine lv_dup hx hb dX12_readClause_286 rfl ?_
                refine gM_12_34 hx hb ht hown hK hP m_1173 (v := n18) rfl dX12_readClause_287 ?_
                refine lv_iconst (v := 1) hx hb dX12_readClause_290 (by decide) ?_
                refine lv_iadd hx hb dX12_readClause_291 ?_
                refine lv_topi (fun v26 ev26 => ?_)
                have tv26 := z_add ev26 (rfl : (n18).toInt = _) (by decide : (1 : Int32).toInt = 1) (by omega) (by omega)
                have : 0 ≤ (v26 : Int32).toInt ∧ (v26 : Int32).toInt ≤ 200 := ⟨by omega, by omega⟩
                refine pM_12_34 (v := v26) hx hb ht hown hK hP hD hS m_1173 dX12_readClause_292 (fun H locs hP hD hS => ?_)
                have hP : va_P (dC, dI) classes (WM h g ca (u2 (u2 (u2 (u2 iv 12 34 v26) 12 35 n15) 12 36 n16) 12 37 n10) lv (u2 (u2 (u2 fa 12 26 f1) 12 30 f2) 12 28 f11) la) H := hP
                have hD : va_D A (WM h g ca (u2 (u2 (u2 (u2 iv 12 34 v26) 12 35 n15) 12 36 n16) 12 37 n10) lv (u2 (u2 (u2 fa 12 26 f1) 12 30 f2) 12 28 f11) la) := hD
                have hP9 : va_P (dC, dI) classes (WM h g ca (u2 (u2 (u2 (u2 iv 12 34 v26) 12 35 n15) 12 36 n16) 12 37 n10) lv (u2 (u2 (u2 fa 12 26 f1) 12 28 f11) 12 30 f2) la) H := hP
                have hD9 : va_D A (WM h g ca (u2 (u2 (u2 (u2 iv 12 34 v26) 12 35 n15) 12 36 n16) 12 37 n10) lv (u2 (u2 (u2 fa 12 26 f1) 12 28 f11) 12 30 f2) la) := hD
                exact W.vret hx hb hr (fun t ht9 hW => ⟨⟨((u2 (u2 (u2 (u2 iv 12 34 v26) 12 35 n15) 12 36 n16) 12 37 n10), lv, (u2 (u2 (u2 fa 12 26 f1) 12 28 f11) 12 30 f2), la), rfl, ⟨f1, f11, f2, v26, n15, n16, n10, hf2, (show inb (0, 200) v26 from ⟨by omega, by omega⟩), (show inb (0, 5) n15 from ⟨by omega, by omega⟩), (show inb (0, 200) n10 from ⟨by omega, by omega⟩), (show (iv 12 34).toInt ≤ (v26 : Int32).toInt from by omega), (show ∀ j : Nat, j ≠ k.toNatClampNeg → f1 j = (fa 12 26) j ∧ (fa 12 27) j = (fa 12 27) j ∧ f11 j = (fa 12 28) j from fun j hj => ⟨(by rw [ef1, upd_ne hj]), rfl, (by rw [ef11, upd_ne hj])⟩), (show ((n15 : Int32).toInt ≠ 0 ∨ gd3 (f1 k.toNatClampNeg) ((fa 12 27) k.toNatClampNeg) (f11 k.toNatClampNeg)) from (by
                      have kc : (3 : Int32).toInt = 3 := by decide
                      have kE : f1 k.toNatClampNeg = 3 := by rw [ef1]; exact upd_eq
                      have fE : f11 k.toNatClampNeg = r6 := by rw [ef11]; exact upd_eq
                      have := congrArg Int32.toInt (ev12.trans fE)
                      by_cases h0 : (n15 : Int32).toInt = 0
                      · refine Or.inr ?_; rw [kE, fE]; unfold gd3; exact ⟨fun h => by omega, fun h h2 => by omega⟩
                      · exact Or.inl h0)), (show ∀ j : Nat, j ≠ k.toNatClampNeg → (fa 12 29) j = (fa 12 29) j ∧ f2 j = (fa 12 30) j from fun j hj => ⟨(rfl), (by rw [ef2, upd_ne (show j ≠ k.toNatClampNeg from hj)])⟩), (show ∀ j : Nat, (j : Int) < 8 * (k).toInt → (fa 12 31) j = (fa 12 31) j from fun j hj => rfl), (show f1 ((k).toInt).toNat = 3 from (by rw [ef1]; exact upd_eq)), (show (((n15 : Int32).toInt ≠ 0 ∧ ∃ b kd v1 : Int, StrR (fun j => sg ((fa 12 32) j).toInt) ((iv 12 33) : Int32).toInt (iv 12 23).toInt (iv 12 34).toInt (n15 : Int32).toInt (n16 : Int32).toInt b kd v1) ∨ ((n15 : Int32).toInt = 0 ∧ (n16 : Int32).toInt = (iv 12 36).toInt ∧ StrR (fun j => sg ((fa 12 32) j).toInt) ((iv 12 33) : Int32).toInt (iv 12 23).toInt (iv 12 34).toInt 0 0 (v26 : Int32).toInt 7 (f11 ((k).toInt).toNat).toInt)) from (by
                      have hE28 : f11 (k.toInt).toNat = r6 := (by rw [ef11]; exact upd_eq)
                      have hl := congrArg Int32.toInt (ev12.trans (show f11 k.toNatClampNeg = r6 from hE28))
                      have hg := sg_i (fa 12 32 ((n18 : Int32).toInt).toNat).toInt
                      have hS9 : StpR (fun j => sg (fa 12 32 j).toInt) (iv 12 33).toInt (n7 : Int32).toInt 0 0 (v26 : Int32).toInt := ⟨_, xr17_1, Or.inr ⟨⟨by omega, (show sg (fa 12 32 ((n18 : Int32).toInt).toNat).toInt = 59 from by omega)⟩, rfl, by omega⟩⟩
                      rcases xr6_2 with ⟨yn1q, yn2q⟩ | ⟨yn1q, yn2q, yn3q⟩
                      · exfalso; omega
                      · exfalso; omega)), rfl⟩, by rw [ht9]; exact hP9, hD9⟩, hS.F ht9⟩) hS.2.2 dX12_readClause_295
            · skip
              have fr24 : ¬ ((n15 : Int32).toInt = 0) := fr24
              refine lv_if_eq (tgt := 295) hx hb dX12_readClause_282 (by decide) (fun c27 => ?_) (fun c27 => ?_)
              · skip
                have hP9 : va_P (dC, dI) classes (WM h g ca (u2 (u2 (u2 (u2 iv 12 34 n18) 12 35 n15) 12 36 n16) 12 37 n10) lv (u2 (u2 (u2 fa 12 26 f1) 12 28 f11) 12 30 f2) la) H := hP
                have hD9 : va_D A (WM h g ca (u2 (u2 (u2 (u2 iv 12 34 n18) 12 35 n15) 12 36 n16) 12 37 n10) lv (u2 (u2 (u2 fa 12 26 f1) 12 28 f11) 12 30 f2) la) := hD
                exact W.vret hx hb hr (fun t ht9 hW => ⟨⟨((u2 (u2 (u2 (u2 iv 12 34 n18) 12 35 n15) 12 36 n16) 12 37 n10), lv, (u2 (u2 (u2 fa 12 26 f1) 12 28 f11) 12 30 f2), la), rfl, ⟨f1, f11, f2, n18, n15, n16, n10, hf2, (show inb (0, 200) n18 from ⟨by omega, by omega⟩), (show inb (0, 5) n15 from ⟨by omega, by omega⟩), (show inb (0, 200) n10 from ⟨by omega, by omega⟩), (show (iv 12 34).toInt ≤ (n18 : Int32).toInt from by omega), (show ∀ j : Nat, j ≠ k.toNatClampNeg → f1 j = (fa 12 26) j ∧ (fa 12 27) j = (fa 12 27) j ∧ f11 j = (fa 12 28) j from fun j hj => ⟨(by rw [ef1, upd_ne hj]), rfl, (by rw [ef11, upd_ne hj])⟩), (show ((n15 : Int32).toInt ≠ 0 ∨ gd3 (f1 k.toNatClampNeg) ((fa 12 27) k.toNatClampNeg) (f11 k.toNatClampNeg)) from Or.inl (by omega)), (show ∀ j : Nat, j ≠ k.toNatClampNeg → (fa 12 29) j = (fa 12 29) j ∧ f2 j = (fa 12 30) j from fun j hj => ⟨(rfl), (by rw [ef2, upd_ne (show j ≠ k.toNatClampNeg from hj)])⟩), (show ∀ j : Nat, (j : Int) < 8 * (k).toInt → (fa 12 31) j = (fa 12 31) j from fun j hj => rfl), (show f1 ((k).toInt).toNat = 3 from (by rw [ef1]; exact upd_eq)), (show (((n15 : Int32).toInt ≠ 0 ∧ ∃ b kd v1 : Int, StrR (fun j => sg ((fa 12 32) j).toInt) ((iv 12 33) : Int32).toInt (iv 12 23).toInt (iv 12 34).toInt (n15 : Int32).toInt (n16 : Int32).toInt b kd v1) ∨ ((n15 : Int32).toInt = 0 ∧ (n16 : Int32).toInt = (iv 12 36).toInt ∧ StrR (fun j => sg ((fa 12 32) j).toInt) ((iv 12 33) : Int32).toInt (iv 12 23).toInt (iv 12 34).toInt 0 0 (n18 : Int32).toInt 7 (f11 ((k).toInt).toNat).toInt)) from (by
                      have hE28 : f11 (k.toInt).toNat = r6 := (by rw [ef11]; exact upd_eq)
                      have hl := congrArg Int32.toInt (ev12.trans (show f11 k.toNatClampNeg = r6 from hE28))
                      rcases xr6_2 with ⟨yn1q, yn2q⟩ | ⟨yn1q, yn2q, yn3q⟩
                      · exact Or.inl ⟨by omega, 0, 0, 0, _, _, _, yn2q, Or.inl ⟨by omega, by omega, by omega⟩⟩
                      · have hF : (n16 : Int32).toInt = (n10 : Int32).toInt := by omega
                        exact Or.inl ⟨by omega, 0, 0, _, _, _, _, yn3q, Or.inr (Or.inl ⟨rfl, by omega, by omega, (by rw [hF]; exact xr6_3)⟩)⟩)), rfl⟩, by rw [ht9]; exact hP9, hD9⟩, hS.F ht9⟩) hS.2.2 dX12_readClause_295
              · exact absurd rfl c27
        · have fc13 := z_nle (rfl : ((iv 12 23)).toInt = _) (rfl : (v12).toInt = _) c13
          refine lv_iconst (v := 1) hx hb dX12_readClause_235 (by decide) ?_
          refine lv_goto (tgt := 240) hx hb dX12_readClause_236 (by decide) ?_
          refine lv_iconst (v := 3) hx hb dX12_readClause_240 (by decide) ?_
          refine lv_aload_n hx hb dX12_readClause_241 rfl (lv_at hl 0 rfl) ?_
          refine gM_12_37 hx hb ht hown hK hP m_1176 (v := n10) rfl dX12_readClause_242 ?_
          refine vp_callSi (W.runV (As := [.int 1, .int 3, .int n10]) (rest := []) ⟨hx, hb, hml, hown, ht⟩ (c_X12_want_1 l dC dI h g ca (u2 (u2 (u2 (u2 iv 12 34 n7) 12 35 n8) 12 36 n9) 12 37 n10) lv (u2 (u2 (u2 fa 12 26 f1) 12 30 f2) 12 28 f11) la (IX_a (c := 12) (k := 28) (IX_a (c := 12) (k := 30) (IX_a (c := 12) (k := 26) (IX_i (c := 12) (k := 37) (IX_i (c := 12) (k := 36) (IX_i (c := 12) (k := 35) (IX_i (c := 12) (k := 34) hI (show inb (0, 200) n7 from ⟨by omega, by omega⟩)) (show inb (0, 5) n8 from ⟨by omega, by omega⟩)) (full_i _)) (show inb (0, 200) n10 from ⟨by omega, by omega⟩)) hf1) hf2) hf11) 3 n10) (kV 3 ht m_1472 m_1474 m_50 m_89 m_1475 rfl rfl hd_X12_want_v ⟨Nat.le_of_ble_eq_true rfl, Nat.le_of_ble_eq_true rfl⟩) (vR hP hK (rM_12 hK hP)) rfl rfl hl.1 rfl (lv_room (Nat.le_of_ble_eq_true rfl)) dX12_readClause_245 ⟨Nat.le_of_ble_eq_true rfl, Nat.le_of_ble_eq_true rfl⟩) (fun r28 hr28 => ?_)
          rcases hr28 with ⟨rfl, fr28⟩ | ⟨rfl, fr28⟩
          · skip
            have fr28 : ((n8 : Int32).toInt = 0) := fr28
            refine lv_istore_n (lv' := [(3, .int 1), (0, .ref h), (1, .int 3), (2, .int k)]) hx hb dX12_readClause_248 rfl hl (by decide) rfl (fun ls hl => ?_)
            refine lv_goto (tgt := 257) hx hb dX12_readClause_249 (by decide) ?_
            refine lv_aload_n hx hb dX12_readClause_257 rfl (lv_at hl 1 rfl) ?_
            have hFc := free_all hD hS hA
            refine va_calli (va_runV (As := []) (rest := []) ⟨hx, hb, hml, hown, ht⟩ (c_X12_here_r l dC dI H.size h g ca (u2 (u2 (u2 (u2 iv 12 34 n7) 12 35 n8) 12 36 n9) 12 37 n10) lv (u2 (u2 (u2 fa 12 26 f1) 12 30 f2) 12 28 f11) la (IX_a (c := 12) (k := 28) (IX_a (c := 12) (k := 30) (IX_a (c := 12) (k := 26) (IX_i (c := 12) (k := 37) (IX_i (c := 12) (k := 36) (IX_i (c := 12) (k := 35) (IX_i (c := 12) (k := 34) hI (show inb (0, 200) n7 from ⟨by omega, by omega⟩)) (show inb (0, 5) n8 from ⟨by omega, by omega⟩)) (full_i _)) (show inb (0, 200) n10 from ⟨by omega, by omega⟩)) hf1) hf2) hf11)) (kV 0 ht m_1458 m_1460 m_47 m_89 m_1461 rfl rfl hd_X12_here_v ⟨Nat.le_of_ble_eq_true rfl, Nat.le_of_ble_eq_true rfl⟩) (vW hP hK hD (rM_12 hK hP)) rfl rfl hl.1 rfl (lv_room (Nat.le_of_ble_eq_true rfl)) dX12_readClause_258 ⟨Nat.le_of_ble_eq_true rfl, Nat.le_of_ble_eq_true rfl⟩) hS (fun q _ h => hFc q h) hFc (fun r29 u t H1 locs ht9 hvm hr29 hB hz1 hk1 hS => ?_)
            obtain ⟨n30, hn30, xr29_0, xr29_1, xr29_2, hr29, rfl⟩ := hr29
            have hn30 : 0 ≤ n30.toInt ∧ n30.toInt ≤ 200 := hn30
            obtain ⟨hP, hD⟩ := hB
            rw [ht9] at hP
            generalize H1 = H at hP hS ⊢
            have hP : va_P (dC, dI) classes (WM h g ca (u2 (u2 (u2 (u2 iv 12 34 n30) 12 35 n8) 12 36 n9) 12 37 n10) lv (u2 (u2 (u2 fa 12 26 f1) 12 30 f2) 12 28 f11) la) H := hP
            have hD : va_D A (WM h g ca (u2 (u2 (u2 (u2 iv 12 34 n30) 12 35 n8) 12 36 n9) 12 37 n10) lv (u2 (u2 (u2 fa 12 26 f1) 12 30 f2) 12 28 f11) la) := (show va_D _ (WM h g ca (u2 (u2 (u2 (u2 iv 12 34 n30) 12 35 n8) 12 36 n9) 12 37 n10) lv (u2 (u2 (u2 fa 12 26 f1) 12 30 f2) 12 28 f11) la) from hD).weaken (fun _ _ _ h => hFc _ h)
            have xr29_0 : (n7 : Int32).toInt ≤ (n30 : Int32).toInt := xr29_0
            have xr29_1 : Sk (fun j => sg ((fa 12 32) j).toInt) ((iv 12 33) : Int32).toInt (n7 : Int32).toInt (n30 : Int32).toInt := xr29_1
            have xr29_2 : (((r29 : Int32).toInt = -1 ∧ ((iv 12 33) : Int32).toInt ≤ (n30 : Int32).toInt) ∨ ((n30 : Int32).toInt < ((iv 12 33) : Int32).toInt ∧ (r29 : Int32).toInt = ((fa 12 32) ((n30 : Int32).toInt).toNat).toInt)) := xr29_2
            refine lv_istore_n (lv' := [(3, .int r29), (0, .ref h), (1, .int 3), (2, .int k)]) hx hb dX12_readClause_261 rfl hl (by decide) rfl (fun ls hl => ?_)
            refine lv_aload_n hx hb dX12_readClause_262 rfl (lv_at hl 1 rfl) ?_
            refine lv_iload_n hx hb dX12_readClause_263 rfl (lv_at hl 0 rfl) ?_
            refine lv_bipush (v := 59) hx hb dX12_readClause_264 (by decide) ?_
            refine lv_icmp_ne (tgt := 273) hx hb dX12_readClause_266 (by decide) (fun c31 => ?_) (fun c31 => ?_)
            · have fc31 := z_ne (rfl : (r29).toInt = _) (by decide : (59 : Int32).toInt = 59) c31
              refine lv_iconst (v := 0) hx hb dX12_readClause_273 (by decide) ?_
              refine lv_iconst (v := 1) hx hb dX12_readClause_274 (by decide) ?_
              refine lv_aload_n hx hb dX12_readClause_275 rfl (lv_at hl 1 rfl) ?_
              refine gM_12_34 hx hb ht hown hK hP m_1173 (v := n30) rfl dX12_readClause_276 ?_
              have hFc := free_all hD hS hA
              refine va_calli (va_runV (As := [.int 0, .int 1, .int n30]) (rest := []) ⟨hx, hb, hml, hown, ht⟩ (c_X12_want_r0 l dC dI H.size h g ca (u2 (u2 (u2 (u2 iv 12 34 n30) 12 35 n8) 12 36 n9) 12 37 n10) lv (u2 (u2 (u2 fa 12 26 f1) 12 30 f2) 12 28 f11) la (IX_a (c := 12) (k := 28) (IX_a (c := 12) (k := 30) (IX_a (c := 12) (k := 26) (IX_i (c := 12) (k := 37) (IX_i (c := 12) (k := 36) (IX_i (c := 12) (k := 35) (IX_i (c := 12) (k := 34) hI (show inb (0, 200) n30 from ⟨by omega, by omega⟩)) (show inb (0, 5) n8 from ⟨by omega, by omega⟩)) (full_i _)) (show inb (0, 200) n10 from ⟨by omega, by omega⟩)) hf1) hf2) hf11) 1 n30 ⟨by decide, by decide⟩) (kV 3 ht m_1472 m_1474 m_50 m_89 m_1475 rfl rfl hd_X12_want_v ⟨Nat.le_of_ble_eq_true rfl, Nat.le_of_ble_eq_true rfl⟩) (vW hP hK hD (rM_12 hK hP)) rfl rfl hl.1 rfl (lv_room (Nat.le_of_ble_eq_true rfl)) dX12_readClause_279 ⟨Nat.le_of_ble_eq_true rfl, Nat.le_of_ble_eq_true rfl⟩) hS (fun q _ h => hFc q h) hFc (fun r32 u t H1 locs ht9 hvm hr32 hB hz1 hk1 hS => ?_)
              obtain ⟨n33, n34, hn33, xr32_0, xr32_1, hr32, rfl⟩ := hr32
              have hn33 : 0 ≤ n33.toInt ∧ n33.toInt ≤ 5 := hn33
              obtain ⟨hP, hD⟩ := hB
              rw [ht9] at hP
              generalize H1 = H at hP hS ⊢
              have hP : va_P (dC, dI) classes (WM h g ca (u2 (u2 (u2 (u2 iv 12 34 n30) 12 35 n33) 12 36 n34) 12 37 n10) lv (u2 (u2 (u2 fa 12 26 f1) 12 30 f2) 12 28 f11) la) H := hP
              have hD : va_D A (WM h g ca (u2 (u2 (u2 (u2 iv 12 34 n30) 12 35 n33) 12 36 n34) 12 37 n10) lv (u2 (u2 (u2 fa 12 26 f1) 12 30 f2) 12 28 f11) la) := (show va_D _ (WM h g ca (u2 (u2 (u2 (u2 iv 12 34 n30) 12 35 n33) 12 36 n34) 12 37 n10) lv (u2 (u2 (u2 fa 12 26 f1) 12 30 f2) 12 28 f11) la) from hD).weaken (fun _ _ _ h => hFc _ h)
              have xr32_0 : 1 ≤ (n33 : Int32).toInt := xr32_0
              have : (1 : Int32).toInt = 1 := (by decide)
              have xr32_1 : (((n8 : Int32).toInt = 0 ∧ (n33 : Int32).toInt = (1 : Int32).toInt ∧ (n34 : Int32).toInt = (n30 : Int32).toInt) ∨ ((n8 : Int32).toInt ≠ 0 ∧ (n33 : Int32).toInt = (n8 : Int32).toInt ∧ (n34 : Int32).toInt = (n9 : Int32).toInt)) := xr32_1
              obtain rfl : 0 = r32 := hr32.symm
              refine lv_if_eq (tgt := 295) hx hb dX12_readClause_282 (by decide) (fun c35 => ?_) (fun c35 => ?_)
              · skip
                have hP9 : va_P (dC, dI) classes (WM h g ca (u2 (u2 (u2 (u2 iv 12 34 n30) 12 35 n33) 12 36 n34) 12 37 n10) lv (u2 (u2 (u2 fa 12 26 f1) 12 28 f11) 12 30 f2) la) H := hP
                have hD9 : va_D A (WM h g ca (u2 (u2 (u2 (u2 iv 12 34 n30) 12 35 n33) 12 36 n34) 12 37 n10) lv (u2 (u2 (u2 fa 12 26 f1) 12 28 f11) 12 30 f2) la) := hD
                exact W.vret hx hb hr (fun t ht9 hW => ⟨⟨((u2 (u2 (u2 (u2 iv 12 34 n30) 12 35 n33) 12 36 n34) 12 37 n10), lv, (u2 (u2 (u2 fa 12 26 f1) 12 28 f11) 12 30 f2), la), rfl, ⟨f1, f11, f2, n30, n33, n34, n10, hf2, (show inb (0, 200) n30 from ⟨by omega, by omega⟩), (show inb (0, 5) n33 from ⟨by omega, by omega⟩), (show inb (0, 200) n10 from ⟨by omega, by omega⟩), (show (iv 12 34).toInt ≤ (n30 : Int32).toInt from by omega), (show ∀ j : Nat, j ≠ k.toNatClampNeg → f1 j = (fa 12 26) j ∧ (fa 12 27) j = (fa 12 27) j ∧ f11 j = (fa 12 28) j from fun j hj => ⟨(by rw [ef1, upd_ne hj]), rfl, (by rw [ef11, upd_ne hj])⟩), (show ((n33 : Int32).toInt ≠ 0 ∨ gd3 (f1 k.toNatClampNeg) ((fa 12 27) k.toNatClampNeg) (f11 k.toNatClampNeg)) from (by
                      have kc : (3 : Int32).toInt = 3 := by decide
                      have kE : f1 k.toNatClampNeg = 3 := by rw [ef1]; exact upd_eq
                      have fE : f11 k.toNatClampNeg = r6 := by rw [ef11]; exact upd_eq
                      have := congrArg Int32.toInt (ev12.trans fE)
                      by_cases h0 : (n33 : Int32).toInt = 0
                      · refine Or.inr ?_; rw [kE, fE]; unfold gd3; exact ⟨fun h => by omega, fun h h2 => by omega⟩
                      · exact Or.inl h0)), (show ∀ j : Nat, j ≠ k.toNatClampNeg → (fa 12 29) j = (fa 12 29) j ∧ f2 j = (fa 12 30) j from fun j hj => ⟨(rfl), (by rw [ef2, upd_ne (show j ≠ k.toNatClampNeg from hj)])⟩), (show ∀ j : Nat, (j : Int) < 8 * (k).toInt → (fa 12 31) j = (fa 12 31) j from fun j hj => rfl), (show f1 ((k).toInt).toNat = 3 from (by rw [ef1]; exact upd_eq)), (show (((n33 : Int32).toInt ≠ 0 ∧ ∃ b kd v1 : Int, StrR (fun j => sg ((fa 12 32) j).toInt) ((iv 12 33) : Int32).toInt (iv 12 23).toInt (iv 12 34).toInt (n33 : Int32).toInt (n34 : Int32).toInt b kd v1) ∨ ((n33 : Int32).toInt = 0 ∧ (n34 : Int32).toInt = (iv 12 36).toInt ∧ StrR (fun j => sg ((fa 12 32) j).toInt) ((iv 12 33) : Int32).toInt (iv 12 23).toInt (iv 12 34).toInt 0 0 (n30 : Int32).toInt 7 (f11 ((k).toInt).toNat).toInt)) from (by
                      have hE28 : f11 (k.toInt).toNat = r6 := (by rw [ef11]; exact upd_eq)
                      have hl := congrArg Int32.toInt (ev12.trans (show f11 k.toNatClampNeg = r6 from hE28))
                      have hg := sg_i (fa 12 32 ((n30 : Int32).toInt).toNat).toInt
                      have hS9 : (n8 : Int32).toInt = 0 → StpR (fun j => sg (fa 12 32 j).toInt) (iv 12 33).toInt (n7 : Int32).toInt (n33 : Int32).toInt (n34 : Int32).toInt 0 := fun h0 => ⟨_, xr29_1, Or.inl ⟨fun q => (by have q2 : sg (fa 12 32 ((n30 : Int32).toInt).toNat).toInt = 59 := q.2; omega), by omega, by omega⟩⟩
                      rcases xr6_2 with ⟨yn1q, yn2q⟩ | ⟨yn1q, yn2q, yn3q⟩
                      · exact Or.inl ⟨by omega, 0, 0, 0, _, _, _, yn2q, Or.inl ⟨by omega, by omega, by omega⟩⟩
                      · first | (exfalso; omega) | exact Or.inl ⟨by omega, 0, _, _, _, _, _, yn3q, Or.inr (Or.inr ⟨rfl, by omega, rfl, hS9 (by omega)⟩)⟩)), rfl⟩, by rw [ht9]; exact hP9, hD9⟩, hS.F ht9⟩) hS.2.2 dX12_readClause_295
              · exact absurd rfl c35
            · have fc31 := z_eq (rfl : (r29).toInt = _) (by decide : (59 : Int32).toInt = 59) c31
              refine lv_iconst (v := 1) hx hb dX12_readClause_269 (by decide) ?_
              refine lv_goto (tgt := 274) hx hb dX12_readClause_270 (by decide) ?_
              refine lv_iconst (v := 1) hx hb dX12_readClause_274 (by decide) ?_
              refine lv_aload_n hx hb dX12_readClause_275 rfl (lv_at hl 1 rfl) ?_
              refine gM_12_34 hx hb ht hown hK hP m_1173 (v := n30) rfl dX12_readClause_276 ?_
              refine vp_callSi (W.runV (As := [.int 1, .int 1, .int n30]) (rest := []) ⟨hx, hb, hml, hown, ht⟩ (c_X12_want_1 l dC dI h g ca (u2 (u2 (u2 (u2 iv 12 34 n30) 12 35 n8) 12 36 n9) 12 37 n10) lv (u2 (u2 (u2 fa 12 26 f1) 12 30 f2) 12 28 f11) la (IX_a (c := 12) (k := 28) (IX_a (c := 12) (k := 30) (IX_a (c := 12) (k := 26) (IX_i (c := 12) (k := 37) (IX_i (c := 12) (k := 36) (IX_i (c := 12) (k := 35) (IX_i (c := 12) (k := 34) hI (show inb (0, 200) n30 from ⟨by omega, by omega⟩)) (show inb (0, 5) n8 from ⟨by omega, by omega⟩)) (full_i _)) (show inb (0, 200) n10 from ⟨by omega, by omega⟩)) hf1) hf2) hf11) 1 n30) (kV 3 ht m_1472 m_1474 m_50 m_89 m_1475 rfl rfl hd_X12_want_v ⟨Nat.le_of_ble_eq_true rfl, Nat.le_of_ble_eq_true rfl⟩) (vR hP hK (rM_12 hK hP)) rfl rfl hl.1 rfl (lv_room (Nat.le_of_ble_eq_true rfl)) dX12_readClause_279 ⟨Nat.le_of_ble_eq_true rfl, Nat.le_of_ble_eq_true rfl⟩) (fun r36 hr36 => ?_)
              rcases hr36 with ⟨rfl, fr36⟩ | ⟨rfl, fr36⟩
              · skip
                have fr36 : ((n8 : Int32).toInt = 0) := fr36
                refine lv_if_eq (tgt := 295) hx hb dX12_readClause_282 (by decide) (fun c37 => ?_) (fun c37 => ?_)
                · exact absurd c37 (by decide)
                · skip
                  refine lv_aload_n hx hb dX12_readClause_285 rfl (lv_at hl 1 rfl) ?_
                  refine lv_dup hx hb dX12_readClause_286 rfl ?_
                  refine gM_12_34 hx hb ht hown hK hP m_1173 (v := n30) rfl dX12_readClause_287 ?_
                  refine lv_iconst (v := 1) hx hb dX12_readClause_290 (by decide) ?_
                  refine lv_iadd hx hb dX12_readClause_291 ?_
                  refine lv_topi (fun v38 ev38 => ?_)
                  have tv38 := z_add ev38 (rfl : (n30).toInt = _) (by decide : (1 : Int32).toInt = 1) (by omega) (by omega)
                  have : 0 ≤ (v38 : Int32).toInt ∧ (v38 : Int32).toInt ≤ 200 := ⟨by omega, by omega⟩
                  refine pM_12_34 (v := v38) hx hb ht hown hK hP hD hS m_1173 dX12_readClause_292 (fun H locs hP hD hS => ?_)
                  have hP : va_P (dC, dI) classes (WM h g ca (u2 (u2 (u2 (u2 iv 12 34 v38) 12 35 n8) 12 36 n9) 12 37 n10) lv (u2 (u2 (u2 fa 12 26 f1) 12 30 f2) 12 28 f11) la) H := hP
                  have hD : va_D A (WM h g ca (u2 (u2 (u2 (u2 iv 12 34 v38) 12 35 n8) 12 36 n9) 12 37 n10) lv (u2 (u2 (u2 fa 12 26 f1) 12 30 f2) 12 28 f11) la) := hD
                  have hP9 : va_P (dC, dI) classes (WM h g ca (u2 (u2 (u2 (u2 iv 12 34 v38) 12 35 n8) 12 36 n9) 12 37 n10) lv (u2 (u2 (u2 fa 12 26 f1) 12 28 f11) 12 30 f2) la) H := hP
                  have hD9 : va_D A (WM h g ca (u2 (u2 (u2 (u2 iv 12 34 v38) 12 35 n8) 12 36 n9) 12 37 n10) lv (u2 (u2 (u2 fa 12 26 f1) 12 28 f11) 12 30 f2) la) := hD
                  exact W.vret hx hb hr (fun t ht9 hW => ⟨⟨((u2 (u2 (u2 (u2 iv 12 34 v38) 12 35 n8) 12 36 n9) 12 37 n10), lv, (u2 (u2 (u2 fa 12 26 f1) 12 28 f11) 12 30 f2), la), rfl, ⟨f1, f11, f2, v38, n8, n9, n10, hf2, (show inb (0, 200) v38 from ⟨by omega, by omega⟩), (show inb (0, 5) n8 from ⟨by omega, by omega⟩), (show inb (0, 200) n10 from ⟨by omega, by omega⟩), (show (iv 12 34).toInt ≤ (v38 : Int32).toInt from by omega), (show ∀ j : Nat, j ≠ k.toNatClampNeg → f1 j = (fa 12 26) j ∧ (fa 12 27) j = (fa 12 27) j ∧ f11 j = (fa 12 28) j from fun j hj => ⟨(by rw [ef1, upd_ne hj]), rfl, (by rw [ef11, upd_ne hj])⟩), (show ((n8 : Int32).toInt ≠ 0 ∨ gd3 (f1 k.toNatClampNeg) ((fa 12 27) k.toNatClampNeg) (f11 k.toNatClampNeg)) from (by
                        have kc : (3 : Int32).toInt = 3 := by decide
                        have kE : f1 k.toNatClampNeg = 3 := by rw [ef1]; exact upd_eq
                        have fE : f11 k.toNatClampNeg = r6 := by rw [ef11]; exact upd_eq
                        have := congrArg Int32.toInt (ev12.trans fE)
                        by_cases h0 : (n8 : Int32).toInt = 0
                        · refine Or.inr ?_; rw [kE, fE]; unfold gd3; exact ⟨fun h => by omega, fun h h2 => by omega⟩
                        · exact Or.inl h0)), (show ∀ j : Nat, j ≠ k.toNatClampNeg → (fa 12 29) j = (fa 12 29) j ∧ f2 j = (fa 12 30) j from fun j hj => ⟨(rfl), (by rw [ef2, upd_ne (show j ≠ k.toNatClampNeg from hj)])⟩), (show ∀ j : Nat, (j : Int) < 8 * (k).toInt → (fa 12 31) j = (fa 12 31) j from fun j hj => rfl), (show f1 ((k).toInt).toNat = 3 from (by rw [ef1]; exact upd_eq)), (show (((n8 : Int32).toInt ≠ 0 ∧ ∃ b kd v1 : Int, StrR (fun j => sg ((fa 12 32) j).toInt) ((iv 12 33) : Int32).toInt (iv 12 23).toInt (iv 12 34).toInt (n8 : Int32).toInt (n9 : Int32).toInt b kd v1) ∨ ((n8 : Int32).toInt = 0 ∧ (n9 : Int32).toInt = (iv 12 36).toInt ∧ StrR (fun j => sg ((fa 12 32) j).toInt) ((iv 12 33) : Int32).toInt (iv 12 23).toInt (iv 12 34).toInt 0 0 (v38 : Int32).toInt 7 (f11 ((k).toInt).toNat).toInt)) from (by
                        have hE28 : f11 (k.toInt).toNat = r6 := (by rw [ef11]; exact upd_eq)
                        have hl := congrArg Int32.toInt (ev12.trans (show f11 k.toNatClampNeg = r6 from hE28))
                        have hg := sg_i (fa 12 32 ((n30 : Int32).toInt).toNat).toInt
                        have hS9 : StpR (fun j => sg (fa 12 32 j).toInt) (iv 12 33).toInt (n7 : Int32).toInt 0 0 (v38 : Int32).toInt := ⟨_, xr29_1, Or.inr ⟨⟨by omega, (show sg (fa 12 32 ((n30 : Int32).toInt).toNat).toInt = 59 from by omega)⟩, rfl, by omega⟩⟩
                        rcases xr6_2 with ⟨yn1q, yn2q⟩ | ⟨yn1q, yn2q, yn3q⟩
                        · exfalso; omega
                        · rw [hE28]; exact Or.inr ⟨by omega, by omega, _, _, _, yn3q, Or.inr (Or.inr ⟨rfl, by omega, rfl, hS9⟩)⟩)), rfl⟩, by rw [ht9]; exact hP9, hD9⟩, hS.F ht9⟩) hS.2.2 dX12_readClause_295
              · skip
                have fr36 : ¬ ((n8 : Int32).toInt = 0) := fr36
                exfalso; omega
          · skip
            have fr28 : ¬ ((n8 : Int32).toInt = 0) := fr28
            refine lv_istore_n (lv' := [(3, .int 0), (0, .ref h), (1, .int 3), (2, .int k)]) hx hb dX12_readClause_248 rfl hl (by decide) rfl (fun ls hl => ?_)
            refine lv_goto (tgt := 257) hx hb dX12_readClause_249 (by decide) ?_
            refine lv_aload_n hx hb dX12_readClause_257 rfl (lv_at hl 1 rfl) ?_
            have hFc := free_all hD hS hA
            refine va_calli (va_runV (As := []) (rest := []) ⟨hx, hb, hml, hown, ht⟩ (c_X12_here_r l dC dI H.size h g ca (u2 (u2 (u2 (u2 iv 12 34 n7) 12 35 n8) 12 36 n9) 12 37 n10) lv (u2 (u2 (u2 fa 12 26 f1) 12 30 f2) 12 28 f11) la (IX_a (c := 12) (k := 28) (IX_a (c := 12) (k := 30) (IX_a (c := 12) (k := 26) (IX_i (c := 12) (k := 37) (IX_i (c := 12) (k := 36) (IX_i (c := 12) (k := 35) (IX_i (c := 12) (k := 34) hI (show inb (0, 200) n7 from ⟨by omega, by omega⟩)) (show inb (0, 5) n8 from ⟨by omega, by omega⟩)) (full_i _)) (show inb (0, 200) n10 from ⟨by omega, by omega⟩)) hf1) hf2) hf11)) (kV 0 ht m_1458 m_1460 m_47 m_89 m_1461 rfl rfl hd_X12_here_v ⟨Nat.le_of_ble_eq_true rfl, Nat.le_of_ble_eq_true rfl⟩) (vW hP hK hD (rM_12 hK hP)) rfl rfl hl.1 rfl (lv_room (Nat.le_of_ble_eq_true rfl)) dX12_readClause_258 ⟨Nat.le_of_ble_eq_true rfl, Nat.le_of_ble_eq_true rfl⟩) hS (fun q _ h => hFc q h) hFc (fun r39 u t H1 locs ht9 hvm hr39 hB hz1 hk1 hS => ?_)
            obtain ⟨n40, hn40, xr39_0, xr39_1, xr39_2, hr39, rfl⟩ := hr39
            have hn40 : 0 ≤ n40.toInt ∧ n40.toInt ≤ 200 := hn40
            obtain ⟨hP, hD⟩ := hB
            rw [ht9] at hP
            generalize H1 = H at hP hS ⊢
            have hP : va_P (dC, dI) classes (WM h g ca (u2 (u2 (u2 (u2 iv 12 34 n40) 12 35 n8) 12 36 n9) 12 37 n10) lv (u2 (u2 (u2 fa 12 26 f1) 12 30 f2) 12 28 f11) la) H := hP
            have hD : va_D A (WM h g ca (u2 (u2 (u2 (u2 iv 12 34 n40) 12 35 n8) 12 36 n9) 12 37 n10) lv (u2 (u2 (u2 fa 12 26 f1) 12 30 f2) 12 28 f11) la) := (show va_D _ (WM h g ca (u2 (u2 (u2 (u2 iv 12 34 n40) 12 35 n8) 12 36 n9) 12 37 n10) lv (u2 (u2 (u2 fa 12 26 f1) 12 30 f2) 12 28 f11) la) from hD).weaken (fun _ _ _ h => hFc _ h)
            have xr39_0 : (n7 : Int32).toInt ≤ (n40 : Int32).toInt := xr39_0
            have xr39_1 : Sk (fun j => sg ((fa 12 32) j).toInt) ((iv 12 33) : Int32).toInt (n7 : Int32).toInt (n40 : Int32).toInt := xr39_1
            have xr39_2 : (((r39 : Int32).toInt = -1 ∧ ((iv 12 33) : Int32).toInt ≤ (n40 : Int32).toInt) ∨ ((n40 : Int32).toInt < ((iv 12 33) : Int32).toInt ∧ (r39 : Int32).toInt = ((fa 12 32) ((n40 : Int32).toInt).toNat).toInt)) := xr39_2
            refine lv_istore_n (lv' := [(3, .int r39), (0, .ref h), (1, .int 3), (2, .int k)]) hx hb dX12_readClause_261 rfl hl (by decide) rfl (fun ls hl => ?_)
            refine lv_aload_n hx hb dX12_readClause_262 rfl (lv_at hl 1 rfl) ?_
            refine lv_iload_n hx hb dX12_readClause_263 rfl (lv_at hl 0 rfl) ?_
            refine lv_bipush (v := 59) hx hb dX12_readClause_264 (by decide) ?_
            refine lv_icmp_ne (tgt := 273) hx hb dX12_readClause_266 (by decide) (fun c41 => ?_) (fun c41 => ?_)
            · have fc41 := z_ne (rfl : (r39).toInt = _) (by decide : (59 : Int32).toInt = 59) c41
              refine lv_iconst (v := 0) hx hb dX12_readClause_273 (by decide) ?_
              refine lv_iconst (v := 1) hx hb dX12_readClause_274 (by decide) ?_
              refine lv_aload_n hx hb dX12_readClause_275 rfl (lv_at hl 1 rfl) ?_
              refine gM_12_34 hx hb ht hown hK hP m_1173 (v := n40) rfl dX12_readClause_276 ?_
              have hFc := free_all hD hS hA
              refine va_calli (va_runV (As := [.int 0, .int 1, .int n40]) (rest := []) ⟨hx, hb, hml, hown, ht⟩ (c_X12_want_r0 l dC dI H.size h g ca (u2 (u2 (u2 (u2 iv 12 34 n40) 12 35 n8) 12 36 n9) 12 37 n10) lv (u2 (u2 (u2 fa 12 26 f1) 12 30 f2) 12 28 f11) la (IX_a (c := 12) (k := 28) (IX_a (c := 12) (k := 30) (IX_a (c := 12) (k := 26) (IX_i (c := 12) (k := 37) (IX_i (c := 12) (k := 36) (IX_i (c := 12) (k := 35) (IX_i (c := 12) (k := 34) hI (show inb (0, 200) n40 from ⟨by omega, by omega⟩)) (show inb (0, 5) n8 from ⟨by omega, by omega⟩)) (full_i _)) (show inb (0, 200) n10 from ⟨by omega, by omega⟩)) hf1) hf2) hf11) 1 n40 ⟨by decide, by decide⟩) (kV 3 ht m_1472 m_1474 m_50 m_89 m_1475 rfl rfl hd_X12_want_v ⟨Nat.le_of_ble_eq_true rfl, Nat.le_of_ble_eq_true rfl⟩) (vW hP hK hD (rM_12 hK hP)) rfl rfl hl.1 rfl (lv_room (Nat.le_of_ble_eq_true rfl)) dX12_readClause_279 ⟨Nat.le_of_ble_eq_true rfl, Nat.le_of_ble_eq_true rfl⟩) hS (fun q _ h => hFc q h) hFc (fun r42 u t H1 locs ht9 hvm hr42 hB hz1 hk1 hS => ?_)
              obtain ⟨n43, n44, hn43, xr42_0, xr42_1, hr42, rfl⟩ := hr42
              have hn43 : 0 ≤ n43.toInt ∧ n43.toInt ≤ 5 := hn43
              obtain ⟨hP, hD⟩ := hB
              rw [ht9] at hP
              generalize H1 = H at hP hS ⊢
              have hP : va_P (dC, dI) classes (WM h g ca (u2 (u2 (u2 (u2 iv 12 34 n40) 12 35 n43) 12 36 n44) 12 37 n10) lv (u2 (u2 (u2 fa 12 26 f1) 12 30 f2) 12 28 f11) la) H := hP
              have hD : va_D A (WM h g ca (u2 (u2 (u2 (u2 iv 12 34 n40) 12 35 n43) 12 36 n44) 12 37 n10) lv (u2 (u2 (u2 fa 12 26 f1) 12 30 f2) 12 28 f11) la) := (show va_D _ (WM h g ca (u2 (u2 (u2 (u2 iv 12 34 n40) 12 35 n43) 12 36 n44) 12 37 n10) lv (u2 (u2 (u2 fa 12 26 f1) 12 30 f2) 12 28 f11) la) from hD).weaken (fun _ _ _ h => hFc _ h)
              have xr42_0 : 1 ≤ (n43 : Int32).toInt := xr42_0
              have : (1 : Int32).toInt = 1 := (by decide)
              have xr42_1 : (((n8 : Int32).toInt = 0 ∧ (n43 : Int32).toInt = (1 : Int32).toInt ∧ (n44 : Int32).toInt = (n40 : Int32).toInt) ∨ ((n8 : Int32).toInt ≠ 0 ∧ (n43 : Int32).toInt = (n8 : Int32).toInt ∧ (n44 : Int32).toInt = (n9 : Int32).toInt)) := xr42_1
              obtain rfl : 0 = r42 := hr42.symm
              refine lv_if_eq (tgt := 295) hx hb dX12_readClause_282 (by decide) (fun c45 => ?_) (fun c45 => ?_)
              · skip
                have hP9 : va_P (dC, dI) classes (WM h g ca (u2 (u2 (u2 (u2 iv 12 34 n40) 12 35 n43) 12 36 n44) 12 37 n10) lv (u2 (u2 (u2 fa 12 26 f1) 12 28 f11) 12 30 f2) la) H := hP
                have hD9 : va_D A (WM h g ca (u2 (u2 (u2 (u2 iv 12 34 n40) 12 35 n43) 12 36 n44) 12 37 n10) lv (u2 (u2 (u2 fa 12 26 f1) 12 28 f11) 12 30 f2) la) := hD
                exact W.vret hx hb hr (fun t ht9 hW => ⟨⟨((u2 (u2 (u2 (u2 iv 12 34 n40) 12 35 n43) 12 36 n44) 12 37 n10), lv, (u2 (u2 (u2 fa 12 26 f1) 12 28 f11) 12 30 f2), la), rfl, ⟨f1, f11, f2, n40, n43, n44, n10, hf2, (show inb (0, 200) n40 from ⟨by omega, by omega⟩), (show inb (0, 5) n43 from ⟨by omega, by omega⟩), (show inb (0, 200) n10 from ⟨by omega, by omega⟩), (show (iv 12 34).toInt ≤ (n40 : Int32).toInt from by omega), (show ∀ j : Nat, j ≠ k.toNatClampNeg → f1 j = (fa 12 26) j ∧ (fa 12 27) j = (fa 12 27) j ∧ f11 j = (fa 12 28) j from fun j hj => ⟨(by rw [ef1, upd_ne hj]), rfl, (by rw [ef11, upd_ne hj])⟩), (show ((n43 : Int32).toInt ≠ 0 ∨ gd3 (f1 k.toNatClampNeg) ((fa 12 27) k.toNatClampNeg) (f11 k.toNatClampNeg)) from (by
                      have kc : (3 : Int32).toInt = 3 := by decide
                      have kE : f1 k.toNatClampNeg = 3 := by rw [ef1]; exact upd_eq
                      have fE : f11 k.toNatClampNeg = r6 := by rw [ef11]; exact upd_eq
                      have := congrArg Int32.toInt (ev12.trans fE)
                      by_cases h0 : (n43 : Int32).toInt = 0
                      · refine Or.inr ?_; rw [kE, fE]; unfold gd3; exact ⟨fun h => by omega, fun h h2 => by omega⟩
                      · exact Or.inl h0)), (show ∀ j : Nat, j ≠ k.toNatClampNeg → (fa 12 29) j = (fa 12 29) j ∧ f2 j = (fa 12 30) j from fun j hj => ⟨(rfl), (by rw [ef2, upd_ne (show j ≠ k.toNatClampNeg from hj)])⟩), (show ∀ j : Nat, (j : Int) < 8 * (k).toInt → (fa 12 31) j = (fa 12 31) j from fun j hj => rfl), (show f1 ((k).toInt).toNat = 3 from (by rw [ef1]; exact upd_eq)), (show (((n43 : Int32).toInt ≠ 0 ∧ ∃ b kd v1 : Int, StrR (fun j => sg ((fa 12 32) j).toInt) ((iv 12 33) : Int32).toInt (iv 12 23).toInt (iv 12 34).toInt (n43 : Int32).toInt (n44 : Int32).toInt b kd v1) ∨ ((n43 : Int32).toInt = 0 ∧ (n44 : Int32).toInt = (iv 12 36).toInt ∧ StrR (fun j => sg ((fa 12 32) j).toInt) ((iv 12 33) : Int32).toInt (iv 12 23).toInt (iv 12 34).toInt 0 0 (n40 : Int32).toInt 7 (f11 ((k).toInt).toNat).toInt)) from (by
                      have hE28 : f11 (k.toInt).toNat = r6 := (by rw [ef11]; exact upd_eq)
                      have hl := congrArg Int32.toInt (ev12.trans (show f11 k.toNatClampNeg = r6 from hE28))
                      have hg := sg_i (fa 12 32 ((n40 : Int32).toInt).toNat).toInt
                      have hS9 : (n8 : Int32).toInt = 0 → StpR (fun j => sg (fa 12 32 j).toInt) (iv 12 33).toInt (n7 : Int32).toInt (n43 : Int32).toInt (n44 : Int32).toInt 0 := fun h0 => ⟨_, xr39_1, Or.inl ⟨fun q => (by have q2 : sg (fa 12 32 ((n40 : Int32).toInt).toNat).toInt = 59 := q.2; omega), by omega, by omega⟩⟩
                      rcases xr6_2 with ⟨yn1q, yn2q⟩ | ⟨yn1q, yn2q, yn3q⟩
                      · exact Or.inl ⟨by omega, 0, 0, 0, _, _, _, yn2q, Or.inl ⟨by omega, by omega, by omega⟩⟩
                      · first | (exfalso; omega) | exact Or.inl ⟨by omega, 0, _, _, _, _, _, yn3q, Or.inr (Or.inr ⟨rfl, by omega, rfl, hS9 (by omega)⟩)⟩)), rfl⟩, by rw [ht9]; exact hP9, hD9⟩, hS.F ht9⟩) hS.2.2 dX12_readClause_295
              · exact absurd rfl c45
            · have fc41 := z_eq (rfl : (r39).toInt = _) (by decide : (59 : Int32).toInt = 59) c41
              refine lv_iconst (v := 1) hx hb dX12_readClause_269 (by decide) ?_
              refine lv_goto (tgt := 274) hx hb dX12_readClause_270 (by decide) ?_
              refine lv_iconst (v := 1) hx hb dX12_readClause_274 (by decide) ?_
              refine lv_aload_n hx hb dX12_readClause_275 rfl (lv_at hl 1 rfl) ?_
              refine gM_12_34 hx hb ht hown hK hP m_1173 (v := n40) rfl dX12_readClause_276 ?_
              refine vp_callSi (W.runV (As := [.int 1, .int 1, .int n40]) (rest := []) ⟨hx, hb, hml, hown, ht⟩ (c_X12_want_1 l dC dI h g ca (u2 (u2 (u2 (u2 iv 12 34 n40) 12 35 n8) 12 36 n9) 12 37 n10) lv (u2 (u2 (u2 fa 12 26 f1) 12 30 f2) 12 28 f11) la (IX_a (c := 12) (k := 28) (IX_a (c := 12) (k := 30) (IX_a (c := 12) (k := 26) (IX_i (c := 12) (k := 37) (IX_i (c := 12) (k := 36) (IX_i (c := 12) (k := 35) (IX_i (c := 12) (k := 34) hI (show inb (0, 200) n40 from ⟨by omega, by omega⟩)) (show inb (0, 5) n8 from ⟨by omega, by omega⟩)) (full_i _)) (show inb (0, 200) n10 from ⟨by omega, by omega⟩)) hf1) hf2) hf11) 1 n40) (kV 3 ht m_1472 m_1474 m_50 m_89 m_1475 rfl rfl hd_X12_want_v ⟨Nat.le_of_ble_eq_true rfl, Nat.le_of_ble_eq_true rfl⟩) (vR hP hK (rM_12 hK hP)) rfl rfl hl.1 rfl (lv_room (Nat.le_of_ble_eq_true rfl)) dX12_readClause_279 ⟨Nat.le_of_ble_eq_true rfl, Nat.le_of_ble_eq_true rfl⟩) (fun r46 hr46 => ?_)
              rcases hr46 with ⟨rfl, fr46⟩ | ⟨rfl, fr46⟩
              · skip
                have fr46 : ((n8 : Int32).toInt = 0) := fr46
                exfalso; omega
              · skip
                have fr46 : ¬ ((n8 : Int32).toInt = 0) := fr46
                refine lv_if_eq (tgt := 295) hx hb dX12_readClause_282 (by decide) (fun c47 => ?_) (fun c47 => ?_)
                · skip
                  have hP9 : va_P (dC, dI) classes (WM h g ca (u2 (u2 (u2 (u2 iv 12 34 n40) 12 35 n8) 12 36 n9) 12 37 n10) lv (u2 (u2 (u2 fa 12 26 f1) 12 28 f11) 12 30 f2) la) H := hP
                  have hD9 : va_D A (WM h g ca (u2 (u2 (u2 (u2 iv 12 34 n40) 12 35 n8) 12 36 n9) 12 37 n10) lv (u2 (u2 (u2 fa 12 26 f1) 12 28 f11) 12 30 f2) la) := hD
                  exact W.vret hx hb hr (fun t ht9 hW => ⟨⟨((u2 (u2 (u2 (u2 iv 12 34 n40) 12 35 n8) 12 36 n9) 12 37 n10), lv, (u2 (u2 (u2 fa 12 26 f1) 12 28 f11) 12 30 f2), la), rfl, ⟨f1, f11, f2, n40, n8, n9, n10, hf2, (show inb (0, 200) n40 from ⟨by omega, by omega⟩), (show inb (0, 5) n8 from ⟨by omega, by omega⟩), (show inb (0, 200) n10 from ⟨by omega, by omega⟩), (show (iv 12 34).toInt ≤ (n40 : Int32).toInt from by omega), (show ∀ j : Nat, j ≠ k.toNatClampNeg → f1 j = (fa 12 26) j ∧ (fa 12 27) j = (fa 12 27) j ∧ f11 j = (fa 12 28) j from fun j hj => ⟨(by rw [ef1, upd_ne hj]), rfl, (by rw [ef11, upd_ne hj])⟩), (show ((n8 : Int32).toInt ≠ 0 ∨ gd3 (f1 k.toNatClampNeg) ((fa 12 27) k.toNatClampNeg) (f11 k.toNatClampNeg)) from Or.inl (by omega)), (show ∀ j : Nat, j ≠ k.toNatClampNeg → (fa 12 29) j = (fa 12 29) j ∧ f2 j = (fa 12 30) j from fun j hj => ⟨(rfl), (by rw [ef2, upd_ne (show j ≠ k.toNatClampNeg from hj)])⟩), (show ∀ j : Nat, (j : Int) < 8 * (k).toInt → (fa 12 31) j = (fa 12 31) j from fun j hj => rfl), (show f1 ((k).toInt).toNat = 3 from (by rw [ef1]; exact upd_eq)), (show (((n8 : Int32).toInt ≠ 0 ∧ ∃ b kd v1 : Int, StrR (fun j => sg ((fa 12 32) j).toInt) ((iv 12 33) : Int32).toInt (iv 12 23).toInt (iv 12 34).toInt (n8 : Int32).toInt (n9 : Int32).toInt b kd v1) ∨ ((n8 : Int32).toInt = 0 ∧ (n9 : Int32).toInt = (iv 12 36).toInt ∧ StrR (fun j => sg ((fa 12 32) j).toInt) ((iv 12 33) : Int32).toInt (iv 12 23).toInt (iv 12 34).toInt 0 0 (n40 : Int32).toInt 7 (f11 ((k).toInt).toNat).toInt)) from (by
                        have hE28 : f11 (k.toInt).toNat = r6 := (by rw [ef11]; exact upd_eq)
                        have hl := congrArg Int32.toInt (ev12.trans (show f11 k.toNatClampNeg = r6 from hE28))
                        rcases xr6_2 with ⟨yn1q, yn2q⟩ | ⟨yn1q, yn2q, yn3q⟩
                        · exact Or.inl ⟨by omega, 0, 0, 0, _, _, _, yn2q, Or.inl ⟨by omega, by omega, by omega⟩⟩
                        · exfalso; omega)), rfl⟩, by rw [ht9]; exact hP9, hD9⟩, hS.F ht9⟩) hS.2.2 dX12_readClause_295
                · exact absurd rfl c47
    · exact absurd c4 (by decide)
  · exact absurd c3 (by decide)
