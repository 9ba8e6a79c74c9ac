/-! ===== bk5 ===== -/
set_option maxHeartbeats 4000000 in
set_option maxRecDepth 100000 in
/-- X12_atFirst -/
theorem c_X12_atFirst_f (l : Launch) (dC : Nat → ClassId) (dI : Nat → Nat → Nat) (a : Int32) (h_a : 0 ≤ a.toInt ∧ a.toInt ≤ 5) : Met l yX12_atFirst (wc yX12_atFirst cX12_atFirst 1 (some .int)) ({ frames := 0, cells := 0, slots := 0, locals := 0 } : Room) (pR (dC, dI) classes [] [] [.int a]) (vp_Si (fun r => (0 ≤ r.toInt ∧ r.toInt ≤ 110) ∧ (r.toInt = aF a.toInt))) 0 0 (fun _ => False) := by
  refine Met.ofW (cc := cX12_atFirst) (maxL := 1) (ret := (some .int)) (by decide) rfl ?_
  intro p e s m args below meth c s₁ B hml hv
  obtain ⟨rfl, hP, hK⟩ := hv
  have hx := B.exec
  have hb := B.bytes
  have hr := B.returns
  have ht := tb_tl (atoms_spec (ws := wc yX12_atFirst cX12_atFirst 1 (some .int)) B.pre)
  have hown : s.vm.findClass RX12 = some m.cls := findClass_of_methodNamed B.named
  have hlocks := B.notSynchronized
  have hl := lv_entry [.int a] (n := 1) (Nat.le_of_ble_eq_true rfl)
  rw [lg_entry_eq]
  generalize (lg_sl [.int a] ++ List.replicate (1 - (lg_sl [.int a]).length) Slot.unset).toArray = ls at hl ⊢
  have hl : lv_has ls 1 [(0, .int a)] := hl
  refine lv_iload_n hx hb dX12_atFirst_0 rfl (lv_at hl 0 rfl) ?_
  rcases sw_0_4 a with h1 | rfl | rfl | rfl | rfl | rfl
  · refine lv_tableOut (tgt := 48) hx hb dX12_atFirst_1 h1 (by decide) ?_
    refine lv_iconst (v := 0) hx hb dX12_atFirst_48 (by decide) ?_
    have : (0 : Int32).toInt = 0 := (by decide)
    exact W.iret (v := 0) hx hb hr (fun t ht9 hW => ⟨0, rfl, ⟨⟨by decide, by decide⟩, (show (0 : Int32).toInt = aF (a).toInt from (by rw [show a.toInt = 5 from by omega]; decide))⟩, ht9⟩) (fun q hq => by cases hq) dX12_atFirst_49
  · refine lv_tableIn (tgt := 36) (off := 35) hx hb dX12_atFirst_1 (by decide) (by decide) rfl (by decide) ?_
    refine lv_bipush (v := 110) hx hb dX12_atFirst_36 (by decide) ?_
    have : (110 : Int32).toInt = 110 := (by decide)
    have : (0 : Int32).toInt = 0 := (by decide)
    exact W.iret (v := 110) hx hb hr (fun t ht9 hW => ⟨110, rfl, ⟨⟨by decide, by decide⟩, (show (110 : Int32).toInt = aF (0 : Int32).toInt from (by decide))⟩, ht9⟩) (fun q hq => by cases hq) dX12_atFirst_38
  · refine lv_tableIn (tgt := 39) (off := 38) hx hb dX12_atFirst_1 (by decide) (by decide) rfl (by decide) ?_
    refine lv_iconst (v := 3) hx hb dX12_atFirst_39 (by decide) ?_
    have : (3 : Int32).toInt = 3 := (by decide)
    have : (1 : Int32).toInt = 1 := (by decide)
    exact W.iret (v := 3) hx hb hr (fun t ht9 hW => ⟨3, rfl, ⟨⟨by decide, by decide⟩, (show (3 : Int32).toInt = aF (1 : Int32).toInt from (by decide))⟩, ht9⟩) (fun q hq => by cases hq) dX12_atFirst_40
  · refine lv_tableIn (tgt := 41) (off := 40) hx hb dX12_atFirst_1 (by decide) (by decide) rfl (by decide) ?_
    refine lv_iconst (v := 5) hx hb dX12_atFirst_41 (by decide) ?_
    have : (5 : Int32).toInt = 5 := (by decide)
    have : (2 : Int32).toInt = 2 := (by decide)
    exact W.iret (v := 5) hx hb hr (fun t ht9 hW => ⟨5, rfl, ⟨⟨by decide, by decide⟩, (show (5 : Int32).toInt = aF (2 : Int32).toInt from (by decide))⟩, ht9⟩) (fun q hq => by cases hq) dX12_atFirst_42
  · refine lv_tableIn (tgt := 43) (off := 42) hx hb dX12_atFirst_1 (by decide) (by decide) rfl (by decide) ?_
    refine lv_iconst (v := 2) hx hb dX12_atFirst_43 (by decide) ?_
    have : (2 : Int32).toInt = 2 := (by decide)
    have : (3 : Int32).toInt = 3 := (by decide)
    exact W.iret (v := 2) hx hb hr (fun t ht9 hW => ⟨2, rfl, ⟨⟨by decide, by decide⟩, (show (2 : Int32).toInt = aF (3 : Int32).toInt from (by decide))⟩, ht9⟩) (fun q hq => by cases hq) dX12_atFirst_44
  · refine lv_tableIn (tgt := 45) (off := 44) hx hb dX12_atFirst_1 (by decide) (by decide) rfl (by decide) ?_
    refine lv_bipush (v := 10) hx hb dX12_atFirst_45 (by decide) ?_
    have : (10 : Int32).toInt = 10 := (by decide)
    have : (4 : Int32).toInt = 4 := (by decide)
    exact W.iret (v := 10) hx hb hr (fun t ht9 hW => ⟨10, rfl, ⟨⟨by decide, by decide⟩, (show (10 : Int32).toInt = aF (4 : Int32).toInt from (by decide))⟩, ht9⟩) (fun q hq => by cases hq) dX12_atFirst_47
set_option maxHeartbeats 4000000 in
set_option maxRecDepth 100000 in
/-- X12_forceOf -/
theorem c_X12_forceOf_f (l : Launch) (dC : Nat → ClassId) (dI : Nat → Nat → Nat) (sz : Nat) (h : Nat) (g : Nat → Nat → Nat) (ca : Nat → Nat → ClassId) (iv : Nat → Nat → Int32) (lv : Nat → Nat → Int64) (fa : Nat → Nat → Nat → Int32) (la : Nat → Nat → Nat → Int64) (hI : IX iv fa) (a : Int32) (b : Int32) (h_a : 0 ≤ a.toInt ∧ a.toInt ≤ 5) (hJC : JCf (iv 12 23).toInt (fa 12 25) (fa 12 26) (fa 12 27) (fa 12 28)) (hJK : ∀ k j : Nat, (k : Int) < (iv 12 23).toInt → 12 * k ≤ j → (j : Int) < 12 * (k : Int) + (fa 12 25 k).toInt → (fa 12 26 j).toInt = 3 → 0 ≤ (fa 12 28 j).toInt ∧ (fa 12 28 j).toInt < (k : Int)) : Met l yX12_forceOf (wc yX12_forceOf cX12_forceOf 7 (some .int)) ({ frames := 1, cells := 0, slots := 0, locals := 23 } : Room) (pW (dC, dI) classes (WM h g ca iv lv fa la) (TM ca) sz [.ref h, .int a, .int b]) (va_Qi (fun r (u : SS) => ∃ (na_12_39 : Nat → Int32) (na_12_40 : Nat → Int32) (ni_12_41 : Int32), (∀ j, inb (bA 12 39 j) (na_12_39 j)) ∧ (∀ j, inb (bA 12 40 j) (na_12_40 j)) ∧ inb (bI 12 41) ni_12_41 ∧ (FoY (iv 12 23).toInt (fa 12 24) (fa 12 25) (fa 12 26) (fa 12 27) (fa 12 28) a.toInt b.toInt r.toInt) ∧ (True) ∧ u = ((u2 iv 12 41 ni_12_41), lv, (u2 (u2 fa 12 39 na_12_39) 12 40 na_12_40), la)) (bM (dC, dI) h g ca (va_A (WM h g ca iv lv fa la) sz)) (va_A (WM h g ca iv lv fa la) sz)) 0 0 (va_A (WM h g ca iv lv fa la) sz) := by
  refine Met.ofW (cc := cX12_forceOf) (maxL := 7) (ret := (some .int)) (by decide) rfl ?_
  intro p e s m args below meth c s₁ B hml hv
  obtain ⟨rfl, hsz, hP, hK, hD0⟩ := hv
  have hx := B.exec
  have hb := B.bytes
  have hr := B.returns
  have ht := tb_tl (atoms_spec (ws := wc yX12_forceOf cX12_forceOf 7 (some .int)) B.pre)
  have hown : s.vm.findClass RX12 = some m.cls := findClass_of_methodNamed B.named
  have hlocks := B.notSynchronized
  subst hsz
  have hD := hD0.self (sz := s.heap.size)
  generalize hAe : va_A (WM h g ca iv lv fa la) s.heap.size = A at hD ⊢
  have hA : ∀ q : Nat, s.heap.size ≤ q → A q := fun q h => by rw [← hAe]; exact Or.inr h
  have hS : va_S A s.heap s.heap [] := va_S.rf
  have hl := lv_entry [.ref h, .int a, .int b] (n := 7) (Nat.le_of_ble_eq_true rfl)
  rw [lg_entry_eq]
  generalize (lg_sl [.ref h, .int a, .int b] ++ List.replicate (7 - (lg_sl [.ref h, .int a, .int b]).length) Slot.unset).toArray = ls at hl ⊢
  have hl : lv_has ls 7 [(0, .ref h), (1, .int a), (2, .int b)] := hl
  refine lv_aload_n hx hb dX12_forceOf_0 rfl (lv_at hl 0 rfl) ?_
  refine lv_iload_n hx hb dX12_forceOf_1 rfl (lv_at hl 2 rfl) ?_
  have hFc := free_all hD hS hA
  refine va_callv (va_runV (As := [.int b]) (rest := []) ⟨hx, hb, hml, hown, ht⟩ (c_X12_findRules_f l dC dI s.heap.size h g ca iv lv fa la hI b hJC hJK) (kV 1 ht m_1513 m_1515 m_56 m_89 m_1516 rfl rfl hd_X12_findRules_v ⟨Nat.le_of_ble_eq_true rfl, Nat.le_of_ble_eq_true rfl⟩) (vW hP hK hD (rM_12 hK hP)) rfl rfl hl.1 rfl (lv_room (Nat.le_of_ble_eq_true rfl)) dX12_forceOf_2 ⟨Nat.le_of_ble_eq_true rfl, Nat.le_of_ble_eq_true rfl⟩) hS (fun q _ h => hFc q h) hFc (fun u t H1 locs ht9 hvm hr1 hB hz1 hk1 hS => ?_)
  obtain ⟨n2, n3, n4, hn2, hn3, hn4, xr1_0, xr1_1, xr1_2, xr1_3, rfl⟩ := hr1
  have hn4 : 0 ≤ n4.toInt ∧ n4.toInt ≤ 8 := hn4
  obtain ⟨hP, hD⟩ := hB
  rw [ht9] at hP
  generalize H1 = H at hP hS ⊢
  have hP : va_P (dC, dI) classes (WM h g ca (u2 iv 12 41 n4) lv (u2 (u2 fa 12 39 n2) 12 40 n3) la) H := hP
  have hD : va_D A (WM h g ca (u2 iv 12 41 n4) lv (u2 (u2 fa 12 39 n2) 12 40 n3) la) := (show va_D _ (WM h g ca (u2 iv 12 41 n4) lv (u2 (u2 fa 12 39 n2) 12 40 n3) la) from hD).weaken (fun _ _ _ h => hFc _ h)
  have i_12_23 : 0 ≤ (iv 12 23).toInt ∧ (iv 12 23).toInt ≤ 8 := hI.1 12 23
  have xr1_0 : ∀ j : Nat, (j : Int) < (n4 : Int32).toInt → (n3 j).toInt < ((iv 12 23) : Int32).toInt := xr1_0
  have xr1_1 : (n4 : Int32).toInt ≤ ((iv 12 23) : Int32).toInt := xr1_1
  have xr1_2 : OnR ((iv 12 23) : Int32).toInt (fun r => (n2 r).toInt = 1) (fa 12 24) (St (fa 12 25) (mX (fa 12 26) 3) (fa 12 28)) (b : Int32).toInt := xr1_2
  have xr1_3 : OrK ((iv 12 23) : Int32).toInt (fun r => (n2 r).toInt = 1) (fa 12 24) n3 (n4 : Int32).toInt := xr1_3
  refine lv_iload_n hx hb dX12_forceOf_5 rfl (lv_at hl 1 rfl) ?_
  refine vp_callSi (W.runS (As := [.int a]) (rest := []) ⟨hx, hb, hml, hown, ht⟩ (c_X12_atFirst_f l dC dI a ⟨by omega, by omega⟩) (kS 1 ht m_1517 m_1518 m_89 m_1519 rfl rfl hd_X12_atFirst_v ⟨Nat.le_of_ble_eq_true rfl, Nat.le_of_ble_eq_true rfl⟩) (sR noP (hK.sub (tys' := []) [] rfl)) rfl rfl hl.1 rfl (lv_room (Nat.le_of_ble_eq_true rfl)) dX12_forceOf_6 ⟨Nat.le_of_ble_eq_true rfl, Nat.le_of_ble_eq_true rfl⟩) (fun r5 hr5 => ?_)
  obtain ⟨hr5, xr5_0⟩ := hr5
  have xr5_0 : (r5 : Int32).toInt = aF (a : Int32).toInt := xr5_0
  refine lv_istore_n (lv' := [(3, .int r5), (0, .ref h), (1, .int a), (2, .int b)]) hx hb dX12_forceOf_9 rfl hl (by decide) rfl (fun ls hl => ?_)
  refine lv_iconst (v := 0) hx hb dX12_forceOf_10 (by decide) ?_
  refine lv_istore (lv' := [(4, .int 0), (3, .int r5), (0, .ref h), (1, .int a), (2, .int b)]) hx hb dX12_forceOf_11 hl (by decide) rfl (fun ls hl => ?_)
  have lp1024 : ∀ (nn1024 : Nat) (x1023_4 : Int32) (x1023_3 : Int32), 0 ≤ x1023_4.toInt ∧ x1023_4.toInt ≤ 8 → (SqO (fa 12 25) n3 (mY (fa 12 26) (fa 12 27) (a).toInt) (vI (fa 12 28)) (aF (a).toInt) (x1023_4 : Int32).toInt (x1023_3 : Int32).toInt) → (x1023_4 : Int32).toInt ≤ (n4 : Int32).toInt → 8 - x1023_4.toInt < (nn1024 : Int) → ∀ (H : Heap) (locs : List Loc), ∀ (ls : Array Slot), va_P (dC, dI) classes (WM h g ca (u2 iv 12 41 n4) lv (u2 (u2 fa 12 39 n2) 12 40 n3) la) H → va_D A (WM h g ca (u2 iv 12 41 n4) lv (u2 (u2 fa 12 39 n2) 12 40 n3) la) → va_S A s.heap H locs → lv_has ls 7 [(4, .int x1023_4), (3, .int x1023_3), (0, .ref h), (1, .int a), (2, .int b)] → W p l e ({ frames := 1, cells := 0, slots := 0, locals := 23 } : Room) s m ([.ref h, .int a, .int b] : List Value).toArray below meth c H locs 0 0 (MQ below (va_Qi (fun r (u : SS) => ∃ (na_12_39 : Nat → Int32) (na_12_40 : Nat → Int32) (ni_12_41 : Int32), (∀ j, inb (bA 12 39 j) (na_12_39 j)) ∧ (∀ j, inb (bA 12 40 j) (na_12_40 j)) ∧ inb (bI 12 41) ni_12_41 ∧ (FoY (iv 12 23).toInt (fa 12 24) (fa 12 25) (fa 12 26) (fa 12 27) (fa 12 28) a.toInt b.toInt r.toInt) ∧ (True) ∧ u = ((u2 iv 12 41 ni_12_41), lv, (u2 (u2 fa 12 39 na_12_39) 12 40 na_12_40), la)) (bM (dC, dI) h g ca A) A) ([.ref h, .int a, .int b] : List Value).toArray s 0 0 A) (F0 m 13 ls []) := by
    intro nn1024
    induction nn1024 with
    | zero => intro x1023_4 x1023_3 hx1023_4 hq1024_0 hq1024_1 hm1024; exfalso; omega
    | succ nn1024 ih1024 =>
      intro x1023_4 x1023_3 hx1023_4 hq1024_0 hq1024_1 hm1024 H locs ls hP hD hS hl
      refine lv_iload hx hb dX12_forceOf_13 (lv_at hl 0 rfl) ?_
      refine lv_aload_n hx hb dX12_forceOf_15 rfl (lv_at hl 2 rfl) ?_
      refine gM_12_41 hx hb ht hown hK hP m_1180 (v := n4) rfl dX12_forceOf_16 ?_
      refine lv_icmp_ge (tgt := 143) hx hb dX12_forceOf_19 (by decide) (fun c1025 => ?_) (fun c1025 => ?_)
      · have fc1025 := z_le (rfl : (n4).toInt = _) (rfl : (x1023_4).toInt = _) c1025
        refine lv_iload_n hx hb dX12_forceOf_143 rfl (lv_at hl 1 rfl) ?_
        have hP9 : va_P (dC, dI) classes (WM h g ca (u2 iv 12 41 n4) lv (u2 (u2 fa 12 39 n2) 12 40 n3) la) H := hP
        have hD9 : va_D A (WM h g ca (u2 iv 12 41 n4) lv (u2 (u2 fa 12 39 n2) 12 40 n3) la) := hD
        exact W.iret (v := x1023_3) hx hb hr (fun t ht9 hW => ⟨⟨x1023_3, ((u2 iv 12 41 n4), lv, (u2 (u2 fa 12 39 n2) 12 40 n3), la), rfl, ⟨n2, n3, n4, hn2, hn3, (show inb (0, 8) n4 from ⟨by omega, by omega⟩), (show FoY ((iv 12 23) : Int32).toInt (fa 12 24) (fa 12 25) (fa 12 26) (fa 12 27) (fa 12 28) (a).toInt (b).toInt (x1023_3 : Int32).toInt from (by have hq9 := hq1024_0; have he9 : (x1023_4 : Int32).toInt = (n4 : Int32).toInt := (by omega); rw [he9] at hq9; obtain ⟨s9, hs9⟩ := SqO_Best (by omega) xr1_3 hq9; exact ⟨_, s9, xr1_2, hs9⟩)), trivial, rfl⟩, by rw [ht9]; exact hP9, hD9⟩, hS.F ht9⟩) hS.2.2 dX12_forceOf_144
      · have fc1025 := z_nle (rfl : (n4).toInt = _) (rfl : (x1023_4).toInt = _) c1025
        refine lv_bipush (v := 12) hx hb dX12_forceOf_22 (by decide) ?_
        refine lv_aload_n hx hb dX12_forceOf_24 rfl (lv_at hl 2 rfl) ?_
        refine gM_12_40 hx hb ht hown hK hP m_1179 dX12_forceOf_25 ?_
        refine lv_iload hx hb dX12_forceOf_28 (lv_at hl 0 rfl) ?_
        refine lM_12_40 hx hb hK hP (f := n3) rfl (vp_in_iff.mpr ⟨by omega, by omega⟩) dX12_forceOf_30 ?_
        refine lv_topi (fun v1026 ev1026 => ?_)
        have tv1026 : 0 ≤ v1026.toInt ∧ v1026.toInt ≤ 7 := by rw [ev1026]; exact hn3 _
        refine lv_imul hx hb dX12_forceOf_31 ?_
        refine lv_topi (fun v1027 ev1027 => ?_)
        have tv1027 := z_mul ev1027 (by decide : (12 : Int32).toInt = 12) (rfl : (v1026).toInt = _) (by omega) (by omega)
        refine lv_istore (lv' := [(5, .int v1027), (4, .int x1023_4), (3, .int x1023_3), (0, .ref h), (1, .int a), (2, .int b)]) hx hb dX12_forceOf_32 hl (by decide) rfl (fun ls hl => ?_)
        have lp1110 : ∀ (nn1110 : Nat) (x1109_5 : Int32) (x1109_3 : Int32), 0 ≤ x1109_5.toInt ∧ x1109_5.toInt ≤ 96 → (SqI (fa 12 25) n3 (mY (fa 12 26) (fa 12 27) (a).toInt) (vI (fa 12 28)) (aF (a).toInt) (x1023_4 : Int32).toInt (12 * (n3 ((x1023_4 : Int32).toInt).toNat).toInt) (x1109_5 : Int32).toInt (x1109_3 : Int32).toInt) → (12 * (n3 ((x1023_4 : Int32).toInt).toNat).toInt ≤ (x1109_5 : Int32).toInt) → ((x1109_5 : Int32).toInt ≤ 12 * (n3 ((x1023_4 : Int32).toInt).toNat).toInt + ((fa 12 25) ((n3 ((x1023_4 : Int32).toInt).toNat).toInt).toNat).toInt) → 96 - x1109_5.toInt < (nn1110 : Int) → ∀ (H : Heap) (locs : List Loc), ∀ (ls : Array Slot), va_P (dC, dI) classes (WM h g ca (u2 iv 12 41 n4) lv (u2 (u2 fa 12 39 n2) 12 40 n3) la) H → va_D A (WM h g ca (u2 iv 12 41 n4) lv (u2 (u2 fa 12 39 n2) 12 40 n3) la) → va_S A s.heap H locs → lv_has ls 7 [(5, .int x1109_5), (4, .int x1023_4), (3, .int x1109_3), (0, .ref h), (1, .int a), (2, .int b)] → W p l e ({ frames := 1, cells := 0, slots := 0, locals := 23 } : Room) s m ([.ref h, .int a, .int b] : List Value).toArray below meth c H locs 0 0 (MQ below (va_Qi (fun r (u : SS) => ∃ (na_12_39 : Nat → Int32) (na_12_40 : Nat → Int32) (ni_12_41 : Int32), (∀ j, inb (bA 12 39 j) (na_12_39 j)) ∧ (∀ j, inb (bA 12 40 j) (na_12_40 j)) ∧ inb (bI 12 41) ni_12_41 ∧ (FoY (iv 12 23).toInt (fa 12 24) (fa 12 25) (fa 12 26) (fa 12 27) (fa 12 28) a.toInt b.toInt r.toInt) ∧ (True) ∧ u = ((u2 iv 12 41 ni_12_41), lv, (u2 (u2 fa 12 39 na_12_39) 12 40 na_12_40), la)) (bM (dC, dI) h g ca A) A) ([.ref h, .int a, .int b] : List Value).toArray s 0 0 A) (F0 m 34 ls []) := by
          intro nn1110
          induction nn1110 with
          | zero => intro x1109_5 x1109_3 hx1109_5 hq1110_0 hq1110_1 hq1110_2 hm1110; exfalso; omega
          | succ nn1110 ih1110 =>
            intro x1109_5 x1109_3 hx1109_5 hq1110_0 hq1110_1 hq1110_2 hm1110 H locs ls hP hD hS hl
            refine lv_iload hx hb dX12_forceOf_34 (lv_at hl 0 rfl) ?_
            refine lv_bipush (v := 12) hx hb dX12_forceOf_36 (by decide) ?_
            refine lv_aload_n hx hb dX12_forceOf_38 rfl (lv_at hl 3 rfl) ?_
            refine gM_12_40 hx hb ht hown hK hP m_1179 dX12_forceOf_39 ?_
            refine lv_iload hx hb dX12_forceOf_42 (lv_at hl 1 rfl) ?_
            refine lM_12_40 hx hb hK hP (f := n3) rfl (vp_in_iff.mpr ⟨by omega, by omega⟩) dX12_forceOf_44 ?_
            refine lv_topi (fun v1111 ev1111 => ?_)
            obtain rfl : v1026 = v1111 := ev1026.trans ev1111.symm
            refine lv_imul hx hb dX12_forceOf_45 ?_
            refine lv_topi (fun v1112 ev1112 => ?_)
            obtain rfl : v1027 = v1112 := ev1027.trans ev1112.symm
            refine lv_aload_n hx hb dX12_forceOf_46 rfl (lv_at hl 3 rfl) ?_
            refine gM_12_25 hx hb ht hown hK hP m_1164 dX12_forceOf_47 ?_
            refine lv_aload_n hx hb dX12_forceOf_50 rfl (lv_at hl 3 rfl) ?_
            refine gM_12_40 hx hb ht hown hK hP m_1179 dX12_forceOf_51 ?_
            refine lv_iload hx hb dX12_forceOf_54 (lv_at hl 1 rfl) ?_
            refine lM_12_40 hx hb hK hP (f := n3) rfl (vp_in_iff.mpr ⟨by omega, by omega⟩) dX12_forceOf_56 ?_
            refine lv_topi (fun v1113 ev1113 => ?_)
            obtain rfl : v1026 = v1113 := ev1026.trans ev1113.symm
            refine lM_12_25 hx hb hK hP (f := (fa 12 25)) rfl (vp_in_iff.mpr ⟨by omega, by omega⟩) dX12_forceOf_57 ?_
            refine lv_topi (fun v1114 ev1114 => ?_)
            have tv1114 : 0 ≤ v1114.toInt ∧ v1114.toInt ≤ 12 := by rw [ev1114]; exact hI.2 12 25 _
            refine lv_iadd hx hb dX12_forceOf_58 ?_
            refine lv_topi (fun v1115 ev1115 => ?_)
            have tv1115 := z_add ev1115 (rfl : (v1027).toInt = _) (rfl : (v1114).toInt = _) (by omega) (by omega)
            refine lv_icmp_ge (tgt := 137) hx hb dX12_forceOf_59 (by decide) (fun c1116 => ?_) (fun c1116 => ?_)
            · have fc1116 := z_le (rfl : (v1115).toInt = _) (rfl : (x1109_5).toInt = _) c1116
              obtain ⟨v1117, ev1117⟩ : ∃ y : Int32, y = x1023_4 + 1 := ⟨_, rfl⟩
              have tv1117 := z_add ev1117 rfl (by decide : (1 : Int32).toInt = 1) (by omega) (by omega)
              refine lv_iinc (v := v1117) (lv' := [(4, .int v1117), (5, .int x1109_5), (3, .int x1109_3), (0, .ref h), (1, .int a), (2, .int b)]) hx hb dX12_forceOf_137 hl (k := 1) rfl (by rw [ev1117]; rfl) (by decide) rfl (fun ls hl => ?_)
              refine lv_goto (tgt := 13) hx hb dX12_forceOf_140 (by decide) ?_
              exact ih1024 v1117 x1109_3 ⟨by omega, by omega⟩ (show SqO (fa 12 25) n3 (mY (fa 12 26) (fa 12 27) (a).toInt) (vI (fa 12 28)) (aF (a).toInt) (v1117 : Int32).toInt (x1109_3 : Int32).toInt from (by
                    have hp9 : v1026 = n3 ((x1023_4 : Int32).toInt).toNat := ev1026
                    have hn9 := congrArg Int32.toInt (show v1114 = fa 12 25 ((v1026 : Int32).toInt).toNat from ev1114)
                    rw [hp9] at hn9
                    have hp8 := congrArg Int32.toInt hp9
                    exact SqI_end (i := (x1023_4 : Int32).toInt) (lo := 12 * (n3 ((x1023_4 : Int32).toInt).toNat).toInt) (c := (x1109_5 : Int32).toInt) (by omega) (by omega) (by omega) (by omega) hq1110_0)) (show (v1117 : Int32).toInt ≤ (n4 : Int32).toInt from by omega) (by omega) _ _ ls hP hD hS (lv_sub hl [0, 2, 3, 4, 5] rfl)
            · have fc1116 := z_nle (rfl : (v1115).toInt = _) (rfl : (x1109_5).toInt = _) c1116
              refine lv_iload_n hx hb dX12_forceOf_62 rfl (lv_at hl 4 rfl) ?_
              refine lv_iconst (v := 5) hx hb dX12_forceOf_63 (by decide) ?_
              refine lv_icmp_ne (tgt := 86) hx hb dX12_forceOf_64 (by decide) (fun c1118 => ?_) (fun c1118 => ?_)
              · have fc1118 := z_ne (rfl : (a).toInt = _) (by decide : (5 : Int32).toInt = 5) c1118
                refine lv_aload_n hx hb dX12_forceOf_86 rfl (lv_at hl 3 rfl) ?_
                refine gM_12_26 hx hb ht hown hK hP m_1165 dX12_forceOf_87 ?_
                refine lv_iload hx hb dX12_forceOf_90 (lv_at hl 0 rfl) ?_
                refine lM_12_26 hx hb hK hP (f := (fa 12 26)) rfl (vp_in_iff.mpr ⟨by omega, by omega⟩) dX12_forceOf_92 ?_
                refine lv_topi (fun v1119 ev1119 => ?_)
                refine lv_if_ne (tgt := 111) hx hb dX12_forceOf_93 (by decide) (fun c1120 => ?_) (fun c1120 => ?_)
                · have fc1120 := z_ne (rfl : (v1119).toInt = _) (by decide : (0 : Int32).toInt = 0) c1120
                  refine lv_iconst (v := 0) hx hb dX12_forceOf_111 (by decide) ?_
                  refine lv_istore (lv' := [(6, .int 0), (5, .int x1109_5), (4, .int x1023_4), (3, .int x1109_3), (0, .ref h), (1, .int a), (2, .int b)]) hx hb dX12_forceOf_112 hl (by decide) rfl (fun ls hl => ?_)
                  refine lv_iload hx hb dX12_forceOf_114 (lv_at hl 0 rfl) ?_
                  refine lv_if_eq (tgt := 129) hx hb dX12_forceOf_116 (by decide) (fun c1121 => ?_) (fun c1121 => ?_)
                  · skip
                    refine lv_iload_n hx hb dX12_forceOf_129 rfl (lv_at hl 3 rfl) ?_
                    refine lv_istore_n (lv' := [(3, .int x1109_3), (6, .int 0), (5, .int x1109_5), (4, .int x1023_4), (0, .ref h), (1, .int a), (2, .int b)]) hx hb dX12_forceOf_130 rfl hl (by decide) rfl (fun ls hl => ?_)
                    obtain ⟨v1122, ev1122⟩ : ∃ y : Int32, y = x1109_5 + 1 := ⟨_, rfl⟩
                    have tv1122 := z_add ev1122 rfl (by decide : (1 : Int32).toInt = 1) (by omega) (by omega)
                    refine lv_iinc (v := v1122) (lv' := [(5, .int v1122), (3, .int x1109_3), (6, .int 0), (4, .int x1023_4), (0, .ref h), (1, .int a), (2, .int b)]) hx hb dX12_forceOf_131 hl (k := 2) rfl (by rw [ev1122]; rfl) (by decide) rfl (fun ls hl => ?_)
                    refine lv_goto (tgt := 34) hx hb dX12_forceOf_134 (by decide) ?_
                    exact ih1110 v1122 x1109_3 ⟨by omega, by omega⟩ (show SqI (fa 12 25) n3 (mY (fa 12 26) (fa 12 27) (a).toInt) (vI (fa 12 28)) (aF (a).toInt) (x1023_4 : Int32).toInt (12 * (n3 ((x1023_4 : Int32).toInt).toNat).toInt) (v1122 : Int32).toInt (x1109_3 : Int32).toInt from (by
                          have hv9 := congrArg Int32.toInt (show v1119 = fa 12 26 ((x1109_5 : Int32).toInt).toNat from ev1119)
                          exact SqI_n (j := ((x1109_5 : Int32).toInt).toNat) (c := (x1109_5 : Int32).toInt) (by omega) (by omega) (show ¬ ((a.toInt = 5 ∧ (fa 12 26 ((x1109_5 : Int32).toInt).toNat).toInt = 1) ∨ (a.toInt ≠ 5 ∧ (fa 12 26 ((x1109_5 : Int32).toInt).toNat).toInt = 0 ∧ (fa 12 27 ((x1109_5 : Int32).toInt).toNat).toInt = a.toInt)) from by omega) hq1110_0)) (show 12 * (n3 ((x1023_4 : Int32).toInt).toNat).toInt ≤ (v1122 : Int32).toInt from (by have hq9 := hq1110_1; omega)) (show (v1122 : Int32).toInt ≤ 12 * (n3 ((x1023_4 : Int32).toInt).toNat).toInt + ((fa 12 25) ((n3 ((x1023_4 : Int32).toInt).toNat).toInt).toNat).toInt from (by have hp9 : v1026 = n3 ((x1023_4 : Int32).toInt).toNat := ev1026; have hn9 := congrArg Int32.toInt (show v1114 = fa 12 25 ((v1026 : Int32).toInt).toNat from ev1114); rw [hp9] at hn9; have hp8 := congrArg Int32.toInt hp9; omega)) (by omega) _ _ ls hP hD hS (lv_sub hl [0, 3, 1, 4, 5, 6] rfl)
                  · exact absurd rfl c1121
                · have fc1120 := z_eq (rfl : (v1119).toInt = _) (by decide : (0 : Int32).toInt = 0) c1120
                  refine lv_aload_n hx hb dX12_forceOf_96 rfl (lv_at hl 3 rfl) ?_
                  refine gM_12_27 hx hb ht hown hK hP m_1166 dX12_forceOf_97 ?_
                  refine lv_iload hx hb dX12_forceOf_100 (lv_at hl 0 rfl) ?_
                  refine lM_12_27 hx hb hK hP (f := (fa 12 27)) rfl (vp_in_iff.mpr ⟨by omega, by omega⟩) dX12_forceOf_102 ?_
                  refine lv_topi (fun v1123 ev1123 => ?_)
                  refine lv_iload_n hx hb dX12_forceOf_103 rfl (lv_at hl 4 rfl) ?_
                  refine lv_icmp_ne (tgt := 111) hx hb dX12_forceOf_104 (by decide) (fun c1124 => ?_) (fun c1124 => ?_)
                  · have fc1124 := z_ne (rfl : (v1123).toInt = _) (rfl : (a).toInt = _) c1124
                    refine lv_iconst (v := 0) hx hb dX12_forceOf_111 (by decide) ?_
                    refine lv_istore (lv' := [(6, .int 0), (5, .int x1109_5), (4, .int x1023_4), (3, .int x1109_3), (0, .ref h), (1, .int a), (2, .int b)]) hx hb dX12_forceOf_112 hl (by decide) rfl (fun ls hl => ?_)
                    refine lv_iload hx hb dX12_forceOf_114 (lv_at hl 0 rfl) ?_
                    refine lv_if_eq (tgt := 129) hx hb dX12_forceOf_116 (by decide) (fun c1125 => ?_) (fun c1125 => ?_)
                    · skip
                      refine lv_iload_n hx hb dX12_forceOf_129 rfl (lv_at hl 3 rfl) ?_
                      refine lv_istore_n (lv' := [(3, .int x1109_3), (6, .int 0), (5, .int x1109_5), (4, .int x1023_4), (0, .ref h), (1, .int a), (2, .int b)]) hx hb dX12_forceOf_130 rfl hl (by decide) rfl (fun ls hl => ?_)
                      obtain ⟨v1126, ev1126⟩ : ∃ y : Int32, y = x1109_5 + 1 := ⟨_, rfl⟩
                      have tv1126 := z_add ev1126 rfl (by decide : (1 : Int32).toInt = 1) (by omega) (by omega)
                      refine lv_iinc (v := v1126) (lv' := [(5, .int v1126), (3, .int x1109_3), (6, .int 0), (4, .int x1023_4), (0, .ref h), (1, .int a), (2, .int b)]) hx hb dX12_forceOf_131 hl (k := 2) rfl (by rw [ev1126]; rfl) (by decide) rfl (fun ls hl => ?_)
                      refine lv_goto (tgt := 34) hx hb dX12_forceOf_134 (by decide) ?_
                      exact ih1110 v1126 x1109_3 ⟨by omega, by omega⟩ (show SqI (fa 12 25) n3 (mY (fa 12 26) (fa 12 27) (a).toInt) (vI (fa 12 28)) (aF (a).toInt) (x1023_4 : Int32).toInt (12 * (n3 ((x1023_4 : Int32).toInt).toNat).toInt) (v1126 : Int32).toInt (x1109_3 : Int32).toInt from (by
                            have hv9 := congrArg Int32.toInt (show v1119 = fa 12 26 ((x1109_5 : Int32).toInt).toNat from ev1119)
                            have hm9 := congrArg Int32.toInt (show v1123 = fa 12 27 ((x1109_5 : Int32).toInt).toNat from ev1123)
                            exact SqI_n (j := ((x1109_5 : Int32).toInt).toNat) (c := (x1109_5 : Int32).toInt) (by omega) (by omega) (show ¬ ((a.toInt = 5 ∧ (fa 12 26 ((x1109_5 : Int32).toInt).toNat).toInt = 1) ∨ (a.toInt ≠ 5 ∧ (fa 12 26 ((x1109_5 : Int32).toInt).toNat).toInt = 0 ∧ (fa 12 27 ((x1109_5 : Int32).toInt).toNat).toInt = a.toInt)) from by omega) hq1110_0)) (show 12 * (n3 ((x1023_4 : Int32).toInt).toNat).toInt ≤ (v1126 : Int32).toInt from (by have hq9 := hq1110_1; omega)) (show (v1126 : Int32).toInt ≤ 12 * (n3 ((x1023_4 : Int32).toInt).toNat).toInt + ((fa 12 25) ((n3 ((x1023_4 : Int32).toInt).toNat).toInt).toNat).toInt from (by have hp9 : v1026 = n3 ((x1023_4 : Int32).toInt).toNat := ev1026; have hn9 := congrArg Int32.toInt (show v1114 = fa 12 25 ((v1026 : Int32).toInt).toNat from ev1114); rw [hp9] at hn9; have hp8 := congrArg Int32.toInt hp9; omega)) (by omega) _ _ ls hP hD hS (lv_sub hl [0, 3, 1, 4, 5, 6] rfl)
                    · exact absurd rfl c1125
                  · have fc1124 := z_eq (rfl : (v1123).toInt = _) (rfl : (a).toInt = _) c1124
                    refine lv_iconst (v := 1) hx hb dX12_forceOf_107 (by decide) ?_
                    refine lv_goto (tgt := 112) hx hb dX12_forceOf_108 (by decide) ?_
                    refine lv_istore (lv' := [(6, .int 1), (5, .int x1109_5), (4, .int x1023_4), (3, .int x1109_3), (0, .ref h), (1, .int a), (2, .int b)]) hx hb dX12_forceOf_112 hl (by decide) rfl (fun ls hl => ?_)
                    refine lv_iload hx hb dX12_forceOf_114 (lv_at hl 0 rfl) ?_
                    refine lv_if_eq (tgt := 129) hx hb dX12_forceOf_116 (by decide) (fun c1127 => ?_) (fun c1127 => ?_)
                    · exact absurd c1127 (by decide)
                    · skip
                      refine lv_aload_n hx hb dX12_forceOf_119 rfl (lv_at hl 4 rfl) ?_
                      refine gM_12_28 hx hb ht hown hK hP m_1167 dX12_forceOf_120 ?_
                      refine lv_iload hx hb dX12_forceOf_123 (lv_at hl 1 rfl) ?_
                      refine lM_12_28 hx hb hK hP (f := (fa 12 28)) rfl (vp_in_iff.mpr ⟨by omega, by omega⟩) dX12_forceOf_125 ?_
                      refine lv_topi (fun v1128 ev1128 => ?_)
                      refine lv_goto (tgt := 130) hx hb dX12_forceOf_126 (by decide) ?_
                      refine lv_istore_n (lv' := [(3, .int v1128), (6, .int 1), (5, .int x1109_5), (4, .int x1023_4), (0, .ref h), (1, .int a), (2, .int b)]) hx hb dX12_forceOf_130 rfl hl (by decide) rfl (fun ls hl => ?_)
                      obtain ⟨v1129, ev1129⟩ : ∃ y : Int32, y = x1109_5 + 1 := ⟨_, rfl⟩
                      have tv1129 := z_add ev1129 rfl (by decide : (1 : Int32).toInt = 1) (by omega) (by omega)
                      refine lv_iinc (v := v1129) (lv' := [(5, .int v1129), (3, .int v1128), (6, .int 1), (4, .int x1023_4), (0, .ref h), (1, .int a), (2, .int b)]) hx hb dX12_forceOf_131 hl (k := 2) rfl (by rw [ev1129]; rfl) (by decide) rfl (fun ls hl => ?_)
                      refine lv_goto (tgt := 34) hx hb dX12_forceOf_134 (by decide) ?_
                      exact ih1110 v1129 v1128 ⟨by omega, by omega⟩ (show SqI (fa 12 25) n3 (mY (fa 12 26) (fa 12 27) (a).toInt) (vI (fa 12 28)) (aF (a).toInt) (x1023_4 : Int32).toInt (12 * (n3 ((x1023_4 : Int32).toInt).toNat).toInt) (v1129 : Int32).toInt (v1128 : Int32).toInt from (by
                            have hv9 := congrArg Int32.toInt (show v1119 = fa 12 26 ((x1109_5 : Int32).toInt).toNat from ev1119)
                            have hm9 := congrArg Int32.toInt (show v1123 = fa 12 27 ((x1109_5 : Int32).toInt).toNat from ev1123)
                            exact SqI_y (j := ((x1109_5 : Int32).toInt).toNat) (c := (x1109_5 : Int32).toInt) (by omega) (by omega) (by omega) (show ((a.toInt = 5 ∧ (fa 12 26 ((x1109_5 : Int32).toInt).toNat).toInt = 1) ∨ (a.toInt ≠ 5 ∧ (fa 12 26 ((x1109_5 : Int32).toInt).toNat).toInt = 0 ∧ (fa 12 27 ((x1109_5 : Int32).toInt).toNat).toInt = a.toInt)) from by omega) (congrArg Int32.toInt (show v1128 = fa 12 28 ((x1109_5 : Int32).toInt).toNat from ev1128)))) (show 12 * (n3 ((x1023_4 : Int32).toInt).toNat).toInt ≤ (v1129 : Int32).toInt from (by have hq9 := hq1110_1; omega)) (show (v1129 : Int32).toInt ≤ 12 * (n3 ((x1023_4 : Int32).toInt).toNat).toInt + ((fa 12 25) ((n3 ((x1023_4 : Int32).toInt).toNat).toInt).toNat).toInt from (by have hp9 : v1026 = n3 ((x1023_4 : Int32).toInt).toNat := ev1026; have hn9 := congrArg Int32.toInt (show v1114 = fa 12 25 ((v1026 : Int32).toInt).toNat from ev1114); rw [hp9] at hn9; have hp8 := congrArg Int32.toInt hp9; omega)) (by omega) _ _ ls hP hD hS (lv_sub hl [0, 3, 1, 4, 5, 6] rfl)
              · have fc1118 := z_eq (rfl : (a).toInt = _) (by decide : (5 : Int32).toInt = 5) c1118
                refine lv_aload_n hx hb dX12_forceOf_67 rfl (lv_at hl 3 rfl) ?_
                refine gM_12_26 hx hb ht hown hK hP m_1165 dX12_forceOf_68 ?_
                refine lv_iload hx hb dX12_forceOf_71 (lv_at hl 0 rfl) ?_
                refine lM_12_26 hx hb hK hP (f := (fa 12 26)) rfl (vp_in_iff.mpr ⟨by omega, by omega⟩) dX12_forceOf_73 ?_
                refine lv_topi (fun v1130 ev1130 => ?_)
                refine lv_iconst (v := 1) hx hb dX12_forceOf_74 (by decide) ?_
                refine lv_icmp_ne (tgt := 82) hx hb dX12_forceOf_75 (by decide) (fun c1131 => ?_) (fun c1131 => ?_)
                · have fc1131 := z_ne (rfl : (v1130).toInt = _) (by decide : (1 : Int32).toInt = 1) c1131
                  refine lv_iconst (v := 0) hx hb dX12_forceOf_82 (by decide) ?_
                  refine lv_goto (tgt := 112) hx hb dX12_forceOf_83 (by decide) ?_
                  refine lv_istore (lv' := [(6, .int 0), (5, .int x1109_5), (4, .int x1023_4), (3, .int x1109_3), (0, .ref h), (1, .int a), (2, .int b)]) hx hb dX12_forceOf_112 hl (by decide) rfl (fun ls hl => ?_)
                  refine lv_iload hx hb dX12_forceOf_114 (lv_at hl 0 rfl) ?_
                  refine lv_if_eq (tgt := 129) hx hb dX12_forceOf_116 (by decide) (fun c1132 => ?_) (fun c1132 => ?_)
                  · skip
                    refine lv_iload_n hx hb dX12_forceOf_129 rfl (lv_at hl 3 rfl) ?_
                    refine lv_istore_n (lv' := [(3, .int x1109_3), (6, .int 0), (5, .int x1109_5), (4, .int x1023_4), (0, .ref h), (1, .int a), (2, .int b)]) hx hb dX12_forceOf_130 rfl hl (by decide) rfl (fun ls hl => ?_)
                    obtain ⟨v1133, ev1133⟩ : ∃ y : Int32, y = x1109_5 + 1 := ⟨_, rfl⟩
                    have tv1133 := z_add ev1133 rfl (by decide : (1 : Int32).toInt = 1) (by omega) (by omega)
                    refine lv_iinc (v := v1133) (lv' := [(5, .int v1133), (3, .int x1109_3), (6, .int 0), (4, .int x1023_4), (0, .ref h), (1, .int a), (2, .int b)]) hx hb dX12_forceOf_131 hl (k := 2) rfl (by rw [ev1133]; rfl) (by decide) rfl (fun ls hl => ?_)
                    refine lv_goto (tgt := 34) hx hb dX12_forceOf_134 (by decide) ?_
                    exact ih1110 v1133 x1109_3 ⟨by omega, by omega⟩ (show SqI (fa 12 25) n3 (mY (fa 12 26) (fa 12 27) (a).toInt) (vI (fa 12 28)) (aF (a).toInt) (x1023_4 : Int32).toInt (12 * (n3 ((x1023_4 : Int32).toInt).toNat).toInt) (v1133 : Int32).toInt (x1109_3 : Int32).toInt from (by
                          have hv9 := congrArg Int32.toInt (show v1130 = fa 12 26 ((x1109_5 : Int32).toInt).toNat from ev1130)
                          exact SqI_n (j := ((x1109_5 : Int32).toInt).toNat) (c := (x1109_5 : Int32).toInt) (by omega) (by omega) (show ¬ ((a.toInt = 5 ∧ (fa 12 26 ((x1109_5 : Int32).toInt).toNat).toInt = 1) ∨ (a.toInt ≠ 5 ∧ (fa 12 26 ((x1109_5 : Int32).toInt).toNat).toInt = 0 ∧ (fa 12 27 ((x1109_5 : Int32).toInt).toNat).toInt = a.toInt)) from by omega) hq1110_0)) (show 12 * (n3 ((x1023_4 : Int32).toInt).toNat).toInt ≤ (v1133 : Int32).toInt from (by have hq9 := hq1110_1; omega)) (show (v1133 : Int32).toInt ≤ 12 * (n3 ((x1023_4 : Int32).toInt).toNat).toInt + ((fa 12 25) ((n3 ((x1023_4 : Int32).toInt).toNat).toInt).toNat).toInt from (by have hp9 : v1026 = n3 ((x1023_4 : Int32).toInt).toNat := ev1026; have hn9 := congrArg Int32.toInt (show v1114 = fa 12 25 ((v1026 : Int32).toInt).toNat from ev1114); rw [hp9] at hn9; have hp8 := congrArg Int32.toInt hp9; omega)) (by omega) _ _ ls hP hD hS (lv_sub hl [0, 3, 1, 4, 5, 6] rfl)
                  · exact absurd rfl c1132
                · have fc1131 := z_eq (rfl : (v1130).toInt = _) (by decide : (1 : Int32).toInt = 1) c1131
                  refine lv_iconst (v := 1) hx hb dX12_forceOf_78 (by decide) ?_
                  refine lv_goto (tgt := 112) hx hb dX12_forceOf_79 (by decide) ?_
                  refine lv_istore (lv' := [(6, .int 1), (5, .int x1109_5), (4, .int x1023_4), (3, .int x1109_3), (0, .ref h), (1, .int a), (2, .int b)]) hx hb dX12_forceOf_112 hl (by decide) rfl (fun ls hl => ?_)
                  refine lv_iload hx hb dX12_forceOf_114 (lv_at hl 0 rfl) ?_
                  refine lv_if_eq (tgt := 129) hx hb dX12_forceOf_116 (by decide) (fun c1134 => ?_) (fun c1134 => ?_)
                  · exact absurd c1134 (by decide)
                  · skip
                    refine lv_aload_n hx hb dX12_forceOf_119 rfl (lv_at hl 4 rfl) ?_
                    refine gM_12_28 hx hb ht hown hK hP m_1167 dX12_forceOf_120 ?_
                    refine lv_iload hx hb dX12_forceOf_123 (lv_at hl 1 rfl) ?_
                    refine lM_12_28 hx hb hK hP (f := (fa 12 28)) rfl (vp_in_iff.mpr ⟨by omega, by omega⟩) dX12_forceOf_125 ?_
                    refine lv_topi (fun v1135 ev1135 => ?_)
                    refine lv_goto (tgt := 130) hx hb dX12_forceOf_126 (by decide) ?_
                    refine lv_istore_n (lv' := [(3, .int v1135), (6, .int 1), (5, .int x1109_5), (4, .int x1023_4), (0, .ref h), (1, .int a), (2, .int b)]) hx hb dX12_forceOf_130 rfl hl (by decide) rfl (fun ls hl => ?_)
                    obtain ⟨v1136, ev1136⟩ : ∃ y : Int32, y = x1109_5 + 1 := ⟨_, rfl⟩
                    have tv1136 := z_add ev1136 rfl (by decide : (1 : Int32).toInt = 1) (by omega) (by omega)
                    refine lv_iinc (v := v1136) (lv' := [(5, .int v1136), (3, .int v1135), (6, .int 1), (4, .int x1023_4), (0, .ref h), (1, .int a), (2, .int b)]) hx hb dX12_forceOf_131 hl (k := 2) rfl (by rw [ev1136]; rfl) (by decide) rfl (fun ls hl => ?_)
                    refine lv_goto (tgt := 34) hx hb dX12_forceOf_134 (by decide) ?_
                    exact ih1110 v1136 v1135 ⟨by omega, by omega⟩ (show SqI (fa 12 25) n3 (mY (fa 12 26) (fa 12 27) (a).toInt) (vI (fa 12 28)) (aF (a).toInt) (x1023_4 : Int32).toInt (12 * (n3 ((x1023_4 : Int32).toInt).toNat).toInt) (v1136 : Int32).toInt (v1135 : Int32).toInt from (by
                          have hv9 := congrArg Int32.toInt (show v1130 = fa 12 26 ((x1109_5 : Int32).toInt).toNat from ev1130)
                          exact SqI_y (j := ((x1109_5 : Int32).toInt).toNat) (c := (x1109_5 : Int32).toInt) (by omega) (by omega) (by omega) (show ((a.toInt = 5 ∧ (fa 12 26 ((x1109_5 : Int32).toInt).toNat).toInt = 1) ∨ (a.toInt ≠ 5 ∧ (fa 12 26 ((x1109_5 : Int32).toInt).toNat).toInt = 0 ∧ (fa 12 27 ((x1109_5 : Int32).toInt).toNat).toInt = a.toInt)) from by omega) (congrArg Int32.toInt (show v1135 = fa 12 28 ((x1109_5 : Int32).toInt).toNat from ev1135)))) (show 12 * (n3 ((x1023_4 : Int32).toInt).toNat).toInt ≤ (v1136 : Int32).toInt from (by have hq9 := hq1110_1; omega)) (show (v1136 : Int32).toInt ≤ 12 * (n3 ((x1023_4 : Int32).toInt).toNat).toInt + ((fa 12 25) ((n3 ((x1023_4 : Int32).toInt).toNat).toInt).toNat).toInt from (by have hp9 : v1026 = n3 ((x1023_4 : Int32).toInt).toNat := ev1026; have hn9 := congrArg Int32.toInt (show v1114 = fa 12 25 ((v1026 : Int32).toInt).toNat from ev1114); rw [hp9] at hn9; have hp8 := congrArg Int32.toInt hp9; omega)) (by omega) _ _ ls hP hD hS (lv_sub hl [0, 3, 1, 4, 5, 6] rfl)
        exact lp1110 97 v1027 x1023_3 ⟨by omega, by omega⟩ (show SqI (fa 12 25) n3 (mY (fa 12 26) (fa 12 27) (a).toInt) (vI (fa 12 28)) (aF (a).toInt) (x1023_4 : Int32).toInt (12 * (n3 ((x1023_4 : Int32).toInt).toNat).toInt) (v1027 : Int32).toInt (x1023_3 : Int32).toInt from (by have hp9 := congrArg Int32.toInt (show v1026 = n3 ((x1023_4 : Int32).toInt).toNat from ev1026); have he9 : (v1027 : Int32).toInt = 12 * (n3 ((x1023_4 : Int32).toInt).toNat).toInt := (by omega); rw [he9]; exact SqI_0 hq1024_0)) (show 12 * (n3 ((x1023_4 : Int32).toInt).toNat).toInt ≤ (v1027 : Int32).toInt from (by have hp9 := congrArg Int32.toInt (show v1026 = n3 ((x1023_4 : Int32).toInt).toNat from ev1026); omega)) (show (v1027 : Int32).toInt ≤ 12 * (n3 ((x1023_4 : Int32).toInt).toNat).toInt + ((fa 12 25) ((n3 ((x1023_4 : Int32).toInt).toNat).toInt).toNat).toInt from (by have hp9 := congrArg Int32.toInt (show v1026 = n3 ((x1023_4 : Int32).toInt).toNat from ev1026); have hb9 : 0 ≤ (fa 12 25 ((n3 ((x1023_4 : Int32).toInt).toNat).toInt).toNat).toInt ∧ (fa 12 25 ((n3 ((x1023_4 : Int32).toInt).toNat).toInt).toNat).toInt ≤ 12 := hI.2 12 25 _; omega)) (by first | decide | omega) _ _ ls hP hD hS (lv_sub hl [0, 1, 2, 3, 4, 5] rfl)
  have : (0 : Int32).toInt = 0 := (by decide)
  exact lp1024 9 0 r5 ⟨by decide, by decide⟩ (show SqO (fa 12 25) n3 (mY (fa 12 26) (fa 12 27) (a).toInt) (vI (fa 12 28)) (aF (a).toInt) (0 : Int32).toInt (r5 : Int32).toInt from (by have hz : (0 : Int32).toInt = 0 := (by decide); rw [hz, xr5_0]; exact SqO_0)) (show (0 : Int32).toInt ≤ (n4 : Int32).toInt from by omega) (by first | decide | omega) _ _ ls hP hD hS (lv_sub hl [0, 1, 2, 3, 4] rfl)
set_option maxHeartbeats 4000000 in
set_option maxRecDepth 100000 in
/-- X12_force -/
theorem c_X12_force_f (l : Launch) (dC : Nat → ClassId) (dI : Nat → Nat → Nat) (sz : Nat) (h : Nat) (g : Nat → Nat → Nat) (ca : Nat → Nat → ClassId) (iv : Nat → Nat → Int32) (lv : Nat → Nat → Int64) (fa : Nat → Nat → Nat → Int32) (la : Nat → Nat → Nat → Int64) (hI : IX iv fa) (a : Int32) (b : Int32) (hJC : JCf (iv 12 23).toInt (fa 12 25) (fa 12 26) (fa 12 27) (fa 12 28)) (hJK : ∀ k j : Nat, (k : Int) < (iv 12 23).toInt → 12 * k ≤ j → (j : Int) < 12 * (k : Int) + (fa 12 25 k).toInt → (fa 12 26 j).toInt = 3 → 0 ≤ (fa 12 28 j).toInt ∧ (fa 12 28 j).toInt < (k : Int)) : Met l yX12_force (wc yX12_force cX12_force 3 (some .int)) ({ frames := 2, cells := 0, slots := 0, locals := 49 } : Room) (pW (dC, dI) classes (WM h g ca iv lv fa la) (TM ca) sz [.ref h, .int a, .int b]) (va_Qi (fun r (u : SS) => ∃ (na_12_39 : Nat → Int32) (na_12_40 : Nat → Int32) (ni_12_41 : Int32), (∀ j, inb (bA 12 39 j) (na_12_39 j)) ∧ (∀ j, inb (bA 12 40 j) (na_12_40 j)) ∧ inb (bI 12 41) ni_12_41 ∧ (((r.toInt = -100002 ∧ ¬ (0 ≤ a.toInt ∧ a.toInt ≤ 5 ∧ 0 ≤ b.toInt ∧ b.toInt ≤ 3000)) ∨ ((0 ≤ a.toInt ∧ a.toInt ≤ 5 ∧ 0 ≤ b.toInt ∧ b.toInt ≤ 3000) ∧ FoY (iv 12 23).toInt (fa 12 24) (fa 12 25) (fa 12 26) (fa 12 27) (fa 12 28) a.toInt b.toInt r.toInt))) ∧ (True) ∧ u = ((u2 iv 12 41 ni_12_41), lv, (u2 (u2 fa 12 39 na_12_39) 12 40 na_12_40), la)) (bM (dC, dI) h g ca (va_A (WM h g ca iv lv fa la) sz)) (va_A (WM h g ca iv lv fa la) sz)) 0 0 (va_A (WM h g ca iv lv fa la) sz) := by
  refine Met.ofW (cc := cX12_force) (maxL := 3) (ret := (some .int)) (by decide) rfl ?_
  intro p e s m args below meth c s₁ B hml hv
  obtain ⟨rfl, hsz, hP, hK, hD0⟩ := hv
  have hx := B.exec
  have hb := B.bytes
  have hr := B.returns
  have ht := tb_tl (atoms_spec (ws := wc yX12_force cX12_force 3 (some .int)) B.pre)
  have hown : s.vm.findClass RX12 = some m.cls := findClass_of_methodNamed B.named
  have hlocks := B.notSynchronized
  subst hsz
  have hD := hD0.self (sz := s.heap.size)
  generalize hAe : va_A (WM h g ca iv lv fa la) s.heap.size = A at hD ⊢
  have hA : ∀ q : Nat, s.heap.size ≤ q → A q := fun q h => by rw [← hAe]; exact Or.inr h
  have hS : va_S A s.heap s.heap [] := va_S.rf
  have hl := lv_entry [.ref h, .int a, .int b] (n := 3) (Nat.le_of_ble_eq_true rfl)
  rw [lg_entry_eq]
  generalize (lg_sl [.ref h, .int a, .int b] ++ List.replicate (3 - (lg_sl [.ref h, .int a, .int b]).length) Slot.unset).toArray = ls at hl ⊢
  have hl : lv_has ls 3 [(0, .ref h), (1, .int a), (2, .int b)] := hl
  refine lv_iload_n hx hb dX12_force_0 rfl (lv_at hl 1 rfl) ?_
  refine lv_i2l (v := (a.toInt64)) hx hb dX12_force_1 rfl ?_
  refine lv_lconst (v := 0) hx hb dX12_force_2 (by decide) ?_
  refine lv_ldc2 hx hb hown (ht _ m_1508) dX12_force_3 ?_
  refine vp_callSi (W.runS (As := [.long (a.toInt64), .long 0, .long 5]) (rest := []) ⟨hx, hb, hml, hown, ht⟩ (c_X12_in l dC dI (a.toInt64) 0 5 (a.toInt) (0) (5) ((Int32.toInt_toInt64 a).trans rfl) (by decide : (0 : Int64).toInt = 0) (by decide : (5 : Int64).toInt = 5)) (kS 3 ht m_1370 m_1371 m_89 m_1372 rfl rfl hd_X12_in_v ⟨Nat.le_of_ble_eq_true rfl, Nat.le_of_ble_eq_true rfl⟩) (sR noP (hK.sub (tys' := []) [] rfl)) rfl rfl hl.1 rfl (lv_room (Nat.le_of_ble_eq_true rfl)) dX12_force_6 ⟨Nat.le_of_ble_eq_true rfl, Nat.le_of_ble_eq_true rfl⟩) (fun r1 hr1 => ?_)
  rcases hr1 with ⟨rfl, fr1⟩ | ⟨rfl, fr1⟩
  · skip
    refine lv_if_eq (tgt := 28) hx hb dX12_force_9 (by decide) (fun c2 => ?_) (fun c2 => ?_)
    · exact absurd c2 (by decide)
    · skip
      refine lv_iload_n hx hb dX12_force_12 rfl (lv_at hl 2 rfl) ?_
      refine vp_callSi (W.runS (As := [.int b]) (rest := []) ⟨hx, hb, hml, hown, ht⟩ (c_X12_isDay l dC dI b) (kS 1 ht m_1422 m_1423 m_89 m_1424 rfl rfl hd_X12_isDay_v ⟨Nat.le_of_ble_eq_true rfl, Nat.le_of_ble_eq_true rfl⟩) (sR noP (hK.sub (tys' := []) [] rfl)) rfl rfl hl.1 rfl (lv_room (Nat.le_of_ble_eq_true rfl)) dX12_force_13 ⟨Nat.le_of_ble_eq_true rfl, Nat.le_of_ble_eq_true rfl⟩) (fun r3 hr3 => ?_)
      rcases hr3 with ⟨rfl, fr3⟩ | ⟨rfl, fr3⟩
      · skip
        refine lv_if_eq (tgt := 28) hx hb dX12_force_16 (by decide) (fun c4 => ?_) (fun c4 => ?_)
        · exact absurd c4 (by decide)
        · skip
          refine lv_aload_n hx hb dX12_force_19 rfl (lv_at hl 0 rfl) ?_
          refine lv_iload_n hx hb dX12_force_20 rfl (lv_at hl 1 rfl) ?_
          refine lv_iload_n hx hb dX12_force_21 rfl (lv_at hl 2 rfl) ?_
          have hFc := free_all hD hS hA
          refine va_calli (va_runV (As := [.int a, .int b]) (rest := []) ⟨hx, hb, hml, hown, ht⟩ (c_X12_forceOf_f l dC dI s.heap.size h g ca iv lv fa la hI a b ⟨by omega, by omega⟩ hJC hJK) (kV 2 ht m_1509 m_1511 m_55 m_89 m_1512 rfl rfl hd_X12_forceOf_v ⟨Nat.le_of_ble_eq_true rfl, Nat.le_of_ble_eq_true rfl⟩) (vW hP hK hD (rM_12 hK hP)) rfl rfl hl.1 rfl (lv_room (Nat.le_of_ble_eq_true rfl)) dX12_force_22 ⟨Nat.le_of_ble_eq_true rfl, Nat.le_of_ble_eq_true rfl⟩) hS (fun q _ h => hFc q h) hFc (fun r5 u t H1 locs ht9 hvm hr5 hB hz1 hk1 hS => ?_)
          obtain ⟨n6, n7, n8, hn6, hn7, hn8, xr5_0, hr5, rfl⟩ := hr5
          have hn8 : 0 ≤ n8.toInt ∧ n8.toInt ≤ 8 := hn8
          obtain ⟨hP, hD⟩ := hB
          rw [ht9] at hP
          generalize H1 = H at hP hS ⊢
          have hP : va_P (dC, dI) classes (WM h g ca (u2 iv 12 41 n8) lv (u2 (u2 fa 12 39 n6) 12 40 n7) la) H := hP
          have hD : va_D A (WM h g ca (u2 iv 12 41 n8) lv (u2 (u2 fa 12 39 n6) 12 40 n7) la) := (show va_D _ (WM h g ca (u2 iv 12 41 n8) lv (u2 (u2 fa 12 39 n6) 12 40 n7) la) from hD).weaken (fun _ _ _ h => hFc _ h)
          have i_12_23 : 0 ≤ (iv 12 23).toInt ∧ (iv 12 23).toInt ≤ 8 := hI.1 12 23
          have xr5_0 : FoY ((iv 12 23) : Int32).toInt (fa 12 24) (fa 12 25) (fa 12 26) (fa 12 27) (fa 12 28) (a : Int32).toInt (b : Int32).toInt (r5 : Int32).toInt := xr5_0
          refine lv_goto (tgt := 30) hx hb dX12_force_25 (by decide) ?_
          have hP9 : va_P (dC, dI) classes (WM h g ca (u2 iv 12 41 n8) lv (u2 (u2 fa 12 39 n6) 12 40 n7) la) H := hP
          have hD9 : va_D A (WM h g ca (u2 iv 12 41 n8) lv (u2 (u2 fa 12 39 n6) 12 40 n7) la) := hD
          exact W.iret (v := r5) hx hb hr (fun t ht9 hW => ⟨⟨r5, ((u2 iv 12 41 n8), lv, (u2 (u2 fa 12 39 n6) 12 40 n7), la), rfl, ⟨n6, n7, n8, hn6, hn7, (show inb (0, 8) n8 from ⟨by omega, by omega⟩), (show (((r5 : Int32).toInt = -100002 ∧ ¬ (0 ≤ (a).toInt ∧ (a).toInt ≤ 5 ∧ 0 ≤ (b).toInt ∧ (b).toInt ≤ 3000)) ∨ ((0 ≤ (a).toInt ∧ (a).toInt ≤ 5 ∧ 0 ≤ (b).toInt ∧ (b).toInt ≤ 3000) ∧ FoY (iv 12 23).toInt (fa 12 24) (fa 12 25) (fa 12 26) (fa 12 27) (fa 12 28) (a).toInt (b).toInt (r5 : Int32).toInt)) from Or.inr ⟨⟨by omega, by omega, by omega, by omega⟩, xr5_0⟩), trivial, rfl⟩, by rw [ht9]; exact hP9, hD9⟩, hS.F ht9⟩) hS.2.2 dX12_force_30
      · skip
        refine lv_if_eq (tgt := 28) hx hb dX12_force_16 (by decide) (fun c9 => ?_) (fun c9 => ?_)
        · skip
          refine lv_ldc hx hb hown (ht _ m_1373) dX12_force_28 ?_
          have : ((-100002) : Int32).toInt = (-100002) := (by decide)
          have hP9 : va_P (dC, dI) classes (WM h g ca (u2 iv 12 41 (iv 12 41)) lv (u2 (u2 fa 12 39 (fa 12 39)) 12 40 (fa 12 40)) la) s.heap := hP
          have hD9 : va_D A (WM h g ca (u2 iv 12 41 (iv 12 41)) lv (u2 (u2 fa 12 39 (fa 12 39)) 12 40 (fa 12 40)) la) := hD
          exact W.iret (v := (-100002)) hx hb hr (fun t ht9 hW => ⟨⟨(-100002), ((u2 iv 12 41 (iv 12 41)), lv, (u2 (u2 fa 12 39 (fa 12 39)) 12 40 (fa 12 40)), la), rfl, ⟨(fa 12 39), (fa 12 40), (iv 12 41), (hI.2 12 39), (hI.2 12 40), (hI.1 12 41), (show ((((-100002) : Int32).toInt = -100002 ∧ ¬ (0 ≤ (a).toInt ∧ (a).toInt ≤ 5 ∧ 0 ≤ (b).toInt ∧ (b).toInt ≤ 3000)) ∨ ((0 ≤ (a).toInt ∧ (a).toInt ≤ 5 ∧ 0 ≤ (b).toInt ∧ (b).toInt ≤ 3000) ∧ FoY (iv 12 23).toInt (fa 12 24) (fa 12 25) (fa 12 26) (fa 12 27) (fa 12 28) (a).toInt (b).toInt ((-100002) : Int32).toInt)) from Or.inl ⟨by omega, by omega⟩), trivial, rfl⟩, by rw [ht9]; exact hP9, hD9⟩, hS.F ht9⟩) hS.2.2 dX12_force_30
        · exact absurd rfl c9
  · skip
    refine lv_if_eq (tgt := 28) hx hb dX12_force_9 (by decide) (fun c10 => ?_) (fun c10 => ?_)
    · skip
      refine lv_ldc hx hb hown (ht _ m_1373) dX12_force_28 ?_
      have : ((-100002) : Int32).toInt = (-100002) := (by decide)
      have hP9 : va_P (dC, dI) classes (WM h g ca (u2 iv 12 41 (iv 12 41)) lv (u2 (u2 fa 12 39 (fa 12 39)) 12 40 (fa 12 40)) la) s.heap := hP
      have hD9 : va_D A (WM h g ca (u2 iv 12 41 (iv 12 41)) lv (u2 (u2 fa 12 39 (fa 12 39)) 12 40 (fa 12 40)) la) := hD
      exact W.iret (v := (-100002)) hx hb hr (fun t ht9 hW => ⟨⟨(-100002), ((u2 iv 12 41 (iv 12 41)), lv, (u2 (u2 fa 12 39 (fa 12 39)) 12 40 (fa 12 40)), la), rfl, ⟨(fa 12 39), (fa 12 40), (iv 12 41), (hI.2 12 39), (hI.2 12 40), (hI.1 12 41), (show ((((-100002) : Int32).toInt = -100002 ∧ ¬ (0 ≤ (a).toInt ∧ (a).toInt ≤ 5 ∧ 0 ≤ (b).toInt ∧ (b).toInt ≤ 3000)) ∨ ((0 ≤ (a).toInt ∧ (a).toInt ≤ 5 ∧ 0 ≤ (b).toInt ∧ (b).toInt ≤ 3000) ∧ FoY (iv 12 23).toInt (fa 12 24) (fa 12 25) (fa 12 26) (fa 12 27) (fa 12 28) (a).toInt (b).toInt ((-100002) : Int32).toInt)) from Or.inl ⟨by omega, by omega⟩), trivial, rfl⟩, by rw [ht9]; exact hP9, hD9⟩, hS.F ht9⟩) hS.2.2 dX12_force_30
    · exact absurd rfl c10
/-! ===== sm0 ===== -/

/-- sums and numbers of those that count -/
noncomputable def smL (c : Nat → Prop) (w : Nat → Int32) : Nat → Int64
  | 0 => 0
  | n + 1 => @ite Int64 (c n) (Classical.propDecidable _) (smL c w n + (w n).toInt64) (smL c w n)
noncomputable def smC (c : Nat → Prop) : Nat → Int32
  | 0 => 0
  | n + 1 => @ite Int32 (c n) (Classical.propDecidable _) (smC c n + 1) (smC c n)
theorem smL_y {c : Nat → Prop} {w : Nat → Int32} {n n' : Nat} (h : n' = n + 1) (hc : c n) : smL c w n' = smL c w n + (w n).toInt64 := by
  rw [h]; exact if_pos hc
theorem smL_n {c : Nat → Prop} {w : Nat → Int32} {n n' : Nat} (h : n' = n + 1) (hc : ¬ c n) : smL c w n' = smL c w n := by
  rw [h]; exact if_neg hc
theorem smC_y {c : Nat → Prop} {n n' : Nat} (h : n' = n + 1) (hc : c n) : smC c n' = smC c n + 1 := by
  rw [h]; exact if_pos hc
theorem smC_n {c : Nat → Prop} {n n' : Nat} (h : n' = n + 1) (hc : ¬ c n) : smC c n' = smC c n := by
  rw [h]; exact if_neg hc
theorem smL_cg {c c' : Nat → Prop} {w w' : Nat → Int32} : ∀ n : Nat, (∀ j : Nat, j < n → (c j ↔ c' j) ∧ w j = w' j) → smL c w n = smL c' w' n
  | 0, _ => rfl
  | n + 1, h => by
    have q := h n (Nat.lt_succ_self n)
    have r := smL_cg n (fun j hj => h j (Nat.lt_succ_of_lt hj))
    by_cases e : c n
    · rw [smL_y rfl e, smL_y rfl (q.1.mp e), r, q.2]
    · rw [smL_n rfl e, smL_n rfl (fun z => e (q.1.mpr z)), r]
theorem smC_cg {c c' : Nat → Prop} : ∀ n : Nat, (∀ j : Nat, j < n → (c j ↔ c' j)) → smC c n = smC c' n
  | 0, _ => rfl
  | n + 1, h => by
    have q := h n (Nat.lt_succ_self n)
    have r := smC_cg n (fun j hj => h j (Nat.lt_succ_of_lt hj))
    by_cases e : c n
    · rw [smC_y rfl e, smC_y rfl (q.mp e), r]
    · rw [smC_n rfl e, smC_n rfl (fun z => e (q.mpr z)), r]
/-- what the sums may be -/
theorem smL_b {c : Nat → Prop} {w : Nat → Int32} {lo hi : Int} (h0 : 0 ≤ lo) (h1 : lo ≤ hi) (h2 : hi ≤ 9999) : ∀ n : Nat, n ≤ 60 → (∀ j : Nat, j < n → lo ≤ (w j).toInt ∧ (w j).toInt ≤ hi) → lo * (smC c n).toInt ≤ (smL c w n).toInt ∧ (smL c w n).toInt ≤ hi * (smC c n).toInt ∧ 0 ≤ (smC c n).toInt ∧ (smC c n).toInt ≤ (n : Int)
  | 0, _, _ => by
    have e1 : (smL c w 0).toInt = 0 := by show (0 : Int64).toInt = 0; decide
    have e2 : (smC c 0).toInt = 0 := by show (0 : Int32).toInt = 0; decide
    rw [e1, e2]; exact ⟨by omega, by omega, by omega, by omega⟩
  | n + 1, hn, h => by
    obtain ⟨q1, q2, q3, q4⟩ := smL_b (c := c) h0 h1 h2 n (by omega) (fun j hj => h j (by omega))
    have z := h n (by omega)
    by_cases e : c n
    · have a1 : (smC c (n + 1)).toInt = (smC c n).toInt + 1 := by
        rw [smC_y rfl e]; exact z_add rfl rfl (by decide : (1 : Int32).toInt = 1) (by omega) (by omega)
      have m0 : hi * (smC c n).toInt ≤ 9999 * 60 := Int.mul_le_mul h2 (by omega) q3 (by decide)
      have m1 : 0 ≤ lo * (smC c n).toInt := Int.mul_nonneg h0 q3
      have a2 : (smL c w (n + 1)).toInt = (smL c w n).toInt + (w n).toInt := by
        rw [smL_y rfl e]; exact l_add rfl rfl (Int32.toInt_toInt64 _) (by omega) (by omega)
      rw [a1, a2, Int.mul_add, Int.mul_add]
      exact ⟨by omega, by omega, by omega, by omega⟩
    · rw [smL_n rfl e, smC_n rfl e]; exact ⟨q1, q2, q3, by omega⟩
