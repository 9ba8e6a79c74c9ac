/-! ===== bk5 ===== -/
set_option maxHeartbeats 4000000 in
set_option maxRecDepth 100000 in
/-- X12_atFirst -/
theorem c_X12_atFirst_f (l : Launch) (dC : Nat → ClassId) (dI : Nat → Nat → Nat) (a : Int32) (h_a : 0 ≤ a.toInt ∧ a.toInt ≤ 5) : Met l yX12_atFirst (wc yX12_atFirst cX12_atFirst 1 (some .int)) ({ frames := 0, cells := 0, slots := 0, locals := 0 } : Room) (pR (dC, dI) classes [] [] [.int a]) (vp_Si (fun r => (0 ≤ r.toInt ∧ r.toInt ≤ 110) ∧ (r.toInt = aF a.toInt))) 0 0 (fun _ => False) := by
  refine Met.ofW (cc := cX12_atFirst) (maxL := 1) (ret := (some .int)) (by decide) rfl ?_
  intro p e s m args below meth c s₁ B hml hv
  obtain ⟨rfl, hP, hK⟩ := hv
  have hx := B.exec
  have hb := B.bytes
  have hr := B.returns
  have ht := tb_tl (atoms_spec (ws := wc yX12_atFirst cX12_atFirst 1 (some .int)) B.pre)
  have hown : s.vm.findClass RX12 = some m.cls := findClass_of_methodNamed B.named
  have hlocks := B.notSynchronized
  have hl := lv_entry [.int a] (n := 1) (Nat.le_of_ble_eq_true rfl)
  rw [lg_entry_eq]
  generalize (lg_sl [.int a] ++ List.replicate (1 - (lg_sl [.int a]).length) Slot.unset).toArray = ls at hl ⊢
  have hl : lv_has ls 1 [(0, .int a)] := hl
  refine lv_iload_n hx hb dX12_atFirst_0 rfl (lv_at hl 0 rfl) ?_
  rcases sw_0_4 a with h1 | rfl | rfl | rfl | rfl | rfl
  · refine lv_tableOut (tgt := 48) hx hb dX12_atFirst_1 h1 (by decide) ?_
    refine lv_iconst (v := 0) hx hb dX12_atFirst_48 (by decide) ?_
    have : (0 : Int32).toInt = 0 := (by decide)
    exact W.iret (v := 0) hx hb hr (fun t ht9 hW => ⟨0, rfl, ⟨⟨by decide, by decide⟩, (show (0 : Int32).toInt = aF (a).toInt from (by rw [show a.toInt = 5 from by omega]; decide))⟩, ht9⟩) (fun q hq => by cases hq) dX12_atFirst_49
  · refine lv_tableIn (tgt := 36) (off := 35) hx hb dX12_atFirst_1 (by decide) (by decide) rfl (by decide) ?_
    refine lv_bipush (v := 110) hx hb dX12_atFirst_36 (by decide) ?_
    have : (110 : Int32).toInt = 110 := (by decide)
    have : (0 : Int32).toInt = 0 := (by decide)
    exact W.iret (v := 110) hx hb hr (fun t ht9 hW => ⟨110, rfl, ⟨⟨by decide, by decide⟩, (show (110 : Int32).toInt = aF (0 : Int32).toInt from (by decide))⟩, ht9⟩) (fun q hq => by cases hq) dX12_atFirst_38
  · refine lv_tableIn (tgt := 39) (off := 38) hx hb dX12_atFirst_1 (by decide) (by decide) rfl (by decide) ?_
    refine lv_iconst (v := 3) hx hb dX12_atFirst_39 (by decide) ?_
    have : (3 : Int32).toInt = 3 := (by decide)
    have : (1 : Int32).toInt = 1 := (by decide)
    exact W.iret (v := 3) hx hb hr (fun t ht9 hW => ⟨3, rfl, ⟨⟨by decide, by decide⟩, (show (3 : Int32).toInt = aF (1 : Int32).toInt from (by decide))⟩, ht9⟩) (fun q hq => by cases hq) dX12_atFirst_40
  · refine lv_tableIn (tgt := 41) (off := 40) hx hb dX12_atFirst_1 (by decide) (by decide) rfl (by decide) ?_
    refine lv_iconst (v := 5) hx hb dX12_atFirst_41 (by decide) ?_
    have : (5 : Int32).toInt = 5 := (by decide)
    have : (2 : Int32).toInt = 2 := (by decide)
    exact W.iret (v := 5) hx hb hr (fun t ht9 hW => ⟨5, rfl, ⟨⟨by decide, by decide⟩, (show (5 : Int32).toInt = aF (2 : Int32).toInt from (by decide))⟩, ht9⟩) (fun q hq => by cases hq) dX12_atFirst_42
  · refine lv_tableIn (tgt := 43) (off := 42) hx hb dX12_atFirst_1 (by decide) (by decide) rfl (by decide) ?_
    refine lv_iconst (v := 2) hx hb dX12_atFirst_43 (by decide) ?_
    have : (2 : Int32).toInt = 2 := (by decide)
    have : (3 : Int32).toInt = 3 := (by decide)
    exact W.iret (v := 2) hx hb hr (fun t ht9 hW => ⟨2, rfl, ⟨⟨by decide, by decide⟩, (show (2 : Int32).toInt = aF (3 : Int32).toInt from (by decide))⟩, ht9⟩) (fun q hq => by cases hq) dX12_atFirst_44
  · refine lv_tableIn (tgt := 45) (off := 44) hx hb dX12_atFirst_1 (by decide) (by decide) rfl (by decide) ?_
    refine lv_bipush (v := 10) hx hb dX12_atFirst_45 (by decide) ?_
    have : (10 : Int32).toInt = 10 := (by decide)
    have : (4 : Int32).toInt = 4 := (by decide)
    exact W.iret (v := 10) hx hb hr (fun t ht9 hW => ⟨10, rfl, ⟨⟨by decide, by decide⟩, (show (10 : Int32).toInt = aF (4 : Int32).toInt from (by decide))⟩, ht9⟩) (fun q hq => by cases hq) dX12_atFirst_47
set_option maxHeartbeats 4000000 in
set_option maxRecDepth 100000 in
/-- X12_forceOf -/
theorem c_X12_forceOf_f (l : Launch) (dC : Nat → ClassId) (dI : Nat → Nat → Nat) (sz : Nat) (h : Nat) (g : Nat → Nat → Nat) (ca : Nat → Nat → ClassId) (iv : Nat → Nat → Int32) (lv : Nat → Nat → Int64) (fa : Nat → Nat → Nat → Int32) (la : Nat → Nat → Nat → Int64) (hI : IX iv fa) (a : Int32) (b : Int32) (h_a : 0 ≤ a.toInt ∧ a.toInt ≤ 5) (hJC : JCf (iv 12 23).toInt (fa 12 25) (fa 12 26) (fa 12 27) (fa 12 28)) (hJK : ∀ k j : Nat, (k : Int) < (iv 12 23).toInt → 12 * k ≤ j → (j : Int) < 12 * (k : Int) + (fa 12 25 k).toInt → (fa 12 26 j).toInt = 3 → 0 ≤ (fa 12 28 j).toInt ∧ (fa 12 28 j).toInt < (k : Int)) : Met l yX12_forceOf (wc yX12_forceOf cX12_forceOf 7 (some .int)) ({ frames := 1, cells := 0, slots := 0, locals := 23 } : Room) (pW (dC, dI) classes (WM h g ca iv lv fa la) (TM ca) sz [.ref h, .int a, .int b]) (va_Qi (fun r (u : SS) => ∃ (na_12_39 : Nat → Int32) (na_12_40 : Nat → Int32) (ni_12_41 : Int32), (∀ j, inb (bA 12 39 j) (na_12_39 j)) ∧ (∀ j, inb (bA 12 40 j) (na_12_40 j)) ∧ inb (bI 12 41) ni_12_41 ∧ (FoY (iv 12 23).toInt (fa 12 24) (fa 12 25) (fa 12 26) (fa 12 27) (fa 12 28) a.toInt b.toInt r.toInt) ∧ (True) ∧ u = ((u2 iv 12 41 ni_12_41), lv, (u2 (u2 fa 12 39 na_12_39) 12 40 na_12_40), la)) (bM (dC, dI) h g ca (va_A (WM h g ca iv lv fa la) sz)) (va_A (WM h g ca iv lv fa la) sz)) 0 0 (va_A (WM h g ca iv lv fa la) sz) := by
  refine Met.ofW (cc := cX12_forceOf) (maxL := 7) (ret := (some .int)) (by decide) rfl ?_
  intro p e s m args below meth c s₁ B hml hv
  obtain ⟨rfl, hsz, hP, hK, hD0⟩ := hv
  have hx := B.exec
  have hb := B.bytes
  have hr := B.returns
  have ht := tb_tl (atoms_spec (ws := wc yX12_forceOf cX12_forceOf 7 (some .int)) B.pre)
  have hown : s.vm.findClass RX12 = some m.cls := findClass_of_methodNamed B.named
  have hlocks := B.notSynchronized
  subst hsz
  have hD := hD0.self (sz := s.heap.size)
  generalize hAe : va_A (WM h g ca iv lv fa la) s.heap.size = A at hD ⊢
  have hA : ∀ q : Nat, s.heap.size ≤ q → A q := fun q h => by rw [← hAe]; exact Or.inr h
  have hS : va_S A s.heap s.heap [] := va_S.rf
  have hl := lv_entry [.ref h, .int a, .int b] (n := 7) (Nat.le_of_ble_eq_true rfl)
  rw [lg_entry_eq]
  generalize (lg_sl [.ref h, .int a, .int b] ++ List.replicate (7 - (lg_sl [.ref h, .int a, .int b]).length) Slot.unset).toArray = ls at hl ⊢
  have hl : lv_has ls 7 [(0, .ref h), (1, .int a), (2, .int b)] := hl
  refine lv_aload_n hx hb dX12_forceOf_0 rfl (lv_at hl 0 rfl) ?_
  refine lv_iload_n hx hb dX12_forceOf_1 rfl (lv_at hl 2 rfl) ?_
  have hFc := free_all hD hS hA
  refine va_callv (va_runV (As := [.int b]) (rest := []) ⟨hx, hb, hml, hown, ht⟩ (c_X12_findRules_f l dC dI s.heap.size h g ca iv lv fa la hI b hJC hJK) (kV 1 ht m_1513 m_1515 m_56 m_89 m_1516 rfl rfl hd_X12_findRules_v ⟨Nat.le_of_ble_eq_true rfl, Nat.le_of_ble_eq_true rfl⟩) (vW hP hK hD (rM_12 hK hP)) rfl rfl hl.1 rfl (lv_room (Nat.le_of_ble_eq_true rfl)) dX12_forceOf_2 ⟨Nat.le_of_ble_eq_true rfl, Nat.le_of_ble_eq_true rfl⟩) hS (fun q _ h => hFc q h) hFc (fun u t H1 locs ht9 hvm hr1 hB hz1 hk1 hS => ?_)
  obtain ⟨n2, n3, n4, hn2, hn3, hn4, xr1_0, xr1_1, xr1_2, xr1_3, rfl⟩ := hr1
  have hn4 : 0 ≤ n4.toInt ∧ n4.toInt ≤ 8 := hn4
  obtain ⟨hP, hD⟩ := hB
  rw [ht9] at hP
  generalize H1 = H at hP hS ⊢
  have hP : va_P (dC, dI) classes (WM h g ca (u2 iv 12 41 n4) lv (u2 (u2 fa 12 39 n2) 12 40 n3) la) H := hP
  have hD : va_D A (WM h g ca (u2 iv 12 41 n4) lv (u2 (u2 fa 12 39 n2) 12 40 n3) la) := (show va_D _ (WM h g ca (u2 iv 12 41 n4) lv (u2 (u2 fa 12 39 n2) 12 40 n3) la) from hD).weaken (fun _ _ _ h => hFc _ h)
  have i_12_23 : 0 ≤ (iv 12 23).toInt ∧ (iv 12 23).toInt ≤ 8 := hI.1 12 23
  have xr1_0 : ∀ j : Nat, (j : Int) < (n4 : Int32).toInt → (n3 j).toInt < ((iv 12 23) : Int32).toInt := xr1_0
  have xr1_1 : (n4 : Int32).toInt ≤ ((iv 12 23) : Int32).toInt := xr1_1
  have xr1_2 : OnR ((iv 12 23) : Int32).toInt (fun r => (n2 r).toInt = 1) (fa 12 24) (St (fa 12 25) (mX (fa 12 26) 3) (fa 12 28)) (b : Int32).toInt := xr1_2
  have xr1_3 : OrK ((iv 12 23) : Int32).toInt (fun r => (n2 r).toInt = 1) (fa 12 24) n3 (n4 : Int32).toInt := xr1_3
  refine lv_iload_n hx hb dX12_forceOf_5 rfl (lv_at hl 1 rfl) ?_
  refine vp_callSi (W.runS (As := [.int a]) (rest := []) ⟨hx, hb, hml, hown, ht⟩ (c_X12_atFirst_f l dC dI a ⟨by omega, by omega⟩) (kS 1 ht m_1517 m_1518 m_89 m_1519 rfl rfl hd_X12_atFirst_v ⟨Nat.le_of_ble_eq_true rfl, Nat.le_of_ble_eq_true rfl⟩) (sR noP (hK.sub (tys' := []) [] rfl)) rfl rfl hl.1 rfl (lv_room (Nat.le_of_ble_eq_true rfl)) dX12_forceOf_6 ⟨Nat.le_of_ble_eq_true rfl, Nat.le_of_ble_eq_true rfl⟩) (fun r5 hr5 => ?_)
  obtain ⟨hr5, xr5_0⟩ := hr5
  have xr5_0 : (r5 : Int32).toInt = aF (a : Int32).toInt := xr5_0
  refine lv_istore_n (lv' := [(3, .int r5), (0, .ref h), (1, .int a), (2, .int b)]) hx hb dX12_forceOf_9 rfl hl (by decide) rfl (fun ls hl => ?_)
  refine lv_iconst (v := 0) hx hb dX12_forceOf_10 (by decide) ?_
  refine lv_istore (lv' := [(4, .int 0), (3, .int r5), (0, .ref h), (1, .int a), (2, .int b)]) hx hb dX12_forceOf_11 hl (by decide) rfl (fun ls hl => ?_)
  have lp1024 : ∀ (nn1024 : Nat) (x1023_4 : Int32) (x1023_3 : Int32), 0 ≤ x1023_4.toInt ∧ x1023_4.toInt ≤ 8 → (SqO (fa 12 25) n3 (mY (fa 12 26) (fa 12 27) (a).toInt) (vI (fa 12 28)) (aF (a).toInt) (x1023_4 : Int32).toInt (x1023_3 : Int32).toInt) → (x1023_4 : Int32).toInt ≤ (n4 : Int32).toInt → 8 - x1023_4.toInt < (nn1024 : Int) → ∀ (H : Heap) (locs : List Loc), ∀ (ls : Array Slot), va_P (dC, dI) classes (WM h g ca (u2 iv 12 41 n4) lv (u2 (u2 fa 12 39 n2) 12 40 n3) la) H → va_D A (WM h g ca (u2 iv 12 41 n4) lv (u2 (u2 fa 12 39 n2) 12 40 n3) la) → va_S A s.heap H locs → lv_has ls 7 [(4, .int x1023_4), (3, .int x1023_3), (0, .ref h), (1, .int a), (2, .int b)] → W p l e ({ frames := 1, cells := 0, slots := 0, locals := 23 } : Room) s m ([.ref h, .int a, .int b] : List Value).toArray below meth c H locs 0 0 (MQ below (va_Qi (fun r (u : SS) => ∃ (na_12_39 : Nat → Int32) (na_12_40 : Nat → Int32) (ni_12_41 : Int32), (∀ j, inb (bA 12 39 j) (na_12_39 j)) ∧ (∀ j, inb (bA 12 40 j) (na_12_40 j)) ∧ inb (bI 12 41) ni_12_41 ∧ (FoY (iv 12 23).toInt (fa 12 24) (fa 12 25) (fa 12 26) (fa 12 27) (fa 12 28) a.toInt b.toInt r.toInt) ∧ (True) ∧ u = ((u2 iv 12 41 ni_12_41), lv, (u2 (u2 fa 12 39 na_12_39) 12 40 na_12_40), la)) (bM (dC, dI) h g ca A) A) ([.ref h, .int a, .int b] : List Value).toArray s 0 0 A) (F0 m 13 ls []) := by
    intro nn1024
    induction nn1024 with
    | zero => intro x1023_4 x1023_3 hx1023_4 hq1024_0 hq1024_1 hm1024; exfalso; omega
    | succ nn1024 ih1024 =>
      intro x1023_4 x1023_3 hx1023_4 hq1024_0 hq1024_1 hm1024 H locs ls hP hD hS hl
      refine lv_iload hx hb dX12_forceOf_13 (lv_at hl 0 rfl) ?_
      refine lv_aload_n hx hb dX12_forceOf_15 rfl (lv_at hl 2 rfl) ?_
      refine gM_12_41 hx hb ht hown hK hP m_1180 (v := n4) rfl dX12_forceOf_16 ?_
      refine lv_icmp_ge (tgt := 143) hx hb dX12_forceOf_19 (by decide) (fun c1025 => ?_) (fun c1025 => ?_)
      · have fc1025 := z_le (rfl : (n4).toInt = _) (rfl : (x1023_4).toInt = _) c1025
        refine lv_iload_n hx hb dX12_forceOf_143 rfl (lv_at hl 1 rfl) ?_
        have hP9 : va_P (dC, dI) classes (WM h g ca (u2 iv 12 41 n4) lv (u2 (u2 fa 12 39 n2) 12 40 n3) la) H := hP
        have hD9 : va_D A (WM h g ca (u2 iv 12 41 n4) lv (u2 (u2 fa 12 39 n2) 12 40 n3) la) := hD
        exact W.iret (v := x1023_3) hx hb hr (fun t ht9 hW => ⟨⟨x1023_3, ((u2 iv 12 41 n4), lv, (u2 (u2 fa 12 39 n2) 12 40 n3), la), rfl, ⟨n2, n3, n4, hn2, hn3, (show inb (0, 8) n4 from ⟨by omega, by omega⟩), (show FoY ((iv 12 23) : Int32).toInt (fa 12 24) (fa 12 25) (fa 12 26) (fa 12 27) (fa 12 28) (a).toInt (b).toInt (x1023_3 : Int32).toInt from (by have hq9 := hq1024_0; have he9 : (x1023_4 : Int32).toInt = (n4 : Int32).toInt := (by omega); rw [he9] at hq9; obtain ⟨s9, hs9⟩ := SqO_Best (by omega) xr1_3 hq9; exact ⟨_, s9, xr1_2, hs9⟩)), trivial, rfl⟩, by rw [ht9]; exact hP9, hD9⟩, hS.F ht9⟩) hS.2.2 dX12_forceOf_144
      · have fc1025 := z_nle (rfl : (n4).toInt = _) (rfl : (x1023_4).toInt = _) c1025
        refine lv_bipush (v := 12) hx hb dX12_forceOf_22 (by decide) ?_
        refine lv_aload_n hx hb dX12_forceOf_24 rfl (lv_at hl 2 rfl) ?_
        refine gM_12_40 hx hb ht hown hK hP m_1179 dX12_forceOf_25 ?_
        refine lv_iload hx hb dX12_forceOf_28 (lv_at hl 0 rfl) ?_
        refine lM_12_40 hx hb hK hP (f := n3) rfl (vp_in_iff.mpr ⟨by omega, by omega⟩) dX12_forceOf_30 ?_
        refine lv_topi (fun v1026 ev1026 => ?_)
        have tv1026 : 0 ≤ v1026.toInt ∧ v1026.toInt ≤ 7 := by rw [ev1026]; exact hn3 _
        refine lv_imul hx hb dX12_forceOf_31 ?_
        refine lv_topi (fun v1027 ev1027 => ?_)
        have tv1027 := z_mul ev1027 (by decide : (12 : Int32).toInt = 12) (rfl : (v1026).toInt = _) (by omega) (by omega)
        refine lv_istore (lv' := [(5, .int v1027), (4, .int x1023_4), (3, .int x1023_3), (0, .ref h), (1, .int a), (2, .int b)]) hx hb dX12_forceOf_32 hl (by decide) rfl (fun ls hl => ?_)
        have lp1110 : ∀ (nn1110 : Nat) (x1109_5 : Int32) (x1109_3 : Int32), 0 ≤ x1109_5.toInt ∧ x1109_5.toInt ≤ 96 → (SqI (fa 12 25) n3 (mY (fa 12 26) (fa 12 27) (a).toInt) (vI (fa 12 28)) (aF (a).toInt) (x1023_4 : Int32).toInt (12 * (n3 ((x1023_4 : Int32).toInt).toNat).toInt) (x1109_5 : Int32).toInt (x1109_3 : Int32).toInt) → (12 * (n3 ((x1023_4 : Int32).toInt).toNat).toInt ≤ (x1109_5 : Int32).toInt) → ((x1109_5 : Int32).toInt ≤ 12 * (n3 ((x1023_4 : Int32).toInt).toNat).toInt + ((fa 12 25) ((n3 ((x1023_4 : Int32).toInt).toNat).toInt).toNat).toInt) → 96 - x1109_5.toInt < (nn1110 : Int) → ∀ (H : Heap) (locs : List Loc), ∀ (ls : Array Slot), va_P (dC, dI) classes (WM h g ca (u2 iv 12 41 n4) lv (u2 (u2 fa 12 39 n2) 12 40 n3) la) H → va_D A (WM h g ca (u2 iv 12 41 n4) lv (u2 (u2 fa 12 39 n2) 12 40 n3) la) → va_S A s.heap H locs → lv_has ls 7 [(5, .int x1109_5), (4, .int x1023_4), (3, .int x1109_3), (0, .ref h), (1, .int a), (2, .int b)] → W p l e ({ frames := 1, cells := 0, slots := 0, locals := 23 } : Room) s m ([.ref h, .int a, .int b] : List Value).toArray below meth c H locs 0 0 (MQ below (va_Qi (fun r (u : SS) => ∃ (na_12_39 : Nat → Int32) (na_12_40 : Nat → Int32) (ni_12_41 : Int32), (∀ j, inb (bA 12 39 j) (na_12_39 j)) ∧ (∀ j, inb (bA 12 40 j) (na_12_40 j)) ∧ inb (bI 12 41) ni_12_41 ∧ (FoY (iv 12 23).toInt (fa 12 24) (fa 12 25) (fa 12 26) (fa 12 27) (fa 12 28) a.toInt b.toInt r.toInt) ∧ (True) ∧ u = ((u2 iv 12 41 ni_12_41), lv, (u2 (u2 fa 12 39 na_12_39) 12 40 na_12_40), la)) (bM (dC, dI) h g ca A) A) ([.ref h, .int a, .int b] : List Value).toArray s 0 0 A) (F0 m 34 ls []) := by
          intro nn1110
          induction nn1110 with
          | zero => intro x1109_5 x1109_3 hx1109_5 hq1110_0 hq1110_1 hq1110_2 hm1110; exfalso; omega
          | succ nn1110 ih1110 =>
            intro x1109_5 x1109_3 hx1109_5 hq1110_0 hq1110_1 hq1110_2 hm1110 H locs ls hP hD hS hl
            refine lv_iload hx hb dX12_forceOf_34 (lv_at hl 0 rfl) ?_
            refine lv_bipush (v := 12) hx hb dX12_forceOf_36 (by decide) ?_
            refine lv_aload_n hx hb dX12_forceOf_38 rfl (lv_at hl 3 rfl) ?_
            refine gM_12_40 hx hb ht hown hK hP m_1179 dX12_forceOf_39 ?_
            refine lv_iload hx hb dX12_forceOf_42 (lv_at hl 1 rfl) ?_
            refine lM_12_40 hx hb hK hP (f := n3) rfl (vp_in_iff.mpr ⟨by omega, by omega⟩) dX12_forceOf_44 ?_
            refine lv_topi (fun v1111 ev1111 => ?_)
            obtain rfl : v1026 = v1111 := ev1026.trans ev1111.symm
            refine lv_imul hx hb dX12_forceOf_45 ?_
            refine lv_topi (fun v1112 ev1112 => ?_)
            obtain rfl : v1027 = v1112 := ev1027.trans ev1112.symm
            refine lv_aload_n hx hb dX12_forceOf_46 rfl (lv_at hl 3 rfl) ?_
            refine gM_12_25 hx hb ht hown hK hP m_1164 dX12_forceOf_47 ?_
            refine lv_aload_n hx hb dX12_forceOf_50 rfl (lv_at hl 3 rfl) ?_
            refine gM_12_40 hx hb ht hown hK hP m_1179 dX12_forceOf_51 ?_
            refine lv_iload hx hb dX12_forceOf_54 (lv_at hl 1 rfl) ?_
            refine lM_12_40 hx hb hK hP (f := n3) rfl (vp_in_iff.mpr ⟨by omega, by omega⟩) dX12_forceOf_56 ?_
            refine lv_topi (fun v1113 ev1113 => ?_)
            obtain rfl : v1026 = v1113 := ev1026.trans ev1113.symm
            refine lM_12_25 hx hb hK hP (f := (fa 12 25)) rfl (vp_in_iff.mpr ⟨by omega, by omega⟩) dX12_forceOf_57 ?_
            refine lv_topi (fun v1114 ev1114 => ?_)
            have tv1114 : 0 ≤ v1114.toInt ∧ v1114.toInt ≤ 12 := by rw [ev1114]; exact hI.2 12 25 _
            refine lv_iadd hx hb dX12_forceOf_58 ?_
            refine lv_topi (fun v1115 ev1115 => ?_)
            have tv1115 := z_add ev1115 (rfl : (v1027).toInt = _) (rfl : (v1114).toInt = _) (by omega) (by omega)
            refine lv_icmp_ge (tgt := 137) hx hb dX12_forceOf_59 (by decide) (fun c1116 => ?_) (fun c1116 => ?_)
            · have fc1116 := z_le (rfl : (v1115).toInt = _) (rfl : (x1109_5).toInt = _) c1116
              obtain ⟨v1117, ev1117⟩ : ∃ y : Int32, y = x1023_4 + 1 := ⟨_, rfl⟩
              have tv1117 := z_add ev1117 rfl (by decide : (1 : Int32).toInt = 1) (by omega) (by omega)
              refine lv_iinc (v := v1117) (lv' := [(4, .int v1117), (5, .int x1109_5), (3, .int x1109_3), (0, .ref h), (1, .int a), (2, .int b)]) hx hb dX12_forceOf_137 hl (k := 1) rfl (by rw [ev1117]; rfl) (by decide) rfl (fun ls hl => ?_)
              refine lv_goto (tgt := 13) hx hb dX12_forceOf_140 (by decide) ?_
              exact ih1024 v1117 x1109_3 ⟨by omega, by omega⟩ (show SqO (fa 12 25) n3 (mY (fa 12 26) (fa 12 27) (a).toInt) (vI (fa 12 28)) (aF (a).toInt) (v1117 : Int32).toInt (x1109_3 : Int32).toInt from (by
                    have hp9 : v1026 = n3 ((x1023_4 : Int32).toInt).toNat := ev1026
                    have hn9 := congrArg Int32.toInt (show v1114 = fa 12 25 ((v1026 : Int32).toInt).toNat from ev1114)
                    rw [hp9] at hn9
                    have hp8 := congrArg Int32.toInt hp9
                    exact SqI_end (i := (x1023_4 : Int32).toInt) (lo := 12 * (n3 ((x1023_4 : Int32).toInt).toNat).toInt) (c := (x1109_5 : Int32).toInt) (by omega) (by omega) (by omega) (by omega) hq1110_0)) (show (v1117 : Int32).toInt ≤ (n4 : Int32).toInt from by omega) (by omega) _ _ ls hP hD hS (lv_sub hl [0, 2, 3, 4, 5] rfl)
            · have fc1116 := z_nle (rfl : (v1115).toInt = _) (rfl : (x1109_5).toInt = _) c1116
              refine lv_iload_n hx hb dX12_forceOf_62 rfl (lv_at hl 4 rfl) ?_
              refine lv_iconst (v := 5) hx hb dX12_forceOf_63 (by decide) ?_
              refine lv_icmp_ne (tgt := 86) hx hb dX12_forceOf_64 (by decide) (fun c1118 => ?_) (fun c1118 => ?_)
              · have fc1118 := z_ne (rfl : (a).toInt = _) (by decide : (5 : Int32).toInt = 5) c1118
                refine lv_aload_n hx hb dX12_forceOf_86 rfl (lv_at hl 3 rfl) ?_
                refine gM_12_26 hx hb ht hown hK hP m_1165 dX12_forceOf_87 ?_
                refine lv_iload hx hb dX12_forceOf_90 (lv_at hl 0 rfl) ?_
                refine lM_12_26 hx hb hK hP (f := (fa 12 26)) rfl (vp_in_iff.mpr ⟨by omega, by omega⟩) dX12_forceOf_92 ?_
                refine lv_topi (fun v1119 ev1119 => ?_)
                refine lv_if_ne (tgt := 111) hx hb dX12_forceOf_93 (by decide) (fun c1120 => ?_) (fun c1120 => ?_)
                · have fc1120 := z_ne (rfl : (v1119).toInt = _) (by decide : (0 : Int32).toInt = 0) c1120
                  refine lv_iconst (v := 0) hx hb dX12_forceOf_111 (by decide) ?_
                  refine lv_istore (lv' := [(6, .int 0), (5, .int x1109_5), (4, .int x1023_4), (3, .int x1109_3), (0, .ref h), (1, .int a), (2, .int b)]) hx hb dX12_forceOf_112 hl (by decide) rfl (fun ls hl => ?_)
                  refine lv_iload hx hb dX12_forceOf_114 (lv_at hl 0 rfl) ?_
                  refine lv_if_eq (tgt := 129) hx hb dX12_forceOf_116 (by decide) (fun c1121 => ?_) (fun c1121 => ?_)
                  · skip
                    refine lv_iload_n hx hb dX12_forceOf_129 rfl (lv_at hl 3 rfl) ?_
                    refine lv_istore_n (lv' := [(3, .int x1109_3), (6, .int 0), (5, .int x1109_5), (4, .int x1023_4), (0, .ref h), (1, .int a), (2, .int b)]) hx hb dX12_forceOf_130 rfl hl (by decide) rfl (fun ls hl => ?_)
                    obtain ⟨v1122, ev1122⟩ : ∃ y : Int32, y = x1109_5 + 1 := ⟨_, rfl⟩
                    have tv1122 := z_add ev1122 rfl (by decide : (1 : Int32).toInt = 1) (by omega) (by omega)
                    refine lv_iinc (v := v1122) (lv' := [(5, .int v1122), (3, .int x1109_3), (6, .int 0), (4, .int x1023_4), (0, .ref h), (1, .int a), (2, .int b)]) hx hb dX12_forceOf_131 hl (k := 2) rfl (by rw [ev1122]; rfl) (by decide) rfl (fun ls hl => ?_)
                    refine lv_goto (tgt := 34) hx hb dX12_forceOf_134 (by decide) ?_
                    exact ih1110 v1122 x1109_3 ⟨by omega, by omega⟩ (show SqI (fa 12 25) n3 (mY (fa 12 26) (fa 12 27) (a).toInt) (vI (fa 12 28)) (aF (a).toInt) (x1023_4 : Int32).toInt (12 * (n3 ((x1023_4 : Int32).toInt).toNat).toInt) (v1122 : Int32).toInt (x1109_3 : Int32).toInt from (by
                          have hv9 := congrArg Int32.toInt (show v1119 = fa 12 26 ((x1109_5 : Int32).toInt).toNat from ev1119)
                          exact SqI_n (j := ((x1109_5 : Int32).toInt).toNat) (c := (x1109_5 : Int32).toInt) (by omega) (by omega) (show ¬ ((a.toInt = 5 ∧ (fa 12 26 ((x1109_5 : Int32).toInt).toNat).toInt = 1) ∨ (a.toInt ≠ 5 ∧ (fa 12 26 ((x1109_5 : Int32).toInt).toNat).toInt = 0 ∧ (fa 12 27 ((x1109_5 : Int32).toInt).toNat).toInt = a.toInt)) from by omega) hq1110_0)) (show 12 * (n3 ((x1023_4 : Int32).toInt).toNat).toInt ≤ (v1122 : Int32).toInt from (by have hq9 := hq1110_1; omega)) (show (v1122 : Int32).toInt ≤ 12 * (n3 ((x1023_4 : Int32).toInt).toNat).toInt + ((fa 12 25) ((n3 ((x1023_4 : Int32).toInt).toNat).toInt).toNat).toInt from (by have hp9 : v1026 = n3 ((x1023_4 : Int32).toInt).toNat := ev1026; have hn9 := congrArg Int32.toInt (show v1114 = fa 12 25 ((v1026 : Int32).toInt).toNat from ev1114); rw [hp9] at hn9; have hp8 := congrArg Int32.toInt hp9; omega)) (by omega) _ _ ls hP hD hS (lv_sub hl [0, 3, 1, 4, 5, 6] rfl)
                  · exact absurd rfl c1121
                · have fc1120 := z_eq (rfl : (v1119).toInt = _) (by decide : (0 : Int32).toInt = 0) c1120
                  refine lv_aload_n hx hb dX12_forceOf_96 rfl (lv_at hl 3 rfl) ?_
                  refine gM_12_27 hx hb ht hown hK hP m_1166 dX12_forceOf_97 ?_
                  refine lv_iload hx hb dX12_forceOf_100 (lv_at hl 0 rfl) ?_
                  refine lM_12_27 hx hb hK hP (f := (fa 12 27)) rfl (vp_in_iff.mpr ⟨by omega, by omega⟩) dX12_forceOf_102 ?_
                  refine lv_topi (fun v1123 ev1123 => ?_)
                  refine lv_iload_n hx hb dX12_forceOf_103 rfl (lv_at hl 4 rfl) ?_
                  refine lv_icmp_ne (tgt := 111) hx hb dX12_forceOf_104 (by decide) (fun c1124 => ?_) (fun c1124 => ?_)
                  · have fc1124 := z_ne (rfl : (v1123).toInt = _) (rfl : (a).toInt = _) c1124
                    refine lv_iconst (v := 0) hx hb dX12_forceOf_111 (by decide) ?_
                    refine lv_istore (lv' := [(6, .int 0), (5, .int x1109_5), (4, .int x1023_4), (3, .int x1109_3), (0, .ref h), (1, .int a), (2, .int b)]) hx hb dX12_forceOf_112 hl (by decide) rfl (fun ls hl => ?_)
                    refine lv_iload hx hb dX12_forceOf_114 (lv_at hl 0 rfl) ?_
                    refine lv_if_eq (tgt := 129) hx hb dX12_forceOf_116 (by decide) (fun c1125 => ?_) (fun c1125 => ?_)
                    · skip
                      refine lv_iload_n hx hb dX12_forceOf_129 rfl (lv_at hl 3 rfl) ?_
                      refine lv_istore_n (lv' := [(3, .int x1109_3), (6, .int 0), (5, .int x1109_5), (4, .int x1023_4), (0, .ref h), (1, .int a), (2, .int b)]) hx hb dX12_forceOf_130 rfl hl (by decide) rfl (fun ls hl => ?_)
                      obtain ⟨v1126, ev1126⟩ : ∃ y : Int32, y = x1109_5 + 1 := ⟨_, rfl⟩
                      have tv1126 := z_add ev1126 rfl (by decide : (1 : Int32).toInt = 1) (by omega) (by omega)
                      refine lv_iinc (v := v1126) (lv' := [(5, .int v1126), (3, .int x1109_3), (6, .int 0), (4, .int x1023_4), (0, .ref h), (1, .int a), (2, .int b)]) hx hb dX12_forceOf_131 hl (k := 2) rfl (by rw [ev1126]; rfl) (by decide) rfl (fun ls hl => ?_)
                      refine lv_goto (tgt := 34) hx hb dX12_forceOf_134 (by decide) ?_
                      exact ih1110 v1126 x1109_3 ⟨by omega, by omega⟩ (show SqI (fa 12 25) n3 (mY (fa 12 26) (fa 12 27) (a).toInt) (vI (fa 12 28)) (aF (a).toInt) (x1023_4 : Int32).toInt (12 * (n3 ((x1023_4 : Int32).toInt).toNat).toInt) (v1126 : Int32).toInt (x1109_3 : Int32).toInt from (by
                            have hv9 := congrArg Int32.toInt (show v1119 = fa 12 26 ((x1109_5 : Int32).toInt).toNat from ev1119)
                            have hm9 := congrArg Int32.toInt (show v1123 = fa 12 27 ((x1109_5 : Int32).toInt).toNat from ev1123)
                            exact SqI_n (j := ((x1109_5 : Int32).toInt).toNat) (c := (x1109_5 : Int32).toInt) (by omega) (by omega) (show ¬ ((a.toInt = 5 ∧ (fa 12 26 ((x1109_5 : Int32).toInt).toNat).toInt = 1) ∨ (a.toInt ≠ 5 ∧ (fa 12 26 ((x1109_5 : Int32).toInt).toNat).toInt = 0 ∧ (fa 12 27 ((x1109_5 : Int32).toInt).toNat).toInt = a.toInt)) from by omega) hq1110_0)) (show 12 * (n3 ((x1023_4 : Int32).toInt).toNat).toInt ≤ (v1126 : Int32).toInt from (by have hq9 := hq1110_1; omega)) (show (v1126 : Int32).toInt ≤ 12 * (n3 ((x1023_4 : Int32).toInt).toNat).toInt + ((fa 12 25) ((n3 ((x1023_4 : Int32).toInt).toNat).toInt).toNat).toInt from (by have hp9 : v1026 = n3 ((x1023_4 : Int32).toInt).toNat := ev1026; have hn9 := congrArg Int32.toInt (show v1114 = fa 12 25 ((v1026 : Int32).toInt).toNat from ev1114); rw [hp9] at hn9; have hp8 := congrArg Int32.toInt hp9; omega)) (by omega) _ _ ls hP hD hS (lv_sub hl [0, 3, 1, 4, 5, 6] rfl)
                    · exact absurd rfl c1125
                  · have fc1124 := z_eq (rfl : (v1123).toInt = _) (rfl : (a).toInt = _) c1124
                    refine lv_iconst (v := 1) hx hb dX12_forceOf_107 (by decide) ?_
                    refine lv_goto (tgt := 112) hx hb dX12_forceOf_108 (by decide) ?_
                    refine lv_istore (lv' := [(6, .int 1), (5, .int x1109_5), (4, .int x1023_4), (3, .int x1109_3), (0, .ref h), (1, .int a), (2, .int b)]) hx hb dX12_forceOf_112 hl (by decide) rfl (fun ls hl => ?_)
                    refine lv_iload hx hb dX12_forceOf_114 (lv_at hl 0 rfl) ?_
                    refine lv_if_eq (tgt := 129) hx hb dX12_forceOf_116 (by decide) (fun c1127 => ?_) (fun c1127 => ?_)
                    · exact absurd c1127 (by decide)
                    · skip
                      refine lv_aload_n hx hb dX12_forceOf_119 rfl (lv_at hl 4 rfl) ?_
                      refine gM_12_28 hx hb ht hown hK hP m_1167 dX12_forceOf_120 ?_
                      refine lv_iload hx hb dX12_forceOf_123 (lv_at hl 1 rfl) ?_
                      refine lM_12_28 hx hb hK hP (f := (fa 12 28)) rfl (vp_in_iff.mpr ⟨by omega, by omega⟩) dX12_forceOf_125 ?_
                      refine lv_topi (fun v1128 ev1128 => ?_)
                      refine lv_goto (tgt := 130) hx hb dX12_forceOf_126 (by decide) ?_
                      refine lv_istore_n (lv' := [(3, .int v1128), (6, .int 1), (5, .int x1109_5), (4, .int x1023_4), (0, .ref h), (1, .int a), (2, .int b)]) hx hb dX12_forceOf_130 rfl hl (by decide) rfl (fun ls hl => ?_)
                      obtain ⟨v1129, ev1129⟩ : ∃ y : Int32, y = x1109_5 + 1 := ⟨_, rfl⟩
                      have tv1129 := z_add ev1129 rfl (by decide : (1 : Int32).toInt = 1) (by omega) (by omega)
                      refine lv_iinc (v := v1129) (lv' := [(5, .int v1129), (3, .int v1128), (6, .int 1), (4, .int x1023_4), (0, .ref h), (1, .int a), (2, .int b)]) hx hb dX12_forceOf_131 hl (k := 2) rfl (by rw [ev1129]; rfl) (by decide) rfl (fun ls hl => ?_)
                      refine lv_goto (tgt := 34) hx hb dX12_forceOf_134 (by decide) ?_
                      exact ih1110 v1129 v1128 ⟨by omega, by omega⟩ (show SqI (fa 12 25) n3 (mY (fa 12 26) (fa 12 27) (a).toInt) (vI (fa 12 28)) (aF (a).toInt) (x1023_4 : Int32).toInt (12 * (n3 ((x1023_4 : Int32).toInt).toNat).toInt) (v1129 : Int32).toInt (v1128 : Int32).toInt from (by
                            have hv9 := congrArg Int32.toInt (show v1119 = fa 12 26 ((x1109_5 : Int32).toInt).toNat from ev1119)
                            have hm9 := congrArg Int32.toInt (show v1123 = fa 12 27 ((x1109_5 : Int32).toInt).toNat from ev1123)
                            exact SqI_y (j := ((x1109_5 : Int32).toInt).toNat) (c := (x1109_5 : Int32).toInt) (by omega) (by omega) (by omega) (show ((a.toInt = 5 ∧ (fa 12 26 ((x1109_5 : Int32).toInt).toNat).toInt = 1) ∨ (a.toInt ≠ 5 ∧ (fa 12 26 ((x1109_5 : Int32).toInt).toNat).toInt = 0 ∧ (fa 12 27 ((x1109_5 : Int32).toInt).toNat).toInt = a.toInt)) from by omega) (congrArg Int32.toInt (show v1128 = fa 12 28 ((x1109_5 : Int32).toInt).toNat from ev1128)))) (show 12 * (n3 ((x1023_4 : Int32).toInt).toNat).toInt ≤ (v1129 : Int32).toInt from (by have hq9 := hq1110_1; omega)) (show (v1129 : Int32).toInt ≤ 12 * (n3 ((x1023_4 : Int32).toInt).toNat).toInt + ((fa 12 25) ((n3 ((x1023_4 : Int32).toInt).toNat).toInt).toNat).toInt from (by have hp9 : v1026 = n3 ((x1023_4 : Int32).toInt).toNat := ev1026; have hn9 := congrArg Int32.toInt (show v1114 = fa 12 25 ((v1026 : Int32).toInt).toNat from ev1114); rw [hp9] at hn9; have hp8 := congrArg Int32.toInt hp9; omega)) (by omega) _ _ ls hP hD hS (lv_sub hl [0, 3, 1, 4, 5, 6] rfl)
              · have fc1118 := z_eq (rfl : (a).toInt = _) (by decide : (5 : Int32).toInt = 5) c1118
                refine lv_aload_n hx hb dX12_forceOf_67 rfl (lv_at hl 3 rfl) ?_
                refine gM_12_26 hx hb ht hown hK hP m_1165 dX12_forceOf_68 ?_
                refine lv_iload hx hb dX12_forceOf_71 (lv_at hl 0 rfl) ?_
                refine lM_12_26 hx hb hK hP (f := (fa 12 26)) rfl (vp_in_iff.mpr ⟨by omega, by omega⟩) dX12_forceOf_73 ?_
                refine lv_topi (fun v1130 ev1130 => ?_)
                refine lv_iconst (v := 1) hx hb dX12_forceOf_74 (by decide) ?_
                refine lv_icmp_ne (tgt := 82) hx hb dX12_forceOf_75 (by decide) (fun c1131 => ?_) (fun c1131 => ?_)
                · have fc1131 := z_ne (rfl : (v1130).toInt = _) (by decide : (1 : Int32).toInt = 1) c1131
                  refine lv_iconst (v := 0) hx hb dX12_forceOf_82 (by decide) ?_
                  refine lv_goto (tgt := 112) hx hb dX12_forceOf_83 (by decide) ?_
                  refine lv_istore (lv' := [(6, .int 0), (5, .int x1109_5), (4, .int x1023_4), (3, .int x1109_3), (0, .ref h), (1, .int a), (2, .int b)]) hx hb dX12_forceOf_112 hl (by decide) rfl (fun ls hl => ?_)
                  refine lv_iload hx hb dX12_forceOf_114 (lv_at hl 0 rfl) ?_
                  refine lv_if_eq (tgt := 129) hx hb dX12_forceOf_116 (by decide) (fun c1132 => ?_) (fun c1132 => ?_)
                  · skip
                    refine lv_iload_n hx hb dX12_forceOf_129 rfl (lv_at hl 3 rfl) ?_
                    refine lv_istore_n (lv' := [(3, .int x1109_3), (6, .int 0), (5, .int x1109_5), (4, .int x1023_4), (0, .ref h), (1, .int a), (2, .int b)]) hx hb dX12_forceOf_130 rfl hl (by decide) rfl (fun ls hl => ?_)
                    obtain ⟨v1133, ev1133⟩ : ∃ y : Int32, y = x1109_5 + 1 := ⟨_, rfl⟩
                    have tv1133 := z_add ev1133 rfl (by decide : (1 : Int32).toInt = 1) (by omega) (by omega)
                    refine lv_iinc (v := v1133) (lv' := [(5, .int v1133), (3, .int x1109_3), (6, .int 0), (4, .int x1023_4), (0, .ref h), (1, .int a), (2, .int b)]) hx hb dX12_forceOf_131 hl (k := 2) rfl (by rw [ev1133]; rfl) (by decide) rfl (fun ls hl => ?_)
                    refine lv_goto (tgt := 34) hx hb dX12_forceOf_134 (by decide) ?_
                    exact ih1110 v1133 x1109_3 ⟨by omega, by omega⟩ (show SqI (fa 12 25) n3 (mY (fa 12 26) (fa 12 27) (a).toInt) (vI (fa 12 28)) (aF (a).toInt) (x1023_4 : Int32).toInt (12 * (n3 ((x1023_4 : Int32).toInt).toNat).toInt) (v1133 : Int32).toInt (x1109_3 : Int32).toInt from (by
                          have hv9 := congrArg Int32.toInt (show v1130 = fa 12 26 ((x1109_5 : Int32).toInt).toNat from ev1130)
                          exact SqI_n (j := ((x1109_5 : Int32).toInt).toNat) (c := (x1109_5 : Int32).toInt) (by omega) (by omega) (show ¬ ((a.toInt = 5 ∧ (fa 12 26 ((x1109_5 : Int32).toInt).toNat).toInt = 1) ∨ (a.toInt ≠ 5 ∧ (fa 12 26 ((x1109_5 : Int32).toInt).toNat).toInt = 0 ∧ (fa 12 27 ((x1109_5 : Int32).toInt).toNat).toInt = a.toInt)) from by omega) hq1110_0)) (show 12 * (n3 ((x1023_4 : Int32).toInt).toNat).toInt ≤ (v1133 : Int32).toInt from (by have hq9 := hq1110_1; omega)) (show (v1133 : Int32).toInt ≤ 12 * (n3 ((x1023_4 : Int32).toInt).toNat).toInt + ((fa 12 25) ((n3 ((x1023_4 : Int32).toInt).toNat).toInt).toNat).toInt from (by have hp9 : v1026 = n3 ((x1023_4 : Int32).toInt).toNat := ev1026; have hn9 := congrArg Int32.toInt (show v1114 = fa 12 25 ((v1026 : Int32).toInt).toNat from ev1114); rw [hp9] at hn9; have hp8 := congrArg Int32.toInt hp9; omega)) (by omega) _ _ ls hP hD hS (lv_sub hl [0, 3, 1, 4, 5, 6] rfl)
                  · exact absurd rfl c1132
                · have fc1131 := z_eq (rfl : (v1130).toInt = _) (by decide : (1 : Int32).toInt = 1) c1131
                  refine lv_iconst (v := 1) hx hb dX12_forceOf_78 (by decide) ?_
                  refine lv_goto (tgt := 112) hx hb dX12_forceOf_79 (by decide) ?_
                  refine lv_istore (lv' := [(6, .int 1), (5, .int x1109_5), (4, .int x1023_4), (3, .int x1109_3), (0, .ref h), (1, .int a), (2, .int b)]) hx hb dX12_forceOf_112 hl (by decide) rfl (fun ls hl => ?_)
                  refine lv_iload hx hb dX12_forceOf_114 (lv_at hl 0 rfl) ?_
                  refine lv_if_eq (tgt := 129) hx hb dX12_forceOf_116 (by decide) (fun c1134 => ?_) (fun c1134 => ?_)
                  · exact absurd c1134 (by decide)
                  · skip
                    refine lv_aload_n hx hb dX12_forceOf_119 rfl (lv_at hl 4 rfl) ?_
                    refine gM_12_28 hx hb ht hown hK hP m_1167 dX12_forceOf_120 ?_
                    refine lv_iload hx hb dX12_forceOf_123 (lv_at hl 1 rfl) ?_
                    refine lM_12_28 hx hb hK hP (f := (fa 12 28)) rfl (vp_in_iff.mpr ⟨by omega, by omega⟩) dX12_forceOf_125 ?_
                    refine lv_topi (fun v1135 ev1135 => ?_)
                    refine lv_goto (tgt := 130) hx hb dX12_forceOf_126 (by decide) ?_
                    refine lv_istore_n (lv' := [(3, .int v1135), (6, .int 1), (5, .int x1109_5), (4, .int x1023_4), (0, .ref h), (1, .int a), (2, .int b)]) hx hb dX12_forceOf_130 rfl hl (by decide) rfl (fun ls hl => ?_)
                    obtain ⟨v1136, ev1136⟩ : ∃ y : Int32, y = x1109_5 + 1 := ⟨_, rfl⟩
                    have tv1136 := z_add ev1136 rfl (by decide : (1 : Int32).toInt = 1) (by omega) (by omega)
                    refine lv_iinc (v := v1136) (lv' := [(5, .int v1136), (3, .int v1135), (6, .int 1), (4, .int x1023_4), (0, .ref h), (1, .int a), (2, .int b)]) hx hb dX12_forceOf_131 hl (k := 2) rfl (by rw [ev1136]; rfl) (by decide) rfl (fun ls hl => ?_)
                    refine lv_goto (tgt := 34) hx hb dX12_forceOf_134 (by decide) ?_
                    exact ih1110 v1136 v1135 ⟨by omega, by omega⟩ (show SqI (fa 12 25) n3 (mY (fa 12 26) (fa 12 27) (a).toInt) (vI (fa 12 28)) (aF (a).toInt) (x1023_4 : Int32).toInt (12 * (n3 ((x1023_4 : Int32).toInt).toNat).toInt) (v1136 : Int32).toInt (v1135 : Int32).toInt from (by
                          have hv9 := congrArg Int32.toInt (show v1130 = fa 12 26 ((x1109_5 : Int32).toInt).toNat from ev1130)
                          exact SqI_y (j := ((x1109_5 : Int32).toInt).toNat) (c := (x1109_5 : Int32).toInt) (by omega) (by omega) (by omega) (show ((a.toInt = 5 ∧ (fa 12 26 ((x1109_5 : Int32).toInt).toNat).toInt = 1) ∨ (a.toInt ≠ 5 ∧ (fa 12 26 ((x1109_5 : Int32).toInt).toNat).toInt = 0 ∧ (fa 12 27 ((x1109_5 : Int32).toInt).toNat).toInt = a.toInt)) from by omega) (congrArg Int32.toInt (show v1135 = fa 12 28 ((x1109_5 : Int32).toInt).toNat from ev1135)))) (show 12 * (n3 ((x1023_4 : Int32).toInt).toNat).toInt ≤ (v1136 : Int32).toInt from (by have hq9 := hq1110_1; omega)) (show (v1136 : Int32).toInt ≤ 12 * (n3 ((x1023_4 : Int32).toInt).toNat).toInt + ((fa 12 25) ((n3 ((x1023_4 : Int32).toInt).toNat).toInt).toNat).toInt from (by have hp9 : v1026 = n3 ((x1023_4 : Int32).toInt).toNat := ev1026; have hn9 := congrArg Int32.toInt (show v1114 = fa 12 25 ((v1026 : Int32).toInt).toNat from ev1114); rw [hp9] at hn9; have hp8 := congrArg Int32.toInt hp9; omega)) (by omega) _ _ ls hP hD hS (lv_sub hl [0, 3, 1, 4, 5, 6] rfl)
        exact lp1110 97 v1027 x1023_3 ⟨by omega, by omega⟩ (show SqI (fa 12 25) n3 (mY (fa 12 26) (fa 12 27) (a).toInt) (vI (fa 12 28)) (aF (a).toInt) (x1023_4 : Int32).toInt (12 * (n3 ((x1023_4 : Int32).toInt).toNat).toInt) (v1027 : Int32).toInt (x1023_3 : Int32).toInt from (by have hp9 := congrArg Int32.toInt (show v1026 = n3 ((x1023_4 : Int32).toInt).toNat from ev1026); have he9 : (v1027 : Int32).toInt = 12 * (n3 ((x1023_4 : Int32).toInt).toNat).toInt := (by omega); rw [he9]; exact SqI_0 hq1024_0)) (show 12 * (n3 ((x1023_4 : Int32).toInt).toNat).toInt ≤ (v1027 : Int32).toInt from (by have hp9 := congrArg Int32.toInt (show v1026 = n3 ((x1023_4 : Int32).toInt).toNat from ev1026); omega)) (show (v1027 : Int32).toInt ≤ 12 * (n3 ((x1023_4 : Int32).toInt).toNat).toInt + ((fa 12 25) ((n3 ((x1023_4 : Int32).toInt).toNat).toInt).toNat).toInt from (by have hp9 := congrArg Int32.toInt (show v1026 = n3 ((x1023_4 : Int32).toInt).toNat from ev1026); have hb9 : 0 ≤ (fa 12 25 ((n3 ((x1023_4 : Int32).toInt).toNat).toInt).toNat).toInt ∧ (fa 12 25 ((n3 ((x1023_4 : Int32).toInt).toNat).toInt).toNat).toInt ≤ 12 := hI.2 12 25 _; omega)) (by first | decide | omega) _ _ ls hP hD hS (lv_sub hl [0, 1, 2, 3, 4, 5] rfl)
  have : (0 : Int32).toInt = 0 := (by decide)
  exact lp1024 9 0 r5 ⟨by decide, by decide⟩ (show SqO (fa 12 25) n3 (mY (fa 12 26) (fa 12 27) (a).toInt) (vI (fa 12 28)) (aF (a).toInt) (0 : Int32).toInt (r5 : Int32).toInt from (by have hz : (0 : Int32).toInt = 0 := (by decide); rw [hz, xr5_0]; exact SqO_0)) (show (0 : Int32).toInt ≤ (n4 : Int32).toInt from by omega) (by first | decide | omega) _ _ ls hP hD hS (lv_sub hl [0, 1, 2, 3, 4] rfl)
set_option maxHeartbeats 4000000 in
set_option maxRecDepth 100000 in
/-- X12_force -/
theorem c_X12_force_f (l : Launch) (dC : Nat → ClassId) (dI : Nat → Nat → Nat) (sz : Nat) (h : Nat) (g : Nat → Nat → Nat) (ca : Nat → Nat → ClassId) (iv : Nat → Nat → Int32) (lv : Nat → Nat → Int64) (fa : Nat → Nat → Nat → Int32) (la : Nat → Nat → Nat → Int64) (hI : IX iv fa) (a : Int32) (b : Int32) (hJC : JCf (iv 12 23).toInt (fa 12 25) (fa 12 26) (fa 12 27) (fa 12 28)) (hJK : ∀ k j : Nat, (k : Int) < (iv 12 23).toInt → 12 * k ≤ j → (j : Int) < 12 * (k : Int) + (fa 12 25 k).toInt → (fa 12 26 j).toInt = 3 → 0 ≤ (fa 12 28 j).toInt ∧ (fa 12 28 j).toInt < (k : Int)) : Met l yX12_force (wc yX12_force cX12_force 3 (some .int)) ({ frames := 2, cells := 0, slots := 0, locals := 49 } : Room) (pW (dC, dI) classes (WM h g ca iv lv fa la) (TM ca) sz [.ref h, .int a, .int b]) (va_Qi (fun r (u : SS) => ∃ (na_12_39 : Nat → Int32) (na_12_40 : Nat → Int32) (ni_12_41 : Int32), (∀ j, inb (bA 12 39 j) (na_12_39 j)) ∧ (∀ j, inb (bA 12 40 j) (na_12_40 j)) ∧ inb (bI 12 41) ni_12_41 ∧ (((r.toInt = -100002 ∧ ¬ (0 ≤ a.toInt ∧ a.toInt ≤ 5 ∧ 0 ≤ b.toInt ∧ b.toInt ≤ 3000)) ∨ ((0 ≤ a.toInt ∧ a.toInt ≤ 5 ∧ 0 ≤ b.toInt ∧ b.toInt ≤ 3000) ∧ FoY (iv 12 23).toInt (fa 12 24) (fa 12 25) (fa 12 26) (fa 12 27) (fa 12 28) a.toInt b.toInt r.toInt))) ∧ (True) ∧ u = ((u2 iv 12 41 ni_12_41), lv, (u2 (u2 fa 12 39 na_12_39) 12 40 na_12_40), la)) (bM (dC, dI) h g ca (va_A (WM h g ca iv lv fa la) sz)) (va_A (WM h g ca iv lv fa la) sz)) 0 0 (va_A (WM h g ca iv lv fa la) sz) := by
  refine Met.ofW (cc := cX12_force) (maxL := 3) (ret := (some .int)) (by decide) rfl ?_
  intro p e s m args below meth c s₁ B hml hv
  obtain ⟨rfl, hsz, hP, hK, hD0⟩ := hv
  have hx := B.exec
  have hb := B.bytes
  have hr := B.returns
  have ht := tb_tl (atoms_spec (ws := wc yX12_force cX12_force 3 (some .int)) B.pre)
  have hown : s.vm.findClass RX12 = some m.cls := findClass_of_methodNamed B.named
  have hlocks := B.notSynchronized
  subst hsz
  have hD := hD0.self (sz := s.heap.size)
  generalize hAe : va_A (WM h g ca iv lv fa la) s.heap.size = A at hD ⊢
  have hA : ∀ q : Nat, s.heap.size ≤ q → A q := fun q h => by rw [← hAe]; exact Or.inr h
  have hS : va_S A s.heap s.heap [] := va_S.rf
  have hl := lv_entry [.ref h, .int a, .int b] (n := 3) (Nat.le_of_ble_eq_true rfl)
  rw [lg_entry_eq]
  generalize (lg_sl [.ref h, .int a, .int b] ++ List.replicate (3 - (lg_sl [.ref h, .int a, .int b]).length) Slot.unset).toArray = ls at hl ⊢
  have hl : lv_has ls 3 [(0, .ref h), (1, .int a), (2, .int b)] := hl
  refine lv_iload_n hx hb dX12_force_0 rfl (lv_at hl 1 rfl) ?_
  refine lv_i2l (v := (a.toInt64)) hx hb dX12_force_1 rfl ?_
  refine lv_lconst (v := 0) hx hb dX12_force_2 (by decide) ?_
  refine lv_ldc2 hx hb hown (ht _ m_1508) dX12_force_3 ?_
  refine vp_callSi (W.runS (As := [.long (a.toInt64), .long 0, .long 5]) (rest := []) ⟨hx, hb, hml, hown, ht⟩ (c_X12_in l dC dI (a.toInt64) 0 5 (a.toInt) (0) (5) ((Int32.toInt_toInt64 a).trans rfl) (by decide : (0 : Int64).toInt = 0) (by decide : (5 : Int64).toInt = 5)) (kS 3 ht m_1370 m_1371 m_89 m_1372 rfl rfl hd_X12_in_v ⟨Nat.le_of_ble_eq_true rfl, Nat.le_of_ble_eq_true rfl⟩) (sR noP (hK.sub (tys' := []) [] rfl)) rfl rfl hl.1 rfl (lv_room (Nat.le_of_ble_eq_true rfl)) dX12_force_6 ⟨Nat.le_of_ble_eq_true rfl, Nat.le_of_ble_eq_true rfl⟩) (fun r1 hr1 => ?_)
  rcases hr1 with ⟨rfl, fr1⟩ | ⟨rfl, fr1⟩
  · skip
    refine lv_if_eq (tgt := 28) hx hb dX12_force_9 (by decide) (fun c2 => ?_) (fun c2 => ?_)
    · exact absurd c2 (by decide)
    · skip
      refine lv_iload_n hx hb dX12_force_12 rfl (lv_at hl 2 rfl) ?_
      refine vp_callSi (W.runS (As := [.int b]) (rest := []) ⟨hx, hb, hml, hown, ht⟩ (c_X12_isDay l dC dI b) (kS 1 ht m_1422 m_1423 m_89 m_1424 rfl rfl hd_X12_isDay_v ⟨Nat.le_of_ble_eq_true rfl, Nat.le_of_ble_eq_true rfl⟩) (sR noP (hK.sub (tys' := []) [] rfl)) rfl rfl hl.1 rfl (lv_room (Nat.le_of_ble_eq_true rfl)) dX12_force_13 ⟨Nat.le_of_ble_eq_true rfl, Nat.le_of_ble_eq_true rfl⟩) (fun r3 hr3 => ?_)
      rcases hr3 with ⟨rfl, fr3⟩ | ⟨rfl, fr3⟩
      · skip
        refine lv_if_eq (tgt := 28) hx hb dX12_force_16 (by decide) (fun c4 => ?_) (fun c4 => ?_)
        · exact absurd c4 (by decide)
        · skip
          refine lv_aload_n hx hb dX12_force_19 rfl (lv_at hl 0 rfl) ?_
          refine lv_iload_n hx hb dX12_force_20 rfl (lv_at hl 1 rfl) ?_
          refine lv_iload_n hx hb dX12_force_21 rfl (lv_at hl 2 rfl) ?_
          have hFc := free_all hD hS hA
          refine va_calli (va_runV (As := [.int a, .int b]) (rest := []) ⟨hx, hb, hml, hown, ht⟩ (c_X12_forceOf_f l dC dI s.heap.size h g ca iv lv fa la hI a b ⟨by omega, by omega⟩ hJC hJK) (kV 2 ht m_1509 m_1511 m_55 m_89 m_1512 rfl rfl hd_X12_forceOf_v ⟨Nat.le_of_ble_eq_true rfl, Nat.le_of_ble_eq_true rfl⟩) (vW hP hK hD (rM_12 hK hP)) rfl rfl hl.1 rfl (lv_room (Nat.le_of_ble_eq_true rfl)) dX12_force_22 ⟨Nat.le_of_ble_eq_true rfl, Nat.le_of_ble_eq_true rfl⟩) hS (fun q _ h => hFc q h) hFc (fun r5 u t H1 locs ht9 hvm hr5 hB hz1 hk1 hS => ?_)
          obtain ⟨n6, n7, n8, hn6, hn7, hn8, xr5_0, hr5, rfl⟩ := hr5
          have hn8 : 0 ≤ n8.toInt ∧ n8.toInt ≤ 8 := hn8
          obtain ⟨hP, hD⟩ := hB
          rw [ht9] at hP
          generalize H1 = H at hP hS ⊢
          have hP : va_P (dC, dI) classes (WM h g ca (u2 iv 12 41 n8) lv (u2 (u2 fa 12 39 n6) 12 40 n7) la) H := hP
          have hD : va_D A (WM h g ca (u2 iv 12 41 n8) lv (u2 (u2 fa 12 39 n6) 12 40 n7) la) := (show va_D _ (WM h g ca (u2 iv 12 41 n8) lv (u2 (u2 fa 12 39 n6) 12 40 n7) la) from hD).weaken (fun _ _ _ h => hFc _ h)
          have i_12_23 : 0 ≤ (iv 12 23).toInt ∧ (iv 12 23).toInt ≤ 8 := hI.1 12 23
          have xr5_0 : FoY ((iv 12 23) : Int32).toInt (fa 12 24) (fa 12 25) (fa 12 26) (fa 12 27) (fa 12 28) (a : Int32).toInt (b : Int32).toInt (r5 : Int32).toInt := xr5_0
          refine lv_goto (tgt := 30) hx hb dX12_force_25 (by decide) ?_
          have hP9 : va_P (dC, dI) classes (WM h g ca (u2 iv 12 41 n8) lv (u2 (u2 fa 12 39 n6) 12 40 n7) la) H := hP
          have hD9 : va_D A (WM h g ca (u2 iv 12 41 n8) lv (u2 (u2 fa 12 39 n6) 12 40 n7) la) := hD
          exact W.iret (v := r5) hx hb hr (fun t ht9 hW => ⟨⟨r5, ((u2 iv 12 41 n8), lv, (u2 (u2 fa 12 39 n6) 12 40 n7), la), rfl, ⟨n6, n7, n8, hn6, hn7, (show inb (0, 8) n8 from ⟨by omega, by omega⟩), (show (((r5 : Int32).toInt = -100002 ∧ ¬ (0 ≤ (a).toInt ∧ (a).toInt ≤ 5 ∧ 0 ≤ (b).toInt ∧ (b).toInt ≤ 3000)) ∨ ((0 ≤ (a).toInt ∧ (a).toInt ≤ 5 ∧ 0 ≤ (b).toInt ∧ (b).toInt ≤ 3000) ∧ FoY (iv 12 23).toInt (fa 12 24) (fa 12 25) (fa 12 26) (fa 12 27) (fa 12 28) (a).toInt (b).toInt (r5 : Int32).toInt)) from Or.inr ⟨⟨by omega, by omega, by omega, by omega⟩, xr5_0⟩), trivial, rfl⟩, by rw [ht9]; exact hP9, hD9⟩, hS.F ht9⟩) hS.2.2 dX12_force_30
      · skip
        refine lv_if_eq (tgt := 28) hx hb dX12_force_16 (by decide) (fun c9 => ?_) (fun c9 => ?_)
        · skip
          refine lv_ldc hx hb hown (ht _ m_1373) dX12_force_28 ?_
          have : ((-100002) : Int32).toInt = (-100002) := (by decide)
          have hP9 : va_P (dC, dI) classes (WM h g ca (u2 iv 12 41 (iv 12 41)) lv (u2 (u2 fa 12 39 (fa 12 39)) 12 40 (fa 12 40)) la) s.heap := hP
          have hD9 : va_D A (WM h g ca (u2 iv 12 41 (iv 12 41)) lv (u2 (u2 fa 12 39 (fa 12 39)) 12 40 (fa 12 40)) la) := hD
          exact W.iret (v := (-100002)) hx hb hr (fun t ht9 hW => ⟨⟨(-100002), ((u2 iv 12 41 (iv 12 41)), lv, (u2 (u2 fa 12 39 (fa 12 39)) 12 40 (fa 12 40)), la), rfl, ⟨(fa 12 39), (fa 12 40), (iv 12 41), (hI.2 12 39), (hI.2 12 40), (hI.1 12 41), (show ((((-100002) : Int32).toInt = -100002 ∧ ¬ (0 ≤ (a).toInt ∧ (a).toInt ≤ 5 ∧ 0 ≤ (b).toInt ∧ (b).toInt ≤ 3000)) ∨ ((0 ≤ (a).toInt ∧ (a).toInt ≤ 5 ∧ 0 ≤ (b).toInt ∧ (b).toInt ≤ 3000) ∧ FoY (iv 12 23).toInt (fa 12 24) (fa 12 25) (fa 12 26) (fa 12 27) (fa 12 28) (a).toInt (b).toInt ((-100002) : Int32).toInt)) from Or.inl ⟨by omega, by omega⟩), trivial, rfl⟩, by rw [ht9]; exact hP9, hD9⟩, hS.F ht9⟩) hS.2.2 dX12_force_30
        · exact absurd rfl c9
  · skip
    refine lv_if_eq (tgt := 28) hx hb dX12_force_9 (by decide) (fun c10 => ?_) (fun c10 => ?_)
    · skip
      refine lv_ldc hx hb hown (ht _ m_1373) dX12_force_28 ?_
      have : ((-100002) : Int32).toInt = (-100002) := (by decide)
      have hP9 : va_P (dC, dI) classes (WM h g ca (u2 iv 12 41 (iv 12 41)) lv (u2 (u2 fa 12 39 (fa 12 39)) 12 40 (fa 12 40)) la) s.heap := hP
      have hD9 : va_D A (WM h g ca (u2 iv 12 41 (iv 12 41)) lv (u2 (u2 fa 12 39 (fa 12 39)) 12 40 (fa 12 40)) la) := hD
      exact W.iret (v := (-100002)) hx hb hr (fun t ht9 hW => ⟨⟨(-100002), ((u2 iv 12 41 (iv 12 41)), lv, (u2 (u2 fa 12 39 (fa 12 39)) 12 40 (fa 12 40)), la), rfl, ⟨(fa 12 39), (fa 12 40), (iv 12 41), (hI.2 12 39), (hI.2 12 40), (hI.1 12 41), (show ((((-100002) : Int32).toInt = -100002 ∧ ¬ (0 ≤ (a).toInt ∧ (a).toInt ≤ 5 ∧ 0 ≤ (b).toInt ∧ (b).toInt ≤ 3000)) ∨ ((0 ≤ (a).toInt ∧ (a).toInt ≤ 5 ∧ 0 ≤ (b).toInt ∧ (b).toInt ≤ 3000) ∧ FoY (iv 12 23).toInt (fa 12 24) (fa 12 25) (fa 12 26) (fa 12 27) (fa 12 28) (a).toInt (b).toInt ((-100002) : Int32).toInt)) from Or.inl ⟨by omega, by omega⟩), trivial, rfl⟩, by rw [ht9]; exact hP9, hD9⟩, hS.F ht9⟩) hS.2.2 dX12_force_30
    · exact absurd rfl c10
/-! ===== sm0 ===== -/

/-- sums and numbers of those that count -/
noncomputable def smL (c : Nat → Prop) (w : Nat → Int32) : Nat → Int64
  | 0 => 0
  | n + 1 => @ite Int64 (c n) (Classical.propDecidable _) (smL c w n + (w n).toInt64) (smL c w n)
noncomputable def smC (c : Nat → Prop) : Nat → Int32
  | 0 => 0
  | n + 1 => @ite Int32 (c n) (Classical.propDecidable _) (smC c n + 1) (smC c n)
theorem smL_y {c : Nat → Prop} {w : Nat → Int32} {n n' : Nat} (h : n' = n + 1) (hc : c n) : smL c w n' = smL c w n + (w n).toInt64 := by
  rw [h]; exact if_pos hc
theorem smL_n {c : Nat → Prop} {w : Nat → Int32} {n n' : Nat} (h : n' = n + 1) (hc : ¬ c n) : smL c w n' = smL c w n := by
  rw [h]; exact if_neg hc
theorem smC_y {c : Nat → Prop} {n n' : Nat} (h : n' = n + 1) (hc : c n) : smC c n' = smC c n + 1 := by
  rw [h]; exact if_pos hc
theorem smC_n {c : Nat → Prop} {n n' : Nat} (h : n' = n + 1) (hc : ¬ c n) : smC c n' = smC c n := by
  rw [h]; exact if_neg hc
theorem smL_cg {c c' : Nat → Prop} {w w' : Nat → Int32} : ∀ n : Nat, (∀ j : Nat, j < n → (c j ↔ c' j) ∧ w j = w' j) → smL c w n = smL c' w' n
  | 0, _ => rfl
  | n + 1, h => by
    have q := h n (Nat.lt_succ_self n)
    have r := smL_cg n (fun j hj => h j (Nat.lt_succ_of_lt hj))
    by_cases e : c n
    · rw [smL_y rfl e, smL_y rfl (q.1.mp e), r, q.2]
    · rw [smL_n rfl e, smL_n rfl (fun z => e (q.1.mpr z)), r]
theorem smC_cg {c c' : Nat → Prop} : ∀ n : Nat, (∀ j : Nat, j < n → (c j ↔ c' j)) → smC c n = smC c' n
  | 0, _ => rfl
  | n + 1, h => by
    have q := h n (Nat.lt_succ_self n)
    have r := smC_cg n (fun j hj => h j (Nat.lt_succ_of_lt hj))
    by_cases e : c n
    · rw [smC_y rfl e, smC_y rfl (q.mp e), r]
    · rw [smC_n rfl e, smC_n rfl (fun z => e (q.mpr z)), r]
/-- what the sums may be -/
theorem smL_b {c : Nat → Prop} {w : Nat → Int32} {lo hi : Int} (h0 : 0 ≤ lo) (h1 : lo ≤ hi) (h2 : hi ≤ 9999) : ∀ n : Nat, n ≤ 60 → (∀ j : Nat, j < n → lo ≤ (w j).toInt ∧ (w j).toInt ≤ hi) → lo * (smC c n).toInt ≤ (smL c w n).toInt ∧ (smL c w n).toInt ≤ hi * (smC c n).toInt ∧ 0 ≤ (smC c n).toInt ∧ (smC c n).toInt ≤ (n : Int)
  | 0, _, _ => by
    have e1 : (smL c w 0).toInt = 0 := by show (0 : Int64).toInt = 0; decide
    have e2 : (smC c 0).toInt = 0 := by show (0 : Int32).toInt = 0; decide
    rw [e1, e2]; exact ⟨by omega, by omega, by omega, by omega⟩
  | n + 1, hn, h => by
    obtain ⟨q1, q2, q3, q4⟩ := smL_b (c := c) h0 h1 h2 n (by omega) (fun j hj => h j (by omega))
    have z := h n (by omega)
    by_cases e : c n
    · have a1 : (smC c (n + 1)).toInt = (smC c n).toInt + 1 := by
        rw [smC_y rfl e]; exact z_add rfl rfl (by decide : (1 : Int32).toInt = 1) (by omega) (by omega)
      have m0 : hi * (smC c n).toInt ≤ 9999 * 60 := Int.mul_le_mul h2 (by omega) q3 (by decide)
      have m1 : 0 ≤ lo * (smC c n).toInt := Int.mul_nonneg h0 q3
      have a2 : (smL c w (n + 1)).toInt = (smL c w n).toInt + (w n).toInt := by
        rw [smL_y rfl e]; exact l_add rfl rfl (Int32.toInt_toInt64 _) (by omega) (by omega)
      rw [a1, a2, Int.mul_add, Int.mul_add]
      exact ⟨by omega, by omega, by omega, by omega⟩
    · rw [smL_n rfl e, smC_n rfl e]; exact ⟨q1, q2, q3, by omega⟩
/-! ===== sm1 ===== -/
set_option maxHeartbeats 4000000 in
set_option maxRecDepth 100000 in
/-- X10_get -/
theorem c_X10_get_x3 (l : Launch) (dC : Nat → ClassId) (dI : Nat → Nat → Nat) (h : Nat) (g : Nat → Nat → Nat) (ca : Nat → Nat → ClassId) (iv : Nat → Nat → Int32) (lv : Nat → Nat → Int64) (fa : Nat → Nat → Nat → Int32) (la : Nat → Nat → Nat → Int64) (hI : IX iv fa) (a : Int32) (h_a : 0 ≤ a.toInt ∧ a.toInt ≤ 59) : Met l yX10_get (wc yX10_get cX10_get 3 (some .int)) ({ frames := 0, cells := 0, slots := 0, locals := 0 } : Room) (pR (dC, dI) classes (WX h g ca iv lv fa la) (TX ca) [.ref (g 11 0), .int a, .int 3]) (vp_Si (fun r => (True) ∧ (r.toInt = ((fa 10 0) (9 * (a.toInt).toNat + 3)).toInt))) 0 0 (fun _ => False) := by
  refine Met.ofW (cc := cX10_get) (maxL := 3) (ret := (some .int)) (by decide) rfl ?_
  intro p e s m args below meth c s₁ B hml hv
  obtain ⟨rfl, hP, hK⟩ := hv
  have hx := B.exec
  have hb := B.bytes
  have hr := B.returns
  have ht := tb_tl (atoms_spec (ws := wc yX10_get cX10_get 3 (some .int)) B.pre)
  have hown : s.vm.findClass RX10 = some m.cls := findClass_of_methodNamed B.named
  have hlocks := B.notSynchronized
  have hl := lv_entry [.ref (g 11 0), .int a, .int 3] (n := 3) (Nat.le_of_ble_eq_true rfl)
  rw [lg_entry_eq]
  generalize (lg_sl [.ref (g 11 0), .int a, .int 3] ++ List.replicate (3 - (lg_sl [.ref (g 11 0), .int a, .int 3]).length) Slot.unset).toArray = ls at hl ⊢
  have hl : lv_has ls 3 [(0, .ref (g 11 0)), (1, .int a), (2, .int 3)] := hl
  refine lv_aload_n hx hb dX10_get_0 rfl (lv_at hl 0 rfl) ?_
  refine gX_10_0 hx hb ht hown hK hP m_111 dX10_get_1 ?_
  refine lv_iload_n hx hb dX10_get_4 rfl (lv_at hl 1 rfl) ?_
  refine lv_bipush (v := 9) hx hb dX10_get_5 (by decide) ?_
  refine lv_imul hx hb dX10_get_7 ?_
  refine lv_topi (fun v1 ev1 => ?_)
  have tv1 := z_mul ev1 (rfl : (a).toInt = _) (by decide : (9 : Int32).toInt = 9) (by omega) (by omega)
  refine lv_iload_n hx hb dX10_get_8 rfl (lv_at hl 2 rfl) ?_
  refine lv_iadd hx hb dX10_get_9 ?_
  refine lv_topi (fun v2 ev2 => ?_)
  have tv2 := z_add ev2 (rfl : (v1).toInt = _) (by decide : (3 : Int32).toInt = 3) (by omega) (by omega)
  refine lX_10_0 hx hb hK hP (f := (fa 10 0)) rfl (vp_in_iff.mpr ⟨by omega, by omega⟩) dX10_get_10 ?_
  refine lv_topi (fun v3 ev3 => ?_)
  exact W.iret (v := v3) hx hb hr (fun t ht9 hW => ⟨v3, rfl, ⟨trivial, (show (v3 : Int32).toInt = ((fa 10 0) (9 * ((a).toInt).toNat + 3)).toInt from (by have h1 := congrArg Int32.toInt ev3; have h2 : (v2 : Int32).toNatClampNeg = 9 * (a.toInt).toNat + 3 := (by show (v2 : Int32).toInt.toNat = _; omega); rw [h2] at h1; exact h1))⟩, ht9⟩) (fun q hq => by cases hq) dX10_get_11
set_option maxHeartbeats 4000000 in
set_option maxRecDepth 100000 in
/-- X10_get -/
theorem c_X10_get_x4 (l : Launch) (dC : Nat → ClassId) (dI : Nat → Nat → Nat) (h : Nat) (g : Nat → Nat → Nat) (ca : Nat → Nat → ClassId) (iv : Nat → Nat → Int32) (lv : Nat → Nat → Int64) (fa : Nat → Nat → Nat → Int32) (la : Nat → Nat → Nat → Int64) (hI : IX iv fa) (a : Int32) (h_a : 0 ≤ a.toInt ∧ a.toInt ≤ 59) : Met l yX10_get (wc yX10_get cX10_get 3 (some .int)) ({ frames := 0, cells := 0, slots := 0, locals := 0 } : Room) (pR (dC, dI) classes (WX h g ca iv lv fa la) (TX ca) [.ref (g 11 0), .int a, .int 4]) (vp_Si (fun r => (True) ∧ (r.toInt = ((fa 10 0) (9 * (a.toInt).toNat + 4)).toInt))) 0 0 (fun _ => False) := by
  refine Met.ofW (cc := cX10_get) (maxL := 3) (ret := (some .int)) (by decide) rfl ?_
  intro p e s m args below meth c s₁ B hml hv
  obtain ⟨rfl, hP, hK⟩ := hv
  have hx := B.exec
  have hb := B.bytes
  have hr := B.returns
  have ht := tb_tl (atoms_spec (ws := wc yX10_get cX10_get 3 (some .int)) B.pre)
  have hown : s.vm.findClass RX10 = some m.cls := findClass_of_methodNamed B.named
  have hlocks := B.notSynchronized
  have hl := lv_entry [.ref (g 11 0), .int a, .int 4] (n := 3) (Nat.le_of_ble_eq_true rfl)
  rw [lg_entry_eq]
  generalize (lg_sl [.ref (g 11 0), .int a, .int 4] ++ List.replicate (3 - (lg_sl [.ref (g 11 0), .int a, .int 4]).length) Slot.unset).toArray = ls at hl ⊢
  have hl : lv_has ls 3 [(0, .ref (g 11 0)), (1, .int a), (2, .int 4)] := hl
  refine lv_aload_n hx hb dX10_get_0 rfl (lv_at hl 0 rfl) ?_
  refine gX_10_0 hx hb ht hown hK hP m_111 dX10_get_1 ?_
  refine lv_iload_n hx hb dX10_get_4 rfl (lv_at hl 1 rfl) ?_
  refine lv_bipush (v := 9) hx hb dX10_get_5 (by decide) ?_
  refine lv_imul hx hb dX10_get_7 ?_
  refine lv_topi (fun v1 ev1 => ?_)
  have tv1 := z_mul ev1 (rfl : (a).toInt = _) (by decide : (9 : Int32).toInt = 9) (by omega) (by omega)
  refine lv_iload_n hx hb dX10_get_8 rfl (lv_at hl 2 rfl) ?_
  refine lv_iadd hx hb dX10_get_9 ?_
  refine lv_topi (fun v2 ev2 => ?_)
  have tv2 := z_add ev2 (rfl : (v1).toInt = _) (by decide : (4 : Int32).toInt = 4) (by omega) (by omega)
  refine lX_10_0 hx hb hK hP (f := (fa 10 0)) rfl (vp_in_iff.mpr ⟨by omega, by omega⟩) dX10_get_10 ?_
  refine lv_topi (fun v3 ev3 => ?_)
  exact W.iret (v := v3) hx hb hr (fun t ht9 hW => ⟨v3, rfl, ⟨trivial, (show (v3 : Int32).toInt = ((fa 10 0) (9 * ((a).toInt).toNat + 4)).toInt from (by have h1 := congrArg Int32.toInt ev3; have h2 : (v2 : Int32).toNatClampNeg = 9 * (a.toInt).toNat + 4 := (by show (v2 : Int32).toInt.toNat = _; omega); rw [h2] at h1; exact h1))⟩, ht9⟩) (fun q hq => by cases hq) dX10_get_11
set_option maxHeartbeats 4000000 in
set_option maxRecDepth 100000 in
/-- X10_get -/
theorem c_X10_get_x7 (l : Launch) (dC : Nat → ClassId) (dI : Nat → Nat → Nat) (h : Nat) (g : Nat → Nat → Nat) (ca : Nat → Nat → ClassId) (iv : Nat → Nat → Int32) (lv : Nat → Nat → Int64) (fa : Nat → Nat → Nat → Int32) (la : Nat → Nat → Nat → Int64) (hI : IX iv fa) (a : Int32) (h_a : 0 ≤ a.toInt ∧ a.toInt ≤ 59) : Met l yX10_get (wc yX10_get cX10_get 3 (some .int)) ({ frames := 0, cells := 0, slots := 0, locals := 0 } : Room) (pR (dC, dI) classes (WX h g ca iv lv fa la) (TX ca) [.ref (g 11 0), .int a, .int 7]) (vp_Si (fun r => (True) ∧ (r.toInt = ((fa 10 0) (9 * (a.toInt).toNat + 7)).toInt))) 0 0 (fun _ => False) := by
  refine Met.ofW (cc := cX10_get) (maxL := 3) (ret := (some .int)) (by decide) rfl ?_
  intro p e s m args below meth c s₁ B hml hv
  obtain ⟨rfl, hP, hK⟩ := hv
  have hx := B.exec
  have hb := B.bytes
  have hr := B.returns
  have ht := tb_tl (atoms_spec (ws := wc yX10_get cX10_get 3 (some .int)) B.pre)
  have hown : s.vm.findClass RX10 = some m.cls := findClass_of_methodNamed B.named
  have hlocks := B.notSynchronized
  have hl := lv_entry [.ref (g 11 0), .int a, .int 7] (n := 3) (Nat.le_of_ble_eq_true rfl)
  rw [lg_entry_eq]
  generalize (lg_sl [.ref (g 11 0), .int a, .int 7] ++ List.replicate (3 - (lg_sl [.ref (g 11 0), .int a, .int 7]).length) Slot.unset).toArray = ls at hl ⊢
  have hl : lv_has ls 3 [(0, .ref (g 11 0)), (1, .int a), (2, .int 7)] := hl
  refine lv_aload_n hx hb dX10_get_0 rfl (lv_at hl 0 rfl) ?_
  refine gX_10_0 hx hb ht hown hK hP m_111 dX10_get_1 ?_
  refine lv_iload_n hx hb dX10_get_4 rfl (lv_at hl 1 rfl) ?_
  refine lv_bipush (v := 9) hx hb dX10_get_5 (by decide) ?_
  refine lv_imul hx hb dX10_get_7 ?_
  refine lv_topi (fun v1 ev1 => ?_)
  have tv1 := z_mul ev1 (rfl : (a).toInt = _) (by decide : (9 : Int32).toInt = 9) (by omega) (by omega)
  refine lv_iload_n hx hb dX10_get_8 rfl (lv_at hl 2 rfl) ?_
  refine lv_iadd hx hb dX10_get_9 ?_
  refine lv_topi (fun v2 ev2 => ?_)
  have tv2 := z_add ev2 (rfl : (v1).toInt = _) (by decide : (7 : Int32).toInt = 7) (by omega) (by omega)
  refine lX_10_0 hx hb hK hP (f := (fa 10 0)) rfl (vp_in_iff.mpr ⟨by omega, by omega⟩) dX10_get_10 ?_
  refine lv_topi (fun v3 ev3 => ?_)
  exact W.iret (v := v3) hx hb hr (fun t ht9 hW => ⟨v3, rfl, ⟨trivial, (show (v3 : Int32).toInt = ((fa 10 0) (9 * ((a).toInt).toNat + 7)).toInt from (by have h1 := congrArg Int32.toInt ev3; have h2 : (v2 : Int32).toNatClampNeg = 9 * (a.toInt).toNat + 7 := (by show (v2 : Int32).toInt.toNat = _; omega); rw [h2] at h1; exact h1))⟩, ht9⟩) (fun q hq => by cases hq) dX10_get_11
set_option maxHeartbeats 4000000 in
set_option maxRecDepth 100000 in
/-- X10_counts -/
theorem c_X10_counts_x (l : Launch) (dC : Nat → ClassId) (dI : Nat → Nat → Nat) (h : Nat) (g : Nat → Nat → Nat) (ca : Nat → Nat → ClassId) (iv : Nat → Nat → Int32) (lv : Nat → Nat → Int64) (fa : Nat → Nat → Nat → Int32) (la : Nat → Nat → Nat → Int64) (hI : IX iv fa) (a : Int32) (b : Int32) (h_a : 0 ≤ a.toInt ∧ a.toInt ≤ 59) : Met l yX10_counts (wc yX10_counts cX10_counts 3 (some .boolean)) ({ frames := 1, cells := 0, slots := 0, locals := 22 } : Room) (pR (dC, dI) classes (WX h g ca iv lv fa la) (TX ca) [.ref (g 11 0), .int a, .int b]) (vp_Si (fun r => (0 ≤ r.toInt ∧ r.toInt ≤ 1) ∧ (((r.toInt = 1 ∧ ((fa 10 0) (9 * (a.toInt).toNat + 7)).toInt ≤ b.toInt ∧ (((fa 10 0) (9 * (a.toInt).toNat + 8)).toInt = -1 ∨ b.toInt < ((fa 10 0) (9 * (a.toInt).toNat + 8)).toInt)) ∨ (r.toInt = 0 ∧ ¬ (((fa 10 0) (9 * (a.toInt).toNat + 7)).toInt ≤ b.toInt ∧ (((fa 10 0) (9 * (a.toInt).toNat + 8)).toInt = -1 ∨ b.toInt < ((fa 10 0) (9 * (a.toInt).toNat + 8)).toInt))))))) 0 0 (fun _ => False) := by
  refine Met.ofW (cc := cX10_counts) (maxL := 3) (ret := (some .boolean)) (by decide) rfl ?_
  intro p e s m args below meth c s₁ B hml hv
  obtain ⟨rfl, hP, hK⟩ := hv
  have hx := B.exec
  have hb := B.bytes
  have hr := B.returns
  have ht := tb_tl (atoms_spec (ws := wc yX10_counts cX10_counts 3 (some .boolean)) B.pre)
  have hown : s.vm.findClass RX10 = some m.cls := findClass_of_methodNamed B.named
  have hlocks := B.notSynchronized
  have hl := lv_entry [.ref (g 11 0), .int a, .int b] (n := 3) (Nat.le_of_ble_eq_true rfl)
  rw [lg_entry_eq]
  generalize (lg_sl [.ref (g 11 0), .int a, .int b] ++ List.replicate (3 - (lg_sl [.ref (g 11 0), .int a, .int b]).length) Slot.unset).toArray = ls at hl ⊢
  have hl : lv_has ls 3 [(0, .ref (g 11 0)), (1, .int a), (2, .int b)] := hl
  refine lv_aload_n hx hb dX10_counts_0 rfl (lv_at hl 0 rfl) ?_
  refine lv_iload_n hx hb dX10_counts_1 rfl (lv_at hl 1 rfl) ?_
  refine lv_bipush (v := 7) hx hb dX10_counts_2 (by decide) ?_
  refine vp_callSi (W.runV (As := [.int a, .int 7]) (rest := []) ⟨hx, hb, hml, hown, ht⟩ (c_X10_get_x7 l dC dI h g ca iv lv fa la hI a ⟨by omega, by omega⟩) (kV 2 ht m_485 m_486 m_487 m_78 m_488 rfl rfl hd_X10_get_v ⟨Nat.le_of_ble_eq_true rfl, Nat.le_of_ble_eq_true rfl⟩) (vR hP hK (rX_10 hK hP)) rfl rfl hl.1 rfl (lv_room (Nat.le_of_ble_eq_true rfl)) dX10_counts_4 ⟨Nat.le_of_ble_eq_true rfl, Nat.le_of_ble_eq_true rfl⟩) (fun r1 hr1 => ?_)
  obtain ⟨hr1, xr1_0⟩ := hr1
  have xr1_0 : (r1 : Int32).toInt = ((fa 10 0) (9 * ((a : Int32).toInt).toNat + 7)).toInt := xr1_0
  refine lv_iload_n hx hb dX10_counts_7 rfl (lv_at hl 2 rfl) ?_
  refine lv_icmp_gt (tgt := 37) hx hb dX10_counts_8 (by decide) (fun c2 => ?_) (fun c2 => ?_)
  · have fc2 := z_lt (rfl : (b).toInt = _) (rfl : (r1).toInt = _) c2
    refine lv_iconst (v := 0) hx hb dX10_counts_37 (by decide) ?_
    have : (0 : Int32).toInt = 0 := (by decide)
    exact W.zret (v := 0) hx hb hr rfl (fun t ht9 hW => ⟨0, rfl, ⟨⟨by decide, by decide⟩, (show (((0 : Int32).toInt = 1 ∧ ((fa 10 0) (9 * ((a).toInt).toNat + 7)).toInt ≤ (b).toInt ∧ (((fa 10 0) (9 * ((a).toInt).toNat + 8)).toInt = -1 ∨ (b).toInt < ((fa 10 0) (9 * ((a).toInt).toNat + 8)).toInt)) ∨ ((0 : Int32).toInt = 0 ∧ ¬ (((fa 10 0) (9 * ((a).toInt).toNat + 7)).toInt ≤ (b).toInt ∧ (((fa 10 0) (9 * ((a).toInt).toNat + 8)).toInt = -1 ∨ (b).toInt < ((fa 10 0) (9 * ((a).toInt).toNat + 8)).toInt)))) from by omega)⟩, ht9⟩) (fun q hq => by cases hq) dX10_counts_38
  · have fc2 := z_nlt (rfl : (b).toInt = _) (rfl : (r1).toInt = _) c2
    refine lv_aload_n hx hb dX10_counts_11 rfl (lv_at hl 0 rfl) ?_
    refine lv_iload_n hx hb dX10_counts_12 rfl (lv_at hl 1 rfl) ?_
    refine lv_bipush (v := 8) hx hb dX10_counts_13 (by decide) ?_
    refine vp_callSi (W.runV (As := [.int a, .int 8]) (rest := []) ⟨hx, hb, hml, hown, ht⟩ (c_X10_get_x8 l dC dI h g ca iv lv fa la hI a ⟨by omega, by omega⟩) (kV 2 ht m_485 m_486 m_487 m_78 m_488 rfl rfl hd_X10_get_v ⟨Nat.le_of_ble_eq_true rfl, Nat.le_of_ble_eq_true rfl⟩) (vR hP hK (rX_10 hK hP)) rfl rfl hl.1 rfl (lv_room (Nat.le_of_ble_eq_true rfl)) dX10_counts_15 ⟨Nat.le_of_ble_eq_true rfl, Nat.le_of_ble_eq_true rfl⟩) (fun r3 hr3 => ?_)
    obtain ⟨hr3, xr3_0⟩ := hr3
    have xr3_0 : (r3 : Int32).toInt = ((fa 10 0) (9 * ((a : Int32).toInt).toNat + 8)).toInt := xr3_0
    refine lv_iconst (v := (-1)) hx hb dX10_counts_18 (by decide) ?_
    refine lv_icmp_eq (tgt := 33) hx hb dX10_counts_19 (by decide) (fun c4 => ?_) (fun c4 => ?_)
    · have fc4 := z_eq (rfl : (r3).toInt = _) (by decide : ((-1) : Int32).toInt = (-1)) c4
      refine lv_iconst (v := 1) hx hb dX10_counts_33 (by decide) ?_
      refine lv_goto (tgt := 38) hx hb dX10_counts_34 (by decide) ?_
      have : (1 : Int32).toInt = 1 := (by decide)
      exact W.zret (v := 1) hx hb hr rfl (fun t ht9 hW => ⟨1, rfl, ⟨⟨by decide, by decide⟩, (show (((1 : Int32).toInt = 1 ∧ ((fa 10 0) (9 * ((a).toInt).toNat + 7)).toInt ≤ (b).toInt ∧ (((fa 10 0) (9 * ((a).toInt).toNat + 8)).toInt = -1 ∨ (b).toInt < ((fa 10 0) (9 * ((a).toInt).toNat + 8)).toInt)) ∨ ((1 : Int32).toInt = 0 ∧ ¬ (((fa 10 0) (9 * ((a).toInt).toNat + 7)).toInt ≤ (b).toInt ∧ (((fa 10 0) (9 * ((a).toInt).toNat + 8)).toInt = -1 ∨ (b).toInt < ((fa 10 0) (9 * ((a).toInt).toNat + 8)).toInt)))) from by omega)⟩, ht9⟩) (fun q hq => by cases hq) dX10_counts_38
    · have fc4 := z_ne (rfl : (r3).toInt = _) (by decide : ((-1) : Int32).toInt = (-1)) c4
      refine lv_aload_n hx hb dX10_counts_22 rfl (lv_at hl 0 rfl) ?_
      refine lv_iload_n hx hb dX10_counts_23 rfl (lv_at hl 1 rfl) ?_
      refine lv_bipush (v := 8) hx hb dX10_counts_24 (by decide) ?_
      refine vp_callSi (W.runV (As := [.int a, .int 8]) (rest := []) ⟨hx, hb, hml, hown, ht⟩ (c_X10_get_x8 l dC dI h g ca iv lv fa la hI a ⟨by omega, by omega⟩) (kV 2 ht m_485 m_486 m_487 m_78 m_488 rfl rfl hd_X10_get_v ⟨Nat.le_of_ble_eq_true rfl, Nat.le_of_ble_eq_true rfl⟩) (vR hP hK (rX_10 hK hP)) rfl rfl hl.1 rfl (lv_room (Nat.le_of_ble_eq_true rfl)) dX10_counts_26 ⟨Nat.le_of_ble_eq_true rfl, Nat.le_of_ble_eq_true rfl⟩) (fun r5 hr5 => ?_)
      obtain ⟨hr5, xr5_0⟩ := hr5
      have xr5_0 : (r5 : Int32).toInt = ((fa 10 0) (9 * ((a : Int32).toInt).toNat + 8)).toInt := xr5_0
      refine lv_iload_n hx hb dX10_counts_29 rfl (lv_at hl 2 rfl) ?_
      refine lv_icmp_le (tgt := 37) hx hb dX10_counts_30 (by decide) (fun c6 => ?_) (fun c6 => ?_)
      · have fc6 := z_le (rfl : (r5).toInt = _) (rfl : (b).toInt = _) c6
        refine lv_iconst (v := 0) hx hb dX10_counts_37 (by decide) ?_
        have : (0 : Int32).toInt = 0 := (by decide)
        exact W.zret (v := 0) hx hb hr rfl (fun t ht9 hW => ⟨0, rfl, ⟨⟨by decide, by decide⟩, (show (((0 : Int32).toInt = 1 ∧ ((fa 10 0) (9 * ((a).toInt).toNat + 7)).toInt ≤ (b).toInt ∧ (((fa 10 0) (9 * ((a).toInt).toNat + 8)).toInt = -1 ∨ (b).toInt < ((fa 10 0) (9 * ((a).toInt).toNat + 8)).toInt)) ∨ ((0 : Int32).toInt = 0 ∧ ¬ (((fa 10 0) (9 * ((a).toInt).toNat + 7)).toInt ≤ (b).toInt ∧ (((fa 10 0) (9 * ((a).toInt).toNat + 8)).toInt = -1 ∨ (b).toInt < ((fa 10 0) (9 * ((a).toInt).toNat + 8)).toInt)))) from by omega)⟩, ht9⟩) (fun q hq => by cases hq) dX10_counts_38
      · have fc6 := z_nle (rfl : (r5).toInt = _) (rfl : (b).toInt = _) c6
        refine lv_iconst (v := 1) hx hb dX10_counts_33 (by decide) ?_
        refine lv_goto (tgt := 38) hx hb dX10_counts_34 (by decide) ?_
        have : (1 : Int32).toInt = 1 := (by decide)
        exact W.zret (v := 1) hx hb hr rfl (fun t ht9 hW => ⟨1, rfl, ⟨⟨by decide, by decide⟩, (show (((1 : Int32).toInt = 1 ∧ ((fa 10 0) (9 * ((a).toInt).toNat + 7)).toInt ≤ (b).toInt ∧ (((fa 10 0) (9 * ((a).toInt).toNat + 8)).toInt = -1 ∨ (b).toInt < ((fa 10 0) (9 * ((a).toInt).toNat + 8)).toInt)) ∨ ((1 : Int32).toInt = 0 ∧ ¬ (((fa 10 0) (9 * ((a).toInt).toNat + 7)).toInt ≤ (b).toInt ∧ (((fa 10 0) (9 * ((a).toInt).toNat + 8)).toInt = -1 ∨ (b).toInt < ((fa 10 0) (9 * ((a).toInt).toNat + 8)).toInt)))) from by omega)⟩, ht9⟩) (fun q hq => by cases hq) dX10_counts_38
set_option maxHeartbeats 4000000 in
set_option maxRecDepth 100000 in
/-- X7_put -/
theorem c_X7_put_s30 (l : Launch) (dC : Nat → ClassId) (dI : Nat → Nat → Nat) (sz : Nat) (h : Nat) (g : Nat → Nat → Nat) (ca : Nat → Nat → ClassId) (iv : Nat → Nat → Int32) (lv : Nat → Nat → Int64) (fa : Nat → Nat → Nat → Int32) (la : Nat → Nat → Nat → Int64) (hI : IX iv fa) (a : Int32) (b : Int32) (d : Int32) (h_a : 0 ≤ a.toInt ∧ a.toInt ≤ 2) : Met l yX7_put (wc yX7_put cX7_put 4 none) ({ frames := 0, cells := 0, slots := 0, locals := 0 } : Room) (pW (dC, dI) classes (WX h g ca iv lv fa la) (TX ca) sz [.ref (g 3 2), .int a, .int b, .int d]) (va_Qv (fun (u : SS) => ∃ (na_30_2 : Nat → Int32) (nb_30_0 : Nat → Int64) (nb_30_1 : Nat → Int64), (∀ j : Nat, j ≠ a.toNatClampNeg → nb_30_0 j = (la 30 0) j) ∧ (∀ j : Nat, j ≠ a.toNatClampNeg → nb_30_1 j = (la 30 1) j) ∧ (∀ j : Nat, j ≠ a.toNatClampNeg → na_30_2 j = (fa 30 2) j) ∧ (nb_30_0 a.toNatClampNeg = (la 30 0) a.toNatClampNeg + (b).toInt64) ∧ (nb_30_1 a.toNatClampNeg = (la 30 1) a.toNatClampNeg + (d).toInt64) ∧ (na_30_2 a.toNatClampNeg = (fa 30 2) a.toNatClampNeg + 1) ∧ u = (iv, lv, (u2 fa 30 2 na_30_2), (u2 (u2 la 30 0 nb_30_0) 30 1 nb_30_1))) (bX (dC, dI) h g ca (va_A (WX h g ca iv lv fa la) sz)) (va_A (WX h g ca iv lv fa la) sz)) 0 0 (va_A (WX h g ca iv lv fa la) sz) := by
  refine Met.ofW (cc := cX7_put) (maxL := 4) (ret := none) (by decide) rfl ?_
  intro p e s m args below meth c s₁ B hml hv
  obtain ⟨rfl, hsz, hP, hK, hD0⟩ := hv
  have hx := B.exec
  have hb := B.bytes
  have hr := B.returns
  have ht := tb_tl (atoms_spec (ws := wc yX7_put cX7_put 4 none) B.pre)
  have hown : s.vm.findClass RX7 = some m.cls := findClass_of_methodNamed B.named
  have hlocks := B.notSynchronized
  subst hsz
  have hD := hD0.self (sz := s.heap.size)
  generalize hAe : va_A (WX h g ca iv lv fa la) s.heap.size = A at hD ⊢
  have hA : ∀ q : Nat, s.heap.size ≤ q → A q := fun q h => by rw [← hAe]; exact Or.inr h
  have hS : va_S A s.heap s.heap [] := va_S.rf
  have hl := lv_entry [.ref (g 3 2), .int a, .int b, .int d] (n := 4) (Nat.le_of_ble_eq_true rfl)
  rw [lg_entry_eq]
  generalize (lg_sl [.ref (g 3 2), .int a, .int b, .int d] ++ List.replicate (4 - (lg_sl [.ref (g 3 2), .int a, .int b, .int d]).length) Slot.unset).toArray = ls at hl ⊢
  have hl : lv_has ls 4 [(0, .ref (g 3 2)), (1, .int a), (2, .int b), (3, .int d)] := hl
  refine lv_aload_n hx hb dX7_put_0 rfl (lv_at hl 0 rfl) ?_
  refine gX_30_0 hx hb ht hown hK hP m_261 dX7_put_1 ?_
  refine lv_iload_n hx hb dX7_put_4 rfl (lv_at hl 1 rfl) ?_
  refine lv_dup2_11 hx hb dX7_put_5 rfl rfl ?_
  refine lX_30_0 hx hb hK hP (f := (la 30 0)) rfl (vp_in_iff.mpr ⟨by omega, by omega⟩) dX7_put_6 ?_
  refine lv_topl (fun w1 ew1 => ?_)
  refine lv_iload_n hx hb dX7_put_7 rfl (lv_at hl 2 rfl) ?_
  refine lv_i2l (v := (b.toInt64)) hx hb dX7_put_8 rfl ?_
  refine lv_ladd hx hb dX7_put_9 ?_
  refine lv_topl (fun w2 ew2 => ?_)
  refine tX_30_0 hx hb hK hP hD hS (f0 := (la 30 0)) rfl (i := a) (x := w2) (vp_in_iff.mpr ⟨by omega, by omega⟩) dX7_put_10 (fun f3 ef3 H locs hP hD hS => ?_)
  refine lv_aload_n hx hb dX7_put_11 rfl (lv_at hl 0 rfl) ?_
  refine gX_30_1 hx hb ht hown hK hP m_264 dX7_put_12 ?_
  refine lv_iload_n hx hb dX7_put_15 rfl (lv_at hl 1 rfl) ?_
  refine lv_dup2_11 hx hb dX7_put_16 rfl rfl ?_
  refine lX_30_1 hx hb hK hP (f := (la 30 1)) rfl (vp_in_iff.mpr ⟨by omega, by omega⟩) dX7_put_17 ?_
  refine lv_topl (fun w4 ew4 => ?_)
  refine lv_iload_n hx hb dX7_put_18 rfl (lv_at hl 3 rfl) ?_
  refine lv_i2l (v := (d.toInt64)) hx hb dX7_put_19 rfl ?_
  refine lv_ladd hx hb dX7_put_20 ?_
  refine lv_topl (fun w5 ew5 => ?_)
  refine tX_30_1 hx hb hK hP hD hS (f0 := (la 30 1)) rfl (i := a) (x := w5) (vp_in_iff.mpr ⟨by omega, by omega⟩) dX7_put_21 (fun f6 ef6 H locs hP hD hS => ?_)
  refine lv_aload_n hx hb dX7_put_22 rfl (lv_at hl 0 rfl) ?_
  refine gX_30_2 hx hb ht hown hK hP m_267 dX7_put_23 ?_
  refine lv_iload_n hx hb dX7_put_26 rfl (lv_at hl 1 rfl) ?_
  refine lv_dup2_11 hx hb dX7_put_27 rfl rfl ?_
  refine lX_30_2 hx hb hK hP (f := (fa 30 2)) rfl (vp_in_iff.mpr ⟨by omega, by omega⟩) dX7_put_28 ?_
  refine lv_topi (fun v7 ev7 => ?_)
  refine lv_iconst (v := 1) hx hb dX7_put_29 (by decide) ?_
  refine lv_iadd hx hb dX7_put_30 ?_
  refine lv_topi (fun v8 ev8 => ?_)
  refine tX_30_2 hx hb hK hP hD hS (f0 := (fa 30 2)) rfl (i := a) (x := v8) (vp_in_iff.mpr ⟨by omega, by omega⟩) dX7_put_31 (fun f9 ef9 H locs hP hD hS => ?_)
  have hf9 : ∀ j, inb (bA 30 2 j) (f9 j) := fun j => full_i _
  have hP9 : va_P (dC, dI) classes (WX h g ca iv lv (u2 fa 30 2 f9) (u2 (u2 la 30 0 f3) 30 1 f6)) H := hP
  have hD9 : va_D A (WX h g ca iv lv (u2 fa 30 2 f9) (u2 (u2 la 30 0 f3) 30 1 f6)) := hD
  exact W.vret hx hb hr (fun t ht9 hW => ⟨⟨(iv, lv, (u2 fa 30 2 f9), (u2 (u2 la 30 0 f3) 30 1 f6)), rfl, ⟨f9, f3, f6, (show ∀ j : Nat, j ≠ a.toNatClampNeg → f3 j = (la 30 0) j from fun j hj => by rw [ef3, updL_ne hj]), (show ∀ j : Nat, j ≠ a.toNatClampNeg → f6 j = (la 30 1) j from fun j hj => by rw [ef6, updL_ne hj]), (show ∀ j : Nat, j ≠ a.toNatClampNeg → f9 j = (fa 30 2) j from fun j hj => by rw [ef9, upd_ne hj]), (show f3 a.toNatClampNeg = (la 30 0) a.toNatClampNeg + (b).toInt64 from (by rw [ef3, updL_eq, ew2, ew1])), (show f6 a.toNatClampNeg = (la 30 1) a.toNatClampNeg + (d).toInt64 from (by rw [ef6, updL_eq, ew5, ew4])), (show f9 a.toNatClampNeg = (fa 30 2) a.toNatClampNeg + 1 from (by rw [ef9, upd_eq, ev8, ev7])), rfl⟩, by rw [ht9]; exact hP9, hD9⟩, hS.F ht9⟩) hS.2.2 dX7_put_32
set_option maxHeartbeats 4000000 in
set_option maxRecDepth 100000 in
/-- X7_clear -/
theorem c_X7_clear_s30 (l : Launch) (dC : Nat → ClassId) (dI : Nat → Nat → Nat) (sz : Nat) (h : Nat) (g : Nat → Nat → Nat) (ca : Nat → Nat → ClassId) (iv : Nat → Nat → Int32) (lv : Nat → Nat → Int64) (fa : Nat → Nat → Nat → Int32) (la : Nat → Nat → Nat → Int64) (hI : IX iv fa) : Met l yX7_clear (wc yX7_clear cX7_clear 2 none) ({ frames := 0, cells := 0, slots := 0, locals := 0 } : Room) (pW (dC, dI) classes (WX h g ca iv lv fa la) (TX ca) sz [.ref (g 3 2)]) (va_Qv (fun (u : SS) => ∃ (na_30_2 : Nat → Int32) (nb_30_0 : Nat → Int64) (nb_30_1 : Nat → Int64), (∀ j : Nat, j < 3 → nb_30_0 j = 0 ∧ nb_30_1 j = 0 ∧ na_30_2 j = 0) ∧ u = (iv, lv, (u2 fa 30 2 na_30_2), (u2 (u2 la 30 0 nb_30_0) 30 1 nb_30_1))) (bX (dC, dI) h g ca (va_A (WX h g ca iv lv fa la) sz)) (va_A (WX h g ca iv lv fa la) sz)) 0 0 (va_A (WX h g ca iv lv fa la) sz) := by
  refine Met.ofW (cc := cX7_clear) (maxL := 2) (ret := none) (by decide) rfl ?_
  intro p e s m args below meth c s₁ B hml hv
  obtain ⟨rfl, hsz, hP, hK, hD0⟩ := hv
  have hx := B.exec
  have hb := B.bytes
  have hr := B.returns
  have ht := tb_tl (atoms_spec (ws := wc yX7_clear cX7_clear 2 none) B.pre)
  have hown : s.vm.findClass RX7 = some m.cls := findClass_of_methodNamed B.named
  have hlocks := B.notSynchronized
  subst hsz
  have hD := hD0.self (sz := s.heap.size)
  generalize hAe : va_A (WX h g ca iv lv fa la) s.heap.size = A at hD ⊢
  have hA : ∀ q : Nat, s.heap.size ≤ q → A q := fun q h => by rw [← hAe]; exact Or.inr h
  have hS : va_S A s.heap s.heap [] := va_S.rf
  have hl := lv_entry [.ref (g 3 2)] (n := 2) (Nat.le_of_ble_eq_true rfl)
  rw [lg_entry_eq]
  generalize (lg_sl [.ref (g 3 2)] ++ List.replicate (2 - (lg_sl [.ref (g 3 2)]).length) Slot.unset).toArray = ls at hl ⊢
  have hl : lv_has ls 2 [(0, .ref (g 3 2))] := hl
  refine lv_iconst (v := 0) hx hb dX7_clear_0 (by decide) ?_
  refine lv_istore_n (lv' := [(1, .int 0), (0, .ref (g 3 2))]) hx hb dX7_clear_1 rfl hl (by decide) rfl (fun ls hl => ?_)
  refine lv_iload_n hx hb dX7_clear_2 rfl (lv_at hl 0 rfl) ?_
  refine lv_iconst (v := 3) hx hb dX7_clear_3 (by decide) ?_
  refine lv_icmp_ge (tgt := 34) hx hb dX7_clear_4 (by decide) (fun c1 => ?_) (fun c1 => ?_)
  · exact absurd c1 (by decide)
  · skip
    refine lv_aload_n hx hb dX7_clear_7 rfl (lv_at hl 1 rfl) ?_
    refine gX_30_0 hx hb ht hown hK hP m_261 dX7_clear_8 ?_
    refine lv_iload_n hx hb dX7_clear_11 rfl (lv_at hl 0 rfl) ?_
    refine lv_lconst (v := 0) hx hb dX7_clear_12 (by decide) ?_
    refine tX_30_0 hx hb hK hP hD hS (f0 := (la 30 0)) rfl (i := 0) (x := 0) (vp_in_iff.mpr (by decide)) dX7_clear_13 (fun f2 ef2 H locs hP hD hS => ?_)
    refine lv_aload_n hx hb dX7_clear_14 rfl (lv_at hl 1 rfl) ?_
    refine gX_30_1 hx hb ht hown hK hP m_264 dX7_clear_15 ?_
    refine lv_iload_n hx hb dX7_clear_18 rfl (lv_at hl 0 rfl) ?_
    refine lv_lconst (v := 0) hx hb dX7_clear_19 (by decide) ?_
    refine tX_30_1 hx hb hK hP hD hS (f0 := (la 30 1)) rfl (i := 0) (x := 0) (vp_in_iff.mpr (by decide)) dX7_clear_20 (fun f3 ef3 H locs hP hD hS => ?_)
    refine lv_aload_n hx hb dX7_clear_21 rfl (lv_at hl 1 rfl) ?_
    refine gX_30_2 hx hb ht hown hK hP m_267 dX7_clear_22 ?_
    refine lv_iload_n hx hb dX7_clear_25 rfl (lv_at hl 0 rfl) ?_
    refine lv_iconst (v := 0) hx hb dX7_clear_26 (by decide) ?_
    refine tX_30_2 hx hb hK hP hD hS (f0 := (fa 30 2)) rfl (i := 0) (x := 0) (vp_in_iff.mpr (by decide)) dX7_clear_27 (fun f4 ef4 H locs hP hD hS => ?_)
    have hf4 : ∀ j, inb (bA 30 2 j) (f4 j) := fun j => full_i _
    refine lv_iinc (v := 1) (lv' := [(1, .int 1), (0, .ref (g 3 2))]) hx hb dX7_clear_28 hl (k := 0) rfl (by decide) (by decide) rfl (fun ls hl => ?_)
    refine lv_goto (tgt := 2) hx hb dX7_clear_31 (by decide) ?_
    refine lv_iload_n hx hb dX7_clear_2 rfl (lv_at hl 0 rfl) ?_
    refine lv_iconst (v := 3) hx hb dX7_clear_3 (by decide) ?_
    refine lv_icmp_ge (tgt := 34) hx hb dX7_clear_4 (by decide) (fun c5 => ?_) (fun c5 => ?_)
    · exact absurd c5 (by decide)
    · skip
      refine lv_aload_n hx hb dX7_clear_7 rfl (lv_at hl 1 rfl) ?_
      refine gX_30_0 hx hb ht hown hK hP m_261 dX7_clear_8 ?_
      refine lv_iload_n hx hb dX7_clear_11 rfl (lv_at hl 0 rfl) ?_
      refine lv_lconst (v := 0) hx hb dX7_clear_12 (by decide) ?_
      refine tX_30_0 hx hb hK hP hD hS (f0 := f2) rfl (i := 1) (x := 0) (vp_in_iff.mpr (by decide)) dX7_clear_13 (fun f6 ef6 H locs hP hD hS => ?_)
      have hP : va_P (dC, dI) classes (WX h g ca iv lv (u2 fa 30 2 f4) (u2 (u2 la 30 0 f6) 30 1 f3)) H := hP
      have hD : va_D A (WX h g ca iv lv (u2 fa 30 2 f4) (u2 (u2 la 30 0 f6) 30 1 f3)) := hD
      refine lv_aload_n hx hb dX7_clear_14 rfl (lv_at hl 1 rfl) ?_
      refine gX_30_1 hx hb ht hown hK hP m_264 dX7_clear_15 ?_
      refine lv_iload_n hx hb dX7_clear_18 rfl (lv_at hl 0 rfl) ?_
      refine lv_lconst (v := 0) hx hb dX7_clear_19 (by decide) ?_
      refine tX_30_1 hx hb hK hP hD hS (f0 := f3) rfl (i := 1) (x := 0) (vp_in_iff.mpr (by decide)) dX7_clear_20 (fun f7 ef7 H locs hP hD hS => ?_)
      have hP : va_P (dC, dI) classes (WX h g ca iv lv (u2 fa 30 2 f4) (u2 (u2 la 30 0 f6) 30 1 f7)) H := hP
      have hD : va_D A (WX h g ca iv lv (u2 fa 30 2 f4) (u2 (u2 la 30 0 f6) 30 1 f7)) := hD
      refine lv_aload_n hx hb dX7_clear_21 rfl (lv_at hl 1 rfl) ?_
      refine gX_30_2 hx hb ht hown hK hP m_267 dX7_clear_22 ?_
      refine lv_iload_n hx hb dX7_clear_25 rfl (lv_at hl 0 rfl) ?_
      refine lv_iconst (v := 0) hx hb dX7_clear_26 (by decide) ?_
      refine tX_30_2 hx hb hK hP hD hS (f0 := f4) rfl (i := 1) (x := 0) (vp_in_iff.mpr (by decide)) dX7_clear_27 (fun f8 ef8 H locs hP hD hS => ?_)
      have hf8 : ∀ j, inb (bA 30 2 j) (f8 j) := fun j => full_i _
      have hP : va_P (dC, dI) classes (WX h g ca iv lv (u2 fa 30 2 f8) (u2 (u2 la 30 0 f6) 30 1 f7)) H := hP
      have hD : va_D A (WX h g ca iv lv (u2 fa 30 2 f8) (u2 (u2 la 30 0 f6) 30 1 f7)) := hD
      refine lv_iinc (v := 2) (lv' := [(1, .int 2), (0, .ref (g 3 2))]) hx hb dX7_clear_28 hl (k := 0) rfl (by decide) (by decide) rfl (fun ls hl => ?_)
      refine lv_goto (tgt := 2) hx hb dX7_clear_31 (by decide) ?_
      refine lv_iload_n hx hb dX7_clear_2 rfl (lv_at hl 0 rfl) ?_
      refine lv_iconst (v := 3) hx hb dX7_clear_3 (by decide) ?_
      refine lv_icmp_ge (tgt := 34) hx hb dX7_clear_4 (by decide) (fun c9 => ?_) (fun c9 => ?_)
      · exact absurd c9 (by decide)
      · skip
        refine lv_aload_n hx hb dX7_clear_7 rfl (lv_at hl 1 rfl) ?_
        refine gX_30_0 hx hb ht hown hK hP m_261 dX7_clear_8 ?_
        refine lv_iload_n hx hb dX7_clear_11 rfl (lv_at hl 0 rfl) ?_
        refine lv_lconst (v := 0) hx hb dX7_clear_12 (by decide) ?_
        refine tX_30_0 hx hb hK hP hD hS (f0 := f6) rfl (i := 2) (x := 0) (vp_in_iff.mpr (by decide)) dX7_clear_13 (fun f10 ef10 H locs hP hD hS => ?_)
        have hP : va_P (dC, dI) classes (WX h g ca iv lv (u2 fa 30 2 f8) (u2 (u2 la 30 0 f10) 30 1 f7)) H := hP
        have hD : va_D A (WX h g ca iv lv (u2 fa 30 2 f8) (u2 (u2 la 30 0 f10) 30 1 f7)) := hD
        refine lv_aload_n hx hb dX7_clear_14 rfl (lv_at hl 1 rfl) ?_
        refine gX_30_1 hx hb ht hown hK hP m_264 dX7_clear_15 ?_
        refine lv_iload_n hx hb dX7_clear_18 rfl (lv_at hl 0 rfl) ?_
        refine lv_lconst (v := 0) hx hb dX7_clear_19 (by decide) ?_
        refine tX_30_1 hx hb hK hP hD hS (f0 := f7) rfl (i := 2) (x := 0) (vp_in_iff.mpr (by decide)) dX7_clear_20 (fun f11 ef11 H locs hP hD hS => ?_)
        have hP : va_P (dC, dI) classes (WX h g ca iv lv (u2 fa 30 2 f8) (u2 (u2 la 30 0 f10) 30 1 f11)) H := hP
        have hD : va_D A (WX h g ca iv lv (u2 fa 30 2 f8) (u2 (u2 la 30 0 f10) 30 1 f11)) := hD
        refine lv_aload_n hx hb dX7_clear_21 rfl (lv_at hl 1 rfl) ?_
        refine gX_30_2 hx hb ht hown hK hP m_267 dX7_clear_22 ?_
        refine lv_iload_n hx hb dX7_clear_25 rfl (lv_at hl 0 rfl) ?_
        refine lv_iconst (v := 0) hx hb dX7_clear_26 (by decide) ?_
        refine tX_30_2 hx hb hK hP hD hS (f0 := f8) rfl (i := 2) (x := 0) (vp_in_iff.mpr (by decide)) dX7_clear_27 (fun f12 ef12 H locs hP hD hS => ?_)
        have hf12 : ∀ j, inb (bA 30 2 j) (f12 j) := fun j => full_i _
        have hP : va_P (dC, dI) classes (WX h g ca iv lv (u2 fa 30 2 f12) (u2 (u2 la 30 0 f10) 30 1 f11)) H := hP
        have hD : va_D A (WX h g ca iv lv (u2 fa 30 2 f12) (u2 (u2 la 30 0 f10) 30 1 f11)) := hD
        refine lv_iinc (v := 3) (lv' := [(1, .int 3), (0, .ref (g 3 2))]) hx hb dX7_clear_28 hl (k := 0) rfl (by decide) (by decide) rfl (fun ls hl => ?_)
        refine lv_goto (tgt := 2) hx hb dX7_clear_31 (by decide) ?_
        refine lv_iload_n hx hb dX7_clear_2 rfl (lv_at hl 0 rfl) ?_
        refine lv_iconst (v := 3) hx hb dX7_clear_3 (by decide) ?_
        refine lv_icmp_ge (tgt := 34) hx hb dX7_clear_4 (by decide) (fun c13 => ?_) (fun c13 => ?_)
        · skip
          have hP9 : va_P (dC, dI) classes (WX h g ca iv lv (u2 fa 30 2 f12) (u2 (u2 la 30 0 f10) 30 1 f11)) H := hP
          have hD9 : va_D A (WX h g ca iv lv (u2 fa 30 2 f12) (u2 (u2 la 30 0 f10) 30 1 f11)) := hD
          exact W.vret hx hb hr (fun t ht9 hW => ⟨⟨(iv, lv, (u2 fa 30 2 f12), (u2 (u2 la 30 0 f10) 30 1 f11)), rfl, ⟨f12, f10, f11, (show ∀ j : Nat, j < 3 → f10 j = 0 ∧ f11 j = 0 ∧ f12 j = 0 from (fun j hj => by
                rcases (by omega : j = 0 ∨ j = 1 ∨ j = 2) with rfl | rfl | rfl
                · exact ⟨(by rw [ef10, ef6, ef2]; rfl), (by rw [ef11, ef7, ef3]; rfl), (by rw [ef12, ef8, ef4]; rfl)⟩
                · exact ⟨(by rw [ef10, ef6, ef2]; rfl), (by rw [ef11, ef7, ef3]; rfl), (by rw [ef12, ef8, ef4]; rfl)⟩
                · exact ⟨(by rw [ef10, ef6, ef2]; rfl), (by rw [ef11, ef7, ef3]; rfl), (by rw [ef12, ef8, ef4]; rfl)⟩)), rfl⟩, by rw [ht9]; exact hP9, hD9⟩, hS.F ht9⟩) hS.2.2 dX7_clear_34
        · exact absurd c13 (by decide)
set_option maxHeartbeats 4000000 in
set_option maxRecDepth 100000 in
/-- X3_gather -/
theorem c_X3_gather_s (l : Launch) (dC : Nat → ClassId) (dI : Nat → Nat → Nat) (sz : Nat) (h : Nat) (g : Nat → Nat → Nat) (ca : Nat → Nat → ClassId) (iv : Nat → Nat → Int32) (lv : Nat → Nat → Int64) (fa : Nat → Nat → Nat → Int32) (la : Nat → Nat → Nat → Int64) (hI : IX iv fa) (a : Int32) (b : Int32) : Met l yX3_gather (wc yX3_gather cX3_gather 4 none) ({ frames := 2, cells := 0, slots := 0, locals := 44 } : Room) (pW (dC, dI) classes (WX h g ca iv lv fa la) (TX ca) sz [.ref (g 11 5), .int a, .int b]) (va_Qv (fun (u : SS) => ∃ (na_30_2 : Nat → Int32) (nb_30_0 : Nat → Int64) (nb_30_1 : Nat → Int64), (∀ l : Nat, l < 3 → nb_30_0 l = smL (fun s : Nat => ((fa 10 0) (9 * s + 0)).toInt = a.toInt ∧ ((fa 10 0) (9 * s + 1)).toInt = (l : Int) ∧ ((fa 10 0) (9 * s + 7)).toInt ≤ b.toInt ∧ (((fa 10 0) (9 * s + 8)).toInt = -1 ∨ b.toInt < ((fa 10 0) (9 * s + 8)).toInt)) (fun s : Nat => (fa 10 0) (9 * s + 3)) ((iv 10 1).toInt).toNat ∧ nb_30_1 l = smL (fun s : Nat => ((fa 10 0) (9 * s + 0)).toInt = a.toInt ∧ ((fa 10 0) (9 * s + 1)).toInt = (l : Int) ∧ ((fa 10 0) (9 * s + 7)).toInt ≤ b.toInt ∧ (((fa 10 0) (9 * s + 8)).toInt = -1 ∨ b.toInt < ((fa 10 0) (9 * s + 8)).toInt)) (fun s : Nat => (fa 10 0) (9 * s + 4)) ((iv 10 1).toInt).toNat ∧ na_30_2 l = smC (fun s : Nat => ((fa 10 0) (9 * s + 0)).toInt = a.toInt ∧ ((fa 10 0) (9 * s + 1)).toInt = (l : Int) ∧ ((fa 10 0) (9 * s + 7)).toInt ≤ b.toInt ∧ (((fa 10 0) (9 * s + 8)).toInt = -1 ∨ b.toInt < ((fa 10 0) (9 * s + 8)).toInt)) ((iv 10 1).toInt).toNat) ∧ u = (iv, lv, (u2 fa 30 2 na_30_2), (u2 (u2 la 30 0 nb_30_0) 30 1 nb_30_1))) (bX (dC, dI) h g ca (va_A (WX h g ca iv lv fa la) sz)) (va_A (WX h g ca iv lv fa la) sz)) 0 0 (va_A (WX h g ca iv lv fa la) sz) := by
  refine Met.ofW (cc := cX3_gather) (maxL := 4) (ret := none) (by decide) rfl ?_
  intro p e s m args below meth c s₁ B hml hv
  obtain ⟨rfl, hsz, hP, hK, hD0⟩ := hv
  have hx := B.exec
  have hb := B.bytes
  have hr := B.returns
  have ht := tb_tl (atoms_spec (ws := wc yX3_gather cX3_gather 4 none) B.pre)
  have hown : s.vm.findClass RX3 = some m.cls := findClass_of_methodNamed B.named
  have hlocks := B.notSynchronized
  subst hsz
  have hD := hD0.self (sz := s.heap.size)
  generalize hAe : va_A (WX h g ca iv lv fa la) s.heap.size = A at hD ⊢
  have hA : ∀ q : Nat, s.heap.size ≤ q → A q := fun q h => by rw [← hAe]; exact Or.inr h
  have hS : va_S A s.heap s.heap [] := va_S.rf
  have hl := lv_entry [.ref (g 11 5), .int a, .int b] (n := 4) (Nat.le_of_ble_eq_true rfl)
  rw [lg_entry_eq]
  generalize (lg_sl [.ref (g 11 5), .int a, .int b] ++ List.replicate (4 - (lg_sl [.ref (g 11 5), .int a, .int b]).length) Slot.unset).toArray = ls at hl ⊢
  have hl : lv_has ls 4 [(0, .ref (g 11 5)), (1, .int a), (2, .int b)] := hl
  refine lv_aload_n hx hb dX3_gather_0 rfl (lv_at hl 0 rfl) ?_
  refine gX_3_2 hx hb ht hown hK hP m_281 dX3_gather_1 ?_
  have hFc := free_all hD hS hA
  refine va_callv (va_runV (As := []) (rest := []) ⟨hx, hb, hml, hown, ht⟩ (c_X7_clear_s30 l dC dI s.heap.size h g ca iv lv fa la hI) (kV 0 ht m_568 m_569 m_570 m_84 m_571 rfl rfl hd_X7_clear_v ⟨Nat.le_of_ble_eq_true rfl, Nat.le_of_ble_eq_true rfl⟩) (vW hP hK hD (rX_30 hK hP)) rfl rfl hl.1 rfl (lv_room (Nat.le_of_ble_eq_true rfl)) dX3_gather_4 ⟨Nat.le_of_ble_eq_true rfl, Nat.le_of_ble_eq_true rfl⟩) hS (fun q _ h => hFc q h) hFc (fun u t H1 locs ht9 hvm hr1 hB hz1 hk1 hS => ?_)
  obtain ⟨n2, n3, n4, xr1_0, rfl⟩ := hr1
  have hn2 : ∀ j, inb (bA 30 2 j) (n2 j) := fun j => full_i _
  obtain ⟨hP, hD⟩ := hB
  rw [ht9] at hP
  generalize H1 = H at hP hS ⊢
  have hP : va_P (dC, dI) classes (WX h g ca iv lv (u2 fa 30 2 n2) (u2 (u2 la 30 0 n3) 30 1 n4)) H := hP
  have hD : va_D A (WX h g ca iv lv (u2 fa 30 2 n2) (u2 (u2 la 30 0 n3) 30 1 n4)) := (show va_D _ (WX h g ca iv lv (u2 fa 30 2 n2) (u2 (u2 la 30 0 n3) 30 1 n4)) from hD).weaken (fun _ _ _ h => hFc _ h)
  have xr1_0 : ∀ j : Nat, j < 3 → n3 j = 0 ∧ n4 j = 0 ∧ n2 j = 0 := xr1_0
  refine lv_iconst (v := 0) hx hb dX3_gather_7 (by decide) ?_
  refine lv_istore_n (lv' := [(3, .int 0), (0, .ref (g 11 5)), (1, .int a), (2, .int b)]) hx hb dX3_gather_8 rfl hl (by decide) rfl (fun ls hl => ?_)
  have i_10_1 : 0 ≤ (iv 10 1).toInt ∧ (iv 10 1).toInt ≤ 60 := hI.1 10 1
  have lp358 : ∀ (nn358 : Nat) (x357_3 : Int32) (w357_a_30_2 : Nat → Int32) (w357_b_30_0 : Nat → Int64) (w357_b_30_1 : Nat → Int64), 0 ≤ x357_3.toInt ∧ x357_3.toInt ≤ 60 → (∀ j, inb (bA 30 2 j) (w357_a_30_2 j)) → (∀ l : Nat, l < 3 → w357_b_30_0 l = smL (fun s : Nat => ((fa 10 0) (9 * s + 0)).toInt = (a).toInt ∧ ((fa 10 0) (9 * s + 1)).toInt = (l : Int) ∧ ((fa 10 0) (9 * s + 7)).toInt ≤ (b).toInt ∧ (((fa 10 0) (9 * s + 8)).toInt = -1 ∨ (b).toInt < ((fa 10 0) (9 * s + 8)).toInt)) (fun s : Nat => (fa 10 0) (9 * s + 3)) ((x357_3 : Int32).toInt).toNat ∧ w357_b_30_1 l = smL (fun s : Nat => ((fa 10 0) (9 * s + 0)).toInt = (a).toInt ∧ ((fa 10 0) (9 * s + 1)).toInt = (l : Int) ∧ ((fa 10 0) (9 * s + 7)).toInt ≤ (b).toInt ∧ (((fa 10 0) (9 * s + 8)).toInt = -1 ∨ (b).toInt < ((fa 10 0) (9 * s + 8)).toInt)) (fun s : Nat => (fa 10 0) (9 * s + 4)) ((x357_3 : Int32).toInt).toNat ∧ w357_a_30_2 l = smC (fun s : Nat => ((fa 10 0) (9 * s + 0)).toInt = (a).toInt ∧ ((fa 10 0) (9 * s + 1)).toInt = (l : Int) ∧ ((fa 10 0) (9 * s + 7)).toInt ≤ (b).toInt ∧ (((fa 10 0) (9 * s + 8)).toInt = -1 ∨ (b).toInt < ((fa 10 0) (9 * s + 8)).toInt)) ((x357_3 : Int32).toInt).toNat) → (x357_3 : Int32).toInt ≤ ((iv 10 1) : Int32).toInt → 60 - x357_3.toInt < (nn358 : Int) → ∀ (H : Heap) (locs : List Loc), ∀ (ls : Array Slot), va_P (dC, dI) classes (WX h g ca iv lv (u2 fa 30 2 w357_a_30_2) (u2 (u2 la 30 0 w357_b_30_0) 30 1 w357_b_30_1)) H → va_D A (WX h g ca iv lv (u2 fa 30 2 w357_a_30_2) (u2 (u2 la 30 0 w357_b_30_0) 30 1 w357_b_30_1)) → va_S A s.heap H locs → lv_has ls 4 [(3, .int x357_3), (0, .ref (g 11 5)), (1, .int a), (2, .int b)] → W p l e ({ frames := 2, cells := 0, slots := 0, locals := 44 } : Room) s m ([.ref (g 11 5), .int a, .int b] : List Value).toArray below meth c H locs 0 0 (MQ below (va_Qv (fun (u : SS) => ∃ (na_30_2 : Nat → Int32) (nb_30_0 : Nat → Int64) (nb_30_1 : Nat → Int64), (∀ l : Nat, l < 3 → nb_30_0 l = smL (fun s : Nat => ((fa 10 0) (9 * s + 0)).toInt = a.toInt ∧ ((fa 10 0) (9 * s + 1)).toInt = (l : Int) ∧ ((fa 10 0) (9 * s + 7)).toInt ≤ b.toInt ∧ (((fa 10 0) (9 * s + 8)).toInt = -1 ∨ b.toInt < ((fa 10 0) (9 * s + 8)).toInt)) (fun s : Nat => (fa 10 0) (9 * s + 3)) ((iv 10 1).toInt).toNat ∧ nb_30_1 l = smL (fun s : Nat => ((fa 10 0) (9 * s + 0)).toInt = a.toInt ∧ ((fa 10 0) (9 * s + 1)).toInt = (l : Int) ∧ ((fa 10 0) (9 * s + 7)).toInt ≤ b.toInt ∧ (((fa 10 0) (9 * s + 8)).toInt = -1 ∨ b.toInt < ((fa 10 0) (9 * s + 8)).toInt)) (fun s : Nat => (fa 10 0) (9 * s + 4)) ((iv 10 1).toInt).toNat ∧ na_30_2 l = smC (fun s : Nat => ((fa 10 0) (9 * s + 0)).toInt = a.toInt ∧ ((fa 10 0) (9 * s + 1)).toInt = (l : Int) ∧ ((fa 10 0) (9 * s + 7)).toInt ≤ b.toInt ∧ (((fa 10 0) (9 * s + 8)).toInt = -1 ∨ b.toInt < ((fa 10 0) (9 * s + 8)).toInt)) ((iv 10 1).toInt).toNat) ∧ u = (iv, lv, (u2 fa 30 2 na_30_2), (u2 (u2 la 30 0 nb_30_0) 30 1 nb_30_1))) (bX (dC, dI) h g ca A) A) ([.ref (g 11 5), .int a, .int b] : List Value).toArray s 0 0 A) (F0 m 9 ls []) := by
    intro nn358
    induction nn358 with
    | zero => intro x357_3 w357_a_30_2 w357_b_30_0 w357_b_30_1 hx357_3 hw357_a_30_2 hq358_0 hq358_1 hm358; exfalso; omega
    | succ nn358 ih358 =>
      intro x357_3 w357_a_30_2 w357_b_30_0 w357_b_30_1 hx357_3 hw357_a_30_2 hq358_0 hq358_1 hm358 H locs ls hP hD hS hl
      refine lv_iload_n hx hb dX3_gather_9 rfl (lv_at hl 0 rfl) ?_
      refine lv_aload_n hx hb dX3_gather_10 rfl (lv_at hl 1 rfl) ?_
      refine gX_3_0 hx hb ht hown hK hP m_279 dX3_gather_11 ?_
      refine gX_10_1 hx hb ht hown hK hP m_113 (v := (iv 10 1)) rfl dX3_gather_14 ?_
      refine lv_icmp_ge (tgt := 85) hx hb dX3_gather_17 (by decide) (fun c359 => ?_) (fun c359 => ?_)
      · have fc359 := z_le (rfl : ((iv 10 1)).toInt = _) (rfl : (x357_3).toInt = _) c359
        have hP9 : va_P (dC, dI) classes (WX h g ca iv lv (u2 fa 30 2 w357_a_30_2) (u2 (u2 la 30 0 w357_b_30_0) 30 1 w357_b_30_1)) H := hP
        have hD9 : va_D A (WX h g ca iv lv (u2 fa 30 2 w357_a_30_2) (u2 (u2 la 30 0 w357_b_30_0) 30 1 w357_b_30_1)) := hD
        exact W.vret hx hb hr (fun t ht9 hW => ⟨⟨(iv, lv, (u2 fa 30 2 w357_a_30_2), (u2 (u2 la 30 0 w357_b_30_0) 30 1 w357_b_30_1)), rfl, ⟨w357_a_30_2, w357_b_30_0, w357_b_30_1, (show ∀ l : Nat, l < 3 → w357_b_30_0 l = smL (fun s : Nat => ((fa 10 0) (9 * s + 0)).toInt = (a).toInt ∧ ((fa 10 0) (9 * s + 1)).toInt = (l : Int) ∧ ((fa 10 0) (9 * s + 7)).toInt ≤ (b).toInt ∧ (((fa 10 0) (9 * s + 8)).toInt = -1 ∨ (b).toInt < ((fa 10 0) (9 * s + 8)).toInt)) (fun s : Nat => (fa 10 0) (9 * s + 3)) (((iv 10 1) : Int32).toInt).toNat ∧ w357_b_30_1 l = smL (fun s : Nat => ((fa 10 0) (9 * s + 0)).toInt = (a).toInt ∧ ((fa 10 0) (9 * s + 1)).toInt = (l : Int) ∧ ((fa 10 0) (9 * s + 7)).toInt ≤ (b).toInt ∧ (((fa 10 0) (9 * s + 8)).toInt = -1 ∨ (b).toInt < ((fa 10 0) (9 * s + 8)).toInt)) (fun s : Nat => (fa 10 0) (9 * s + 4)) (((iv 10 1) : Int32).toInt).toNat ∧ w357_a_30_2 l = smC (fun s : Nat => ((fa 10 0) (9 * s + 0)).toInt = (a).toInt ∧ ((fa 10 0) (9 * s + 1)).toInt = (l : Int) ∧ ((fa 10 0) (9 * s + 7)).toInt ≤ (b).toInt ∧ (((fa 10 0) (9 * s + 8)).toInt = -1 ∨ (b).toInt < ((fa 10 0) (9 * s + 8)).toInt)) (((iv 10 1) : Int32).toInt).toNat from (by have hq9 := hq358_0; have he9 : (x357_3 : Int32).toInt = (iv 10 1).toInt := (by omega); rw [he9] at hq9; exact hq9)), rfl⟩, by rw [ht9]; exact hP9, hD9⟩, hS.F ht9⟩) hS.2.2 dX3_gather_85
      · have fc359 := z_nle (rfl : ((iv 10 1)).toInt = _) (rfl : (x357_3).toInt = _) c359
        refine lv_aload_n hx hb dX3_gather_20 rfl (lv_at hl 1 rfl) ?_
        refine gX_3_0 hx hb ht hown hK hP m_279 dX3_gather_21 ?_
        refine lv_iload_n hx hb dX3_gather_24 rfl (lv_at hl 0 rfl) ?_
        refine lv_iconst (v := 0) hx hb dX3_gather_25 (by decide) ?_
        refine vp_callSi (W.runV (As := [.int x357_3, .int 0]) (rest := []) ⟨hx, hb, hml, hown, ht⟩ (c_X10_get_x0 l dC dI h g ca iv lv (u2 fa 30 2 w357_a_30_2) (u2 (u2 la 30 0 w357_b_30_0) 30 1 w357_b_30_1) (IX_a (c := 30) (k := 2) hI hw357_a_30_2) x357_3 ⟨by omega, by omega⟩) (kV 2 ht m_572 m_486 m_487 m_78 m_488 rfl rfl hd_X10_get_v ⟨Nat.le_of_ble_eq_true rfl, Nat.le_of_ble_eq_true rfl⟩) (vR hP hK (rX_10 hK hP)) rfl rfl hl.1 rfl (lv_room (Nat.le_of_ble_eq_true rfl)) dX3_gather_26 ⟨Nat.le_of_ble_eq_true rfl, Nat.le_of_ble_eq_true rfl⟩) (fun r360 hr360 => ?_)
        obtain ⟨hr360, xr360_0⟩ := hr360
        have xr360_0 : (r360 : Int32).toInt = ((fa 10 0) (9 * ((x357_3 : Int32).toInt).toNat + 0)).toInt := xr360_0
        refine lv_iload_n hx hb dX3_gather_29 rfl (lv_at hl 2 rfl) ?_
        refine lv_icmp_ne (tgt := 79) hx hb dX3_gather_30 (by decide) (fun c361 => ?_) (fun c361 => ?_)
        · have fc361 := z_ne (rfl : (r360).toInt = _) (rfl : (a).toInt = _) c361
          obtain ⟨v362, ev362⟩ : ∃ y : Int32, y = x357_3 + 1 := ⟨_, rfl⟩
          have tv362 := z_add ev362 rfl (by decide : (1 : Int32).toInt = 1) (by omega) (by omega)
          refine lv_iinc (v := v362) (lv' := [(3, .int v362), (0, .ref (g 11 5)), (1, .int a), (2, .int b)]) hx hb dX3_gather_79 hl (k := 0) rfl (by rw [ev362]; rfl) (by decide) rfl (fun ls hl => ?_)
          refine lv_goto (tgt := 9) hx hb dX3_gather_82 (by decide) ?_
          exact ih358 v362 w357_a_30_2 w357_b_30_0 w357_b_30_1 ⟨by omega, by omega⟩ hw357_a_30_2 (show ∀ l : Nat, l < 3 → w357_b_30_0 l = smL (fun s : Nat => ((fa 10 0) (9 * s + 0)).toInt = (a).toInt ∧ ((fa 10 0) (9 * s + 1)).toInt = (l : Int) ∧ ((fa 10 0) (9 * s + 7)).toInt ≤ (b).toInt ∧ (((fa 10 0) (9 * s + 8)).toInt = -1 ∨ (b).toInt < ((fa 10 0) (9 * s + 8)).toInt)) (fun s : Nat => (fa 10 0) (9 * s + 3)) ((v362 : Int32).toInt).toNat ∧ w357_b_30_1 l = smL (fun s : Nat => ((fa 10 0) (9 * s + 0)).toInt = (a).toInt ∧ ((fa 10 0) (9 * s + 1)).toInt = (l : Int) ∧ ((fa 10 0) (9 * s + 7)).toInt ≤ (b).toInt ∧ (((fa 10 0) (9 * s + 8)).toInt = -1 ∨ (b).toInt < ((fa 10 0) (9 * s + 8)).toInt)) (fun s : Nat => (fa 10 0) (9 * s + 4)) ((v362 : Int32).toInt).toNat ∧ w357_a_30_2 l = smC (fun s : Nat => ((fa 10 0) (9 * s + 0)).toInt = (a).toInt ∧ ((fa 10 0) (9 * s + 1)).toInt = (l : Int) ∧ ((fa 10 0) (9 * s + 7)).toInt ≤ (b).toInt ∧ (((fa 10 0) (9 * s + 8)).toInt = -1 ∨ (b).toInt < ((fa 10 0) (9 * s + 8)).toInt)) ((v362 : Int32).toInt).toNat from (fun l hl => by
                have hs9 : ((v362 : Int32).toInt).toNat = ((x357_3 : Int32).toInt).toNat + 1 := by omega
                have hq9 := hq358_0 l hl
                have hc : ¬ ((fa 10 0 (9 * ((x357_3 : Int32).toInt).toNat + 0)).toInt = a.toInt ∧ (fa 10 0 (9 * ((x357_3 : Int32).toInt).toNat + 1)).toInt = (l : Int) ∧ (fa 10 0 (9 * ((x357_3 : Int32).toInt).toNat + 7)).toInt ≤ b.toInt ∧ ((fa 10 0 (9 * ((x357_3 : Int32).toInt).toNat + 8)).toInt = -1 ∨ b.toInt < (fa 10 0 (9 * ((x357_3 : Int32).toInt).toNat + 8)).toInt)) := by omega
                rw [smL_n hs9 hc, smL_n hs9 hc, smC_n hs9 hc]
                exact hq9)) (show (v362 : Int32).toInt ≤ ((iv 10 1) : Int32).toInt from by omega) (by omega) _ _ ls hP hD hS (lv_sub hl [0, 1, 2, 3] rfl)
        · have fc361 := z_eq (rfl : (r360).toInt = _) (rfl : (a).toInt = _) c361
          refine lv_aload_n hx hb dX3_gather_33 rfl (lv_at hl 1 rfl) ?_
          refine gX_3_0 hx hb ht hown hK hP m_279 dX3_gather_34 ?_
          refine lv_iload_n hx hb dX3_gather_37 rfl (lv_at hl 0 rfl) ?_
          refine lv_iload_n hx hb dX3_gather_38 rfl (lv_at hl 3 rfl) ?_
          refine vp_callSi (W.runV (As := [.int x357_3, .int b]) (rest := []) ⟨hx, hb, hml, hown, ht⟩ (c_X10_counts_x l dC dI h g ca iv lv (u2 fa 30 2 w357_a_30_2) (u2 (u2 la 30 0 w357_b_30_0) 30 1 w357_b_30_1) (IX_a (c := 30) (k := 2) hI hw357_a_30_2) x357_3 b ⟨by omega, by omega⟩) (kV 2 ht m_573 m_574 m_575 m_78 m_576 rfl rfl hd_X10_counts_v ⟨Nat.le_of_ble_eq_true rfl, Nat.le_of_ble_eq_true rfl⟩) (vR hP hK (rX_10 hK hP)) rfl rfl hl.1 rfl (lv_room (Nat.le_of_ble_eq_true rfl)) dX3_gather_39 ⟨Nat.le_of_ble_eq_true rfl, Nat.le_of_ble_eq_true rfl⟩) (fun r363 hr363 => ?_)
          obtain ⟨hr363, xr363_0⟩ := hr363
          have xr363_0 : (((r363 : Int32).toInt = 1 ∧ ((fa 10 0) (9 * ((x357_3 : Int32).toInt).toNat + 7)).toInt ≤ (b : Int32).toInt ∧ (((fa 10 0) (9 * ((x357_3 : Int32).toInt).toNat + 8)).toInt = -1 ∨ (b : Int32).toInt < ((fa 10 0) (9 * ((x357_3 : Int32).toInt).toNat + 8)).toInt)) ∨ ((r363 : Int32).toInt = 0 ∧ ¬ (((fa 10 0) (9 * ((x357_3 : Int32).toInt).toNat + 7)).toInt ≤ (b : Int32).toInt ∧ (((fa 10 0) (9 * ((x357_3 : Int32).toInt).toNat + 8)).toInt = -1 ∨ (b : Int32).toInt < ((fa 10 0) (9 * ((x357_3 : Int32).toInt).toNat + 8)).toInt)))) := xr363_0
          refine lv_if_eq (tgt := 79) hx hb dX3_gather_42 (by decide) (fun c364 => ?_) (fun c364 => ?_)
          · have fc364 := z_eq (rfl : (r363).toInt = _) (by decide : (0 : Int32).toInt = 0) c364
            obtain ⟨v365, ev365⟩ : ∃ y : Int32, y = x357_3 + 1 := ⟨_, rfl⟩
            have tv365 := z_add ev365 rfl (by decide : (1 : Int32).toInt = 1) (by omega) (by omega)
            refine lv_iinc (v := v365) (lv' := [(3, .int v365), (0, .ref (g 11 5)), (1, .int a), (2, .int b)]) hx hb dX3_gather_79 hl (k := 0) rfl (by rw [ev365]; rfl) (by decide) rfl (fun ls hl => ?_)
            refine lv_goto (tgt := 9) hx hb dX3_gather_82 (by decide) ?_
            exact ih358 v365 w357_a_30_2 w357_b_30_0 w357_b_30_1 ⟨by omega, by omega⟩ hw357_a_30_2 (show ∀ l : Nat, l < 3 → w357_b_30_0 l = smL (fun s : Nat => ((fa 10 0) (9 * s + 0)).toInt = (a).toInt ∧ ((fa 10 0) (9 * s + 1)).toInt = (l : Int) ∧ ((fa 10 0) (9 * s + 7)).toInt ≤ (b).toInt ∧ (((fa 10 0) (9 * s + 8)).toInt = -1 ∨ (b).toInt < ((fa 10 0) (9 * s + 8)).toInt)) (fun s : Nat => (fa 10 0) (9 * s + 3)) ((v365 : Int32).toInt).toNat ∧ w357_b_30_1 l = smL (fun s : Nat => ((fa 10 0) (9 * s + 0)).toInt = (a).toInt ∧ ((fa 10 0) (9 * s + 1)).toInt = (l : Int) ∧ ((fa 10 0) (9 * s + 7)).toInt ≤ (b).toInt ∧ (((fa 10 0) (9 * s + 8)).toInt = -1 ∨ (b).toInt < ((fa 10 0) (9 * s + 8)).toInt)) (fun s : Nat => (fa 10 0) (9 * s + 4)) ((v365 : Int32).toInt).toNat ∧ w357_a_30_2 l = smC (fun s : Nat => ((fa 10 0) (9 * s + 0)).toInt = (a).toInt ∧ ((fa 10 0) (9 * s + 1)).toInt = (l : Int) ∧ ((fa 10 0) (9 * s + 7)).toInt ≤ (b).toInt ∧ (((fa 10 0) (9 * s + 8)).toInt = -1 ∨ (b).toInt < ((fa 10 0) (9 * s + 8)).toInt)) ((v365 : Int32).toInt).toNat from (fun l hl => by
                  have hs9 : ((v365 : Int32).toInt).toNat = ((x357_3 : Int32).toInt).toNat + 1 := by omega
                  have hq9 := hq358_0 l hl
                  have hc : ¬ ((fa 10 0 (9 * ((x357_3 : Int32).toInt).toNat + 0)).toInt = a.toInt ∧ (fa 10 0 (9 * ((x357_3 : Int32).toInt).toNat + 1)).toInt = (l : Int) ∧ (fa 10 0 (9 * ((x357_3 : Int32).toInt).toNat + 7)).toInt ≤ b.toInt ∧ ((fa 10 0 (9 * ((x357_3 : Int32).toInt).toNat + 8)).toInt = -1 ∨ b.toInt < (fa 10 0 (9 * ((x357_3 : Int32).toInt).toNat + 8)).toInt)) := by omega
                  rw [smL_n hs9 hc, smL_n hs9 hc, smC_n hs9 hc]
                  exact hq9)) (show (v365 : Int32).toInt ≤ ((iv 10 1) : Int32).toInt from by omega) (by omega) _ _ ls hP hD hS (lv_sub hl [0, 1, 2, 3] rfl)
          · have fc364 := z_ne (rfl : (r363).toInt = _) (by decide : (0 : Int32).toInt = 0) c364
            refine lv_aload_n hx hb dX3_gather_45 rfl (lv_at hl 1 rfl) ?_
            refine gX_3_2 hx hb ht hown hK hP m_281 dX3_gather_46 ?_
            refine lv_aload_n hx hb dX3_gather_49 rfl (lv_at hl 1 rfl) ?_
            refine gX_3_0 hx hb ht hown hK hP m_279 dX3_gather_50 ?_
            refine lv_iload_n hx hb dX3_gather_53 rfl (lv_at hl 0 rfl) ?_
            refine lv_iconst (v := 1) hx hb dX3_gather_54 (by decide) ?_
            refine vp_callSi (W.runV (As := [.int x357_3, .int 1]) (rest := [.ref (g 3 2)]) ⟨hx, hb, hml, hown, ht⟩ (c_X10_get_x1 l dC dI h g ca iv lv (u2 fa 30 2 w357_a_30_2) (u2 (u2 la 30 0 w357_b_30_0) 30 1 w357_b_30_1) (IX_a (c := 30) (k := 2) hI hw357_a_30_2) x357_3 ⟨by omega, by omega⟩) (kV 2 ht m_572 m_486 m_487 m_78 m_488 rfl rfl hd_X10_get_v ⟨Nat.le_of_ble_eq_true rfl, Nat.le_of_ble_eq_true rfl⟩) (vR hP hK (rX_10 hK hP)) rfl rfl hl.1 rfl (lv_room (Nat.le_of_ble_eq_true rfl)) dX3_gather_55 ⟨Nat.le_of_ble_eq_true rfl, Nat.le_of_ble_eq_true rfl⟩) (fun r366 hr366 => ?_)
            obtain ⟨hr366, xr366_0⟩ := hr366
            have xr366_0 : (r366 : Int32).toInt = ((fa 10 0) (9 * ((x357_3 : Int32).toInt).toNat + 1)).toInt := xr366_0
            refine lv_aload_n hx hb dX3_gather_58 rfl (lv_at hl 1 rfl) ?_
            refine gX_3_0 hx hb ht hown hK hP m_279 dX3_gather_59 ?_
            refine lv_iload_n hx hb dX3_gather_62 rfl (lv_at hl 0 rfl) ?_
            refine lv_iconst (v := 3) hx hb dX3_gather_63 (by decide) ?_
            refine vp_callSi (W.runV (As := [.int x357_3, .int 3]) (rest := [.int r366, .ref (g 3 2)]) ⟨hx, hb, hml, hown, ht⟩ (c_X10_get_x3 l dC dI h g ca iv lv (u2 fa 30 2 w357_a_30_2) (u2 (u2 la 30 0 w357_b_30_0) 30 1 w357_b_30_1) (IX_a (c := 30) (k := 2) hI hw357_a_30_2) x357_3 ⟨by omega, by omega⟩) (kV 2 ht m_572 m_486 m_487 m_78 m_488 rfl rfl hd_X10_get_v ⟨Nat.le_of_ble_eq_true rfl, Nat.le_of_ble_eq_true rfl⟩) (vR hP hK (rX_10 hK hP)) rfl rfl hl.1 rfl (lv_room (Nat.le_of_ble_eq_true rfl)) dX3_gather_64 ⟨Nat.le_of_ble_eq_true rfl, Nat.le_of_ble_eq_true rfl⟩) (fun r367 hr367 => ?_)
            obtain ⟨hr367, xr367_0⟩ := hr367
            have xr367_0 : (r367 : Int32).toInt = ((fa 10 0) (9 * ((x357_3 : Int32).toInt).toNat + 3)).toInt := xr367_0
            refine lv_aload_n hx hb dX3_gather_67 rfl (lv_at hl 1 rfl) ?_
            refine gX_3_0 hx hb ht hown hK hP m_279 dX3_gather_68 ?_
            refine lv_iload_n hx hb dX3_gather_71 rfl (lv_at hl 0 rfl) ?_
            refine lv_iconst (v := 4) hx hb dX3_gather_72 (by decide) ?_
            refine vp_callSi (W.runV (As := [.int x357_3, .int 4]) (rest := [.int r367, .int r366, .ref (g 3 2)]) ⟨hx, hb, hml, hown, ht⟩ (c_X10_get_x4 l dC dI h g ca iv lv (u2 fa 30 2 w357_a_30_2) (u2 (u2 la 30 0 w357_b_30_0) 30 1 w357_b_30_1) (IX_a (c := 30) (k := 2) hI hw357_a_30_2) x357_3 ⟨by omega, by omega⟩) (kV 2 ht m_572 m_486 m_487 m_78 m_488 rfl rfl hd_X10_get_v ⟨Nat.le_of_ble_eq_true rfl, Nat.le_of_ble_eq_true rfl⟩) (vR hP hK (rX_10 hK hP)) rfl rfl hl.1 rfl (lv_room (Nat.le_of_ble_eq_true rfl)) dX3_gather_73 ⟨Nat.le_of_ble_eq_true rfl, Nat.le_of_ble_eq_true rfl⟩) (fun r368 hr368 => ?_)
            obtain ⟨hr368, xr368_0⟩ := hr368
            have xr368_0 : (r368 : Int32).toInt = ((fa 10 0) (9 * ((x357_3 : Int32).toInt).toNat + 4)).toInt := xr368_0
            have hFc := free_all hD hS hA
            refine va_callv (va_runV (As := [.int r366, .int r367, .int r368]) (rest := []) ⟨hx, hb, hml, hown, ht⟩ (c_X7_put_s30 l dC dI H.size h g ca iv lv (u2 fa 30 2 w357_a_30_2) (u2 (u2 la 30 0 w357_b_30_0) 30 1 w357_b_30_1) (IX_a (c := 30) (k := 2) hI hw357_a_30_2) r366 r367 r368 ⟨by omega, by omega⟩) (kV 3 ht m_577 m_578 m_579 m_84 m_580 rfl rfl hd_X7_put_v ⟨Nat.le_of_ble_eq_true rfl, Nat.le_of_ble_eq_true rfl⟩) (vW hP hK hD (rX_30 hK hP)) rfl rfl hl.1 rfl (lv_room (Nat.le_of_ble_eq_true rfl)) dX3_gather_76 ⟨Nat.le_of_ble_eq_true rfl, Nat.le_of_ble_eq_true rfl⟩) hS (fun q _ h => hFc q h) hFc (fun u t H1 locs ht9 hvm hr369 hB hz1 hk1 hS => ?_)
            obtain ⟨n370, n371, n372, xr369_0, xr369_1, xr369_2, xr369_3, xr369_4, xr369_5, rfl⟩ := hr369
            have hn370 : ∀ j, inb (bA 30 2 j) (n370 j) := fun j => full_i _
            obtain ⟨hP, hD⟩ := hB
            rw [ht9] at hP
            generalize H1 = H at hP hS ⊢
            have hP : va_P (dC, dI) classes (WX h g ca iv lv (u2 fa 30 2 n370) (u2 (u2 la 30 0 n371) 30 1 n372)) H := hP
            have hD : va_D A (WX h g ca iv lv (u2 fa 30 2 n370) (u2 (u2 la 30 0 n371) 30 1 n372)) := (show va_D _ (WX h g ca iv lv (u2 fa 30 2 n370) (u2 (u2 la 30 0 n371) 30 1 n372)) from hD).weaken (fun _ _ _ h => hFc _ h)
            have xr369_0 : ∀ j : Nat, j ≠ (r366 : Int32).toNatClampNeg → n371 j = w357_b_30_0 j := xr369_0
            have xr369_1 : ∀ j : Nat, j ≠ (r366 : Int32).toNatClampNeg → n372 j = w357_b_30_1 j := xr369_1
            have xr369_2 : ∀ j : Nat, j ≠ (r366 : Int32).toNatClampNeg → n370 j = w357_a_30_2 j := xr369_2
            have xr369_3 : n371 (r366 : Int32).toNatClampNeg = w357_b_30_0 (r366 : Int32).toNatClampNeg + ((r367 : Int32)).toInt64 := xr369_3
            have xr369_4 : n372 (r366 : Int32).toNatClampNeg = w357_b_30_1 (r366 : Int32).toNatClampNeg + ((r368 : Int32)).toInt64 := xr369_4
            have xr369_5 : n370 (r366 : Int32).toNatClampNeg = w357_a_30_2 (r366 : Int32).toNatClampNeg + 1 := xr369_5
            obtain ⟨v373, ev373⟩ : ∃ y : Int32, y = x357_3 + 1 := ⟨_, rfl⟩
            have tv373 := z_add ev373 rfl (by decide : (1 : Int32).toInt = 1) (by omega) (by omega)
            refine lv_iinc (v := v373) (lv' := [(3, .int v373), (0, .ref (g 11 5)), (1, .int a), (2, .int b)]) hx hb dX3_gather_79 hl (k := 0) rfl (by rw [ev373]; rfl) (by decide) rfl (fun ls hl => ?_)
            refine lv_goto (tgt := 9) hx hb dX3_gather_82 (by decide) ?_
            exact ih358 v373 n370 n371 n372 ⟨by omega, by omega⟩ hn370 (show ∀ l : Nat, l < 3 → n371 l = smL (fun s : Nat => ((fa 10 0) (9 * s + 0)).toInt = (a).toInt ∧ ((fa 10 0) (9 * s + 1)).toInt = (l : Int) ∧ ((fa 10 0) (9 * s + 7)).toInt ≤ (b).toInt ∧ (((fa 10 0) (9 * s + 8)).toInt = -1 ∨ (b).toInt < ((fa 10 0) (9 * s + 8)).toInt)) (fun s : Nat => (fa 10 0) (9 * s + 3)) ((v373 : Int32).toInt).toNat ∧ n372 l = smL (fun s : Nat => ((fa 10 0) (9 * s + 0)).toInt = (a).toInt ∧ ((fa 10 0) (9 * s + 1)).toInt = (l : Int) ∧ ((fa 10 0) (9 * s + 7)).toInt ≤ (b).toInt ∧ (((fa 10 0) (9 * s + 8)).toInt = -1 ∨ (b).toInt < ((fa 10 0) (9 * s + 8)).toInt)) (fun s : Nat => (fa 10 0) (9 * s + 4)) ((v373 : Int32).toInt).toNat ∧ n370 l = smC (fun s : Nat => ((fa 10 0) (9 * s + 0)).toInt = (a).toInt ∧ ((fa 10 0) (9 * s + 1)).toInt = (l : Int) ∧ ((fa 10 0) (9 * s + 7)).toInt ≤ (b).toInt ∧ (((fa 10 0) (9 * s + 8)).toInt = -1 ∨ (b).toInt < ((fa 10 0) (9 * s + 8)).toInt)) ((v373 : Int32).toInt).toNat from (fun l hl => by
                  have hs9 : ((v373 : Int32).toInt).toNat = ((x357_3 : Int32).toInt).toNat + 1 := by omega
                  have hq9 := hq358_0 l hl
                  by_cases hl2 : l = (r366 : Int32).toNatClampNeg
                  · have hl3 : (l : Int) = (r366 : Int32).toInt := by rw [hl2]; show (((r366 : Int32).toInt.toNat : Nat) : Int) = _; omega
                    have hc : (fa 10 0 (9 * ((x357_3 : Int32).toInt).toNat + 0)).toInt = a.toInt ∧ (fa 10 0 (9 * ((x357_3 : Int32).toInt).toNat + 1)).toInt = (l : Int) ∧ (fa 10 0 (9 * ((x357_3 : Int32).toInt).toNat + 7)).toInt ≤ b.toInt ∧ ((fa 10 0 (9 * ((x357_3 : Int32).toInt).toNat + 8)).toInt = -1 ∨ b.toInt < (fa 10 0 (9 * ((x357_3 : Int32).toInt).toNat + 8)).toInt) := ⟨by omega, by omega, by omega, by omega⟩
                    have hr : (r367 : Int32) = fa 10 0 (9 * ((x357_3 : Int32).toInt).toNat + 3) := Int32.toInt_inj.mp (by omega)
                    have hd : (r368 : Int32) = fa 10 0 (9 * ((x357_3 : Int32).toInt).toNat + 4) := Int32.toInt_inj.mp (by omega)
                    rw [smL_y hs9 hc, smL_y hs9 hc, smC_y hs9 hc, ← hq9.1, ← hq9.2.1, ← hq9.2.2, hl2, xr369_3, xr369_4, xr369_5, hr, hd]
                    exact ⟨rfl, rfl, rfl⟩
                  · have hc : ¬ ((fa 10 0 (9 * ((x357_3 : Int32).toInt).toNat + 0)).toInt = a.toInt ∧ (fa 10 0 (9 * ((x357_3 : Int32).toInt).toNat + 1)).toInt = (l : Int) ∧ (fa 10 0 (9 * ((x357_3 : Int32).toInt).toNat + 7)).toInt ≤ b.toInt ∧ ((fa 10 0 (9 * ((x357_3 : Int32).toInt).toNat + 8)).toInt = -1 ∨ b.toInt < (fa 10 0 (9 * ((x357_3 : Int32).toInt).toNat + 8)).toInt)) := fun z => hl2 (by show l = (r366 : Int32).toInt.toNat; omega)
                    rw [smL_n hs9 hc, smL_n hs9 hc, smC_n hs9 hc]
                    rw [xr369_0 l hl2, xr369_1 l hl2, xr369_2 l hl2]
                    exact hq9)) (show (v373 : Int32).toInt ≤ ((iv 10 1) : Int32).toInt from by omega) (by omega) _ _ ls hP hD hS (lv_sub hl [0, 1, 2, 3] rfl)
  have : (0 : Int32).toInt = 0 := (by decide)
  have i_10_1 : 0 ≤ (iv 10 1).toInt ∧ (iv 10 1).toInt ≤ 60 := hI.1 10 1
  exact lp358 61 0 n2 n3 n4 ⟨by decide, by decide⟩ hn2 (show ∀ l : Nat, l < 3 → n3 l = smL (fun s : Nat => ((fa 10 0) (9 * s + 0)).toInt = (a).toInt ∧ ((fa 10 0) (9 * s + 1)).toInt = (l : Int) ∧ ((fa 10 0) (9 * s + 7)).toInt ≤ (b).toInt ∧ (((fa 10 0) (9 * s + 8)).toInt = -1 ∨ (b).toInt < ((fa 10 0) (9 * s + 8)).toInt)) (fun s : Nat => (fa 10 0) (9 * s + 3)) ((0 : Int32).toInt).toNat ∧ n4 l = smL (fun s : Nat => ((fa 10 0) (9 * s + 0)).toInt = (a).toInt ∧ ((fa 10 0) (9 * s + 1)).toInt = (l : Int) ∧ ((fa 10 0) (9 * s + 7)).toInt ≤ (b).toInt ∧ (((fa 10 0) (9 * s + 8)).toInt = -1 ∨ (b).toInt < ((fa 10 0) (9 * s + 8)).toInt)) (fun s : Nat => (fa 10 0) (9 * s + 4)) ((0 : Int32).toInt).toNat ∧ n2 l = smC (fun s : Nat => ((fa 10 0) (9 * s + 0)).toInt = (a).toInt ∧ ((fa 10 0) (9 * s + 1)).toInt = (l : Int) ∧ ((fa 10 0) (9 * s + 7)).toInt ≤ (b).toInt ∧ (((fa 10 0) (9 * s + 8)).toInt = -1 ∨ (b).toInt < ((fa 10 0) (9 * s + 8)).toInt)) ((0 : Int32).toInt).toNat from (fun l hl => by have hz : ((0 : Int32).toInt).toNat = 0 := (by decide); rw [hz]; exact xr1_0 l hl)) (show (0 : Int32).toInt ≤ ((iv 10 1) : Int32).toInt from by omega) (by first | decide | omega) _ _ ls hP hD hS (lv_sub hl [0, 1, 2, 3] rfl)
/-! ===== sm2 ===== -/
set_option maxHeartbeats 4000000 in
set_option maxRecDepth 100000 in
/-- X12_sumUp -/
theorem c_X12_sumUp_s (l : Launch) (dC : Nat → ClassId) (dI : Nat → Nat → Nat) (sz : Nat) (h : Nat) (g : Nat → Nat → Nat) (ca : Nat → Nat → ClassId) (iv : Nat → Nat → Int32) (lv : Nat → Nat → Int64) (fa : Nat → Nat → Nat → Int32) (la : Nat → Nat → Nat → Int64) (hI : IX iv fa) (a : Int32) (b : Int32) (d : Int32) (q_12_20 : (-1) ≤ (iv 12 20).toInt ∧ (iv 12 20).toInt ≤ (-1)) (q_12_21 : (-1) ≤ (iv 12 21).toInt ∧ (iv 12 21).toInt ≤ (-1)) (q_12_22 : (-1) ≤ (iv 12 22).toInt ∧ (iv 12 22).toInt ≤ (-1)) (hJR : JRf (iv 12 3).toInt (fa 12 7)) : Met l yX12_sumUp (wc yX12_sumUp cX12_sumUp 6 (some .int)) ({ frames := 1, cells := 0, slots := 0, locals := 22 } : Room) (pW (dC, dI) classes (WM h g ca iv lv fa la) (TM ca) sz [.ref h, .int a, .int b, .int d]) (va_Qi (fun r (u : SS) => ∃ (ni_12_19 : Int32) (nl_12_17 : Int64) (nl_12_18 : Int64), (0 ≤ r.toInt) ∧ (r.toInt ≤ 60) ∧ (0 ≤ (nl_12_18).toInt) ∧ ((nl_12_18).toInt ≤ 599940) ∧ (100 * r.toInt ≤ (nl_12_18).toInt) ∧ ((nl_12_17).toInt = (smL (fun s : Nat => ((fa 12 4) s).toInt = a.toInt ∧ ((fa 12 5) s).toInt = b.toInt ∧ ((fa 12 11) s).toInt ≤ d.toInt ∧ (((fa 12 12) s).toInt < 0 ∨ d.toInt < ((fa 12 12) s).toInt)) (fa 12 8) ((iv 12 3).toInt).toNat).toInt) ∧ ((nl_12_18).toInt = (smL (fun s : Nat => ((fa 12 4) s).toInt = a.toInt ∧ ((fa 12 5) s).toInt = b.toInt ∧ ((fa 12 11) s).toInt ≤ d.toInt ∧ (((fa 12 12) s).toInt < 0 ∨ d.toInt < ((fa 12 12) s).toInt)) (fa 12 7) ((iv 12 3).toInt).toNat).toInt) ∧ ((ni_12_19).toInt = (smC (fun s : Nat => ((fa 12 4) s).toInt = a.toInt ∧ ((fa 12 5) s).toInt = b.toInt ∧ ((fa 12 11) s).toInt ≤ d.toInt ∧ (((fa 12 12) s).toInt < 0 ∨ d.toInt < ((fa 12 12) s).toInt)) ((iv 12 3).toInt).toNat).toInt) ∧ (r.toInt = (ni_12_19).toInt) ∧ (True) ∧ u = ((u2 iv 12 19 ni_12_19), (u2 (u2 lv 12 17 nl_12_17) 12 18 nl_12_18), fa, la)) (bM (dC, dI) h g ca (va_A (WM h g ca iv lv fa la) sz)) (va_A (WM h g ca iv lv fa la) sz)) 0 0 (va_A (WM h g ca iv lv fa la) sz) := by
  refine Met.ofW (cc := cX12_sumUp) (maxL := 6) (ret := (some .int)) (by decide) rfl ?_
  intro p e s m args below meth c s₁ B hml hv
  obtain ⟨rfl, hsz, hP, hK, hD0⟩ := hv
  have hx := B.exec
  have hb := B.bytes
  have hr := B.returns
  have ht := tb_tl (atoms_spec (ws := wc yX12_sumUp cX12_sumUp 6 (some .int)) B.pre)
  have hown : s.vm.findClass RX12 = some m.cls := findClass_of_methodNamed B.named
  have hlocks := B.notSynchronized
  subst hsz
  have hD := hD0.self (sz := s.heap.size)
  generalize hAe : va_A (WM h g ca iv lv fa la) s.heap.size = A at hD ⊢
  have hA : ∀ q : Nat, s.heap.size ≤ q → A q := fun q h => by rw [← hAe]; exact Or.inr h
  have hS : va_S A s.heap s.heap [] := va_S.rf
  have hl := lv_entry [.ref h, .int a, .int b, .int d] (n := 6) (Nat.le_of_ble_eq_true rfl)
  rw [lg_entry_eq]
  generalize (lg_sl [.ref h, .int a, .int b, .int d] ++ List.replicate (6 - (lg_sl [.ref h, .int a, .int b, .int d]).length) Slot.unset).toArray = ls at hl ⊢
  have hl : lv_has ls 6 [(0, .ref h), (1, .int a), (2, .int b), (3, .int d)] := hl
  refine lv_aload_n hx hb dX12_sumUp_0 rfl (lv_at hl 0 rfl) ?_
  refine lv_lconst (v := 0) hx hb dX12_sumUp_1 (by decide) ?_
  refine pM_12_17 (v := 0) hx hb ht hown hK hP hD hS m_1156 dX12_sumUp_2 (fun H locs hP hD hS => ?_)
  refine lv_aload_n hx hb dX12_sumUp_5 rfl (lv_at hl 0 rfl) ?_
  refine lv_lconst (v := 0) hx hb dX12_sumUp_6 (by decide) ?_
  refine pM_12_18 (v := 0) hx hb ht hown hK hP hD hS m_1157 dX12_sumUp_7 (fun H locs hP hD hS => ?_)
  refine lv_aload_n hx hb dX12_sumUp_10 rfl (lv_at hl 0 rfl) ?_
  refine lv_iconst (v := 0) hx hb dX12_sumUp_11 (by decide) ?_
  refine pM_12_19 (v := 0) hx hb ht hown hK hP hD hS m_1158 dX12_sumUp_12 (fun H locs hP hD hS => ?_)
  refine lv_iconst (v := 0) hx hb dX12_sumUp_15 (by decide) ?_
  refine lv_istore (lv' := [(4, .int 0), (0, .ref h), (1, .int a), (2, .int b), (3, .int d)]) hx hb dX12_sumUp_16 hl (by decide) rfl (fun ls hl => ?_)
  have i_12_3 : 0 ≤ (iv 12 3).toInt ∧ (iv 12 3).toInt ≤ 60 := hI.1 12 3
  have lp508 : ∀ (nn508 : Nat) (x507_4 : Int32) (w507_i_12_19 : Int32) (w507_l_12_17 : Int64) (w507_l_12_18 : Int64), 0 ≤ x507_4.toInt ∧ x507_4.toInt ≤ 60 → 0 ≤ (w507_l_12_18 : Int64).toInt → (w507_l_12_18 : Int64).toInt ≤ 9999 * (x507_4 : Int32).toInt → 100 * (w507_i_12_19 : Int32).toInt ≤ (w507_l_12_18 : Int64).toInt → 0 ≤ (w507_i_12_19 : Int32).toInt → (w507_i_12_19 : Int32).toInt ≤ (x507_4 : Int32).toInt → ((w507_l_12_17 : Int64).toInt = (smL (fun s : Nat => ((fa 12 4) s).toInt = (a).toInt ∧ ((fa 12 5) s).toInt = (b).toInt ∧ ((fa 12 11) s).toInt ≤ (d).toInt ∧ (((fa 12 12) s).toInt < 0 ∨ (d).toInt < ((fa 12 12) s).toInt)) (fa 12 8) ((x507_4 : Int32).toInt).toNat).toInt) → ((w507_l_12_18 : Int64).toInt = (smL (fun s : Nat => ((fa 12 4) s).toInt = (a).toInt ∧ ((fa 12 5) s).toInt = (b).toInt ∧ ((fa 12 11) s).toInt ≤ (d).toInt ∧ (((fa 12 12) s).toInt < 0 ∨ (d).toInt < ((fa 12 12) s).toInt)) (fa 12 7) ((x507_4 : Int32).toInt).toNat).toInt) → ((w507_i_12_19 : Int32).toInt = (smC (fun s : Nat => ((fa 12 4) s).toInt = (a).toInt ∧ ((fa 12 5) s).toInt = (b).toInt ∧ ((fa 12 11) s).toInt ≤ (d).toInt ∧ (((fa 12 12) s).toInt < 0 ∨ (d).toInt < ((fa 12 12) s).toInt)) ((x507_4 : Int32).toInt).toNat).toInt) → (x507_4 : Int32).toInt ≤ ((iv 12 3) : Int32).toInt → 60 - x507_4.toInt < (nn508 : Int) → ∀ (H : Heap) (locs : List Loc), ∀ (ls : Array Slot), va_P (dC, dI) classes (WM h g ca (u2 iv 12 19 w507_i_12_19) (u2 (u2 lv 12 17 w507_l_12_17) 12 18 w507_l_12_18) fa la) H → va_D A (WM h g ca (u2 iv 12 19 w507_i_12_19) (u2 (u2 lv 12 17 w507_l_12_17) 12 18 w507_l_12_18) fa la) → va_S A s.heap H locs → lv_has ls 6 [(4, .int x507_4), (0, .ref h), (1, .int a), (2, .int b), (3, .int d)] → W p l e ({ frames := 1, cells := 0, slots := 0, locals := 22 } : Room) s m ([.ref h, .int a, .int b, .int d] : List Value).toArray below meth c H locs 0 0 (MQ below (va_Qi (fun r (u : SS) => ∃ (ni_12_19 : Int32) (nl_12_17 : Int64) (nl_12_18 : Int64), (0 ≤ r.toInt) ∧ (r.toInt ≤ 60) ∧ (0 ≤ (nl_12_18).toInt) ∧ ((nl_12_18).toInt ≤ 599940) ∧ (100 * r.toInt ≤ (nl_12_18).toInt) ∧ ((nl_12_17).toInt = (smL (fun s : Nat => ((fa 12 4) s).toInt = a.toInt ∧ ((fa 12 5) s).toInt = b.toInt ∧ ((fa 12 11) s).toInt ≤ d.toInt ∧ (((fa 12 12) s).toInt < 0 ∨ d.toInt < ((fa 12 12) s).toInt)) (fa 12 8) ((iv 12 3).toInt).toNat).toInt) ∧ ((nl_12_18).toInt = (smL (fun s : Nat => ((fa 12 4) s).toInt = a.toInt ∧ ((fa 12 5) s).toInt = b.toInt ∧ ((fa 12 11) s).toInt ≤ d.toInt ∧ (((fa 12 12) s).toInt < 0 ∨ d.toInt < ((fa 12 12) s).toInt)) (fa 12 7) ((iv 12 3).toInt).toNat).toInt) ∧ ((ni_12_19).toInt = (smC (fun s : Nat => ((fa 12 4) s).toInt = a.toInt ∧ ((fa 12 5) s).toInt = b.toInt ∧ ((fa 12 11) s).toInt ≤ d.toInt ∧ (((fa 12 12) s).toInt < 0 ∨ d.toInt < ((fa 12 12) s).toInt)) ((iv 12 3).toInt).toNat).toInt) ∧ (r.toInt = (ni_12_19).toInt) ∧ (True) ∧ u = ((u2 iv 12 19 ni_12_19), (u2 (u2 lv 12 17 nl_12_17) 12 18 nl_12_18), fa, la)) (bM (dC, dI) h g ca A) A) ([.ref h, .int a, .int b, .int d] : List Value).toArray s 0 0 A) (F0 m 18 ls []) := by
    intro nn508
    induction nn508 with
    | zero => intro x507_4 w507_i_12_19 w507_l_12_17 w507_l_12_18 hx507_4 hq508_0 hq508_1 hq508_2 hq508_3 hq508_4 hq508_5 hq508_6 hq508_7 hq508_8 hm508; exfalso; omega
    | succ nn508 ih508 =>
      intro x507_4 w507_i_12_19 w507_l_12_17 w507_l_12_18 hx507_4 hq508_0 hq508_1 hq508_2 hq508_3 hq508_4 hq508_5 hq508_6 hq508_7 hq508_8 hm508 H locs ls hP hD hS hl
      refine lv_iload hx hb dX12_sumUp_18 (lv_at hl 0 rfl) ?_
      refine lv_aload_n hx hb dX12_sumUp_20 rfl (lv_at hl 1 rfl) ?_
      refine gM_12_3 hx hb ht hown hK hP m_1142 (v := (iv 12 3)) rfl dX12_sumUp_21 ?_
      refine lv_icmp_ge (tgt := 158) hx hb dX12_sumUp_24 (by decide) (fun c509 => ?_) (fun c509 => ?_)
      · have fc509 := z_le (rfl : ((iv 12 3)).toInt = _) (rfl : (x507_4).toInt = _) c509
        refine lv_aload_n hx hb dX12_sumUp_158 rfl (lv_at hl 1 rfl) ?_
        refine gM_12_19 hx hb ht hown hK hP m_1158 (v := w507_i_12_19) rfl dX12_sumUp_159 ?_
        have hP9 : va_P (dC, dI) classes (WM h g ca (u2 iv 12 19 w507_i_12_19) (u2 (u2 lv 12 17 w507_l_12_17) 12 18 w507_l_12_18) fa la) H := hP
        have hD9 : va_D A (WM h g ca (u2 iv 12 19 w507_i_12_19) (u2 (u2 lv 12 17 w507_l_12_17) 12 18 w507_l_12_18) fa la) := hD
        exact W.iret (v := w507_i_12_19) hx hb hr (fun t ht9 hW => ⟨⟨w507_i_12_19, ((u2 iv 12 19 w507_i_12_19), (u2 (u2 lv 12 17 w507_l_12_17) 12 18 w507_l_12_18), fa, la), rfl, ⟨w507_i_12_19, w507_l_12_17, w507_l_12_18, (show 0 ≤ (w507_i_12_19 : Int32).toInt from by omega), (show (w507_i_12_19 : Int32).toInt ≤ 60 from by omega), (show 0 ≤ (w507_l_12_18 : Int64).toInt from by omega), (show (w507_l_12_18 : Int64).toInt ≤ 599940 from by omega), (show 100 * (w507_i_12_19 : Int32).toInt ≤ (w507_l_12_18 : Int64).toInt from by omega), (show (w507_l_12_17 : Int64).toInt = (smL (fun s : Nat => ((fa 12 4) s).toInt = (a).toInt ∧ ((fa 12 5) s).toInt = (b).toInt ∧ ((fa 12 11) s).toInt ≤ (d).toInt ∧ (((fa 12 12) s).toInt < 0 ∨ (d).toInt < ((fa 12 12) s).toInt)) (fa 12 8) (((iv 12 3) : Int32).toInt).toNat).toInt from (by have hq9 := hq508_5; have he9 : (x507_4 : Int32).toInt = (iv 12 3).toInt := (by omega); rw [he9] at hq9; exact hq9)), (show (w507_l_12_18 : Int64).toInt = (smL (fun s : Nat => ((fa 12 4) s).toInt = (a).toInt ∧ ((fa 12 5) s).toInt = (b).toInt ∧ ((fa 12 11) s).toInt ≤ (d).toInt ∧ (((fa 12 12) s).toInt < 0 ∨ (d).toInt < ((fa 12 12) s).toInt)) (fa 12 7) (((iv 12 3) : Int32).toInt).toNat).toInt from (by have hq9 := hq508_6; have he9 : (x507_4 : Int32).toInt = (iv 12 3).toInt := (by omega); rw [he9] at hq9; exact hq9)), (show (w507_i_12_19 : Int32).toInt = (smC (fun s : Nat => ((fa 12 4) s).toInt = (a).toInt ∧ ((fa 12 5) s).toInt = (b).toInt ∧ ((fa 12 11) s).toInt ≤ (d).toInt ∧ (((fa 12 12) s).toInt < 0 ∨ (d).toInt < ((fa 12 12) s).toInt)) (((iv 12 3) : Int32).toInt).toNat).toInt from (by have hq9 := hq508_7; have he9 : (x507_4 : Int32).toInt = (iv 12 3).toInt := (by omega); rw [he9] at hq9; exact hq9)), (show (w507_i_12_19 : Int32).toInt = (w507_i_12_19 : Int32).toInt from by omega), trivial, rfl⟩, by rw [ht9]; exact hP9, hD9⟩, hS.F ht9⟩) hS.2.2 dX12_sumUp_162
      · have fc509 := z_nle (rfl : ((iv 12 3)).toInt = _) (rfl : (x507_4).toInt = _) c509
        refine lv_aload_n hx hb dX12_sumUp_27 rfl (lv_at hl 1 rfl) ?_
        refine gM_12_9 hx hb ht hown hK hP m_1148 dX12_sumUp_28 ?_
        refine lv_iload hx hb dX12_sumUp_31 (lv_at hl 0 rfl) ?_
        refine lM_12_9 hx hb hK hP (f := (fa 12 9)) rfl (vp_in_iff.mpr ⟨by omega, by omega⟩) dX12_sumUp_33 ?_
        refine lv_topi (fun v510 ev510 => ?_)
        have tv510 : 0 ≤ v510.toInt ∧ v510.toInt ≤ 3 := by rw [ev510]; exact hI.2 12 9 _
        refine lv_aload_n hx hb dX12_sumUp_34 rfl (lv_at hl 1 rfl) ?_
        refine gM_12_20 hx hb ht hown hK hP m_1159 (v := (iv 12 20)) rfl dX12_sumUp_35 ?_
        refine lv_icmp_eq (tgt := 64) hx hb dX12_sumUp_38 (by decide) (fun c511 => ?_) (fun c511 => ?_)
        · have fc511 := z_eq (rfl : (v510).toInt = _) (rfl : ((iv 12 20)).toInt = _) c511; exfalso; omega
        · skip
          refine lv_aload_n hx hb dX12_sumUp_41 rfl (lv_at hl 1 rfl) ?_
          refine gM_12_10 hx hb ht hown hK hP m_1149 dX12_sumUp_42 ?_
          refine lv_iload hx hb dX12_sumUp_45 (lv_at hl 0 rfl) ?_
          refine lM_12_10 hx hb hK hP (f := (fa 12 10)) rfl (vp_in_iff.mpr ⟨by omega, by omega⟩) dX12_sumUp_47 ?_
          refine lv_topi (fun v512 ev512 => ?_)
          have tv512 : 0 ≤ v512.toInt ∧ v512.toInt ≤ 7 := by rw [ev512]; exact hI.2 12 10 _
          refine lv_aload_n hx hb dX12_sumUp_48 rfl (lv_at hl 1 rfl) ?_
          refine gM_12_21 hx hb ht hown hK hP m_1160 (v := (iv 12 21)) rfl dX12_sumUp_49 ?_
          refine lv_icmp_eq (tgt := 64) hx hb dX12_sumUp_52 (by decide) (fun c513 => ?_) (fun c513 => ?_)
          · have fc513 := z_eq (rfl : (v512).toInt = _) (rfl : ((iv 12 21)).toInt = _) c513; exfalso; omega
          · skip
            refine lv_iload hx hb dX12_sumUp_55 (lv_at hl 0 rfl) ?_
            refine lv_aload_n hx hb dX12_sumUp_57 rfl (lv_at hl 1 rfl) ?_
            refine gM_12_22 hx hb ht hown hK hP m_1161 (v := (iv 12 22)) rfl dX12_sumUp_58 ?_
            refine lv_icmp_ne (tgt := 68) hx hb dX12_sumUp_61 (by decide) (fun c514 => ?_) (fun c514 => ?_)
            · skip
              refine lv_iconst (v := 0) hx hb dX12_sumUp_68 (by decide) ?_
              refine lv_istore (lv' := [(5, .int 0), (4, .int x507_4), (0, .ref h), (1, .int a), (2, .int b), (3, .int d)]) hx hb dX12_sumUp_69 hl (by decide) rfl (fun ls hl => ?_)
              refine lv_aload_n hx hb dX12_sumUp_71 rfl (lv_at hl 2 rfl) ?_
              refine gM_12_4 hx hb ht hown hK hP m_1143 dX12_sumUp_72 ?_
              refine lv_iload hx hb dX12_sumUp_75 (lv_at hl 1 rfl) ?_
              refine lM_12_4 hx hb hK hP (f := (fa 12 4)) rfl (vp_in_iff.mpr ⟨by omega, by omega⟩) dX12_sumUp_77 ?_
              refine lv_topi (fun v515 ev515 => ?_)
              refine lv_iload_n hx hb dX12_sumUp_78 rfl (lv_at hl 3 rfl) ?_
              refine lv_icmp_ne (tgt := 152) hx hb dX12_sumUp_79 (by decide) (fun c516 => ?_) (fun c516 => ?_)
              · have fc516 := z_ne (rfl : (v515).toInt = _) (rfl : (a).toInt = _) c516
                obtain ⟨v517, ev517⟩ : ∃ y : Int32, y = x507_4 + 1 := ⟨_, rfl⟩
                have tv517 := z_add ev517 rfl (by decide : (1 : Int32).toInt = 1) (by omega) (by omega)
                refine lv_iinc (v := v517) (lv' := [(4, .int v517), (5, .int 0), (0, .ref h), (1, .int a), (2, .int b), (3, .int d)]) hx hb dX12_sumUp_152 hl (k := 1) rfl (by rw [ev517]; rfl) (by decide) rfl (fun ls hl => ?_)
                refine lv_goto (tgt := 18) hx hb dX12_sumUp_155 (by decide) ?_
                exact ih508 v517 w507_i_12_19 w507_l_12_17 w507_l_12_18 ⟨by omega, by omega⟩ (show 0 ≤ (w507_l_12_18 : Int64).toInt from by omega) (show (w507_l_12_18 : Int64).toInt ≤ 9999 * (v517 : Int32).toInt from by omega) (show 100 * (w507_i_12_19 : Int32).toInt ≤ (w507_l_12_18 : Int64).toInt from by omega) (show 0 ≤ (w507_i_12_19 : Int32).toInt from by omega) (show (w507_i_12_19 : Int32).toInt ≤ (v517 : Int32).toInt from by omega) (show (w507_l_12_17 : Int64).toInt = (smL (fun s : Nat => ((fa 12 4) s).toInt = (a).toInt ∧ ((fa 12 5) s).toInt = (b).toInt ∧ ((fa 12 11) s).toInt ≤ (d).toInt ∧ (((fa 12 12) s).toInt < 0 ∨ (d).toInt < ((fa 12 12) s).toInt)) (fa 12 8) ((v517 : Int32).toInt).toNat).toInt from (by
                      have := congrArg Int32.toInt (show v510 = fa 12 9 ((x507_4 : Int32).toInt).toNat from ev510)
                      have := congrArg Int32.toInt (show v512 = fa 12 10 ((x507_4 : Int32).toInt).toNat from ev512)
                      have := congrArg Int32.toInt (show v515 = fa 12 4 ((x507_4 : Int32).toInt).toNat from ev515)
                      have hs9 : ((v517 : Int32).toInt).toNat = ((x507_4 : Int32).toInt).toNat + 1 := by omega
                      have hc : ¬ ((fa 12 4 ((x507_4 : Int32).toInt).toNat).toInt = a.toInt ∧ (fa 12 5 ((x507_4 : Int32).toInt).toNat).toInt = b.toInt ∧ (fa 12 11 ((x507_4 : Int32).toInt).toNat).toInt ≤ d.toInt ∧ ((fa 12 12 ((x507_4 : Int32).toInt).toNat).toInt < 0 ∨ d.toInt < (fa 12 12 ((x507_4 : Int32).toInt).toNat).toInt)) := by omega
                      rw [smL_n hs9 hc]; exact hq508_5)) (show (w507_l_12_18 : Int64).toInt = (smL (fun s : Nat => ((fa 12 4) s).toInt = (a).toInt ∧ ((fa 12 5) s).toInt = (b).toInt ∧ ((fa 12 11) s).toInt ≤ (d).toInt ∧ (((fa 12 12) s).toInt < 0 ∨ (d).toInt < ((fa 12 12) s).toInt)) (fa 12 7) ((v517 : Int32).toInt).toNat).toInt from (by
                      have := congrArg Int32.toInt (show v510 = fa 12 9 ((x507_4 : Int32).toInt).toNat from ev510)
                      have := congrArg Int32.toInt (show v512 = fa 12 10 ((x507_4 : Int32).toInt).toNat from ev512)
                      have := congrArg Int32.toInt (show v515 = fa 12 4 ((x507_4 : Int32).toInt).toNat from ev515)
                      have hs9 : ((v517 : Int32).toInt).toNat = ((x507_4 : Int32).toInt).toNat + 1 := by omega
                      have hc : ¬ ((fa 12 4 ((x507_4 : Int32).toInt).toNat).toInt = a.toInt ∧ (fa 12 5 ((x507_4 : Int32).toInt).toNat).toInt = b.toInt ∧ (fa 12 11 ((x507_4 : Int32).toInt).toNat).toInt ≤ d.toInt ∧ ((fa 12 12 ((x507_4 : Int32).toInt).toNat).toInt < 0 ∨ d.toInt < (fa 12 12 ((x507_4 : Int32).toInt).toNat).toInt)) := by omega
                      rw [smL_n hs9 hc]; exact hq508_6)) (show (w507_i_12_19 : Int32).toInt = (smC (fun s : Nat => ((fa 12 4) s).toInt = (a).toInt ∧ ((fa 12 5) s).toInt = (b).toInt ∧ ((fa 12 11) s).toInt ≤ (d).toInt ∧ (((fa 12 12) s).toInt < 0 ∨ (d).toInt < ((fa 12 12) s).toInt)) ((v517 : Int32).toInt).toNat).toInt from (by
                      have := congrArg Int32.toInt (show v510 = fa 12 9 ((x507_4 : Int32).toInt).toNat from ev510)
                      have := congrArg Int32.toInt (show v512 = fa 12 10 ((x507_4 : Int32).toInt).toNat from ev512)
                      have := congrArg Int32.toInt (show v515 = fa 12 4 ((x507_4 : Int32).toInt).toNat from ev515)
                      have hs9 : ((v517 : Int32).toInt).toNat = ((x507_4 : Int32).toInt).toNat + 1 := by omega
                      have hc : ¬ ((fa 12 4 ((x507_4 : Int32).toInt).toNat).toInt = a.toInt ∧ (fa 12 5 ((x507_4 : Int32).toInt).toNat).toInt = b.toInt ∧ (fa 12 11 ((x507_4 : Int32).toInt).toNat).toInt ≤ d.toInt ∧ ((fa 12 12 ((x507_4 : Int32).toInt).toNat).toInt < 0 ∨ d.toInt < (fa 12 12 ((x507_4 : Int32).toInt).toNat).toInt)) := by omega
                      rw [smC_n hs9 hc]; exact hq508_7)) (show (v517 : Int32).toInt ≤ ((iv 12 3) : Int32).toInt from by omega) (by omega) _ _ ls hP hD hS (lv_sub hl [0, 2, 3, 4, 5] rfl)
              · have fc516 := z_eq (rfl : (v515).toInt = _) (rfl : (a).toInt = _) c516
                refine lv_aload_n hx hb dX12_sumUp_82 rfl (lv_at hl 2 rfl) ?_
                refine gM_12_5 hx hb ht hown hK hP m_1144 dX12_sumUp_83 ?_
                refine lv_iload hx hb dX12_sumUp_86 (lv_at hl 1 rfl) ?_
                refine lM_12_5 hx hb hK hP (f := (fa 12 5)) rfl (vp_in_iff.mpr ⟨by omega, by omega⟩) dX12_sumUp_88 ?_
                refine lv_topi (fun v518 ev518 => ?_)
                refine lv_iload_n hx hb dX12_sumUp_89 rfl (lv_at hl 4 rfl) ?_
                refine lv_icmp_ne (tgt := 152) hx hb dX12_sumUp_90 (by decide) (fun c519 => ?_) (fun c519 => ?_)
                · have fc519 := z_ne (rfl : (v518).toInt = _) (rfl : (b).toInt = _) c519
                  obtain ⟨v520, ev520⟩ : ∃ y : Int32, y = x507_4 + 1 := ⟨_, rfl⟩
                  have tv520 := z_add ev520 rfl (by decide : (1 : Int32).toInt = 1) (by omega) (by omega)
                  refine lv_iinc (v := v520) (lv' := [(4, .int v520), (5, .int 0), (0, .ref h), (1, .int a), (2, .int b), (3, .int d)]) hx hb dX12_sumUp_152 hl (k := 1) rfl (by rw [ev520]; rfl) (by decide) rfl (fun ls hl => ?_)
                  refine lv_goto (tgt := 18) hx hb dX12_sumUp_155 (by decide) ?_
                  exact ih508 v520 w507_i_12_19 w507_l_12_17 w507_l_12_18 ⟨by omega, by omega⟩ (show 0 ≤ (w507_l_12_18 : Int64).toInt from by omega) (show (w507_l_12_18 : Int64).toInt ≤ 9999 * (v520 : Int32).toInt from by omega) (show 100 * (w507_i_12_19 : Int32).toInt ≤ (w507_l_12_18 : Int64).toInt from by omega) (show 0 ≤ (w507_i_12_19 : Int32).toInt from by omega) (show (w507_i_12_19 : Int32).toInt ≤ (v520 : Int32).toInt from by omega) (show (w507_l_12_17 : Int64).toInt = (smL (fun s : Nat => ((fa 12 4) s).toInt = (a).toInt ∧ ((fa 12 5) s).toInt = (b).toInt ∧ ((fa 12 11) s).toInt ≤ (d).toInt ∧ (((fa 12 12) s).toInt < 0 ∨ (d).toInt < ((fa 12 12) s).toInt)) (fa 12 8) ((v520 : Int32).toInt).toNat).toInt from (by
                        have := congrArg Int32.toInt (show v510 = fa 12 9 ((x507_4 : Int32).toInt).toNat from ev510)
                        have := congrArg Int32.toInt (show v512 = fa 12 10 ((x507_4 : Int32).toInt).toNat from ev512)
                        have := congrArg Int32.toInt (show v515 = fa 12 4 ((x507_4 : Int32).toInt).toNat from ev515)
                        have := congrArg Int32.toInt (show v518 = fa 12 5 ((x507_4 : Int32).toInt).toNat from ev518)
                        have hs9 : ((v520 : Int32).toInt).toNat = ((x507_4 : Int32).toInt).toNat + 1 := by omega
                        have hc : ¬ ((fa 12 4 ((x507_4 : Int32).toInt).toNat).toInt = a.toInt ∧ (fa 12 5 ((x507_4 : Int32).toInt).toNat).toInt = b.toInt ∧ (fa 12 11 ((x507_4 : Int32).toInt).toNat).toInt ≤ d.toInt ∧ ((fa 12 12 ((x507_4 : Int32).toInt).toNat).toInt < 0 ∨ d.toInt < (fa 12 12 ((x507_4 : Int32).toInt).toNat).toInt)) := by omega
                        rw [smL_n hs9 hc]; exact hq508_5)) (show (w507_l_12_18 : Int64).toInt = (smL (fun s : Nat => ((fa 12 4) s).toInt = (a).toInt ∧ ((fa 12 5) s).toInt = (b).toInt ∧ ((fa 12 11) s).toInt ≤ (d).toInt ∧ (((fa 12 12) s).toInt < 0 ∨ (d).toInt < ((fa 12 12) s).toInt)) (fa 12 7) ((v520 : Int32).toInt).toNat).toInt from (by
                        have := congrArg Int32.toInt (show v510 = fa 12 9 ((x507_4 : Int32).toInt).toNat from ev510)
                        have := congrArg Int32.toInt (show v512 = fa 12 10 ((x507_4 : Int32).toInt).toNat from ev512)
                        have := congrArg Int32.toInt (show v515 = fa 12 4 ((x507_4 : Int32).toInt).toNat from ev515)
                        have := congrArg Int32.toInt (show v518 = fa 12 5 ((x507_4 : Int32).toInt).toNat from ev518)
                        have hs9 : ((v520 : Int32).toInt).toNat = ((x507_4 : Int32).toInt).toNat + 1 := by omega
                        have hc : ¬ ((fa 12 4 ((x507_4 : Int32).toInt).toNat).toInt = a.toInt ∧ (fa 12 5 ((x507_4 : Int32).toInt).toNat).toInt = b.toInt ∧ (fa 12 11 ((x507_4 : Int32).toInt).toNat).toInt ≤ d.toInt ∧ ((fa 12 12 ((x507_4 : Int32).toInt).toNat).toInt < 0 ∨ d.toInt < (fa 12 12 ((x507_4 : Int32).toInt).toNat).toInt)) := by omega
                        rw [smL_n hs9 hc]; exact hq508_6)) (show (w507_i_12_19 : Int32).toInt = (smC (fun s : Nat => ((fa 12 4) s).toInt = (a).toInt ∧ ((fa 12 5) s).toInt = (b).toInt ∧ ((fa 12 11) s).toInt ≤ (d).toInt ∧ (((fa 12 12) s).toInt < 0 ∨ (d).toInt < ((fa 12 12) s).toInt)) ((v520 : Int32).toInt).toNat).toInt from (by
                        have := congrArg Int32.toInt (show v510 = fa 12 9 ((x507_4 : Int32).toInt).toNat from ev510)
                        have := congrArg Int32.toInt (show v512 = fa 12 10 ((x507_4 : Int32).toInt).toNat from ev512)
                        have := congrArg Int32.toInt (show v515 = fa 12 4 ((x507_4 : Int32).toInt).toNat from ev515)
                        have := congrArg Int32.toInt (show v518 = fa 12 5 ((x507_4 : Int32).toInt).toNat from ev518)
                        have hs9 : ((v520 : Int32).toInt).toNat = ((x507_4 : Int32).toInt).toNat + 1 := by omega
                        have hc : ¬ ((fa 12 4 ((x507_4 : Int32).toInt).toNat).toInt = a.toInt ∧ (fa 12 5 ((x507_4 : Int32).toInt).toNat).toInt = b.toInt ∧ (fa 12 11 ((x507_4 : Int32).toInt).toNat).toInt ≤ d.toInt ∧ ((fa 12 12 ((x507_4 : Int32).toInt).toNat).toInt < 0 ∨ d.toInt < (fa 12 12 ((x507_4 : Int32).toInt).toNat).toInt)) := by omega
                        rw [smC_n hs9 hc]; exact hq508_7)) (show (v520 : Int32).toInt ≤ ((iv 12 3) : Int32).toInt from by omega) (by omega) _ _ ls hP hD hS (lv_sub hl [0, 2, 3, 4, 5] rfl)
                · have fc519 := z_eq (rfl : (v518).toInt = _) (rfl : (b).toInt = _) c519
                  refine lv_aload_n hx hb dX12_sumUp_93 rfl (lv_at hl 2 rfl) ?_
                  refine lv_iload hx hb dX12_sumUp_94 (lv_at hl 1 rfl) ?_
                  refine lv_iload_n hx hb dX12_sumUp_96 rfl (lv_at hl 5 rfl) ?_
                  refine vp_callSi (W.runV (As := [.int x507_4, .int d]) (rest := []) ⟨hx, hb, hml, hown, ht⟩ (c_X12_isThere_x l dC dI h g ca (u2 iv 12 19 w507_i_12_19) (u2 (u2 lv 12 17 w507_l_12_17) 12 18 w507_l_12_18) fa la (IX_i (c := 12) (k := 19) hI (full_i _)) x507_4 d ⟨by omega, by omega⟩) (kV 2 ht m_1438 m_1440 m_46 m_89 m_1441 rfl rfl hd_X12_isThere_v ⟨Nat.le_of_ble_eq_true rfl, Nat.le_of_ble_eq_true rfl⟩) (vR hP hK (rM_12 hK hP)) rfl rfl hl.1 rfl (lv_room (Nat.le_of_ble_eq_true rfl)) dX12_sumUp_97 ⟨Nat.le_of_ble_eq_true rfl, Nat.le_of_ble_eq_true rfl⟩) (fun r521 hr521 => ?_)
                  obtain ⟨hr521, xr521_0⟩ := hr521
                  have xr521_0 : (((r521 : Int32).toInt = 1 ∧ ((fa 12 11) (x507_4 : Int32).toNatClampNeg).toInt ≤ (d : Int32).toInt ∧ (((fa 12 12) (x507_4 : Int32).toNatClampNeg).toInt < 0 ∨ (d : Int32).toInt < ((fa 12 12) (x507_4 : Int32).toNatClampNeg).toInt)) ∨ ((r521 : Int32).toInt = 0 ∧ ¬ (((fa 12 11) (x507_4 : Int32).toNatClampNeg).toInt ≤ (d : Int32).toInt ∧ (((fa 12 12) (x507_4 : Int32).toNatClampNeg).toInt < 0 ∨ (d : Int32).toInt < ((fa 12 12) (x507_4 : Int32).toNatClampNeg).toInt)))) := xr521_0
                  refine lv_if_eq (tgt := 152) hx hb dX12_sumUp_100 (by decide) (fun c522 => ?_) (fun c522 => ?_)
                  · have fc522 := z_eq (rfl : (r521).toInt = _) (by decide : (0 : Int32).toInt = 0) c522
                    obtain ⟨v523, ev523⟩ : ∃ y : Int32, y = x507_4 + 1 := ⟨_, rfl⟩
                    have tv523 := z_add ev523 rfl (by decide : (1 : Int32).toInt = 1) (by omega) (by omega)
                    refine lv_iinc (v := v523) (lv' := [(4, .int v523), (5, .int 0), (0, .ref h), (1, .int a), (2, .int b), (3, .int d)]) hx hb dX12_sumUp_152 hl (k := 1) rfl (by rw [ev523]; rfl) (by decide) rfl (fun ls hl => ?_)
                    refine lv_goto (tgt := 18) hx hb dX12_sumUp_155 (by decide) ?_
                    exact ih508 v523 w507_i_12_19 w507_l_12_17 w507_l_12_18 ⟨by omega, by omega⟩ (show 0 ≤ (w507_l_12_18 : Int64).toInt from by omega) (show (w507_l_12_18 : Int64).toInt ≤ 9999 * (v523 : Int32).toInt from by omega) (show 100 * (w507_i_12_19 : Int32).toInt ≤ (w507_l_12_18 : Int64).toInt from by omega) (show 0 ≤ (w507_i_12_19 : Int32).toInt from by omega) (show (w507_i_12_19 : Int32).toInt ≤ (v523 : Int32).toInt from by omega) (show (w507_l_12_17 : Int64).toInt = (smL (fun s : Nat => ((fa 12 4) s).toInt = (a).toInt ∧ ((fa 12 5) s).toInt = (b).toInt ∧ ((fa 12 11) s).toInt ≤ (d).toInt ∧ (((fa 12 12) s).toInt < 0 ∨ (d).toInt < ((fa 12 12) s).toInt)) (fa 12 8) ((v523 : Int32).toInt).toNat).toInt from (by
                          have := congrArg Int32.toInt (show v510 = fa 12 9 ((x507_4 : Int32).toInt).toNat from ev510)
                          have := congrArg Int32.toInt (show v512 = fa 12 10 ((x507_4 : Int32).toInt).toNat from ev512)
                          have := congrArg Int32.toInt (show v515 = fa 12 4 ((x507_4 : Int32).toInt).toNat from ev515)
                          have := congrArg Int32.toInt (show v518 = fa 12 5 ((x507_4 : Int32).toInt).toNat from ev518)
                          have y9 : ((r521 : Int32).toInt = 1 ∧ (fa 12 11 ((x507_4 : Int32).toInt).toNat).toInt ≤ (d : Int32).toInt ∧ ((fa 12 12 ((x507_4 : Int32).toInt).toNat).toInt < 0 ∨ (d : Int32).toInt < (fa 12 12 ((x507_4 : Int32).toInt).toNat).toInt)) ∨ ((r521 : Int32).toInt = 0 ∧ ¬ ((fa 12 11 ((x507_4 : Int32).toInt).toNat).toInt ≤ (d : Int32).toInt ∧ ((fa 12 12 ((x507_4 : Int32).toInt).toNat).toInt < 0 ∨ (d : Int32).toInt < (fa 12 12 ((x507_4 : Int32).toInt).toNat).toInt))) := xr521_0
                          have hs9 : ((v523 : Int32).toInt).toNat = ((x507_4 : Int32).toInt).toNat + 1 := by omega
                          have hc : ¬ ((fa 12 4 ((x507_4 : Int32).toInt).toNat).toInt = a.toInt ∧ (fa 12 5 ((x507_4 : Int32).toInt).toNat).toInt = b.toInt ∧ (fa 12 11 ((x507_4 : Int32).toInt).toNat).toInt ≤ d.toInt ∧ ((fa 12 12 ((x507_4 : Int32).toInt).toNat).toInt < 0 ∨ d.toInt < (fa 12 12 ((x507_4 : Int32).toInt).toNat).toInt)) := by omega
                          rw [smL_n hs9 hc]; exact hq508_5)) (show (w507_l_12_18 : Int64).toInt = (smL (fun s : Nat => ((fa 12 4) s).toInt = (a).toInt ∧ ((fa 12 5) s).toInt = (b).toInt ∧ ((fa 12 11) s).toInt ≤ (d).toInt ∧ (((fa 12 12) s).toInt < 0 ∨ (d).toInt < ((fa 12 12) s).toInt)) (fa 12 7) ((v523 : Int32).toInt).toNat).toInt from (by
                          have := congrArg Int32.toInt (show v510 = fa 12 9 ((x507_4 : Int32).toInt).toNat from ev510)
                          have := congrArg Int32.toInt (show v512 = fa 12 10 ((x507_4 : Int32).toInt).toNat from ev512)
                          have := congrArg Int32.toInt (show v515 = fa 12 4 ((x507_4 : Int32).toInt).toNat from ev515)
                          have := congrArg Int32.toInt (show v518 = fa 12 5 ((x507_4 : Int32).toInt).toNat from ev518)
                          have y9 : ((r521 : Int32).toInt = 1 ∧ (fa 12 11 ((x507_4 : Int32).toInt).toNat).toInt ≤ (d : Int32).toInt ∧ ((fa 12 12 ((x507_4 : Int32).toInt).toNat).toInt < 0 ∨ (d : Int32).toInt < (fa 12 12 ((x507_4 : Int32).toInt).toNat).toInt)) ∨ ((r521 : Int32).toInt = 0 ∧ ¬ ((fa 12 11 ((x507_4 : Int32).toInt).toNat).toInt ≤ (d : Int32).toInt ∧ ((fa 12 12 ((x507_4 : Int32).toInt).toNat).toInt < 0 ∨ (d : Int32).toInt < (fa 12 12 ((x507_4 : Int32).toInt).toNat).toInt))) := xr521_0
                          have hs9 : ((v523 : Int32).toInt).toNat = ((x507_4 : Int32).toInt).toNat + 1 := by omega
                          have hc : ¬ ((fa 12 4 ((x507_4 : Int32).toInt).toNat).toInt = a.toInt ∧ (fa 12 5 ((x507_4 : Int32).toInt).toNat).toInt = b.toInt ∧ (fa 12 11 ((x507_4 : Int32).toInt).toNat).toInt ≤ d.toInt ∧ ((fa 12 12 ((x507_4 : Int32).toInt).toNat).toInt < 0 ∨ d.toInt < (fa 12 12 ((x507_4 : Int32).toInt).toNat).toInt)) := by omega
                          rw [smL_n hs9 hc]; exact hq508_6)) (show (w507_i_12_19 : Int32).toInt = (smC (fun s : Nat => ((fa 12 4) s).toInt = (a).toInt ∧ ((fa 12 5) s).toInt = (b).toInt ∧ ((fa 12 11) s).toInt ≤ (d).toInt ∧ (((fa 12 12) s).toInt < 0 ∨ (d).toInt < ((fa 12 12) s).toInt)) ((v523 : Int32).toInt).toNat).toInt from (by
                          have := congrArg Int32.toInt (show v510 = fa 12 9 ((x507_4 : Int32).toInt).toNat from ev510)
                          have := congrArg Int32.toInt (show v512 = fa 12 10 ((x507_4 : Int32).toInt).toNat from ev512)
                          have := congrArg Int32.toInt (show v515 = fa 12 4 ((x507_4 : Int32).toInt).toNat from ev515)
                          have := congrArg Int32.toInt (show v518 = fa 12 5 ((x507_4 : Int32).toInt).toNat from ev518)
                          have y9 : ((r521 : Int32).toInt = 1 ∧ (fa 12 11 ((x507_4 : Int32).toInt).toNat).toInt ≤ (d : Int32).toInt ∧ ((fa 12 12 ((x507_4 : Int32).toInt).toNat).toInt < 0 ∨ (d : Int32).toInt < (fa 12 12 ((x507_4 : Int32).toInt).toNat).toInt)) ∨ ((r521 : Int32).toInt = 0 ∧ ¬ ((fa 12 11 ((x507_4 : Int32).toInt).toNat).toInt ≤ (d : Int32).toInt ∧ ((fa 12 12 ((x507_4 : Int32).toInt).toNat).toInt < 0 ∨ (d : Int32).toInt < (fa 12 12 ((x507_4 : Int32).toInt).toNat).toInt))) := xr521_0
                          have hs9 : ((v523 : Int32).toInt).toNat = ((x507_4 : Int32).toInt).toNat + 1 := by omega
                          have hc : ¬ ((fa 12 4 ((x507_4 : Int32).toInt).toNat).toInt = a.toInt ∧ (fa 12 5 ((x507_4 : Int32).toInt).toNat).toInt = b.toInt ∧ (fa 12 11 ((x507_4 : Int32).toInt).toNat).toInt ≤ d.toInt ∧ ((fa 12 12 ((x507_4 : Int32).toInt).toNat).toInt < 0 ∨ d.toInt < (fa 12 12 ((x507_4 : Int32).toInt).toNat).toInt)) := by omega
                          rw [smC_n hs9 hc]; exact hq508_7)) (show (v523 : Int32).toInt ≤ ((iv 12 3) : Int32).toInt from by omega) (by omega) _ _ ls hP hD hS (lv_sub hl [0, 2, 3, 4, 5] rfl)
                  · have fc522 := z_ne (rfl : (r521).toInt = _) (by decide : (0 : Int32).toInt = 0) c522
                    refine lv_iload hx hb dX12_sumUp_103 (lv_at hl 0 rfl) ?_
                    refine lv_if_ne (tgt := 152) hx hb dX12_sumUp_105 (by decide) (fun c524 => ?_) (fun c524 => ?_)
                    · exact absurd rfl c524
                    · skip
                      refine lv_aload_n hx hb dX12_sumUp_108 rfl (lv_at hl 2 rfl) ?_
                      refine lv_dup hx hb dX12_sumUp_109 rfl ?_
                      refine gM_12_17 hx hb ht hown hK hP m_1156 (v := w507_l_12_17) rfl dX12_sumUp_110 ?_
                      refine lv_aload_n hx hb dX12_sumUp_113 rfl (lv_at hl 2 rfl) ?_
                      refine gM_12_8 hx hb ht hown hK hP m_1147 dX12_sumUp_114 ?_
                      refine lv_iload hx hb dX12_sumUp_117 (lv_at hl 1 rfl) ?_
                      refine lM_12_8 hx hb hK hP (f := (fa 12 8)) rfl (vp_in_iff.mpr ⟨by omega, by omega⟩) dX12_sumUp_119 ?_
                      refine lv_topi (fun v525 ev525 => ?_)
                      refine lv_i2l (v := (v525.toInt64)) hx hb dX12_sumUp_120 rfl ?_
                      refine lv_ladd hx hb dX12_sumUp_121 ?_
                      refine lv_topl (fun w526 ew526 => ?_)
                      refine pM_12_17 (v := w526) hx hb ht hown hK hP hD hS m_1156 dX12_sumUp_122 (fun H locs hP hD hS => ?_)
                      have hP : va_P (dC, dI) classes (WM h g ca (u2 iv 12 19 w507_i_12_19) (u2 (u2 lv 12 17 w526) 12 18 w507_l_12_18) fa la) H := hP
                      have hD : va_D A (WM h g ca (u2 iv 12 19 w507_i_12_19) (u2 (u2 lv 12 17 w526) 12 18 w507_l_12_18) fa la) := hD
                      refine lv_aload_n hx hb dX12_sumUp_125 rfl (lv_at hl 2 rfl) ?_
                      refine lv_dup hx hb dX12_sumUp_126 rfl ?_
                      refine gM_12_18 hx hb ht hown hK hP m_1157 (v := w507_l_12_18) rfl dX12_sumUp_127 ?_
                      refine lv_aload_n hx hb dX12_sumUp_130 rfl (lv_at hl 2 rfl) ?_
                      refine gM_12_7 hx hb ht hown hK hP m_1146 dX12_sumUp_131 ?_
                      refine lv_iload hx hb dX12_sumUp_134 (lv_at hl 1 rfl) ?_
                      refine lM_12_7 hx hb hK hP (f := (fa 12 7)) rfl (vp_in_iff.mpr ⟨by omega, by omega⟩) dX12_sumUp_136 ?_
                      refine lv_topi (fun v527 ev527 => ?_)
                      have tv527 : 0 ≤ v527.toInt ∧ v527.toInt ≤ 9999 := by rw [ev527]; exact hI.2 12 7 _
                      have hr9 := hJR (x507_4 : Int32).toNatClampNeg (by show (((x507_4 : Int32).toInt.toNat : Nat) : Int) < _; omega)
                      rw [← ev527] at hr9
                      refine lv_i2l (v := (v527.toInt64)) hx hb dX12_sumUp_137 rfl ?_
                      have : 0 ≤ (w507_l_12_18 : Int64).toInt ∧ (w507_l_12_18 : Int64).toInt ≤ 599940 := ⟨by omega, by omega⟩
                      refine lv_ladd hx hb dX12_sumUp_138 ?_
                      refine lv_topl (fun w528 ew528 => ?_)
                      have tw528 := l_add ew528 (rfl : (w507_l_12_18).toInt = _) ((Int32.toInt_toInt64 v527).trans rfl) (by omega) (by omega)
                      refine pM_12_18 (v := w528) hx hb ht hown hK hP hD hS m_1157 dX12_sumUp_139 (fun H locs hP hD hS => ?_)
                      have hP : va_P (dC, dI) classes (WM h g ca (u2 iv 12 19 w507_i_12_19) (u2 (u2 lv 12 17 w526) 12 18 w528) fa la) H := hP
                      have hD : va_D A (WM h g ca (u2 iv 12 19 w507_i_12_19) (u2 (u2 lv 12 17 w526) 12 18 w528) fa la) := hD
                      refine lv_aload_n hx hb dX12_sumUp_142 rfl (lv_at hl 2 rfl) ?_
                      refine lv_dup hx hb dX12_sumUp_143 rfl ?_
                      refine gM_12_19 hx hb ht hown hK hP m_1158 (v := w507_i_12_19) rfl dX12_sumUp_144 ?_
                      refine lv_iconst (v := 1) hx hb dX12_sumUp_147 (by decide) ?_
                      have : 0 ≤ (w507_i_12_19 : Int32).toInt ∧ (w507_i_12_19 : Int32).toInt ≤ 59 := ⟨by omega, by omega⟩
                      refine lv_iadd hx hb dX12_sumUp_148 ?_
                      refine lv_topi (fun v529 ev529 => ?_)
                      have tv529 := z_add ev529 (rfl : (w507_i_12_19).toInt = _) (by decide : (1 : Int32).toInt = 1) (by omega) (by omega)
                      refine pM_12_19 (v := v529) hx hb ht hown hK hP hD hS m_1158 dX12_sumUp_149 (fun H locs hP hD hS => ?_)
                      have hP : va_P (dC, dI) classes (WM h g ca (u2 iv 12 19 v529) (u2 (u2 lv 12 17 w526) 12 18 w528) fa la) H := hP
                      have hD : va_D A (WM h g ca (u2 iv 12 19 v529) (u2 (u2 lv 12 17 w526) 12 18 w528) fa la) := hD
                      obtain ⟨v530, ev530⟩ : ∃ y : Int32, y = x507_4 + 1 := ⟨_, rfl⟩
                      have tv530 := z_add ev530 rfl (by decide : (1 : Int32).toInt = 1) (by omega) (by omega)
                      refine lv_iinc (v := v530) (lv' := [(4, .int v530), (5, .int 0), (0, .ref h), (1, .int a), (2, .int b), (3, .int d)]) hx hb dX12_sumUp_152 hl (k := 1) rfl (by rw [ev530]; rfl) (by decide) rfl (fun ls hl => ?_)
                      refine lv_goto (tgt := 18) hx hb dX12_sumUp_155 (by decide) ?_
                      exact ih508 v530 v529 w526 w528 ⟨by omega, by omega⟩ (show 0 ≤ (w528 : Int64).toInt from by omega) (show (w528 : Int64).toInt ≤ 9999 * (v530 : Int32).toInt from by omega) (show 100 * (v529 : Int32).toInt ≤ (w528 : Int64).toInt from by omega) (show 0 ≤ (v529 : Int32).toInt from by omega) (show (v529 : Int32).toInt ≤ (v530 : Int32).toInt from by omega) (show (w526 : Int64).toInt = (smL (fun s : Nat => ((fa 12 4) s).toInt = (a).toInt ∧ ((fa 12 5) s).toInt = (b).toInt ∧ ((fa 12 11) s).toInt ≤ (d).toInt ∧ (((fa 12 12) s).toInt < 0 ∨ (d).toInt < ((fa 12 12) s).toInt)) (fa 12 8) ((v530 : Int32).toInt).toNat).toInt from (by
                            have := congrArg Int32.toInt (show v510 = fa 12 9 ((x507_4 : Int32).toInt).toNat from ev510)
                            have := congrArg Int32.toInt (show v512 = fa 12 10 ((x507_4 : Int32).toInt).toNat from ev512)
                            have := congrArg Int32.toInt (show v515 = fa 12 4 ((x507_4 : Int32).toInt).toNat from ev515)
                            have := congrArg Int32.toInt (show v518 = fa 12 5 ((x507_4 : Int32).toInt).toNat from ev518)
                            have y9 : ((r521 : Int32).toInt = 1 ∧ (fa 12 11 ((x507_4 : Int32).toInt).toNat).toInt ≤ (d : Int32).toInt ∧ ((fa 12 12 ((x507_4 : Int32).toInt).toNat).toInt < 0 ∨ (d : Int32).toInt < (fa 12 12 ((x507_4 : Int32).toInt).toNat).toInt)) ∨ ((r521 : Int32).toInt = 0 ∧ ¬ ((fa 12 11 ((x507_4 : Int32).toInt).toNat).toInt ≤ (d : Int32).toInt ∧ ((fa 12 12 ((x507_4 : Int32).toInt).toNat).toInt < 0 ∨ (d : Int32).toInt < (fa 12 12 ((x507_4 : Int32).toInt).toNat).toInt))) := xr521_0
                            have hs9 : ((v530 : Int32).toInt).toNat = ((x507_4 : Int32).toInt).toNat + 1 := by omega
                            have hc : (fa 12 4 ((x507_4 : Int32).toInt).toNat).toInt = a.toInt ∧ (fa 12 5 ((x507_4 : Int32).toInt).toNat).toInt = b.toInt ∧ (fa 12 11 ((x507_4 : Int32).toInt).toNat).toInt ≤ d.toInt ∧ ((fa 12 12 ((x507_4 : Int32).toInt).toNat).toInt < 0 ∨ d.toInt < (fa 12 12 ((x507_4 : Int32).toInt).toNat).toInt) := ⟨by omega, by omega, by omega, by omega⟩
                            have h1 : w507_l_12_17 = smL _ _ _ := Int64.toInt_inj.mp hq508_5
                            rw [smL_y hs9 hc, ← h1, ew526, ev525]; rfl)) (show (w528 : Int64).toInt = (smL (fun s : Nat => ((fa 12 4) s).toInt = (a).toInt ∧ ((fa 12 5) s).toInt = (b).toInt ∧ ((fa 12 11) s).toInt ≤ (d).toInt ∧ (((fa 12 12) s).toInt < 0 ∨ (d).toInt < ((fa 12 12) s).toInt)) (fa 12 7) ((v530 : Int32).toInt).toNat).toInt from (by
                            have := congrArg Int32.toInt (show v510 = fa 12 9 ((x507_4 : Int32).toInt).toNat from ev510)
                            have := congrArg Int32.toInt (show v512 = fa 12 10 ((x507_4 : Int32).toInt).toNat from ev512)
                            have := congrArg Int32.toInt (show v515 = fa 12 4 ((x507_4 : Int32).toInt).toNat from ev515)
                            have := congrArg Int32.toInt (show v518 = fa 12 5 ((x507_4 : Int32).toInt).toNat from ev518)
                            have y9 : ((r521 : Int32).toInt = 1 ∧ (fa 12 11 ((x507_4 : Int32).toInt).toNat).toInt ≤ (d : Int32).toInt ∧ ((fa 12 12 ((x507_4 : Int32).toInt).toNat).toInt < 0 ∨ (d : Int32).toInt < (fa 12 12 ((x507_4 : Int32).toInt).toNat).toInt)) ∨ ((r521 : Int32).toInt = 0 ∧ ¬ ((fa 12 11 ((x507_4 : Int32).toInt).toNat).toInt ≤ (d : Int32).toInt ∧ ((fa 12 12 ((x507_4 : Int32).toInt).toNat).toInt < 0 ∨ (d : Int32).toInt < (fa 12 12 ((x507_4 : Int32).toInt).toNat).toInt))) := xr521_0
                            have hs9 : ((v530 : Int32).toInt).toNat = ((x507_4 : Int32).toInt).toNat + 1 := by omega
                            have hc : (fa 12 4 ((x507_4 : Int32).toInt).toNat).toInt = a.toInt ∧ (fa 12 5 ((x507_4 : Int32).toInt).toNat).toInt = b.toInt ∧ (fa 12 11 ((x507_4 : Int32).toInt).toNat).toInt ≤ d.toInt ∧ ((fa 12 12 ((x507_4 : Int32).toInt).toNat).toInt < 0 ∨ d.toInt < (fa 12 12 ((x507_4 : Int32).toInt).toNat).toInt) := ⟨by omega, by omega, by omega, by omega⟩
                            have h1 : w507_l_12_18 = smL _ _ _ := Int64.toInt_inj.mp hq508_6
                            rw [smL_y hs9 hc, ← h1, ew528, ev527]; rfl)) (show (v529 : Int32).toInt = (smC (fun s : Nat => ((fa 12 4) s).toInt = (a).toInt ∧ ((fa 12 5) s).toInt = (b).toInt ∧ ((fa 12 11) s).toInt ≤ (d).toInt ∧ (((fa 12 12) s).toInt < 0 ∨ (d).toInt < ((fa 12 12) s).toInt)) ((v530 : Int32).toInt).toNat).toInt from (by
                            have := congrArg Int32.toInt (show v510 = fa 12 9 ((x507_4 : Int32).toInt).toNat from ev510)
                            have := congrArg Int32.toInt (show v512 = fa 12 10 ((x507_4 : Int32).toInt).toNat from ev512)
                            have := congrArg Int32.toInt (show v515 = fa 12 4 ((x507_4 : Int32).toInt).toNat from ev515)
                            have := congrArg Int32.toInt (show v518 = fa 12 5 ((x507_4 : Int32).toInt).toNat from ev518)
                            have y9 : ((r521 : Int32).toInt = 1 ∧ (fa 12 11 ((x507_4 : Int32).toInt).toNat).toInt ≤ (d : Int32).toInt ∧ ((fa 12 12 ((x507_4 : Int32).toInt).toNat).toInt < 0 ∨ (d : Int32).toInt < (fa 12 12 ((x507_4 : Int32).toInt).toNat).toInt)) ∨ ((r521 : Int32).toInt = 0 ∧ ¬ ((fa 12 11 ((x507_4 : Int32).toInt).toNat).toInt ≤ (d : Int32).toInt ∧ ((fa 12 12 ((x507_4 : Int32).toInt).toNat).toInt < 0 ∨ (d : Int32).toInt < (fa 12 12 ((x507_4 : Int32).toInt).toNat).toInt))) := xr521_0
                            have hs9 : ((v530 : Int32).toInt).toNat = ((x507_4 : Int32).toInt).toNat + 1 := by omega
                            have hc : (fa 12 4 ((x507_4 : Int32).toInt).toNat).toInt = a.toInt ∧ (fa 12 5 ((x507_4 : Int32).toInt).toNat).toInt = b.toInt ∧ (fa 12 11 ((x507_4 : Int32).toInt).toNat).toInt ≤ d.toInt ∧ ((fa 12 12 ((x507_4 : Int32).toInt).toNat).toInt < 0 ∨ d.toInt < (fa 12 12 ((x507_4 : Int32).toInt).toNat).toInt) := ⟨by omega, by omega, by omega, by omega⟩
                            have h1 : w507_i_12_19 = smC _ _ := Int32.toInt_inj.mp hq508_7
                            rw [smC_y hs9 hc, ← h1, ev529])) (show (v530 : Int32).toInt ≤ ((iv 12 3) : Int32).toInt from by omega) (by omega) _ _ ls hP hD hS (lv_sub hl [0, 2, 3, 4, 5] rfl)
            · have fc514 := z_eq (rfl : (x507_4).toInt = _) (rfl : ((iv 12 22)).toInt = _) c514; exfalso; omega
  have : (0 : Int32).toInt = 0 := (by decide)
  have : (0 : Int64).toInt = 0 := (by decide)
  have i_12_3 : 0 ≤ (iv 12 3).toInt ∧ (iv 12 3).toInt ≤ 60 := hI.1 12 3
  exact lp508 61 0 0 0 0 ⟨by decide, by decide⟩ (show 0 ≤ (0 : Int64).toInt from by omega) (show (0 : Int64).toInt ≤ 9999 * (0 : Int32).toInt from by omega) (show 100 * (0 : Int32).toInt ≤ (0 : Int64).toInt from by omega) (show 0 ≤ (0 : Int32).toInt from by omega) (show (0 : Int32).toInt ≤ (0 : Int32).toInt from by omega) (show (0 : Int64).toInt = (smL (fun s : Nat => ((fa 12 4) s).toInt = (a).toInt ∧ ((fa 12 5) s).toInt = (b).toInt ∧ ((fa 12 11) s).toInt ≤ (d).toInt ∧ (((fa 12 12) s).toInt < 0 ∨ (d).toInt < ((fa 12 12) s).toInt)) (fa 12 8) ((0 : Int32).toInt).toNat).toInt from (by have hz : ((0 : Int32).toInt).toNat = 0 := (by decide); rw [hz]; exact (by decide : (0 : Int64).toInt = 0))) (show (0 : Int64).toInt = (smL (fun s : Nat => ((fa 12 4) s).toInt = (a).toInt ∧ ((fa 12 5) s).toInt = (b).toInt ∧ ((fa 12 11) s).toInt ≤ (d).toInt ∧ (((fa 12 12) s).toInt < 0 ∨ (d).toInt < ((fa 12 12) s).toInt)) (fa 12 7) ((0 : Int32).toInt).toNat).toInt from (by have hz : ((0 : Int32).toInt).toNat = 0 := (by decide); rw [hz]; exact (by decide : (0 : Int64).toInt = 0))) (show (0 : Int32).toInt = (smC (fun s : Nat => ((fa 12 4) s).toInt = (a).toInt ∧ ((fa 12 5) s).toInt = (b).toInt ∧ ((fa 12 11) s).toInt ≤ (d).toInt ∧ (((fa 12 12) s).toInt < 0 ∨ (d).toInt < ((fa 12 12) s).toInt)) ((0 : Int32).toInt).toNat).toInt from (by have hz : ((0 : Int32).toInt).toNat = 0 := (by decide); rw [hz]; exact (by decide : (0 : Int32).toInt = 0))) (show (0 : Int32).toInt ≤ ((iv 12 3) : Int32).toInt from by omega) (by first | decide | omega) _ _ ls hP hD hS (lv_sub hl [0, 1, 2, 3, 4] rfl)
/-! ===== st1 ===== -/

/-- which skeins of a bale and a look count on a day, on both sides; their sums and their number -/
def cxP (rw : Nat → Int32) (b d l : Int) : Nat → Prop := fun s => (rw (9 * s + 0)).toInt = b ∧ (rw (9 * s + 1)).toInt = l ∧ (rw (9 * s + 7)).toInt ≤ d ∧ ((rw (9 * s + 8)).toInt = -1 ∨ d < (rw (9 * s + 8)).toInt)
def cyP (ob ol dy lo : Nat → Int32) (b d l : Int) : Nat → Prop := fun s => (ob s).toInt = b ∧ (ol s).toInt = l ∧ (dy s).toInt ≤ d ∧ ((lo s).toInt < 0 ∨ d < (lo s).toInt)
noncomputable def sX (rw : Nat → Int32) (b d l : Int) (k n : Nat) : Int64 := smL (cxP rw b d l) (fun s => rw (9 * s + k)) n
noncomputable def nX (rw : Nat → Int32) (b d l : Int) (n : Nat) : Int32 := smC (cxP rw b d l) n
noncomputable def sY (ob ol dy lo w : Nat → Int32) (b d l : Int) (n : Nat) : Int64 := smL (cyP ob ol dy lo b d l) w n
noncomputable def nY (ob ol dy lo : Nat → Int32) (b d l : Int) (n : Nat) : Int32 := smC (cyP ob ol dy lo b d l) n
/-- both sides' skeins are the same -/
def RoE (n : Int) (rw ob ol sc ra dr ov ha dy lo : Nat → Int32) : Prop := ∀ s : Nat, (s : Int) < n → rw (9 * s + 0) = ob s ∧ rw (9 * s + 1) = ol s ∧ rw (9 * s + 2) = sc s ∧ rw (9 * s + 3) = ra s ∧ rw (9 * s + 4) = dr s ∧ rw (9 * s + 5) = ov s ∧ rw (9 * s + 6) = ha s ∧ rw (9 * s + 7) = dy s ∧ rw (9 * s + 8) = lo s
theorem RoE_c {n : Int} {rw ob ol sc ra dr ov ha dy lo : Nat → Int32} (h : RoE n rw ob ol sc ra dr ov ha dy lo) (hl : ∀ j : Nat, -1 ≤ (lo j).toInt) (b d l : Int) {s : Nat} (hs : (s : Int) < n) : cxP rw b d l s ↔ cyP ob ol dy lo b d l s := by
  obtain ⟨a0, a1, -, -, -, -, -, a7, a8⟩ := h s hs
  have q := hl s
  show ((rw (9 * s + 0)).toInt = b ∧ (rw (9 * s + 1)).toInt = l ∧ (rw (9 * s + 7)).toInt ≤ d ∧ ((rw (9 * s + 8)).toInt = -1 ∨ d < (rw (9 * s + 8)).toInt)) ↔ ((ob s).toInt = b ∧ (ol s).toInt = l ∧ (dy s).toInt ≤ d ∧ ((lo s).toInt < 0 ∨ d < (lo s).toInt))
  rw [a0, a1, a7, a8]
  constructor
  · intro z; exact ⟨by omega, by omega, by omega, by omega⟩
  · intro z; exact ⟨by omega, by omega, by omega, by omega⟩
theorem RoE_s {n : Int} {rw ob ol sc ra dr ov ha dy lo : Nat → Int32} (h : RoE n rw ob ol sc ra dr ov ha dy lo) (hl : ∀ j : Nat, -1 ≤ (lo j).toInt) (b d l : Int) : sX rw b d l 3 n.toNat = sY ob ol dy lo ra b d l n.toNat ∧ sX rw b d l 4 n.toNat = sY ob ol dy lo dr b d l n.toNat ∧ nX rw b d l n.toNat = nY ob ol dy lo b d l n.toNat := by
  refine ⟨smL_cg _ (fun j hj => ⟨RoE_c h hl b d l (by omega), (h j (by omega)).2.2.2.1⟩), smL_cg _ (fun j hj => ⟨RoE_c h hl b d l (by omega), (h j (by omega)).2.2.2.2.1⟩), smC_cg _ (fun j hj => RoE_c h hl b d l (by omega))⟩
/-- as the machine's library tells it -/
def absL (x : Int64) : Int64 := if 0 < x then x else -x
theorem abs_p {x : Int64} (h : 0 ≤ x.toInt) : absL x = x := by
  unfold absL; split
  · rfl
  · next q =>
    have q2 : ¬ (0 : Int64).toInt < x.toInt := fun z => q (Int64.lt_iff_toInt_lt.mpr z)
    have z0 : (0 : Int64).toInt = 0 := rfl
    have e : x = 0 := Int64.toInt_inj.mp (by omega)
    rw [e]; decide
theorem abs_n {x y : Int64} (h : x.toInt < 0) (hy : y = 0 - x) : absL x = y := by
  unfold absL; split
  · next q =>
    have q2 := Int64.lt_iff_toInt_lt.mp q
    have z0 : (0 : Int64).toInt = 0 := rfl
    omega
  · rw [hy]
    apply Int64.toInt_inj.mp
    have z0 : (0 : Int64).toInt = 0 := rfl
    rw [Int64.toInt_neg, Int64.toInt_sub, z0, Int.zero_sub]
/-- a thousand times the difference of two ratios is above a bound -/
def difL (d0 r0 d1 r1 : Int64) (p : Int32) : Prop := (p.toInt64 * r0 * r1).toInt < ((1000 : Int64) * absL (d0 * r1 - d1 * r0)).toInt
/-- the state by what holds, by the numbers of skeins, by whether looks part -/
def WuR (F : Int → Int → Prop) (c0 c1 c2 : Int) (df : Int32 → Prop) (r : Int) : Prop := ∃ nd : Int, F 1 nd ∧ ((c0 < nd ∧ r = 0) ∨ (nd ≤ c0 ∧ ∃ lk : Int, F 3 lk ∧ ((lk = 1 ∧ r = 1) ∨ (lk ≠ 1 ∧ ((c1 < nd ∧ r = 0) ∨ (nd ≤ c1 ∧ ∃ pt : Int32, F 2 pt.toInt ∧ ((¬ df pt ∧ r = 1) ∨ (df pt ∧ ((c2 < nd ∧ r = 2) ∨ (nd ≤ c2 ∧ r = 1))))))))))
theorem WuR_un {F G : Int → Int → Prop} {c0 c1 c2 : Int} {df : Int32 → Prop} {r s : Int} (hF : ∀ a v w : Int, 0 ≤ a → a ≤ 5 → F a v → G a w → v = w) (h : WuR F c0 c1 c2 df r) (k : WuR G c0 c1 c2 df s) : r = s := by
  obtain ⟨nd, h1, h2⟩ := h
  obtain ⟨nd', k1, k2⟩ := k
  have e1 := hF 1 nd nd' (by decide) (by decide) h1 k1
  subst e1
  rcases h2 with ⟨a1, a2⟩ | ⟨a1, lk, h3, h4⟩
  · rcases k2 with ⟨b1, b2⟩ | ⟨b1, -⟩
    · omega
    · omega
  · rcases k2 with ⟨b1, b2⟩ | ⟨b1, lk', k3, k4⟩
    · omega
    · have e2 := hF 3 lk lk' (by decide) (by decide) h3 k3
      subst e2
      rcases h4 with ⟨a3, a4⟩ | ⟨a3, h5⟩
      · rcases k4 with ⟨b3, b4⟩ | ⟨b3, -⟩
        · omega
        · omega
      · rcases k4 with ⟨b3, b4⟩ | ⟨b3, k5⟩
        · omega
        · rcases h5 with ⟨a5, a6⟩ | ⟨a5, pt, h6, h7⟩
          · rcases k5 with ⟨b5, b6⟩ | ⟨b5, -⟩
            · omega
            · omega
          · rcases k5 with ⟨b5, b6⟩ | ⟨b5, pt', k6, k7⟩
            · omega
            · have e3 := Int32.toInt_inj.mp (hF 2 pt.toInt pt'.toInt (by decide) (by decide) h6 k6)
              subst e3
              rcases h7 with ⟨a7, a8⟩ | ⟨a7, h8⟩
              · rcases k7 with ⟨b7, b8⟩ | ⟨b7, -⟩
                · omega
                · exact absurd b7 a7
              · rcases k7 with ⟨b7, b8⟩ | ⟨b7, k8⟩
                · exact absurd a7 b7
                · omega
set_option maxHeartbeats 4000000 in
set_option maxRecDepth 100000 in
/-- X7_differ -/
theorem c_X7_differ_f30 (l : Launch) (dC : Nat → ClassId) (dI : Nat → Nat → Nat) (h : Nat) (g : Nat → Nat → Nat) (ca : Nat → Nat → ClassId) (iv : Nat → Nat → Int32) (lv : Nat → Nat → Int64) (fa : Nat → Nat → Nat → Int32) (la : Nat → Nat → Nat → Int64) (hI : IX iv fa) (d : Int32) : Met l yX7_differ (wc yX7_differ cX7_differ 4 (some .boolean)) ({ frames := 1, cells := 0, slots := 0, locals := 40 } : Room) (pR (dC, dI) classes (WX h g ca iv lv fa la) (TX ca) [.ref (g 3 2), .int 0, .int 1, .int d]) (vp_Si (fun r => (0 ≤ r.toInt ∧ r.toInt ≤ 1) ∧ (((r.toInt = 1 ∧ difL ((la 30 1) 0) ((la 30 0) 0) ((la 30 1) 1) ((la 30 0) 1) d) ∨ (r.toInt = 0 ∧ ¬ difL ((la 30 1) 0) ((la 30 0) 0) ((la 30 1) 1) ((la 30 0) 1) d))))) 0 0 (fun _ => False) := by
  refine Met.ofW (cc := cX7_differ) (maxL := 4) (ret := (some .boolean)) (by decide) rfl ?_
  intro p e s m args below meth c s₁ B hml hv
  obtain ⟨rfl, hP, hK⟩ := hv
  have hx := B.exec
  have hb := B.bytes
  have hr := B.returns
  have ht := tb_tl (atoms_spec (ws := wc yX7_differ cX7_differ 4 (some .boolean)) B.pre)
  have hown : s.vm.findClass RX7 = some m.cls := findClass_of_methodNamed B.named
  have hlocks := B.notSynchronized
  have hl := lv_entry [.ref (g 3 2), .int 0, .int 1, .int d] (n := 4) (Nat.le_of_ble_eq_true rfl)
  rw [lg_entry_eq]
  generalize (lg_sl [.ref (g 3 2), .int 0, .int 1, .int d] ++ List.replicate (4 - (lg_sl [.ref (g 3 2), .int 0, .int 1, .int d]).length) Slot.unset).toArray = ls at hl ⊢
  have hl : lv_has ls 4 [(0, .ref (g 3 2)), (1, .int 0), (2, .int 1), (3, .int d)] := hl
  refine lv_ldc2 hx hb hown (ht _ m_630) dX7_differ_0 ?_
  refine lv_aload_n hx hb dX7_differ_3 rfl (lv_at hl 0 rfl) ?_
  refine gX_30_1 hx hb ht hown hK hP m_264 dX7_differ_4 ?_
  refine lv_iload_n hx hb dX7_differ_7 rfl (lv_at hl 1 rfl) ?_
  refine lX_30_1 hx hb hK hP (f := (la 30 1)) rfl (vp_in_iff.mpr (by decide)) dX7_differ_8 ?_
  refine lv_topl (fun w1 ew1 => ?_)
  refine lv_aload_n hx hb dX7_differ_9 rfl (lv_at hl 0 rfl) ?_
  refine gX_30_0 hx hb ht hown hK hP m_261 dX7_differ_10 ?_
  refine lv_iload_n hx hb dX7_differ_13 rfl (lv_at hl 2 rfl) ?_
  refine lX_30_0 hx hb hK hP (f := (la 30 0)) rfl (vp_in_iff.mpr (by decide)) dX7_differ_14 ?_
  refine lv_topl (fun w2 ew2 => ?_)
  refine lv_lmul hx hb dX7_differ_15 ?_
  refine lv_topl (fun w3 ew3 => ?_)
  refine lv_aload_n hx hb dX7_differ_16 rfl (lv_at hl 0 rfl) ?_
  refine gX_30_1 hx hb ht hown hK hP m_264 dX7_differ_17 ?_
  refine lv_iload_n hx hb dX7_differ_20 rfl (lv_at hl 2 rfl) ?_
  refine lX_30_1 hx hb hK hP (f := (la 30 1)) rfl (vp_in_iff.mpr (by decide)) dX7_differ_21 ?_
  refine lv_topl (fun w4 ew4 => ?_)
  refine lv_aload_n hx hb dX7_differ_22 rfl (lv_at hl 0 rfl) ?_
  refine gX_30_0 hx hb ht hown hK hP m_261 dX7_differ_23 ?_
  refine lv_iload_n hx hb dX7_differ_26 rfl (lv_at hl 1 rfl) ?_
  refine lX_30_0 hx hb hK hP (f := (la 30 0)) rfl (vp_in_iff.mpr (by decide)) dX7_differ_27 ?_
  refine lv_topl (fun w5 ew5 => ?_)
  refine lv_lmul hx hb dX7_differ_28 ?_
  refine lv_topl (fun w6 ew6 => ?_)
  refine lv_lsub hx hb dX7_differ_29 ?_
  refine lv_topl (fun w7 ew7 => ?_)
  refine va_mabs_long hx hb (hml.trans hl.1.symm) hown (ht _ m_631) (ht _ m_632) (ht _ m_90) (ht _ m_633) (Nat.le_of_ble_eq_true rfl) (Nat.le_of_ble_eq_true rfl) (Nat.le_of_ble_eq_true rfl) (Nat.le_of_ble_eq_true rfl) dX7_differ_30 ?_
  refine lv_topl (fun w8 ew8 => ?_)
  refine lv_lmul hx hb dX7_differ_33 ?_
  refine lv_topl (fun w9 ew9 => ?_)
  refine lv_iload_n hx hb dX7_differ_34 rfl (lv_at hl 3 rfl) ?_
  refine lv_i2l (v := (d.toInt64)) hx hb dX7_differ_35 rfl ?_
  refine lv_aload_n hx hb dX7_differ_36 rfl (lv_at hl 0 rfl) ?_
  refine gX_30_0 hx hb ht hown hK hP m_261 dX7_differ_37 ?_
  refine lv_iload_n hx hb dX7_differ_40 rfl (lv_at hl 1 rfl) ?_
  refine lX_30_0 hx hb hK hP (f := (la 30 0)) rfl (vp_in_iff.mpr (by decide)) dX7_differ_41 ?_
  refine lv_topl (fun w10 ew10 => ?_)
  refine lv_lmul hx hb dX7_differ_42 ?_
  refine lv_topl (fun w11 ew11 => ?_)
  refine lv_aload_n hx hb dX7_differ_43 rfl (lv_at hl 0 rfl) ?_
  refine gX_30_0 hx hb ht hown hK hP m_261 dX7_differ_44 ?_
  refine lv_iload_n hx hb dX7_differ_47 rfl (lv_at hl 2 rfl) ?_
  refine lX_30_0 hx hb hK hP (f := (la 30 0)) rfl (vp_in_iff.mpr (by decide)) dX7_differ_48 ?_
  refine lv_topl (fun w12 ew12 => ?_)
  refine lv_lmul hx hb dX7_differ_49 ?_
  refine lv_topl (fun w13 ew13 => ?_)
  refine W.lcmp hx hb dX7_differ_50 ?_
  refine lv_topi (fun v14 ev14 => ?_)
  refine lv_if_le (tgt := 58) hx hb dX7_differ_51 (by decide) (fun c15 => ?_) (fun c15 => ?_)
  · have fc15 := zc_ngt ev14 (rfl : (w9).toInt = _) (rfl : (w13).toInt = _) (Int32.not_lt.mpr c15)
    refine lv_iconst (v := 0) hx hb dX7_differ_58 (by decide) ?_
    have : (0 : Int32).toInt = 0 := (by decide)
    exact W.zret (v := 0) hx hb hr rfl (fun t ht9 hW => ⟨0, rfl, ⟨⟨by decide, by decide⟩, (show (((0 : Int32).toInt = 1 ∧ difL ((la 30 1) 0) ((la 30 0) 0) ((la 30 1) 1) ((la 30 0) 1) d) ∨ ((0 : Int32).toInt = 0 ∧ ¬ difL ((la 30 1) 0) ((la 30 0) 0) ((la 30 1) 1) ((la 30 0) 1) d)) from (by subst_vars; exact Or.inr ⟨by decide, fun q9 => (by have q8 := q9; unfold difL at q8; exact absurd fc15 (Int.not_le.mpr q8))⟩))⟩, ht9⟩) (fun q hq => by cases hq) dX7_differ_59
  · have fc15 := zc_gt ev14 (rfl : (w9).toInt = _) (rfl : (w13).toInt = _) (Int32.not_le.mp c15)
    refine lv_iconst (v := 1) hx hb dX7_differ_54 (by decide) ?_
    refine lv_goto (tgt := 59) hx hb dX7_differ_55 (by decide) ?_
    have : (1 : Int32).toInt = 1 := (by decide)
    exact W.zret (v := 1) hx hb hr rfl (fun t ht9 hW => ⟨1, rfl, ⟨⟨by decide, by decide⟩, (show (((1 : Int32).toInt = 1 ∧ difL ((la 30 1) 0) ((la 30 0) 0) ((la 30 1) 1) ((la 30 0) 1) d) ∨ ((1 : Int32).toInt = 0 ∧ ¬ difL ((la 30 1) 0) ((la 30 0) 0) ((la 30 1) 1) ((la 30 0) 1) d)) from (by subst_vars; exact Or.inl ⟨by decide, fc15⟩))⟩, ht9⟩) (fun q hq => by cases hq) dX7_differ_59
set_option maxHeartbeats 4000000 in
set_option maxRecDepth 100000 in
/-- X3_weighUp -/
theorem c_X3_weighUp_f (l : Launch) (dC : Nat → ClassId) (dI : Nat → Nat → Nat) (sz : Nat) (ak av : Nat → Nat) (h : Nat) (g : Nat → Nat → Nat) (ca : Nat → Nat → ClassId) (iv : Nat → Nat → Int32) (lv : Nat → Nat → Int64) (fa : Nat → Nat → Nat → Int32) (la : Nat → Nat → Nat → Int64) (hI : IX iv fa) (a : Int32) (b : Int32) (hJB : ∀ j : Nat, (j : Int) < (iv 1 7).toInt → 0 ≤ (fa 1 0 j).toInt) : Met l yX3_weighUp (wc yX3_weighUp cX3_weighUp 5 (some .int)) ({ frames := 4, cells := 0, slots := 0, locals := 93 } : Room) (pWZ ak av (dC, dI) classes (WX h g ca iv lv fa la) (TX ca) sz [.ref (g 11 5), .int a, .int b]) (va_Qi (fun r (u : SS) => ∃ (na_1_6 : Nat → Int32) (na_30_2 : Nat → Int32) (nb_30_0 : Nat → Int64) (nb_30_1 : Nat → Int64) (ni_3_3 : Int32) (ni_3_4 : Int32), (∀ j, inb (bA 1 6 j) (na_1_6 j)) ∧ inb (bI 3 3) ni_3_3 ∧ inb (bI 3 4) ni_3_4 ∧ (WuR (fun q v => FoX (iv 1 7).toInt (fa 1 0) (fa 1 1) (fa 1 2) (fa 1 3) q b.toInt v) (nX (fa 10 0) a.toInt b.toInt 0 ((iv 10 1).toInt).toNat).toInt (nX (fa 10 0) a.toInt b.toInt 1 ((iv 10 1).toInt).toNat).toInt (nX (fa 10 0) a.toInt b.toInt 2 ((iv 10 1).toInt).toNat).toInt (fun pt => difL (sX (fa 10 0) a.toInt b.toInt 0 4 ((iv 10 1).toInt).toNat) (sX (fa 10 0) a.toInt b.toInt 0 3 ((iv 10 1).toInt).toNat) (sX (fa 10 0) a.toInt b.toInt 1 4 ((iv 10 1).toInt).toNat) (sX (fa 10 0) a.toInt b.toInt 1 3 ((iv 10 1).toInt).toNat) pt) r.toInt) ∧ (0 ≤ r.toInt ∧ r.toInt ≤ 2) ∧ u = ((u2 (u2 iv 3 3 ni_3_3) 3 4 ni_3_4), lv, (u2 (u2 fa 1 6 na_1_6) 30 2 na_30_2), (u2 (u2 la 30 0 nb_30_0) 30 1 nb_30_1))) (bX (dC, dI) h g ca (va_A (WX h g ca iv lv fa la) sz)) (va_A (WX h g ca iv lv fa la) sz)) 0 0 (va_A (WX h g ca iv lv fa la) sz) := by
  refine Met.ofW (cc := cX3_weighUp) (maxL := 5) (ret := (some .int)) (by decide) rfl ?_
  intro p e s m args below meth c s₁ B hml hv
  obtain ⟨rfl, hsz, hP, hK, hD0, hZ⟩ := hv
  have hx := B.exec
  have hb := B.bytes
  have hr := B.returns
  have ht := tb_tl (atoms_spec (ws := wc yX3_weighUp cX3_weighUp 5 (some .int)) B.pre)
  have hown : s.vm.findClass RX3 = some m.cls := findClass_of_methodNamed B.named
  have hlocks := B.notSynchronized
  subst hsz
  have hD := hD0.self (sz := s.heap.size)
  generalize hAe : va_A (WX h g ca iv lv fa la) s.heap.size = A at hD hZ ⊢
  have hA : ∀ q : Nat, s.heap.size ≤ q → A q := fun q h => by rw [← hAe]; exact Or.inr h
  have hS : va_S A s.heap s.heap [] := va_S.rf
  have hl := lv_entry [.ref (g 11 5), .int a, .int b] (n := 5) (Nat.le_of_ble_eq_true rfl)
  rw [lg_entry_eq]
  generalize (lg_sl [.ref (g 11 5), .int a, .int b] ++ List.replicate (5 - (lg_sl [.ref (g 11 5), .int a, .int b]).length) Slot.unset).toArray = ls at hl ⊢
  have hl : lv_has ls 5 [(0, .ref (g 11 5)), (1, .int a), (2, .int b)] := hl
  refine lv_aload_n hx hb dX3_weighUp_0 rfl (lv_at hl 0 rfl) ?_
  refine lv_iload_n hx hb dX3_weighUp_1 rfl (lv_at hl 1 rfl) ?_
  refine lv_iload_n hx hb dX3_weighUp_2 rfl (lv_at hl 2 rfl) ?_
  have hFc := free_all hD hS hA
  refine va_callv (va_runV (As := [.int a, .int b]) (rest := []) ⟨hx, hb, hml, hown, ht⟩ (c_X3_gather_s l dC dI s.heap.size h g ca iv lv fa la hI a b) (kV 2 ht m_599 m_565 m_566 m_83 m_567 rfl rfl hd_X3_gather_v ⟨Nat.le_of_ble_eq_true rfl, Nat.le_of_ble_eq_true rfl⟩) (vW hP hK hD (rX_3 hK hP)) rfl rfl hl.1 rfl (lv_room (Nat.le_of_ble_eq_true rfl)) dX3_weighUp_3 ⟨Nat.le_of_ble_eq_true rfl, Nat.le_of_ble_eq_true rfl⟩) hS (fun q _ h => hFc q h) hFc (fun u t H1 locs ht9 hvm hr1 hB hz1 hk1 hS => ?_)
  obtain ⟨n2, n3, n4, xr1_0, rfl⟩ := hr1
  have hn2 : ∀ j, inb (bA 30 2 j) (n2 j) := fun j => full_i _
  obtain ⟨hP, hD⟩ := hB
  rw [ht9] at hP
  generalize H1 = H at hP hS ⊢
  have hP : va_P (dC, dI) classes (WX h g ca iv lv (u2 fa 30 2 n2) (u2 (u2 la 30 0 n3) 30 1 n4)) H := hP
  have hD : va_D A (WX h g ca iv lv (u2 fa 30 2 n2) (u2 (u2 la 30 0 n3) 30 1 n4)) := (show va_D _ (WX h g ca iv lv (u2 fa 30 2 n2) (u2 (u2 la 30 0 n3) 30 1 n4)) from hD).weaken (fun _ _ _ h => hFc _ h)
  have i_10_1 : 0 ≤ (iv 10 1).toInt ∧ (iv 10 1).toInt ≤ 60 := hI.1 10 1
  have xr1_0 : ∀ l : Nat, l < 3 → n3 l = smL (fun s : Nat => ((fa 10 0) (9 * s + 0)).toInt = (a : Int32).toInt ∧ ((fa 10 0) (9 * s + 1)).toInt = (l : Int) ∧ ((fa 10 0) (9 * s + 7)).toInt ≤ (b : Int32).toInt ∧ (((fa 10 0) (9 * s + 8)).toInt = -1 ∨ (b : Int32).toInt < ((fa 10 0) (9 * s + 8)).toInt)) (fun s : Nat => (fa 10 0) (9 * s + 3)) (((iv 10 1) : Int32).toInt).toNat ∧ n4 l = smL (fun s : Nat => ((fa 10 0) (9 * s + 0)).toInt = (a : Int32).toInt ∧ ((fa 10 0) (9 * s + 1)).toInt = (l : Int) ∧ ((fa 10 0) (9 * s + 7)).toInt ≤ (b : Int32).toInt ∧ (((fa 10 0) (9 * s + 8)).toInt = -1 ∨ (b : Int32).toInt < ((fa 10 0) (9 * s + 8)).toInt)) (fun s : Nat => (fa 10 0) (9 * s + 4)) (((iv 10 1) : Int32).toInt).toNat ∧ n2 l = smC (fun s : Nat => ((fa 10 0) (9 * s + 0)).toInt = (a : Int32).toInt ∧ ((fa 10 0) (9 * s + 1)).toInt = (l : Int) ∧ ((fa 10 0) (9 * s + 7)).toInt ≤ (b : Int32).toInt ∧ (((fa 10 0) (9 * s + 8)).toInt = -1 ∨ (b : Int32).toInt < ((fa 10 0) (9 * s + 8)).toInt)) (((iv 10 1) : Int32).toInt).toNat := xr1_0
  have ga0 : n3 0 = sX (fa 10 0) a.toInt b.toInt 0 3 ((iv 10 1).toInt).toNat := (xr1_0 0 (by decide)).1
  have gb0 : n4 0 = sX (fa 10 0) a.toInt b.toInt 0 4 ((iv 10 1).toInt).toNat := (xr1_0 0 (by decide)).2.1
  have gc0 : n2 0 = nX (fa 10 0) a.toInt b.toInt 0 ((iv 10 1).toInt).toNat := (xr1_0 0 (by decide)).2.2
  have ga1 : n3 1 = sX (fa 10 0) a.toInt b.toInt 1 3 ((iv 10 1).toInt).toNat := (xr1_0 1 (by decide)).1
  have gb1 : n4 1 = sX (fa 10 0) a.toInt b.toInt 1 4 ((iv 10 1).toInt).toNat := (xr1_0 1 (by decide)).2.1
  have gc1 : n2 1 = nX (fa 10 0) a.toInt b.toInt 1 ((iv 10 1).toInt).toNat := (xr1_0 1 (by decide)).2.2
  have ga2 : n3 2 = sX (fa 10 0) a.toInt b.toInt 2 3 ((iv 10 1).toInt).toNat := (xr1_0 2 (by decide)).1
  have gb2 : n4 2 = sX (fa 10 0) a.toInt b.toInt 2 4 ((iv 10 1).toInt).toNat := (xr1_0 2 (by decide)).2.1
  have gc2 : n2 2 = nX (fa 10 0) a.toInt b.toInt 2 ((iv 10 1).toInt).toNat := (xr1_0 2 (by decide)).2.2
  refine lv_aload_n hx hb dX3_weighUp_6 rfl (lv_at hl 0 rfl) ?_
  refine gX_3_1 hx hb ht hown hK hP m_280 dX3_weighUp_7 ?_
  refine lv_iconst (v := 1) hx hb dX3_weighUp_10 (by decide) ?_
  refine lv_iload_n hx hb dX3_weighUp_11 rfl (lv_at hl 2 rfl) ?_
  have hFc := free_all hD hS hA
  refine va_calli (va_runV (As := [.int 1, .int b]) (rest := []) ⟨hx, hb, hml, hown, ht⟩ (c_X1_holding_f l dC dI H.size ak av h g ca iv lv (u2 fa 30 2 n2) (u2 (u2 la 30 0 n3) 30 1 n4) (IX_a (c := 30) (k := 2) hI hn2) 1 b ⟨by decide, by decide⟩ hJB) (kV 2 ht m_600 m_601 m_602 m_81 m_603 rfl rfl hd_X1_holding_v ⟨Nat.le_of_ble_eq_true rfl, Nat.le_of_ble_eq_true rfl⟩) (vWZ hP hK hD ((hZ.kept hS.2.1).narrow (free_all hD hS hA)) (rX_1 hK hP)) rfl rfl hl.1 rfl (lv_room (Nat.le_of_ble_eq_true rfl)) dX3_weighUp_12 ⟨Nat.le_of_ble_eq_true rfl, Nat.le_of_ble_eq_true rfl⟩) hS (fun q _ h => hFc q h) hFc (fun r5 u t H1 locs ht9 hvm hr5 hB hz1 hk1 hS => ?_)
  obtain ⟨n6, hn6, xr5_0, hr5, rfl⟩ := hr5
  obtain ⟨hP, hD⟩ := hB
  rw [ht9] at hP
  generalize H1 = H at hP hS ⊢
  have hP : va_P (dC, dI) classes (WX h g ca iv lv (u2 (u2 fa 30 2 n2) 1 6 n6) (u2 (u2 la 30 0 n3) 30 1 n4)) H := hP
  have hD : va_D A (WX h g ca iv lv (u2 (u2 fa 30 2 n2) 1 6 n6) (u2 (u2 la 30 0 n3) 30 1 n4)) := (show va_D _ (WX h g ca iv lv (u2 (u2 fa 30 2 n2) 1 6 n6) (u2 (u2 la 30 0 n3) 30 1 n4)) from hD).weaken (fun _ _ _ h => hFc _ h)
  have i_1_7 : 0 ≤ (iv 1 7).toInt ∧ (iv 1 7).toInt ≤ 8 := hI.1 1 7
  have : (1 : Int32).toInt = 1 := (by decide)
  have xr5_0 : FoX ((iv 1 7) : Int32).toInt (fa 1 0) (fa 1 1) (fa 1 2) (fa 1 3) (1 : Int32).toInt (b : Int32).toInt (r5 : Int32).toInt := xr5_0
  refine lv_istore_n (lv' := [(3, .int r5), (0, .ref (g 11 5)), (1, .int a), (2, .int b)]) hx hb dX3_weighUp_15 rfl hl (by decide) rfl (fun ls hl => ?_)
  refine lv_aload_n hx hb dX3_weighUp_16 rfl (lv_at hl 1 rfl) ?_
  refine gX_3_2 hx hb ht hown hK hP m_281 dX3_weighUp_17 ?_
  refine gX_30_2 hx hb ht hown hK hP m_268 dX3_weighUp_20 ?_
  refine lv_iconst (v := 0) hx hb dX3_weighUp_23 (by decide) ?_
  refine lX_30_2 hx hb hK hP (f := n2) rfl (vp_in_iff.mpr (by decide)) dX3_weighUp_24 ?_
  refine lv_topi (fun v7 ev7 => ?_)
  have gn0 := congrArg Int32.toInt ((show v7 = n2 0 from ev7).trans gc0)
  refine lv_iload_n hx hb dX3_weighUp_25 rfl (lv_at hl 0 rfl) ?_
  refine lv_icmp_ge (tgt := 31) hx hb dX3_weighUp_26 (by decide) (fun c8 => ?_) (fun c8 => ?_)
  · have fc8 := z_le (rfl : (r5).toInt = _) (rfl : (v7).toInt = _) c8
    refine lv_aload_n hx hb dX3_weighUp_31 rfl (lv_at hl 1 rfl) ?_
    refine gX_3_1 hx hb ht hown hK hP m_280 dX3_weighUp_32 ?_
    refine lv_iconst (v := 3) hx hb dX3_weighUp_35 (by decide) ?_
    refine lv_iload_n hx hb dX3_weighUp_36 rfl (lv_at hl 3 rfl) ?_
    have hFc := free_all hD hS hA
    refine va_calli (va_runV (As := [.int 3, .int b]) (rest := []) ⟨hx, hb, hml, hown, ht⟩ (c_X1_holding_f l dC dI H.size ak av h g ca iv lv (u2 (u2 fa 30 2 n2) 1 6 n6) (u2 (u2 la 30 0 n3) 30 1 n4) (IX_a (c := 1) (k := 6) (IX_a (c := 30) (k := 2) hI hn2) hn6) 3 b ⟨by decide, by decide⟩ hJB) (kV 2 ht m_600 m_601 m_602 m_81 m_603 rfl rfl hd_X1_holding_v ⟨Nat.le_of_ble_eq_true rfl, Nat.le_of_ble_eq_true rfl⟩) (vWZ hP hK hD ((hZ.kept hS.2.1).narrow (free_all hD hS hA)) (rX_1 hK hP)) rfl rfl hl.1 rfl (lv_room (Nat.le_of_ble_eq_true rfl)) dX3_weighUp_37 ⟨Nat.le_of_ble_eq_true rfl, Nat.le_of_ble_eq_true rfl⟩) hS (fun q _ h => hFc q h) hFc (fun r9 u t H1 locs ht9 hvm hr9 hB hz1 hk1 hS => ?_)
    obtain ⟨n10, hn10, xr9_0, hr9, rfl⟩ := hr9
    obtain ⟨hP, hD⟩ := hB
    rw [ht9] at hP
    generalize H1 = H at hP hS ⊢
    have hP : va_P (dC, dI) classes (WX h g ca iv lv (u2 (u2 fa 30 2 n2) 1 6 n10) (u2 (u2 la 30 0 n3) 30 1 n4)) H := hP
    have hD : va_D A (WX h g ca iv lv (u2 (u2 fa 30 2 n2) 1 6 n10) (u2 (u2 la 30 0 n3) 30 1 n4)) := (show va_D _ (WX h g ca iv lv (u2 (u2 fa 30 2 n2) 1 6 n10) (u2 (u2 la 30 0 n3) 30 1 n4)) from hD).weaken (fun _ _ _ h => hFc _ h)
    have : (3 : Int32).toInt = 3 := (by decide)
    have xr9_0 : FoX ((iv 1 7) : Int32).toInt (fa 1 0) (fa 1 1) (fa 1 2) (fa 1 3) (3 : Int32).toInt (b : Int32).toInt (r9 : Int32).toInt := xr9_0
    refine lv_iconst (v := 1) hx hb dX3_weighUp_40 (by decide) ?_
    refine lv_icmp_ne (tgt := 51) hx hb dX3_weighUp_41 (by decide) (fun c11 => ?_) (fun c11 => ?_)
    · have fc11 := z_ne (rfl : (r9).toInt = _) (by decide : (1 : Int32).toInt = 1) c11
      refine lv_aload_n hx hb dX3_weighUp_51 rfl (lv_at hl 1 rfl) ?_
      refine gX_3_2 hx hb ht hown hK hP m_281 dX3_weighUp_52 ?_
      refine gX_30_2 hx hb ht hown hK hP m_268 dX3_weighUp_55 ?_
      refine lv_iconst (v := 1) hx hb dX3_weighUp_58 (by decide) ?_
      refine lX_30_2 hx hb hK hP (f := n2) rfl (vp_in_iff.mpr (by decide)) dX3_weighUp_59 ?_
      refine lv_topi (fun v12 ev12 => ?_)
      have gn1 := congrArg Int32.toInt ((show v12 = n2 1 from ev12).trans gc1)
      refine lv_iload_n hx hb dX3_weighUp_60 rfl (lv_at hl 0 rfl) ?_
      refine lv_icmp_ge (tgt := 66) hx hb dX3_weighUp_61 (by decide) (fun c13 => ?_) (fun c13 => ?_)
      · have fc13 := z_le (rfl : (r5).toInt = _) (rfl : (v12).toInt = _) c13
        refine lv_aload_n hx hb dX3_weighUp_66 rfl (lv_at hl 1 rfl) ?_
        refine gX_3_1 hx hb ht hown hK hP m_280 dX3_weighUp_67 ?_
        refine lv_iconst (v := 5) hx hb dX3_weighUp_70 (by decide) ?_
        refine lv_iload_n hx hb dX3_weighUp_71 rfl (lv_at hl 3 rfl) ?_
        have hFc := free_all hD hS hA
        refine va_calli (va_runV (As := [.int 5, .int b]) (rest := []) ⟨hx, hb, hml, hown, ht⟩ (c_X1_holding_f l dC dI H.size ak av h g ca iv lv (u2 (u2 fa 30 2 n2) 1 6 n10) (u2 (u2 la 30 0 n3) 30 1 n4) (IX_a (c := 1) (k := 6) (IX_a (c := 30) (k := 2) hI hn2) hn10) 5 b ⟨by decide, by decide⟩ hJB) (kV 2 ht m_600 m_601 m_602 m_81 m_603 rfl rfl hd_X1_holding_v ⟨Nat.le_of_ble_eq_true rfl, Nat.le_of_ble_eq_true rfl⟩) (vWZ hP hK hD ((hZ.kept hS.2.1).narrow (free_all hD hS hA)) (rX_1 hK hP)) rfl rfl hl.1 rfl (lv_room (Nat.le_of_ble_eq_true rfl)) dX3_weighUp_72 ⟨Nat.le_of_ble_eq_true rfl, Nat.le_of_ble_eq_true rfl⟩) hS (fun q _ h => hFc q h) hFc (fun r14 u t H1 locs ht9 hvm hr14 hB hz1 hk1 hS => ?_)
        obtain ⟨n15, hn15, xr14_0, hr14, rfl⟩ := hr14
        obtain ⟨hP, hD⟩ := hB
        rw [ht9] at hP
        generalize H1 = H at hP hS ⊢
        have hP : va_P (dC, dI) classes (WX h g ca iv lv (u2 (u2 fa 30 2 n2) 1 6 n15) (u2 (u2 la 30 0 n3) 30 1 n4)) H := hP
        have hD : va_D A (WX h g ca iv lv (u2 (u2 fa 30 2 n2) 1 6 n15) (u2 (u2 la 30 0 n3) 30 1 n4)) := (show va_D _ (WX h g ca iv lv (u2 (u2 fa 30 2 n2) 1 6 n15) (u2 (u2 la 30 0 n3) 30 1 n4)) from hD).weaken (fun _ _ _ h => hFc _ h)
        have : (5 : Int32).toInt = 5 := (by decide)
        have xr14_0 : FoX ((iv 1 7) : Int32).toInt (fa 1 0) (fa 1 1) (fa 1 2) (fa 1 3) (5 : Int32).toInt (b : Int32).toInt (r14 : Int32).toInt := xr14_0
        refine lv_istore (lv' := [(4, .int r14), (3, .int r5), (0, .ref (g 11 5)), (1, .int a), (2, .int b)]) hx hb dX3_weighUp_75 hl (by decide) rfl (fun ls hl => ?_)
        refine lv_aload_n hx hb dX3_weighUp_77 rfl (lv_at hl 2 rfl) ?_
        refine gX_3_2 hx hb ht hown hK hP m_281 dX3_weighUp_78 ?_
        refine lv_iconst (v := 0) hx hb dX3_weighUp_81 (by decide) ?_
        refine lv_iconst (v := 1) hx hb dX3_weighUp_82 (by decide) ?_
        refine lv_aload_n hx hb dX3_weighUp_83 rfl (lv_at hl 2 rfl) ?_
        refine gX_3_1 hx hb ht hown hK hP m_280 dX3_weighUp_84 ?_
        refine lv_iconst (v := 2) hx hb dX3_weighUp_87 (by decide) ?_
        refine lv_iload_n hx hb dX3_weighUp_88 rfl (lv_at hl 4 rfl) ?_
        have hFc := free_all hD hS hA
        refine va_calli (va_runV (As := [.int 2, .int b]) (rest := [.int 1, .int 0, .ref (g 3 2)]) ⟨hx, hb, hml, hown, ht⟩ (c_X1_holding_f l dC dI H.size ak av h g ca iv lv (u2 (u2 fa 30 2 n2) 1 6 n15) (u2 (u2 la 30 0 n3) 30 1 n4) (IX_a (c := 1) (k := 6) (IX_a (c := 30) (k := 2) hI hn2) hn15) 2 b ⟨by decide, by decide⟩ hJB) (kV 2 ht m_600 m_601 m_602 m_81 m_603 rfl rfl hd_X1_holding_v ⟨Nat.le_of_ble_eq_true rfl, Nat.le_of_ble_eq_true rfl⟩) (vWZ hP hK hD ((hZ.kept hS.2.1).narrow (free_all hD hS hA)) (rX_1 hK hP)) rfl rfl hl.1 rfl (lv_room (Nat.le_of_ble_eq_true rfl)) dX3_weighUp_89 ⟨Nat.le_of_ble_eq_true rfl, Nat.le_of_ble_eq_true rfl⟩) hS (fun q _ h => hFc q h) hFc (fun r16 u t H1 locs ht9 hvm hr16 hB hz1 hk1 hS => ?_)
        obtain ⟨n17, hn17, xr16_0, hr16, rfl⟩ := hr16
        obtain ⟨hP, hD⟩ := hB
        rw [ht9] at hP
        generalize H1 = H at hP hS ⊢
        have hP : va_P (dC, dI) classes (WX h g ca iv lv (u2 (u2 fa 30 2 n2) 1 6 n17) (u2 (u2 la 30 0 n3) 30 1 n4)) H := hP
        have hD : va_D A (WX h g ca iv lv (u2 (u2 fa 30 2 n2) 1 6 n17) (u2 (u2 la 30 0 n3) 30 1 n4)) := (show va_D _ (WX h g ca iv lv (u2 (u2 fa 30 2 n2) 1 6 n17) (u2 (u2 la 30 0 n3) 30 1 n4)) from hD).weaken (fun _ _ _ h => hFc _ h)
        have : (2 : Int32).toInt = 2 := (by decide)
        have xr16_0 : FoX ((iv 1 7) : Int32).toInt (fa 1 0) (fa 1 1) (fa 1 2) (fa 1 3) (2 : Int32).toInt (b : Int32).toInt (r16 : Int32).toInt := xr16_0
        refine vp_callSi (W.runV (As := [.int 0, .int 1, .int r16]) (rest := []) ⟨hx, hb, hml, hown, ht⟩ (c_X7_differ_f30 l dC dI h g ca iv lv (u2 (u2 fa 30 2 n2) 1 6 n17) (u2 (u2 la 30 0 n3) 30 1 n4) (IX_a (c := 1) (k := 6) (IX_a (c := 30) (k := 2) hI hn2) hn17) r16) (kV 3 ht m_626 m_627 m_628 m_84 m_629 rfl rfl hd_X7_differ_v ⟨Nat.le_of_ble_eq_true rfl, Nat.le_of_ble_eq_true rfl⟩) (vR hP hK (rX_30 hK hP)) rfl rfl hl.1 rfl (lv_room (Nat.le_of_ble_eq_true rfl)) dX3_weighUp_92 ⟨Nat.le_of_ble_eq_true rfl, Nat.le_of_ble_eq_true rfl⟩) (fun r18 hr18 => ?_)
        obtain ⟨hr18, xr18_0⟩ := hr18
        have xr18_0 : (((r18 : Int32).toInt = 1 ∧ difL (n4 0) (n3 0) (n4 1) (n3 1) (r16 : Int32)) ∨ ((r18 : Int32).toInt = 0 ∧ ¬ difL (n4 0) (n3 0) (n4 1) (n3 1) (r16 : Int32))) := xr18_0
        refine lv_if_ne (tgt := 105) hx hb dX3_weighUp_95 (by decide) (fun c19 => ?_) (fun c19 => ?_)
        · have fc19 := z_ne (rfl : (r18).toInt = _) (by decide : (0 : Int32).toInt = 0) c19
          refine lv_aload_n hx hb dX3_weighUp_105 rfl (lv_at hl 2 rfl) ?_
          refine gX_3_2 hx hb ht hown hK hP m_281 dX3_weighUp_106 ?_
          refine gX_30_2 hx hb ht hown hK hP m_268 dX3_weighUp_109 ?_
          refine lv_iconst (v := 2) hx hb dX3_weighUp_112 (by decide) ?_
          refine lX_30_2 hx hb hK hP (f := n2) rfl (vp_in_iff.mpr (by decide)) dX3_weighUp_113 ?_
          refine lv_topi (fun v20 ev20 => ?_)
          have gn2 := congrArg Int32.toInt ((show v20 = n2 2 from ev20).trans gc2)
          refine lv_iload_n hx hb dX3_weighUp_114 rfl (lv_at hl 1 rfl) ?_
          refine lv_icmp_ge (tgt := 122) hx hb dX3_weighUp_115 (by decide) (fun c21 => ?_) (fun c21 => ?_)
          · have fc21 := z_le (rfl : (r5).toInt = _) (rfl : (v20).toInt = _) c21
            refine lv_aload_n hx hb dX3_weighUp_122 rfl (lv_at hl 2 rfl) ?_
            refine lv_iload hx hb dX3_weighUp_123 (lv_at hl 0 rfl) ?_
            have hFc := free_all hD hS hA
            refine va_calli (va_runV (As := [.int r14]) (rest := []) ⟨hx, hb, hml, hown, ht⟩ (c_X3_settleByThree l dC dI H.size h g ca iv lv (u2 (u2 fa 30 2 n2) 1 6 n17) (u2 (u2 la 30 0 n3) 30 1 n4) (IX_a (c := 1) (k := 6) (IX_a (c := 30) (k := 2) hI hn2) hn17) r14) (kV 1 ht m_642 m_644 m_12 m_83 m_645 rfl rfl hd_X3_settleByThree_v ⟨Nat.le_of_ble_eq_true rfl, Nat.le_of_ble_eq_true rfl⟩) (vW hP hK hD (rX_3 hK hP)) rfl rfl hl.1 rfl (lv_room (Nat.le_of_ble_eq_true rfl)) dX3_weighUp_125 ⟨Nat.le_of_ble_eq_true rfl, Nat.le_of_ble_eq_true rfl⟩) hS (fun q _ h => hFc q h) hFc (fun r22 u t H1 locs ht9 hvm hr22 hB hz1 hk1 hS => ?_)
            obtain ⟨n23, n24, hn23, hn24, hr22, rfl⟩ := hr22
            have hn23 : 0 ≤ n23.toInt ∧ n23.toInt ≤ 2 := hn23
            have hn24 : 0 ≤ n24.toInt ∧ n24.toInt ≤ 2 := hn24
            obtain ⟨hP, hD⟩ := hB
            rw [ht9] at hP
            generalize H1 = H at hP hS ⊢
            have hP : va_P (dC, dI) classes (WX h g ca (u2 (u2 iv 3 3 n23) 3 4 n24) lv (u2 (u2 fa 30 2 n2) 1 6 n17) (u2 (u2 la 30 0 n3) 30 1 n4)) H := hP
            have hD : va_D A (WX h g ca (u2 (u2 iv 3 3 n23) 3 4 n24) lv (u2 (u2 fa 30 2 n2) 1 6 n17) (u2 (u2 la 30 0 n3) 30 1 n4)) := (show va_D _ (WX h g ca (u2 (u2 iv 3 3 n23) 3 4 n24) lv (u2 (u2 fa 30 2 n2) 1 6 n17) (u2 (u2 la 30 0 n3) 30 1 n4)) from hD).weaken (fun _ _ _ h => hFc _ h)
            have hP9 : va_P (dC, dI) classes (WX h g ca (u2 (u2 iv 3 3 n23) 3 4 n24) lv (u2 (u2 fa 1 6 n17) 30 2 n2) (u2 (u2 la 30 0 n3) 30 1 n4)) H := hP
            have hD9 : va_D A (WX h g ca (u2 (u2 iv 3 3 n23) 3 4 n24) lv (u2 (u2 fa 1 6 n17) 30 2 n2) (u2 (u2 la 30 0 n3) 30 1 n4)) := hD
            exact W.iret (v := r22) hx hb hr (fun t ht9 hW => ⟨⟨r22, ((u2 (u2 iv 3 3 n23) 3 4 n24), lv, (u2 (u2 fa 1 6 n17) 30 2 n2), (u2 (u2 la 30 0 n3) 30 1 n4)), rfl, ⟨n17, n2, n3, n4, n23, n24, hn17, (show inb (0, 2) n23 from ⟨by omega, by omega⟩), (show inb (0, 2) n24 from ⟨by omega, by omega⟩), (show WuR (fun q v => FoX (iv 1 7).toInt (fa 1 0) (fa 1 1) (fa 1 2) (fa 1 3) q (b).toInt v) (nX (fa 10 0) (a).toInt (b).toInt 0 ((iv 10 1).toInt).toNat).toInt (nX (fa 10 0) (a).toInt (b).toInt 1 ((iv 10 1).toInt).toNat).toInt (nX (fa 10 0) (a).toInt (b).toInt 2 ((iv 10 1).toInt).toNat).toInt (fun pt => difL (sX (fa 10 0) (a).toInt (b).toInt 0 4 ((iv 10 1).toInt).toNat) (sX (fa 10 0) (a).toInt (b).toInt 0 3 ((iv 10 1).toInt).toNat) (sX (fa 10 0) (a).toInt (b).toInt 1 4 ((iv 10 1).toInt).toNat) (sX (fa 10 0) (a).toInt (b).toInt 1 3 ((iv 10 1).toInt).toNat) pt) (r22 : Int32).toInt from (by have hd9 := xr18_0; rw [ga0, gb0, ga1, gb1] at hd9; exact ⟨_, (show FoX (iv 1 7).toInt (fa 1 0) (fa 1 1) (fa 1 2) (fa 1 3) 1 b.toInt (r5 : Int32).toInt from xr5_0), Or.inr ⟨by omega, _, (show FoX (iv 1 7).toInt (fa 1 0) (fa 1 1) (fa 1 2) (fa 1 3) 3 b.toInt (r9 : Int32).toInt from xr9_0), Or.inr ⟨by omega, Or.inr ⟨by omega, r16, (show FoX (iv 1 7).toInt (fa 1 0) (fa 1 1) (fa 1 2) (fa 1 3) 2 b.toInt (r16 : Int32).toInt from xr16_0), Or.inr ⟨(hd9.resolve_right (fun q => by omega)).2, Or.inr ⟨by omega, by omega⟩⟩⟩⟩⟩⟩)), ⟨by omega, by omega⟩, rfl⟩, by rw [ht9]; exact hP9, hD9⟩, hS.F ht9⟩) hS.2.2 dX3_weighUp_128
          · have fc21 := z_nle (rfl : (r5).toInt = _) (rfl : (v20).toInt = _) c21
            refine lv_iconst (v := 2) hx hb dX3_weighUp_118 (by decide) ?_
            refine lv_goto (tgt := 128) hx hb dX3_weighUp_119 (by decide) ?_
            have hP9 : va_P (dC, dI) classes (WX h g ca (u2 (u2 iv 3 3 (iv 3 3)) 3 4 (iv 3 4)) lv (u2 (u2 fa 1 6 n17) 30 2 n2) (u2 (u2 la 30 0 n3) 30 1 n4)) H := hP
            have hD9 : va_D A (WX h g ca (u2 (u2 iv 3 3 (iv 3 3)) 3 4 (iv 3 4)) lv (u2 (u2 fa 1 6 n17) 30 2 n2) (u2 (u2 la 30 0 n3) 30 1 n4)) := hD
            exact W.iret (v := 2) hx hb hr (fun t ht9 hW => ⟨⟨2, ((u2 (u2 iv 3 3 (iv 3 3)) 3 4 (iv 3 4)), lv, (u2 (u2 fa 1 6 n17) 30 2 n2), (u2 (u2 la 30 0 n3) 30 1 n4)), rfl, ⟨n17, n2, n3, n4, (iv 3 3), (iv 3 4), hn17, (hI.1 3 3), (hI.1 3 4), (show WuR (fun q v => FoX (iv 1 7).toInt (fa 1 0) (fa 1 1) (fa 1 2) (fa 1 3) q (b).toInt v) (nX (fa 10 0) (a).toInt (b).toInt 0 ((iv 10 1).toInt).toNat).toInt (nX (fa 10 0) (a).toInt (b).toInt 1 ((iv 10 1).toInt).toNat).toInt (nX (fa 10 0) (a).toInt (b).toInt 2 ((iv 10 1).toInt).toNat).toInt (fun pt => difL (sX (fa 10 0) (a).toInt (b).toInt 0 4 ((iv 10 1).toInt).toNat) (sX (fa 10 0) (a).toInt (b).toInt 0 3 ((iv 10 1).toInt).toNat) (sX (fa 10 0) (a).toInt (b).toInt 1 4 ((iv 10 1).toInt).toNat) (sX (fa 10 0) (a).toInt (b).toInt 1 3 ((iv 10 1).toInt).toNat) pt) (2 : Int32).toInt from (by have hd9 := xr18_0; rw [ga0, gb0, ga1, gb1] at hd9; exact ⟨_, (show FoX (iv 1 7).toInt (fa 1 0) (fa 1 1) (fa 1 2) (fa 1 3) 1 b.toInt (r5 : Int32).toInt from xr5_0), Or.inr ⟨by omega, _, (show FoX (iv 1 7).toInt (fa 1 0) (fa 1 1) (fa 1 2) (fa 1 3) 3 b.toInt (r9 : Int32).toInt from xr9_0), Or.inr ⟨by omega, Or.inr ⟨by omega, r16, (show FoX (iv 1 7).toInt (fa 1 0) (fa 1 1) (fa 1 2) (fa 1 3) 2 b.toInt (r16 : Int32).toInt from xr16_0), Or.inr ⟨(hd9.resolve_right (fun q => by omega)).2, Or.inl ⟨by omega, by omega⟩⟩⟩⟩⟩⟩)), ⟨by decide, by decide⟩, rfl⟩, by rw [ht9]; exact hP9, hD9⟩, hS.F ht9⟩) hS.2.2 dX3_weighUp_128
        · have fc19 := z_eq (rfl : (r18).toInt = _) (by decide : (0 : Int32).toInt = 0) c19
          refine lv_aload_n hx hb dX3_weighUp_98 rfl (lv_at hl 2 rfl) ?_
          refine lv_iload hx hb dX3_weighUp_99 (lv_at hl 0 rfl) ?_
          have hFc := free_all hD hS hA
          refine va_calli (va_runV (As := [.int r14]) (rest := []) ⟨hx, hb, hml, hown, ht⟩ (c_X3_settleByTwo l dC dI H.size h g ca iv lv (u2 (u2 fa 30 2 n2) 1 6 n17) (u2 (u2 la 30 0 n3) 30 1 n4) (IX_a (c := 1) (k := 6) (IX_a (c := 30) (k := 2) hI hn2) hn17) r14) (kV 1 ht m_634 m_636 m_10 m_83 m_637 rfl rfl hd_X3_settleByTwo_v ⟨Nat.le_of_ble_eq_true rfl, Nat.le_of_ble_eq_true rfl⟩) (vW hP hK hD (rX_3 hK hP)) rfl rfl hl.1 rfl (lv_room (Nat.le_of_ble_eq_true rfl)) dX3_weighUp_101 ⟨Nat.le_of_ble_eq_true rfl, Nat.le_of_ble_eq_true rfl⟩) hS (fun q _ h => hFc q h) hFc (fun r25 u t H1 locs ht9 hvm hr25 hB hz1 hk1 hS => ?_)
          obtain ⟨n26, n27, hn26, hn27, hr25, rfl⟩ := hr25
          have hn26 : 0 ≤ n26.toInt ∧ n26.toInt ≤ 2 := hn26
          have hn27 : 0 ≤ n27.toInt ∧ n27.toInt ≤ 2 := hn27
          obtain ⟨hP, hD⟩ := hB
          rw [ht9] at hP
          generalize H1 = H at hP hS ⊢
          have hP : va_P (dC, dI) classes (WX h g ca (u2 (u2 iv 3 3 n26) 3 4 n27) lv (u2 (u2 fa 30 2 n2) 1 6 n17) (u2 (u2 la 30 0 n3) 30 1 n4)) H := hP
          have hD : va_D A (WX h g ca (u2 (u2 iv 3 3 n26) 3 4 n27) lv (u2 (u2 fa 30 2 n2) 1 6 n17) (u2 (u2 la 30 0 n3) 30 1 n4)) := (show va_D _ (WX h g ca (u2 (u2 iv 3 3 n26) 3 4 n27) lv (u2 (u2 fa 30 2 n2) 1 6 n17) (u2 (u2 la 30 0 n3) 30 1 n4)) from hD).weaken (fun _ _ _ h => hFc _ h)
          have hP9 : va_P (dC, dI) classes (WX h g ca (u2 (u2 iv 3 3 n26) 3 4 n27) lv (u2 (u2 fa 1 6 n17) 30 2 n2) (u2 (u2 la 30 0 n3) 30 1 n4)) H := hP
          have hD9 : va_D A (WX h g ca (u2 (u2 iv 3 3 n26) 3 4 n27) lv (u2 (u2 fa 1 6 n17) 30 2 n2) (u2 (u2 la 30 0 n3) 30 1 n4)) := hD
          exact W.iret (v := r25) hx hb hr (fun t ht9 hW => ⟨⟨r25, ((u2 (u2 iv 3 3 n26) 3 4 n27), lv, (u2 (u2 fa 1 6 n17) 30 2 n2), (u2 (u2 la 30 0 n3) 30 1 n4)), rfl, ⟨n17, n2, n3, n4, n26, n27, hn17, (show inb (0, 2) n26 from ⟨by omega, by omega⟩), (show inb (0, 2) n27 from ⟨by omega, by omega⟩), (show WuR (fun q v => FoX (iv 1 7).toInt (fa 1 0) (fa 1 1) (fa 1 2) (fa 1 3) q (b).toInt v) (nX (fa 10 0) (a).toInt (b).toInt 0 ((iv 10 1).toInt).toNat).toInt (nX (fa 10 0) (a).toInt (b).toInt 1 ((iv 10 1).toInt).toNat).toInt (nX (fa 10 0) (a).toInt (b).toInt 2 ((iv 10 1).toInt).toNat).toInt (fun pt => difL (sX (fa 10 0) (a).toInt (b).toInt 0 4 ((iv 10 1).toInt).toNat) (sX (fa 10 0) (a).toInt (b).toInt 0 3 ((iv 10 1).toInt).toNat) (sX (fa 10 0) (a).toInt (b).toInt 1 4 ((iv 10 1).toInt).toNat) (sX (fa 10 0) (a).toInt (b).toInt 1 3 ((iv 10 1).toInt).toNat) pt) (r25 : Int32).toInt from (by have hd9 := xr18_0; rw [ga0, gb0, ga1, gb1] at hd9; exact ⟨_, (show FoX (iv 1 7).toInt (fa 1 0) (fa 1 1) (fa 1 2) (fa 1 3) 1 b.toInt (r5 : Int32).toInt from xr5_0), Or.inr ⟨by omega, _, (show FoX (iv 1 7).toInt (fa 1 0) (fa 1 1) (fa 1 2) (fa 1 3) 3 b.toInt (r9 : Int32).toInt from xr9_0), Or.inr ⟨by omega, Or.inr ⟨by omega, r16, (show FoX (iv 1 7).toInt (fa 1 0) (fa 1 1) (fa 1 2) (fa 1 3) 2 b.toInt (r16 : Int32).toInt from xr16_0), Or.inl ⟨(hd9.resolve_left (fun q => by omega)).2, by omega⟩⟩⟩⟩⟩)), ⟨by omega, by omega⟩, rfl⟩, by rw [ht9]; exact hP9, hD9⟩, hS.F ht9⟩) hS.2.2 dX3_weighUp_104
      · have fc13 := z_nle (rfl : (r5).toInt = _) (rfl : (v12).toInt = _) c13
        refine lv_iconst (v := 0) hx hb dX3_weighUp_64 (by decide) ?_
        have : (0 : Int32).toInt = 0 := (by decide)
        have hP9 : va_P (dC, dI) classes (WX h g ca (u2 (u2 iv 3 3 (iv 3 3)) 3 4 (iv 3 4)) lv (u2 (u2 fa 1 6 n10) 30 2 n2) (u2 (u2 la 30 0 n3) 30 1 n4)) H := hP
        have hD9 : va_D A (WX h g ca (u2 (u2 iv 3 3 (iv 3 3)) 3 4 (iv 3 4)) lv (u2 (u2 fa 1 6 n10) 30 2 n2) (u2 (u2 la 30 0 n3) 30 1 n4)) := hD
        exact W.iret (v := 0) hx hb hr (fun t ht9 hW => ⟨⟨0, ((u2 (u2 iv 3 3 (iv 3 3)) 3 4 (iv 3 4)), lv, (u2 (u2 fa 1 6 n10) 30 2 n2), (u2 (u2 la 30 0 n3) 30 1 n4)), rfl, ⟨n10, n2, n3, n4, (iv 3 3), (iv 3 4), hn10, (hI.1 3 3), (hI.1 3 4), (show WuR (fun q v => FoX (iv 1 7).toInt (fa 1 0) (fa 1 1) (fa 1 2) (fa 1 3) q (b).toInt v) (nX (fa 10 0) (a).toInt (b).toInt 0 ((iv 10 1).toInt).toNat).toInt (nX (fa 10 0) (a).toInt (b).toInt 1 ((iv 10 1).toInt).toNat).toInt (nX (fa 10 0) (a).toInt (b).toInt 2 ((iv 10 1).toInt).toNat).toInt (fun pt => difL (sX (fa 10 0) (a).toInt (b).toInt 0 4 ((iv 10 1).toInt).toNat) (sX (fa 10 0) (a).toInt (b).toInt 0 3 ((iv 10 1).toInt).toNat) (sX (fa 10 0) (a).toInt (b).toInt 1 4 ((iv 10 1).toInt).toNat) (sX (fa 10 0) (a).toInt (b).toInt 1 3 ((iv 10 1).toInt).toNat) pt) (0 : Int32).toInt from ⟨_, (show FoX (iv 1 7).toInt (fa 1 0) (fa 1 1) (fa 1 2) (fa 1 3) 1 b.toInt (r5 : Int32).toInt from xr5_0), Or.inr ⟨by omega, _, (show FoX (iv 1 7).toInt (fa 1 0) (fa 1 1) (fa 1 2) (fa 1 3) 3 b.toInt (r9 : Int32).toInt from xr9_0), Or.inr ⟨by omega, Or.inl ⟨by omega, by omega⟩⟩⟩⟩), ⟨by decide, by decide⟩, rfl⟩, by rw [ht9]; exact hP9, hD9⟩, hS.F ht9⟩) hS.2.2 dX3_weighUp_65
    · have fc11 := z_eq (rfl : (r9).toInt = _) (by decide : (1 : Int32).toInt = 1) c11
      refine lv_aload_n hx hb dX3_weighUp_44 rfl (lv_at hl 1 rfl) ?_
      refine lv_iconst (v := 0) hx hb dX3_weighUp_45 (by decide) ?_
      refine lv_iconst (v := 0) hx hb dX3_weighUp_46 (by decide) ?_
      have hFc := free_all hD hS hA
      refine va_calli (va_runV (As := [.int 0, .int 0]) (rest := []) ⟨hx, hb, hml, hown, ht⟩ (c_X3_settle l dC dI H.size h g ca iv lv (u2 (u2 fa 30 2 n2) 1 6 n10) (u2 (u2 la 30 0 n3) 30 1 n4) (IX_a (c := 1) (k := 6) (IX_a (c := 30) (k := 2) hI hn2) hn10) 0 0 ⟨by decide, by decide⟩ ⟨by decide, by decide⟩) (kV 2 ht m_622 m_624 m_9 m_83 m_625 rfl rfl hd_X3_settle_v ⟨Nat.le_of_ble_eq_true rfl, Nat.le_of_ble_eq_true rfl⟩) (vW hP hK hD (rX_3 hK hP)) rfl rfl hl.1 rfl (lv_room (Nat.le_of_ble_eq_true rfl)) dX3_weighUp_47 ⟨Nat.le_of_ble_eq_true rfl, Nat.le_of_ble_eq_true rfl⟩) hS (fun q _ h => hFc q h) hFc (fun r28 u t H1 locs ht9 hvm hr28 hB hz1 hk1 hS => ?_)
      obtain ⟨n29, n30, hn29, hn30, hr28, rfl⟩ := hr28
      have hn29 : 0 ≤ n29.toInt ∧ n29.toInt ≤ 2 := hn29
      have hn30 : 0 ≤ n30.toInt ∧ n30.toInt ≤ 2 := hn30
      obtain ⟨hP, hD⟩ := hB
      rw [ht9] at hP
      generalize H1 = H at hP hS ⊢
      have hP : va_P (dC, dI) classes (WX h g ca (u2 (u2 iv 3 3 n29) 3 4 n30) lv (u2 (u2 fa 30 2 n2) 1 6 n10) (u2 (u2 la 30 0 n3) 30 1 n4)) H := hP
      have hD : va_D A (WX h g ca (u2 (u2 iv 3 3 n29) 3 4 n30) lv (u2 (u2 fa 30 2 n2) 1 6 n10) (u2 (u2 la 30 0 n3) 30 1 n4)) := (show va_D _ (WX h g ca (u2 (u2 iv 3 3 n29) 3 4 n30) lv (u2 (u2 fa 30 2 n2) 1 6 n10) (u2 (u2 la 30 0 n3) 30 1 n4)) from hD).weaken (fun _ _ _ h => hFc _ h)
      have hP9 : va_P (dC, dI) classes (WX h g ca (u2 (u2 iv 3 3 n29) 3 4 n30) lv (u2 (u2 fa 1 6 n10) 30 2 n2) (u2 (u2 la 30 0 n3) 30 1 n4)) H := hP
      have hD9 : va_D A (WX h g ca (u2 (u2 iv 3 3 n29) 3 4 n30) lv (u2 (u2 fa 1 6 n10) 30 2 n2) (u2 (u2 la 30 0 n3) 30 1 n4)) := hD
      exact W.iret (v := r28) hx hb hr (fun t ht9 hW => ⟨⟨r28, ((u2 (u2 iv 3 3 n29) 3 4 n30), lv, (u2 (u2 fa 1 6 n10) 30 2 n2), (u2 (u2 la 30 0 n3) 30 1 n4)), rfl, ⟨n10, n2, n3, n4, n29, n30, hn10, (show inb (0, 2) n29 from ⟨by omega, by omega⟩), (show inb (0, 2) n30 from ⟨by omega, by omega⟩), (show WuR (fun q v => FoX (iv 1 7).toInt (fa 1 0) (fa 1 1) (fa 1 2) (fa 1 3) q (b).toInt v) (nX (fa 10 0) (a).toInt (b).toInt 0 ((iv 10 1).toInt).toNat).toInt (nX (fa 10 0) (a).toInt (b).toInt 1 ((iv 10 1).toInt).toNat).toInt (nX (fa 10 0) (a).toInt (b).toInt 2 ((iv 10 1).toInt).toNat).toInt (fun pt => difL (sX (fa 10 0) (a).toInt (b).toInt 0 4 ((iv 10 1).toInt).toNat) (sX (fa 10 0) (a).toInt (b).toInt 0 3 ((iv 10 1).toInt).toNat) (sX (fa 10 0) (a).toInt (b).toInt 1 4 ((iv 10 1).toInt).toNat) (sX (fa 10 0) (a).toInt (b).toInt 1 3 ((iv 10 1).toInt).toNat) pt) (r28 : Int32).toInt from ⟨_, (show FoX (iv 1 7).toInt (fa 1 0) (fa 1 1) (fa 1 2) (fa 1 3) 1 b.toInt (r5 : Int32).toInt from xr5_0), Or.inr ⟨by omega, _, (show FoX (iv 1 7).toInt (fa 1 0) (fa 1 1) (fa 1 2) (fa 1 3) 3 b.toInt (r9 : Int32).toInt from xr9_0), Or.inl ⟨by omega, by omega⟩⟩⟩), ⟨by omega, by omega⟩, rfl⟩, by rw [ht9]; exact hP9, hD9⟩, hS.F ht9⟩) hS.2.2 dX3_weighUp_50
  · have fc8 := z_nle (rfl : (r5).toInt = _) (rfl : (v7).toInt = _) c8
    refine lv_iconst (v := 0) hx hb dX3_weighUp_29 (by decide) ?_
    have : (0 : Int32).toInt = 0 := (by decide)
    have hP9 : va_P (dC, dI) classes (WX h g ca (u2 (u2 iv 3 3 (iv 3 3)) 3 4 (iv 3 4)) lv (u2 (u2 fa 1 6 n6) 30 2 n2) (u2 (u2 la 30 0 n3) 30 1 n4)) H := hP
    have hD9 : va_D A (WX h g ca (u2 (u2 iv 3 3 (iv 3 3)) 3 4 (iv 3 4)) lv (u2 (u2 fa 1 6 n6) 30 2 n2) (u2 (u2 la 30 0 n3) 30 1 n4)) := hD
    exact W.iret (v := 0) hx hb hr (fun t ht9 hW => ⟨⟨0, ((u2 (u2 iv 3 3 (iv 3 3)) 3 4 (iv 3 4)), lv, (u2 (u2 fa 1 6 n6) 30 2 n2), (u2 (u2 la 30 0 n3) 30 1 n4)), rfl, ⟨n6, n2, n3, n4, (iv 3 3), (iv 3 4), hn6, (hI.1 3 3), (hI.1 3 4), (show WuR (fun q v => FoX (iv 1 7).toInt (fa 1 0) (fa 1 1) (fa 1 2) (fa 1 3) q (b).toInt v) (nX (fa 10 0) (a).toInt (b).toInt 0 ((iv 10 1).toInt).toNat).toInt (nX (fa 10 0) (a).toInt (b).toInt 1 ((iv 10 1).toInt).toNat).toInt (nX (fa 10 0) (a).toInt (b).toInt 2 ((iv 10 1).toInt).toNat).toInt (fun pt => difL (sX (fa 10 0) (a).toInt (b).toInt 0 4 ((iv 10 1).toInt).toNat) (sX (fa 10 0) (a).toInt (b).toInt 0 3 ((iv 10 1).toInt).toNat) (sX (fa 10 0) (a).toInt (b).toInt 1 4 ((iv 10 1).toInt).toNat) (sX (fa 10 0) (a).toInt (b).toInt 1 3 ((iv 10 1).toInt).toNat) pt) (0 : Int32).toInt from ⟨_, (show FoX (iv 1 7).toInt (fa 1 0) (fa 1 1) (fa 1 2) (fa 1 3) 1 b.toInt (r5 : Int32).toInt from xr5_0), Or.inl ⟨by omega, by omega⟩⟩), ⟨by decide, by decide⟩, rfl⟩, by rw [ht9]; exact hP9, hD9⟩, hS.F ht9⟩) hS.2.2 dX3_weighUp_30
set_option maxHeartbeats 4000000 in
set_option maxRecDepth 100000 in
/-- X11_state -/
theorem c_X11_state_f (l : Launch) (dC : Nat → ClassId) (dI : Nat → Nat → Nat) (sz : Nat) (ak av : Nat → Nat) (h : Nat) (g : Nat → Nat → Nat) (ca : Nat → Nat → ClassId) (iv : Nat → Nat → Int32) (lv : Nat → Nat → Int64) (fa : Nat → Nat → Nat → Int32) (la : Nat → Nat → Nat → Int64) (hI : IX iv fa) (a : Int32) (b : Int32) (hJB : ∀ j : Nat, (j : Int) < (iv 1 7).toInt → 0 ≤ (fa 1 0 j).toInt) : Met l yX11_state (wc yX11_state cX11_state 3 (some .int)) ({ frames := 5, cells := 0, slots := 0, locals := 117 } : Room) (pWZ ak av (dC, dI) classes (WX h g ca iv lv fa la) (TX ca) sz [.ref h, .int a, .int b]) (va_Qi (fun r (u : SS) => ∃ (na_1_6 : Nat → Int32) (na_30_2 : Nat → Int32) (nb_30_0 : Nat → Int64) (nb_30_1 : Nat → Int64) (ni_3_3 : Int32) (ni_3_4 : Int32), (∀ j, inb (bA 1 6 j) (na_1_6 j)) ∧ inb (bI 3 3) ni_3_3 ∧ inb (bI 3 4) ni_3_4 ∧ (((r.toInt = -100001 ∧ ¬ (0 ≤ a.toInt ∧ a.toInt < (iv 0 7).toInt)) ∨ (r.toInt = -100002 ∧ (0 ≤ a.toInt ∧ a.toInt < (iv 0 7).toInt) ∧ ¬ (0 ≤ b.toInt ∧ b.toInt ≤ (iv 11 10).toInt)) ∨ ((0 ≤ a.toInt ∧ a.toInt < (iv 0 7).toInt) ∧ (0 ≤ b.toInt ∧ b.toInt ≤ (iv 11 10).toInt) ∧ WuR (fun q v => FoX (iv 1 7).toInt (fa 1 0) (fa 1 1) (fa 1 2) (fa 1 3) q b.toInt v) (nX (fa 10 0) a.toInt b.toInt 0 ((iv 10 1).toInt).toNat).toInt (nX (fa 10 0) a.toInt b.toInt 1 ((iv 10 1).toInt).toNat).toInt (nX (fa 10 0) a.toInt b.toInt 2 ((iv 10 1).toInt).toNat).toInt (fun pt => difL (sX (fa 10 0) a.toInt b.toInt 0 4 ((iv 10 1).toInt).toNat) (sX (fa 10 0) a.toInt b.toInt 0 3 ((iv 10 1).toInt).toNat) (sX (fa 10 0) a.toInt b.toInt 1 4 ((iv 10 1).toInt).toNat) (sX (fa 10 0) a.toInt b.toInt 1 3 ((iv 10 1).toInt).toNat) pt) r.toInt))) ∧ ((-100002) ≤ r.toInt ∧ r.toInt ≤ 2) ∧ u = ((u2 (u2 iv 3 3 ni_3_3) 3 4 ni_3_4), lv, (u2 (u2 fa 1 6 na_1_6) 30 2 na_30_2), (u2 (u2 la 30 0 nb_30_0) 30 1 nb_30_1))) (bX (dC, dI) h g ca (va_A (WX h g ca iv lv fa la) sz)) (va_A (WX h g ca iv lv fa la) sz)) 0 0 (va_A (WX h g ca iv lv fa la) sz) := by
  refine Met.ofW (cc := cX11_state) (maxL := 3) (ret := (some .int)) (by decide) rfl ?_
  intro p e s m args below meth c s₁ B hml hv
  obtain ⟨rfl, hsz, hP, hK, hD0, hZ⟩ := hv
  have hx := B.exec
  have hb := B.bytes
  have hr := B.returns
  have ht := tb_tl (atoms_spec (ws := wc yX11_state cX11_state 3 (some .int)) B.pre)
  have hown : s.vm.findClass RX11 = some m.cls := findClass_of_methodNamed B.named
  have hlocks := B.notSynchronized
  subst hsz
  have hD := hD0.self (sz := s.heap.size)
  generalize hAe : va_A (WX h g ca iv lv fa la) s.heap.size = A at hD hZ ⊢
  have hA : ∀ q : Nat, s.heap.size ≤ q → A q := fun q h => by rw [← hAe]; exact Or.inr h
  have hS : va_S A s.heap s.heap [] := va_S.rf
  have hl := lv_entry [.ref h, .int a, .int b] (n := 3) (Nat.le_of_ble_eq_true rfl)
  rw [lg_entry_eq]
  generalize (lg_sl [.ref h, .int a, .int b] ++ List.replicate (3 - (lg_sl [.ref h, .int a, .int b]).length) Slot.unset).toArray = ls at hl ⊢
  have hl : lv_has ls 3 [(0, .ref h), (1, .int a), (2, .int b)] := hl
  refine lv_aload_n hx hb dX11_state_0 rfl (lv_at hl 0 rfl) ?_
  refine gX_11_2 hx hb ht hown hK hP m_417 dX11_state_1 ?_
  refine lv_iload_n hx hb dX11_state_4 rfl (lv_at hl 1 rfl) ?_
  refine vp_callSi (W.runV (As := [.int a]) (rest := []) ⟨hx, hb, hml, hown, ht⟩ (c_X0_has l dC dI h g ca iv lv fa la hI a) (kV 1 ht m_472 m_473 m_474 m_80 m_475 rfl rfl hd_X0_has_v ⟨Nat.le_of_ble_eq_true rfl, Nat.le_of_ble_eq_true rfl⟩) (vR hP hK (rX_0 hK hP)) rfl rfl hl.1 rfl (lv_room (Nat.le_of_ble_eq_true rfl)) dX11_state_5 ⟨Nat.le_of_ble_eq_true rfl, Nat.le_of_ble_eq_true rfl⟩) (fun r1 hr1 => ?_)
  rcases hr1 with ⟨rfl, fr1⟩ | ⟨rfl, fr1⟩
  · skip
    have i_0_7 : 0 ≤ (iv 0 7).toInt ∧ (iv 0 7).toInt ≤ 10 := hI.1 0 7
    have fr1 : (0 ≤ (a : Int32).toInt ∧ (a : Int32).toInt < ((iv 0 7) : Int32).toInt) := fr1
    refine lv_if_ne (tgt := 14) hx hb dX11_state_8 (by decide) (fun c2 => ?_) (fun c2 => ?_)
    · skip
      refine lv_iload_n hx hb dX11_state_14 rfl (lv_at hl 2 rfl) ?_
      refine lv_iconst (v := 0) hx hb dX11_state_15 (by decide) ?_
      refine lv_aload_n hx hb dX11_state_16 rfl (lv_at hl 0 rfl) ?_
      have i_11_10 : 0 ≤ (iv 11 10).toInt ∧ (iv 11 10).toInt ≤ 3000 := hI.1 11 10
      refine gX_11_10 hx hb ht hown hK hP m_425 (v := (iv 11 10)) rfl dX11_state_17 ?_
      refine vp_callSi (W.runS (As := [.int b, .int 0, .int (iv 11 10)]) (rest := []) ⟨hx, hb, hml, hown, ht⟩ (c_X11_within l dC dI b 0 (iv 11 10) (b.toInt) (0) ((iv 11 10).toInt) (rfl : (b).toInt = _) (by decide : (0 : Int32).toInt = 0) (rfl : ((iv 11 10)).toInt = _)) (kS 3 ht m_453 m_454 m_77 m_455 rfl rfl hd_X11_within_v ⟨Nat.le_of_ble_eq_true rfl, Nat.le_of_ble_eq_true rfl⟩) (sR noP (hK.sub (tys' := []) [] rfl)) rfl rfl hl.1 rfl (lv_room (Nat.le_of_ble_eq_true rfl)) dX11_state_20 ⟨Nat.le_of_ble_eq_true rfl, Nat.le_of_ble_eq_true rfl⟩) (fun r3 hr3 => ?_)
      rcases hr3 with ⟨rfl, fr3⟩ | ⟨rfl, fr3⟩
      · skip
        refine lv_if_eq (tgt := 38) hx hb dX11_state_23 (by decide) (fun c4 => ?_) (fun c4 => ?_)
        · exact absurd c4 (by decide)
        · skip
          refine lv_aload_n hx hb dX11_state_26 rfl (lv_at hl 0 rfl) ?_
          refine gX_11_5 hx hb ht hown hK hP m_420 dX11_state_27 ?_
          refine lv_iload_n hx hb dX11_state_30 rfl (lv_at hl 1 rfl) ?_
          refine lv_iload_n hx hb dX11_state_31 rfl (lv_at hl 2 rfl) ?_
          have i_1_7 : 0 ≤ (iv 1 7).toInt ∧ (iv 1 7).toInt ≤ 8 := hI.1 1 7
          have i_10_1 : 0 ≤ (iv 10 1).toInt ∧ (iv 10 1).toInt ≤ 60 := hI.1 10 1
          have hFc := free_all hD hS hA
          refine va_calli (va_runV (As := [.int a, .int b]) (rest := []) ⟨hx, hb, hml, hown, ht⟩ (c_X3_weighUp_f l dC dI s.heap.size ak av h g ca iv lv fa la hI a b hJB) (kV 2 ht m_595 m_596 m_597 m_83 m_598 rfl rfl hd_X3_weighUp_v ⟨Nat.le_of_ble_eq_true rfl, Nat.le_of_ble_eq_true rfl⟩) (vWZ hP hK hD ((hZ.kept hS.2.1).narrow (free_all hD hS hA)) (rX_3 hK hP)) rfl rfl hl.1 rfl (lv_room (Nat.le_of_ble_eq_true rfl)) dX11_state_32 ⟨Nat.le_of_ble_eq_true rfl, Nat.le_of_ble_eq_true rfl⟩) hS (fun q _ h => hFc q h) hFc (fun r5 u t H1 locs ht9 hvm hr5 hB hz1 hk1 hS => ?_)
          obtain ⟨n6, n7, n8, n9, n10, n11, hn6, hn10, hn11, xr5_0, hr5, rfl⟩ := hr5
          have hn7 : ∀ j, inb (bA 30 2 j) (n7 j) := fun j => full_i _
          have hn10 : 0 ≤ n10.toInt ∧ n10.toInt ≤ 2 := hn10
          have hn11 : 0 ≤ n11.toInt ∧ n11.toInt ≤ 2 := hn11
          obtain ⟨hP, hD⟩ := hB
          rw [ht9] at hP
          generalize H1 = H at hP hS ⊢
          have hP : va_P (dC, dI) classes (WX h g ca (u2 (u2 iv 3 3 n10) 3 4 n11) lv (u2 (u2 fa 1 6 n6) 30 2 n7) (u2 (u2 la 30 0 n8) 30 1 n9)) H := hP
          have hD : va_D A (WX h g ca (u2 (u2 iv 3 3 n10) 3 4 n11) lv (u2 (u2 fa 1 6 n6) 30 2 n7) (u2 (u2 la 30 0 n8) 30 1 n9)) := (show va_D _ (WX h g ca (u2 (u2 iv 3 3 n10) 3 4 n11) lv (u2 (u2 fa 1 6 n6) 30 2 n7) (u2 (u2 la 30 0 n8) 30 1 n9)) from hD).weaken (fun _ _ _ h => hFc _ h)
          have xr5_0 : WuR (fun q v => FoX ((iv 1 7) : Int32).toInt (fa 1 0) (fa 1 1) (fa 1 2) (fa 1 3) q (b : Int32).toInt v) (nX (fa 10 0) (a : Int32).toInt (b : Int32).toInt 0 (((iv 10 1) : Int32).toInt).toNat).toInt (nX (fa 10 0) (a : Int32).toInt (b : Int32).toInt 1 (((iv 10 1) : Int32).toInt).toNat).toInt (nX (fa 10 0) (a : Int32).toInt (b : Int32).toInt 2 (((iv 10 1) : Int32).toInt).toNat).toInt (fun pt => difL (sX (fa 10 0) (a : Int32).toInt (b : Int32).toInt 0 4 (((iv 10 1) : Int32).toInt).toNat) (sX (fa 10 0) (a : Int32).toInt (b : Int32).toInt 0 3 (((iv 10 1) : Int32).toInt).toNat) (sX (fa 10 0) (a : Int32).toInt (b : Int32).toInt 1 4 (((iv 10 1) : Int32).toInt).toNat) (sX (fa 10 0) (a : Int32).toInt (b : Int32).toInt 1 3 (((iv 10 1) : Int32).toInt).toNat) pt) (r5 : Int32).toInt := xr5_0
          refine lv_goto (tgt := 40) hx hb dX11_state_35 (by decide) ?_
          have hP9 : va_P (dC, dI) classes (WX h g ca (u2 (u2 iv 3 3 n10) 3 4 n11) lv (u2 (u2 fa 1 6 n6) 30 2 n7) (u2 (u2 la 30 0 n8) 30 1 n9)) H := hP
          have hD9 : va_D A (WX h g ca (u2 (u2 iv 3 3 n10) 3 4 n11) lv (u2 (u2 fa 1 6 n6) 30 2 n7) (u2 (u2 la 30 0 n8) 30 1 n9)) := hD
          exact W.iret (v := r5) hx hb hr (fun t ht9 hW => ⟨⟨r5, ((u2 (u2 iv 3 3 n10) 3 4 n11), lv, (u2 (u2 fa 1 6 n6) 30 2 n7), (u2 (u2 la 30 0 n8) 30 1 n9)), rfl, ⟨n6, n7, n8, n9, n10, n11, hn6, (show inb (0, 2) n10 from ⟨by omega, by omega⟩), (show inb (0, 2) n11 from ⟨by omega, by omega⟩), (show (((r5 : Int32).toInt = -100001 ∧ ¬ (0 ≤ (a).toInt ∧ (a).toInt < (iv 0 7).toInt)) ∨ ((r5 : Int32).toInt = -100002 ∧ (0 ≤ (a).toInt ∧ (a).toInt < (iv 0 7).toInt) ∧ ¬ (0 ≤ (b).toInt ∧ (b).toInt ≤ (iv 11 10).toInt)) ∨ ((0 ≤ (a).toInt ∧ (a).toInt < (iv 0 7).toInt) ∧ (0 ≤ (b).toInt ∧ (b).toInt ≤ (iv 11 10).toInt) ∧ WuR (fun q v => FoX (iv 1 7).toInt (fa 1 0) (fa 1 1) (fa 1 2) (fa 1 3) q (b).toInt v) (nX (fa 10 0) (a).toInt (b).toInt 0 ((iv 10 1).toInt).toNat).toInt (nX (fa 10 0) (a).toInt (b).toInt 1 ((iv 10 1).toInt).toNat).toInt (nX (fa 10 0) (a).toInt (b).toInt 2 ((iv 10 1).toInt).toNat).toInt (fun pt => difL (sX (fa 10 0) (a).toInt (b).toInt 0 4 ((iv 10 1).toInt).toNat) (sX (fa 10 0) (a).toInt (b).toInt 0 3 ((iv 10 1).toInt).toNat) (sX (fa 10 0) (a).toInt (b).toInt 1 4 ((iv 10 1).toInt).toNat) (sX (fa 10 0) (a).toInt (b).toInt 1 3 ((iv 10 1).toInt).toNat) pt) (r5 : Int32).toInt)) from Or.inr (Or.inr ⟨⟨by omega, by omega⟩, ⟨by omega, by omega⟩, xr5_0⟩)), ⟨by omega, by omega⟩, rfl⟩, by rw [ht9]; exact hP9, hD9⟩, hS.F ht9⟩) hS.2.2 dX11_state_40
      · skip
        refine lv_if_eq (tgt := 38) hx hb dX11_state_23 (by decide) (fun c12 => ?_) (fun c12 => ?_)
        · skip
          refine lv_ldc hx hb hown (ht _ m_456) dX11_state_38 ?_
          have : ((-100002) : Int32).toInt = (-100002) := (by decide)
          have hP9 : va_P (dC, dI) classes (WX h g ca (u2 (u2 iv 3 3 (iv 3 3)) 3 4 (iv 3 4)) lv (u2 (u2 fa 1 6 (fa 1 6)) 30 2 (fa 30 2)) (u2 (u2 la 30 0 (la 30 0)) 30 1 (la 30 1))) s.heap := hP
          have hD9 : va_D A (WX h g ca (u2 (u2 iv 3 3 (iv 3 3)) 3 4 (iv 3 4)) lv (u2 (u2 fa 1 6 (fa 1 6)) 30 2 (fa 30 2)) (u2 (u2 la 30 0 (la 30 0)) 30 1 (la 30 1))) := hD
          exact W.iret (v := (-100002)) hx hb hr (fun t ht9 hW => ⟨⟨(-100002), ((u2 (u2 iv 3 3 (iv 3 3)) 3 4 (iv 3 4)), lv, (u2 (u2 fa 1 6 (fa 1 6)) 30 2 (fa 30 2)), (u2 (u2 la 30 0 (la 30 0)) 30 1 (la 30 1))), rfl, ⟨(fa 1 6), (fa 30 2), (la 30 0), (la 30 1), (iv 3 3), (iv 3 4), (hI.2 1 6), (hI.1 3 3), (hI.1 3 4), (show ((((-100002) : Int32).toInt = -100001 ∧ ¬ (0 ≤ (a).toInt ∧ (a).toInt < (iv 0 7).toInt)) ∨ (((-100002) : Int32).toInt = -100002 ∧ (0 ≤ (a).toInt ∧ (a).toInt < (iv 0 7).toInt) ∧ ¬ (0 ≤ (b).toInt ∧ (b).toInt ≤ (iv 11 10).toInt)) ∨ ((0 ≤ (a).toInt ∧ (a).toInt < (iv 0 7).toInt) ∧ (0 ≤ (b).toInt ∧ (b).toInt ≤ (iv 11 10).toInt) ∧ WuR (fun q v => FoX (iv 1 7).toInt (fa 1 0) (fa 1 1) (fa 1 2) (fa 1 3) q (b).toInt v) (nX (fa 10 0) (a).toInt (b).toInt 0 ((iv 10 1).toInt).toNat).toInt (nX (fa 10 0) (a).toInt (b).toInt 1 ((iv 10 1).toInt).toNat).toInt (nX (fa 10 0) (a).toInt (b).toInt 2 ((iv 10 1).toInt).toNat).toInt (fun pt => difL (sX (fa 10 0) (a).toInt (b).toInt 0 4 ((iv 10 1).toInt).toNat) (sX (fa 10 0) (a).toInt (b).toInt 0 3 ((iv 10 1).toInt).toNat) (sX (fa 10 0) (a).toInt (b).toInt 1 4 ((iv 10 1).toInt).toNat) (sX (fa 10 0) (a).toInt (b).toInt 1 3 ((iv 10 1).toInt).toNat) pt) ((-100002) : Int32).toInt)) from Or.inr (Or.inl ⟨by omega, ⟨by omega, by omega⟩, by omega⟩)), ⟨by decide, by decide⟩, rfl⟩, by rw [ht9]; exact hP9, hD9⟩, hS.F ht9⟩) hS.2.2 dX11_state_40
        · exact absurd rfl c12
    · exact absurd c2 (by decide)
  · skip
    have i_0_7 : 0 ≤ (iv 0 7).toInt ∧ (iv 0 7).toInt ≤ 10 := hI.1 0 7
    have fr1 : ¬ (0 ≤ (a : Int32).toInt ∧ (a : Int32).toInt < ((iv 0 7) : Int32).toInt) := fr1
    refine lv_if_ne (tgt := 14) hx hb dX11_state_8 (by decide) (fun c13 => ?_) (fun c13 => ?_)
    · exact absurd rfl c13
    · skip
      refine lv_ldc hx hb hown (ht _ m_476) dX11_state_11 ?_
      have : ((-100001) : Int32).toInt = (-100001) := (by decide)
      have hP9 : va_P (dC, dI) classes (WX h g ca (u2 (u2 iv 3 3 (iv 3 3)) 3 4 (iv 3 4)) lv (u2 (u2 fa 1 6 (fa 1 6)) 30 2 (fa 30 2)) (u2 (u2 la 30 0 (la 30 0)) 30 1 (la 30 1))) s.heap := hP
      have hD9 : va_D A (WX h g ca (u2 (u2 iv 3 3 (iv 3 3)) 3 4 (iv 3 4)) lv (u2 (u2 fa 1 6 (fa 1 6)) 30 2 (fa 30 2)) (u2 (u2 la 30 0 (la 30 0)) 30 1 (la 30 1))) := hD
      exact W.iret (v := (-100001)) hx hb hr (fun t ht9 hW => ⟨⟨(-100001), ((u2 (u2 iv 3 3 (iv 3 3)) 3 4 (iv 3 4)), lv, (u2 (u2 fa 1 6 (fa 1 6)) 30 2 (fa 30 2)), (u2 (u2 la 30 0 (la 30 0)) 30 1 (la 30 1))), rfl, ⟨(fa 1 6), (fa 30 2), (la 30 0), (la 30 1), (iv 3 3), (iv 3 4), (hI.2 1 6), (hI.1 3 3), (hI.1 3 4), (show ((((-100001) : Int32).toInt = -100001 ∧ ¬ (0 ≤ (a).toInt ∧ (a).toInt < (iv 0 7).toInt)) ∨ (((-100001) : Int32).toInt = -100002 ∧ (0 ≤ (a).toInt ∧ (a).toInt < (iv 0 7).toInt) ∧ ¬ (0 ≤ (b).toInt ∧ (b).toInt ≤ (iv 11 10).toInt)) ∨ ((0 ≤ (a).toInt ∧ (a).toInt < (iv 0 7).toInt) ∧ (0 ≤ (b).toInt ∧ (b).toInt ≤ (iv 11 10).toInt) ∧ WuR (fun q v => FoX (iv 1 7).toInt (fa 1 0) (fa 1 1) (fa 1 2) (fa 1 3) q (b).toInt v) (nX (fa 10 0) (a).toInt (b).toInt 0 ((iv 10 1).toInt).toNat).toInt (nX (fa 10 0) (a).toInt (b).toInt 1 ((iv 10 1).toInt).toNat).toInt (nX (fa 10 0) (a).toInt (b).toInt 2 ((iv 10 1).toInt).toNat).toInt (fun pt => difL (sX (fa 10 0) (a).toInt (b).toInt 0 4 ((iv 10 1).toInt).toNat) (sX (fa 10 0) (a).toInt (b).toInt 0 3 ((iv 10 1).toInt).toNat) (sX (fa 10 0) (a).toInt (b).toInt 1 4 ((iv 10 1).toInt).toNat) (sX (fa 10 0) (a).toInt (b).toInt 1 3 ((iv 10 1).toInt).toNat) pt) ((-100001) : Int32).toInt)) from Or.inl ⟨by omega, by omega⟩), ⟨by decide, by decide⟩, rfl⟩, by rw [ht9]; exact hP9, hD9⟩, hS.F ht9⟩) hS.2.2 dX11_state_13
