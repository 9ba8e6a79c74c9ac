/-! ===== la3 ===== -/
set_option maxHeartbeats 4000000 in
set_option maxRecDepth 100000 in
/-- X3_weighUp -/
theorem c_X3_weighUp_w (l : Launch) (dC : Nat → ClassId) (dI : Nat → Nat → Nat) (sz : Nat) (ak av : Nat → Nat) (h : Nat) (g : Nat → Nat → Nat) (ca : Nat → Nat → ClassId) (iv : Nat → Nat → Int32) (lv : Nat → Nat → Int64) (fa : Nat → Nat → Nat → Int32) (la : Nat → Nat → Nat → Int64) (hI : IX iv fa) (a : Int32) (b : Int32) (hJB : ∀ j : Nat, (j : Int) < (iv 1 7).toInt → 0 ≤ (fa 1 0 j).toInt) : Met l yX3_weighUp (wc yX3_weighUp cX3_weighUp 5 (some .int)) ({ frames := 4, cells := 0, slots := 0, locals := 93 } : Room) (pWZ ak av (dC, dI) classes (WX h g ca iv lv fa la) (TX ca) sz [.ref (g 11 5), .int a, .int b]) (va_Qi (fun r (u : SS) => ∃ (na_1_6 : Nat → Int32) (na_30_2 : Nat → Int32) (nb_30_0 : Nat → Int64) (nb_30_1 : Nat → Int64) (ni_3_3 : Int32) (ni_3_4 : Int32), (∀ j, inb (bA 1 6 j) (na_1_6 j)) ∧ inb (bI 3 3) ni_3_3 ∧ inb (bI 3 4) ni_3_4 ∧ (LwS (fun q v => FoX (iv 1 7).toInt (fa 1 0) (fa 1 1) (fa 1 2) (fa 1 3) q b.toInt v) (fa 10 0) a.toInt b.toInt ((iv 10 1).toInt).toNat nb_30_1 nb_30_0 na_30_2 (ni_3_3).toInt (ni_3_4).toInt r.toInt) ∧ (0 ≤ r.toInt ∧ r.toInt ≤ 2) ∧ u = ((u2 (u2 iv 3 3 ni_3_3) 3 4 ni_3_4), lv, (u2 (u2 fa 1 6 na_1_6) 30 2 na_30_2), (u2 (u2 la 30 0 nb_30_0) 30 1 nb_30_1))) (bX (dC, dI) h g ca (va_A (WX h g ca iv lv fa la) sz)) (va_A (WX h g ca iv lv fa la) sz)) 0 0 (va_A (WX h g ca iv lv fa la) sz) := by
  refine Met.ofW (cc := cX3_weighUp) (maxL := 5) (ret := (some .int)) (by decide) rfl ?_
  intro p e s m args below meth c s₁ B hml hv
  obtain ⟨rfl, hsz, hP, hK, hD0, hZ⟩ := hv
  have hx := B.exec
  have hb := B.bytes
  have hr := B.returns
  have ht := tb_tl (atoms_spec (ws := wc yX3_weighUp cX3_weighUp 5 (some .int)) B.pre)
  have hown : s.vm.findClass RX3 = some m.cls := findClass_of_methodNamed B.named
  have hlocks := B.notSynchronized
  subst hsz
  have hD := hD0.self (sz := s.heap.size)
  generalize hAe : va_A (WX h g ca iv lv fa la) s.heap.size = A at hD hZ ⊢
  have hA : ∀ q : Nat, s.heap.size ≤ q → A q := fun q h => by rw [← hAe]; exact Or.inr h
  have hS : va_S A s.heap s.heap [] := va_S.rf
  have hl := lv_entry [.ref (g 11 5), .int a, .int b] (n := 5) (Nat.le_of_ble_eq_true rfl)
  rw [lg_entry_eq]
  generalize (lg_sl [.ref (g 11 5), .int a, .int b] ++ List.replicate (5 - (lg_sl [.ref (g 11 5), .int a, .int b]).length) Slot.unset).toArray = ls at hl ⊢
  have hl : lv_has ls 5 [(0, .ref (g 11 5)), (1, .int a), (2, .int b)] := hl
  refine lv_aload_n hx hb dX3_weighUp_0 rfl (lv_at hl 0 rfl) ?_
  refine lv_iload_n hx hb dX3_weighUp_1 rfl (lv_at hl 1 rfl) ?_
  refine lv_iload_n hx hb dX3_weighUp_2 rfl (lv_at hl 2 rfl) ?_
  have hFc := free_all hD hS hA
  refine va_callv (va_runV (As := [.int a, .int b]) (rest := []) ⟨hx, hb, hml, hown, ht⟩ (c_X3_gather_s l dC dI s.heap.size h g ca iv lv fa la hI a b) (kV 2 ht m_599 m_565 m_566 m_83 m_567 rfl rfl hd_X3_gather_v ⟨Nat.le_of_ble_eq_true rfl, Nat.le_of_ble_eq_true rfl⟩) (vW hP hK hD (rX_3 hK hP)) rfl rfl hl.1 rfl (lv_room (Nat.le_of_ble_eq_true rfl)) dX3_weighUp_3 ⟨Nat.le_of_ble_eq_true rfl, Nat.le_of_ble_eq_true rfl⟩) hS (fun q _ h => hFc q h) hFc (fun u t H1 locs ht9 hvm hr1 hB hz1 hk1 hS => ?_)
  obtain ⟨n2, n3, n4, xr1_0, rfl⟩ := hr1
  have hn2 : ∀ j, inb (bA 30 2 j) (n2 j) := fun j => full_i _
  obtain ⟨hP, hD⟩ := hB
  rw [ht9] at hP
  generalize H1 = H at hP hS ⊢
  have hP : va_P (dC, dI) classes (WX h g ca iv lv (u2 fa 30 2 n2) (u2 (u2 la 30 0 n3) 30 1 n4)) H := hP
  have hD : va_D A (WX h g ca iv lv (u2 fa 30 2 n2) (u2 (u2 la 30 0 n3) 30 1 n4)) := (show va_D _ (WX h g ca iv lv (u2 fa 30 2 n2) (u2 (u2 la 30 0 n3) 30 1 n4)) from hD).weaken (fun _ _ _ h => hFc _ h)
  have i_10_1 : 0 ≤ (iv 10 1).toInt ∧ (iv 10 1).toInt ≤ 60 := hI.1 10 1
  have xr1_0 : ∀ l : Nat, l < 3 → n3 l = smL (fun s : Nat => ((fa 10 0) (9 * s + 0)).toInt = (a : Int32).toInt ∧ ((fa 10 0) (9 * s + 1)).toInt = (l : Int) ∧ ((fa 10 0) (9 * s + 7)).toInt ≤ (b : Int32).toInt ∧ (((fa 10 0) (9 * s + 8)).toInt = -1 ∨ (b : Int32).toInt < ((fa 10 0) (9 * s + 8)).toInt)) (fun s : Nat => (fa 10 0) (9 * s + 3)) (((iv 10 1) : Int32).toInt).toNat ∧ n4 l = smL (fun s : Nat => ((fa 10 0) (9 * s + 0)).toInt = (a : Int32).toInt ∧ ((fa 10 0) (9 * s + 1)).toInt = (l : Int) ∧ ((fa 10 0) (9 * s + 7)).toInt ≤ (b : Int32).toInt ∧ (((fa 10 0) (9 * s + 8)).toInt = -1 ∨ (b : Int32).toInt < ((fa 10 0) (9 * s + 8)).toInt)) (fun s : Nat => (fa 10 0) (9 * s + 4)) (((iv 10 1) : Int32).toInt).toNat ∧ n2 l = smC (fun s : Nat => ((fa 10 0) (9 * s + 0)).toInt = (a : Int32).toInt ∧ ((fa 10 0) (9 * s + 1)).toInt = (l : Int) ∧ ((fa 10 0) (9 * s + 7)).toInt ≤ (b : Int32).toInt ∧ (((fa 10 0) (9 * s + 8)).toInt = -1 ∨ (b : Int32).toInt < ((fa 10 0) (9 * s + 8)).toInt)) (((iv 10 1) : Int32).toInt).toNat := xr1_0
  refine lv_aload_n hx hb dX3_weighUp_6 rfl (lv_at hl 0 rfl) ?_
  refine gX_3_1 hx hb ht hown hK hP m_280 dX3_weighUp_7 ?_
  refine lv_iconst (v := 1) hx hb dX3_weighUp_10 (by decide) ?_
  refine lv_iload_n hx hb dX3_weighUp_11 rfl (lv_at hl 2 rfl) ?_
  have hFc := free_all hD hS hA
  refine va_calli (va_runV (As := [.int 1, .int b]) (rest := []) ⟨hx, hb, hml, hown, ht⟩ (c_X1_holding_f l dC dI H.size ak av h g ca iv lv (u2 fa 30 2 n2) (u2 (u2 la 30 0 n3) 30 1 n4) (IX_a (c := 30) (k := 2) hI hn2) 1 b ⟨by decide, by decide⟩ hJB) (kV 2 ht m_600 m_601 m_602 m_81 m_603 rfl rfl hd_X1_holding_v ⟨Nat.le_of_ble_eq_true rfl, Nat.le_of_ble_eq_true rfl⟩) (vWZ hP hK hD ((hZ.kept hS.2.1).narrow (free_all hD hS hA)) (rX_1 hK hP)) rfl rfl hl.1 rfl (lv_room (Nat.le_of_ble_eq_true rfl)) dX3_weighUp_12 ⟨Nat.le_of_ble_eq_true rfl, Nat.le_of_ble_eq_true rfl⟩) hS (fun q _ h => hFc q h) hFc (fun r5 u t H1 locs ht9 hvm hr5 hB hz1 hk1 hS => ?_)
  obtain ⟨n6, hn6, xr5_0, hr5, rfl⟩ := hr5
  obtain ⟨hP, hD⟩ := hB
  rw [ht9] at hP
  generalize H1 = H at hP hS ⊢
  have hP : va_P (dC, dI) classes (WX h g ca iv lv (u2 (u2 fa 30 2 n2) 1 6 n6) (u2 (u2 la 30 0 n3) 30 1 n4)) H := hP
  have hD : va_D A (WX h g ca iv lv (u2 (u2 fa 30 2 n2) 1 6 n6) (u2 (u2 la 30 0 n3) 30 1 n4)) := (show va_D _ (WX h g ca iv lv (u2 (u2 fa 30 2 n2) 1 6 n6) (u2 (u2 la 30 0 n3) 30 1 n4)) from hD).weaken (fun _ _ _ h => hFc _ h)
  have i_1_7 : 0 ≤ (iv 1 7).toInt ∧ (iv 1 7).toInt ≤ 8 := hI.1 1 7
  have : (1 : Int32).toInt = 1 := (by decide)
  have xr5_0 : FoX ((iv 1 7) : Int32).toInt (fa 1 0) (fa 1 1) (fa 1 2) (fa 1 3) (1 : Int32).toInt (b : Int32).toInt (r5 : Int32).toInt := xr5_0
  refine lv_istore_n (lv' := [(3, .int r5), (0, .ref (g 11 5)), (1, .int a), (2, .int b)]) hx hb dX3_weighUp_15 rfl hl (by decide) rfl (fun ls hl => ?_)
  refine lv_aload_n hx hb dX3_weighUp_16 rfl (lv_at hl 1 rfl) ?_
  refine gX_3_2 hx hb ht hown hK hP m_281 dX3_weighUp_17 ?_
  refine gX_30_2 hx hb ht hown hK hP m_268 dX3_weighUp_20 ?_
  refine lv_iconst (v := 0) hx hb dX3_weighUp_23 (by decide) ?_
  refine lX_30_2 hx hb hK hP (f := n2) rfl (vp_in_iff.mpr (by decide)) dX3_weighUp_24 ?_
  refine lv_topi (fun v7 ev7 => ?_)
  have gn0 := congrArg Int32.toInt (show v7 = n2 0 from ev7)
  refine lv_iload_n hx hb dX3_weighUp_25 rfl (lv_at hl 0 rfl) ?_
  refine lv_icmp_ge (tgt := 31) hx hb dX3_weighUp_26 (by decide) (fun c8 => ?_) (fun c8 => ?_)
  · have fc8 := z_le (rfl : (r5).toInt = _) (rfl : (v7).toInt = _) c8
    refine lv_aload_n hx hb dX3_weighUp_31 rfl (lv_at hl 1 rfl) ?_
    refine gX_3_1 hx hb ht hown hK hP m_280 dX3_weighUp_32 ?_
    refine lv_iconst (v := 3) hx hb dX3_weighUp_35 (by decide) ?_
    refine lv_iload_n hx hb dX3_weighUp_36 rfl (lv_at hl 3 rfl) ?_
    have hFc := free_all hD hS hA
    refine va_calli (va_runV (As := [.int 3, .int b]) (rest := []) ⟨hx, hb, hml, hown, ht⟩ (c_X1_holding_f l dC dI H.size ak av h g ca iv lv (u2 (u2 fa 30 2 n2) 1 6 n6) (u2 (u2 la 30 0 n3) 30 1 n4) (IX_a (c := 1) (k := 6) (IX_a (c := 30) (k := 2) hI hn2) hn6) 3 b ⟨by decide, by decide⟩ hJB) (kV 2 ht m_600 m_601 m_602 m_81 m_603 rfl rfl hd_X1_holding_v ⟨Nat.le_of_ble_eq_true rfl, Nat.le_of_ble_eq_true rfl⟩) (vWZ hP hK hD ((hZ.kept hS.2.1).narrow (free_all hD hS hA)) (rX_1 hK hP)) rfl rfl hl.1 rfl (lv_room (Nat.le_of_ble_eq_true rfl)) dX3_weighUp_37 ⟨Nat.le_of_ble_eq_true rfl, Nat.le_of_ble_eq_true rfl⟩) hS (fun q _ h => hFc q h) hFc (fun r9 u t H1 locs ht9 hvm hr9 hB hz1 hk1 hS => ?_)
    obtain ⟨n10, hn10, xr9_0, hr9, rfl⟩ := hr9
    obtain ⟨hP, hD⟩ := hB
    rw [ht9] at hP
    generalize H1 = H at hP hS ⊢
    have hP : va_P (dC, dI) classes (WX h g ca iv lv (u2 (u2 fa 30 2 n2) 1 6 n10) (u2 (u2 la 30 0 n3) 30 1 n4)) H := hP
    have hD : va_D A (WX h g ca iv lv (u2 (u2 fa 30 2 n2) 1 6 n10) (u2 (u2 la 30 0 n3) 30 1 n4)) := (show va_D _ (WX h g ca iv lv (u2 (u2 fa 30 2 n2) 1 6 n10) (u2 (u2 la 30 0 n3) 30 1 n4)) from hD).weaken (fun _ _ _ h => hFc _ h)
    have : (3 : Int32).toInt = 3 := (by decide)
    have xr9_0 : FoX ((iv 1 7) : Int32).toInt (fa 1 0) (fa 1 1) (fa 1 2) (fa 1 3) (3 : Int32).toInt (b : Int32).toInt (r9 : Int32).toInt := xr9_0
    refine lv_iconst (v := 1) hx hb dX3_weighUp_40 (by decide) ?_
    refine lv_icmp_ne (tgt := 51) hx hb dX3_weighUp_41 (by decide) (fun c11 => ?_) (fun c11 => ?_)
    · have fc11 := z_ne (rfl : (r9).toInt = _) (by decide : (1 : Int32).toInt = 1) c11
      refine lv_aload_n hx hb dX3_weighUp_51 rfl (lv_at hl 1 rfl) ?_
      refine gX_3_2 hx hb ht hown hK hP m_281 dX3_weighUp_52 ?_
      refine gX_30_2 hx hb ht hown hK hP m_268 dX3_weighUp_55 ?_
      refine lv_iconst (v := 1) hx hb dX3_weighUp_58 (by decide) ?_
      refine lX_30_2 hx hb hK hP (f := n2) rfl (vp_in_iff.mpr (by decide)) dX3_weighUp_59 ?_
      refine lv_topi (fun v12 ev12 => ?_)
      have gn1 := congrArg Int32.toInt (show v12 = n2 1 from ev12)
      refine lv_iload_n hx hb dX3_weighUp_60 rfl (lv_at hl 0 rfl) ?_
      refine lv_icmp_ge (tgt := 66) hx hb dX3_weighUp_61 (by decide) (fun c13 => ?_) (fun c13 => ?_)
      · have fc13 := z_le (rfl : (r5).toInt = _) (rfl : (v12).toInt = _) c13
        refine lv_aload_n hx hb dX3_weighUp_66 rfl (lv_at hl 1 rfl) ?_
        refine gX_3_1 hx hb ht hown hK hP m_280 dX3_weighUp_67 ?_
        refine lv_iconst (v := 5) hx hb dX3_weighUp_70 (by decide) ?_
        refine lv_iload_n hx hb dX3_weighUp_71 rfl (lv_at hl 3 rfl) ?_
        have hFc := free_all hD hS hA
        refine va_calli (va_runV (As := [.int 5, .int b]) (rest := []) ⟨hx, hb, hml, hown, ht⟩ (c_X1_holding_f l dC dI H.size ak av h g ca iv lv (u2 (u2 fa 30 2 n2) 1 6 n10) (u2 (u2 la 30 0 n3) 30 1 n4) (IX_a (c := 1) (k := 6) (IX_a (c := 30) (k := 2) hI hn2) hn10) 5 b ⟨by decide, by decide⟩ hJB) (kV 2 ht m_600 m_601 m_602 m_81 m_603 rfl rfl hd_X1_holding_v ⟨Nat.le_of_ble_eq_true rfl, Nat.le_of_ble_eq_true rfl⟩) (vWZ hP hK hD ((hZ.kept hS.2.1).narrow (free_all hD hS hA)) (rX_1 hK hP)) rfl rfl hl.1 rfl (lv_room (Nat.le_of_ble_eq_true rfl)) dX3_weighUp_72 ⟨Nat.le_of_ble_eq_true rfl, Nat.le_of_ble_eq_true rfl⟩) hS (fun q _ h => hFc q h) hFc (fun r14 u t H1 locs ht9 hvm hr14 hB hz1 hk1 hS => ?_)
        obtain ⟨n15, hn15, xr14_0, hr14, rfl⟩ := hr14
        obtain ⟨hP, hD⟩ := hB
        rw [ht9] at hP
        generalize H1 = H at hP hS ⊢
        have hP : va_P (dC, dI) classes (WX h g ca iv lv (u2 (u2 fa 30 2 n2) 1 6 n15) (u2 (u2 la 30 0 n3) 30 1 n4)) H := hP
        have hD : va_D A (WX h g ca iv lv (u2 (u2 fa 30 2 n2) 1 6 n15) (u2 (u2 la 30 0 n3) 30 1 n4)) := (show va_D _ (WX h g ca iv lv (u2 (u2 fa 30 2 n2) 1 6 n15) (u2 (u2 la 30 0 n3) 30 1 n4)) from hD).weaken (fun _ _ _ h => hFc _ h)
        have : (5 : Int32).toInt = 5 := (by decide)
        have xr14_0 : FoX ((iv 1 7) : Int32).toInt (fa 1 0) (fa 1 1) (fa 1 2) (fa 1 3) (5 : Int32).toInt (b : Int32).toInt (r14 : Int32).toInt := xr14_0
        refine lv_istore (lv' := [(4, .int r14), (3, .int r5), (0, .ref (g 11 5)), (1, .int a), (2, .int b)]) hx hb dX3_weighUp_75 hl (by decide) rfl (fun ls hl => ?_)
        refine lv_aload_n hx hb dX3_weighUp_77 rfl (lv_at hl 2 rfl) ?_
        refine gX_3_2 hx hb ht hown hK hP m_281 dX3_weighUp_78 ?_
        refine lv_iconst (v := 0) hx hb dX3_weighUp_81 (by decide) ?_
        refine lv_iconst (v := 1) hx hb dX3_weighUp_82 (by decide) ?_
        refine lv_aload_n hx hb dX3_weighUp_83 rfl (lv_at hl 2 rfl) ?_
        refine gX_3_1 hx hb ht hown hK hP m_280 dX3_weighUp_84 ?_
        refine lv_iconst (v := 2) hx hb dX3_weighUp_87 (by decide) ?_
        refine lv_iload_n hx hb dX3_weighUp_88 rfl (lv_at hl 4 rfl) ?_
        have hFc := free_all hD hS hA
        refine va_calli (va_runV (As := [.int 2, .int b]) (rest := [.int 1, .int 0, .ref (g 3 2)]) ⟨hx, hb, hml, hown, ht⟩ (c_X1_holding_f l dC dI H.size ak av h g ca iv lv (u2 (u2 fa 30 2 n2) 1 6 n15) (u2 (u2 la 30 0 n3) 30 1 n4) (IX_a (c := 1) (k := 6) (IX_a (c := 30) (k := 2) hI hn2) hn15) 2 b ⟨by decide, by decide⟩ hJB) (kV 2 ht m_600 m_601 m_602 m_81 m_603 rfl rfl hd_X1_holding_v ⟨Nat.le_of_ble_eq_true rfl, Nat.le_of_ble_eq_true rfl⟩) (vWZ hP hK hD ((hZ.kept hS.2.1).narrow (free_all hD hS hA)) (rX_1 hK hP)) rfl rfl hl.1 rfl (lv_room (Nat.le_of_ble_eq_true rfl)) dX3_weighUp_89 ⟨Nat.le_of_ble_eq_true rfl, Nat.le_of_ble_eq_true rfl⟩) hS (fun q _ h => hFc q h) hFc (fun r16 u t H1 locs ht9 hvm hr16 hB hz1 hk1 hS => ?_)
        obtain ⟨n17, hn17, xr16_0, hr16, rfl⟩ := hr16
        obtain ⟨hP, hD⟩ := hB
        rw [ht9] at hP
        generalize H1 = H at hP hS ⊢
        have hP : va_P (dC, dI) classes (WX h g ca iv lv (u2 (u2 fa 30 2 n2) 1 6 n17) (u2 (u2 la 30 0 n3) 30 1 n4)) H := hP
        have hD : va_D A (WX h g ca iv lv (u2 (u2 fa 30 2 n2) 1 6 n17) (u2 (u2 la 30 0 n3) 30 1 n4)) := (show va_D _ (WX h g ca iv lv (u2 (u2 fa 30 2 n2) 1 6 n17) (u2 (u2 la 30 0 n3) 30 1 n4)) from hD).weaken (fun _ _ _ h => hFc _ h)
        have : (2 : Int32).toInt = 2 := (by decide)
        have xr16_0 : FoX ((iv 1 7) : Int32).toInt (fa 1 0) (fa 1 1) (fa 1 2) (fa 1 3) (2 : Int32).toInt (b : Int32).toInt (r16 : Int32).toInt := xr16_0
        refine vp_callSi (W.runV (As := [.int 0, .int 1, .int r16]) (rest := []) ⟨hx, hb, hml, hown, ht⟩ (c_X7_differ_f30 l dC dI h g ca iv lv (u2 (u2 fa 30 2 n2) 1 6 n17) (u2 (u2 la 30 0 n3) 30 1 n4) (IX_a (c := 1) (k := 6) (IX_a (c := 30) (k := 2) hI hn2) hn17) r16) (kV 3 ht m_626 m_627 m_628 m_84 m_629 rfl rfl hd_X7_differ_v ⟨Nat.le_of_ble_eq_true rfl, Nat.le_of_ble_eq_true rfl⟩) (vR hP hK (rX_30 hK hP)) rfl rfl hl.1 rfl (lv_room (Nat.le_of_ble_eq_true rfl)) dX3_weighUp_92 ⟨Nat.le_of_ble_eq_true rfl, Nat.le_of_ble_eq_true rfl⟩) (fun r18 hr18 => ?_)
        obtain ⟨hr18, xr18_0⟩ := hr18
        have xr18_0 : (((r18 : Int32).toInt = 1 ∧ difL (n4 0) (n3 0) (n4 1) (n3 1) (r16 : Int32)) ∨ ((r18 : Int32).toInt = 0 ∧ ¬ difL (n4 0) (n3 0) (n4 1) (n3 1) (r16 : Int32))) := xr18_0
        refine lv_if_ne (tgt := 105) hx hb dX3_weighUp_95 (by decide) (fun c19 => ?_) (fun c19 => ?_)
        · have fc19 := z_ne (rfl : (r18).toInt = _) (by decide : (0 : Int32).toInt = 0) c19
          refine lv_aload_n hx hb dX3_weighUp_105 rfl (lv_at hl 2 rfl) ?_
          refine gX_3_2 hx hb ht hown hK hP m_281 dX3_weighUp_106 ?_
          refine gX_30_2 hx hb ht hown hK hP m_268 dX3_weighUp_109 ?_
          refine lv_iconst (v := 2) hx hb dX3_weighUp_112 (by decide) ?_
          refine lX_30_2 hx hb hK hP (f := n2) rfl (vp_in_iff.mpr (by decide)) dX3_weighUp_113 ?_
          refine lv_topi (fun v20 ev20 => ?_)
          have gn2 := congrArg Int32.toInt (show v20 = n2 2 from ev20)
          refine lv_iload_n hx hb dX3_weighUp_114 rfl (lv_at hl 1 rfl) ?_
          refine lv_icmp_ge (tgt := 122) hx hb dX3_weighUp_115 (by decide) (fun c21 => ?_) (fun c21 => ?_)
          · have fc21 := z_le (rfl : (r5).toInt = _) (rfl : (v20).toInt = _) c21
            refine lv_aload_n hx hb dX3_weighUp_122 rfl (lv_at hl 2 rfl) ?_
            refine lv_iload hx hb dX3_weighUp_123 (lv_at hl 0 rfl) ?_
            have hFc := free_all hD hS hA
            refine va_calli (va_runV (As := [.int r14]) (rest := []) ⟨hx, hb, hml, hown, ht⟩ (c_X3_settleByThree_w l dC dI H.size h g ca iv lv (u2 (u2 fa 30 2 n2) 1 6 n17) (u2 (u2 la 30 0 n3) 30 1 n4) (IX_a (c := 1) (k := 6) (IX_a (c := 30) (k := 2) hI hn2) hn17) r14) (kV 1 ht m_642 m_644 m_12 m_83 m_645 rfl rfl hd_X3_settleByThree_v ⟨Nat.le_of_ble_eq_true rfl, Nat.le_of_ble_eq_true rfl⟩) (vW hP hK hD (rX_3 hK hP)) rfl rfl hl.1 rfl (lv_room (Nat.le_of_ble_eq_true rfl)) dX3_weighUp_125 ⟨Nat.le_of_ble_eq_true rfl, Nat.le_of_ble_eq_true rfl⟩) hS (fun q _ h => hFc q h) hFc (fun r22 u t H1 locs ht9 hvm hr22 hB hz1 hk1 hS => ?_)
            obtain ⟨n23, n24, hn23, hn24, xr22_0, xr22_1, hr22, rfl⟩ := hr22
            have hn23 : 0 ≤ n23.toInt ∧ n23.toInt ≤ 2 := hn23
            have hn24 : 0 ≤ n24.toInt ∧ n24.toInt ≤ 2 := hn24
            obtain ⟨hP, hD⟩ := hB
            rw [ht9] at hP
            generalize H1 = H at hP hS ⊢
            have hP : va_P (dC, dI) classes (WX h g ca (u2 (u2 iv 3 3 n23) 3 4 n24) lv (u2 (u2 fa 30 2 n2) 1 6 n17) (u2 (u2 la 30 0 n3) 30 1 n4)) H := hP
            have hD : va_D A (WX h g ca (u2 (u2 iv 3 3 n23) 3 4 n24) lv (u2 (u2 fa 30 2 n2) 1 6 n17) (u2 (u2 la 30 0 n3) 30 1 n4)) := (show va_D _ (WX h g ca (u2 (u2 iv 3 3 n23) 3 4 n24) lv (u2 (u2 fa 30 2 n2) 1 6 n17) (u2 (u2 la 30 0 n3) 30 1 n4)) from hD).weaken (fun _ _ _ h => hFc _ h)
            have xr22_0 : thX n4 n3 (n23 : Int32).toInt (n24 : Int32).toInt (r14 : Int32).toInt := xr22_0
            have xr22_1 : (r22 : Int32).toInt = 1 := xr22_1
            have hP9 : va_P (dC, dI) classes (WX h g ca (u2 (u2 iv 3 3 n23) 3 4 n24) lv (u2 (u2 fa 1 6 n17) 30 2 n2) (u2 (u2 la 30 0 n3) 30 1 n4)) H := hP
            have hD9 : va_D A (WX h g ca (u2 (u2 iv 3 3 n23) 3 4 n24) lv (u2 (u2 fa 1 6 n17) 30 2 n2) (u2 (u2 la 30 0 n3) 30 1 n4)) := hD
            exact W.iret (v := r22) hx hb hr (fun t ht9 hW => ⟨⟨r22, ((u2 (u2 iv 3 3 n23) 3 4 n24), lv, (u2 (u2 fa 1 6 n17) 30 2 n2), (u2 (u2 la 30 0 n3) 30 1 n4)), rfl, ⟨n17, n2, n3, n4, n23, n24, hn17, (show inb (0, 2) n23 from ⟨by omega, by omega⟩), (show inb (0, 2) n24 from ⟨by omega, by omega⟩), (show LwS (fun q v => FoX (iv 1 7).toInt (fa 1 0) (fa 1 1) (fa 1 2) (fa 1 3) q (b).toInt v) (fa 10 0) (a).toInt (b).toInt ((iv 10 1).toInt).toNat n4 n3 n2 (n23 : Int32).toInt (n24 : Int32).toInt (r22 : Int32).toInt from (by have hd9 := xr18_0; exact ⟨(fun l hl => ⟨(xr1_0 l hl).1, (xr1_0 l hl).2.1, (xr1_0 l hl).2.2⟩), ⟨_, (show FoX (iv 1 7).toInt (fa 1 0) (fa 1 1) (fa 1 2) (fa 1 3) 1 b.toInt (r5 : Int32).toInt from xr5_0), Or.inr ⟨by omega, _, (show FoX (iv 1 7).toInt (fa 1 0) (fa 1 1) (fa 1 2) (fa 1 3) 3 b.toInt (r9 : Int32).toInt from xr9_0), Or.inr ⟨by omega, Or.inr ⟨by omega, r16, (show FoX (iv 1 7).toInt (fa 1 0) (fa 1 1) (fa 1 2) (fa 1 3) 2 b.toInt (r16 : Int32).toInt from xr16_0), _, (show FoX (iv 1 7).toInt (fa 1 0) (fa 1 1) (fa 1 2) (fa 1 3) 5 b.toInt (r14 : Int32).toInt from xr14_0), Or.inr ⟨(hd9.resolve_right (fun q => by omega)).2, Or.inr ⟨by omega, by omega, xr22_0⟩⟩⟩⟩⟩⟩⟩)), ⟨by omega, by omega⟩, rfl⟩, by rw [ht9]; exact hP9, hD9⟩, hS.F ht9⟩) hS.2.2 dX3_weighUp_128
          · have fc21 := z_nle (rfl : (r5).toInt = _) (rfl : (v20).toInt = _) c21
            refine lv_iconst (v := 2) hx hb dX3_weighUp_118 (by decide) ?_
            refine lv_goto (tgt := 128) hx hb dX3_weighUp_119 (by decide) ?_
            have i_3_3 : 0 ≤ (iv 3 3).toInt ∧ (iv 3 3).toInt ≤ 2 := hI.1 3 3
            have i_3_4 : 0 ≤ (iv 3 4).toInt ∧ (iv 3 4).toInt ≤ 2 := hI.1 3 4
            have hP9 : va_P (dC, dI) classes (WX h g ca (u2 (u2 iv 3 3 (iv 3 3)) 3 4 (iv 3 4)) lv (u2 (u2 fa 1 6 n17) 30 2 n2) (u2 (u2 la 30 0 n3) 30 1 n4)) H := hP
            have hD9 : va_D A (WX h g ca (u2 (u2 iv 3 3 (iv 3 3)) 3 4 (iv 3 4)) lv (u2 (u2 fa 1 6 n17) 30 2 n2) (u2 (u2 la 30 0 n3) 30 1 n4)) := hD
            exact W.iret (v := 2) hx hb hr (fun t ht9 hW => ⟨⟨2, ((u2 (u2 iv 3 3 (iv 3 3)) 3 4 (iv 3 4)), lv, (u2 (u2 fa 1 6 n17) 30 2 n2), (u2 (u2 la 30 0 n3) 30 1 n4)), rfl, ⟨n17, n2, n3, n4, (iv 3 3), (iv 3 4), hn17, (hI.1 3 3), (hI.1 3 4), (show LwS (fun q v => FoX (iv 1 7).toInt (fa 1 0) (fa 1 1) (fa 1 2) (fa 1 3) q (b).toInt v) (fa 10 0) (a).toInt (b).toInt ((iv 10 1).toInt).toNat n4 n3 n2 ((iv 3 3) : Int32).toInt ((iv 3 4) : Int32).toInt (2 : Int32).toInt from (by have hd9 := xr18_0; exact ⟨(fun l hl => ⟨(xr1_0 l hl).1, (xr1_0 l hl).2.1, (xr1_0 l hl).2.2⟩), ⟨_, (show FoX (iv 1 7).toInt (fa 1 0) (fa 1 1) (fa 1 2) (fa 1 3) 1 b.toInt (r5 : Int32).toInt from xr5_0), Or.inr ⟨by omega, _, (show FoX (iv 1 7).toInt (fa 1 0) (fa 1 1) (fa 1 2) (fa 1 3) 3 b.toInt (r9 : Int32).toInt from xr9_0), Or.inr ⟨by omega, Or.inr ⟨by omega, r16, (show FoX (iv 1 7).toInt (fa 1 0) (fa 1 1) (fa 1 2) (fa 1 3) 2 b.toInt (r16 : Int32).toInt from xr16_0), _, (show FoX (iv 1 7).toInt (fa 1 0) (fa 1 1) (fa 1 2) (fa 1 3) 5 b.toInt (r14 : Int32).toInt from xr14_0), Or.inr ⟨(hd9.resolve_right (fun q => by omega)).2, Or.inl ⟨by omega, by omega⟩⟩⟩⟩⟩⟩⟩)), ⟨by decide, by decide⟩, rfl⟩, by rw [ht9]; exact hP9, hD9⟩, hS.F ht9⟩) hS.2.2 dX3_weighUp_128
        · have fc19 := z_eq (rfl : (r18).toInt = _) (by decide : (0 : Int32).toInt = 0) c19
          refine lv_aload_n hx hb dX3_weighUp_98 rfl (lv_at hl 2 rfl) ?_
          refine lv_iload hx hb dX3_weighUp_99 (lv_at hl 0 rfl) ?_
          have hFc := free_all hD hS hA
          refine va_calli (va_runV (As := [.int r14]) (rest := []) ⟨hx, hb, hml, hown, ht⟩ (c_X3_settleByTwo_w l dC dI H.size h g ca iv lv (u2 (u2 fa 30 2 n2) 1 6 n17) (u2 (u2 la 30 0 n3) 30 1 n4) (IX_a (c := 1) (k := 6) (IX_a (c := 30) (k := 2) hI hn2) hn17) r14) (kV 1 ht m_634 m_636 m_10 m_83 m_637 rfl rfl hd_X3_settleByTwo_v ⟨Nat.le_of_ble_eq_true rfl, Nat.le_of_ble_eq_true rfl⟩) (vW hP hK hD (rX_3 hK hP)) rfl rfl hl.1 rfl (lv_room (Nat.le_of_ble_eq_true rfl)) dX3_weighUp_101 ⟨Nat.le_of_ble_eq_true rfl, Nat.le_of_ble_eq_true rfl⟩) hS (fun q _ h => hFc q h) hFc (fun r25 u t H1 locs ht9 hvm hr25 hB hz1 hk1 hS => ?_)
          obtain ⟨n26, n27, hn26, hn27, xr25_0, xr25_1, hr25, rfl⟩ := hr25
          have hn26 : 0 ≤ n26.toInt ∧ n26.toInt ≤ 2 := hn26
          have hn27 : 0 ≤ n27.toInt ∧ n27.toInt ≤ 2 := hn27
          obtain ⟨hP, hD⟩ := hB
          rw [ht9] at hP
          generalize H1 = H at hP hS ⊢
          have hP : va_P (dC, dI) classes (WX h g ca (u2 (u2 iv 3 3 n26) 3 4 n27) lv (u2 (u2 fa 30 2 n2) 1 6 n17) (u2 (u2 la 30 0 n3) 30 1 n4)) H := hP
          have hD : va_D A (WX h g ca (u2 (u2 iv 3 3 n26) 3 4 n27) lv (u2 (u2 fa 30 2 n2) 1 6 n17) (u2 (u2 la 30 0 n3) 30 1 n4)) := (show va_D _ (WX h g ca (u2 (u2 iv 3 3 n26) 3 4 n27) lv (u2 (u2 fa 30 2 n2) 1 6 n17) (u2 (u2 la 30 0 n3) 30 1 n4)) from hD).weaken (fun _ _ _ h => hFc _ h)
          have xr25_0 : twX n4 n3 (n26 : Int32).toInt (n27 : Int32).toInt (r14 : Int32).toInt := xr25_0
          have xr25_1 : (r25 : Int32).toInt = 1 := xr25_1
          have hP9 : va_P (dC, dI) classes (WX h g ca (u2 (u2 iv 3 3 n26) 3 4 n27) lv (u2 (u2 fa 1 6 n17) 30 2 n2) (u2 (u2 la 30 0 n3) 30 1 n4)) H := hP
          have hD9 : va_D A (WX h g ca (u2 (u2 iv 3 3 n26) 3 4 n27) lv (u2 (u2 fa 1 6 n17) 30 2 n2) (u2 (u2 la 30 0 n3) 30 1 n4)) := hD
          exact W.iret (v := r25) hx hb hr (fun t ht9 hW => ⟨⟨r25, ((u2 (u2 iv 3 3 n26) 3 4 n27), lv, (u2 (u2 fa 1 6 n17) 30 2 n2), (u2 (u2 la 30 0 n3) 30 1 n4)), rfl, ⟨n17, n2, n3, n4, n26, n27, hn17, (show inb (0, 2) n26 from ⟨by omega, by omega⟩), (show inb (0, 2) n27 from ⟨by omega, by omega⟩), (show LwS (fun q v => FoX (iv 1 7).toInt (fa 1 0) (fa 1 1) (fa 1 2) (fa 1 3) q (b).toInt v) (fa 10 0) (a).toInt (b).toInt ((iv 10 1).toInt).toNat n4 n3 n2 (n26 : Int32).toInt (n27 : Int32).toInt (r25 : Int32).toInt from (by have hd9 := xr18_0; exact ⟨(fun l hl => ⟨(xr1_0 l hl).1, (xr1_0 l hl).2.1, (xr1_0 l hl).2.2⟩), ⟨_, (show FoX (iv 1 7).toInt (fa 1 0) (fa 1 1) (fa 1 2) (fa 1 3) 1 b.toInt (r5 : Int32).toInt from xr5_0), Or.inr ⟨by omega, _, (show FoX (iv 1 7).toInt (fa 1 0) (fa 1 1) (fa 1 2) (fa 1 3) 3 b.toInt (r9 : Int32).toInt from xr9_0), Or.inr ⟨by omega, Or.inr ⟨by omega, r16, (show FoX (iv 1 7).toInt (fa 1 0) (fa 1 1) (fa 1 2) (fa 1 3) 2 b.toInt (r16 : Int32).toInt from xr16_0), _, (show FoX (iv 1 7).toInt (fa 1 0) (fa 1 1) (fa 1 2) (fa 1 3) 5 b.toInt (r14 : Int32).toInt from xr14_0), Or.inl ⟨(hd9.resolve_left (fun q => by omega)).2, by omega, xr25_0⟩⟩⟩⟩⟩⟩)), ⟨by omega, by omega⟩, rfl⟩, by rw [ht9]; exact hP9, hD9⟩, hS.F ht9⟩) hS.2.2 dX3_weighUp_104
      · have fc13 := z_nle (rfl : (r5).toInt = _) (rfl : (v12).toInt = _) c13
        refine lv_iconst (v := 0) hx hb dX3_weighUp_64 (by decide) ?_
        have i_3_3 : 0 ≤ (iv 3 3).toInt ∧ (iv 3 3).toInt ≤ 2 := hI.1 3 3
        have i_3_4 : 0 ≤ (iv 3 4).toInt ∧ (iv 3 4).toInt ≤ 2 := hI.1 3 4
        have : (0 : Int32).toInt = 0 := (by decide)
        have hP9 : va_P (dC, dI) classes (WX h g ca (u2 (u2 iv 3 3 (iv 3 3)) 3 4 (iv 3 4)) lv (u2 (u2 fa 1 6 n10) 30 2 n2) (u2 (u2 la 30 0 n3) 30 1 n4)) H := hP
        have hD9 : va_D A (WX h g ca (u2 (u2 iv 3 3 (iv 3 3)) 3 4 (iv 3 4)) lv (u2 (u2 fa 1 6 n10) 30 2 n2) (u2 (u2 la 30 0 n3) 30 1 n4)) := hD
        exact W.iret (v := 0) hx hb hr (fun t ht9 hW => ⟨⟨0, ((u2 (u2 iv 3 3 (iv 3 3)) 3 4 (iv 3 4)), lv, (u2 (u2 fa 1 6 n10) 30 2 n2), (u2 (u2 la 30 0 n3) 30 1 n4)), rfl, ⟨n10, n2, n3, n4, (iv 3 3), (iv 3 4), hn10, (hI.1 3 3), (hI.1 3 4), (show LwS (fun q v => FoX (iv 1 7).toInt (fa 1 0) (fa 1 1) (fa 1 2) (fa 1 3) q (b).toInt v) (fa 10 0) (a).toInt (b).toInt ((iv 10 1).toInt).toNat n4 n3 n2 ((iv 3 3) : Int32).toInt ((iv 3 4) : Int32).toInt (0 : Int32).toInt from ⟨(fun l hl => ⟨(xr1_0 l hl).1, (xr1_0 l hl).2.1, (xr1_0 l hl).2.2⟩), ⟨_, (show FoX (iv 1 7).toInt (fa 1 0) (fa 1 1) (fa 1 2) (fa 1 3) 1 b.toInt (r5 : Int32).toInt from xr5_0), Or.inr ⟨by omega, _, (show FoX (iv 1 7).toInt (fa 1 0) (fa 1 1) (fa 1 2) (fa 1 3) 3 b.toInt (r9 : Int32).toInt from xr9_0), Or.inr ⟨by omega, Or.inl ⟨by omega, by omega⟩⟩⟩⟩⟩), ⟨by decide, by decide⟩, rfl⟩, by rw [ht9]; exact hP9, hD9⟩, hS.F ht9⟩) hS.2.2 dX3_weighUp_65
    · have fc11 := z_eq (rfl : (r9).toInt = _) (by decide : (1 : Int32).toInt = 1) c11
      refine lv_aload_n hx hb dX3_weighUp_44 rfl (lv_at hl 1 rfl) ?_
      refine lv_iconst (v := 0) hx hb dX3_weighUp_45 (by decide) ?_
      refine lv_iconst (v := 0) hx hb dX3_weighUp_46 (by decide) ?_
      have hFc := free_all hD hS hA
      refine va_calli (va_runV (As := [.int 0, .int 0]) (rest := []) ⟨hx, hb, hml, hown, ht⟩ (c_X3_settle_w l dC dI H.size h g ca iv lv (u2 (u2 fa 30 2 n2) 1 6 n10) (u2 (u2 la 30 0 n3) 30 1 n4) (IX_a (c := 1) (k := 6) (IX_a (c := 30) (k := 2) hI hn2) hn10) 0 0 ⟨by decide, by decide⟩ ⟨by decide, by decide⟩) (kV 2 ht m_622 m_624 m_9 m_83 m_625 rfl rfl hd_X3_settle_v ⟨Nat.le_of_ble_eq_true rfl, Nat.le_of_ble_eq_true rfl⟩) (vW hP hK hD (rX_3 hK hP)) rfl rfl hl.1 rfl (lv_room (Nat.le_of_ble_eq_true rfl)) dX3_weighUp_47 ⟨Nat.le_of_ble_eq_true rfl, Nat.le_of_ble_eq_true rfl⟩) hS (fun q _ h => hFc q h) hFc (fun r28 u t H1 locs ht9 hvm hr28 hB hz1 hk1 hS => ?_)
      obtain ⟨n29, n30, hn29, hn30, xr28_0, xr28_1, xr28_2, hr28, rfl⟩ := hr28
      have hn29 : 0 ≤ n29.toInt ∧ n29.toInt ≤ 2 := hn29
      have hn30 : 0 ≤ n30.toInt ∧ n30.toInt ≤ 2 := hn30
      obtain ⟨hP, hD⟩ := hB
      rw [ht9] at hP
      generalize H1 = H at hP hS ⊢
      have hP : va_P (dC, dI) classes (WX h g ca (u2 (u2 iv 3 3 n29) 3 4 n30) lv (u2 (u2 fa 30 2 n2) 1 6 n10) (u2 (u2 la 30 0 n3) 30 1 n4)) H := hP
      have hD : va_D A (WX h g ca (u2 (u2 iv 3 3 n29) 3 4 n30) lv (u2 (u2 fa 30 2 n2) 1 6 n10) (u2 (u2 la 30 0 n3) 30 1 n4)) := (show va_D _ (WX h g ca (u2 (u2 iv 3 3 n29) 3 4 n30) lv (u2 (u2 fa 30 2 n2) 1 6 n10) (u2 (u2 la 30 0 n3) 30 1 n4)) from hD).weaken (fun _ _ _ h => hFc _ h)
      have : (0 : Int32).toInt = 0 := (by decide)
      have xr28_0 : (n29 : Int32).toInt = (0 : Int32).toInt := xr28_0
      have xr28_1 : (n30 : Int32).toInt = (0 : Int32).toInt := xr28_1
      have xr28_2 : (r28 : Int32).toInt = 1 := xr28_2
      have hP9 : va_P (dC, dI) classes (WX h g ca (u2 (u2 iv 3 3 n29) 3 4 n30) lv (u2 (u2 fa 1 6 n10) 30 2 n2) (u2 (u2 la 30 0 n3) 30 1 n4)) H := hP
      have hD9 : va_D A (WX h g ca (u2 (u2 iv 3 3 n29) 3 4 n30) lv (u2 (u2 fa 1 6 n10) 30 2 n2) (u2 (u2 la 30 0 n3) 30 1 n4)) := hD
      exact W.iret (v := r28) hx hb hr (fun t ht9 hW => ⟨⟨r28, ((u2 (u2 iv 3 3 n29) 3 4 n30), lv, (u2 (u2 fa 1 6 n10) 30 2 n2), (u2 (u2 la 30 0 n3) 30 1 n4)), rfl, ⟨n10, n2, n3, n4, n29, n30, hn10, (show inb (0, 2) n29 from ⟨by omega, by omega⟩), (show inb (0, 2) n30 from ⟨by omega, by omega⟩), (show LwS (fun q v => FoX (iv 1 7).toInt (fa 1 0) (fa 1 1) (fa 1 2) (fa 1 3) q (b).toInt v) (fa 10 0) (a).toInt (b).toInt ((iv 10 1).toInt).toNat n4 n3 n2 (n29 : Int32).toInt (n30 : Int32).toInt (r28 : Int32).toInt from ⟨(fun l hl => ⟨(xr1_0 l hl).1, (xr1_0 l hl).2.1, (xr1_0 l hl).2.2⟩), ⟨_, (show FoX (iv 1 7).toInt (fa 1 0) (fa 1 1) (fa 1 2) (fa 1 3) 1 b.toInt (r5 : Int32).toInt from xr5_0), Or.inr ⟨by omega, _, (show FoX (iv 1 7).toInt (fa 1 0) (fa 1 1) (fa 1 2) (fa 1 3) 3 b.toInt (r9 : Int32).toInt from xr9_0), Or.inl ⟨by omega, by omega, ⟨by omega, by omega⟩⟩⟩⟩⟩), ⟨by omega, by omega⟩, rfl⟩, by rw [ht9]; exact hP9, hD9⟩, hS.F ht9⟩) hS.2.2 dX3_weighUp_50
  · have fc8 := z_nle (rfl : (r5).toInt = _) (rfl : (v7).toInt = _) c8
    refine lv_iconst (v := 0) hx hb dX3_weighUp_29 (by decide) ?_
    have i_3_3 : 0 ≤ (iv 3 3).toInt ∧ (iv 3 3).toInt ≤ 2 := hI.1 3 3
    have i_3_4 : 0 ≤ (iv 3 4).toInt ∧ (iv 3 4).toInt ≤ 2 := hI.1 3 4
    have : (0 : Int32).toInt = 0 := (by decide)
    have hP9 : va_P (dC, dI) classes (WX h g ca (u2 (u2 iv 3 3 (iv 3 3)) 3 4 (iv 3 4)) lv (u2 (u2 fa 1 6 n6) 30 2 n2) (u2 (u2 la 30 0 n3) 30 1 n4)) H := hP
    have hD9 : va_D A (WX h g ca (u2 (u2 iv 3 3 (iv 3 3)) 3 4 (iv 3 4)) lv (u2 (u2 fa 1 6 n6) 30 2 n2) (u2 (u2 la 30 0 n3) 30 1 n4)) := hD
    exact W.iret (v := 0) hx hb hr (fun t ht9 hW => ⟨⟨0, ((u2 (u2 iv 3 3 (iv 3 3)) 3 4 (iv 3 4)), lv, (u2 (u2 fa 1 6 n6) 30 2 n2), (u2 (u2 la 30 0 n3) 30 1 n4)), rfl, ⟨n6, n2, n3, n4, (iv 3 3), (iv 3 4), hn6, (hI.1 3 3), (hI.1 3 4), (show LwS (fun q v => FoX (iv 1 7).toInt (fa 1 0) (fa 1 1) (fa 1 2) (fa 1 3) q (b).toInt v) (fa 10 0) (a).toInt (b).toInt ((iv 10 1).toInt).toNat n4 n3 n2 ((iv 3 3) : Int32).toInt ((iv 3 4) : Int32).toInt (0 : Int32).toInt from ⟨(fun l hl => ⟨(xr1_0 l hl).1, (xr1_0 l hl).2.1, (xr1_0 l hl).2.2⟩), ⟨_, (show FoX (iv 1 7).toInt (fa 1 0) (fa 1 1) (fa 1 2) (fa 1 3) 1 b.toInt (r5 : Int32).toInt from xr5_0), Or.inl ⟨by omega, by omega⟩⟩⟩), ⟨by decide, by decide⟩, rfl⟩, by rw [ht9]; exact hP9, hD9⟩, hS.F ht9⟩) hS.2.2 dX3_weighUp_30
set_option maxHeartbeats 4000000 in
set_option maxRecDepth 100000 in
/-- X3_upper -/
theorem c_X3_upper_w (l : Launch) (dC : Nat → ClassId) (dI : Nat → Nat → Nat) (h : Nat) (g : Nat → Nat → Nat) (ca : Nat → Nat → ClassId) (iv : Nat → Nat → Int32) (lv : Nat → Nat → Int64) (fa : Nat → Nat → Nat → Int32) (la : Nat → Nat → Nat → Int64) (hI : IX iv fa) : Met l yX3_upper (wc yX3_upper cX3_upper 1 (some .long)) ({ frames := 0, cells := 0, slots := 0, locals := 0 } : Room) (pR (dC, dI) classes (WX h g ca iv lv fa la) (TX ca) [.ref (g 11 5)]) (vp_Sl (fun r => (True) ∧ (r.toInt = ((la 30 1) ((iv 3 3).toInt).toNat * (la 30 0) ((iv 3 4).toInt).toNat + (la 30 1) ((iv 3 4).toInt).toNat * (la 30 0) ((iv 3 3).toInt).toNat).toInt))) 0 0 (fun _ => False) := by
  refine Met.ofW (cc := cX3_upper) (maxL := 1) (ret := (some .long)) (by decide) rfl ?_
  intro p e s m args below meth c s₁ B hml hv
  obtain ⟨rfl, hP, hK⟩ := hv
  have hx := B.exec
  have hb := B.bytes
  have hr := B.returns
  have ht := tb_tl (atoms_spec (ws := wc yX3_upper cX3_upper 1 (some .long)) B.pre)
  have hown : s.vm.findClass RX3 = some m.cls := findClass_of_methodNamed B.named
  have hlocks := B.notSynchronized
  have hl := lv_entry [.ref (g 11 5)] (n := 1) (Nat.le_of_ble_eq_true rfl)
  rw [lg_entry_eq]
  generalize (lg_sl [.ref (g 11 5)] ++ List.replicate (1 - (lg_sl [.ref (g 11 5)]).length) Slot.unset).toArray = ls at hl ⊢
  have hl : lv_has ls 1 [(0, .ref (g 11 5))] := hl
  refine lv_aload_n hx hb dX3_upper_0 rfl (lv_at hl 0 rfl) ?_
  refine gX_3_2 hx hb ht hown hK hP m_281 dX3_upper_1 ?_
  refine gX_30_1 hx hb ht hown hK hP m_265 dX3_upper_4 ?_
  refine lv_aload_n hx hb dX3_upper_7 rfl (lv_at hl 0 rfl) ?_
  have i_3_3 : 0 ≤ (iv 3 3).toInt ∧ (iv 3 3).toInt ≤ 2 := hI.1 3 3
  refine gX_3_3 hx hb ht hown hK hP m_283 (v := (iv 3 3)) rfl dX3_upper_8 ?_
  refine lX_30_1 hx hb hK hP (f := (la 30 1)) rfl (vp_in_iff.mpr ⟨by omega, by omega⟩) dX3_upper_11 ?_
  refine lv_topl (fun w1 ew1 => ?_)
  refine lv_aload_n hx hb dX3_upper_12 rfl (lv_at hl 0 rfl) ?_
  refine gX_3_2 hx hb ht hown hK hP m_281 dX3_upper_13 ?_
  refine gX_30_0 hx hb ht hown hK hP m_262 dX3_upper_16 ?_
  refine lv_aload_n hx hb dX3_upper_19 rfl (lv_at hl 0 rfl) ?_
  have i_3_4 : 0 ≤ (iv 3 4).toInt ∧ (iv 3 4).toInt ≤ 2 := hI.1 3 4
  refine gX_3_4 hx hb ht hown hK hP m_284 (v := (iv 3 4)) rfl dX3_upper_20 ?_
  refine lX_30_0 hx hb hK hP (f := (la 30 0)) rfl (vp_in_iff.mpr ⟨by omega, by omega⟩) dX3_upper_23 ?_
  refine lv_topl (fun w2 ew2 => ?_)
  refine lv_lmul hx hb dX3_upper_24 ?_
  refine lv_topl (fun w3 ew3 => ?_)
  refine lv_aload_n hx hb dX3_upper_25 rfl (lv_at hl 0 rfl) ?_
  refine gX_3_2 hx hb ht hown hK hP m_281 dX3_upper_26 ?_
  refine gX_30_1 hx hb ht hown hK hP m_265 dX3_upper_29 ?_
  refine lv_aload_n hx hb dX3_upper_32 rfl (lv_at hl 0 rfl) ?_
  refine gX_3_4 hx hb ht hown hK hP m_284 (v := (iv 3 4)) rfl dX3_upper_33 ?_
  refine lX_30_1 hx hb hK hP (f := (la 30 1)) rfl (vp_in_iff.mpr ⟨by omega, by omega⟩) dX3_upper_36 ?_
  refine lv_topl (fun w4 ew4 => ?_)
  refine lv_aload_n hx hb dX3_upper_37 rfl (lv_at hl 0 rfl) ?_
  refine gX_3_2 hx hb ht hown hK hP m_281 dX3_upper_38 ?_
  refine gX_30_0 hx hb ht hown hK hP m_262 dX3_upper_41 ?_
  refine lv_aload_n hx hb dX3_upper_44 rfl (lv_at hl 0 rfl) ?_
  refine gX_3_3 hx hb ht hown hK hP m_283 (v := (iv 3 3)) rfl dX3_upper_45 ?_
  refine lX_30_0 hx hb hK hP (f := (la 30 0)) rfl (vp_in_iff.mpr ⟨by omega, by omega⟩) dX3_upper_48 ?_
  refine lv_topl (fun w5 ew5 => ?_)
  refine lv_lmul hx hb dX3_upper_49 ?_
  refine lv_topl (fun w6 ew6 => ?_)
  refine lv_ladd hx hb dX3_upper_50 ?_
  refine lv_topl (fun w7 ew7 => ?_)
  exact W.lret (v := w7) hx hb hr (fun t ht9 hW => ⟨w7, rfl, ⟨trivial, (show (w7 : Int64).toInt = ((la 30 1) ((iv 3 3).toInt).toNat * (la 30 0) ((iv 3 4).toInt).toNat + (la 30 1) ((iv 3 4).toInt).toNat * (la 30 0) ((iv 3 3).toInt).toNat).toInt from congrArg Int64.toInt (by first | (simp only [ew7, ew6, ew5, ew4, ew3, ew2, ew1]; rfl) | simp only [ew7, ew6, ew5, ew4, ew3, ew2, ew1] | rfl))⟩, ht9⟩) (fun q hq => by cases hq) dX3_upper_51
set_option maxHeartbeats 4000000 in
set_option maxRecDepth 100000 in
/-- X3_lower -/
theorem c_X3_lower_w (l : Launch) (dC : Nat → ClassId) (dI : Nat → Nat → Nat) (h : Nat) (g : Nat → Nat → Nat) (ca : Nat → Nat → ClassId) (iv : Nat → Nat → Int32) (lv : Nat → Nat → Int64) (fa : Nat → Nat → Nat → Int32) (la : Nat → Nat → Nat → Int64) (hI : IX iv fa) : Met l yX3_lower (wc yX3_lower cX3_lower 1 (some .long)) ({ frames := 0, cells := 0, slots := 0, locals := 0 } : Room) (pR (dC, dI) classes (WX h g ca iv lv fa la) (TX ca) [.ref (g 11 5)]) (vp_Sl (fun r => (True) ∧ (r.toInt = (2 * (la 30 0) ((iv 3 3).toInt).toNat * (la 30 0) ((iv 3 4).toInt).toNat).toInt))) 0 0 (fun _ => False) := by
  refine Met.ofW (cc := cX3_lower) (maxL := 1) (ret := (some .long)) (by decide) rfl ?_
  intro p e s m args below meth c s₁ B hml hv
  obtain ⟨rfl, hP, hK⟩ := hv
  have hx := B.exec
  have hb := B.bytes
  have hr := B.returns
  have ht := tb_tl (atoms_spec (ws := wc yX3_lower cX3_lower 1 (some .long)) B.pre)
  have hown : s.vm.findClass RX3 = some m.cls := findClass_of_methodNamed B.named
  have hlocks := B.notSynchronized
  have hl := lv_entry [.ref (g 11 5)] (n := 1) (Nat.le_of_ble_eq_true rfl)
  rw [lg_entry_eq]
  generalize (lg_sl [.ref (g 11 5)] ++ List.replicate (1 - (lg_sl [.ref (g 11 5)]).length) Slot.unset).toArray = ls at hl ⊢
  have hl : lv_has ls 1 [(0, .ref (g 11 5))] := hl
  refine lv_ldc2 hx hb hown (ht _ m_853) dX3_lower_0 ?_
  refine lv_aload_n hx hb dX3_lower_3 rfl (lv_at hl 0 rfl) ?_
  refine gX_3_2 hx hb ht hown hK hP m_281 dX3_lower_4 ?_
  refine gX_30_0 hx hb ht hown hK hP m_262 dX3_lower_7 ?_
  refine lv_aload_n hx hb dX3_lower_10 rfl (lv_at hl 0 rfl) ?_
  have i_3_3 : 0 ≤ (iv 3 3).toInt ∧ (iv 3 3).toInt ≤ 2 := hI.1 3 3
  refine gX_3_3 hx hb ht hown hK hP m_283 (v := (iv 3 3)) rfl dX3_lower_11 ?_
  refine lX_30_0 hx hb hK hP (f := (la 30 0)) rfl (vp_in_iff.mpr ⟨by omega, by omega⟩) dX3_lower_14 ?_
  refine lv_topl (fun w1 ew1 => ?_)
  refine lv_lmul hx hb dX3_lower_15 ?_
  refine lv_topl (fun w2 ew2 => ?_)
  refine lv_aload_n hx hb dX3_lower_16 rfl (lv_at hl 0 rfl) ?_
  refine gX_3_2 hx hb ht hown hK hP m_281 dX3_lower_17 ?_
  refine gX_30_0 hx hb ht hown hK hP m_262 dX3_lower_20 ?_
  refine lv_aload_n hx hb dX3_lower_23 rfl (lv_at hl 0 rfl) ?_
  have i_3_4 : 0 ≤ (iv 3 4).toInt ∧ (iv 3 4).toInt ≤ 2 := hI.1 3 4
  refine gX_3_4 hx hb ht hown hK hP m_284 (v := (iv 3 4)) rfl dX3_lower_24 ?_
  refine lX_30_0 hx hb hK hP (f := (la 30 0)) rfl (vp_in_iff.mpr ⟨by omega, by omega⟩) dX3_lower_27 ?_
  refine lv_topl (fun w3 ew3 => ?_)
  refine lv_lmul hx hb dX3_lower_28 ?_
  refine lv_topl (fun w4 ew4 => ?_)
  exact W.lret (v := w4) hx hb hr (fun t ht9 hW => ⟨w4, rfl, ⟨trivial, (show (w4 : Int64).toInt = (2 * (la 30 0) ((iv 3 3).toInt).toNat * (la 30 0) ((iv 3 4).toInt).toNat).toInt from congrArg Int64.toInt (by first | (simp only [ew4, ew3, ew2, ew1]; rfl) | simp only [ew4, ew3, ew2, ew1] | rfl))⟩, ht9⟩) (fun q hq => by cases hq) dX3_lower_29
set_option maxHeartbeats 4000000 in
set_option maxRecDepth 100000 in
/-- X11_moistened -/
theorem c_X11_moistened_w (l : Launch) (dC : Nat → ClassId) (dI : Nat → Nat → Nat) (sz : Nat) (ak av : Nat → Nat) (h : Nat) (g : Nat → Nat → Nat) (ca : Nat → Nat → ClassId) (iv : Nat → Nat → Int32) (lv : Nat → Nat → Int64) (fa : Nat → Nat → Nat → Int32) (la : Nat → Nat → Nat → Int64) (hI : IX iv fa) (a : Int32) (b : Int32) (h_a : 0 ≤ a.toInt ∧ a.toInt ≤ 9) (p_0 : a.toInt < (iv 0 7).toInt) (hJB : ∀ j : Nat, (j : Int) < (iv 1 7).toInt → 0 ≤ (fa 1 0 j).toInt) (hJF : ∀ a d v : Int, 0 ≤ a → a ≤ 5 → FoX (iv 1 7).toInt (fa 1 0) (fa 1 1) (fa 1 2) (fa 1 3) a d v → fLo a ≤ v ∧ v ≤ fHi a) (hJG : ∀ j : Nat, (j : Int) < (iv 0 7).toInt → 1 ≤ (fa 0 0 j).toInt ∧ (fa 0 0 j).toInt ≤ 99999) : Met l yX11_moistened (wc yX11_moistened cX11_moistened 3 (some .long)) ({ frames := 4, cells := 0, slots := 0, locals := 93 } : Room) (pWZ ak av (dC, dI) classes (WX h g ca iv lv fa la) (TX ca) sz [.ref h, .int a, .int b]) (va_Ql (fun r (u : SS) => ∃ (na_1_6 : Nat → Int32), (∀ j, inb (bA 1 6 j) (na_1_6 j)) ∧ (∃ wt : Int, FoX (iv 1 7).toInt (fa 1 0) (fa 1 1) (fa 1 2) (fa 1 3) 0 b.toInt wt ∧ 0 ≤ wt ∧ wt ≤ 300 ∧ r.toInt = ((fa 0 0) (a.toInt).toNat).toInt * (1000 + wt) ∧ 1000 ≤ r.toInt ∧ r.toInt ≤ 129998700) ∧ (True) ∧ u = (iv, lv, (u2 fa 1 6 na_1_6), la)) (bX (dC, dI) h g ca (va_A (WX h g ca iv lv fa la) sz)) (va_A (WX h g ca iv lv fa la) sz)) 0 0 (va_A (WX h g ca iv lv fa la) sz) := by
  refine Met.ofW (cc := cX11_moistened) (maxL := 3) (ret := (some .long)) (by decide) rfl ?_
  intro p e s m args below meth c s₁ B hml hv
  obtain ⟨rfl, hsz, hP, hK, hD0, hZ⟩ := hv
  have hx := B.exec
  have hb := B.bytes
  have hr := B.returns
  have ht := tb_tl (atoms_spec (ws := wc yX11_moistened cX11_moistened 3 (some .long)) B.pre)
  have hown : s.vm.findClass RX11 = some m.cls := findClass_of_methodNamed B.named
  have hlocks := B.notSynchronized
  subst hsz
  have hD := hD0.self (sz := s.heap.size)
  generalize hAe : va_A (WX h g ca iv lv fa la) s.heap.size = A at hD hZ ⊢
  have hA : ∀ q : Nat, s.heap.size ≤ q → A q := fun q h => by rw [← hAe]; exact Or.inr h
  have hS : va_S A s.heap s.heap [] := va_S.rf
  have hl := lv_entry [.ref h, .int a, .int b] (n := 3) (Nat.le_of_ble_eq_true rfl)
  rw [lg_entry_eq]
  generalize (lg_sl [.ref h, .int a, .int b] ++ List.replicate (3 - (lg_sl [.ref h, .int a, .int b]).length) Slot.unset).toArray = ls at hl ⊢
  have hl : lv_has ls 3 [(0, .ref h), (1, .int a), (2, .int b)] := hl
  refine lv_aload_n hx hb dX11_moistened_0 rfl (lv_at hl 0 rfl) ?_
  refine gX_11_2 hx hb ht hown hK hP m_417 dX11_moistened_1 ?_
  refine gX_0_0 hx hb ht hown hK hP m_153 dX11_moistened_4 ?_
  refine lv_iload_n hx hb dX11_moistened_7 rfl (lv_at hl 1 rfl) ?_
  refine lX_0_0 hx hb hK hP (f := (fa 0 0)) rfl (vp_in_iff.mpr ⟨by omega, by omega⟩) dX11_moistened_8 ?_
  refine lv_topi (fun v1 ev1 => ?_)
  refine lv_i2l (v := (v1.toInt64)) hx hb dX11_moistened_9 rfl ?_
  refine lv_ldc2 hx hb hown (ht _ m_848) dX11_moistened_10 ?_
  refine lv_aload_n hx hb dX11_moistened_13 rfl (lv_at hl 0 rfl) ?_
  refine gX_11_3 hx hb ht hown hK hP m_418 dX11_moistened_14 ?_
  refine lv_iconst (v := 0) hx hb dX11_moistened_17 (by decide) ?_
  refine lv_iload_n hx hb dX11_moistened_18 rfl (lv_at hl 2 rfl) ?_
  have hFc := free_all hD hS hA
  refine va_calli (va_runV (As := [.int 0, .int b]) (rest := [.long 1000, .long (v1.toInt64)]) ⟨hx, hb, hml, hown, ht⟩ (c_X1_holding_f l dC dI s.heap.size ak av h g ca iv lv fa la hI 0 b ⟨by decide, by decide⟩ hJB) (kV 2 ht m_667 m_601 m_602 m_81 m_603 rfl rfl hd_X1_holding_v ⟨Nat.le_of_ble_eq_true rfl, Nat.le_of_ble_eq_true rfl⟩) (vWZ hP hK hD ((hZ.kept hS.2.1).narrow (free_all hD hS hA)) (rX_1 hK hP)) rfl rfl hl.1 rfl (lv_room (Nat.le_of_ble_eq_true rfl)) dX11_moistened_19 ⟨Nat.le_of_ble_eq_true rfl, Nat.le_of_ble_eq_true rfl⟩) hS (fun q _ h => hFc q h) hFc (fun r2 u t H1 locs ht9 hvm hr2 hB hz1 hk1 hS => ?_)
  obtain ⟨n3, hn3, xr2_0, hr2, rfl⟩ := hr2
  obtain ⟨hP, hD⟩ := hB
  rw [ht9] at hP
  generalize H1 = H at hP hS ⊢
  have hP : va_P (dC, dI) classes (WX h g ca iv lv (u2 fa 1 6 n3) la) H := hP
  have hD : va_D A (WX h g ca iv lv (u2 fa 1 6 n3) la) := (show va_D _ (WX h g ca iv lv (u2 fa 1 6 n3) la) from hD).weaken (fun _ _ _ h => hFc _ h)
  have i_1_7 : 0 ≤ (iv 1 7).toInt ∧ (iv 1 7).toInt ≤ 8 := hI.1 1 7
  have : (0 : Int32).toInt = 0 := (by decide)
  have xr2_0 : FoX ((iv 1 7) : Int32).toInt (fa 1 0) (fa 1 1) (fa 1 2) (fa 1 3) (0 : Int32).toInt (b : Int32).toInt (r2 : Int32).toInt := xr2_0
  have hf9 := f0_of (hJF 0 b.toInt (r2 : Int32).toInt (by decide) (by decide) xr2_0)
  refine lv_i2l (v := (r2.toInt64)) hx hb dX11_moistened_22 rfl ?_
  refine lv_ladd hx hb dX11_moistened_23 ?_
  refine lv_topl (fun w4 ew4 => ?_)
  refine lv_lmul hx hb dX11_moistened_24 ?_
  refine lv_topl (fun w5 ew5 => ?_)
  have hP9 : va_P (dC, dI) classes (WX h g ca iv lv (u2 fa 1 6 n3) la) H := hP
  have hD9 : va_D A (WX h g ca iv lv (u2 fa 1 6 n3) la) := hD
  exact W.lret (v := w5) hx hb hr (fun t ht9 hW => ⟨⟨w5, (iv, lv, (u2 fa 1 6 n3), la), rfl, ⟨n3, hn3, (show ∃ wt : Int, FoX (iv 1 7).toInt (fa 1 0) (fa 1 1) (fa 1 2) (fa 1 3) 0 (b).toInt wt ∧ 0 ≤ wt ∧ wt ≤ 300 ∧ (w5 : Int64).toInt = ((fa 0 0) ((a).toInt).toNat).toInt * (1000 + wt) ∧ 1000 ≤ (w5 : Int64).toInt ∧ (w5 : Int64).toInt ≤ 129998700 from (by have hg9 := hJG (a.toInt).toNat (by omega); have hl9 : (v1 : Int32) = fa 0 0 (a.toInt).toNat := ev1; rw [← hl9] at hg9; have hy9 := y_x (g := v1) (r := r2) ew4 ew5 hg9 hf9; rw [hl9] at hy9; exact ⟨_, xr2_0, hf9.1, hf9.2, hy9.1, hy9.2.1, hy9.2.2⟩)), trivial, rfl⟩, by rw [ht9]; exact hP9, hD9⟩, hS.F ht9⟩) hS.2.2 dX11_moistened_25
/-! ===== la4 ===== -/
set_option maxHeartbeats 4000000 in
set_option maxRecDepth 100000 in
/-- X11_lawful -/
theorem c_X11_lawful_w (l : Launch) (dC : Nat → ClassId) (dI : Nat → Nat → Nat) (sz : Nat) (ak av : Nat → Nat) (h : Nat) (g : Nat → Nat → Nat) (ca : Nat → Nat → ClassId) (iv : Nat → Nat → Int32) (lv : Nat → Nat → Int64) (fa : Nat → Nat → Nat → Int32) (la : Nat → Nat → Nat → Int64) (hI : IX iv fa) (a : Int32) (b : Int32) (d : Int32) (hJB : ∀ j : Nat, (j : Int) < (iv 1 7).toInt → 0 ≤ (fa 1 0 j).toInt) (hJW : ∀ s : Nat, (s : Int) < (iv 10 1).toInt → (100 ≤ (fa 10 0 (9 * s + 3)).toInt ∧ (fa 10 0 (9 * s + 3)).toInt ≤ 9999) ∧ (50 ≤ (fa 10 0 (9 * s + 4)).toInt ∧ (fa 10 0 (9 * s + 4)).toInt ≤ 9999)) (hJF : ∀ a d v : Int, 0 ≤ a → a ≤ 5 → FoX (iv 1 7).toInt (fa 1 0) (fa 1 1) (fa 1 2) (fa 1 3) a d v → fLo a ≤ v ∧ v ≤ fHi a) (hJG : ∀ j : Nat, (j : Int) < (iv 0 7).toInt → 1 ≤ (fa 0 0 j).toInt ∧ (fa 0 0 j).toInt ≤ 99999) (hJL : ∀ b l : Int32, cn0 (fun s => fa 10 0 (9 * s + 0)) (fun s => fa 10 0 (9 * s + 1)) b l (iv 10 1).toInt.toNat ≤ 12) : Met l yX11_lawful (wc yX11_lawful cX11_lawful 4 (some .long)) ({ frames := 5, cells := 0, slots := 0, locals := 117 } : Room) (pWZ ak av (dC, dI) classes (WX h g ca iv lv fa la) (TX ca) sz [.ref h, .int a, .int b, .int d]) (va_Ql (fun r (u : SS) => ∃ (na_1_6 : Nat → Int32) (na_30_2 : Nat → Int32) (nb_30_0 : Nat → Int64) (nb_30_1 : Nat → Int64) (ni_3_3 : Int32) (ni_3_4 : Int32), (∀ j, inb (bA 1 6 j) (na_1_6 j)) ∧ inb (bI 3 3) ni_3_3 ∧ inb (bI 3 4) ni_3_4 ∧ (((r.toInt = -100001 ∧ ¬ (0 ≤ a.toInt ∧ a.toInt < (iv 0 7).toInt)) ∨ (r.toInt = -100002 ∧ (0 ≤ a.toInt ∧ a.toInt < (iv 0 7).toInt) ∧ ¬ (0 ≤ b.toInt ∧ b.toInt ≤ (iv 11 10).toInt ∧ 0 ≤ d.toInt ∧ d.toInt ≤ 1)) ∨ ((0 ≤ a.toInt ∧ a.toInt < (iv 0 7).toInt) ∧ (0 ≤ b.toInt ∧ b.toInt ≤ (iv 11 10).toInt ∧ 0 ≤ d.toInt ∧ d.toInt ≤ 1) ∧ ∃ (D R : Nat → Int64) (C : Nat → Int32) (i j ro : Int), LwS (fun q v => FoX (iv 1 7).toInt (fa 1 0) (fa 1 1) (fa 1 2) (fa 1 3) q b.toInt v) (fa 10 0) a.toInt b.toInt ((iv 10 1).toInt).toNat D R C i j ro ∧ ((ro ≠ 1 ∧ r.toInt = -100003) ∨ (ro = 1 ∧ ∃ wt : Int, FoX (iv 1 7).toInt (fa 1 0) (fa 1 1) (fa 1 2) (fa 1 3) 0 b.toInt wt ∧ 0 ≤ wt ∧ ltX (upI D R i j * (((fa 0 0) (a.toInt).toNat).toInt * (1000 + wt))) (loI R i j * 1000) d.toInt r.toInt))))) ∧ (True) ∧ u = ((u2 (u2 iv 3 3 ni_3_3) 3 4 ni_3_4), lv, (u2 (u2 fa 1 6 na_1_6) 30 2 na_30_2), (u2 (u2 la 30 0 nb_30_0) 30 1 nb_30_1))) (bX (dC, dI) h g ca (va_A (WX h g ca iv lv fa la) sz)) (va_A (WX h g ca iv lv fa la) sz)) 0 0 (va_A (WX h g ca iv lv fa la) sz) := by
  refine Met.ofW (cc := cX11_lawful) (maxL := 4) (ret := (some .long)) (by decide) rfl ?_
  intro p e s m args below meth c s₁ B hml hv
  obtain ⟨rfl, hsz, hP, hK, hD0, hZ⟩ := hv
  have hx := B.exec
  have hb := B.bytes
  have hr := B.returns
  have ht := tb_tl (atoms_spec (ws := wc yX11_lawful cX11_lawful 4 (some .long)) B.pre)
  have hown : s.vm.findClass RX11 = some m.cls := findClass_of_methodNamed B.named
  have hlocks := B.notSynchronized
  subst hsz
  have hD := hD0.self (sz := s.heap.size)
  generalize hAe : va_A (WX h g ca iv lv fa la) s.heap.size = A at hD hZ ⊢
  have hA : ∀ q : Nat, s.heap.size ≤ q → A q := fun q h => by rw [← hAe]; exact Or.inr h
  have hS : va_S A s.heap s.heap [] := va_S.rf
  have hl := lv_entry [.ref h, .int a, .int b, .int d] (n := 4) (Nat.le_of_ble_eq_true rfl)
  rw [lg_entry_eq]
  generalize (lg_sl [.ref h, .int a, .int b, .int d] ++ List.replicate (4 - (lg_sl [.ref h, .int a, .int b, .int d]).length) Slot.unset).toArray = ls at hl ⊢
  have hl : lv_has ls 4 [(0, .ref h), (1, .int a), (2, .int b), (3, .int d)] := hl
  refine lv_aload_n hx hb dX11_lawful_0 rfl (lv_at hl 0 rfl) ?_
  refine gX_11_2 hx hb ht hown hK hP m_417 dX11_lawful_1 ?_
  refine lv_iload_n hx hb dX11_lawful_4 rfl (lv_at hl 1 rfl) ?_
  refine vp_callSi (W.runV (As := [.int a]) (rest := []) ⟨hx, hb, hml, hown, ht⟩ (c_X0_has l dC dI h g ca iv lv fa la hI a) (kV 1 ht m_472 m_473 m_474 m_80 m_475 rfl rfl hd_X0_has_v ⟨Nat.le_of_ble_eq_true rfl, Nat.le_of_ble_eq_true rfl⟩) (vR hP hK (rX_0 hK hP)) rfl rfl hl.1 rfl (lv_room (Nat.le_of_ble_eq_true rfl)) dX11_lawful_5 ⟨Nat.le_of_ble_eq_true rfl, Nat.le_of_ble_eq_true rfl⟩) (fun r1 hr1 => ?_)
  rcases hr1 with ⟨rfl, fr1⟩ | ⟨rfl, fr1⟩
  · skip
    have i_0_7 : 0 ≤ (iv 0 7).toInt ∧ (iv 0 7).toInt ≤ 10 := hI.1 0 7
    have fr1 : (0 ≤ (a : Int32).toInt ∧ (a : Int32).toInt < ((iv 0 7) : Int32).toInt) := fr1
    refine lv_if_ne (tgt := 15) hx hb dX11_lawful_8 (by decide) (fun c2 => ?_) (fun c2 => ?_)
    · skip
      refine lv_iload_n hx hb dX11_lawful_15 rfl (lv_at hl 2 rfl) ?_
      refine lv_iconst (v := 0) hx hb dX11_lawful_16 (by decide) ?_
      refine lv_aload_n hx hb dX11_lawful_17 rfl (lv_at hl 0 rfl) ?_
      have i_11_10 : 0 ≤ (iv 11 10).toInt ∧ (iv 11 10).toInt ≤ 3000 := hI.1 11 10
      refine gX_11_10 hx hb ht hown hK hP m_425 (v := (iv 11 10)) rfl dX11_lawful_18 ?_
      refine vp_callSi (W.runS (As := [.int b, .int 0, .int (iv 11 10)]) (rest := []) ⟨hx, hb, hml, hown, ht⟩ (c_X11_within l dC dI b 0 (iv 11 10) (b.toInt) (0) ((iv 11 10).toInt) (rfl : (b).toInt = _) (by decide : (0 : Int32).toInt = 0) (rfl : ((iv 11 10)).toInt = _)) (kS 3 ht m_453 m_454 m_77 m_455 rfl rfl hd_X11_within_v ⟨Nat.le_of_ble_eq_true rfl, Nat.le_of_ble_eq_true rfl⟩) (sR noP (hK.sub (tys' := []) [] rfl)) rfl rfl hl.1 rfl (lv_room (Nat.le_of_ble_eq_true rfl)) dX11_lawful_21 ⟨Nat.le_of_ble_eq_true rfl, Nat.le_of_ble_eq_true rfl⟩) (fun r3 hr3 => ?_)
      rcases hr3 with ⟨rfl, fr3⟩ | ⟨rfl, fr3⟩
      · skip
        refine lv_if_eq (tgt := 36) hx hb dX11_lawful_24 (by decide) (fun c4 => ?_) (fun c4 => ?_)
        · exact absurd c4 (by decide)
        · skip
          refine lv_iload_n hx hb dX11_lawful_27 rfl (lv_at hl 3 rfl) ?_
          refine lv_iconst (v := 0) hx hb dX11_lawful_28 (by decide) ?_
          refine lv_iconst (v := 1) hx hb dX11_lawful_29 (by decide) ?_
          refine vp_callSi (W.runS (As := [.int d, .int 0, .int 1]) (rest := []) ⟨hx, hb, hml, hown, ht⟩ (c_X11_within l dC dI d 0 1 (d.toInt) (0) (1) (rfl : (d).toInt = _) (by decide : (0 : Int32).toInt = 0) (by decide : (1 : Int32).toInt = 1)) (kS 3 ht m_453 m_454 m_77 m_455 rfl rfl hd_X11_within_v ⟨Nat.le_of_ble_eq_true rfl, Nat.le_of_ble_eq_true rfl⟩) (sR noP (hK.sub (tys' := []) [] rfl)) rfl rfl hl.1 rfl (lv_room (Nat.le_of_ble_eq_true rfl)) dX11_lawful_30 ⟨Nat.le_of_ble_eq_true rfl, Nat.le_of_ble_eq_true rfl⟩) (fun r5 hr5 => ?_)
          rcases hr5 with ⟨rfl, fr5⟩ | ⟨rfl, fr5⟩
          · skip
            refine lv_if_ne (tgt := 40) hx hb dX11_lawful_33 (by decide) (fun c6 => ?_) (fun c6 => ?_)
            · skip
              refine lv_aload_n hx hb dX11_lawful_40 rfl (lv_at hl 0 rfl) ?_
              refine gX_11_5 hx hb ht hown hK hP m_420 dX11_lawful_41 ?_
              refine lv_iload_n hx hb dX11_lawful_44 rfl (lv_at hl 1 rfl) ?_
              refine lv_iload_n hx hb dX11_lawful_45 rfl (lv_at hl 2 rfl) ?_
              have i_1_7 : 0 ≤ (iv 1 7).toInt ∧ (iv 1 7).toInt ≤ 8 := hI.1 1 7
              have i_10_1 : 0 ≤ (iv 10 1).toInt ∧ (iv 10 1).toInt ≤ 60 := hI.1 10 1
              have hFc := free_all hD hS hA
              refine va_calli (va_runV (As := [.int a, .int b]) (rest := []) ⟨hx, hb, hml, hown, ht⟩ (c_X3_weighUp_w l dC dI s.heap.size ak av h g ca iv lv fa la hI a b hJB) (kV 2 ht m_595 m_596 m_597 m_83 m_598 rfl rfl hd_X3_weighUp_v ⟨Nat.le_of_ble_eq_true rfl, Nat.le_of_ble_eq_true rfl⟩) (vWZ hP hK hD ((hZ.kept hS.2.1).narrow (free_all hD hS hA)) (rX_3 hK hP)) rfl rfl hl.1 rfl (lv_room (Nat.le_of_ble_eq_true rfl)) dX11_lawful_46 ⟨Nat.le_of_ble_eq_true rfl, Nat.le_of_ble_eq_true rfl⟩) hS (fun q _ h => hFc q h) hFc (fun r7 u t H1 locs ht9 hvm hr7 hB hz1 hk1 hS => ?_)
              obtain ⟨n8, n9, n10, n11, n12, n13, hn8, hn12, hn13, xr7_0, hr7, rfl⟩ := hr7
              have hn9 : ∀ j, inb (bA 30 2 j) (n9 j) := fun j => full_i _
              have hn12 : 0 ≤ n12.toInt ∧ n12.toInt ≤ 2 := hn12
              have hn13 : 0 ≤ n13.toInt ∧ n13.toInt ≤ 2 := hn13
              obtain ⟨hP, hD⟩ := hB
              rw [ht9] at hP
              generalize H1 = H at hP hS ⊢
              have hP : va_P (dC, dI) classes (WX h g ca (u2 (u2 iv 3 3 n12) 3 4 n13) lv (u2 (u2 fa 1 6 n8) 30 2 n9) (u2 (u2 la 30 0 n10) 30 1 n11)) H := hP
              have hD : va_D A (WX h g ca (u2 (u2 iv 3 3 n12) 3 4 n13) lv (u2 (u2 fa 1 6 n8) 30 2 n9) (u2 (u2 la 30 0 n10) 30 1 n11)) := (show va_D _ (WX h g ca (u2 (u2 iv 3 3 n12) 3 4 n13) lv (u2 (u2 fa 1 6 n8) 30 2 n9) (u2 (u2 la 30 0 n10) 30 1 n11)) from hD).weaken (fun _ _ _ h => hFc _ h)
              have xr7_0 : LwS (fun q v => FoX ((iv 1 7) : Int32).toInt (fa 1 0) (fa 1 1) (fa 1 2) (fa 1 3) q (b : Int32).toInt v) (fa 10 0) (a : Int32).toInt (b : Int32).toInt (((iv 10 1) : Int32).toInt).toNat n11 n10 n9 (n12 : Int32).toInt (n13 : Int32).toInt (r7 : Int32).toInt := xr7_0
              refine lv_iconst (v := 1) hx hb dX11_lawful_49 (by decide) ?_
              refine lv_icmp_eq (tgt := 57) hx hb dX11_lawful_50 (by decide) (fun c14 => ?_) (fun c14 => ?_)
              · have fc14 := z_eq (rfl : (r7).toInt = _) (by decide : (1 : Int32).toInt = 1) c14
                have hw9 : ∀ s : Nat, s < (iv 10 1).toInt.toNat → (100 ≤ (fa 10 0 (9 * s + 3)).toInt ∧ (fa 10 0 (9 * s + 3)).toInt ≤ 9999) ∧ (50 ≤ (fa 10 0 (9 * s + 4)).toInt ∧ (fa 10 0 (9 * s + 4)).toInt ≤ 9999) := fun s hs => hJW s (by omega)
                have hb9_0 := bdX (l := 0) (show (iv 10 1).toInt.toNat ≤ 60 from by have q9 : 0 ≤ (iv 10 1).toInt ∧ (iv 10 1).toInt ≤ 60 := hI.1 10 1; omega) hw9 (hJL a) xr7_0.1 (by decide) 0 (by decide)
                have hb9_1 := bdX (l := 1) (show (iv 10 1).toInt.toNat ≤ 60 from by have q9 : 0 ≤ (iv 10 1).toInt ∧ (iv 10 1).toInt ≤ 60 := hI.1 10 1; omega) hw9 (hJL a) xr7_0.1 (by decide) 1 (by decide)
                have hb9_2 := bdX (l := 2) (show (iv 10 1).toInt.toNat ≤ 60 from by have q9 : 0 ≤ (iv 10 1).toInt ∧ (iv 10 1).toInt ≤ 60 := hI.1 10 1; omega) hw9 (hJL a) xr7_0.1 (by decide) 2 (by decide)
                have ho9 := WpX_ok (F := (fun q v => FoX (iv 1 7).toInt (fa 1 0) (fa 1 1) (fa 1 2) (fa 1 3) q (b).toInt v)) (i := (n12 : Int32).toInt) (j := (n13 : Int32).toInt) (fun v hv => f1_of (hJF 1 _ v (by decide) (by decide) hv)) hb9_0 hb9_1 hb9_2 xr7_0.2 (by omega)
                have hu9 := up_b ho9.1 ho9.2
                refine lv_aload_n hx hb dX11_lawful_57 rfl (lv_at hl 0 rfl) ?_
                refine gX_11_5 hx hb ht hown hK hP m_420 dX11_lawful_58 ?_
                refine vp_callSl (W.runV (As := []) (rest := []) ⟨hx, hb, hml, hown, ht⟩ (c_X3_upper_w l dC dI h g ca (u2 (u2 iv 3 3 n12) 3 4 n13) lv (u2 (u2 fa 1 6 n8) 30 2 n9) (u2 (u2 la 30 0 n10) 30 1 n11) (IX_a (c := 30) (k := 2) (IX_a (c := 1) (k := 6) (IX_i (c := 3) (k := 4) (IX_i (c := 3) (k := 3) hI (show inb (0, 2) n12 from ⟨by omega, by omega⟩)) (show inb (0, 2) n13 from ⟨by omega, by omega⟩)) hn8) hn9)) (kV 0 ht m_840 m_841 m_842 m_83 m_843 rfl rfl hd_X3_upper_v ⟨Nat.le_of_ble_eq_true rfl, Nat.le_of_ble_eq_true rfl⟩) (vR hP hK (rX_3 hK hP)) rfl rfl hl.1 rfl (lv_room (Nat.le_of_ble_eq_true rfl)) dX11_lawful_61 ⟨Nat.le_of_ble_eq_true rfl, Nat.le_of_ble_eq_true rfl⟩) (fun r15 hr15 => ?_)
                obtain ⟨hr15, xr15_0⟩ := hr15
                have xr15_0 : (r15 : Int64).toInt = (n11 ((n12 : Int32).toInt).toNat * n10 ((n13 : Int32).toInt).toNat + n11 ((n13 : Int32).toInt).toNat * n10 ((n12 : Int32).toInt).toNat).toInt := xr15_0
                refine lv_aload_n hx hb dX11_lawful_64 rfl (lv_at hl 0 rfl) ?_
                refine lv_iload_n hx hb dX11_lawful_65 rfl (lv_at hl 1 rfl) ?_
                refine lv_iload_n hx hb dX11_lawful_66 rfl (lv_at hl 2 rfl) ?_
                have hFc := free_all hD hS hA
                refine va_calll (va_runV (As := [.int a, .int b]) (rest := [.long r15]) ⟨hx, hb, hml, hown, ht⟩ (c_X11_moistened_w l dC dI H.size ak av h g ca (u2 (u2 iv 3 3 n12) 3 4 n13) lv (u2 (u2 fa 1 6 n8) 30 2 n9) (u2 (u2 la 30 0 n10) 30 1 n11) (IX_a (c := 30) (k := 2) (IX_a (c := 1) (k := 6) (IX_i (c := 3) (k := 4) (IX_i (c := 3) (k := 3) hI (show inb (0, 2) n12 from ⟨by omega, by omega⟩)) (show inb (0, 2) n13 from ⟨by omega, by omega⟩)) hn8) hn9) a b ⟨by omega, by omega⟩ (show (a : Int32).toInt < ((iv 0 7) : Int32).toInt from by omega) hJB hJF hJG) (kV 2 ht m_844 m_846 m_29 m_77 m_847 rfl rfl hd_X11_moistened_v ⟨Nat.le_of_ble_eq_true rfl, Nat.le_of_ble_eq_true rfl⟩) (vWZ hP hK hD ((hZ.kept hS.2.1).narrow (free_all hD hS hA)) (rX_11 hK hP)) rfl rfl hl.1 rfl (lv_room (Nat.le_of_ble_eq_true rfl)) dX11_lawful_67 ⟨Nat.le_of_ble_eq_true rfl, Nat.le_of_ble_eq_true rfl⟩) hS (fun q _ h => hFc q h) hFc (fun r16 u t H1 locs ht9 hvm hr16 hB hz1 hk1 hS => ?_)
                obtain ⟨n17, hn17, xr16_0, hr16, rfl⟩ := hr16
                obtain ⟨hP, hD⟩ := hB
                rw [ht9] at hP
                generalize H1 = H at hP hS ⊢
                have hP : va_P (dC, dI) classes (WX h g ca (u2 (u2 iv 3 3 n12) 3 4 n13) lv (u2 (u2 fa 1 6 n17) 30 2 n9) (u2 (u2 la 30 0 n10) 30 1 n11)) H := hP
                have hD : va_D A (WX h g ca (u2 (u2 iv 3 3 n12) 3 4 n13) lv (u2 (u2 fa 1 6 n17) 30 2 n9) (u2 (u2 la 30 0 n10) 30 1 n11)) := (show va_D _ (WX h g ca (u2 (u2 iv 3 3 n12) 3 4 n13) lv (u2 (u2 fa 1 6 n17) 30 2 n9) (u2 (u2 la 30 0 n10) 30 1 n11)) from hD).weaken (fun _ _ _ h => hFc _ h)
                have xr16_0 : ∃ wt : Int, FoX ((iv 1 7) : Int32).toInt (fa 1 0) (fa 1 1) (fa 1 2) (fa 1 3) 0 (b : Int32).toInt wt ∧ 0 ≤ wt ∧ wt ≤ 300 ∧ (r16 : Int64).toInt = ((fa 0 0) ((a : Int32).toInt).toNat).toInt * (1000 + wt) ∧ 1000 ≤ (r16 : Int64).toInt ∧ (r16 : Int64).toInt ≤ 129998700 := xr16_0
                refine lv_lmul hx hb dX11_lawful_70 ?_
                refine lv_topl (fun w18 ew18 => ?_)
                refine lv_aload_n hx hb dX11_lawful_71 rfl (lv_at hl 0 rfl) ?_
                refine gX_11_5 hx hb ht hown hK hP m_420 dX11_lawful_72 ?_
                refine vp_callSl (W.runV (As := []) (rest := [.long w18]) ⟨hx, hb, hml, hown, ht⟩ (c_X3_lower_w l dC dI h g ca (u2 (u2 iv 3 3 n12) 3 4 n13) lv (u2 (u2 fa 1 6 n17) 30 2 n9) (u2 (u2 la 30 0 n10) 30 1 n11) (IX_a (c := 30) (k := 2) (IX_a (c := 1) (k := 6) (IX_i (c := 3) (k := 4) (IX_i (c := 3) (k := 3) hI (show inb (0, 2) n12 from ⟨by omega, by omega⟩)) (show inb (0, 2) n13 from ⟨by omega, by omega⟩)) hn17) hn9)) (kV 0 ht m_849 m_850 m_851 m_83 m_852 rfl rfl hd_X3_lower_v ⟨Nat.le_of_ble_eq_true rfl, Nat.le_of_ble_eq_true rfl⟩) (vR hP hK (rX_3 hK hP)) rfl rfl hl.1 rfl (lv_room (Nat.le_of_ble_eq_true rfl)) dX11_lawful_75 ⟨Nat.le_of_ble_eq_true rfl, Nat.le_of_ble_eq_true rfl⟩) (fun r19 hr19 => ?_)
                obtain ⟨hr19, xr19_0⟩ := hr19
                have xr19_0 : (r19 : Int64).toInt = (2 * n10 ((n12 : Int32).toInt).toNat * n10 ((n13 : Int32).toInt).toNat).toInt := xr19_0
                refine lv_ldc2 hx hb hown (ht _ m_848) dX11_lawful_78 ?_
                refine lv_lmul hx hb dX11_lawful_81 ?_
                refine lv_topl (fun w20 ew20 => ?_)
                refine lv_iload_n hx hb dX11_lawful_82 rfl (lv_at hl 3 rfl) ?_
                obtain ⟨wt9, hm1, hm2, hm3, hm4, hm5, hm6⟩ := xr16_0
                have hl9 := lw_bd (U := r15) (L := r19) (m := r16) ho9.1 ho9.2 (xr15_0.trans hu9.2.2.2.2.1) (xr19_0.trans hu9.2.2.2.2.2) ⟨hm5, hm6⟩
                rw [← ew18, ← ew20, hm4] at hl9
                obtain ⟨hl1, hl2, hl3, hl4, hl5⟩ := hl9
                refine vp_callSl (W.runS (As := [.long w18, .long w20, .int d]) (rest := []) ⟨hx, hb, hml, hown, ht⟩ (c_X11_inLeastTerms_g l dC dI w18 w20 d (show 0 ≤ (w18 : Int64).toInt from by omega) (show 1 ≤ (w20 : Int64).toInt from by omega) (show (w20 : Int64).toInt ≤ 281474976710656 from by omega)) (kS 3 ht m_581 m_582 m_77 m_583 rfl rfl hd_X11_inLeastTerms_v ⟨Nat.le_of_ble_eq_true rfl, Nat.le_of_ble_eq_true rfl⟩) (sR noP (hK.sub (tys' := []) [] rfl)) rfl rfl hl.1 rfl (lv_room (Nat.le_of_ble_eq_true rfl)) dX11_lawful_83 ⟨Nat.le_of_ble_eq_true rfl, Nat.le_of_ble_eq_true rfl⟩) (fun r21 hr21 => ?_)
                obtain ⟨hr21, xr21_0⟩ := hr21
                have xr21_0 : (((d : Int32).toInt = 0 ∧ (r21 : Int64).toInt = (w18 : Int64).toInt / gN (w18 : Int64).toInt (w20 : Int64).toInt) ∨ ((d : Int32).toInt ≠ 0 ∧ (r21 : Int64).toInt = (w20 : Int64).toInt / gN (w18 : Int64).toInt (w20 : Int64).toInt)) := xr21_0
                have hP9 : va_P (dC, dI) classes (WX h g ca (u2 (u2 iv 3 3 n12) 3 4 n13) lv (u2 (u2 fa 1 6 n17) 30 2 n9) (u2 (u2 la 30 0 n10) 30 1 n11)) H := hP
                have hD9 : va_D A (WX h g ca (u2 (u2 iv 3 3 n12) 3 4 n13) lv (u2 (u2 fa 1 6 n17) 30 2 n9) (u2 (u2 la 30 0 n10) 30 1 n11)) := hD
                exact W.lret (v := r21) hx hb hr (fun t ht9 hW => ⟨⟨r21, ((u2 (u2 iv 3 3 n12) 3 4 n13), lv, (u2 (u2 fa 1 6 n17) 30 2 n9), (u2 (u2 la 30 0 n10) 30 1 n11)), rfl, ⟨n17, n9, n10, n11, n12, n13, hn17, (show inb (0, 2) n12 from ⟨by omega, by omega⟩), (show inb (0, 2) n13 from ⟨by omega, by omega⟩), (show (((r21 : Int64).toInt = -100001 ∧ ¬ (0 ≤ (a).toInt ∧ (a).toInt < (iv 0 7).toInt)) ∨ ((r21 : Int64).toInt = -100002 ∧ (0 ≤ (a).toInt ∧ (a).toInt < (iv 0 7).toInt) ∧ ¬ (0 ≤ (b).toInt ∧ (b).toInt ≤ (iv 11 10).toInt ∧ 0 ≤ (d).toInt ∧ (d).toInt ≤ 1)) ∨ ((0 ≤ (a).toInt ∧ (a).toInt < (iv 0 7).toInt) ∧ (0 ≤ (b).toInt ∧ (b).toInt ≤ (iv 11 10).toInt ∧ 0 ≤ (d).toInt ∧ (d).toInt ≤ 1) ∧ ∃ (D R : Nat → Int64) (C : Nat → Int32) (i j ro : Int), LwS (fun q v => FoX (iv 1 7).toInt (fa 1 0) (fa 1 1) (fa 1 2) (fa 1 3) q (b).toInt v) (fa 10 0) (a).toInt (b).toInt ((iv 10 1).toInt).toNat D R C i j ro ∧ ((ro ≠ 1 ∧ (r21 : Int64).toInt = -100003) ∨ (ro = 1 ∧ ∃ wt : Int, FoX (iv 1 7).toInt (fa 1 0) (fa 1 1) (fa 1 2) (fa 1 3) 0 (b).toInt wt ∧ 0 ≤ wt ∧ ltX (upI D R i j * (((fa 0 0) ((a).toInt).toNat).toInt * (1000 + wt))) (loI R i j * 1000) (d).toInt (r21 : Int64).toInt)))) from (by have hz9 := xr21_0; rw [hl1, hl3] at hz9; exact Or.inr (Or.inr ⟨⟨by omega, by omega⟩, ⟨by omega, by omega, by omega, by omega⟩, ⟨n11, n10, n9, (n12 : Int32).toInt, (n13 : Int32).toInt, _, xr7_0, Or.inr ⟨by omega, wt9, hm1, hm2, hz9⟩⟩⟩))), trivial, rfl⟩, by rw [ht9]; exact hP9, hD9⟩, hS.F ht9⟩) hS.2.2 dX11_lawful_86
              · have fc14 := z_ne (rfl : (r7).toInt = _) (by decide : (1 : Int32).toInt = 1) c14
                refine lv_ldc2 hx hb hown (ht _ m_839) dX11_lawful_53 ?_
                have : ((-100003) : Int64).toInt = (-100003) := (by decide)
                have hP9 : va_P (dC, dI) classes (WX h g ca (u2 (u2 iv 3 3 n12) 3 4 n13) lv (u2 (u2 fa 1 6 n8) 30 2 n9) (u2 (u2 la 30 0 n10) 30 1 n11)) H := hP
                have hD9 : va_D A (WX h g ca (u2 (u2 iv 3 3 n12) 3 4 n13) lv (u2 (u2 fa 1 6 n8) 30 2 n9) (u2 (u2 la 30 0 n10) 30 1 n11)) := hD
                exact W.lret (v := (-100003)) hx hb hr (fun t ht9 hW => ⟨⟨(-100003), ((u2 (u2 iv 3 3 n12) 3 4 n13), lv, (u2 (u2 fa 1 6 n8) 30 2 n9), (u2 (u2 la 30 0 n10) 30 1 n11)), rfl, ⟨n8, n9, n10, n11, n12, n13, hn8, (show inb (0, 2) n12 from ⟨by omega, by omega⟩), (show inb (0, 2) n13 from ⟨by omega, by omega⟩), (show ((((-100003) : Int64).toInt = -100001 ∧ ¬ (0 ≤ (a).toInt ∧ (a).toInt < (iv 0 7).toInt)) ∨ (((-100003) : Int64).toInt = -100002 ∧ (0 ≤ (a).toInt ∧ (a).toInt < (iv 0 7).toInt) ∧ ¬ (0 ≤ (b).toInt ∧ (b).toInt ≤ (iv 11 10).toInt ∧ 0 ≤ (d).toInt ∧ (d).toInt ≤ 1)) ∨ ((0 ≤ (a).toInt ∧ (a).toInt < (iv 0 7).toInt) ∧ (0 ≤ (b).toInt ∧ (b).toInt ≤ (iv 11 10).toInt ∧ 0 ≤ (d).toInt ∧ (d).toInt ≤ 1) ∧ ∃ (D R : Nat → Int64) (C : Nat → Int32) (i j ro : Int), LwS (fun q v => FoX (iv 1 7).toInt (fa 1 0) (fa 1 1) (fa 1 2) (fa 1 3) q (b).toInt v) (fa 10 0) (a).toInt (b).toInt ((iv 10 1).toInt).toNat D R C i j ro ∧ ((ro ≠ 1 ∧ ((-100003) : Int64).toInt = -100003) ∨ (ro = 1 ∧ ∃ wt : Int, FoX (iv 1 7).toInt (fa 1 0) (fa 1 1) (fa 1 2) (fa 1 3) 0 (b).toInt wt ∧ 0 ≤ wt ∧ ltX (upI D R i j * (((fa 0 0) ((a).toInt).toNat).toInt * (1000 + wt))) (loI R i j * 1000) (d).toInt ((-100003) : Int64).toInt)))) from Or.inr (Or.inr ⟨⟨by omega, by omega⟩, ⟨by omega, by omega, by omega, by omega⟩, ⟨n11, n10, n9, (n12 : Int32).toInt, (n13 : Int32).toInt, _, xr7_0, Or.inl ⟨by omega, by omega⟩⟩⟩)), trivial, rfl⟩, by rw [ht9]; exact hP9, hD9⟩, hS.F ht9⟩) hS.2.2 dX11_lawful_56
            · exact absurd c6 (by decide)
          · skip
            refine lv_if_ne (tgt := 40) hx hb dX11_lawful_33 (by decide) (fun c22 => ?_) (fun c22 => ?_)
            · exact absurd rfl c22
            · skip
              refine lv_ldc2 hx hb hown (ht _ m_838) dX11_lawful_36 ?_
              have : ((-100002) : Int64).toInt = (-100002) := (by decide)
              have hP9 : va_P (dC, dI) classes (WX h g ca (u2 (u2 iv 3 3 (iv 3 3)) 3 4 (iv 3 4)) lv (u2 (u2 fa 1 6 (fa 1 6)) 30 2 (fa 30 2)) (u2 (u2 la 30 0 (la 30 0)) 30 1 (la 30 1))) s.heap := hP
              have hD9 : va_D A (WX h g ca (u2 (u2 iv 3 3 (iv 3 3)) 3 4 (iv 3 4)) lv (u2 (u2 fa 1 6 (fa 1 6)) 30 2 (fa 30 2)) (u2 (u2 la 30 0 (la 30 0)) 30 1 (la 30 1))) := hD
              exact W.lret (v := (-100002)) hx hb hr (fun t ht9 hW => ⟨⟨(-100002), ((u2 (u2 iv 3 3 (iv 3 3)) 3 4 (iv 3 4)), lv, (u2 (u2 fa 1 6 (fa 1 6)) 30 2 (fa 30 2)), (u2 (u2 la 30 0 (la 30 0)) 30 1 (la 30 1))), rfl, ⟨(fa 1 6), (fa 30 2), (la 30 0), (la 30 1), (iv 3 3), (iv 3 4), (hI.2 1 6), (hI.1 3 3), (hI.1 3 4), (show ((((-100002) : Int64).toInt = -100001 ∧ ¬ (0 ≤ (a).toInt ∧ (a).toInt < (iv 0 7).toInt)) ∨ (((-100002) : Int64).toInt = -100002 ∧ (0 ≤ (a).toInt ∧ (a).toInt < (iv 0 7).toInt) ∧ ¬ (0 ≤ (b).toInt ∧ (b).toInt ≤ (iv 11 10).toInt ∧ 0 ≤ (d).toInt ∧ (d).toInt ≤ 1)) ∨ ((0 ≤ (a).toInt ∧ (a).toInt < (iv 0 7).toInt) ∧ (0 ≤ (b).toInt ∧ (b).toInt ≤ (iv 11 10).toInt ∧ 0 ≤ (d).toInt ∧ (d).toInt ≤ 1) ∧ ∃ (D R : Nat → Int64) (C : Nat → Int32) (i j ro : Int), LwS (fun q v => FoX (iv 1 7).toInt (fa 1 0) (fa 1 1) (fa 1 2) (fa 1 3) q (b).toInt v) (fa 10 0) (a).toInt (b).toInt ((iv 10 1).toInt).toNat D R C i j ro ∧ ((ro ≠ 1 ∧ ((-100002) : Int64).toInt = -100003) ∨ (ro = 1 ∧ ∃ wt : Int, FoX (iv 1 7).toInt (fa 1 0) (fa 1 1) (fa 1 2) (fa 1 3) 0 (b).toInt wt ∧ 0 ≤ wt ∧ ltX (upI D R i j * (((fa 0 0) ((a).toInt).toNat).toInt * (1000 + wt))) (loI R i j * 1000) (d).toInt ((-100002) : Int64).toInt)))) from Or.inr (Or.inl ⟨by omega, ⟨by omega, by omega⟩, by omega⟩)), trivial, rfl⟩, by rw [ht9]; exact hP9, hD9⟩, hS.F ht9⟩) hS.2.2 dX11_lawful_39
      · skip
        refine lv_if_eq (tgt := 36) hx hb dX11_lawful_24 (by decide) (fun c23 => ?_) (fun c23 => ?_)
        · skip
          refine lv_ldc2 hx hb hown (ht _ m_838) dX11_lawful_36 ?_
          have : ((-100002) : Int64).toInt = (-100002) := (by decide)
          have hP9 : va_P (dC, dI) classes (WX h g ca (u2 (u2 iv 3 3 (iv 3 3)) 3 4 (iv 3 4)) lv (u2 (u2 fa 1 6 (fa 1 6)) 30 2 (fa 30 2)) (u2 (u2 la 30 0 (la 30 0)) 30 1 (la 30 1))) s.heap := hP
          have hD9 : va_D A (WX h g ca (u2 (u2 iv 3 3 (iv 3 3)) 3 4 (iv 3 4)) lv (u2 (u2 fa 1 6 (fa 1 6)) 30 2 (fa 30 2)) (u2 (u2 la 30 0 (la 30 0)) 30 1 (la 30 1))) := hD
          exact W.lret (v := (-100002)) hx hb hr (fun t ht9 hW => ⟨⟨(-100002), ((u2 (u2 iv 3 3 (iv 3 3)) 3 4 (iv 3 4)), lv, (u2 (u2 fa 1 6 (fa 1 6)) 30 2 (fa 30 2)), (u2 (u2 la 30 0 (la 30 0)) 30 1 (la 30 1))), rfl, ⟨(fa 1 6), (fa 30 2), (la 30 0), (la 30 1), (iv 3 3), (iv 3 4), (hI.2 1 6), (hI.1 3 3), (hI.1 3 4), (show ((((-100002) : Int64).toInt = -100001 ∧ ¬ (0 ≤ (a).toInt ∧ (a).toInt < (iv 0 7).toInt)) ∨ (((-100002) : Int64).toInt = -100002 ∧ (0 ≤ (a).toInt ∧ (a).toInt < (iv 0 7).toInt) ∧ ¬ (0 ≤ (b).toInt ∧ (b).toInt ≤ (iv 11 10).toInt ∧ 0 ≤ (d).toInt ∧ (d).toInt ≤ 1)) ∨ ((0 ≤ (a).toInt ∧ (a).toInt < (iv 0 7).toInt) ∧ (0 ≤ (b).toInt ∧ (b).toInt ≤ (iv 11 10).toInt ∧ 0 ≤ (d).toInt ∧ (d).toInt ≤ 1) ∧ ∃ (D R : Nat → Int64) (C : Nat → Int32) (i j ro : Int), LwS (fun q v => FoX (iv 1 7).toInt (fa 1 0) (fa 1 1) (fa 1 2) (fa 1 3) q (b).toInt v) (fa 10 0) (a).toInt (b).toInt ((iv 10 1).toInt).toNat D R C i j ro ∧ ((ro ≠ 1 ∧ ((-100002) : Int64).toInt = -100003) ∨ (ro = 1 ∧ ∃ wt : Int, FoX (iv 1 7).toInt (fa 1 0) (fa 1 1) (fa 1 2) (fa 1 3) 0 (b).toInt wt ∧ 0 ≤ wt ∧ ltX (upI D R i j * (((fa 0 0) ((a).toInt).toNat).toInt * (1000 + wt))) (loI R i j * 1000) (d).toInt ((-100002) : Int64).toInt)))) from Or.inr (Or.inl ⟨by omega, ⟨by omega, by omega⟩, by omega⟩)), trivial, rfl⟩, by rw [ht9]; exact hP9, hD9⟩, hS.F ht9⟩) hS.2.2 dX11_lawful_39
        · exact absurd rfl c23
    · exact absurd c2 (by decide)
  · skip
    have i_0_7 : 0 ≤ (iv 0 7).toInt ∧ (iv 0 7).toInt ≤ 10 := hI.1 0 7
    have fr1 : ¬ (0 ≤ (a : Int32).toInt ∧ (a : Int32).toInt < ((iv 0 7) : Int32).toInt) := fr1
    refine lv_if_ne (tgt := 15) hx hb dX11_lawful_8 (by decide) (fun c24 => ?_) (fun c24 => ?_)
    · exact absurd rfl c24
    · skip
      refine lv_ldc2 hx hb hown (ht _ m_837) dX11_lawful_11 ?_
      have : ((-100001) : Int64).toInt = (-100001) := (by decide)
      have hP9 : va_P (dC, dI) classes (WX h g ca (u2 (u2 iv 3 3 (iv 3 3)) 3 4 (iv 3 4)) lv (u2 (u2 fa 1 6 (fa 1 6)) 30 2 (fa 30 2)) (u2 (u2 la 30 0 (la 30 0)) 30 1 (la 30 1))) s.heap := hP
      have hD9 : va_D A (WX h g ca (u2 (u2 iv 3 3 (iv 3 3)) 3 4 (iv 3 4)) lv (u2 (u2 fa 1 6 (fa 1 6)) 30 2 (fa 30 2)) (u2 (u2 la 30 0 (la 30 0)) 30 1 (la 30 1))) := hD
      exact W.lret (v := (-100001)) hx hb hr (fun t ht9 hW => ⟨⟨(-100001), ((u2 (u2 iv 3 3 (iv 3 3)) 3 4 (iv 3 4)), lv, (u2 (u2 fa 1 6 (fa 1 6)) 30 2 (fa 30 2)), (u2 (u2 la 30 0 (la 30 0)) 30 1 (la 30 1))), rfl, ⟨(fa 1 6), (fa 30 2), (la 30 0), (la 30 1), (iv 3 3), (iv 3 4), (hI.2 1 6), (hI.1 3 3), (hI.1 3 4), (show ((((-100001) : Int64).toInt = -100001 ∧ ¬ (0 ≤ (a).toInt ∧ (a).toInt < (iv 0 7).toInt)) ∨ (((-100001) : Int64).toInt = -100002 ∧ (0 ≤ (a).toInt ∧ (a).toInt < (iv 0 7).toInt) ∧ ¬ (0 ≤ (b).toInt ∧ (b).toInt ≤ (iv 11 10).toInt ∧ 0 ≤ (d).toInt ∧ (d).toInt ≤ 1)) ∨ ((0 ≤ (a).toInt ∧ (a).toInt < (iv 0 7).toInt) ∧ (0 ≤ (b).toInt ∧ (b).toInt ≤ (iv 11 10).toInt ∧ 0 ≤ (d).toInt ∧ (d).toInt ≤ 1) ∧ ∃ (D R : Nat → Int64) (C : Nat → Int32) (i j ro : Int), LwS (fun q v => FoX (iv 1 7).toInt (fa 1 0) (fa 1 1) (fa 1 2) (fa 1 3) q (b).toInt v) (fa 10 0) (a).toInt (b).toInt ((iv 10 1).toInt).toNat D R C i j ro ∧ ((ro ≠ 1 ∧ ((-100001) : Int64).toInt = -100003) ∨ (ro = 1 ∧ ∃ wt : Int, FoX (iv 1 7).toInt (fa 1 0) (fa 1 1) (fa 1 2) (fa 1 3) 0 (b).toInt wt ∧ 0 ≤ wt ∧ ltX (upI D R i j * (((fa 0 0) ((a).toInt).toNat).toInt * (1000 + wt))) (loI R i j * 1000) (d).toInt ((-100001) : Int64).toInt)))) from Or.inl ⟨by omega, by omega⟩), trivial, rfl⟩, by rw [ht9]; exact hP9, hD9⟩, hS.F ht9⟩) hS.2.2 dX11_lawful_14
