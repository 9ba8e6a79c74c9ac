/-! ===== sz1 ===== -/
set_option maxHeartbeats 4000000 in
set_option maxRecDepth 100000 in
/-- X0_reel -/
theorem c_X0_reel_z (l : Launch) (dC : Nat → ClassId) (dI : Nat → Nat → Nat) (sz : Nat) (h : Nat) (g : Nat → Nat → Nat) (ca : Nat → Nat → ClassId) (iv : Nat → Nat → Int32) (lv : Nat → Nat → Int64) (fa : Nat → Nat → Nat → Int32) (la : Nat → Nat → Nat → Int64) (hI : IX iv fa) (b : Int32) (a : Int32) (z_0_1 : 0 ≤ (fa 0 1 b.toNatClampNeg).toInt ∧ (fa 0 1 b.toNatClampNeg).toInt ≤ 11) (h_b : 0 ≤ b.toInt ∧ b.toInt ≤ 9) (h_a : 1 ≤ a.toInt ∧ a.toInt ≤ 999) : Met l yX0_reel (wc yX0_reel cX0_reel 3 (some .int)) ({ frames := 0, cells := 0, slots := 0, locals := 0 } : Room) (pW (dC, dI) classes (WX h g ca iv lv fa la) (TX ca) sz [.ref (g 11 2), .int b, .int a]) (va_Qi (fun r (u : SS) => ∃ (na_0_1 : Nat → Int32) (na_0_5 : Nat → Int32), (∀ j, inb (bA 0 1 j) (na_0_1 j)) ∧ (∀ j : Nat, j ≠ b.toNatClampNeg → na_0_1 j = (fa 0 1) j) ∧ (r.toInt = ((fa 0 1) b.toNatClampNeg).toInt + 1) ∧ ((na_0_1 b.toNatClampNeg).toInt = r.toInt) ∧ (∀ j : Nat, j ≠ (12 * (b.toInt).toNat + (((fa 0 1) (b.toInt).toNat).toInt).toNat) → na_0_5 j = (fa 0 5) j) ∧ ((na_0_5 (12 * (b.toInt).toNat + (((fa 0 1) (b.toInt).toNat).toInt).toNat)).toInt = 2 * a.toInt) ∧ (0 ≤ r.toInt ∧ r.toInt ≤ 12) ∧ u = (iv, lv, (u2 (u2 fa 0 1 na_0_1) 0 5 na_0_5), la)) (bX (dC, dI) h g ca (va_A (WX h g ca iv lv fa la) sz)) (va_A (WX h g ca iv lv fa la) sz)) 0 0 (va_A (WX h g ca iv lv fa la) sz) := by
  refine Met.ofW (cc := cX0_reel) (maxL := 3) (ret := (some .int)) (by decide) rfl ?_
  intro p e s m args below meth c s₁ B hml hv
  obtain ⟨rfl, hsz, hP, hK, hD0⟩ := hv
  have hx := B.exec
  have hb := B.bytes
  have hr := B.returns
  have ht := tb_tl (atoms_spec (ws := wc yX0_reel cX0_reel 3 (some .int)) B.pre)
  have hown : s.vm.findClass RX0 = some m.cls := findClass_of_methodNamed B.named
  have hlocks := B.notSynchronized
  subst hsz
  have hD := hD0.self (sz := s.heap.size)
  generalize hAe : va_A (WX h g ca iv lv fa la) s.heap.size = A at hD ⊢
  have hA : ∀ q : Nat, s.heap.size ≤ q → A q := fun q h => by rw [← hAe]; exact Or.inr h
  have hS : va_S A s.heap s.heap [] := va_S.rf
  have hl := lv_entry [.ref (g 11 2), .int b, .int a] (n := 3) (Nat.le_of_ble_eq_true rfl)
  rw [lg_entry_eq]
  generalize (lg_sl [.ref (g 11 2), .int b, .int a] ++ List.replicate (3 - (lg_sl [.ref (g 11 2), .int b, .int a]).length) Slot.unset).toArray = ls at hl ⊢
  have hl : lv_has ls 3 [(0, .ref (g 11 2)), (1, .int b), (2, .int a)] := hl
  refine lv_aload_n hx hb dX0_reel_0 rfl (lv_at hl 0 rfl) ?_
  refine gX_0_5 hx hb ht hown hK hP m_162 dX0_reel_1 ?_
  refine lv_iload_n hx hb dX0_reel_4 rfl (lv_at hl 1 rfl) ?_
  refine lv_bipush (v := 12) hx hb dX0_reel_5 (by decide) ?_
  refine lv_imul hx hb dX0_reel_7 ?_
  refine lv_topi (fun v1 ev1 => ?_)
  have tv1 := z_mul ev1 (rfl : (b).toInt = _) (by decide : (12 : Int32).toInt = 12) (by omega) (by omega)
  refine lv_aload_n hx hb dX0_reel_8 rfl (lv_at hl 0 rfl) ?_
  refine gX_0_1 hx hb ht hown hK hP m_154 dX0_reel_9 ?_
  refine lv_iload_n hx hb dX0_reel_12 rfl (lv_at hl 1 rfl) ?_
  refine lX_0_1 hx hb hK hP (f := (fa 0 1)) rfl (vp_in_iff.mpr ⟨by omega, by omega⟩) dX0_reel_13 ?_
  refine lv_topi (fun v2 ev2 => ?_)
  have tv2 : 0 ≤ v2.toInt ∧ v2.toInt ≤ 11 := by rw [ev2]; exact z_0_1
  refine lv_iadd hx hb dX0_reel_14 ?_
  refine lv_topi (fun v3 ev3 => ?_)
  have tv3 := z_add ev3 (rfl : (v1).toInt = _) (rfl : (v2).toInt = _) (by omega) (by omega)
  refine lv_iconst (v := 2) hx hb dX0_reel_15 (by decide) ?_
  refine lv_iload_n hx hb dX0_reel_16 rfl (lv_at hl 2 rfl) ?_
  refine lv_imul hx hb dX0_reel_17 ?_
  refine lv_topi (fun v4 ev4 => ?_)
  have tv4 := z_mul ev4 (by decide : (2 : Int32).toInt = 2) (rfl : (a).toInt = _) (by omega) (by omega)
  refine tX_0_5 hx hb hK hP hD hS (f0 := (fa 0 5)) rfl (i := v3) (x := v4) (vp_in_iff.mpr ⟨by omega, by omega⟩) dX0_reel_18 (fun f5 ef5 H locs hP hD hS => ?_)
  have hf5 : ∀ j, inb (bA 0 5 j) (f5 j) := fun j => full_i _
  refine lv_aload_n hx hb dX0_reel_19 rfl (lv_at hl 0 rfl) ?_
  refine gX_0_1 hx hb ht hown hK hP m_154 dX0_reel_20 ?_
  refine lv_iload_n hx hb dX0_reel_23 rfl (lv_at hl 1 rfl) ?_
  refine lv_dup2_11 hx hb dX0_reel_24 rfl rfl ?_
  refine lX_0_1 hx hb hK hP (f := (fa 0 1)) rfl (vp_in_iff.mpr ⟨by omega, by omega⟩) dX0_reel_25 ?_
  refine lv_topi (fun v6 ev6 => ?_)
  obtain rfl : v2 = v6 := ev2.trans ev6.symm
  refine lv_iconst (v := 1) hx hb dX0_reel_26 (by decide) ?_
  refine lv_iadd hx hb dX0_reel_27 ?_
  refine lv_topi (fun v7 ev7 => ?_)
  have tv7 := z_add ev7 (rfl : (v2).toInt = _) (by decide : (1 : Int32).toInt = 1) (by omega) (by omega)
  refine tX_0_1 hx hb hK hP hD hS (f0 := (fa 0 1)) rfl (i := b) (x := v7) (vp_in_iff.mpr ⟨by omega, by omega⟩) dX0_reel_28 (fun f8 ef8 H locs hP hD hS => ?_)
  have hf8 : ∀ j, inb (bA 0 1 j) (f8 j) := by rw [ef8]; exact upd_b (b := bA 0 1) (hI.2 0 1) (show inb (0, 12) v7 from ⟨by omega, by omega⟩)
  refine lv_aload_n hx hb dX0_reel_29 rfl (lv_at hl 0 rfl) ?_
  refine gX_0_1 hx hb ht hown hK hP m_154 dX0_reel_30 ?_
  refine lv_iload_n hx hb dX0_reel_33 rfl (lv_at hl 1 rfl) ?_
  refine lX_0_1 hx hb hK hP (f := f8) rfl (vp_in_iff.mpr ⟨by omega, by omega⟩) dX0_reel_34 ?_
  refine lv_topi (fun v9 ev9 => ?_)
  have tv9 : 0 ≤ v9.toInt ∧ v9.toInt ≤ 12 := by rw [ev9]; exact hf8 _
  have hP9 : va_P (dC, dI) classes (WX h g ca iv lv (u2 (u2 fa 0 1 f8) 0 5 f5) la) H := hP
  have hD9 : va_D A (WX h g ca iv lv (u2 (u2 fa 0 1 f8) 0 5 f5) la) := hD
  exact W.iret (v := v9) hx hb hr (fun t ht9 hW => ⟨⟨v9, (iv, lv, (u2 (u2 fa 0 1 f8) 0 5 f5), la), rfl, ⟨f8, f5, hf8, (show ∀ j : Nat, j ≠ b.toNatClampNeg → f8 j = (fa 0 1) j from fun j hj => by rw [ef8, upd_ne hj]), (show (v9 : Int32).toInt = ((fa 0 1) b.toNatClampNeg).toInt + 1 from (by have h1 := congrArg Int32.toInt ev2; have h2 := congrArg Int32.toInt (ev9.trans (show f8 (b : Int32).toNatClampNeg = v7 from (by rw [ef8]; exact upd_eq))); omega)), (show (f8 b.toNatClampNeg).toInt = (v9 : Int32).toInt from (congrArg Int32.toInt ev9).symm), (show ∀ j : Nat, j ≠ (12 * ((b).toInt).toNat + (((fa 0 1) ((b).toInt).toNat).toInt).toNat) → f5 j = (fa 0 5) j from (by have h1 := congrArg Int32.toInt (show v2 = fa 0 1 (b.toInt).toNat from ev2); have h2 : 12 * (b.toInt).toNat + ((fa 0 1 (b.toInt).toNat).toInt).toNat = (v3 : Int32).toNatClampNeg := (by show _ = (v3 : Int32).toInt.toNat; omega); rw [h2]; exact fun j hj => by rw [ef5, upd_ne hj])), (show (f5 (12 * ((b).toInt).toNat + (((fa 0 1) ((b).toInt).toNat).toInt).toNat)).toInt = 2 * (a).toInt from (by have h1 := congrArg Int32.toInt (show v2 = fa 0 1 (b.toInt).toNat from ev2); have h2 : 12 * (b.toInt).toNat + ((fa 0 1 (b.toInt).toNat).toInt).toNat = (v3 : Int32).toNatClampNeg := (by show _ = (v3 : Int32).toInt.toNat; omega); rw [h2, ef5, upd_eq]; omega)), ⟨by omega, by omega⟩, rfl⟩, by rw [ht9]; exact hP9, hD9⟩, hS.F ht9⟩) hS.2.2 dX0_reel_35
set_option maxHeartbeats 4000000 in
set_option maxRecDepth 100000 in
/-- X11_thread -/
theorem c_X11_thread_z (l : Launch) (dC : Nat → ClassId) (dI : Nat → Nat → Nat) (sz : Nat) (h : Nat) (g : Nat → Nat → Nat) (ca : Nat → Nat → ClassId) (iv : Nat → Nat → Int32) (lv : Nat → Nat → Int64) (fa : Nat → Nat → Nat → Int32) (la : Nat → Nat → Nat → Int64) (hI : IX iv fa) (a : Int32) (b : Int32) : Met l yX11_thread (wc yX11_thread cX11_thread 3 (some .int)) ({ frames := 1, cells := 0, slots := 0, locals := 22 } : Room) (pW (dC, dI) classes (WX h g ca iv lv fa la) (TX ca) sz [.ref h, .int a, .int b]) (va_Qi (fun r (u : SS) => ∃ (na_0_1 : Nat → Int32) (na_0_5 : Nat → Int32), (∀ j, inb (bA 0 1 j) (na_0_1 j)) ∧ (((r.toInt = -100001 ∧ ¬ (0 ≤ a.toInt ∧ a.toInt < (iv 0 7).toInt)) ∨ (r.toInt = -100002 ∧ 0 ≤ a.toInt ∧ a.toInt < (iv 0 7).toInt ∧ ¬ (1 ≤ b.toInt ∧ b.toInt ≤ 999)) ∨ (r.toInt = -100004 ∧ 0 ≤ a.toInt ∧ a.toInt < (iv 0 7).toInt ∧ 1 ≤ b.toInt ∧ b.toInt ≤ 999 ∧ 12 ≤ ((fa 0 1) a.toNatClampNeg).toInt) ∨ (0 ≤ a.toInt ∧ a.toInt < (iv 0 7).toInt ∧ 1 ≤ b.toInt ∧ b.toInt ≤ 999 ∧ ((fa 0 1) a.toNatClampNeg).toInt < 12 ∧ r.toInt = ((fa 0 1) a.toNatClampNeg).toInt + 1))) ∧ (∀ j : Nat, j ≠ a.toNatClampNeg → na_0_1 j = (fa 0 1) j) ∧ (((r.toInt < 0 ∧ (na_0_1 a.toNatClampNeg) = ((fa 0 1) a.toNatClampNeg)) ∨ (0 ≤ r.toInt ∧ (na_0_1 a.toNatClampNeg).toInt = r.toInt))) ∧ (((r.toInt < 0 ∧ ∀ j : Nat, na_0_5 j = (fa 0 5) j) ∨ (0 ≤ r.toInt ∧ (∀ j : Nat, j ≠ (12 * (a.toInt).toNat + (((fa 0 1) (a.toInt).toNat).toInt).toNat) → na_0_5 j = (fa 0 5) j) ∧ (na_0_5 (12 * (a.toInt).toNat + (((fa 0 1) (a.toInt).toNat).toInt).toNat)).toInt = 2 * b.toInt))) ∧ ((-100004) ≤ r.toInt ∧ r.toInt ≤ 12) ∧ u = (iv, lv, (u2 (u2 fa 0 1 na_0_1) 0 5 na_0_5), la)) (bX (dC, dI) h g ca (va_A (WX h g ca iv lv fa la) sz)) (va_A (WX h g ca iv lv fa la) sz)) 0 0 (va_A (WX h g ca iv lv fa la) sz) := by
  refine Met.ofW (cc := cX11_thread) (maxL := 3) (ret := (some .int)) (by decide) rfl ?_
  intro p e s m args below meth c s₁ B hml hv
  obtain ⟨rfl, hsz, hP, hK, hD0⟩ := hv
  have hx := B.exec
  have hb := B.bytes
  have hr := B.returns
  have ht := tb_tl (atoms_spec (ws := wc yX11_thread cX11_thread 3 (some .int)) B.pre)
  have hown : s.vm.findClass RX11 = some m.cls := findClass_of_methodNamed B.named
  have hlocks := B.notSynchronized
  subst hsz
  have hD := hD0.self (sz := s.heap.size)
  generalize hAe : va_A (WX h g ca iv lv fa la) s.heap.size = A at hD ⊢
  have hA : ∀ q : Nat, s.heap.size ≤ q → A q := fun q h => by rw [← hAe]; exact Or.inr h
  have hS : va_S A s.heap s.heap [] := va_S.rf
  have hl := lv_entry [.ref h, .int a, .int b] (n := 3) (Nat.le_of_ble_eq_true rfl)
  rw [lg_entry_eq]
  generalize (lg_sl [.ref h, .int a, .int b] ++ List.replicate (3 - (lg_sl [.ref h, .int a, .int b]).length) Slot.unset).toArray = ls at hl ⊢
  have hl : lv_has ls 3 [(0, .ref h), (1, .int a), (2, .int b)] := hl
  refine lv_aload_n hx hb dX11_thread_0 rfl (lv_at hl 0 rfl) ?_
  refine gX_11_2 hx hb ht hown hK hP m_417 dX11_thread_1 ?_
  refine lv_iload_n hx hb dX11_thread_4 rfl (lv_at hl 1 rfl) ?_
  refine vp_callSi (W.runV (As := [.int a]) (rest := []) ⟨hx, hb, hml, hown, ht⟩ (c_X0_has l dC dI h g ca iv lv fa la hI a) (kV 1 ht m_472 m_473 m_474 m_80 m_475 rfl rfl hd_X0_has_v ⟨Nat.le_of_ble_eq_true rfl, Nat.le_of_ble_eq_true rfl⟩) (vR hP hK (rX_0 hK hP)) rfl rfl hl.1 rfl (lv_room (Nat.le_of_ble_eq_true rfl)) dX11_thread_5 ⟨Nat.le_of_ble_eq_true rfl, Nat.le_of_ble_eq_true rfl⟩) (fun r1 hr1 => ?_)
  rcases hr1 with ⟨rfl, fr1⟩ | ⟨rfl, fr1⟩
  · skip
    have i_0_7 : 0 ≤ (iv 0 7).toInt ∧ (iv 0 7).toInt ≤ 10 := hI.1 0 7
    have fr1 : (0 ≤ (a : Int32).toInt ∧ (a : Int32).toInt < ((iv 0 7) : Int32).toInt) := fr1
    refine lv_if_ne (tgt := 14) hx hb dX11_thread_8 (by decide) (fun c2 => ?_) (fun c2 => ?_)
    · skip
      refine lv_iload_n hx hb dX11_thread_14 rfl (lv_at hl 2 rfl) ?_
      refine lv_iconst (v := 1) hx hb dX11_thread_15 (by decide) ?_
      refine lv_sipush (v := 999) hx hb dX11_thread_16 (by decide) ?_
      refine vp_callSi (W.runS (As := [.int b, .int 1, .int 999]) (rest := []) ⟨hx, hb, hml, hown, ht⟩ (c_X11_within l dC dI b 1 999 (b.toInt) (1) (999) (rfl : (b).toInt = _) (by decide : (1 : Int32).toInt = 1) (by decide : (999 : Int32).toInt = 999)) (kS 3 ht m_453 m_454 m_77 m_455 rfl rfl hd_X11_within_v ⟨Nat.le_of_ble_eq_true rfl, Nat.le_of_ble_eq_true rfl⟩) (sR noP (hK.sub (tys' := []) [] rfl)) rfl rfl hl.1 rfl (lv_room (Nat.le_of_ble_eq_true rfl)) dX11_thread_19 ⟨Nat.le_of_ble_eq_true rfl, Nat.le_of_ble_eq_true rfl⟩) (fun r3 hr3 => ?_)
      rcases hr3 with ⟨rfl, fr3⟩ | ⟨rfl, fr3⟩
      · skip
        refine lv_if_ne (tgt := 28) hx hb dX11_thread_22 (by decide) (fun c4 => ?_) (fun c4 => ?_)
        · skip
          refine lv_aload_n hx hb dX11_thread_28 rfl (lv_at hl 0 rfl) ?_
          refine gX_11_2 hx hb ht hown hK hP m_417 dX11_thread_29 ?_
          refine gX_0_1 hx hb ht hown hK hP m_155 dX11_thread_32 ?_
          refine lv_iload_n hx hb dX11_thread_35 rfl (lv_at hl 1 rfl) ?_
          refine lX_0_1 hx hb hK hP (f := (fa 0 1)) rfl (vp_in_iff.mpr ⟨by omega, by omega⟩) dX11_thread_36 ?_
          refine lv_topi (fun v5 ev5 => ?_)
          have tv5 : 0 ≤ v5.toInt ∧ v5.toInt ≤ 12 := by rw [ev5]; exact hI.2 0 1 _
          refine lv_bipush (v := 12) hx hb dX11_thread_37 (by decide) ?_
          refine lv_icmp_lt (tgt := 47) hx hb dX11_thread_39 (by decide) (fun c6 => ?_) (fun c6 => ?_)
          · have fc6 := z_lt (rfl : (v5).toInt = _) (by decide : (12 : Int32).toInt = 12) c6
            refine lv_aload_n hx hb dX11_thread_47 rfl (lv_at hl 0 rfl) ?_
            refine gX_11_2 hx hb ht hown hK hP m_417 dX11_thread_48 ?_
            refine lv_iload_n hx hb dX11_thread_51 rfl (lv_at hl 1 rfl) ?_
            refine lv_iload_n hx hb dX11_thread_52 rfl (lv_at hl 2 rfl) ?_
            have hFc := free_all hD hS hA
            refine va_calli (va_runV (As := [.int a, .int b]) (rest := []) ⟨hx, hb, hml, hown, ht⟩ (c_X0_reel_z l dC dI s.heap.size h g ca iv lv fa la hI a b (show 0 ≤ ((fa 0 1) (a : Int32).toNatClampNeg).toInt ∧ ((fa 0 1) (a : Int32).toNatClampNeg).toInt ≤ 11 from by rw [← ev5]; exact ⟨by omega, by omega⟩) ⟨by omega, by omega⟩ ⟨by omega, by omega⟩) (kV 2 ht m_945 m_946 m_947 m_80 m_948 rfl rfl hd_X0_reel_v ⟨Nat.le_of_ble_eq_true rfl, Nat.le_of_ble_eq_true rfl⟩) (vW hP hK hD (rX_0 hK hP)) rfl rfl hl.1 rfl (lv_room (Nat.le_of_ble_eq_true rfl)) dX11_thread_53 ⟨Nat.le_of_ble_eq_true rfl, Nat.le_of_ble_eq_true rfl⟩) hS (fun q _ h => hFc q h) hFc (fun r7 u t H1 locs ht9 hvm hr7 hB hz1 hk1 hS => ?_)
            obtain ⟨n8, n9, hn8, xr7_0, xr7_1, xr7_2, xr7_3, xr7_4, hr7, rfl⟩ := hr7
            have hn9 : ∀ j, inb (bA 0 5 j) (n9 j) := fun j => full_i _
            obtain ⟨hP, hD⟩ := hB
            rw [ht9] at hP
            generalize H1 = H at hP hS ⊢
            have hP : va_P (dC, dI) classes (WX h g ca iv lv (u2 (u2 fa 0 1 n8) 0 5 n9) la) H := hP
            have hD : va_D A (WX h g ca iv lv (u2 (u2 fa 0 1 n8) 0 5 n9) la) := (show va_D _ (WX h g ca iv lv (u2 (u2 fa 0 1 n8) 0 5 n9) la) from hD).weaken (fun _ _ _ h => hFc _ h)
            have xr7_0 : ∀ j : Nat, j ≠ (a : Int32).toNatClampNeg → n8 j = (fa 0 1) j := xr7_0
            have xr7_1 : (r7 : Int32).toInt = ((fa 0 1) (a : Int32).toNatClampNeg).toInt + 1 := xr7_1
            have xr7_2 : (n8 (a : Int32).toNatClampNeg).toInt = (r7 : Int32).toInt := xr7_2
            have xr7_3 : ∀ j : Nat, j ≠ (12 * ((a : Int32).toInt).toNat + (((fa 0 1) ((a : Int32).toInt).toNat).toInt).toNat) → n9 j = (fa 0 5) j := xr7_3
            have xr7_4 : (n9 (12 * ((a : Int32).toInt).toNat + (((fa 0 1) ((a : Int32).toInt).toNat).toInt).toNat)).toInt = 2 * (b : Int32).toInt := xr7_4
            have hP9 : va_P (dC, dI) classes (WX h g ca iv lv (u2 (u2 fa 0 1 n8) 0 5 n9) la) H := hP
            have hD9 : va_D A (WX h g ca iv lv (u2 (u2 fa 0 1 n8) 0 5 n9) la) := hD
            exact W.iret (v := r7) hx hb hr (fun t ht9 hW => ⟨⟨r7, (iv, lv, (u2 (u2 fa 0 1 n8) 0 5 n9), la), rfl, ⟨n8, n9, hn8, (show (((r7 : Int32).toInt = -100001 ∧ ¬ (0 ≤ (a).toInt ∧ (a).toInt < (iv 0 7).toInt)) ∨ ((r7 : Int32).toInt = -100002 ∧ 0 ≤ (a).toInt ∧ (a).toInt < (iv 0 7).toInt ∧ ¬ (1 ≤ (b).toInt ∧ (b).toInt ≤ 999)) ∨ ((r7 : Int32).toInt = -100004 ∧ 0 ≤ (a).toInt ∧ (a).toInt < (iv 0 7).toInt ∧ 1 ≤ (b).toInt ∧ (b).toInt ≤ 999 ∧ 12 ≤ ((fa 0 1) a.toNatClampNeg).toInt) ∨ (0 ≤ (a).toInt ∧ (a).toInt < (iv 0 7).toInt ∧ 1 ≤ (b).toInt ∧ (b).toInt ≤ 999 ∧ ((fa 0 1) a.toNatClampNeg).toInt < 12 ∧ (r7 : Int32).toInt = ((fa 0 1) a.toNatClampNeg).toInt + 1)) from (by have := congrArg Int32.toInt ev5; have := xr7_1; omega)), (show ∀ j : Nat, j ≠ a.toNatClampNeg → n8 j = (fa 0 1) j from xr7_0), (show (((r7 : Int32).toInt < 0 ∧ (n8 a.toNatClampNeg) = ((fa 0 1) a.toNatClampNeg)) ∨ (0 ≤ (r7 : Int32).toInt ∧ (n8 a.toNatClampNeg).toInt = (r7 : Int32).toInt)) from (by have := congrArg Int32.toInt ev5; have h1 := xr7_1; have h2 := xr7_2; exact Or.inr ⟨by omega, by omega⟩)), (show (((r7 : Int32).toInt < 0 ∧ ∀ j : Nat, n9 j = (fa 0 5) j) ∨ (0 ≤ (r7 : Int32).toInt ∧ (∀ j : Nat, j ≠ (12 * ((a).toInt).toNat + (((fa 0 1) ((a).toInt).toNat).toInt).toNat) → n9 j = (fa 0 5) j) ∧ (n9 (12 * ((a).toInt).toNat + (((fa 0 1) ((a).toInt).toNat).toInt).toNat)).toInt = 2 * (b).toInt)) from Or.inr ⟨by omega, xr7_3, xr7_4⟩), ⟨by omega, by omega⟩, rfl⟩, by rw [ht9]; exact hP9, hD9⟩, hS.F ht9⟩) hS.2.2 dX11_thread_56
          · have fc6 := z_nlt (rfl : (v5).toInt = _) (by decide : (12 : Int32).toInt = 12) c6
            refine lv_ldc hx hb hown (ht _ m_463) dX11_thread_42 ?_
            refine lv_goto (tgt := 56) hx hb dX11_thread_44 (by decide) ?_
            have : ((-100004) : Int32).toInt = (-100004) := (by decide)
            have hP9 : va_P (dC, dI) classes (WX h g ca iv lv (u2 (u2 fa 0 1 (fa 0 1)) 0 5 (fa 0 5)) la) s.heap := hP
            have hD9 : va_D A (WX h g ca iv lv (u2 (u2 fa 0 1 (fa 0 1)) 0 5 (fa 0 5)) la) := hD
            exact W.iret (v := (-100004)) hx hb hr (fun t ht9 hW => ⟨⟨(-100004), (iv, lv, (u2 (u2 fa 0 1 (fa 0 1)) 0 5 (fa 0 5)), la), rfl, ⟨(fa 0 1), (fa 0 5), (hI.2 0 1), (show ((((-100004) : Int32).toInt = -100001 ∧ ¬ (0 ≤ (a).toInt ∧ (a).toInt < (iv 0 7).toInt)) ∨ (((-100004) : Int32).toInt = -100002 ∧ 0 ≤ (a).toInt ∧ (a).toInt < (iv 0 7).toInt ∧ ¬ (1 ≤ (b).toInt ∧ (b).toInt ≤ 999)) ∨ (((-100004) : Int32).toInt = -100004 ∧ 0 ≤ (a).toInt ∧ (a).toInt < (iv 0 7).toInt ∧ 1 ≤ (b).toInt ∧ (b).toInt ≤ 999 ∧ 12 ≤ ((fa 0 1) a.toNatClampNeg).toInt) ∨ (0 ≤ (a).toInt ∧ (a).toInt < (iv 0 7).toInt ∧ 1 ≤ (b).toInt ∧ (b).toInt ≤ 999 ∧ ((fa 0 1) a.toNatClampNeg).toInt < 12 ∧ ((-100004) : Int32).toInt = ((fa 0 1) a.toNatClampNeg).toInt + 1)) from (by have := congrArg Int32.toInt ev5; omega)), (show ∀ j : Nat, j ≠ a.toNatClampNeg → (fa 0 1) j = (fa 0 1) j from fun j hj => rfl), (show ((((-100004) : Int32).toInt < 0 ∧ ((fa 0 1) a.toNatClampNeg) = ((fa 0 1) a.toNatClampNeg)) ∨ (0 ≤ ((-100004) : Int32).toInt ∧ ((fa 0 1) a.toNatClampNeg).toInt = ((-100004) : Int32).toInt)) from Or.inl ⟨by omega, rfl⟩), (show ((((-100004) : Int32).toInt < 0 ∧ ∀ j : Nat, (fa 0 5) j = (fa 0 5) j) ∨ (0 ≤ ((-100004) : Int32).toInt ∧ (∀ j : Nat, j ≠ (12 * ((a).toInt).toNat + (((fa 0 1) ((a).toInt).toNat).toInt).toNat) → (fa 0 5) j = (fa 0 5) j) ∧ ((fa 0 5) (12 * ((a).toInt).toNat + (((fa 0 1) ((a).toInt).toNat).toInt).toNat)).toInt = 2 * (b).toInt)) from Or.inl ⟨by omega, fun j => rfl⟩), ⟨by decide, by decide⟩, rfl⟩, by rw [ht9]; exact hP9, hD9⟩, hS.F ht9⟩) hS.2.2 dX11_thread_56
        · exact absurd c4 (by decide)
      · skip
        refine lv_if_ne (tgt := 28) hx hb dX11_thread_22 (by decide) (fun c10 => ?_) (fun c10 => ?_)
        · exact absurd rfl c10
        · skip
          refine lv_ldc hx hb hown (ht _ m_456) dX11_thread_25 ?_
          have : ((-100002) : Int32).toInt = (-100002) := (by decide)
          have hP9 : va_P (dC, dI) classes (WX h g ca iv lv (u2 (u2 fa 0 1 (fa 0 1)) 0 5 (fa 0 5)) la) s.heap := hP
          have hD9 : va_D A (WX h g ca iv lv (u2 (u2 fa 0 1 (fa 0 1)) 0 5 (fa 0 5)) la) := hD
          exact W.iret (v := (-100002)) hx hb hr (fun t ht9 hW => ⟨⟨(-100002), (iv, lv, (u2 (u2 fa 0 1 (fa 0 1)) 0 5 (fa 0 5)), la), rfl, ⟨(fa 0 1), (fa 0 5), (hI.2 0 1), (show ((((-100002) : Int32).toInt = -100001 ∧ ¬ (0 ≤ (a).toInt ∧ (a).toInt < (iv 0 7).toInt)) ∨ (((-100002) : Int32).toInt = -100002 ∧ 0 ≤ (a).toInt ∧ (a).toInt < (iv 0 7).toInt ∧ ¬ (1 ≤ (b).toInt ∧ (b).toInt ≤ 999)) ∨ (((-100002) : Int32).toInt = -100004 ∧ 0 ≤ (a).toInt ∧ (a).toInt < (iv 0 7).toInt ∧ 1 ≤ (b).toInt ∧ (b).toInt ≤ 999 ∧ 12 ≤ ((fa 0 1) a.toNatClampNeg).toInt) ∨ (0 ≤ (a).toInt ∧ (a).toInt < (iv 0 7).toInt ∧ 1 ≤ (b).toInt ∧ (b).toInt ≤ 999 ∧ ((fa 0 1) a.toNatClampNeg).toInt < 12 ∧ ((-100002) : Int32).toInt = ((fa 0 1) a.toNatClampNeg).toInt + 1)) from (by omega)), (show ∀ j : Nat, j ≠ a.toNatClampNeg → (fa 0 1) j = (fa 0 1) j from fun j hj => rfl), (show ((((-100002) : Int32).toInt < 0 ∧ ((fa 0 1) a.toNatClampNeg) = ((fa 0 1) a.toNatClampNeg)) ∨ (0 ≤ ((-100002) : Int32).toInt ∧ ((fa 0 1) a.toNatClampNeg).toInt = ((-100002) : Int32).toInt)) from Or.inl ⟨by omega, rfl⟩), (show ((((-100002) : Int32).toInt < 0 ∧ ∀ j : Nat, (fa 0 5) j = (fa 0 5) j) ∨ (0 ≤ ((-100002) : Int32).toInt ∧ (∀ j : Nat, j ≠ (12 * ((a).toInt).toNat + (((fa 0 1) ((a).toInt).toNat).toInt).toNat) → (fa 0 5) j = (fa 0 5) j) ∧ ((fa 0 5) (12 * ((a).toInt).toNat + (((fa 0 1) ((a).toInt).toNat).toInt).toNat)).toInt = 2 * (b).toInt)) from Or.inl ⟨by omega, fun j => rfl⟩), ⟨by decide, by decide⟩, rfl⟩, by rw [ht9]; exact hP9, hD9⟩, hS.F ht9⟩) hS.2.2 dX11_thread_27
    · exact absurd c2 (by decide)
  · skip
    have i_0_7 : 0 ≤ (iv 0 7).toInt ∧ (iv 0 7).toInt ≤ 10 := hI.1 0 7
    have fr1 : ¬ (0 ≤ (a : Int32).toInt ∧ (a : Int32).toInt < ((iv 0 7) : Int32).toInt) := fr1
    refine lv_if_ne (tgt := 14) hx hb dX11_thread_8 (by decide) (fun c11 => ?_) (fun c11 => ?_)
    · exact absurd rfl c11
    · skip
      refine lv_ldc hx hb hown (ht _ m_476) dX11_thread_11 ?_
      have : ((-100001) : Int32).toInt = (-100001) := (by decide)
      have hP9 : va_P (dC, dI) classes (WX h g ca iv lv (u2 (u2 fa 0 1 (fa 0 1)) 0 5 (fa 0 5)) la) s.heap := hP
      have hD9 : va_D A (WX h g ca iv lv (u2 (u2 fa 0 1 (fa 0 1)) 0 5 (fa 0 5)) la) := hD
      exact W.iret (v := (-100001)) hx hb hr (fun t ht9 hW => ⟨⟨(-100001), (iv, lv, (u2 (u2 fa 0 1 (fa 0 1)) 0 5 (fa 0 5)), la), rfl, ⟨(fa 0 1), (fa 0 5), (hI.2 0 1), (show ((((-100001) : Int32).toInt = -100001 ∧ ¬ (0 ≤ (a).toInt ∧ (a).toInt < (iv 0 7).toInt)) ∨ (((-100001) : Int32).toInt = -100002 ∧ 0 ≤ (a).toInt ∧ (a).toInt < (iv 0 7).toInt ∧ ¬ (1 ≤ (b).toInt ∧ (b).toInt ≤ 999)) ∨ (((-100001) : Int32).toInt = -100004 ∧ 0 ≤ (a).toInt ∧ (a).toInt < (iv 0 7).toInt ∧ 1 ≤ (b).toInt ∧ (b).toInt ≤ 999 ∧ 12 ≤ ((fa 0 1) a.toNatClampNeg).toInt) ∨ (0 ≤ (a).toInt ∧ (a).toInt < (iv 0 7).toInt ∧ 1 ≤ (b).toInt ∧ (b).toInt ≤ 999 ∧ ((fa 0 1) a.toNatClampNeg).toInt < 12 ∧ ((-100001) : Int32).toInt = ((fa 0 1) a.toNatClampNeg).toInt + 1)) from (by omega)), (show ∀ j : Nat, j ≠ a.toNatClampNeg → (fa 0 1) j = (fa 0 1) j from fun j hj => rfl), (show ((((-100001) : Int32).toInt < 0 ∧ ((fa 0 1) a.toNatClampNeg) = ((fa 0 1) a.toNatClampNeg)) ∨ (0 ≤ ((-100001) : Int32).toInt ∧ ((fa 0 1) a.toNatClampNeg).toInt = ((-100001) : Int32).toInt)) from Or.inl ⟨by omega, rfl⟩), (show ((((-100001) : Int32).toInt < 0 ∧ ∀ j : Nat, (fa 0 5) j = (fa 0 5) j) ∨ (0 ≤ ((-100001) : Int32).toInt ∧ (∀ j : Nat, j ≠ (12 * ((a).toInt).toNat + (((fa 0 1) ((a).toInt).toNat).toInt).toNat) → (fa 0 5) j = (fa 0 5) j) ∧ ((fa 0 5) (12 * ((a).toInt).toNat + (((fa 0 1) ((a).toInt).toNat).toInt).toNat)).toInt = 2 * (b).toInt)) from Or.inl ⟨by omega, fun j => rfl⟩), ⟨by decide, by decide⟩, rfl⟩, by rw [ht9]; exact hP9, hD9⟩, hS.F ht9⟩) hS.2.2 dX11_thread_13
set_option maxHeartbeats 4000000 in
set_option maxRecDepth 100000 in
/-- X12_thread -/
theorem c_X12_thread_z (l : Launch) (dC : Nat → ClassId) (dI : Nat → Nat → Nat) (sz : Nat) (h : Nat) (g : Nat → Nat → Nat) (ca : Nat → Nat → ClassId) (iv : Nat → Nat → Int32) (lv : Nat → Nat → Int64) (fa : Nat → Nat → Nat → Int32) (la : Nat → Nat → Nat → Int64) (hI : IX iv fa) (a : Int32) (b : Int32) : Met l yX12_thread (wc yX12_thread cX12_thread 3 (some .int)) ({ frames := 2, cells := 0, slots := 0, locals := 46 } : Room) (pW (dC, dI) classes (WM h g ca iv lv fa la) (TM ca) sz [.ref h, .int a, .int b]) (va_Qi (fun r (u : SS) => ∃ (na_12_51 : Nat → Int32) (na_12_52 : Nat → Int32), (∀ j, inb (bA 12 51 j) (na_12_51 j)) ∧ (((r.toInt = -100001 ∧ ¬ (0 ≤ a.toInt ∧ a.toInt < (iv 12 1).toInt)) ∨ (r.toInt = -100002 ∧ 0 ≤ a.toInt ∧ a.toInt < (iv 12 1).toInt ∧ ¬ (1 ≤ b.toInt ∧ b.toInt ≤ 999)) ∨ (r.toInt = -100004 ∧ 0 ≤ a.toInt ∧ a.toInt < (iv 12 1).toInt ∧ 1 ≤ b.toInt ∧ b.toInt ≤ 999 ∧ 12 ≤ ((fa 12 51) a.toNatClampNeg).toInt) ∨ (0 ≤ a.toInt ∧ a.toInt < (iv 12 1).toInt ∧ 1 ≤ b.toInt ∧ b.toInt ≤ 999 ∧ ((fa 12 51) a.toNatClampNeg).toInt < 12 ∧ r.toInt = ((fa 12 51) a.toNatClampNeg).toInt + 1))) ∧ (∀ j : Nat, j ≠ a.toNatClampNeg → na_12_51 j = (fa 12 51) j) ∧ (((r.toInt < 0 ∧ (na_12_51 a.toNatClampNeg) = ((fa 12 51) a.toNatClampNeg)) ∨ (0 ≤ r.toInt ∧ (na_12_51 a.toNatClampNeg).toInt = r.toInt))) ∧ (((r.toInt < 0 ∧ ∀ j : Nat, na_12_52 j = (fa 12 52) j) ∨ (0 ≤ r.toInt ∧ (∀ j : Nat, j ≠ (12 * (a.toInt).toNat + (((fa 12 51) (a.toInt).toNat).toInt).toNat) → na_12_52 j = (fa 12 52) j) ∧ (na_12_52 (12 * (a.toInt).toNat + (((fa 12 51) (a.toInt).toNat).toInt).toNat)).toInt = b.toInt))) ∧ ((-100004) ≤ r.toInt ∧ r.toInt ≤ 12) ∧ u = (iv, lv, (u2 (u2 fa 12 51 na_12_51) 12 52 na_12_52), la)) (bM (dC, dI) h g ca (va_A (WM h g ca iv lv fa la) sz)) (va_A (WM h g ca iv lv fa la) sz)) 0 0 (va_A (WM h g ca iv lv fa la) sz) := by
  refine Met.ofW (cc := cX12_thread) (maxL := 3) (ret := (some .int)) (by decide) rfl ?_
  intro p e s m args below meth c s₁ B hml hv
  obtain ⟨rfl, hsz, hP, hK, hD0⟩ := hv
  have hx := B.exec
  have hb := B.bytes
  have hr := B.returns
  have ht := tb_tl (atoms_spec (ws := wc yX12_thread cX12_thread 3 (some .int)) B.pre)
  have hown : s.vm.findClass RX12 = some m.cls := findClass_of_methodNamed B.named
  have hlocks := B.notSynchronized
  subst hsz
  have hD := hD0.self (sz := s.heap.size)
  generalize hAe : va_A (WM h g ca iv lv fa la) s.heap.size = A at hD ⊢
  have hA : ∀ q : Nat, s.heap.size ≤ q → A q := fun q h => by rw [← hAe]; exact Or.inr h
  have hS : va_S A s.heap s.heap [] := va_S.rf
  have hl := lv_entry [.ref h, .int a, .int b] (n := 3) (Nat.le_of_ble_eq_true rfl)
  rw [lg_entry_eq]
  generalize (lg_sl [.ref h, .int a, .int b] ++ List.replicate (3 - (lg_sl [.ref h, .int a, .int b]).length) Slot.unset).toArray = ls at hl ⊢
  have hl : lv_has ls 3 [(0, .ref h), (1, .int a), (2, .int b)] := hl
  refine lv_aload_n hx hb dX12_thread_0 rfl (lv_at hl 0 rfl) ?_
  refine lv_iload_n hx hb dX12_thread_1 rfl (lv_at hl 1 rfl) ?_
  refine vp_callSi (W.runV (As := [.int a]) (rest := []) ⟨hx, hb, hml, hown, ht⟩ (c_X12_noBale l dC dI h g ca iv lv fa la hI a) (kV 1 ht m_1385 m_1387 m_42 m_89 m_1388 rfl rfl hd_X12_noBale_v ⟨Nat.le_of_ble_eq_true rfl, Nat.le_of_ble_eq_true rfl⟩) (vR hP hK (rM_12 hK hP)) rfl rfl hl.1 rfl (lv_room (Nat.le_of_ble_eq_true rfl)) dX12_thread_2 ⟨Nat.le_of_ble_eq_true rfl, Nat.le_of_ble_eq_true rfl⟩) (fun r1 hr1 => ?_)
  rcases hr1 with ⟨rfl, fr1⟩ | ⟨rfl, fr1⟩
  · skip
    have i_12_1 : 0 ≤ (iv 12 1).toInt ∧ (iv 12 1).toInt ≤ 10 := hI.1 12 1
    have fr1 : ¬ (0 ≤ (a : Int32).toInt ∧ (a : Int32).toInt < ((iv 12 1) : Int32).toInt) := fr1
    refine lv_if_eq (tgt := 11) hx hb dX12_thread_5 (by decide) (fun c2 => ?_) (fun c2 => ?_)
    · exact absurd c2 (by decide)
    · skip
      refine lv_ldc hx hb hown (ht _ m_1389) dX12_thread_8 ?_
      have : ((-100001) : Int32).toInt = (-100001) := (by decide)
      have hP9 : va_P (dC, dI) classes (WM h g ca iv lv (u2 (u2 fa 12 51 (fa 12 51)) 12 52 (fa 12 52)) la) s.heap := hP
      have hD9 : va_D A (WM h g ca iv lv (u2 (u2 fa 12 51 (fa 12 51)) 12 52 (fa 12 52)) la) := hD
      exact W.iret (v := (-100001)) hx hb hr (fun t ht9 hW => ⟨⟨(-100001), (iv, lv, (u2 (u2 fa 12 51 (fa 12 51)) 12 52 (fa 12 52)), la), rfl, ⟨(fa 12 51), (fa 12 52), (hI.2 12 51), (show ((((-100001) : Int32).toInt = -100001 ∧ ¬ (0 ≤ (a).toInt ∧ (a).toInt < (iv 12 1).toInt)) ∨ (((-100001) : Int32).toInt = -100002 ∧ 0 ≤ (a).toInt ∧ (a).toInt < (iv 12 1).toInt ∧ ¬ (1 ≤ (b).toInt ∧ (b).toInt ≤ 999)) ∨ (((-100001) : Int32).toInt = -100004 ∧ 0 ≤ (a).toInt ∧ (a).toInt < (iv 12 1).toInt ∧ 1 ≤ (b).toInt ∧ (b).toInt ≤ 999 ∧ 12 ≤ ((fa 12 51) a.toNatClampNeg).toInt) ∨ (0 ≤ (a).toInt ∧ (a).toInt < (iv 12 1).toInt ∧ 1 ≤ (b).toInt ∧ (b).toInt ≤ 999 ∧ ((fa 12 51) a.toNatClampNeg).toInt < 12 ∧ ((-100001) : Int32).toInt = ((fa 12 51) a.toNatClampNeg).toInt + 1)) from (by omega)), (show ∀ j : Nat, j ≠ a.toNatClampNeg → (fa 12 51) j = (fa 12 51) j from fun j hj => rfl), (show ((((-100001) : Int32).toInt < 0 ∧ ((fa 12 51) a.toNatClampNeg) = ((fa 12 51) a.toNatClampNeg)) ∨ (0 ≤ ((-100001) : Int32).toInt ∧ ((fa 12 51) a.toNatClampNeg).toInt = ((-100001) : Int32).toInt)) from Or.inl ⟨by omega, rfl⟩), (show ((((-100001) : Int32).toInt < 0 ∧ ∀ j : Nat, (fa 12 52) j = (fa 12 52) j) ∨ (0 ≤ ((-100001) : Int32).toInt ∧ (∀ j : Nat, j ≠ (12 * ((a).toInt).toNat + (((fa 12 51) ((a).toInt).toNat).toInt).toNat) → (fa 12 52) j = (fa 12 52) j) ∧ ((fa 12 52) (12 * ((a).toInt).toNat + (((fa 12 51) ((a).toInt).toNat).toInt).toNat)).toInt = (b).toInt)) from Or.inl ⟨by omega, fun j => rfl⟩), ⟨by decide, by decide⟩, rfl⟩, by rw [ht9]; exact hP9, hD9⟩, hS.F ht9⟩) hS.2.2 dX12_thread_10
  · skip
    have i_12_1 : 0 ≤ (iv 12 1).toInt ∧ (iv 12 1).toInt ≤ 10 := hI.1 12 1
    have fr1 : (0 ≤ (a : Int32).toInt ∧ (a : Int32).toInt < ((iv 12 1) : Int32).toInt) := Decidable.not_not.mp fr1
    refine lv_if_eq (tgt := 11) hx hb dX12_thread_5 (by decide) (fun c3 => ?_) (fun c3 => ?_)
    · skip
      refine lv_iload_n hx hb dX12_thread_11 rfl (lv_at hl 2 rfl) ?_
      refine lv_i2l (v := (b.toInt64)) hx hb dX12_thread_12 rfl ?_
      refine lv_lconst (v := 1) hx hb dX12_thread_13 (by decide) ?_
      refine lv_ldc2 hx hb hown (ht _ m_1369) dX12_thread_14 ?_
      refine vp_callSi (W.runS (As := [.long (b.toInt64), .long 1, .long 999]) (rest := []) ⟨hx, hb, hml, hown, ht⟩ (c_X12_in l dC dI (b.toInt64) 1 999 (b.toInt) (1) (999) ((Int32.toInt_toInt64 b).trans rfl) (by decide : (1 : Int64).toInt = 1) (by decide : (999 : Int64).toInt = 999)) (kS 3 ht m_1370 m_1371 m_89 m_1372 rfl rfl hd_X12_in_v ⟨Nat.le_of_ble_eq_true rfl, Nat.le_of_ble_eq_true rfl⟩) (sR noP (hK.sub (tys' := []) [] rfl)) rfl rfl hl.1 rfl (lv_room (Nat.le_of_ble_eq_true rfl)) dX12_thread_17 ⟨Nat.le_of_ble_eq_true rfl, Nat.le_of_ble_eq_true rfl⟩) (fun r4 hr4 => ?_)
      rcases hr4 with ⟨rfl, fr4⟩ | ⟨rfl, fr4⟩
      · skip
        refine lv_if_ne (tgt := 26) hx hb dX12_thread_20 (by decide) (fun c5 => ?_) (fun c5 => ?_)
        · skip
          refine lv_aload_n hx hb dX12_thread_26 rfl (lv_at hl 0 rfl) ?_
          refine gM_12_51 hx hb ht hown hK hP m_1190 dX12_thread_27 ?_
          refine lv_iload_n hx hb dX12_thread_30 rfl (lv_at hl 1 rfl) ?_
          refine lM_12_51 hx hb hK hP (f := (fa 12 51)) rfl (vp_in_iff.mpr ⟨by omega, by omega⟩) dX12_thread_31 ?_
          refine lv_topi (fun v6 ev6 => ?_)
          have tv6 : 0 ≤ v6.toInt ∧ v6.toInt ≤ 12 := by rw [ev6]; exact hI.2 12 51 _
          refine lv_bipush (v := 12) hx hb dX12_thread_32 (by decide) ?_
          refine lv_icmp_ne (tgt := 40) hx hb dX12_thread_34 (by decide) (fun c7 => ?_) (fun c7 => ?_)
          · have fc7 := z_ne (rfl : (v6).toInt = _) (by decide : (12 : Int32).toInt = 12) c7
            refine lv_aload_n hx hb dX12_thread_40 rfl (lv_at hl 0 rfl) ?_
            refine gM_12_52 hx hb ht hown hK hP m_1191 dX12_thread_41 ?_
            refine lv_bipush (v := 12) hx hb dX12_thread_44 (by decide) ?_
            refine lv_iload_n hx hb dX12_thread_46 rfl (lv_at hl 1 rfl) ?_
            refine lv_imul hx hb dX12_thread_47 ?_
            refine lv_topi (fun v8 ev8 => ?_)
            have tv8 := z_mul ev8 (by decide : (12 : Int32).toInt = 12) (rfl : (a).toInt = _) (by omega) (by omega)
            refine lv_aload_n hx hb dX12_thread_48 rfl (lv_at hl 0 rfl) ?_
            refine gM_12_51 hx hb ht hown hK hP m_1190 dX12_thread_49 ?_
            refine lv_iload_n hx hb dX12_thread_52 rfl (lv_at hl 1 rfl) ?_
            refine lM_12_51 hx hb hK hP (f := (fa 12 51)) rfl (vp_in_iff.mpr ⟨by omega, by omega⟩) dX12_thread_53 ?_
            refine lv_topi (fun v9 ev9 => ?_)
            obtain rfl : v6 = v9 := ev6.trans ev9.symm
            refine lv_iadd hx hb dX12_thread_54 ?_
            refine lv_topi (fun v10 ev10 => ?_)
            have tv10 := z_add ev10 (rfl : (v8).toInt = _) (rfl : (v6).toInt = _) (by omega) (by omega)
            refine lv_iload_n hx hb dX12_thread_55 rfl (lv_at hl 2 rfl) ?_
            refine tM_12_52 hx hb hK hP hD hS (f0 := (fa 12 52)) rfl (i := v10) (x := b) (vp_in_iff.mpr ⟨by omega, by omega⟩) dX12_thread_56 (fun f11 ef11 H locs hP hD hS => ?_)
            have hf11 : ∀ j, inb (bA 12 52 j) (f11 j) := fun j => full_i _
            refine lv_aload_n hx hb dX12_thread_57 rfl (lv_at hl 0 rfl) ?_
            refine gM_12_51 hx hb ht hown hK hP m_1190 dX12_thread_58 ?_
            refine lv_iload_n hx hb dX12_thread_61 rfl (lv_at hl 1 rfl) ?_
            refine lv_dup2_11 hx hb dX12_thread_62 rfl rfl ?_
            refine lM_12_51 hx hb hK hP (f := (fa 12 51)) rfl (vp_in_iff.mpr ⟨by omega, by omega⟩) dX12_thread_63 ?_
            refine lv_topi (fun v12 ev12 => ?_)
            obtain rfl : v6 = v12 := ev6.trans ev12.symm
            refine lv_iconst (v := 1) hx hb dX12_thread_64 (by decide) ?_
            refine lv_iadd hx hb dX12_thread_65 ?_
            refine lv_topi (fun v13 ev13 => ?_)
            have tv13 := z_add ev13 (rfl : (v6).toInt = _) (by decide : (1 : Int32).toInt = 1) (by omega) (by omega)
            refine tM_12_51 hx hb hK hP hD hS (f0 := (fa 12 51)) rfl (i := a) (x := v13) (vp_in_iff.mpr ⟨by omega, by omega⟩) dX12_thread_66 (fun f14 ef14 H locs hP hD hS => ?_)
            have hf14 : ∀ j, inb (bA 12 51 j) (f14 j) := by rw [ef14]; exact upd_b (b := bA 12 51) (hI.2 12 51) (show inb (0, 12) v13 from ⟨by omega, by omega⟩)
            refine lv_aload_n hx hb dX12_thread_67 rfl (lv_at hl 0 rfl) ?_
            refine gM_12_51 hx hb ht hown hK hP m_1190 dX12_thread_68 ?_
            refine lv_iload_n hx hb dX12_thread_71 rfl (lv_at hl 1 rfl) ?_
            refine lM_12_51 hx hb hK hP (f := f14) rfl (vp_in_iff.mpr ⟨by omega, by omega⟩) dX12_thread_72 ?_
            refine lv_topi (fun v15 ev15 => ?_)
            have tv15 : 0 ≤ v15.toInt ∧ v15.toInt ≤ 12 := by rw [ev15]; exact hf14 _
            have hP9 : va_P (dC, dI) classes (WM h g ca iv lv (u2 (u2 fa 12 51 f14) 12 52 f11) la) H := hP
            have hD9 : va_D A (WM h g ca iv lv (u2 (u2 fa 12 51 f14) 12 52 f11) la) := hD
            exact W.iret (v := v15) hx hb hr (fun t ht9 hW => ⟨⟨v15, (iv, lv, (u2 (u2 fa 12 51 f14) 12 52 f11), la), rfl, ⟨f14, f11, hf14, (show (((v15 : Int32).toInt = -100001 ∧ ¬ (0 ≤ (a).toInt ∧ (a).toInt < (iv 12 1).toInt)) ∨ ((v15 : Int32).toInt = -100002 ∧ 0 ≤ (a).toInt ∧ (a).toInt < (iv 12 1).toInt ∧ ¬ (1 ≤ (b).toInt ∧ (b).toInt ≤ 999)) ∨ ((v15 : Int32).toInt = -100004 ∧ 0 ≤ (a).toInt ∧ (a).toInt < (iv 12 1).toInt ∧ 1 ≤ (b).toInt ∧ (b).toInt ≤ 999 ∧ 12 ≤ ((fa 12 51) a.toNatClampNeg).toInt) ∨ (0 ≤ (a).toInt ∧ (a).toInt < (iv 12 1).toInt ∧ 1 ≤ (b).toInt ∧ (b).toInt ≤ 999 ∧ ((fa 12 51) a.toNatClampNeg).toInt < 12 ∧ (v15 : Int32).toInt = ((fa 12 51) a.toNatClampNeg).toInt + 1)) from (by have := congrArg Int32.toInt ev6; have := congrArg Int32.toInt (ev15.trans (show f14 (a : Int32).toNatClampNeg = v13 from (by rw [ef14]; exact upd_eq))); omega)), (show ∀ j : Nat, j ≠ a.toNatClampNeg → f14 j = (fa 12 51) j from fun j hj => by rw [ef14, upd_ne hj]), (show (((v15 : Int32).toInt < 0 ∧ (f14 a.toNatClampNeg) = ((fa 12 51) a.toNatClampNeg)) ∨ (0 ≤ (v15 : Int32).toInt ∧ (f14 a.toNatClampNeg).toInt = (v15 : Int32).toInt)) from (Or.inr ⟨by omega, (congrArg Int32.toInt ev15).symm⟩)), (show (((v15 : Int32).toInt < 0 ∧ ∀ j : Nat, f11 j = (fa 12 52) j) ∨ (0 ≤ (v15 : Int32).toInt ∧ (∀ j : Nat, j ≠ (12 * ((a).toInt).toNat + (((fa 12 51) ((a).toInt).toNat).toInt).toNat) → f11 j = (fa 12 52) j) ∧ (f11 (12 * ((a).toInt).toNat + (((fa 12 51) ((a).toInt).toNat).toInt).toNat)).toInt = (b).toInt)) from (by have h1 := congrArg Int32.toInt (show v6 = fa 12 51 (a.toInt).toNat from ev6); have h2 : 12 * (a.toInt).toNat + ((fa 12 51 (a.toInt).toNat).toInt).toNat = (v10 : Int32).toNatClampNeg := (by show _ = (v10 : Int32).toInt.toNat; omega); rw [h2]; exact Or.inr ⟨by omega, (fun j hj => by rw [ef11, upd_ne hj]), (by rw [ef11, upd_eq])⟩)), ⟨by omega, by omega⟩, rfl⟩, by rw [ht9]; exact hP9, hD9⟩, hS.F ht9⟩) hS.2.2 dX12_thread_73
          · have fc7 := z_eq (rfl : (v6).toInt = _) (by decide : (12 : Int32).toInt = 12) c7
            refine lv_ldc hx hb hown (ht _ m_1380) dX12_thread_37 ?_
            have : ((-100004) : Int32).toInt = (-100004) := (by decide)
            have hP9 : va_P (dC, dI) classes (WM h g ca iv lv (u2 (u2 fa 12 51 (fa 12 51)) 12 52 (fa 12 52)) la) s.heap := hP
            have hD9 : va_D A (WM h g ca iv lv (u2 (u2 fa 12 51 (fa 12 51)) 12 52 (fa 12 52)) la) := hD
            exact W.iret (v := (-100004)) hx hb hr (fun t ht9 hW => ⟨⟨(-100004), (iv, lv, (u2 (u2 fa 12 51 (fa 12 51)) 12 52 (fa 12 52)), la), rfl, ⟨(fa 12 51), (fa 12 52), (hI.2 12 51), (show ((((-100004) : Int32).toInt = -100001 ∧ ¬ (0 ≤ (a).toInt ∧ (a).toInt < (iv 12 1).toInt)) ∨ (((-100004) : Int32).toInt = -100002 ∧ 0 ≤ (a).toInt ∧ (a).toInt < (iv 12 1).toInt ∧ ¬ (1 ≤ (b).toInt ∧ (b).toInt ≤ 999)) ∨ (((-100004) : Int32).toInt = -100004 ∧ 0 ≤ (a).toInt ∧ (a).toInt < (iv 12 1).toInt ∧ 1 ≤ (b).toInt ∧ (b).toInt ≤ 999 ∧ 12 ≤ ((fa 12 51) a.toNatClampNeg).toInt) ∨ (0 ≤ (a).toInt ∧ (a).toInt < (iv 12 1).toInt ∧ 1 ≤ (b).toInt ∧ (b).toInt ≤ 999 ∧ ((fa 12 51) a.toNatClampNeg).toInt < 12 ∧ ((-100004) : Int32).toInt = ((fa 12 51) a.toNatClampNeg).toInt + 1)) from (by have := congrArg Int32.toInt ev6; omega)), (show ∀ j : Nat, j ≠ a.toNatClampNeg → (fa 12 51) j = (fa 12 51) j from fun j hj => rfl), (show ((((-100004) : Int32).toInt < 0 ∧ ((fa 12 51) a.toNatClampNeg) = ((fa 12 51) a.toNatClampNeg)) ∨ (0 ≤ ((-100004) : Int32).toInt ∧ ((fa 12 51) a.toNatClampNeg).toInt = ((-100004) : Int32).toInt)) from Or.inl ⟨by omega, rfl⟩), (show ((((-100004) : Int32).toInt < 0 ∧ ∀ j : Nat, (fa 12 52) j = (fa 12 52) j) ∨ (0 ≤ ((-100004) : Int32).toInt ∧ (∀ j : Nat, j ≠ (12 * ((a).toInt).toNat + (((fa 12 51) ((a).toInt).toNat).toInt).toNat) → (fa 12 52) j = (fa 12 52) j) ∧ ((fa 12 52) (12 * ((a).toInt).toNat + (((fa 12 51) ((a).toInt).toNat).toInt).toNat)).toInt = (b).toInt)) from Or.inl ⟨by omega, fun j => rfl⟩), ⟨by decide, by decide⟩, rfl⟩, by rw [ht9]; exact hP9, hD9⟩, hS.F ht9⟩) hS.2.2 dX12_thread_39
        · exact absurd c5 (by decide)
      · skip
        refine lv_if_ne (tgt := 26) hx hb dX12_thread_20 (by decide) (fun c16 => ?_) (fun c16 => ?_)
        · exact absurd rfl c16
        · skip
          refine lv_ldc hx hb hown (ht _ m_1373) dX12_thread_23 ?_
          have : ((-100002) : Int32).toInt = (-100002) := (by decide)
          have hP9 : va_P (dC, dI) classes (WM h g ca iv lv (u2 (u2 fa 12 51 (fa 12 51)) 12 52 (fa 12 52)) la) s.heap := hP
          have hD9 : va_D A (WM h g ca iv lv (u2 (u2 fa 12 51 (fa 12 51)) 12 52 (fa 12 52)) la) := hD
          exact W.iret (v := (-100002)) hx hb hr (fun t ht9 hW => ⟨⟨(-100002), (iv, lv, (u2 (u2 fa 12 51 (fa 12 51)) 12 52 (fa 12 52)), la), rfl, ⟨(fa 12 51), (fa 12 52), (hI.2 12 51), (show ((((-100002) : Int32).toInt = -100001 ∧ ¬ (0 ≤ (a).toInt ∧ (a).toInt < (iv 12 1).toInt)) ∨ (((-100002) : Int32).toInt = -100002 ∧ 0 ≤ (a).toInt ∧ (a).toInt < (iv 12 1).toInt ∧ ¬ (1 ≤ (b).toInt ∧ (b).toInt ≤ 999)) ∨ (((-100002) : Int32).toInt = -100004 ∧ 0 ≤ (a).toInt ∧ (a).toInt < (iv 12 1).toInt ∧ 1 ≤ (b).toInt ∧ (b).toInt ≤ 999 ∧ 12 ≤ ((fa 12 51) a.toNatClampNeg).toInt) ∨ (0 ≤ (a).toInt ∧ (a).toInt < (iv 12 1).toInt ∧ 1 ≤ (b).toInt ∧ (b).toInt ≤ 999 ∧ ((fa 12 51) a.toNatClampNeg).toInt < 12 ∧ ((-100002) : Int32).toInt = ((fa 12 51) a.toNatClampNeg).toInt + 1)) from (by omega)), (show ∀ j : Nat, j ≠ a.toNatClampNeg → (fa 12 51) j = (fa 12 51) j from fun j hj => rfl), (show ((((-100002) : Int32).toInt < 0 ∧ ((fa 12 51) a.toNatClampNeg) = ((fa 12 51) a.toNatClampNeg)) ∨ (0 ≤ ((-100002) : Int32).toInt ∧ ((fa 12 51) a.toNatClampNeg).toInt = ((-100002) : Int32).toInt)) from Or.inl ⟨by omega, rfl⟩), (show ((((-100002) : Int32).toInt < 0 ∧ ∀ j : Nat, (fa 12 52) j = (fa 12 52) j) ∨ (0 ≤ ((-100002) : Int32).toInt ∧ (∀ j : Nat, j ≠ (12 * ((a).toInt).toNat + (((fa 12 51) ((a).toInt).toNat).toInt).toNat) → (fa 12 52) j = (fa 12 52) j) ∧ ((fa 12 52) (12 * ((a).toInt).toNat + (((fa 12 51) ((a).toInt).toNat).toInt).toNat)).toInt = (b).toInt)) from Or.inl ⟨by omega, fun j => rfl⟩), ⟨by decide, by decide⟩, rfl⟩, by rw [ht9]; exact hP9, hD9⟩, hS.F ht9⟩) hS.2.2 dX12_thread_25
    · exact absurd rfl c3
set_option maxHeartbeats 4000000 in
set_option maxRecDepth 100000 in
/-- X0_allSizes -/
theorem c_X0_allSizes_z (l : Launch) (dC : Nat → ClassId) (dI : Nat → Nat → Nat) (h : Nat) (g : Nat → Nat → Nat) (ca : Nat → Nat → ClassId) (iv : Nat → Nat → Int32) (lv : Nat → Nat → Int64) (fa : Nat → Nat → Nat → Int32) (la : Nat → Nat → Nat → Int64) (hI : IX iv fa) (b : Int32) (h_b : 0 ≤ b.toInt ∧ b.toInt ≤ 9) (hJZ : ∀ j : Nat, 0 ≤ (fa 0 5 j).toInt ∧ (fa 0 5 j).toInt ≤ 1998) : Met l yX0_allSizes (wc yX0_allSizes cX0_allSizes 4 (some .int)) ({ frames := 0, cells := 0, slots := 0, locals := 0 } : Room) (pR (dC, dI) classes (WX h g ca iv lv fa la) (TX ca) [.ref (g 11 2), .int b]) (vp_Si (fun r => (0 ≤ r.toInt ∧ r.toInt ≤ 99999) ∧ (r.toInt = sI (fun k : Nat => ((fa 0 5) (12 * (b.toInt).toNat + k)).toInt) ((((fa 0 1) (b.toInt).toNat).toInt)).toNat))) 0 0 (fun _ => False) := by
  refine Met.ofW (cc := cX0_allSizes) (maxL := 4) (ret := (some .int)) (by decide) rfl ?_
  intro p e s m args below meth c s₁ B hml hv
  obtain ⟨rfl, hP, hK⟩ := hv
  have hx := B.exec
  have hb := B.bytes
  have hr := B.returns
  have ht := tb_tl (atoms_spec (ws := wc yX0_allSizes cX0_allSizes 4 (some .int)) B.pre)
  have hown : s.vm.findClass RX0 = some m.cls := findClass_of_methodNamed B.named
  have hlocks := B.notSynchronized
  have hl := lv_entry [.ref (g 11 2), .int b] (n := 4) (Nat.le_of_ble_eq_true rfl)
  rw [lg_entry_eq]
  generalize (lg_sl [.ref (g 11 2), .int b] ++ List.replicate (4 - (lg_sl [.ref (g 11 2), .int b]).length) Slot.unset).toArray = ls at hl ⊢
  have hl : lv_has ls 4 [(0, .ref (g 11 2)), (1, .int b)] := hl
  have hb8 : 0 ≤ (fa 0 1 (b.toInt).toNat).toInt ∧ (fa 0 1 (b.toInt).toNat).toInt ≤ 12 := hI.2 0 1 _
  refine lv_iconst (v := 0) hx hb dX0_allSizes_0 (by decide) ?_
  refine lv_istore_n (lv' := [(2, .int 0), (0, .ref (g 11 2)), (1, .int b)]) hx hb dX0_allSizes_1 rfl hl (by decide) rfl (fun ls hl => ?_)
  refine lv_iconst (v := 0) hx hb dX0_allSizes_2 (by decide) ?_
  refine lv_istore_n (lv' := [(3, .int 0), (2, .int 0), (0, .ref (g 11 2)), (1, .int b)]) hx hb dX0_allSizes_3 rfl hl (by decide) rfl (fun ls hl => ?_)
  have lp106 : ∀ (nn106 : Nat) (x105_3 : Int32) (x105_2 : Int32), 0 ≤ x105_3.toInt ∧ x105_3.toInt ≤ 12 → 0 ≤ x105_2.toInt ∧ x105_2.toInt ≤ 99999 → ((x105_2 : Int32).toInt = sI (fun k : Nat => ((fa 0 5) (12 * ((b).toInt).toNat + k)).toInt) ((x105_3 : Int32).toInt).toNat) → (x105_3 : Int32).toInt ≤ (((fa 0 1) ((b).toInt).toNat).toInt) → 12 - x105_3.toInt < (nn106 : Int) → ∀ (ls : Array Slot), lv_has ls 4 [(3, .int x105_3), (2, .int x105_2), (0, .ref (g 11 2)), (1, .int b)] → W p l e ({ frames := 0, cells := 0, slots := 0, locals := 0 } : Room) s m ([.ref (g 11 2), .int b] : List Value).toArray below meth c s.heap [] 0 0 (MQ below (vp_Si (fun r => (0 ≤ r.toInt ∧ r.toInt ≤ 99999) ∧ (r.toInt = sI (fun k : Nat => ((fa 0 5) (12 * (b.toInt).toNat + k)).toInt) ((((fa 0 1) (b.toInt).toNat).toInt)).toNat))) ([.ref (g 11 2), .int b] : List Value).toArray s 0 0 (fun _ => False)) (F0 m 4 ls []) := by
    intro nn106
    induction nn106 with
    | zero => intro x105_3 x105_2 hx105_3 hx105_2 hq106_0 hq106_1 hm106; exfalso; omega
    | succ nn106 ih106 =>
      intro x105_3 x105_2 hx105_3 hx105_2 hq106_0 hq106_1 hm106 ls hl
      refine lv_iload_n hx hb dX0_allSizes_4 rfl (lv_at hl 0 rfl) ?_
      refine lv_aload_n hx hb dX0_allSizes_5 rfl (lv_at hl 2 rfl) ?_
      refine gX_0_1 hx hb ht hown hK hP m_154 dX0_allSizes_6 ?_
      refine lv_iload_n hx hb dX0_allSizes_9 rfl (lv_at hl 3 rfl) ?_
      refine lX_0_1 hx hb hK hP (f := (fa 0 1)) rfl (vp_in_iff.mpr ⟨by omega, by omega⟩) dX0_allSizes_10 ?_
      refine lv_topi (fun v107 ev107 => ?_)
      have tv107 : 0 ≤ v107.toInt ∧ v107.toInt ≤ 12 := by rw [ev107]; exact hI.2 0 1 _
      have hn9 := congrArg Int32.toInt (show v107 = fa 0 1 (b.toInt).toNat from ev107)
      refine lv_icmp_ge (tgt := 34) hx hb dX0_allSizes_11 (by decide) (fun c108 => ?_) (fun c108 => ?_)
      · have fc108 := z_le (rfl : (v107).toInt = _) (rfl : (x105_3).toInt = _) c108
        refine lv_iload_n hx hb dX0_allSizes_34 rfl (lv_at hl 1 rfl) ?_
        exact W.iret (v := x105_2) hx hb hr (fun t ht9 hW => ⟨x105_2, rfl, ⟨⟨by omega, by omega⟩, (show (x105_2 : Int32).toInt = sI (fun k : Nat => ((fa 0 5) (12 * ((b).toInt).toNat + k)).toInt) ((((fa 0 1) ((b).toInt).toNat).toInt)).toNat from (by have hq9 := hq106_0; have he9 : ((x105_3 : Int32).toInt).toNat = ((fa 0 1 (b.toInt).toNat).toInt).toNat := (by omega); rw [he9] at hq9; exact hq9))⟩, ht9⟩) (fun q hq => by cases hq) dX0_allSizes_35
      · have fc108 := z_nle (rfl : (v107).toInt = _) (rfl : (x105_3).toInt = _) c108
        refine lv_iload_n hx hb dX0_allSizes_14 rfl (lv_at hl 1 rfl) ?_
        refine lv_aload_n hx hb dX0_allSizes_15 rfl (lv_at hl 2 rfl) ?_
        refine gX_0_5 hx hb ht hown hK hP m_162 dX0_allSizes_16 ?_
        refine lv_iload_n hx hb dX0_allSizes_19 rfl (lv_at hl 3 rfl) ?_
        refine lv_bipush (v := 12) hx hb dX0_allSizes_20 (by decide) ?_
        refine lv_imul hx hb dX0_allSizes_22 ?_
        refine lv_topi (fun v109 ev109 => ?_)
        have tv109 := z_mul ev109 (rfl : (b).toInt = _) (by decide : (12 : Int32).toInt = 12) (by omega) (by omega)
        refine lv_iload_n hx hb dX0_allSizes_23 rfl (lv_at hl 0 rfl) ?_
        refine lv_iadd hx hb dX0_allSizes_24 ?_
        refine lv_topi (fun v110 ev110 => ?_)
        have tv110 := z_add ev110 (rfl : (v109).toInt = _) (rfl : (x105_3).toInt = _) (by omega) (by omega)
        refine lX_0_5 hx hb hK hP (f := (fa 0 5)) rfl (vp_in_iff.mpr ⟨by omega, by omega⟩) dX0_allSizes_25 ?_
        refine lv_topi (fun v111 ev111 => ?_)
        have hi9 : (v110 : Int32).toNatClampNeg = 12 * (b.toInt).toNat + ((x105_3 : Int32).toInt).toNat := by show (v110 : Int32).toInt.toNat = _; omega
        have hx9 := congrArg Int32.toInt ev111
        rw [hi9] at hx9
        have hy9 := hJZ (12 * (b.toInt).toNat + ((x105_3 : Int32).toInt).toNat)
        have : 0 ≤ (v111 : Int32).toInt ∧ (v111 : Int32).toInt ≤ 1998 := ⟨by omega, by omega⟩
        have hb9 := sI_b (f := (fun k : Nat => (fa 0 5 (12 * (b.toInt).toNat + k)).toInt)) ((x105_3 : Int32).toInt).toNat (fun j hj => hJZ _)
        have : 0 ≤ (x105_2 : Int32).toInt ∧ (x105_2 : Int32).toInt ≤ 23976 := ⟨by omega, by omega⟩
        refine lv_iadd hx hb dX0_allSizes_26 ?_
        refine lv_topi (fun v112 ev112 => ?_)
        have tv112 := z_add ev112 (rfl : (x105_2).toInt = _) (rfl : (v111).toInt = _) (by omega) (by omega)
        refine lv_istore_n (lv' := [(2, .int v112), (3, .int x105_3), (0, .ref (g 11 2)), (1, .int b)]) hx hb dX0_allSizes_27 rfl hl (by decide) rfl (fun ls hl => ?_)
        obtain ⟨v113, ev113⟩ : ∃ y : Int32, y = x105_3 + 1 := ⟨_, rfl⟩
        have tv113 := z_add ev113 rfl (by decide : (1 : Int32).toInt = 1) (by omega) (by omega)
        refine lv_iinc (v := v113) (lv' := [(3, .int v113), (2, .int v112), (0, .ref (g 11 2)), (1, .int b)]) hx hb dX0_allSizes_28 hl (k := 1) rfl (by rw [ev113]; rfl) (by decide) rfl (fun ls hl => ?_)
        refine lv_goto (tgt := 4) hx hb dX0_allSizes_31 (by decide) ?_
        exact ih106 v113 v112 ⟨by omega, by omega⟩ ⟨by omega, by omega⟩ (show (v112 : Int32).toInt = sI (fun k : Nat => ((fa 0 5) (12 * ((b).toInt).toNat + k)).toInt) ((v113 : Int32).toInt).toNat from (by have hc := sI_s (f := (fun k : Nat => (fa 0 5 (12 * (b.toInt).toNat + k)).toInt)) (k := (x105_3 : Int32).toInt) (k' := (v113 : Int32).toInt) (x := (v111 : Int32).toInt) (by omega) (by omega) hx9; have hq9 := hq106_0; rw [hc]; omega)) (show (v113 : Int32).toInt ≤ (((fa 0 1) ((b).toInt).toNat).toInt) from by omega) (by omega) ls (lv_sub hl [0, 1, 2, 3] rfl)
  have : (0 : Int32).toInt = 0 := (by decide)
  exact lp106 13 0 0 ⟨by decide, by decide⟩ ⟨by decide, by decide⟩ (show (0 : Int32).toInt = sI (fun k : Nat => ((fa 0 5) (12 * ((b).toInt).toNat + k)).toInt) ((0 : Int32).toInt).toNat from (by rw [show ((0 : Int32).toInt).toNat = 0 from by decide]; exact (by decide : (0 : Int32).toInt = 0))) (show (0 : Int32).toInt ≤ (((fa 0 1) ((b).toInt).toNat).toInt) from by omega) (by first | decide | omega) ls (lv_sub hl [0, 1, 2, 3] rfl)
set_option maxHeartbeats 4000000 in
set_option maxRecDepth 100000 in
/-- X0_allSquares -/
theorem c_X0_allSquares_z (l : Launch) (dC : Nat → ClassId) (dI : Nat → Nat → Nat) (h : Nat) (g : Nat → Nat → Nat) (ca : Nat → Nat → ClassId) (iv : Nat → Nat → Int32) (lv : Nat → Nat → Int64) (fa : Nat → Nat → Nat → Int32) (la : Nat → Nat → Nat → Int64) (hI : IX iv fa) (b : Int32) (h_b : 0 ≤ b.toInt ∧ b.toInt ≤ 9) (hJZ : ∀ j : Nat, 0 ≤ (fa 0 5 j).toInt ∧ (fa 0 5 j).toInt ≤ 1998) : Met l yX0_allSquares (wc yX0_allSquares cX0_allSquares 7 (some .long)) ({ frames := 0, cells := 0, slots := 0, locals := 0 } : Room) (pR (dC, dI) classes (WX h g ca iv lv fa la) (TX ca) [.ref (g 11 2), .int b]) (vp_Sl (fun r => (True) ∧ (r.toInt = qI (fun k : Nat => ((fa 0 5) (12 * (b.toInt).toNat + k)).toInt) ((((fa 0 1) (b.toInt).toNat).toInt)).toNat))) 0 0 (fun _ => False) := by
  refine Met.ofW (cc := cX0_allSquares) (maxL := 7) (ret := (some .long)) (by decide) rfl ?_
  intro p e s m args below meth c s₁ B hml hv
  obtain ⟨rfl, hP, hK⟩ := hv
  have hx := B.exec
  have hb := B.bytes
  have hr := B.returns
  have ht := tb_tl (atoms_spec (ws := wc yX0_allSquares cX0_allSquares 7 (some .long)) B.pre)
  have hown : s.vm.findClass RX0 = some m.cls := findClass_of_methodNamed B.named
  have hlocks := B.notSynchronized
  have hl := lv_entry [.ref (g 11 2), .int b] (n := 7) (Nat.le_of_ble_eq_true rfl)
  rw [lg_entry_eq]
  generalize (lg_sl [.ref (g 11 2), .int b] ++ List.replicate (7 - (lg_sl [.ref (g 11 2), .int b]).length) Slot.unset).toArray = ls at hl ⊢
  have hl : lv_has ls 7 [(0, .ref (g 11 2)), (1, .int b)] := hl
  have hb8 : 0 ≤ (fa 0 1 (b.toInt).toNat).toInt ∧ (fa 0 1 (b.toInt).toNat).toInt ≤ 12 := hI.2 0 1 _
  refine lv_lconst (v := 0) hx hb dX0_allSquares_0 (by decide) ?_
  refine lv_lstore_n (lv' := [(2, .long 0), (0, .ref (g 11 2)), (1, .int b)]) hx hb dX0_allSquares_1 rfl hl (by decide) rfl (fun ls hl => ?_)
  refine lv_iconst (v := 0) hx hb dX0_allSquares_2 (by decide) ?_
  refine lv_istore (lv' := [(4, .int 0), (2, .long 0), (0, .ref (g 11 2)), (1, .int b)]) hx hb dX0_allSquares_3 hl (by decide) rfl (fun ls hl => ?_)
  have lp119 : ∀ (nn119 : Nat) (x118_4 : Int32) (x118_2 : Int64), 0 ≤ x118_4.toInt ∧ x118_4.toInt ≤ 12 → ((x118_2 : Int64).toInt = qI (fun k : Nat => ((fa 0 5) (12 * ((b).toInt).toNat + k)).toInt) ((x118_4 : Int32).toInt).toNat) → (x118_4 : Int32).toInt ≤ (((fa 0 1) ((b).toInt).toNat).toInt) → 12 - x118_4.toInt < (nn119 : Int) → ∀ (ls : Array Slot), lv_has ls 7 [(4, .int x118_4), (2, .long x118_2), (0, .ref (g 11 2)), (1, .int b)] → W p l e ({ frames := 0, cells := 0, slots := 0, locals := 0 } : Room) s m ([.ref (g 11 2), .int b] : List Value).toArray below meth c s.heap [] 0 0 (MQ below (vp_Sl (fun r => (True) ∧ (r.toInt = qI (fun k : Nat => ((fa 0 5) (12 * (b.toInt).toNat + k)).toInt) ((((fa 0 1) (b.toInt).toNat).toInt)).toNat))) ([.ref (g 11 2), .int b] : List Value).toArray s 0 0 (fun _ => False)) (F0 m 5 ls []) := by
    intro nn119
    induction nn119 with
    | zero => intro x118_4 x118_2 hx118_4 hq119_0 hq119_1 hm119; exfalso; omega
    | succ nn119 ih119 =>
      intro x118_4 x118_2 hx118_4 hq119_0 hq119_1 hm119 ls hl
      refine lv_iload hx hb dX0_allSquares_5 (lv_at hl 0 rfl) ?_
      refine lv_aload_n hx hb dX0_allSquares_7 rfl (lv_at hl 2 rfl) ?_
      refine gX_0_1 hx hb ht hown hK hP m_154 dX0_allSquares_8 ?_
      refine lv_iload_n hx hb dX0_allSquares_11 rfl (lv_at hl 3 rfl) ?_
      refine lX_0_1 hx hb hK hP (f := (fa 0 1)) rfl (vp_in_iff.mpr ⟨by omega, by omega⟩) dX0_allSquares_12 ?_
      refine lv_topi (fun v120 ev120 => ?_)
      have tv120 : 0 ≤ v120.toInt ∧ v120.toInt ≤ 12 := by rw [ev120]; exact hI.2 0 1 _
      have hn9 := congrArg Int32.toInt (show v120 = fa 0 1 (b.toInt).toNat from ev120)
      refine lv_icmp_ge (tgt := 45) hx hb dX0_allSquares_13 (by decide) (fun c121 => ?_) (fun c121 => ?_)
      · have fc121 := z_le (rfl : (v120).toInt = _) (rfl : (x118_4).toInt = _) c121
        refine lv_lload_n hx hb dX0_allSquares_45 rfl (lv_at hl 1 rfl) ?_
        exact W.lret (v := x118_2) hx hb hr (fun t ht9 hW => ⟨x118_2, rfl, ⟨trivial, (show (x118_2 : Int64).toInt = qI (fun k : Nat => ((fa 0 5) (12 * ((b).toInt).toNat + k)).toInt) ((((fa 0 1) ((b).toInt).toNat).toInt)).toNat from (by have hq9 := hq119_0; have he9 : ((x118_4 : Int32).toInt).toNat = ((fa 0 1 (b.toInt).toNat).toInt).toNat := (by omega); rw [he9] at hq9; exact hq9))⟩, ht9⟩) (fun q hq => by cases hq) dX0_allSquares_46
      · have fc121 := z_nle (rfl : (v120).toInt = _) (rfl : (x118_4).toInt = _) c121
        refine lv_aload_n hx hb dX0_allSquares_16 rfl (lv_at hl 2 rfl) ?_
        refine gX_0_5 hx hb ht hown hK hP m_162 dX0_allSquares_17 ?_
        refine lv_iload_n hx hb dX0_allSquares_20 rfl (lv_at hl 3 rfl) ?_
        refine lv_bipush (v := 12) hx hb dX0_allSquares_21 (by decide) ?_
        refine lv_imul hx hb dX0_allSquares_23 ?_
        refine lv_topi (fun v122 ev122 => ?_)
        have tv122 := z_mul ev122 (rfl : (b).toInt = _) (by decide : (12 : Int32).toInt = 12) (by omega) (by omega)
        refine lv_iload hx hb dX0_allSquares_24 (lv_at hl 0 rfl) ?_
        refine lv_iadd hx hb dX0_allSquares_26 ?_
        refine lv_topi (fun v123 ev123 => ?_)
        have tv123 := z_add ev123 (rfl : (v122).toInt = _) (rfl : (x118_4).toInt = _) (by omega) (by omega)
        refine lX_0_5 hx hb hK hP (f := (fa 0 5)) rfl (vp_in_iff.mpr ⟨by omega, by omega⟩) dX0_allSquares_27 ?_
        refine lv_topi (fun v124 ev124 => ?_)
        have hi9 : (v123 : Int32).toNatClampNeg = 12 * (b.toInt).toNat + ((x118_4 : Int32).toInt).toNat := by show (v123 : Int32).toInt.toNat = _; omega
        have hx9 := congrArg Int32.toInt ev124
        rw [hi9] at hx9
        have hy9 := hJZ (12 * (b.toInt).toNat + ((x118_4 : Int32).toInt).toNat)
        have : 0 ≤ (v124 : Int32).toInt ∧ (v124 : Int32).toInt ≤ 1998 := ⟨by omega, by omega⟩
        refine lv_i2l (v := (v124.toInt64)) hx hb dX0_allSquares_28 rfl ?_
        refine lv_lstore (lv' := [(5, .long (v124.toInt64)), (4, .int x118_4), (2, .long x118_2), (0, .ref (g 11 2)), (1, .int b)]) hx hb dX0_allSquares_29 hl (by decide) rfl (fun ls hl => ?_)
        refine lv_lload_n hx hb dX0_allSquares_31 rfl (lv_at hl 2 rfl) ?_
        refine lv_lload hx hb dX0_allSquares_32 (lv_at hl 0 rfl) ?_
        refine lv_lload hx hb dX0_allSquares_34 (lv_at hl 0 rfl) ?_
        have : ((v124.toInt64) : Int64).toInt = v124.toInt := ((Int32.toInt_toInt64 v124).trans rfl)
        refine lv_lmul hx hb dX0_allSquares_36 ?_
        refine lv_topl (fun w125 ew125 => ?_)
        have tw125 := l_mulb (a1 := 0) (b1 := 1998) (a2 := 0) (b2 := 1998) ew125 (rfl : ((v124.toInt64) : Int64).toInt = _) (rfl : ((v124.toInt64) : Int64).toInt = _) (by omega) (by omega) (by omega) (by omega) (by decide) (by decide) (by decide)
        have : 0 ≤ w125.toInt ∧ w125.toInt ≤ 3992004 := ⟨by omega, by omega⟩
        have hb9 := sI_b (f := (fun k : Nat => (fa 0 5 (12 * (b.toInt).toNat + k)).toInt)) ((x118_4 : Int32).toInt).toNat (fun j hj => hJZ _)
        have hm8 := mul_b (x := v124.toInt) (y := v124.toInt) (a1 := 0) (b1 := 1998) (a2 := 0) (b2 := 1998) (by omega) (by omega) (by omega) (by omega) (by decide) (by decide)
        have hm9 := l_mul ew125 (Int32.toInt_toInt64 v124) (Int32.toInt_toInt64 v124) (by omega) (by omega)
        have : 0 ≤ (x118_2 : Int64).toInt ∧ (x118_2 : Int64).toInt ≤ 47904048 := ⟨by omega, by omega⟩
        refine lv_ladd hx hb dX0_allSquares_37 ?_
        refine lv_topl (fun w126 ew126 => ?_)
        have tw126 := l_add ew126 (rfl : (x118_2).toInt = _) (rfl : (w125).toInt = _) (by omega) (by omega)
        refine lv_lstore_n (lv' := [(2, .long w126), (5, .long (v124.toInt64)), (4, .int x118_4), (0, .ref (g 11 2)), (1, .int b)]) hx hb dX0_allSquares_38 rfl hl (by decide) rfl (fun ls hl => ?_)
        obtain ⟨v127, ev127⟩ : ∃ y : Int32, y = x118_4 + 1 := ⟨_, rfl⟩
        have tv127 := z_add ev127 rfl (by decide : (1 : Int32).toInt = 1) (by omega) (by omega)
        refine lv_iinc (v := v127) (lv' := [(4, .int v127), (2, .long w126), (5, .long (v124.toInt64)), (0, .ref (g 11 2)), (1, .int b)]) hx hb dX0_allSquares_39 hl (k := 2) rfl (by rw [ev127]; rfl) (by decide) rfl (fun ls hl => ?_)
        refine lv_goto (tgt := 5) hx hb dX0_allSquares_42 (by decide) ?_
        exact ih119 v127 w126 ⟨by omega, by omega⟩ (show (w126 : Int64).toInt = qI (fun k : Nat => ((fa 0 5) (12 * ((b).toInt).toNat + k)).toInt) ((v127 : Int32).toInt).toNat from (by have hc := qI_s (f := (fun k : Nat => (fa 0 5 (12 * (b.toInt).toNat + k)).toInt)) (k := (x118_4 : Int32).toInt) (k' := (v127 : Int32).toInt) (x := (v124 : Int32).toInt) (by omega) (by omega) hx9; have hq9 := hq119_0; rw [hc]; omega)) (show (v127 : Int32).toInt ≤ (((fa 0 1) ((b).toInt).toNat).toInt) from by omega) (by omega) ls (lv_sub hl [0, 1, 3, 4] rfl)
  have : (0 : Int32).toInt = 0 := (by decide)
  have : (0 : Int64).toInt = 0 := (by decide)
  exact lp119 13 0 0 ⟨by decide, by decide⟩ (show (0 : Int64).toInt = qI (fun k : Nat => ((fa 0 5) (12 * ((b).toInt).toNat + k)).toInt) ((0 : Int32).toInt).toNat from (by rw [show ((0 : Int32).toInt).toNat = 0 from by decide]; exact (by decide : (0 : Int64).toInt = 0))) (show (0 : Int32).toInt ≤ (((fa 0 1) ((b).toInt).toNat).toInt) from by omega) (by first | decide | omega) ls (lv_sub hl [0, 1, 2, 3] rfl)
