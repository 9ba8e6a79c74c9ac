/-! ===== tw2 ===== -/
set_option maxHeartbeats 4000000 in
set_option maxRecDepth 100000 in
/-- X12_turns -/
theorem c_X12_turns_w (l : Launch) (dC : Nat → ClassId) (dI : Nat → Nat → Nat) (sz : Nat) (h : Nat) (g : Nat → Nat → Nat) (ca : Nat → Nat → ClassId) (iv : Nat → Nat → Int32) (lv : Nat → Nat → Int64) (fa : Nat → Nat → Nat → Int32) (la : Nat → Nat → Nat → Int64) (hI : IX iv fa) (a : Int32) (b : Int32) : Met l yX12_turns (wc yX12_turns cX12_turns 3 (some .int)) ({ frames := 2, cells := 0, slots := 0, locals := 46 } : Room) (pW (dC, dI) classes (WM h g ca iv lv fa la) (TM ca) sz [.ref h, .int a, .int b]) (va_Qi (fun r (u : SS) => ∃ (na_12_53 : Nat → Int32) (na_12_54 : Nat → Int32), (∀ j, inb (bA 12 53 j) (na_12_53 j)) ∧ (((r.toInt = -100001 ∧ ¬ (0 ≤ a.toInt ∧ a.toInt < (iv 12 1).toInt)) ∨ (r.toInt = -100002 ∧ 0 ≤ a.toInt ∧ a.toInt < (iv 12 1).toInt ∧ ¬ (0 ≤ b.toInt ∧ b.toInt ≤ 999)) ∨ (r.toInt = -100004 ∧ 0 ≤ a.toInt ∧ a.toInt < (iv 12 1).toInt ∧ 0 ≤ b.toInt ∧ b.toInt ≤ 999 ∧ 8 ≤ ((fa 12 53) a.toNatClampNeg).toInt) ∨ (0 ≤ a.toInt ∧ a.toInt < (iv 12 1).toInt ∧ 0 ≤ b.toInt ∧ b.toInt ≤ 999 ∧ ((fa 12 53) a.toNatClampNeg).toInt < 8 ∧ r.toInt = ((fa 12 53) a.toNatClampNeg).toInt + 1))) ∧ (∀ j : Nat, j ≠ a.toNatClampNeg → na_12_53 j = (fa 12 53) j) ∧ (((r.toInt < 0 ∧ (na_12_53 a.toNatClampNeg) = ((fa 12 53) a.toNatClampNeg)) ∨ (0 ≤ r.toInt ∧ (na_12_53 a.toNatClampNeg).toInt = r.toInt))) ∧ (((r.toInt < 0 ∧ ∀ j : Nat, na_12_54 j = (fa 12 54) j) ∨ (0 ≤ r.toInt ∧ (∀ j : Nat, j ≠ (8 * (a.toInt).toNat + ((((fa 12 53) (a.toInt).toNat).toInt)).toNat) → na_12_54 j = (fa 12 54) j) ∧ na_12_54 (8 * (a.toInt).toNat + ((((fa 12 53) (a.toInt).toNat).toInt)).toNat) = b))) ∧ ((-100004) ≤ r.toInt ∧ r.toInt ≤ 8) ∧ u = (iv, lv, (u2 (u2 fa 12 53 na_12_53) 12 54 na_12_54), la)) (bM (dC, dI) h g ca (va_A (WM h g ca iv lv fa la) sz)) (va_A (WM h g ca iv lv fa la) sz)) 0 0 (va_A (WM h g ca iv lv fa la) sz) := by
  refine Met.ofW (cc := cX12_turns) (maxL := 3) (ret := (some .int)) (by decide) rfl ?_
  intro p e s m args below meth c s₁ B hml hv
  obtain ⟨rfl, hsz, hP, hK, hD0⟩ := hv
  have hx := B.exec
  have hb := B.bytes
  have hr := B.returns
  have ht := tb_tl (atoms_spec (ws := wc yX12_turns cX12_turns 3 (some .int)) B.pre)
  have hown : s.vm.findClass RX12 = some m.cls := findClass_of_methodNamed B.named
  have hlocks := B.notSynchronized
  subst hsz
  have hD := hD0.self (sz := s.heap.size)
  generalize hAe : va_A (WM h g ca iv lv fa la) s.heap.size = A at hD ⊢
  have hA : ∀ q : Nat, s.heap.size ≤ q → A q := fun q h => by rw [← hAe]; exact Or.inr h
  have hS : va_S A s.heap s.heap [] := va_S.rf
  have hl := lv_entry [.ref h, .int a, .int b] (n := 3) (Nat.le_of_ble_eq_true rfl)
  rw [lg_entry_eq]
  generalize (lg_sl [.ref h, .int a, .int b] ++ List.replicate (3 - (lg_sl [.ref h, .int a, .int b]).length) Slot.unset).toArray = ls at hl ⊢
  have hl : lv_has ls 3 [(0, .ref h), (1, .int a), (2, .int b)] := hl
  refine lv_aload_n hx hb dX12_turns_0 rfl (lv_at hl 0 rfl) ?_
  refine lv_iload_n hx hb dX12_turns_1 rfl (lv_at hl 1 rfl) ?_
  refine vp_callSi (W.runV (As := [.int a]) (rest := []) ⟨hx, hb, hml, hown, ht⟩ (c_X12_noBale l dC dI h g ca iv lv fa la hI a) (kV 1 ht m_1385 m_1387 m_42 m_89 m_1388 rfl rfl hd_X12_noBale_v ⟨Nat.le_of_ble_eq_true rfl, Nat.le_of_ble_eq_true rfl⟩) (vR hP hK (va_recv hK hP (ci := 12) (q0 := 0) rfl rfl)) rfl rfl hl.1 rfl (lv_room (Nat.le_of_ble_eq_true rfl)) dX12_turns_2 ⟨Nat.le_of_ble_eq_true rfl, Nat.le_of_ble_eq_true rfl⟩) (fun r1 hr1 => ?_)
  rcases hr1 with ⟨rfl, fr1⟩ | ⟨rfl, fr1⟩
  · skip
    have i_12_1 : 0 ≤ (iv 12 1).toInt ∧ (iv 12 1).toInt ≤ 10 := hI.1 12 1
    have fr1 : ¬ (0 ≤ (a : Int32).toInt ∧ (a : Int32).toInt < ((iv 12 1) : Int32).toInt) := fr1
    refine lv_if_eq (tgt := 11) hx hb dX12_turns_5 (by decide) (fun c2 => ?_) (fun c2 => ?_)
    · exact absurd c2 (by decide)
    · skip
      refine lv_ldc hx hb hown (ht _ m_1389) dX12_turns_8 ?_
      have : ((-100001) : Int32).toInt = (-100001) := (by decide)
      have hP9 : va_P (dC, dI) classes (WM h g ca iv lv (u2 (u2 fa 12 53 (fa 12 53)) 12 54 (fa 12 54)) la) s.heap := hP
      have hD9 : va_D A (WM h g ca iv lv (u2 (u2 fa 12 53 (fa 12 53)) 12 54 (fa 12 54)) la) := hD
      exact W.iret (v := (-100001)) hx hb hr (fun t ht9 hW => ⟨⟨(-100001), (iv, lv, (u2 (u2 fa 12 53 (fa 12 53)) 12 54 (fa 12 54)), la), rfl, ⟨(fa 12 53), (fa 12 54), (hI.2 12 53), (show ((((-100001) : Int32).toInt = -100001 ∧ ¬ (0 ≤ (a).toInt ∧ (a).toInt < (iv 12 1).toInt)) ∨ (((-100001) : Int32).toInt = -100002 ∧ 0 ≤ (a).toInt ∧ (a).toInt < (iv 12 1).toInt ∧ ¬ (0 ≤ (b).toInt ∧ (b).toInt ≤ 999)) ∨ (((-100001) : Int32).toInt = -100004 ∧ 0 ≤ (a).toInt ∧ (a).toInt < (iv 12 1).toInt ∧ 0 ≤ (b).toInt ∧ (b).toInt ≤ 999 ∧ 8 ≤ ((fa 12 53) a.toNatClampNeg).toInt) ∨ (0 ≤ (a).toInt ∧ (a).toInt < (iv 12 1).toInt ∧ 0 ≤ (b).toInt ∧ (b).toInt ≤ 999 ∧ ((fa 12 53) a.toNatClampNeg).toInt < 8 ∧ ((-100001) : Int32).toInt = ((fa 12 53) a.toNatClampNeg).toInt + 1)) from (by omega)), (show ∀ j : Nat, j ≠ a.toNatClampNeg → (fa 12 53) j = (fa 12 53) j from fun j hj => rfl), (show ((((-100001) : Int32).toInt < 0 ∧ ((fa 12 53) a.toNatClampNeg) = ((fa 12 53) a.toNatClampNeg)) ∨ (0 ≤ ((-100001) : Int32).toInt ∧ ((fa 12 53) a.toNatClampNeg).toInt = ((-100001) : Int32).toInt)) from Or.inl ⟨by omega, rfl⟩), (show ((((-100001) : Int32).toInt < 0 ∧ ∀ j : Nat, (fa 12 54) j = (fa 12 54) j) ∨ (0 ≤ ((-100001) : Int32).toInt ∧ (∀ j : Nat, j ≠ (8 * ((a).toInt).toNat + ((((fa 12 53) ((a).toInt).toNat).toInt)).toNat) → (fa 12 54) j = (fa 12 54) j) ∧ (fa 12 54) (8 * ((a).toInt).toNat + ((((fa 12 53) ((a).toInt).toNat).toInt)).toNat) = b)) from Or.inl ⟨by omega, fun j => rfl⟩), ⟨by decide, by decide⟩, rfl⟩, by rw [ht9]; exact hP9, hD9⟩, hS.F ht9⟩) hS.2.2 dX12_turns_10
  · skip
    have i_12_1 : 0 ≤ (iv 12 1).toInt ∧ (iv 12 1).toInt ≤ 10 := hI.1 12 1
    have fr1 : (0 ≤ (a : Int32).toInt ∧ (a : Int32).toInt < ((iv 12 1) : Int32).toInt) := Decidable.not_not.mp fr1
    refine lv_if_eq (tgt := 11) hx hb dX12_turns_5 (by decide) (fun c3 => ?_) (fun c3 => ?_)
    · skip
      refine lv_iload_n hx hb dX12_turns_11 rfl (lv_at hl 2 rfl) ?_
      refine lv_i2l (v := (b.toInt64)) hx hb dX12_turns_12 rfl ?_
      refine lv_lconst (v := 0) hx hb dX12_turns_13 (by decide) ?_
      refine lv_ldc2 hx hb hown (ht _ m_1369) dX12_turns_14 ?_
      refine vp_callSi (W.runS (As := [.long (b.toInt64), .long 0, .long 999]) (rest := []) ⟨hx, hb, hml, hown, ht⟩ (c_X12_in l dC dI (b.toInt64) 0 999 (b.toInt) (0) (999) ((Int32.toInt_toInt64 b).trans rfl) (by decide : (0 : Int64).toInt = 0) (by decide : (999 : Int64).toInt = 999)) (kS 3 ht m_1370 m_1371 m_89 m_1372 rfl rfl hd_X12_in_v ⟨Nat.le_of_ble_eq_true rfl, Nat.le_of_ble_eq_true rfl⟩) (sR noP (hK.sub (tys' := []) [] rfl)) rfl rfl hl.1 rfl (lv_room (Nat.le_of_ble_eq_true rfl)) dX12_turns_17 ⟨Nat.le_of_ble_eq_true rfl, Nat.le_of_ble_eq_true rfl⟩) (fun r4 hr4 => ?_)
      rcases hr4 with ⟨rfl, fr4⟩ | ⟨rfl, fr4⟩
      · skip
        refine lv_if_ne (tgt := 26) hx hb dX12_turns_20 (by decide) (fun c5 => ?_) (fun c5 => ?_)
        · skip
          refine lv_aload_n hx hb dX12_turns_26 rfl (lv_at hl 0 rfl) ?_
          refine va_get (D := (dC, dI)) (ci := 12) (v := .ref (g 12 53)) (fs := fM12 h g iv lv) (C := RX12) (T := TX12) (N := 75) hx hb ht inX12 hown hK hP 0 rfl rfl 53 (by decide) (ht _ m_1192) (fun _ h9 => h9) rfl dX12_turns_27 ?_
          refine lv_iload_n hx hb dX12_turns_30 rfl (lv_at hl 1 rfl) ?_
          refine va_iald (D := (dC, dI)) hx hb hK hP 31 30 (f := (fa 12 53)) rfl rfl (vp_in_iff.mpr ⟨by omega, by omega⟩) dX12_turns_31 ?_
          refine lv_topi (fun v6 ev6 => ?_)
          have tv6 : 0 ≤ v6.toInt ∧ v6.toInt ≤ 8 := by rw [ev6]; exact hI.2 12 53 _
          refine lv_bipush (v := 8) hx hb dX12_turns_32 (by decide) ?_
          refine lv_icmp_ne (tgt := 40) hx hb dX12_turns_34 (by decide) (fun c7 => ?_) (fun c7 => ?_)
          · have fc7 := z_ne (rfl : (v6).toInt = _) (by decide : (8 : Int32).toInt = 8) c7
            refine lv_aload_n hx hb dX12_turns_40 rfl (lv_at hl 0 rfl) ?_
            refine va_get (D := (dC, dI)) (ci := 12) (v := .ref (g 12 54)) (fs := fM12 h g iv lv) (C := RX12) (T := TX12) (N := 75) hx hb ht inX12 hown hK hP 0 rfl rfl 54 (by decide) (ht _ m_1193) (fun _ h9 => h9) rfl dX12_turns_41 ?_
            refine lv_bipush (v := 8) hx hb dX12_turns_44 (by decide) ?_
            refine lv_iload_n hx hb dX12_turns_46 rfl (lv_at hl 1 rfl) ?_
            refine lv_imul hx hb dX12_turns_47 ?_
            refine lv_topi (fun v8 ev8 => ?_)
            have tv8 := z_mul ev8 (by decide : (8 : Int32).toInt = 8) (rfl : (a).toInt = _) (by omega) (by omega)
            refine lv_aload_n hx hb dX12_turns_48 rfl (lv_at hl 0 rfl) ?_
            refine va_get (D := (dC, dI)) (ci := 12) (v := .ref (g 12 53)) (fs := fM12 h g iv lv) (C := RX12) (T := TX12) (N := 75) hx hb ht inX12 hown hK hP 0 rfl rfl 53 (by decide) (ht _ m_1192) (fun _ h9 => h9) rfl dX12_turns_49 ?_
            refine lv_iload_n hx hb dX12_turns_52 rfl (lv_at hl 1 rfl) ?_
            refine va_iald (D := (dC, dI)) hx hb hK hP 31 30 (f := (fa 12 53)) rfl rfl (vp_in_iff.mpr ⟨by omega, by omega⟩) dX12_turns_53 ?_
            refine lv_topi (fun v9 ev9 => ?_)
            obtain rfl : v6 = v9 := ev6.trans ev9.symm
            refine lv_iadd hx hb dX12_turns_54 ?_
            refine lv_topi (fun v10 ev10 => ?_)
            have tv10 := z_add ev10 (rfl : (v8).toInt = _) (rfl : (v6).toInt = _) (by omega) (by omega)
            refine lv_iload_n hx hb dX12_turns_55 rfl (lv_at hl 2 rfl) ?_
            refine va_iast (D := (dC, dI)) hx hb hK hP hD hS 32 31 (f := (fa 12 54)) rfl rfl (vp_in_iff.mpr ⟨by omega, by omega⟩) dX12_turns_56 (fun H locs hP hD hS => ?_)
            rw [aM_12_54] at hP hD
            obtain ⟨f11, ef11⟩ : ∃ f : Nat → Int32, f = upd (fa 12 54) ((v10 : Int32).toNatClampNeg) b := ⟨_, rfl⟩
            rw [← ef11] at hP hD
            have hf11 : ∀ j, inb (bA 12 54 j) (f11 j) := fun j => full_i _
            refine lv_aload_n hx hb dX12_turns_57 rfl (lv_at hl 0 rfl) ?_
            refine va_get (D := (dC, dI)) (ci := 12) (v := .ref (g 12 53)) (fs := fM12 h g iv lv) (C := RX12) (T := TX12) (N := 75) hx hb ht inX12 hown hK hP 0 rfl rfl 53 (by decide) (ht _ m_1192) (fun _ h9 => h9) rfl dX12_turns_58 ?_
            refine lv_iload_n hx hb dX12_turns_61 rfl (lv_at hl 1 rfl) ?_
            refine lv_dup2_11 hx hb dX12_turns_62 rfl rfl ?_
            refine va_iald (D := (dC, dI)) hx hb hK hP 31 30 (f := (fa 12 53)) rfl rfl (vp_in_iff.mpr ⟨by omega, by omega⟩) dX12_turns_63 ?_
            refine lv_topi (fun v12 ev12 => ?_)
            obtain rfl : v6 = v12 := ev6.trans ev12.symm
            refine lv_iconst (v := 1) hx hb dX12_turns_64 (by decide) ?_
            refine lv_iadd hx hb dX12_turns_65 ?_
            refine lv_topi (fun v13 ev13 => ?_)
            have tv13 := z_add ev13 (rfl : (v6).toInt = _) (by decide : (1 : Int32).toInt = 1) (by omega) (by omega)
            refine va_iast (D := (dC, dI)) hx hb hK hP hD hS 31 30 (f := (fa 12 53)) rfl rfl (vp_in_iff.mpr ⟨by omega, by omega⟩) dX12_turns_66 (fun H locs hP hD hS => ?_)
            rw [aM_12_53] at hP hD
            obtain ⟨f14, ef14⟩ : ∃ f : Nat → Int32, f = upd (fa 12 53) ((a : Int32).toNatClampNeg) v13 := ⟨_, rfl⟩
            rw [← ef14] at hP hD
            have hf14 : ∀ j, inb (bA 12 53 j) (f14 j) := by rw [ef14]; exact upd_b (b := bA 12 53) (hI.2 12 53) (show inb (0, 8) v13 from ⟨by omega, by omega⟩)
            refine lv_aload_n hx hb dX12_turns_67 rfl (lv_at hl 0 rfl) ?_
            refine va_get (D := (dC, dI)) (ci := 12) (v := .ref (g 12 53)) (fs := fM12 h g iv lv) (C := RX12) (T := TX12) (N := 75) hx hb ht inX12 hown hK hP 0 rfl rfl 53 (by decide) (ht _ m_1192) (fun _ h9 => h9) rfl dX12_turns_68 ?_
            refine lv_iload_n hx hb dX12_turns_71 rfl (lv_at hl 1 rfl) ?_
            refine va_iald (D := (dC, dI)) hx hb hK hP 31 30 (f := f14) rfl rfl (vp_in_iff.mpr ⟨by omega, by omega⟩) dX12_turns_72 ?_
            refine lv_topi (fun v15 ev15 => ?_)
            have tv15 : 0 ≤ v15.toInt ∧ v15.toInt ≤ 8 := by rw [ev15]; exact hf14 _
            have hP9 : va_P (dC, dI) classes (WM h g ca iv lv (u2 (u2 fa 12 53 f14) 12 54 f11) la) H := hP
            have hD9 : va_D A (WM h g ca iv lv (u2 (u2 fa 12 53 f14) 12 54 f11) la) := hD
            exact W.iret (v := v15) hx hb hr (fun t ht9 hW => ⟨⟨v15, (iv, lv, (u2 (u2 fa 12 53 f14) 12 54 f11), la), rfl, ⟨f14, f11, hf14, (show (((v15 : Int32).toInt = -100001 ∧ ¬ (0 ≤ (a).toInt ∧ (a).toInt < (iv 12 1).toInt)) ∨ ((v15 : Int32).toInt = -100002 ∧ 0 ≤ (a).toInt ∧ (a).toInt < (iv 12 1).toInt ∧ ¬ (0 ≤ (b).toInt ∧ (b).toInt ≤ 999)) ∨ ((v15 : Int32).toInt = -100004 ∧ 0 ≤ (a).toInt ∧ (a).toInt < (iv 12 1).toInt ∧ 0 ≤ (b).toInt ∧ (b).toInt ≤ 999 ∧ 8 ≤ ((fa 12 53) a.toNatClampNeg).toInt) ∨ (0 ≤ (a).toInt ∧ (a).toInt < (iv 12 1).toInt ∧ 0 ≤ (b).toInt ∧ (b).toInt ≤ 999 ∧ ((fa 12 53) a.toNatClampNeg).toInt < 8 ∧ (v15 : Int32).toInt = ((fa 12 53) a.toNatClampNeg).toInt + 1)) from (by have := congrArg Int32.toInt ev6; have := congrArg Int32.toInt (ev15.trans (show f14 (a : Int32).toNatClampNeg = v13 from (by rw [ef14]; exact upd_eq))); omega)), (show ∀ j : Nat, j ≠ a.toNatClampNeg → f14 j = (fa 12 53) j from fun j hj => by rw [ef14, upd_ne hj]), (show (((v15 : Int32).toInt < 0 ∧ (f14 a.toNatClampNeg) = ((fa 12 53) a.toNatClampNeg)) ∨ (0 ≤ (v15 : Int32).toInt ∧ (f14 a.toNatClampNeg).toInt = (v15 : Int32).toInt)) from (Or.inr ⟨by omega, (congrArg Int32.toInt ev15).symm⟩)), (show (((v15 : Int32).toInt < 0 ∧ ∀ j : Nat, f11 j = (fa 12 54) j) ∨ (0 ≤ (v15 : Int32).toInt ∧ (∀ j : Nat, j ≠ (8 * ((a).toInt).toNat + ((((fa 12 53) ((a).toInt).toNat).toInt)).toNat) → f11 j = (fa 12 54) j) ∧ f11 (8 * ((a).toInt).toNat + ((((fa 12 53) ((a).toInt).toNat).toInt)).toNat) = b)) from (by have h1 := congrArg Int32.toInt (show v6 = fa 12 53 (a.toInt).toNat from ev6); have h2 : 8 * (a.toInt).toNat + ((fa 12 53 (a.toInt).toNat).toInt).toNat = (v10 : Int32).toNatClampNeg := (by show _ = (v10 : Int32).toInt.toNat; omega); rw [h2]; exact Or.inr ⟨by omega, (fun j hj => by rw [ef11, upd_ne hj]), (by rw [ef11]; exact upd_eq)⟩)), ⟨by omega, by omega⟩, rfl⟩, by rw [ht9]; exact hP9, hD9⟩, hS.F ht9⟩) hS.2.2 dX12_turns_73
          · have fc7 := z_eq (rfl : (v6).toInt = _) (by decide : (8 : Int32).toInt = 8) c7
            refine lv_ldc hx hb hown (ht _ m_1380) dX12_turns_37 ?_
            have : ((-100004) : Int32).toInt = (-100004) := (by decide)
            have hP9 : va_P (dC, dI) classes (WM h g ca iv lv (u2 (u2 fa 12 53 (fa 12 53)) 12 54 (fa 12 54)) la) s.heap := hP
            have hD9 : va_D A (WM h g ca iv lv (u2 (u2 fa 12 53 (fa 12 53)) 12 54 (fa 12 54)) la) := hD
            exact W.iret (v := (-100004)) hx hb hr (fun t ht9 hW => ⟨⟨(-100004), (iv, lv, (u2 (u2 fa 12 53 (fa 12 53)) 12 54 (fa 12 54)), la), rfl, ⟨(fa 12 53), (fa 12 54), (hI.2 12 53), (show ((((-100004) : Int32).toInt = -100001 ∧ ¬ (0 ≤ (a).toInt ∧ (a).toInt < (iv 12 1).toInt)) ∨ (((-100004) : Int32).toInt = -100002 ∧ 0 ≤ (a).toInt ∧ (a).toInt < (iv 12 1).toInt ∧ ¬ (0 ≤ (b).toInt ∧ (b).toInt ≤ 999)) ∨ (((-100004) : Int32).toInt = -100004 ∧ 0 ≤ (a).toInt ∧ (a).toInt < (iv 12 1).toInt ∧ 0 ≤ (b).toInt ∧ (b).toInt ≤ 999 ∧ 8 ≤ ((fa 12 53) a.toNatClampNeg).toInt) ∨ (0 ≤ (a).toInt ∧ (a).toInt < (iv 12 1).toInt ∧ 0 ≤ (b).toInt ∧ (b).toInt ≤ 999 ∧ ((fa 12 53) a.toNatClampNeg).toInt < 8 ∧ ((-100004) : Int32).toInt = ((fa 12 53) a.toNatClampNeg).toInt + 1)) from (by have := congrArg Int32.toInt ev6; omega)), (show ∀ j : Nat, j ≠ a.toNatClampNeg → (fa 12 53) j = (fa 12 53) j from fun j hj => rfl), (show ((((-100004) : Int32).toInt < 0 ∧ ((fa 12 53) a.toNatClampNeg) = ((fa 12 53) a.toNatClampNeg)) ∨ (0 ≤ ((-100004) : Int32).toInt ∧ ((fa 12 53) a.toNatClampNeg).toInt = ((-100004) : Int32).toInt)) from Or.inl ⟨by omega, rfl⟩), (show ((((-100004) : Int32).toInt < 0 ∧ ∀ j : Nat, (fa 12 54) j = (fa 12 54) j) ∨ (0 ≤ ((-100004) : Int32).toInt ∧ (∀ j : Nat, j ≠ (8 * ((a).toInt).toNat + ((((fa 12 53) ((a).toInt).toNat).toInt)).toNat) → (fa 12 54) j = (fa 12 54) j) ∧ (fa 12 54) (8 * ((a).toInt).toNat + ((((fa 12 53) ((a).toInt).toNat).toInt)).toNat) = b)) from Or.inl ⟨by omega, fun j => rfl⟩), ⟨by decide, by decide⟩, rfl⟩, by rw [ht9]; exact hP9, hD9⟩, hS.F ht9⟩) hS.2.2 dX12_turns_39
        · exact absurd c5 (by decide)
      · skip
        refine lv_if_ne (tgt := 26) hx hb dX12_turns_20 (by decide) (fun c16 => ?_) (fun c16 => ?_)
        · exact absurd rfl c16
        · skip
          refine lv_ldc hx hb hown (ht _ m_1373) dX12_turns_23 ?_
          have : ((-100002) : Int32).toInt = (-100002) := (by decide)
          have hP9 : va_P (dC, dI) classes (WM h g ca iv lv (u2 (u2 fa 12 53 (fa 12 53)) 12 54 (fa 12 54)) la) s.heap := hP
          have hD9 : va_D A (WM h g ca iv lv (u2 (u2 fa 12 53 (fa 12 53)) 12 54 (fa 12 54)) la) := hD
          exact W.iret (v := (-100002)) hx hb hr (fun t ht9 hW => ⟨⟨(-100002), (iv, lv, (u2 (u2 fa 12 53 (fa 12 53)) 12 54 (fa 12 54)), la), rfl, ⟨(fa 12 53), (fa 12 54), (hI.2 12 53), (show ((((-100002) : Int32).toInt = -100001 ∧ ¬ (0 ≤ (a).toInt ∧ (a).toInt < (iv 12 1).toInt)) ∨ (((-100002) : Int32).toInt = -100002 ∧ 0 ≤ (a).toInt ∧ (a).toInt < (iv 12 1).toInt ∧ ¬ (0 ≤ (b).toInt ∧ (b).toInt ≤ 999)) ∨ (((-100002) : Int32).toInt = -100004 ∧ 0 ≤ (a).toInt ∧ (a).toInt < (iv 12 1).toInt ∧ 0 ≤ (b).toInt ∧ (b).toInt ≤ 999 ∧ 8 ≤ ((fa 12 53) a.toNatClampNeg).toInt) ∨ (0 ≤ (a).toInt ∧ (a).toInt < (iv 12 1).toInt ∧ 0 ≤ (b).toInt ∧ (b).toInt ≤ 999 ∧ ((fa 12 53) a.toNatClampNeg).toInt < 8 ∧ ((-100002) : Int32).toInt = ((fa 12 53) a.toNatClampNeg).toInt + 1)) from (by omega)), (show ∀ j : Nat, j ≠ a.toNatClampNeg → (fa 12 53) j = (fa 12 53) j from fun j hj => rfl), (show ((((-100002) : Int32).toInt < 0 ∧ ((fa 12 53) a.toNatClampNeg) = ((fa 12 53) a.toNatClampNeg)) ∨ (0 ≤ ((-100002) : Int32).toInt ∧ ((fa 12 53) a.toNatClampNeg).toInt = ((-100002) : Int32).toInt)) from Or.inl ⟨by omega, rfl⟩), (show ((((-100002) : Int32).toInt < 0 ∧ ∀ j : Nat, (fa 12 54) j = (fa 12 54) j) ∨ (0 ≤ ((-100002) : Int32).toInt ∧ (∀ j : Nat, j ≠ (8 * ((a).toInt).toNat + ((((fa 12 53) ((a).toInt).toNat).toInt)).toNat) → (fa 12 54) j = (fa 12 54) j) ∧ (fa 12 54) (8 * ((a).toInt).toNat + ((((fa 12 53) ((a).toInt).toNat).toInt)).toNat) = b)) from Or.inl ⟨by omega, fun j => rfl⟩), ⟨by decide, by decide⟩, rfl⟩, by rw [ht9]; exact hP9, hD9⟩, hS.F ht9⟩) hS.2.2 dX12_turns_25
    · exact absurd rfl c3
set_option maxHeartbeats 4000000 in
set_option maxRecDepth 100000 in
/-- X12_twist -/
theorem c_X12_twist_w (l : Launch) (dC : Nat → ClassId) (dI : Nat → Nat → Nat) (h : Nat) (g : Nat → Nat → Nat) (ca : Nat → Nat → ClassId) (iv : Nat → Nat → Int32) (lv : Nat → Nat → Int64) (fa : Nat → Nat → Nat → Int32) (la : Nat → Nat → Nat → Int64) (hI : IX iv fa) (a : Int32) : Met l yX12_twist (wc yX12_twist cX12_twist 8 (some .int)) ({ frames := 2, cells := 0, slots := 0, locals := 46 } : Room) (pR (dC, dI) classes (WM h g ca iv lv fa la) (TM ca) [.ref h, .int a]) (vp_Si (fun r => (True) ∧ (((r.toInt = -100001 ∧ ¬ (0 ≤ a.toInt ∧ a.toInt < (iv 12 1).toInt)) ∨ ((0 ≤ a.toInt ∧ a.toInt < (iv 12 1).toInt) ∧ ((∃ i : Nat, i < ((((fa 12 53) (a.toInt).toNat).toInt)).toNat ∧ r.toInt = ((fa 12 54) (8 * (a.toInt).toNat + i)).toInt ∧ rk (fun k : Nat => ((fa 12 54) (8 * (a.toInt).toNat + k)).toInt) ((fa 12 54) (8 * (a.toInt).toNat + i)).toInt i ((((fa 12 53) (a.toInt).toNat).toInt)).toNat = (((((fa 12 53) (a.toInt).toNat).toInt)).toNat - 1) / 2) ∨ (r.toInt = -1 ∧ ∀ k : Nat, k < ((((fa 12 53) (a.toInt).toNat).toInt)).toNat → rk (fun k : Nat => ((fa 12 54) (8 * (a.toInt).toNat + k)).toInt) ((fa 12 54) (8 * (a.toInt).toNat + k)).toInt k ((((fa 12 53) (a.toInt).toNat).toInt)).toNat ≠ (((((fa 12 53) (a.toInt).toNat).toInt)).toNat - 1) / 2))))))) 0 0 (fun _ => False) := by
  refine Met.ofW (cc := cX12_twist) (maxL := 8) (ret := (some .int)) (by decide) rfl ?_
  intro p e s m args below meth c s₁ B hml hv
  obtain ⟨rfl, hP, hK⟩ := hv
  have hx := B.exec
  have hb := B.bytes
  have hr := B.returns
  have ht := tb_tl (atoms_spec (ws := wc yX12_twist cX12_twist 8 (some .int)) B.pre)
  have hown : s.vm.findClass RX12 = some m.cls := findClass_of_methodNamed B.named
  have hlocks := B.notSynchronized
  have hl := lv_entry [.ref h, .int a] (n := 8) (Nat.le_of_ble_eq_true rfl)
  rw [lg_entry_eq]
  generalize (lg_sl [.ref h, .int a] ++ List.replicate (8 - (lg_sl [.ref h, .int a]).length) Slot.unset).toArray = ls at hl ⊢
  have hl : lv_has ls 8 [(0, .ref h), (1, .int a)] := hl
  refine lv_aload_n hx hb dX12_twist_0 rfl (lv_at hl 0 rfl) ?_
  refine lv_iload_n hx hb dX12_twist_1 rfl (lv_at hl 1 rfl) ?_
  refine vp_callSi (W.runV (As := [.int a]) (rest := []) ⟨hx, hb, hml, hown, ht⟩ (c_X12_noBale l dC dI h g ca iv lv fa la hI a) (kV 1 ht m_1385 m_1387 m_42 m_89 m_1388 rfl rfl hd_X12_noBale_v ⟨Nat.le_of_ble_eq_true rfl, Nat.le_of_ble_eq_true rfl⟩) (vR hP hK (va_recv hK hP (ci := 12) (q0 := 0) rfl rfl)) rfl rfl hl.1 rfl (lv_room (Nat.le_of_ble_eq_true rfl)) dX12_twist_2 ⟨Nat.le_of_ble_eq_true rfl, Nat.le_of_ble_eq_true rfl⟩) (fun r1 hr1 => ?_)
  rcases hr1 with ⟨rfl, fr1⟩ | ⟨rfl, fr1⟩
  · skip
    have i_12_1 : 0 ≤ (iv 12 1).toInt ∧ (iv 12 1).toInt ≤ 10 := hI.1 12 1
    have fr1 : ¬ (0 ≤ (a : Int32).toInt ∧ (a : Int32).toInt < ((iv 12 1) : Int32).toInt) := fr1
    refine lv_if_eq (tgt := 11) hx hb dX12_twist_5 (by decide) (fun c2 => ?_) (fun c2 => ?_)
    · exact absurd c2 (by decide)
    · skip
      refine lv_ldc hx hb hown (ht _ m_1389) dX12_twist_8 ?_
      have : ((-100001) : Int32).toInt = (-100001) := (by decide)
      exact W.iret (v := (-100001)) hx hb hr (fun t ht9 hW => ⟨(-100001), rfl, ⟨trivial, (show ((((-100001) : Int32).toInt = -100001 ∧ ¬ (0 ≤ (a).toInt ∧ (a).toInt < (iv 12 1).toInt)) ∨ ((0 ≤ (a).toInt ∧ (a).toInt < (iv 12 1).toInt) ∧ ((∃ i : Nat, i < ((((fa 12 53) ((a).toInt).toNat).toInt)).toNat ∧ ((-100001) : Int32).toInt = ((fa 12 54) (8 * ((a).toInt).toNat + i)).toInt ∧ rk (fun k : Nat => ((fa 12 54) (8 * ((a).toInt).toNat + k)).toInt) ((fa 12 54) (8 * ((a).toInt).toNat + i)).toInt i ((((fa 12 53) ((a).toInt).toNat).toInt)).toNat = (((((fa 12 53) ((a).toInt).toNat).toInt)).toNat - 1) / 2) ∨ (((-100001) : Int32).toInt = -1 ∧ ∀ k : Nat, k < ((((fa 12 53) ((a).toInt).toNat).toInt)).toNat → rk (fun k : Nat => ((fa 12 54) (8 * ((a).toInt).toNat + k)).toInt) ((fa 12 54) (8 * ((a).toInt).toNat + k)).toInt k ((((fa 12 53) ((a).toInt).toNat).toInt)).toNat ≠ (((((fa 12 53) ((a).toInt).toNat).toInt)).toNat - 1) / 2)))) from Or.inl ⟨by omega, by omega⟩)⟩, ht9⟩) (fun q hq => by cases hq) dX12_twist_10
  · skip
    have i_12_1 : 0 ≤ (iv 12 1).toInt ∧ (iv 12 1).toInt ≤ 10 := hI.1 12 1
    have fr1 : (0 ≤ (a : Int32).toInt ∧ (a : Int32).toInt < ((iv 12 1) : Int32).toInt) := Decidable.not_not.mp fr1
    refine lv_if_eq (tgt := 11) hx hb dX12_twist_5 (by decide) (fun c3 => ?_) (fun c3 => ?_)
    · skip
      refine lv_aload_n hx hb dX12_twist_11 rfl (lv_at hl 0 rfl) ?_
      refine va_get (D := (dC, dI)) (ci := 12) (v := .ref (g 12 53)) (fs := fM12 h g iv lv) (C := RX12) (T := TX12) (N := 75) hx hb ht inX12 hown hK hP 0 rfl rfl 53 (by decide) (ht _ m_1192) (fun _ h9 => h9) rfl dX12_twist_12 ?_
      refine lv_iload_n hx hb dX12_twist_15 rfl (lv_at hl 1 rfl) ?_
      refine va_iald (D := (dC, dI)) hx hb hK hP 31 30 (f := (fa 12 53)) rfl rfl (vp_in_iff.mpr ⟨by omega, by omega⟩) dX12_twist_16 ?_
      refine lv_topi (fun v4 ev4 => ?_)
      have tv4 : 0 ≤ v4.toInt ∧ v4.toInt ≤ 8 := by rw [ev4]; exact hI.2 12 53 _
      have hn9 := congrArg Int32.toInt (show v4 = fa 12 53 (a.toInt).toNat from ev4)
      refine lv_istore_n (lv' := [(2, .int v4), (0, .ref h), (1, .int a)]) hx hb dX12_twist_17 rfl hl (by decide) rfl (fun ls hl => ?_)
      refine lv_iconst (v := 0) hx hb dX12_twist_18 (by decide) ?_
      refine lv_istore_n (lv' := [(3, .int 0), (2, .int v4), (0, .ref h), (1, .int a)]) hx hb dX12_twist_19 rfl hl (by decide) rfl (fun ls hl => ?_)
      have lp2367 : ∀ (nn2367 : Nat) (x2366_3 : Int32), 0 ≤ x2366_3.toInt ∧ x2366_3.toInt ≤ 8 → (∀ k : Nat, (k : Int) < (x2366_3 : Int32).toInt → rk (fun k : Nat => ((fa 12 54) (8 * ((a).toInt).toNat + k)).toInt) ((fa 12 54) (8 * ((a).toInt).toNat + k)).toInt k ((((fa 12 53) ((a).toInt).toNat).toInt)).toNat ≠ (((((fa 12 53) ((a).toInt).toNat).toInt)).toNat - 1) / 2) → (x2366_3 : Int32).toInt ≤ (v4 : Int32).toInt → 8 - x2366_3.toInt < (nn2367 : Int) → ∀ (ls : Array Slot), lv_has ls 8 [(3, .int x2366_3), (2, .int v4), (0, .ref h), (1, .int a)] → W p l e ({ frames := 2, cells := 0, slots := 0, locals := 46 } : Room) s m ([.ref h, .int a] : List Value).toArray below meth c s.heap [] 0 0 (MQ below (vp_Si (fun r => (True) ∧ (((r.toInt = -100001 ∧ ¬ (0 ≤ a.toInt ∧ a.toInt < (iv 12 1).toInt)) ∨ ((0 ≤ a.toInt ∧ a.toInt < (iv 12 1).toInt) ∧ ((∃ i : Nat, i < ((((fa 12 53) (a.toInt).toNat).toInt)).toNat ∧ r.toInt = ((fa 12 54) (8 * (a.toInt).toNat + i)).toInt ∧ rk (fun k : Nat => ((fa 12 54) (8 * (a.toInt).toNat + k)).toInt) ((fa 12 54) (8 * (a.toInt).toNat + i)).toInt i ((((fa 12 53) (a.toInt).toNat).toInt)).toNat = (((((fa 12 53) (a.toInt).toNat).toInt)).toNat - 1) / 2) ∨ (r.toInt = -1 ∧ ∀ k : Nat, k < ((((fa 12 53) (a.toInt).toNat).toInt)).toNat → rk (fun k : Nat => ((fa 12 54) (8 * (a.toInt).toNat + k)).toInt) ((fa 12 54) (8 * (a.toInt).toNat + k)).toInt k ((((fa 12 53) (a.toInt).toNat).toInt)).toNat ≠ (((((fa 12 53) (a.toInt).toNat).toInt)).toNat - 1) / 2))))))) ([.ref h, .int a] : List Value).toArray s 0 0 (fun _ => False)) (F0 m 20 ls []) := by
        intro nn2367
        induction nn2367 with
        | zero => intro x2366_3 hx2366_3 hq2367_0 hq2367_1 hm2367; exfalso; omega
        | succ nn2367 ih2367 =>
          intro x2366_3 hx2366_3 hq2367_0 hq2367_1 hm2367 ls hl
          refine lv_iload_n hx hb dX12_twist_20 rfl (lv_at hl 0 rfl) ?_
          refine lv_iload_n hx hb dX12_twist_21 rfl (lv_at hl 1 rfl) ?_
          refine lv_icmp_ge (tgt := 122) hx hb dX12_twist_22 (by decide) (fun c2368 => ?_) (fun c2368 => ?_)
          · have fc2368 := z_le (rfl : (v4).toInt = _) (rfl : (x2366_3).toInt = _) c2368
            refine lv_iconst (v := (-1)) hx hb dX12_twist_122 (by decide) ?_
            have : ((-1) : Int32).toInt = (-1) := (by decide)
            exact W.iret (v := (-1)) hx hb hr (fun t ht9 hW => ⟨(-1), rfl, ⟨trivial, (show ((((-1) : Int32).toInt = -100001 ∧ ¬ (0 ≤ (a).toInt ∧ (a).toInt < (iv 12 1).toInt)) ∨ ((0 ≤ (a).toInt ∧ (a).toInt < (iv 12 1).toInt) ∧ ((∃ i : Nat, i < ((((fa 12 53) ((a).toInt).toNat).toInt)).toNat ∧ ((-1) : Int32).toInt = ((fa 12 54) (8 * ((a).toInt).toNat + i)).toInt ∧ rk (fun k : Nat => ((fa 12 54) (8 * ((a).toInt).toNat + k)).toInt) ((fa 12 54) (8 * ((a).toInt).toNat + i)).toInt i ((((fa 12 53) ((a).toInt).toNat).toInt)).toNat = (((((fa 12 53) ((a).toInt).toNat).toInt)).toNat - 1) / 2) ∨ (((-1) : Int32).toInt = -1 ∧ ∀ k : Nat, k < ((((fa 12 53) ((a).toInt).toNat).toInt)).toNat → rk (fun k : Nat => ((fa 12 54) (8 * ((a).toInt).toNat + k)).toInt) ((fa 12 54) (8 * ((a).toInt).toNat + k)).toInt k ((((fa 12 53) ((a).toInt).toNat).toInt)).toNat ≠ (((((fa 12 53) ((a).toInt).toNat).toInt)).toNat - 1) / 2)))) from Or.inr ⟨⟨by omega, by omega⟩, Or.inr ⟨by omega, fun k hk => hq2367_0 k (by omega)⟩⟩)⟩, ht9⟩) (fun q hq => by cases hq) dX12_twist_123
          · have fc2368 := z_nle (rfl : (v4).toInt = _) (rfl : (x2366_3).toInt = _) c2368
            refine lv_aload_n hx hb dX12_twist_25 rfl (lv_at hl 2 rfl) ?_
            refine va_get (D := (dC, dI)) (ci := 12) (v := .ref (g 12 54)) (fs := fM12 h g iv lv) (C := RX12) (T := TX12) (N := 75) hx hb ht inX12 hown hK hP 0 rfl rfl 54 (by decide) (ht _ m_1193) (fun _ h9 => h9) rfl dX12_twist_26 ?_
            refine lv_bipush (v := 8) hx hb dX12_twist_29 (by decide) ?_
            refine lv_iload_n hx hb dX12_twist_31 rfl (lv_at hl 3 rfl) ?_
            refine lv_imul hx hb dX12_twist_32 ?_
            refine lv_topi (fun v2369 ev2369 => ?_)
            have tv2369 := z_mul ev2369 (by decide : (8 : Int32).toInt = 8) (rfl : (a).toInt = _) (by omega) (by omega)
            refine lv_iload_n hx hb dX12_twist_33 rfl (lv_at hl 0 rfl) ?_
            refine lv_iadd hx hb dX12_twist_34 ?_
            refine lv_topi (fun v2370 ev2370 => ?_)
            have tv2370 := z_add ev2370 (rfl : (v2369).toInt = _) (rfl : (x2366_3).toInt = _) (by omega) (by omega)
            refine va_iald (D := (dC, dI)) hx hb hK hP 32 31 (f := (fa 12 54)) rfl rfl (vp_in_iff.mpr ⟨by omega, by omega⟩) dX12_twist_35 ?_
            refine lv_topi (fun v2371 ev2371 => ?_)
            refine lv_istore (lv' := [(4, .int v2371), (3, .int x2366_3), (2, .int v4), (0, .ref h), (1, .int a)]) hx hb dX12_twist_36 hl (by decide) rfl (fun ls hl => ?_)
            refine lv_iconst (v := 0) hx hb dX12_twist_38 (by decide) ?_
            refine lv_istore (lv' := [(5, .int 0), (4, .int v2371), (3, .int x2366_3), (2, .int v4), (0, .ref h), (1, .int a)]) hx hb dX12_twist_39 hl (by decide) rfl (fun ls hl => ?_)
            refine lv_iconst (v := 0) hx hb dX12_twist_41 (by decide) ?_
            refine lv_istore (lv' := [(6, .int 0), (5, .int 0), (4, .int v2371), (3, .int x2366_3), (2, .int v4), (0, .ref h), (1, .int a)]) hx hb dX12_twist_42 hl (by decide) rfl (fun ls hl => ?_)
            have lp2609 : ∀ (nn2609 : Nat) (x2608_6 : Int32) (x2608_5 : Int32), 0 ≤ x2608_6.toInt ∧ x2608_6.toInt ≤ 8 → 0 ≤ x2608_5.toInt ∧ x2608_5.toInt ≤ 9 → ((x2608_5 : Int32).toInt = ((rk (fun k : Nat => ((fa 12 54) (8 * ((a).toInt).toNat + k)).toInt) (v2371 : Int32).toInt ((x2366_3 : Int32).toInt).toNat ((x2608_6 : Int32).toInt).toNat : Nat) : Int)) → (x2608_6 : Int32).toInt ≤ (v4 : Int32).toInt → (x2608_5 : Int32).toInt ≤ (x2608_6 : Int32).toInt → 0 ≤ (x2608_5 : Int32).toInt → 8 - x2608_6.toInt < (nn2609 : Int) → ∀ (ls : Array Slot), lv_has ls 8 [(6, .int x2608_6), (5, .int x2608_5), (4, .int v2371), (3, .int x2366_3), (2, .int v4), (0, .ref h), (1, .int a)] → W p l e ({ frames := 2, cells := 0, slots := 0, locals := 46 } : Room) s m ([.ref h, .int a] : List Value).toArray below meth c s.heap [] 0 0 (MQ below (vp_Si (fun r => (True) ∧ (((r.toInt = -100001 ∧ ¬ (0 ≤ a.toInt ∧ a.toInt < (iv 12 1).toInt)) ∨ ((0 ≤ a.toInt ∧ a.toInt < (iv 12 1).toInt) ∧ ((∃ i : Nat, i < ((((fa 12 53) (a.toInt).toNat).toInt)).toNat ∧ r.toInt = ((fa 12 54) (8 * (a.toInt).toNat + i)).toInt ∧ rk (fun k : Nat => ((fa 12 54) (8 * (a.toInt).toNat + k)).toInt) ((fa 12 54) (8 * (a.toInt).toNat + i)).toInt i ((((fa 12 53) (a.toInt).toNat).toInt)).toNat = (((((fa 12 53) (a.toInt).toNat).toInt)).toNat - 1) / 2) ∨ (r.toInt = -1 ∧ ∀ k : Nat, k < ((((fa 12 53) (a.toInt).toNat).toInt)).toNat → rk (fun k : Nat => ((fa 12 54) (8 * (a.toInt).toNat + k)).toInt) ((fa 12 54) (8 * (a.toInt).toNat + k)).toInt k ((((fa 12 53) (a.toInt).toNat).toInt)).toNat ≠ (((((fa 12 53) (a.toInt).toNat).toInt)).toNat - 1) / 2))))))) ([.ref h, .int a] : List Value).toArray s 0 0 (fun _ => False)) (F0 m 44 ls []) := by
              intro nn2609
              induction nn2609 with
              | zero => intro x2608_6 x2608_5 hx2608_6 hx2608_5 hq2609_0 hq2609_1 hq2609_2 hq2609_3 hm2609; exfalso; omega
              | succ nn2609 ih2609 =>
                intro x2608_6 x2608_5 hx2608_6 hx2608_5 hq2609_0 hq2609_1 hq2609_2 hq2609_3 hm2609 ls hl
                refine lv_iload hx hb dX12_twist_44 (lv_at hl 0 rfl) ?_
                refine lv_iload_n hx hb dX12_twist_46 rfl (lv_at hl 4 rfl) ?_
                refine lv_icmp_ge (tgt := 103) hx hb dX12_twist_47 (by decide) (fun c2610 => ?_) (fun c2610 => ?_)
                · have fc2610 := z_le (rfl : (v4).toInt = _) (rfl : (x2608_6).toInt = _) c2610
                  refine lv_iload hx hb dX12_twist_103 (lv_at hl 1 rfl) ?_
                  refine lv_iload_n hx hb dX12_twist_105 rfl (lv_at hl 4 rfl) ?_
                  refine lv_iconst (v := 1) hx hb dX12_twist_106 (by decide) ?_
                  refine lv_isub hx hb dX12_twist_107 ?_
                  refine lv_topi (fun v2611 ev2611 => ?_)
                  have tv2611 := z_sub ev2611 (rfl : (v4).toInt = _) (by decide : (1 : Int32).toInt = 1) (by omega) (by omega)
                  refine lv_iconst (v := 2) hx hb dX12_twist_108 (by decide) ?_
                  refine lv_idiv hx hb dX12_twist_109 (by decide) ?_
                  refine lv_topi (fun v2612 ev2612 => ?_)
                  have tv2612 := z_divp ev2612 (rfl : (v2611).toInt = _) (by decide : (2 : Int32).toInt = 2) (by omega) (by omega)
                  refine lv_icmp_ne (tgt := 116) hx hb dX12_twist_110 (by decide) (fun c2613 => ?_) (fun c2613 => ?_)
                  · have fc2613 := z_ne (rfl : (x2608_5).toInt = _) (rfl : (v2612).toInt = _) c2613
                    obtain ⟨v2614, ev2614⟩ : ∃ y : Int32, y = x2366_3 + 1 := ⟨_, rfl⟩
                    have tv2614 := z_add ev2614 rfl (by decide : (1 : Int32).toInt = 1) (by omega) (by omega)
                    refine lv_iinc (v := v2614) (lv' := [(3, .int v2614), (6, .int x2608_6), (5, .int x2608_5), (4, .int v2371), (2, .int v4), (0, .ref h), (1, .int a)]) hx hb dX12_twist_116 hl (k := 3) rfl (by rw [ev2614]; rfl) (by decide) rfl (fun ls hl => ?_)
                    refine lv_goto (tgt := 20) hx hb dX12_twist_119 (by decide) ?_
                    exact ih2367 v2614 ⟨by omega, by omega⟩ (show ∀ k : Nat, (k : Int) < (v2614 : Int32).toInt → rk (fun k : Nat => ((fa 12 54) (8 * ((a).toInt).toNat + k)).toInt) ((fa 12 54) (8 * ((a).toInt).toNat + k)).toInt k ((((fa 12 53) ((a).toInt).toNat).toInt)).toNat ≠ (((((fa 12 53) ((a).toInt).toNat).toInt)).toNat - 1) / 2 from (fun k hk => by
                          by_cases hj : (k : Int) < (x2366_3 : Int32).toInt
                          · exact hq2367_0 k hj
                          · have hk2 : k = ((x2366_3 : Int32).toInt).toNat := by omega
                            have hx9 := congrArg Int32.toInt ev2371
                            have hi9 : (v2370 : Int32).toNatClampNeg = 8 * (a.toInt).toNat + ((x2366_3 : Int32).toInt).toNat := (by show (v2370 : Int32).toInt.toNat = _; omega)
                            rw [hi9] at hx9
                            have hq9 := hq2609_0
                            have he9 : ((x2608_6 : Int32).toInt).toNat = ((fa 12 53 (a.toInt).toNat).toInt).toNat := by omega
                            rw [he9, hx9] at hq9
                            rw [hk2]; intro h9; rw [h9] at hq9; omega)) (show (v2614 : Int32).toInt ≤ (v4 : Int32).toInt from by omega) (by omega) ls (lv_sub hl [0, 4, 5, 6] rfl)
                  · have fc2613 := z_eq (rfl : (x2608_5).toInt = _) (rfl : (v2612).toInt = _) c2613
                    refine lv_iload hx hb dX12_twist_113 (lv_at hl 2 rfl) ?_
                    exact W.iret (v := v2371) hx hb hr (fun t ht9 hW => ⟨v2371, rfl, ⟨trivial, (show (((v2371 : Int32).toInt = -100001 ∧ ¬ (0 ≤ (a).toInt ∧ (a).toInt < (iv 12 1).toInt)) ∨ ((0 ≤ (a).toInt ∧ (a).toInt < (iv 12 1).toInt) ∧ ((∃ i : Nat, i < ((((fa 12 53) ((a).toInt).toNat).toInt)).toNat ∧ (v2371 : Int32).toInt = ((fa 12 54) (8 * ((a).toInt).toNat + i)).toInt ∧ rk (fun k : Nat => ((fa 12 54) (8 * ((a).toInt).toNat + k)).toInt) ((fa 12 54) (8 * ((a).toInt).toNat + i)).toInt i ((((fa 12 53) ((a).toInt).toNat).toInt)).toNat = (((((fa 12 53) ((a).toInt).toNat).toInt)).toNat - 1) / 2) ∨ ((v2371 : Int32).toInt = -1 ∧ ∀ k : Nat, k < ((((fa 12 53) ((a).toInt).toNat).toInt)).toNat → rk (fun k : Nat => ((fa 12 54) (8 * ((a).toInt).toNat + k)).toInt) ((fa 12 54) (8 * ((a).toInt).toNat + k)).toInt k ((((fa 12 53) ((a).toInt).toNat).toInt)).toNat ≠ (((((fa 12 53) ((a).toInt).toNat).toInt)).toNat - 1) / 2)))) from (by
                          have hx9 := congrArg Int32.toInt ev2371
                          have hi9 : (v2370 : Int32).toNatClampNeg = 8 * (a.toInt).toNat + ((x2366_3 : Int32).toInt).toNat := (by show (v2370 : Int32).toInt.toNat = _; omega)
                          rw [hi9] at hx9
                          have hq9 := hq2609_0
                          have he9 : ((x2608_6 : Int32).toInt).toNat = ((fa 12 53 (a.toInt).toNat).toInt).toNat := by omega
                          rw [he9, hx9] at hq9
                          exact Or.inr ⟨⟨by omega, by omega⟩, Or.inl ⟨((x2366_3 : Int32).toInt).toNat, by omega, hx9, by show rk _ _ _ _ = _; omega⟩⟩))⟩, ht9⟩) (fun q hq => by cases hq) dX12_twist_115
                · have fc2610 := z_nle (rfl : (v4).toInt = _) (rfl : (x2608_6).toInt = _) c2610
                  refine lv_aload_n hx hb dX12_twist_50 rfl (lv_at hl 5 rfl) ?_
                  refine va_get (D := (dC, dI)) (ci := 12) (v := .ref (g 12 54)) (fs := fM12 h g iv lv) (C := RX12) (T := TX12) (N := 75) hx hb ht inX12 hown hK hP 0 rfl rfl 54 (by decide) (ht _ m_1193) (fun _ h9 => h9) rfl dX12_twist_51 ?_
                  refine lv_bipush (v := 8) hx hb dX12_twist_54 (by decide) ?_
                  refine lv_iload_n hx hb dX12_twist_56 rfl (lv_at hl 6 rfl) ?_
                  refine lv_imul hx hb dX12_twist_57 ?_
                  refine lv_topi (fun v2615 ev2615 => ?_)
                  obtain rfl : v2369 = v2615 := ev2369.trans ev2615.symm
                  refine lv_iload hx hb dX12_twist_58 (lv_at hl 0 rfl) ?_
                  refine lv_iadd hx hb dX12_twist_60 ?_
                  refine lv_topi (fun v2616 ev2616 => ?_)
                  have tv2616 := z_add ev2616 (rfl : (v2369).toInt = _) (rfl : (x2608_6).toInt = _) (by omega) (by omega)
                  refine va_iald (D := (dC, dI)) hx hb hK hP 32 31 (f := (fa 12 54)) rfl rfl (vp_in_iff.mpr ⟨by omega, by omega⟩) dX12_twist_61 ?_
                  refine lv_topi (fun v2617 ev2617 => ?_)
                  refine lv_istore (lv' := [(7, .int v2617), (6, .int x2608_6), (5, .int x2608_5), (4, .int v2371), (3, .int x2366_3), (2, .int v4), (0, .ref h), (1, .int a)]) hx hb dX12_twist_62 hl (by decide) rfl (fun ls hl => ?_)
                  refine lv_iload hx hb dX12_twist_64 (lv_at hl 2 rfl) ?_
                  refine lv_iload hx hb dX12_twist_66 (lv_at hl 0 rfl) ?_
                  refine lv_iload hx hb dX12_twist_68 (lv_at hl 3 rfl) ?_
                  refine lv_icmp_lt (tgt := 86) hx hb dX12_twist_70 (by decide) (fun c2618 => ?_) (fun c2618 => ?_)
                  · have fc2618 := z_lt (rfl : (v2617).toInt = _) (rfl : (v2371).toInt = _) c2618
                    refine lv_iconst (v := 1) hx hb dX12_twist_86 (by decide) ?_
                    refine lv_goto (tgt := 91) hx hb dX12_twist_87 (by decide) ?_
                    refine vp_callSi (W.runS (As := [.int 1]) (rest := [.int x2608_5]) ⟨hx, hb, hml, hown, ht⟩ (c_X12_bit_1 l dC dI) (kS 1 ht m_1396 m_1397 m_89 m_1398 rfl rfl hd_X12_bit_v ⟨Nat.le_of_ble_eq_true rfl, Nat.le_of_ble_eq_true rfl⟩) (sR noP (hK.sub (tys' := []) [] rfl)) rfl rfl hl.1 rfl (lv_room (Nat.le_of_ble_eq_true rfl)) dX12_twist_91 ⟨Nat.le_of_ble_eq_true rfl, Nat.le_of_ble_eq_true rfl⟩) (fun r2619 hr2619 => ?_)
                    obtain rfl : 1 = r2619 := hr2619.symm
                    have : 0 ≤ (x2608_5 : Int32).toInt ∧ (x2608_5 : Int32).toInt ≤ 8 := ⟨by omega, by omega⟩
                    refine lv_iadd hx hb dX12_twist_94 ?_
                    refine lv_topi (fun v2620 ev2620 => ?_)
                    have tv2620 := z_add ev2620 (rfl : (x2608_5).toInt = _) (by decide : (1 : Int32).toInt = 1) (by omega) (by omega)
                    refine lv_istore (lv' := [(5, .int v2620), (7, .int v2617), (6, .int x2608_6), (4, .int v2371), (3, .int x2366_3), (2, .int v4), (0, .ref h), (1, .int a)]) hx hb dX12_twist_95 hl (by decide) rfl (fun ls hl => ?_)
                    obtain ⟨v2621, ev2621⟩ : ∃ y : Int32, y = x2608_6 + 1 := ⟨_, rfl⟩
                    have tv2621 := z_add ev2621 rfl (by decide : (1 : Int32).toInt = 1) (by omega) (by omega)
                    refine lv_iinc (v := v2621) (lv' := [(6, .int v2621), (5, .int v2620), (7, .int v2617), (4, .int v2371), (3, .int x2366_3), (2, .int v4), (0, .ref h), (1, .int a)]) hx hb dX12_twist_97 hl (k := 2) rfl (by rw [ev2621]; rfl) (by decide) rfl (fun ls hl => ?_)
                    refine lv_goto (tgt := 44) hx hb dX12_twist_100 (by decide) ?_
                    exact ih2609 v2621 v2620 ⟨by omega, by omega⟩ ⟨by omega, by omega⟩ (show (v2620 : Int32).toInt = ((rk (fun k : Nat => ((fa 12 54) (8 * ((a).toInt).toNat + k)).toInt) (v2371 : Int32).toInt ((x2366_3 : Int32).toInt).toNat ((v2621 : Int32).toInt).toNat : Nat) : Int) from (by have hx9 := congrArg Int32.toInt ev2617; have hi9 : (v2616 : Int32).toNatClampNeg = 8 * (a.toInt).toNat + ((x2608_6 : Int32).toInt).toNat := (by show (v2616 : Int32).toInt.toNat = _; omega); rw [hi9] at hx9; have hq9 := hq2609_0; rw [rk_y (show ((v2621 : Int32).toInt).toNat = ((x2608_6 : Int32).toInt).toNat + 1 from by omega) (show ((fa 12 54 (8 * (a.toInt).toNat + ((x2608_6 : Int32).toInt).toNat)).toInt < (v2371 : Int32).toInt ∨ ((fa 12 54 (8 * (a.toInt).toNat + ((x2608_6 : Int32).toInt).toNat)).toInt = (v2371 : Int32).toInt ∧ ((x2608_6 : Int32).toInt).toNat < ((x2366_3 : Int32).toInt).toNat)) from by omega)]; omega)) (show (v2621 : Int32).toInt ≤ (v4 : Int32).toInt from by omega) (show (v2620 : Int32).toInt ≤ (v2621 : Int32).toInt from by omega) (show 0 ≤ (v2620 : Int32).toInt from by omega) (by omega) ls (lv_sub hl [0, 1, 3, 4, 5, 6, 7] rfl)
                  · have fc2618 := z_nlt (rfl : (v2617).toInt = _) (rfl : (v2371).toInt = _) c2618
                    refine lv_iload hx hb dX12_twist_73 (lv_at hl 0 rfl) ?_
                    refine lv_iload hx hb dX12_twist_75 (lv_at hl 3 rfl) ?_
                    refine lv_icmp_ne (tgt := 90) hx hb dX12_twist_77 (by decide) (fun c2622 => ?_) (fun c2622 => ?_)
                    · have fc2622 := z_ne (rfl : (v2617).toInt = _) (rfl : (v2371).toInt = _) c2622
                      refine lv_iconst (v := 0) hx hb dX12_twist_90 (by decide) ?_
                      refine vp_callSi (W.runS (As := [.int 0]) (rest := [.int x2608_5]) ⟨hx, hb, hml, hown, ht⟩ (c_X12_bit_0 l dC dI) (kS 1 ht m_1396 m_1397 m_89 m_1398 rfl rfl hd_X12_bit_v ⟨Nat.le_of_ble_eq_true rfl, Nat.le_of_ble_eq_true rfl⟩) (sR noP (hK.sub (tys' := []) [] rfl)) rfl rfl hl.1 rfl (lv_room (Nat.le_of_ble_eq_true rfl)) dX12_twist_91 ⟨Nat.le_of_ble_eq_true rfl, Nat.le_of_ble_eq_true rfl⟩) (fun r2623 hr2623 => ?_)
                      obtain rfl : 0 = r2623 := hr2623.symm
                      have : 0 ≤ (x2608_5 : Int32).toInt ∧ (x2608_5 : Int32).toInt ≤ 8 := ⟨by omega, by omega⟩
                      refine lv_iadd hx hb dX12_twist_94 ?_
                      refine lv_topi (fun v2624 ev2624 => ?_)
                      have tv2624 := z_add ev2624 (rfl : (x2608_5).toInt = _) (by decide : (0 : Int32).toInt = 0) (by omega) (by omega)
                      refine lv_istore (lv' := [(5, .int v2624), (7, .int v2617), (6, .int x2608_6), (4, .int v2371), (3, .int x2366_3), (2, .int v4), (0, .ref h), (1, .int a)]) hx hb dX12_twist_95 hl (by decide) rfl (fun ls hl => ?_)
                      obtain ⟨v2625, ev2625⟩ : ∃ y : Int32, y = x2608_6 + 1 := ⟨_, rfl⟩
                      have tv2625 := z_add ev2625 rfl (by decide : (1 : Int32).toInt = 1) (by omega) (by omega)
                      refine lv_iinc (v := v2625) (lv' := [(6, .int v2625), (5, .int v2624), (7, .int v2617), (4, .int v2371), (3, .int x2366_3), (2, .int v4), (0, .ref h), (1, .int a)]) hx hb dX12_twist_97 hl (k := 2) rfl (by rw [ev2625]; rfl) (by decide) rfl (fun ls hl => ?_)
                      refine lv_goto (tgt := 44) hx hb dX12_twist_100 (by decide) ?_
                      exact ih2609 v2625 v2624 ⟨by omega, by omega⟩ ⟨by omega, by omega⟩ (show (v2624 : Int32).toInt = ((rk (fun k : Nat => ((fa 12 54) (8 * ((a).toInt).toNat + k)).toInt) (v2371 : Int32).toInt ((x2366_3 : Int32).toInt).toNat ((v2625 : Int32).toInt).toNat : Nat) : Int) from (by have hx9 := congrArg Int32.toInt ev2617; have hi9 : (v2616 : Int32).toNatClampNeg = 8 * (a.toInt).toNat + ((x2608_6 : Int32).toInt).toNat := (by show (v2616 : Int32).toInt.toNat = _; omega); rw [hi9] at hx9; have hq9 := hq2609_0; rw [rk_n (show ((v2625 : Int32).toInt).toNat = ((x2608_6 : Int32).toInt).toNat + 1 from by omega) (show ¬ ((fa 12 54 (8 * (a.toInt).toNat + ((x2608_6 : Int32).toInt).toNat)).toInt < (v2371 : Int32).toInt ∨ ((fa 12 54 (8 * (a.toInt).toNat + ((x2608_6 : Int32).toInt).toNat)).toInt = (v2371 : Int32).toInt ∧ ((x2608_6 : Int32).toInt).toNat < ((x2366_3 : Int32).toInt).toNat)) from by omega)]; omega)) (show (v2625 : Int32).toInt ≤ (v4 : Int32).toInt from by omega) (show (v2624 : Int32).toInt ≤ (v2625 : Int32).toInt from by omega) (show 0 ≤ (v2624 : Int32).toInt from by omega) (by omega) ls (lv_sub hl [0, 1, 3, 4, 5, 6, 7] rfl)
                    · have fc2622 := z_eq (rfl : (v2617).toInt = _) (rfl : (v2371).toInt = _) c2622
                      refine lv_iload hx hb dX12_twist_80 (lv_at hl 1 rfl) ?_
                      refine lv_iload_n hx hb dX12_twist_82 rfl (lv_at hl 4 rfl) ?_
                      refine lv_icmp_ge (tgt := 90) hx hb dX12_twist_83 (by decide) (fun c2626 => ?_) (fun c2626 => ?_)
                      · have fc2626 := z_le (rfl : (x2366_3).toInt = _) (rfl : (x2608_6).toInt = _) c2626
                        refine lv_iconst (v := 0) hx hb dX12_twist_90 (by decide) ?_
                        refine vp_callSi (W.runS (As := [.int 0]) (rest := [.int x2608_5]) ⟨hx, hb, hml, hown, ht⟩ (c_X12_bit_0 l dC dI) (kS 1 ht m_1396 m_1397 m_89 m_1398 rfl rfl hd_X12_bit_v ⟨Nat.le_of_ble_eq_true rfl, Nat.le_of_ble_eq_true rfl⟩) (sR noP (hK.sub (tys' := []) [] rfl)) rfl rfl hl.1 rfl (lv_room (Nat.le_of_ble_eq_true rfl)) dX12_twist_91 ⟨Nat.le_of_ble_eq_true rfl, Nat.le_of_ble_eq_true rfl⟩) (fun r2627 hr2627 => ?_)
                        obtain rfl : 0 = r2627 := hr2627.symm
                        have : 0 ≤ (x2608_5 : Int32).toInt ∧ (x2608_5 : Int32).toInt ≤ 8 := ⟨by omega, by omega⟩
                        refine lv_iadd hx hb dX12_twist_94 ?_
                        refine lv_topi (fun v2628 ev2628 => ?_)
                        have tv2628 := z_add ev2628 (rfl : (x2608_5).toInt = _) (by decide : (0 : Int32).toInt = 0) (by omega) (by omega)
                        refine lv_istore (lv' := [(5, .int v2628), (7, .int v2617), (6, .int x2608_6), (4, .int v2371), (3, .int x2366_3), (2, .int v4), (0, .ref h), (1, .int a)]) hx hb dX12_twist_95 hl (by decide) rfl (fun ls hl => ?_)
                        obtain ⟨v2629, ev2629⟩ : ∃ y : Int32, y = x2608_6 + 1 := ⟨_, rfl⟩
                        have tv2629 := z_add ev2629 rfl (by decide : (1 : Int32).toInt = 1) (by omega) (by omega)
                        refine lv_iinc (v := v2629) (lv' := [(6, .int v2629), (5, .int v2628), (7, .int v2617), (4, .int v2371), (3, .int x2366_3), (2, .int v4), (0, .ref h), (1, .int a)]) hx hb dX12_twist_97 hl (k := 2) rfl (by rw [ev2629]; rfl) (by decide) rfl (fun ls hl => ?_)
                        refine lv_goto (tgt := 44) hx hb dX12_twist_100 (by decide) ?_
                        exact ih2609 v2629 v2628 ⟨by omega, by omega⟩ ⟨by omega, by omega⟩ (show (v2628 : Int32).toInt = ((rk (fun k : Nat => ((fa 12 54) (8 * ((a).toInt).toNat + k)).toInt) (v2371 : Int32).toInt ((x2366_3 : Int32).toInt).toNat ((v2629 : Int32).toInt).toNat : Nat) : Int) from (by have hx9 := congrArg Int32.toInt ev2617; have hi9 : (v2616 : Int32).toNatClampNeg = 8 * (a.toInt).toNat + ((x2608_6 : Int32).toInt).toNat := (by show (v2616 : Int32).toInt.toNat = _; omega); rw [hi9] at hx9; have hq9 := hq2609_0; rw [rk_n (show ((v2629 : Int32).toInt).toNat = ((x2608_6 : Int32).toInt).toNat + 1 from by omega) (show ¬ ((fa 12 54 (8 * (a.toInt).toNat + ((x2608_6 : Int32).toInt).toNat)).toInt < (v2371 : Int32).toInt ∨ ((fa 12 54 (8 * (a.toInt).toNat + ((x2608_6 : Int32).toInt).toNat)).toInt = (v2371 : Int32).toInt ∧ ((x2608_6 : Int32).toInt).toNat < ((x2366_3 : Int32).toInt).toNat)) from by omega)]; omega)) (show (v2629 : Int32).toInt ≤ (v4 : Int32).toInt from by omega) (show (v2628 : Int32).toInt ≤ (v2629 : Int32).toInt from by omega) (show 0 ≤ (v2628 : Int32).toInt from by omega) (by omega) ls (lv_sub hl [0, 1, 3, 4, 5, 6, 7] rfl)
                      · have fc2626 := z_nle (rfl : (x2366_3).toInt = _) (rfl : (x2608_6).toInt = _) c2626
                        refine lv_iconst (v := 1) hx hb dX12_twist_86 (by decide) ?_
                        refine lv_goto (tgt := 91) hx hb dX12_twist_87 (by decide) ?_
                        refine vp_callSi (W.runS (As := [.int 1]) (rest := [.int x2608_5]) ⟨hx, hb, hml, hown, ht⟩ (c_X12_bit_1 l dC dI) (kS 1 ht m_1396 m_1397 m_89 m_1398 rfl rfl hd_X12_bit_v ⟨Nat.le_of_ble_eq_true rfl, Nat.le_of_ble_eq_true rfl⟩) (sR noP (hK.sub (tys' := []) [] rfl)) rfl rfl hl.1 rfl (lv_room (Nat.le_of_ble_eq_true rfl)) dX12_twist_91 ⟨Nat.le_of_ble_eq_true rfl, Nat.le_of_ble_eq_true rfl⟩) (fun r2630 hr2630 => ?_)
                        obtain rfl : 1 = r2630 := hr2630.symm
                        have : 0 ≤ (x2608_5 : Int32).toInt ∧ (x2608_5 : Int32).toInt ≤ 8 := ⟨by omega, by omega⟩
                        refine lv_iadd hx hb dX12_twist_94 ?_
                        refine lv_topi (fun v2631 ev2631 => ?_)
                        have tv2631 := z_add ev2631 (rfl : (x2608_5).toInt = _) (by decide : (1 : Int32).toInt = 1) (by omega) (by omega)
                        refine lv_istore (lv' := [(5, .int v2631), (7, .int v2617), (6, .int x2608_6), (4, .int v2371), (3, .int x2366_3), (2, .int v4), (0, .ref h), (1, .int a)]) hx hb dX12_twist_95 hl (by decide) rfl (fun ls hl => ?_)
                        obtain ⟨v2632, ev2632⟩ : ∃ y : Int32, y = x2608_6 + 1 := ⟨_, rfl⟩
                        have tv2632 := z_add ev2632 rfl (by decide : (1 : Int32).toInt = 1) (by omega) (by omega)
                        refine lv_iinc (v := v2632) (lv' := [(6, .int v2632), (5, .int v2631), (7, .int v2617), (4, .int v2371), (3, .int x2366_3), (2, .int v4), (0, .ref h), (1, .int a)]) hx hb dX12_twist_97 hl (k := 2) rfl (by rw [ev2632]; rfl) (by decide) rfl (fun ls hl => ?_)
                        refine lv_goto (tgt := 44) hx hb dX12_twist_100 (by decide) ?_
                        exact ih2609 v2632 v2631 ⟨by omega, by omega⟩ ⟨by omega, by omega⟩ (show (v2631 : Int32).toInt = ((rk (fun k : Nat => ((fa 12 54) (8 * ((a).toInt).toNat + k)).toInt) (v2371 : Int32).toInt ((x2366_3 : Int32).toInt).toNat ((v2632 : Int32).toInt).toNat : Nat) : Int) from (by have hx9 := congrArg Int32.toInt ev2617; have hi9 : (v2616 : Int32).toNatClampNeg = 8 * (a.toInt).toNat + ((x2608_6 : Int32).toInt).toNat := (by show (v2616 : Int32).toInt.toNat = _; omega); rw [hi9] at hx9; have hq9 := hq2609_0; rw [rk_y (show ((v2632 : Int32).toInt).toNat = ((x2608_6 : Int32).toInt).toNat + 1 from by omega) (show ((fa 12 54 (8 * (a.toInt).toNat + ((x2608_6 : Int32).toInt).toNat)).toInt < (v2371 : Int32).toInt ∨ ((fa 12 54 (8 * (a.toInt).toNat + ((x2608_6 : Int32).toInt).toNat)).toInt = (v2371 : Int32).toInt ∧ ((x2608_6 : Int32).toInt).toNat < ((x2366_3 : Int32).toInt).toNat)) from by omega)]; omega)) (show (v2632 : Int32).toInt ≤ (v4 : Int32).toInt from by omega) (show (v2631 : Int32).toInt ≤ (v2632 : Int32).toInt from by omega) (show 0 ≤ (v2631 : Int32).toInt from by omega) (by omega) ls (lv_sub hl [0, 1, 3, 4, 5, 6, 7] rfl)
            have : (0 : Int32).toInt = 0 := (by decide)
            exact lp2609 9 0 0 ⟨by decide, by decide⟩ ⟨by decide, by decide⟩ (show (0 : Int32).toInt = ((rk (fun k : Nat => ((fa 12 54) (8 * ((a).toInt).toNat + k)).toInt) (v2371 : Int32).toInt ((x2366_3 : Int32).toInt).toNat ((0 : Int32).toInt).toNat : Nat) : Int) from by show _ = ((0 : Nat) : Int); omega) (show (0 : Int32).toInt ≤ (v4 : Int32).toInt from by omega) (show (0 : Int32).toInt ≤ (0 : Int32).toInt from by omega) (show 0 ≤ (0 : Int32).toInt from by omega) (by first | decide | omega) ls (lv_sub hl [0, 1, 2, 3, 4, 5, 6] rfl)
      have : (0 : Int32).toInt = 0 := (by decide)
      exact lp2367 9 0 ⟨by decide, by decide⟩ (show ∀ k : Nat, (k : Int) < (0 : Int32).toInt → rk (fun k : Nat => ((fa 12 54) (8 * ((a).toInt).toNat + k)).toInt) ((fa 12 54) (8 * ((a).toInt).toNat + k)).toInt k ((((fa 12 53) ((a).toInt).toNat).toInt)).toNat ≠ (((((fa 12 53) ((a).toInt).toNat).toInt)).toNat - 1) / 2 from fun k hk => absurd hk (by omega)) (show (0 : Int32).toInt ≤ (v4 : Int32).toInt from by omega) (by first | decide | omega) ls (lv_sub hl [0, 1, 2, 3] rfl)
    · exact absurd rfl c3
