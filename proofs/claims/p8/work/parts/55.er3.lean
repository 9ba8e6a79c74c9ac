/-! ===== er3 ===== -/
set_option maxHeartbeats 4000000 in
set_option maxRecDepth 100000 in
/-- X9_note -/
theorem c_X9_note_x (l : Launch) (dC : Nat → ClassId) (dI : Nat → Nat → Nat) (sz : Nat) (h : Nat) (g : Nat → Nat → Nat) (ca : Nat → Nat → ClassId) (iv : Nat → Nat → Int32) (lv : Nat → Nat → Int64) (fa : Nat → Nat → Nat → Int32) (la : Nat → Nat → Nat → Int64) (hI : IX iv fa) (a : Int32) (b : Int32) (d : Int32) (q_9_3 : 0 ≤ (iv 9 3).toInt ∧ (iv 9 3).toInt ≤ 29) : Met l yX9_note (wc yX9_note cX9_note 4 (some .int)) ({ frames := 0, cells := 0, slots := 0, locals := 0 } : Room) (pW (dC, dI) classes (WX h g ca iv lv fa la) (TX ca) sz [.ref (g 11 1), .int a, .int b, .int d]) (va_Qi (fun r (u : SS) => ∃ (na_9_0 : Nat → Int32) (na_9_1 : Nat → Int32) (na_9_2 : Nat → Int32) (ni_9_3 : Int32), inb (bI 9 3) ni_9_3 ∧ ni_9_3.toInt = (iv 9 3).toInt + 1 ∧ (((r.toInt < 0 ∧ ∀ j : Nat, na_9_0 j = (fa 9 0) j ∧ na_9_1 j = (fa 9 1) j ∧ na_9_2 j = (fa 9 2) j) ∨ (0 ≤ r.toInt ∧ (∀ j : Nat, j ≠ ((iv 9 3).toInt).toNat → na_9_0 j = (fa 9 0) j ∧ na_9_1 j = (fa 9 1) j ∧ na_9_2 j = (fa 9 2) j) ∧ na_9_0 ((iv 9 3).toInt).toNat = a ∧ na_9_1 ((iv 9 3).toInt).toNat = b ∧ (na_9_2 ((iv 9 3).toInt).toNat).toInt = d.toInt))) ∧ (r.toInt = (iv 9 3).toInt + 1) ∧ (1 ≤ r.toInt ∧ r.toInt ≤ 30) ∧ u = ((u2 iv 9 3 ni_9_3), lv, (u2 (u2 (u2 fa 9 0 na_9_0) 9 1 na_9_1) 9 2 na_9_2), la)) (bX (dC, dI) h g ca (va_A (WX h g ca iv lv fa la) sz)) (va_A (WX h g ca iv lv fa la) sz)) 0 0 (va_A (WX h g ca iv lv fa la) sz) := by
  refine Met.ofW (cc := cX9_note) (maxL := 4) (ret := (some .int)) (by decide) rfl ?_
  intro p e s m args below meth c s₁ B hml hv
  obtain ⟨rfl, hsz, hP, hK, hD0⟩ := hv
  have hx := B.exec
  have hb := B.bytes
  have hr := B.returns
  have ht := tb_tl (atoms_spec (ws := wc yX9_note cX9_note 4 (some .int)) B.pre)
  have hown : s.vm.findClass RX9 = some m.cls := findClass_of_methodNamed B.named
  have hlocks := B.notSynchronized
  subst hsz
  have hD := hD0.self (sz := s.heap.size)
  generalize hAe : va_A (WX h g ca iv lv fa la) s.heap.size = A at hD ⊢
  have hA : ∀ q : Nat, s.heap.size ≤ q → A q := fun q h => by rw [← hAe]; exact Or.inr h
  have hS : va_S A s.heap s.heap [] := va_S.rf
  have hl := lv_entry [.ref (g 11 1), .int a, .int b, .int d] (n := 4) (Nat.le_of_ble_eq_true rfl)
  rw [lg_entry_eq]
  generalize (lg_sl [.ref (g 11 1), .int a, .int b, .int d] ++ List.replicate (4 - (lg_sl [.ref (g 11 1), .int a, .int b, .int d]).length) Slot.unset).toArray = ls at hl ⊢
  have hl : lv_has ls 4 [(0, .ref (g 11 1)), (1, .int a), (2, .int b), (3, .int d)] := hl
  refine lv_aload_n hx hb dX9_note_0 rfl (lv_at hl 0 rfl) ?_
  refine gX_9_0 hx hb ht hown hK hP m_132 dX9_note_1 ?_
  refine lv_aload_n hx hb dX9_note_4 rfl (lv_at hl 0 rfl) ?_
  have i_9_3 : 0 ≤ (iv 9 3).toInt ∧ (iv 9 3).toInt ≤ 30 := hI.1 9 3
  refine gX_9_3 hx hb ht hown hK hP m_135 (v := (iv 9 3)) rfl dX9_note_5 ?_
  refine lv_iload_n hx hb dX9_note_8 rfl (lv_at hl 1 rfl) ?_
  refine tX_9_0 hx hb hK hP hD hS (f0 := (fa 9 0)) rfl (i := (iv 9 3)) (x := a) (vp_in_iff.mpr ⟨by omega, by omega⟩) dX9_note_9 (fun f1 ef1 H locs hP hD hS => ?_)
  have hf1 : ∀ j, inb (bA 9 0 j) (f1 j) := fun j => full_i _
  refine lv_aload_n hx hb dX9_note_10 rfl (lv_at hl 0 rfl) ?_
  refine gX_9_1 hx hb ht hown hK hP m_133 dX9_note_11 ?_
  refine lv_aload_n hx hb dX9_note_14 rfl (lv_at hl 0 rfl) ?_
  refine gX_9_3 hx hb ht hown hK hP m_135 (v := (iv 9 3)) rfl dX9_note_15 ?_
  refine lv_iload_n hx hb dX9_note_18 rfl (lv_at hl 2 rfl) ?_
  refine tX_9_1 hx hb hK hP hD hS (f0 := (fa 9 1)) rfl (i := (iv 9 3)) (x := b) (vp_in_iff.mpr ⟨by omega, by omega⟩) dX9_note_19 (fun f2 ef2 H locs hP hD hS => ?_)
  have hf2 : ∀ j, inb (bA 9 1 j) (f2 j) := fun j => full_i _
  refine lv_aload_n hx hb dX9_note_20 rfl (lv_at hl 0 rfl) ?_
  refine gX_9_2 hx hb ht hown hK hP m_134 dX9_note_21 ?_
  refine lv_aload_n hx hb dX9_note_24 rfl (lv_at hl 0 rfl) ?_
  refine gX_9_3 hx hb ht hown hK hP m_135 (v := (iv 9 3)) rfl dX9_note_25 ?_
  refine lv_iload_n hx hb dX9_note_28 rfl (lv_at hl 3 rfl) ?_
  refine tX_9_2 hx hb hK hP hD hS (f0 := (fa 9 2)) rfl (i := (iv 9 3)) (x := d) (vp_in_iff.mpr ⟨by omega, by omega⟩) dX9_note_29 (fun f3 ef3 H locs hP hD hS => ?_)
  have hf3 : ∀ j, inb (bA 9 2 j) (f3 j) := fun j => full_i _
  refine lv_aload_n hx hb dX9_note_30 rfl (lv_at hl 0 rfl) ?_
  refine lv_dup hx hb dX9_note_31 rfl ?_
  refine gX_9_3 hx hb ht hown hK hP m_135 (v := (iv 9 3)) rfl dX9_note_32 ?_
  refine lv_iconst (v := 1) hx hb dX9_note_35 (by decide) ?_
  refine lv_iadd hx hb dX9_note_36 ?_
  refine lv_topi (fun v4 ev4 => ?_)
  have tv4 := z_add ev4 (rfl : ((iv 9 3)).toInt = _) (by decide : (1 : Int32).toInt = 1) (by omega) (by omega)
  refine pX_9_3 (v := v4) hx hb ht hown hK hP hD hS m_135 dX9_note_37 (fun H locs hP hD hS => ?_)
  refine lv_aload_n hx hb dX9_note_40 rfl (lv_at hl 0 rfl) ?_
  refine gX_9_3 hx hb ht hown hK hP m_135 (v := v4) rfl dX9_note_41 ?_
  have hP9 : va_P (dC, dI) classes (WX h g ca (u2 iv 9 3 v4) lv (u2 (u2 (u2 fa 9 0 f1) 9 1 f2) 9 2 f3) la) H := hP
  have hD9 : va_D A (WX h g ca (u2 iv 9 3 v4) lv (u2 (u2 (u2 fa 9 0 f1) 9 1 f2) 9 2 f3) la) := hD
  exact W.iret (v := v4) hx hb hr (fun t ht9 hW => ⟨⟨v4, ((u2 iv 9 3 v4), lv, (u2 (u2 (u2 fa 9 0 f1) 9 1 f2) 9 2 f3), la), rfl, ⟨f1, f2, f3, v4, (show inb (0, 30) v4 from ⟨by omega, by omega⟩), (by omega), (show (((v4 : Int32).toInt < 0 ∧ ∀ j : Nat, f1 j = (fa 9 0) j ∧ f2 j = (fa 9 1) j ∧ f3 j = (fa 9 2) j) ∨ (0 ≤ (v4 : Int32).toInt ∧ (∀ j : Nat, j ≠ ((iv 9 3).toInt).toNat → f1 j = (fa 9 0) j ∧ f2 j = (fa 9 1) j ∧ f3 j = (fa 9 2) j) ∧ f1 ((iv 9 3).toInt).toNat = a ∧ f2 ((iv 9 3).toInt).toNat = b ∧ (f3 ((iv 9 3).toInt).toNat).toInt = (d).toInt)) from Or.inr ⟨by omega, fun j hj => ⟨(by rw [ef1, upd_ne (show j ≠ ((iv 9 3) : Int32).toNatClampNeg from hj)]), (by rw [ef2, upd_ne (show j ≠ ((iv 9 3) : Int32).toNatClampNeg from hj)]), (by rw [ef3, upd_ne (show j ≠ ((iv 9 3) : Int32).toNatClampNeg from hj)])⟩, (by rw [ef1]; exact upd_eq), (by rw [ef2]; exact upd_eq), (by rw [ef3]; exact (congrArg Int32.toInt upd_eq).trans (by omega))⟩), (show (v4 : Int32).toInt = (iv 9 3).toInt + 1 from by omega), ⟨by omega, by omega⟩, rfl⟩, by rw [ht9]; exact hP9, hD9⟩, hS.F ht9⟩) hS.2.2 dX9_note_44
set_option maxHeartbeats 4000000 in
set_option maxRecDepth 100000 in
/-- X11_test -/
theorem c_X11_test_x (l : Launch) (dC : Nat → ClassId) (dI : Nat → Nat → Nat) (sz : Nat) (h : Nat) (g : Nat → Nat → Nat) (ca : Nat → Nat → ClassId) (iv : Nat → Nat → Int32) (lv : Nat → Nat → Int64) (fa : Nat → Nat → Nat → Int32) (la : Nat → Nat → Nat → Int64) (hI : IX iv fa) (a : Int32) (b : Int32) (d : Int32) : Met l yX11_test (wc yX11_test cX11_test 4 (some .int)) ({ frames := 1, cells := 0, slots := 0, locals := 23 } : Room) (pW (dC, dI) classes (WX h g ca iv lv fa la) (TX ca) sz [.ref h, .int a, .int b, .int d]) (va_Qi (fun r (u : SS) => ∃ (na_9_0 : Nat → Int32) (na_9_1 : Nat → Int32) (na_9_2 : Nat → Int32) (ni_9_3 : Int32), inb (bI 9 3) ni_9_3 ∧ (((r.toInt = -100002 ∧ ¬ (0 ≤ a.toInt ∧ a.toInt ≤ 3 ∧ 1 ≤ b.toInt ∧ b.toInt ≤ 9999 ∧ 1 ≤ d.toInt ∧ d.toInt ≤ 9999) ∧ (ni_9_3).toInt = (iv 9 3).toInt) ∨ (r.toInt = -100004 ∧ (0 ≤ a.toInt ∧ a.toInt ≤ 3 ∧ 1 ≤ b.toInt ∧ b.toInt ≤ 9999 ∧ 1 ≤ d.toInt ∧ d.toInt ≤ 9999) ∧ 30 ≤ (iv 9 3).toInt ∧ (ni_9_3).toInt = (iv 9 3).toInt) ∨ ((0 ≤ a.toInt ∧ a.toInt ≤ 3 ∧ 1 ≤ b.toInt ∧ b.toInt ≤ 9999 ∧ 1 ≤ d.toInt ∧ d.toInt ≤ 9999) ∧ (iv 9 3).toInt < 30 ∧ r.toInt = (iv 9 3).toInt + 1 ∧ (ni_9_3).toInt = (iv 9 3).toInt + 1))) ∧ (((r.toInt < 0 ∧ ∀ j : Nat, na_9_0 j = (fa 9 0) j ∧ na_9_1 j = (fa 9 1) j ∧ na_9_2 j = (fa 9 2) j) ∨ (0 ≤ r.toInt ∧ (∀ j : Nat, j ≠ ((iv 9 3).toInt).toNat → na_9_0 j = (fa 9 0) j ∧ na_9_1 j = (fa 9 1) j ∧ na_9_2 j = (fa 9 2) j) ∧ na_9_0 ((iv 9 3).toInt).toNat = a ∧ na_9_1 ((iv 9 3).toInt).toNat = (iv 11 10) ∧ (na_9_2 ((iv 9 3).toInt).toNat).toInt = b.toInt - d.toInt))) ∧ ((-100004) ≤ r.toInt ∧ r.toInt ≤ 30) ∧ u = ((u2 iv 9 3 ni_9_3), lv, (u2 (u2 (u2 fa 9 0 na_9_0) 9 1 na_9_1) 9 2 na_9_2), la)) (bX (dC, dI) h g ca (va_A (WX h g ca iv lv fa la) sz)) (va_A (WX h g ca iv lv fa la) sz)) 0 0 (va_A (WX h g ca iv lv fa la) sz) := by
  refine Met.ofW (cc := cX11_test) (maxL := 4) (ret := (some .int)) (by decide) rfl ?_
  intro p e s m args below meth c s₁ B hml hv
  obtain ⟨rfl, hsz, hP, hK, hD0⟩ := hv
  have hx := B.exec
  have hb := B.bytes
  have hr := B.returns
  have ht := tb_tl (atoms_spec (ws := wc yX11_test cX11_test 4 (some .int)) B.pre)
  have hown : s.vm.findClass RX11 = some m.cls := findClass_of_methodNamed B.named
  have hlocks := B.notSynchronized
  subst hsz
  have hD := hD0.self (sz := s.heap.size)
  generalize hAe : va_A (WX h g ca iv lv fa la) s.heap.size = A at hD ⊢
  have hA : ∀ q : Nat, s.heap.size ≤ q → A q := fun q h => by rw [← hAe]; exact Or.inr h
  have hS : va_S A s.heap s.heap [] := va_S.rf
  have hl := lv_entry [.ref h, .int a, .int b, .int d] (n := 4) (Nat.le_of_ble_eq_true rfl)
  rw [lg_entry_eq]
  generalize (lg_sl [.ref h, .int a, .int b, .int d] ++ List.replicate (4 - (lg_sl [.ref h, .int a, .int b, .int d]).length) Slot.unset).toArray = ls at hl ⊢
  have hl : lv_has ls 4 [(0, .ref h), (1, .int a), (2, .int b), (3, .int d)] := hl
  refine lv_iload_n hx hb dX11_test_0 rfl (lv_at hl 1 rfl) ?_
  refine lv_iconst (v := 0) hx hb dX11_test_1 (by decide) ?_
  refine lv_iconst (v := 3) hx hb dX11_test_2 (by decide) ?_
  refine vp_callSi (W.runS (As := [.int a, .int 0, .int 3]) (rest := []) ⟨hx, hb, hml, hown, ht⟩ (c_X11_within l dC dI a 0 3 (a.toInt) (0) (3) (rfl : (a).toInt = _) (by decide : (0 : Int32).toInt = 0) (by decide : (3 : Int32).toInt = 3)) (kS 3 ht m_453 m_454 m_77 m_455 rfl rfl hd_X11_within_v ⟨Nat.le_of_ble_eq_true rfl, Nat.le_of_ble_eq_true rfl⟩) (sR noP (hK.sub (tys' := []) [] rfl)) rfl rfl hl.1 rfl (lv_room (Nat.le_of_ble_eq_true rfl)) dX11_test_3 ⟨Nat.le_of_ble_eq_true rfl, Nat.le_of_ble_eq_true rfl⟩) (fun r1 hr1 => ?_)
  rcases hr1 with ⟨rfl, fr1⟩ | ⟨rfl, fr1⟩
  · skip
    refine lv_if_eq (tgt := 31) hx hb dX11_test_6 (by decide) (fun c2 => ?_) (fun c2 => ?_)
    · exact absurd c2 (by decide)
    · skip
      refine lv_iload_n hx hb dX11_test_9 rfl (lv_at hl 2 rfl) ?_
      refine lv_iconst (v := 1) hx hb dX11_test_10 (by decide) ?_
      refine lv_sipush (v := 9999) hx hb dX11_test_11 (by decide) ?_
      refine vp_callSi (W.runS (As := [.int b, .int 1, .int 9999]) (rest := []) ⟨hx, hb, hml, hown, ht⟩ (c_X11_within l dC dI b 1 9999 (b.toInt) (1) (9999) (rfl : (b).toInt = _) (by decide : (1 : Int32).toInt = 1) (by decide : (9999 : Int32).toInt = 9999)) (kS 3 ht m_453 m_454 m_77 m_455 rfl rfl hd_X11_within_v ⟨Nat.le_of_ble_eq_true rfl, Nat.le_of_ble_eq_true rfl⟩) (sR noP (hK.sub (tys' := []) [] rfl)) rfl rfl hl.1 rfl (lv_room (Nat.le_of_ble_eq_true rfl)) dX11_test_14 ⟨Nat.le_of_ble_eq_true rfl, Nat.le_of_ble_eq_true rfl⟩) (fun r3 hr3 => ?_)
      rcases hr3 with ⟨rfl, fr3⟩ | ⟨rfl, fr3⟩
      · skip
        refine lv_if_eq (tgt := 31) hx hb dX11_test_17 (by decide) (fun c4 => ?_) (fun c4 => ?_)
        · exact absurd c4 (by decide)
        · skip
          refine lv_iload_n hx hb dX11_test_20 rfl (lv_at hl 3 rfl) ?_
          refine lv_iconst (v := 1) hx hb dX11_test_21 (by decide) ?_
          refine lv_sipush (v := 9999) hx hb dX11_test_22 (by decide) ?_
          refine vp_callSi (W.runS (As := [.int d, .int 1, .int 9999]) (rest := []) ⟨hx, hb, hml, hown, ht⟩ (c_X11_within l dC dI d 1 9999 (d.toInt) (1) (9999) (rfl : (d).toInt = _) (by decide : (1 : Int32).toInt = 1) (by decide : (9999 : Int32).toInt = 9999)) (kS 3 ht m_453 m_454 m_77 m_455 rfl rfl hd_X11_within_v ⟨Nat.le_of_ble_eq_true rfl, Nat.le_of_ble_eq_true rfl⟩) (sR noP (hK.sub (tys' := []) [] rfl)) rfl rfl hl.1 rfl (lv_room (Nat.le_of_ble_eq_true rfl)) dX11_test_25 ⟨Nat.le_of_ble_eq_true rfl, Nat.le_of_ble_eq_true rfl⟩) (fun r5 hr5 => ?_)
          rcases hr5 with ⟨rfl, fr5⟩ | ⟨rfl, fr5⟩
          · skip
            refine lv_if_ne (tgt := 34) hx hb dX11_test_28 (by decide) (fun c6 => ?_) (fun c6 => ?_)
            · skip
              refine lv_aload_n hx hb dX11_test_34 rfl (lv_at hl 0 rfl) ?_
              refine gX_11_1 hx hb ht hown hK hP m_416 dX11_test_35 ?_
              have i_9_3 : 0 ≤ (iv 9 3).toInt ∧ (iv 9 3).toInt ≤ 30 := hI.1 9 3
              refine gX_9_3 hx hb ht hown hK hP m_136 (v := (iv 9 3)) rfl dX11_test_38 ?_
              refine lv_bipush (v := 30) hx hb dX11_test_41 (by decide) ?_
              refine lv_icmp_lt (tgt := 49) hx hb dX11_test_43 (by decide) (fun c7 => ?_) (fun c7 => ?_)
              · have fc7 := z_lt (rfl : ((iv 9 3)).toInt = _) (by decide : (30 : Int32).toInt = 30) c7
                refine lv_aload_n hx hb dX11_test_49 rfl (lv_at hl 0 rfl) ?_
                refine gX_11_1 hx hb ht hown hK hP m_416 dX11_test_50 ?_
                refine lv_iload_n hx hb dX11_test_53 rfl (lv_at hl 1 rfl) ?_
                refine lv_aload_n hx hb dX11_test_54 rfl (lv_at hl 0 rfl) ?_
                have i_11_10 : 0 ≤ (iv 11 10).toInt ∧ (iv 11 10).toInt ≤ 3000 := hI.1 11 10
                refine gX_11_10 hx hb ht hown hK hP m_425 (v := (iv 11 10)) rfl dX11_test_55 ?_
                refine lv_iload_n hx hb dX11_test_58 rfl (lv_at hl 2 rfl) ?_
                refine lv_iload_n hx hb dX11_test_59 rfl (lv_at hl 3 rfl) ?_
                refine lv_isub hx hb dX11_test_60 ?_
                refine lv_topi (fun v8 ev8 => ?_)
                have tv8 := z_sub ev8 (rfl : (b).toInt = _) (rfl : (d).toInt = _) (by omega) (by omega)
                have hFc := free_all hD hS hA
                refine va_calli (va_runV (As := [.int a, .int (iv 11 10), .int v8]) (rest := []) ⟨hx, hb, hml, hown, ht⟩ (c_X9_note_x l dC dI s.heap.size h g ca iv lv fa la hI a (iv 11 10) v8 (show 0 ≤ ((iv 9 3) : Int32).toInt ∧ ((iv 9 3) : Int32).toInt ≤ 29 from ⟨by omega, by omega⟩)) (kV 3 ht m_526 m_527 m_528 m_79 m_529 rfl rfl hd_X9_note_v ⟨Nat.le_of_ble_eq_true rfl, Nat.le_of_ble_eq_true rfl⟩) (vW hP hK hD (rX_9 hK hP)) rfl rfl hl.1 rfl (lv_room (Nat.le_of_ble_eq_true rfl)) dX11_test_61 ⟨Nat.le_of_ble_eq_true rfl, Nat.le_of_ble_eq_true rfl⟩) hS (fun q _ h => hFc q h) hFc (fun r9 u t H1 locs ht9 hvm hr9 hB hz1 hk1 hS => ?_)
                obtain ⟨n10, n11, n12, n13, hn13, dn13, xr9_0, xr9_1, hr9, rfl⟩ := hr9
                have hn10 : ∀ j, inb (bA 9 0 j) (n10 j) := fun j => full_i _
                have hn11 : ∀ j, inb (bA 9 1 j) (n11 j) := fun j => full_i _
                have hn12 : ∀ j, inb (bA 9 2 j) (n12 j) := fun j => full_i _
                have dn13 : n13.toInt = ((iv 9 3) : Int32).toInt + 1 := dn13
                have hn13 : 0 ≤ n13.toInt ∧ n13.toInt ≤ 30 := hn13
                obtain ⟨hP, hD⟩ := hB
                rw [ht9] at hP
                generalize H1 = H at hP hS ⊢
                have hP : va_P (dC, dI) classes (WX h g ca (u2 iv 9 3 n13) lv (u2 (u2 (u2 fa 9 0 n10) 9 1 n11) 9 2 n12) la) H := hP
                have hD : va_D A (WX h g ca (u2 iv 9 3 n13) lv (u2 (u2 (u2 fa 9 0 n10) 9 1 n11) 9 2 n12) la) := (show va_D _ (WX h g ca (u2 iv 9 3 n13) lv (u2 (u2 (u2 fa 9 0 n10) 9 1 n11) 9 2 n12) la) from hD).weaken (fun _ _ _ h => hFc _ h)
                have xr9_0 : (((r9 : Int32).toInt < 0 ∧ ∀ j : Nat, n10 j = (fa 9 0) j ∧ n11 j = (fa 9 1) j ∧ n12 j = (fa 9 2) j) ∨ (0 ≤ (r9 : Int32).toInt ∧ (∀ j : Nat, j ≠ (((iv 9 3) : Int32).toInt).toNat → n10 j = (fa 9 0) j ∧ n11 j = (fa 9 1) j ∧ n12 j = (fa 9 2) j) ∧ n10 (((iv 9 3) : Int32).toInt).toNat = (a : Int32) ∧ n11 (((iv 9 3) : Int32).toInt).toNat = ((iv 11 10) : Int32) ∧ (n12 (((iv 9 3) : Int32).toInt).toNat).toInt = (v8 : Int32).toInt)) := xr9_0
                have xr9_1 : (r9 : Int32).toInt = ((iv 9 3) : Int32).toInt + 1 := xr9_1
                have hP9 : va_P (dC, dI) classes (WX h g ca (u2 iv 9 3 n13) lv (u2 (u2 (u2 fa 9 0 n10) 9 1 n11) 9 2 n12) la) H := hP
                have hD9 : va_D A (WX h g ca (u2 iv 9 3 n13) lv (u2 (u2 (u2 fa 9 0 n10) 9 1 n11) 9 2 n12) la) := hD
                exact W.iret (v := r9) hx hb hr (fun t ht9 hW => ⟨⟨r9, ((u2 iv 9 3 n13), lv, (u2 (u2 (u2 fa 9 0 n10) 9 1 n11) 9 2 n12), la), rfl, ⟨n10, n11, n12, n13, (show inb (0, 30) n13 from ⟨by omega, by omega⟩), (show (((r9 : Int32).toInt = -100002 ∧ ¬ (0 ≤ (a).toInt ∧ (a).toInt ≤ 3 ∧ 1 ≤ (b).toInt ∧ (b).toInt ≤ 9999 ∧ 1 ≤ (d).toInt ∧ (d).toInt ≤ 9999) ∧ (n13 : Int32).toInt = (iv 9 3).toInt) ∨ ((r9 : Int32).toInt = -100004 ∧ (0 ≤ (a).toInt ∧ (a).toInt ≤ 3 ∧ 1 ≤ (b).toInt ∧ (b).toInt ≤ 9999 ∧ 1 ≤ (d).toInt ∧ (d).toInt ≤ 9999) ∧ 30 ≤ (iv 9 3).toInt ∧ (n13 : Int32).toInt = (iv 9 3).toInt) ∨ ((0 ≤ (a).toInt ∧ (a).toInt ≤ 3 ∧ 1 ≤ (b).toInt ∧ (b).toInt ≤ 9999 ∧ 1 ≤ (d).toInt ∧ (d).toInt ≤ 9999) ∧ (iv 9 3).toInt < 30 ∧ (r9 : Int32).toInt = (iv 9 3).toInt + 1 ∧ (n13 : Int32).toInt = (iv 9 3).toInt + 1)) from by omega), (show (((r9 : Int32).toInt < 0 ∧ ∀ j : Nat, n10 j = (fa 9 0) j ∧ n11 j = (fa 9 1) j ∧ n12 j = (fa 9 2) j) ∨ (0 ≤ (r9 : Int32).toInt ∧ (∀ j : Nat, j ≠ ((iv 9 3).toInt).toNat → n10 j = (fa 9 0) j ∧ n11 j = (fa 9 1) j ∧ n12 j = (fa 9 2) j) ∧ n10 ((iv 9 3).toInt).toNat = a ∧ n11 ((iv 9 3).toInt).toNat = (iv 11 10) ∧ (n12 ((iv 9 3).toInt).toNat).toInt = (b).toInt - (d).toInt)) from (by
                      rcases xr9_0 with ⟨q, -⟩ | ⟨-, q, q0, q1, q2⟩
                      · exfalso; omega
                      · exact Or.inr ⟨by omega, q, q0, q1, by omega⟩)), ⟨by omega, by omega⟩, rfl⟩, by rw [ht9]; exact hP9, hD9⟩, hS.F ht9⟩) hS.2.2 dX11_test_64
              · have fc7 := z_nlt (rfl : ((iv 9 3)).toInt = _) (by decide : (30 : Int32).toInt = 30) c7
                refine lv_ldc hx hb hown (ht _ m_463) dX11_test_46 ?_
                have : ((-100004) : Int32).toInt = (-100004) := (by decide)
                have hP9 : va_P (dC, dI) classes (WX h g ca (u2 iv 9 3 (iv 9 3)) lv (u2 (u2 (u2 fa 9 0 (fa 9 0)) 9 1 (fa 9 1)) 9 2 (fa 9 2)) la) s.heap := hP
                have hD9 : va_D A (WX h g ca (u2 iv 9 3 (iv 9 3)) lv (u2 (u2 (u2 fa 9 0 (fa 9 0)) 9 1 (fa 9 1)) 9 2 (fa 9 2)) la) := hD
                exact W.iret (v := (-100004)) hx hb hr (fun t ht9 hW => ⟨⟨(-100004), ((u2 iv 9 3 (iv 9 3)), lv, (u2 (u2 (u2 fa 9 0 (fa 9 0)) 9 1 (fa 9 1)) 9 2 (fa 9 2)), la), rfl, ⟨(fa 9 0), (fa 9 1), (fa 9 2), (iv 9 3), (hI.1 9 3), (show ((((-100004) : Int32).toInt = -100002 ∧ ¬ (0 ≤ (a).toInt ∧ (a).toInt ≤ 3 ∧ 1 ≤ (b).toInt ∧ (b).toInt ≤ 9999 ∧ 1 ≤ (d).toInt ∧ (d).toInt ≤ 9999) ∧ ((iv 9 3) : Int32).toInt = (iv 9 3).toInt) ∨ (((-100004) : Int32).toInt = -100004 ∧ (0 ≤ (a).toInt ∧ (a).toInt ≤ 3 ∧ 1 ≤ (b).toInt ∧ (b).toInt ≤ 9999 ∧ 1 ≤ (d).toInt ∧ (d).toInt ≤ 9999) ∧ 30 ≤ (iv 9 3).toInt ∧ ((iv 9 3) : Int32).toInt = (iv 9 3).toInt) ∨ ((0 ≤ (a).toInt ∧ (a).toInt ≤ 3 ∧ 1 ≤ (b).toInt ∧ (b).toInt ≤ 9999 ∧ 1 ≤ (d).toInt ∧ (d).toInt ≤ 9999) ∧ (iv 9 3).toInt < 30 ∧ ((-100004) : Int32).toInt = (iv 9 3).toInt + 1 ∧ ((iv 9 3) : Int32).toInt = (iv 9 3).toInt + 1)) from by omega), (show ((((-100004) : Int32).toInt < 0 ∧ ∀ j : Nat, (fa 9 0) j = (fa 9 0) j ∧ (fa 9 1) j = (fa 9 1) j ∧ (fa 9 2) j = (fa 9 2) j) ∨ (0 ≤ ((-100004) : Int32).toInt ∧ (∀ j : Nat, j ≠ ((iv 9 3).toInt).toNat → (fa 9 0) j = (fa 9 0) j ∧ (fa 9 1) j = (fa 9 1) j ∧ (fa 9 2) j = (fa 9 2) j) ∧ (fa 9 0) ((iv 9 3).toInt).toNat = a ∧ (fa 9 1) ((iv 9 3).toInt).toNat = (iv 11 10) ∧ ((fa 9 2) ((iv 9 3).toInt).toNat).toInt = (b).toInt - (d).toInt)) from Or.inl ⟨by omega, fun j => ⟨rfl, rfl, rfl⟩⟩), ⟨by decide, by decide⟩, rfl⟩, by rw [ht9]; exact hP9, hD9⟩, hS.F ht9⟩) hS.2.2 dX11_test_48
            · exact absurd c6 (by decide)
          · skip
            refine lv_if_ne (tgt := 34) hx hb dX11_test_28 (by decide) (fun c14 => ?_) (fun c14 => ?_)
            · exact absurd rfl c14
            · skip
              refine lv_ldc hx hb hown (ht _ m_456) dX11_test_31 ?_
              have : ((-100002) : Int32).toInt = (-100002) := (by decide)
              have i_9_3 : 0 ≤ (iv 9 3).toInt ∧ (iv 9 3).toInt ≤ 30 := hI.1 9 3
              have hP9 : va_P (dC, dI) classes (WX h g ca (u2 iv 9 3 (iv 9 3)) lv (u2 (u2 (u2 fa 9 0 (fa 9 0)) 9 1 (fa 9 1)) 9 2 (fa 9 2)) la) s.heap := hP
              have hD9 : va_D A (WX h g ca (u2 iv 9 3 (iv 9 3)) lv (u2 (u2 (u2 fa 9 0 (fa 9 0)) 9 1 (fa 9 1)) 9 2 (fa 9 2)) la) := hD
              exact W.iret (v := (-100002)) hx hb hr (fun t ht9 hW => ⟨⟨(-100002), ((u2 iv 9 3 (iv 9 3)), lv, (u2 (u2 (u2 fa 9 0 (fa 9 0)) 9 1 (fa 9 1)) 9 2 (fa 9 2)), la), rfl, ⟨(fa 9 0), (fa 9 1), (fa 9 2), (iv 9 3), (hI.1 9 3), (show ((((-100002) : Int32).toInt = -100002 ∧ ¬ (0 ≤ (a).toInt ∧ (a).toInt ≤ 3 ∧ 1 ≤ (b).toInt ∧ (b).toInt ≤ 9999 ∧ 1 ≤ (d).toInt ∧ (d).toInt ≤ 9999) ∧ ((iv 9 3) : Int32).toInt = (iv 9 3).toInt) ∨ (((-100002) : Int32).toInt = -100004 ∧ (0 ≤ (a).toInt ∧ (a).toInt ≤ 3 ∧ 1 ≤ (b).toInt ∧ (b).toInt ≤ 9999 ∧ 1 ≤ (d).toInt ∧ (d).toInt ≤ 9999) ∧ 30 ≤ (iv 9 3).toInt ∧ ((iv 9 3) : Int32).toInt = (iv 9 3).toInt) ∨ ((0 ≤ (a).toInt ∧ (a).toInt ≤ 3 ∧ 1 ≤ (b).toInt ∧ (b).toInt ≤ 9999 ∧ 1 ≤ (d).toInt ∧ (d).toInt ≤ 9999) ∧ (iv 9 3).toInt < 30 ∧ ((-100002) : Int32).toInt = (iv 9 3).toInt + 1 ∧ ((iv 9 3) : Int32).toInt = (iv 9 3).toInt + 1)) from by omega), (show ((((-100002) : Int32).toInt < 0 ∧ ∀ j : Nat, (fa 9 0) j = (fa 9 0) j ∧ (fa 9 1) j = (fa 9 1) j ∧ (fa 9 2) j = (fa 9 2) j) ∨ (0 ≤ ((-100002) : Int32).toInt ∧ (∀ j : Nat, j ≠ ((iv 9 3).toInt).toNat → (fa 9 0) j = (fa 9 0) j ∧ (fa 9 1) j = (fa 9 1) j ∧ (fa 9 2) j = (fa 9 2) j) ∧ (fa 9 0) ((iv 9 3).toInt).toNat = a ∧ (fa 9 1) ((iv 9 3).toInt).toNat = (iv 11 10) ∧ ((fa 9 2) ((iv 9 3).toInt).toNat).toInt = (b).toInt - (d).toInt)) from Or.inl ⟨by omega, fun j => ⟨rfl, rfl, rfl⟩⟩), ⟨by decide, by decide⟩, rfl⟩, by rw [ht9]; exact hP9, hD9⟩, hS.F ht9⟩) hS.2.2 dX11_test_33
      · skip
        refine lv_if_eq (tgt := 31) hx hb dX11_test_17 (by decide) (fun c15 => ?_) (fun c15 => ?_)
        · skip
          refine lv_ldc hx hb hown (ht _ m_456) dX11_test_31 ?_
          have : ((-100002) : Int32).toInt = (-100002) := (by decide)
          have i_9_3 : 0 ≤ (iv 9 3).toInt ∧ (iv 9 3).toInt ≤ 30 := hI.1 9 3
          have hP9 : va_P (dC, dI) classes (WX h g ca (u2 iv 9 3 (iv 9 3)) lv (u2 (u2 (u2 fa 9 0 (fa 9 0)) 9 1 (fa 9 1)) 9 2 (fa 9 2)) la) s.heap := hP
          have hD9 : va_D A (WX h g ca (u2 iv 9 3 (iv 9 3)) lv (u2 (u2 (u2 fa 9 0 (fa 9 0)) 9 1 (fa 9 1)) 9 2 (fa 9 2)) la) := hD
          exact W.iret (v := (-100002)) hx hb hr (fun t ht9 hW => ⟨⟨(-100002), ((u2 iv 9 3 (iv 9 3)), lv, (u2 (u2 (u2 fa 9 0 (fa 9 0)) 9 1 (fa 9 1)) 9 2 (fa 9 2)), la), rfl, ⟨(fa 9 0), (fa 9 1), (fa 9 2), (iv 9 3), (hI.1 9 3), (show ((((-100002) : Int32).toInt = -100002 ∧ ¬ (0 ≤ (a).toInt ∧ (a).toInt ≤ 3 ∧ 1 ≤ (b).toInt ∧ (b).toInt ≤ 9999 ∧ 1 ≤ (d).toInt ∧ (d).toInt ≤ 9999) ∧ ((iv 9 3) : Int32).toInt = (iv 9 3).toInt) ∨ (((-100002) : Int32).toInt = -100004 ∧ (0 ≤ (a).toInt ∧ (a).toInt ≤ 3 ∧ 1 ≤ (b).toInt ∧ (b).toInt ≤ 9999 ∧ 1 ≤ (d).toInt ∧ (d).toInt ≤ 9999) ∧ 30 ≤ (iv 9 3).toInt ∧ ((iv 9 3) : Int32).toInt = (iv 9 3).toInt) ∨ ((0 ≤ (a).toInt ∧ (a).toInt ≤ 3 ∧ 1 ≤ (b).toInt ∧ (b).toInt ≤ 9999 ∧ 1 ≤ (d).toInt ∧ (d).toInt ≤ 9999) ∧ (iv 9 3).toInt < 30 ∧ ((-100002) : Int32).toInt = (iv 9 3).toInt + 1 ∧ ((iv 9 3) : Int32).toInt = (iv 9 3).toInt + 1)) from by omega), (show ((((-100002) : Int32).toInt < 0 ∧ ∀ j : Nat, (fa 9 0) j = (fa 9 0) j ∧ (fa 9 1) j = (fa 9 1) j ∧ (fa 9 2) j = (fa 9 2) j) ∨ (0 ≤ ((-100002) : Int32).toInt ∧ (∀ j : Nat, j ≠ ((iv 9 3).toInt).toNat → (fa 9 0) j = (fa 9 0) j ∧ (fa 9 1) j = (fa 9 1) j ∧ (fa 9 2) j = (fa 9 2) j) ∧ (fa 9 0) ((iv 9 3).toInt).toNat = a ∧ (fa 9 1) ((iv 9 3).toInt).toNat = (iv 11 10) ∧ ((fa 9 2) ((iv 9 3).toInt).toNat).toInt = (b).toInt - (d).toInt)) from Or.inl ⟨by omega, fun j => ⟨rfl, rfl, rfl⟩⟩), ⟨by decide, by decide⟩, rfl⟩, by rw [ht9]; exact hP9, hD9⟩, hS.F ht9⟩) hS.2.2 dX11_test_33
        · exact absurd rfl c15
  · skip
    refine lv_if_eq (tgt := 31) hx hb dX11_test_6 (by decide) (fun c16 => ?_) (fun c16 => ?_)
    · skip
      refine lv_ldc hx hb hown (ht _ m_456) dX11_test_31 ?_
      have : ((-100002) : Int32).toInt = (-100002) := (by decide)
      have i_9_3 : 0 ≤ (iv 9 3).toInt ∧ (iv 9 3).toInt ≤ 30 := hI.1 9 3
      have hP9 : va_P (dC, dI) classes (WX h g ca (u2 iv 9 3 (iv 9 3)) lv (u2 (u2 (u2 fa 9 0 (fa 9 0)) 9 1 (fa 9 1)) 9 2 (fa 9 2)) la) s.heap := hP
      have hD9 : va_D A (WX h g ca (u2 iv 9 3 (iv 9 3)) lv (u2 (u2 (u2 fa 9 0 (fa 9 0)) 9 1 (fa 9 1)) 9 2 (fa 9 2)) la) := hD
      exact W.iret (v := (-100002)) hx hb hr (fun t ht9 hW => ⟨⟨(-100002), ((u2 iv 9 3 (iv 9 3)), lv, (u2 (u2 (u2 fa 9 0 (fa 9 0)) 9 1 (fa 9 1)) 9 2 (fa 9 2)), la), rfl, ⟨(fa 9 0), (fa 9 1), (fa 9 2), (iv 9 3), (hI.1 9 3), (show ((((-100002) : Int32).toInt = -100002 ∧ ¬ (0 ≤ (a).toInt ∧ (a).toInt ≤ 3 ∧ 1 ≤ (b).toInt ∧ (b).toInt ≤ 9999 ∧ 1 ≤ (d).toInt ∧ (d).toInt ≤ 9999) ∧ ((iv 9 3) : Int32).toInt = (iv 9 3).toInt) ∨ (((-100002) : Int32).toInt = -100004 ∧ (0 ≤ (a).toInt ∧ (a).toInt ≤ 3 ∧ 1 ≤ (b).toInt ∧ (b).toInt ≤ 9999 ∧ 1 ≤ (d).toInt ∧ (d).toInt ≤ 9999) ∧ 30 ≤ (iv 9 3).toInt ∧ ((iv 9 3) : Int32).toInt = (iv 9 3).toInt) ∨ ((0 ≤ (a).toInt ∧ (a).toInt ≤ 3 ∧ 1 ≤ (b).toInt ∧ (b).toInt ≤ 9999 ∧ 1 ≤ (d).toInt ∧ (d).toInt ≤ 9999) ∧ (iv 9 3).toInt < 30 ∧ ((-100002) : Int32).toInt = (iv 9 3).toInt + 1 ∧ ((iv 9 3) : Int32).toInt = (iv 9 3).toInt + 1)) from by omega), (show ((((-100002) : Int32).toInt < 0 ∧ ∀ j : Nat, (fa 9 0) j = (fa 9 0) j ∧ (fa 9 1) j = (fa 9 1) j ∧ (fa 9 2) j = (fa 9 2) j) ∨ (0 ≤ ((-100002) : Int32).toInt ∧ (∀ j : Nat, j ≠ ((iv 9 3).toInt).toNat → (fa 9 0) j = (fa 9 0) j ∧ (fa 9 1) j = (fa 9 1) j ∧ (fa 9 2) j = (fa 9 2) j) ∧ (fa 9 0) ((iv 9 3).toInt).toNat = a ∧ (fa 9 1) ((iv 9 3).toInt).toNat = (iv 11 10) ∧ ((fa 9 2) ((iv 9 3).toInt).toNat).toInt = (b).toInt - (d).toInt)) from Or.inl ⟨by omega, fun j => ⟨rfl, rfl, rfl⟩⟩), ⟨by decide, by decide⟩, rfl⟩, by rw [ht9]; exact hP9, hD9⟩, hS.F ht9⟩) hS.2.2 dX11_test_33
    · exact absurd rfl c16
set_option maxHeartbeats 4000000 in
set_option maxRecDepth 100000 in
/-- X12_test -/
theorem c_X12_test_x (l : Launch) (dC : Nat → ClassId) (dI : Nat → Nat → Nat) (sz : Nat) (h : Nat) (g : Nat → Nat → Nat) (ca : Nat → Nat → ClassId) (iv : Nat → Nat → Int32) (lv : Nat → Nat → Int64) (fa : Nat → Nat → Nat → Int32) (la : Nat → Nat → Nat → Int64) (hI : IX iv fa) (a : Int32) (b : Int32) (d : Int32) : Met l yX12_test (wc yX12_test cX12_test 4 (some .int)) ({ frames := 2, cells := 0, slots := 0, locals := 45 } : Room) (pW (dC, dI) classes (WM h g ca iv lv fa la) (TM ca) sz [.ref h, .int a, .int b, .int d]) (va_Qi (fun r (u : SS) => ∃ (na_12_14 : Nat → Int32) (na_12_15 : Nat → Int32) (na_12_16 : Nat → Int32) (ni_12_13 : Int32), inb (bI 12 13) ni_12_13 ∧ (((r.toInt = -100002 ∧ ¬ (0 ≤ a.toInt ∧ a.toInt ≤ 3 ∧ 1 ≤ b.toInt ∧ b.toInt ≤ 9999 ∧ 1 ≤ d.toInt ∧ d.toInt ≤ 9999) ∧ (ni_12_13).toInt = (iv 12 13).toInt) ∨ (r.toInt = -100004 ∧ (0 ≤ a.toInt ∧ a.toInt ≤ 3 ∧ 1 ≤ b.toInt ∧ b.toInt ≤ 9999 ∧ 1 ≤ d.toInt ∧ d.toInt ≤ 9999) ∧ 30 ≤ (iv 12 13).toInt ∧ (ni_12_13).toInt = (iv 12 13).toInt) ∨ ((0 ≤ a.toInt ∧ a.toInt ≤ 3 ∧ 1 ≤ b.toInt ∧ b.toInt ≤ 9999 ∧ 1 ≤ d.toInt ∧ d.toInt ≤ 9999) ∧ (iv 12 13).toInt < 30 ∧ r.toInt = (iv 12 13).toInt + 1 ∧ (ni_12_13).toInt = (iv 12 13).toInt + 1))) ∧ (((r.toInt < 0 ∧ ∀ j : Nat, na_12_14 j = (fa 12 14) j ∧ na_12_16 j = (fa 12 16) j ∧ na_12_15 j = (fa 12 15) j) ∨ (0 ≤ r.toInt ∧ (∀ j : Nat, j ≠ ((iv 12 13).toInt).toNat → na_12_14 j = (fa 12 14) j ∧ na_12_16 j = (fa 12 16) j ∧ na_12_15 j = (fa 12 15) j) ∧ na_12_14 ((iv 12 13).toInt).toNat = a ∧ na_12_16 ((iv 12 13).toInt).toNat = (iv 12 0) ∧ (na_12_15 ((iv 12 13).toInt).toNat).toInt = b.toInt - d.toInt))) ∧ ((-100004) ≤ r.toInt ∧ r.toInt ≤ 30) ∧ u = ((u2 iv 12 13 ni_12_13), lv, (u2 (u2 (u2 fa 12 14 na_12_14) 12 15 na_12_15) 12 16 na_12_16), la)) (bM (dC, dI) h g ca (va_A (WM h g ca iv lv fa la) sz)) (va_A (WM h g ca iv lv fa la) sz)) 0 0 (va_A (WM h g ca iv lv fa la) sz) := by
  refine Met.ofW (cc := cX12_test) (maxL := 4) (ret := (some .int)) (by decide) rfl ?_
  intro p e s m args below meth c s₁ B hml hv
  obtain ⟨rfl, hsz, hP, hK, hD0⟩ := hv
  have hx := B.exec
  have hb := B.bytes
  have hr := B.returns
  have ht := tb_tl (atoms_spec (ws := wc yX12_test cX12_test 4 (some .int)) B.pre)
  have hown : s.vm.findClass RX12 = some m.cls := findClass_of_methodNamed B.named
  have hlocks := B.notSynchronized
  subst hsz
  have hD := hD0.self (sz := s.heap.size)
  generalize hAe : va_A (WM h g ca iv lv fa la) s.heap.size = A at hD ⊢
  have hA : ∀ q : Nat, s.heap.size ≤ q → A q := fun q h => by rw [← hAe]; exact Or.inr h
  have hS : va_S A s.heap s.heap [] := va_S.rf
  have hl := lv_entry [.ref h, .int a, .int b, .int d] (n := 4) (Nat.le_of_ble_eq_true rfl)
  rw [lg_entry_eq]
  generalize (lg_sl [.ref h, .int a, .int b, .int d] ++ List.replicate (4 - (lg_sl [.ref h, .int a, .int b, .int d]).length) Slot.unset).toArray = ls at hl ⊢
  have hl : lv_has ls 4 [(0, .ref h), (1, .int a), (2, .int b), (3, .int d)] := hl
  refine lv_iload_n hx hb dX12_test_0 rfl (lv_at hl 1 rfl) ?_
  refine lv_i2l (v := (a.toInt64)) hx hb dX12_test_1 rfl ?_
  refine lv_lconst (v := 0) hx hb dX12_test_2 (by decide) ?_
  refine lv_ldc2 hx hb hown (ht _ m_1391) dX12_test_3 ?_
  refine vp_callSi (W.runS (As := [.long (a.toInt64), .long 0, .long 3]) (rest := []) ⟨hx, hb, hml, hown, ht⟩ (c_X12_in l dC dI (a.toInt64) 0 3 (a.toInt) (0) (3) ((Int32.toInt_toInt64 a).trans rfl) (by decide : (0 : Int64).toInt = 0) (by decide : (3 : Int64).toInt = 3)) (kS 3 ht m_1370 m_1371 m_89 m_1372 rfl rfl hd_X12_in_v ⟨Nat.le_of_ble_eq_true rfl, Nat.le_of_ble_eq_true rfl⟩) (sR noP (hK.sub (tys' := []) [] rfl)) rfl rfl hl.1 rfl (lv_room (Nat.le_of_ble_eq_true rfl)) dX12_test_6 ⟨Nat.le_of_ble_eq_true rfl, Nat.le_of_ble_eq_true rfl⟩) (fun r1 hr1 => ?_)
  rcases hr1 with ⟨rfl, fr1⟩ | ⟨rfl, fr1⟩
  · skip
    refine lv_if_eq (tgt := 26) hx hb dX12_test_9 (by decide) (fun c2 => ?_) (fun c2 => ?_)
    · exact absurd c2 (by decide)
    · skip
      refine lv_iload_n hx hb dX12_test_12 rfl (lv_at hl 2 rfl) ?_
      refine vp_callSi (W.runS (As := [.int b]) (rest := []) ⟨hx, hb, hml, hown, ht⟩ (c_X12_isWeight l dC dI b) (kS 1 ht m_1415 m_1416 m_89 m_1417 rfl rfl hd_X12_isWeight_v ⟨Nat.le_of_ble_eq_true rfl, Nat.le_of_ble_eq_true rfl⟩) (sR noP (hK.sub (tys' := []) [] rfl)) rfl rfl hl.1 rfl (lv_room (Nat.le_of_ble_eq_true rfl)) dX12_test_13 ⟨Nat.le_of_ble_eq_true rfl, Nat.le_of_ble_eq_true rfl⟩) (fun r3 hr3 => ?_)
      rcases hr3 with ⟨rfl, fr3⟩ | ⟨rfl, fr3⟩
      · skip
        refine lv_if_eq (tgt := 26) hx hb dX12_test_16 (by decide) (fun c4 => ?_) (fun c4 => ?_)
        · exact absurd c4 (by decide)
        · skip
          refine lv_iload_n hx hb dX12_test_19 rfl (lv_at hl 3 rfl) ?_
          refine vp_callSi (W.runS (As := [.int d]) (rest := []) ⟨hx, hb, hml, hown, ht⟩ (c_X12_isWeight l dC dI d) (kS 1 ht m_1415 m_1416 m_89 m_1417 rfl rfl hd_X12_isWeight_v ⟨Nat.le_of_ble_eq_true rfl, Nat.le_of_ble_eq_true rfl⟩) (sR noP (hK.sub (tys' := []) [] rfl)) rfl rfl hl.1 rfl (lv_room (Nat.le_of_ble_eq_true rfl)) dX12_test_20 ⟨Nat.le_of_ble_eq_true rfl, Nat.le_of_ble_eq_true rfl⟩) (fun r5 hr5 => ?_)
          rcases hr5 with ⟨rfl, fr5⟩ | ⟨rfl, fr5⟩
          · skip
            refine lv_if_ne (tgt := 29) hx hb dX12_test_23 (by decide) (fun c6 => ?_) (fun c6 => ?_)
            · skip
              refine lv_aload_n hx hb dX12_test_29 rfl (lv_at hl 0 rfl) ?_
              have i_12_13 : 0 ≤ (iv 12 13).toInt ∧ (iv 12 13).toInt ≤ 30 := hI.1 12 13
              refine gM_12_13 hx hb ht hown hK hP m_1152 (v := (iv 12 13)) rfl dX12_test_30 ?_
              refine lv_bipush (v := 30) hx hb dX12_test_33 (by decide) ?_
              refine lv_icmp_ne (tgt := 41) hx hb dX12_test_35 (by decide) (fun c7 => ?_) (fun c7 => ?_)
              · have fc7 := z_ne (rfl : ((iv 12 13)).toInt = _) (by decide : (30 : Int32).toInt = 30) c7
                refine lv_aload_n hx hb dX12_test_41 rfl (lv_at hl 0 rfl) ?_
                refine gM_12_14 hx hb ht hown hK hP m_1153 dX12_test_42 ?_
                refine lv_aload_n hx hb dX12_test_45 rfl (lv_at hl 0 rfl) ?_
                refine gM_12_13 hx hb ht hown hK hP m_1152 (v := (iv 12 13)) rfl dX12_test_46 ?_
                refine lv_iload_n hx hb dX12_test_49 rfl (lv_at hl 1 rfl) ?_
                refine tM_12_14 hx hb hK hP hD hS (f0 := (fa 12 14)) rfl (i := (iv 12 13)) (x := a) (vp_in_iff.mpr ⟨by omega, by omega⟩) dX12_test_50 (fun f8 ef8 H locs hP hD hS => ?_)
                have hf8 : ∀ j, inb (bA 12 14 j) (f8 j) := fun j => full_i _
                refine lv_aload_n hx hb dX12_test_51 rfl (lv_at hl 0 rfl) ?_
                refine gM_12_15 hx hb ht hown hK hP m_1154 dX12_test_52 ?_
                refine lv_aload_n hx hb dX12_test_55 rfl (lv_at hl 0 rfl) ?_
                refine gM_12_13 hx hb ht hown hK hP m_1152 (v := (iv 12 13)) rfl dX12_test_56 ?_
                refine lv_iload_n hx hb dX12_test_59 rfl (lv_at hl 2 rfl) ?_
                refine lv_iload_n hx hb dX12_test_60 rfl (lv_at hl 3 rfl) ?_
                refine lv_isub hx hb dX12_test_61 ?_
                refine lv_topi (fun v9 ev9 => ?_)
                have tv9 := z_sub ev9 (rfl : (b).toInt = _) (rfl : (d).toInt = _) (by omega) (by omega)
                refine tM_12_15 hx hb hK hP hD hS (f0 := (fa 12 15)) rfl (i := (iv 12 13)) (x := v9) (vp_in_iff.mpr ⟨by omega, by omega⟩) dX12_test_62 (fun f10 ef10 H locs hP hD hS => ?_)
                have hf10 : ∀ j, inb (bA 12 15 j) (f10 j) := fun j => full_i _
                refine lv_aload_n hx hb dX12_test_63 rfl (lv_at hl 0 rfl) ?_
                refine gM_12_16 hx hb ht hown hK hP m_1155 dX12_test_64 ?_
                refine lv_aload_n hx hb dX12_test_67 rfl (lv_at hl 0 rfl) ?_
                refine gM_12_13 hx hb ht hown hK hP m_1152 (v := (iv 12 13)) rfl dX12_test_68 ?_
                refine lv_aload_n hx hb dX12_test_71 rfl (lv_at hl 0 rfl) ?_
                have i_12_0 : 0 ≤ (iv 12 0).toInt ∧ (iv 12 0).toInt ≤ 3000 := hI.1 12 0
                refine gM_12_0 hx hb ht hown hK hP m_1139 (v := (iv 12 0)) rfl dX12_test_72 ?_
                refine tM_12_16 hx hb hK hP hD hS (f0 := (fa 12 16)) rfl (i := (iv 12 13)) (x := (iv 12 0)) (vp_in_iff.mpr ⟨by omega, by omega⟩) dX12_test_75 (fun f11 ef11 H locs hP hD hS => ?_)
                have hf11 : ∀ j, inb (bA 12 16 j) (f11 j) := fun j => full_i _
                refine lv_aload_n hx hb dX12_test_76 rfl (lv_at hl 0 rfl) ?_
                refine lv_dup hx hb dX12_test_77 rfl ?_
                refine gM_12_13 hx hb ht hown hK hP m_1152 (v := (iv 12 13)) rfl dX12_test_78 ?_
                refine lv_iconst (v := 1) hx hb dX12_test_81 (by decide) ?_
                refine lv_iadd hx hb dX12_test_82 ?_
                refine lv_topi (fun v12 ev12 => ?_)
                have tv12 := z_add ev12 (rfl : ((iv 12 13)).toInt = _) (by decide : (1 : Int32).toInt = 1) (by omega) (by omega)
                refine pM_12_13 (v := v12) hx hb ht hown hK hP hD hS m_1152 dX12_test_83 (fun H locs hP hD hS => ?_)
                refine lv_aload_n hx hb dX12_test_86 rfl (lv_at hl 0 rfl) ?_
                refine gM_12_13 hx hb ht hown hK hP m_1152 (v := v12) rfl dX12_test_87 ?_
                have hP9 : va_P (dC, dI) classes (WM h g ca (u2 iv 12 13 v12) lv (u2 (u2 (u2 fa 12 14 f8) 12 15 f10) 12 16 f11) la) H := hP
                have hD9 : va_D A (WM h g ca (u2 iv 12 13 v12) lv (u2 (u2 (u2 fa 12 14 f8) 12 15 f10) 12 16 f11) la) := hD
                exact W.iret (v := v12) hx hb hr (fun t ht9 hW => ⟨⟨v12, ((u2 iv 12 13 v12), lv, (u2 (u2 (u2 fa 12 14 f8) 12 15 f10) 12 16 f11), la), rfl, ⟨f8, f10, f11, v12, (show inb (0, 30) v12 from ⟨by omega, by omega⟩), (show (((v12 : Int32).toInt = -100002 ∧ ¬ (0 ≤ (a).toInt ∧ (a).toInt ≤ 3 ∧ 1 ≤ (b).toInt ∧ (b).toInt ≤ 9999 ∧ 1 ≤ (d).toInt ∧ (d).toInt ≤ 9999) ∧ (v12 : Int32).toInt = (iv 12 13).toInt) ∨ ((v12 : Int32).toInt = -100004 ∧ (0 ≤ (a).toInt ∧ (a).toInt ≤ 3 ∧ 1 ≤ (b).toInt ∧ (b).toInt ≤ 9999 ∧ 1 ≤ (d).toInt ∧ (d).toInt ≤ 9999) ∧ 30 ≤ (iv 12 13).toInt ∧ (v12 : Int32).toInt = (iv 12 13).toInt) ∨ ((0 ≤ (a).toInt ∧ (a).toInt ≤ 3 ∧ 1 ≤ (b).toInt ∧ (b).toInt ≤ 9999 ∧ 1 ≤ (d).toInt ∧ (d).toInt ≤ 9999) ∧ (iv 12 13).toInt < 30 ∧ (v12 : Int32).toInt = (iv 12 13).toInt + 1 ∧ (v12 : Int32).toInt = (iv 12 13).toInt + 1)) from by omega), (show (((v12 : Int32).toInt < 0 ∧ ∀ j : Nat, f8 j = (fa 12 14) j ∧ f11 j = (fa 12 16) j ∧ f10 j = (fa 12 15) j) ∨ (0 ≤ (v12 : Int32).toInt ∧ (∀ j : Nat, j ≠ ((iv 12 13).toInt).toNat → f8 j = (fa 12 14) j ∧ f11 j = (fa 12 16) j ∧ f10 j = (fa 12 15) j) ∧ f8 ((iv 12 13).toInt).toNat = a ∧ f11 ((iv 12 13).toInt).toNat = (iv 12 0) ∧ (f10 ((iv 12 13).toInt).toNat).toInt = (b).toInt - (d).toInt)) from Or.inr ⟨by omega, fun j hj => ⟨(by rw [ef8, upd_ne (show j ≠ ((iv 12 13) : Int32).toNatClampNeg from hj)]), (by rw [ef11, upd_ne (show j ≠ ((iv 12 13) : Int32).toNatClampNeg from hj)]), (by rw [ef10, upd_ne (show j ≠ ((iv 12 13) : Int32).toNatClampNeg from hj)])⟩, (by rw [ef8]; exact upd_eq), (by rw [ef11]; exact upd_eq), (by rw [ef10]; exact (congrArg Int32.toInt upd_eq).trans (by omega))⟩), ⟨by omega, by omega⟩, rfl⟩, by rw [ht9]; exact hP9, hD9⟩, hS.F ht9⟩) hS.2.2 dX12_test_90
              · have fc7 := z_eq (rfl : ((iv 12 13)).toInt = _) (by decide : (30 : Int32).toInt = 30) c7
                refine lv_ldc hx hb hown (ht _ m_1380) dX12_test_38 ?_
                have : ((-100004) : Int32).toInt = (-100004) := (by decide)
                have hP9 : va_P (dC, dI) classes (WM h g ca (u2 iv 12 13 (iv 12 13)) lv (u2 (u2 (u2 fa 12 14 (fa 12 14)) 12 15 (fa 12 15)) 12 16 (fa 12 16)) la) s.heap := hP
                have hD9 : va_D A (WM h g ca (u2 iv 12 13 (iv 12 13)) lv (u2 (u2 (u2 fa 12 14 (fa 12 14)) 12 15 (fa 12 15)) 12 16 (fa 12 16)) la) := hD
                exact W.iret (v := (-100004)) hx hb hr (fun t ht9 hW => ⟨⟨(-100004), ((u2 iv 12 13 (iv 12 13)), lv, (u2 (u2 (u2 fa 12 14 (fa 12 14)) 12 15 (fa 12 15)) 12 16 (fa 12 16)), la), rfl, ⟨(fa 12 14), (fa 12 15), (fa 12 16), (iv 12 13), (hI.1 12 13), (show ((((-100004) : Int32).toInt = -100002 ∧ ¬ (0 ≤ (a).toInt ∧ (a).toInt ≤ 3 ∧ 1 ≤ (b).toInt ∧ (b).toInt ≤ 9999 ∧ 1 ≤ (d).toInt ∧ (d).toInt ≤ 9999) ∧ ((iv 12 13) : Int32).toInt = (iv 12 13).toInt) ∨ (((-100004) : Int32).toInt = -100004 ∧ (0 ≤ (a).toInt ∧ (a).toInt ≤ 3 ∧ 1 ≤ (b).toInt ∧ (b).toInt ≤ 9999 ∧ 1 ≤ (d).toInt ∧ (d).toInt ≤ 9999) ∧ 30 ≤ (iv 12 13).toInt ∧ ((iv 12 13) : Int32).toInt = (iv 12 13).toInt) ∨ ((0 ≤ (a).toInt ∧ (a).toInt ≤ 3 ∧ 1 ≤ (b).toInt ∧ (b).toInt ≤ 9999 ∧ 1 ≤ (d).toInt ∧ (d).toInt ≤ 9999) ∧ (iv 12 13).toInt < 30 ∧ ((-100004) : Int32).toInt = (iv 12 13).toInt + 1 ∧ ((iv 12 13) : Int32).toInt = (iv 12 13).toInt + 1)) from by omega), (show ((((-100004) : Int32).toInt < 0 ∧ ∀ j : Nat, (fa 12 14) j = (fa 12 14) j ∧ (fa 12 16) j = (fa 12 16) j ∧ (fa 12 15) j = (fa 12 15) j) ∨ (0 ≤ ((-100004) : Int32).toInt ∧ (∀ j : Nat, j ≠ ((iv 12 13).toInt).toNat → (fa 12 14) j = (fa 12 14) j ∧ (fa 12 16) j = (fa 12 16) j ∧ (fa 12 15) j = (fa 12 15) j) ∧ (fa 12 14) ((iv 12 13).toInt).toNat = a ∧ (fa 12 16) ((iv 12 13).toInt).toNat = (iv 12 0) ∧ ((fa 12 15) ((iv 12 13).toInt).toNat).toInt = (b).toInt - (d).toInt)) from Or.inl ⟨by omega, fun j => ⟨rfl, rfl, rfl⟩⟩), ⟨by decide, by decide⟩, rfl⟩, by rw [ht9]; exact hP9, hD9⟩, hS.F ht9⟩) hS.2.2 dX12_test_40
            · exact absurd c6 (by decide)
          · skip
            refine lv_if_ne (tgt := 29) hx hb dX12_test_23 (by decide) (fun c13 => ?_) (fun c13 => ?_)
            · exact absurd rfl c13
            · skip
              refine lv_ldc hx hb hown (ht _ m_1373) dX12_test_26 ?_
              have : ((-100002) : Int32).toInt = (-100002) := (by decide)
              have i_12_13 : 0 ≤ (iv 12 13).toInt ∧ (iv 12 13).toInt ≤ 30 := hI.1 12 13
              have hP9 : va_P (dC, dI) classes (WM h g ca (u2 iv 12 13 (iv 12 13)) lv (u2 (u2 (u2 fa 12 14 (fa 12 14)) 12 15 (fa 12 15)) 12 16 (fa 12 16)) la) s.heap := hP
              have hD9 : va_D A (WM h g ca (u2 iv 12 13 (iv 12 13)) lv (u2 (u2 (u2 fa 12 14 (fa 12 14)) 12 15 (fa 12 15)) 12 16 (fa 12 16)) la) := hD
              exact W.iret (v := (-100002)) hx hb hr (fun t ht9 hW => ⟨⟨(-100002), ((u2 iv 12 13 (iv 12 13)), lv, (u2 (u2 (u2 fa 12 14 (fa 12 14)) 12 15 (fa 12 15)) 12 16 (fa 12 16)), la), rfl, ⟨(fa 12 14), (fa 12 15), (fa 12 16), (iv 12 13), (hI.1 12 13), (show ((((-100002) : Int32).toInt = -100002 ∧ ¬ (0 ≤ (a).toInt ∧ (a).toInt ≤ 3 ∧ 1 ≤ (b).toInt ∧ (b).toInt ≤ 9999 ∧ 1 ≤ (d).toInt ∧ (d).toInt ≤ 9999) ∧ ((iv 12 13) : Int32).toInt = (iv 12 13).toInt) ∨ (((-100002) : Int32).toInt = -100004 ∧ (0 ≤ (a).toInt ∧ (a).toInt ≤ 3 ∧ 1 ≤ (b).toInt ∧ (b).toInt ≤ 9999 ∧ 1 ≤ (d).toInt ∧ (d).toInt ≤ 9999) ∧ 30 ≤ (iv 12 13).toInt ∧ ((iv 12 13) : Int32).toInt = (iv 12 13).toInt) ∨ ((0 ≤ (a).toInt ∧ (a).toInt ≤ 3 ∧ 1 ≤ (b).toInt ∧ (b).toInt ≤ 9999 ∧ 1 ≤ (d).toInt ∧ (d).toInt ≤ 9999) ∧ (iv 12 13).toInt < 30 ∧ ((-100002) : Int32).toInt = (iv 12 13).toInt + 1 ∧ ((iv 12 13) : Int32).toInt = (iv 12 13).toInt + 1)) from by omega), (show ((((-100002) : Int32).toInt < 0 ∧ ∀ j : Nat, (fa 12 14) j = (fa 12 14) j ∧ (fa 12 16) j = (fa 12 16) j ∧ (fa 12 15) j = (fa 12 15) j) ∨ (0 ≤ ((-100002) : Int32).toInt ∧ (∀ j : Nat, j ≠ ((iv 12 13).toInt).toNat → (fa 12 14) j = (fa 12 14) j ∧ (fa 12 16) j = (fa 12 16) j ∧ (fa 12 15) j = (fa 12 15) j) ∧ (fa 12 14) ((iv 12 13).toInt).toNat = a ∧ (fa 12 16) ((iv 12 13).toInt).toNat = (iv 12 0) ∧ ((fa 12 15) ((iv 12 13).toInt).toNat).toInt = (b).toInt - (d).toInt)) from Or.inl ⟨by omega, fun j => ⟨rfl, rfl, rfl⟩⟩), ⟨by decide, by decide⟩, rfl⟩, by rw [ht9]; exact hP9, hD9⟩, hS.F ht9⟩) hS.2.2 dX12_test_28
      · skip
        refine lv_if_eq (tgt := 26) hx hb dX12_test_16 (by decide) (fun c14 => ?_) (fun c14 => ?_)
        · skip
          refine lv_ldc hx hb hown (ht _ m_1373) dX12_test_26 ?_
          have : ((-100002) : Int32).toInt = (-100002) := (by decide)
          have i_12_13 : 0 ≤ (iv 12 13).toInt ∧ (iv 12 13).toInt ≤ 30 := hI.1 12 13
          have hP9 : va_P (dC, dI) classes (WM h g ca (u2 iv 12 13 (iv 12 13)) lv (u2 (u2 (u2 fa 12 14 (fa 12 14)) 12 15 (fa 12 15)) 12 16 (fa 12 16)) la) s.heap := hP
          have hD9 : va_D A (WM h g ca (u2 iv 12 13 (iv 12 13)) lv (u2 (u2 (u2 fa 12 14 (fa 12 14)) 12 15 (fa 12 15)) 12 16 (fa 12 16)) la) := hD
          exact W.iret (v := (-100002)) hx hb hr (fun t ht9 hW => ⟨⟨(-100002), ((u2 iv 12 13 (iv 12 13)), lv, (u2 (u2 (u2 fa 12 14 (fa 12 14)) 12 15 (fa 12 15)) 12 16 (fa 12 16)), la), rfl, ⟨(fa 12 14), (fa 12 15), (fa 12 16), (iv 12 13), (hI.1 12 13), (show ((((-100002) : Int32).toInt = -100002 ∧ ¬ (0 ≤ (a).toInt ∧ (a).toInt ≤ 3 ∧ 1 ≤ (b).toInt ∧ (b).toInt ≤ 9999 ∧ 1 ≤ (d).toInt ∧ (d).toInt ≤ 9999) ∧ ((iv 12 13) : Int32).toInt = (iv 12 13).toInt) ∨ (((-100002) : Int32).toInt = -100004 ∧ (0 ≤ (a).toInt ∧ (a).toInt ≤ 3 ∧ 1 ≤ (b).toInt ∧ (b).toInt ≤ 9999 ∧ 1 ≤ (d).toInt ∧ (d).toInt ≤ 9999) ∧ 30 ≤ (iv 12 13).toInt ∧ ((iv 12 13) : Int32).toInt = (iv 12 13).toInt) ∨ ((0 ≤ (a).toInt ∧ (a).toInt ≤ 3 ∧ 1 ≤ (b).toInt ∧ (b).toInt ≤ 9999 ∧ 1 ≤ (d).toInt ∧ (d).toInt ≤ 9999) ∧ (iv 12 13).toInt < 30 ∧ ((-100002) : Int32).toInt = (iv 12 13).toInt + 1 ∧ ((iv 12 13) : Int32).toInt = (iv 12 13).toInt + 1)) from by omega), (show ((((-100002) : Int32).toInt < 0 ∧ ∀ j : Nat, (fa 12 14) j = (fa 12 14) j ∧ (fa 12 16) j = (fa 12 16) j ∧ (fa 12 15) j = (fa 12 15) j) ∨ (0 ≤ ((-100002) : Int32).toInt ∧ (∀ j : Nat, j ≠ ((iv 12 13).toInt).toNat → (fa 12 14) j = (fa 12 14) j ∧ (fa 12 16) j = (fa 12 16) j ∧ (fa 12 15) j = (fa 12 15) j) ∧ (fa 12 14) ((iv 12 13).toInt).toNat = a ∧ (fa 12 16) ((iv 12 13).toInt).toNat = (iv 12 0) ∧ ((fa 12 15) ((iv 12 13).toInt).toNat).toInt = (b).toInt - (d).toInt)) from Or.inl ⟨by omega, fun j => ⟨rfl, rfl, rfl⟩⟩), ⟨by decide, by decide⟩, rfl⟩, by rw [ht9]; exact hP9, hD9⟩, hS.F ht9⟩) hS.2.2 dX12_test_28
        · exact absurd rfl c14
  · skip
    refine lv_if_eq (tgt := 26) hx hb dX12_test_9 (by decide) (fun c15 => ?_) (fun c15 => ?_)
    · skip
      refine lv_ldc hx hb hown (ht _ m_1373) dX12_test_26 ?_
      have : ((-100002) : Int32).toInt = (-100002) := (by decide)
      have i_12_13 : 0 ≤ (iv 12 13).toInt ∧ (iv 12 13).toInt ≤ 30 := hI.1 12 13
      have hP9 : va_P (dC, dI) classes (WM h g ca (u2 iv 12 13 (iv 12 13)) lv (u2 (u2 (u2 fa 12 14 (fa 12 14)) 12 15 (fa 12 15)) 12 16 (fa 12 16)) la) s.heap := hP
      have hD9 : va_D A (WM h g ca (u2 iv 12 13 (iv 12 13)) lv (u2 (u2 (u2 fa 12 14 (fa 12 14)) 12 15 (fa 12 15)) 12 16 (fa 12 16)) la) := hD
      exact W.iret (v := (-100002)) hx hb hr (fun t ht9 hW => ⟨⟨(-100002), ((u2 iv 12 13 (iv 12 13)), lv, (u2 (u2 (u2 fa 12 14 (fa 12 14)) 12 15 (fa 12 15)) 12 16 (fa 12 16)), la), rfl, ⟨(fa 12 14), (fa 12 15), (fa 12 16), (iv 12 13), (hI.1 12 13), (show ((((-100002) : Int32).toInt = -100002 ∧ ¬ (0 ≤ (a).toInt ∧ (a).toInt ≤ 3 ∧ 1 ≤ (b).toInt ∧ (b).toInt ≤ 9999 ∧ 1 ≤ (d).toInt ∧ (d).toInt ≤ 9999) ∧ ((iv 12 13) : Int32).toInt = (iv 12 13).toInt) ∨ (((-100002) : Int32).toInt = -100004 ∧ (0 ≤ (a).toInt ∧ (a).toInt ≤ 3 ∧ 1 ≤ (b).toInt ∧ (b).toInt ≤ 9999 ∧ 1 ≤ (d).toInt ∧ (d).toInt ≤ 9999) ∧ 30 ≤ (iv 12 13).toInt ∧ ((iv 12 13) : Int32).toInt = (iv 12 13).toInt) ∨ ((0 ≤ (a).toInt ∧ (a).toInt ≤ 3 ∧ 1 ≤ (b).toInt ∧ (b).toInt ≤ 9999 ∧ 1 ≤ (d).toInt ∧ (d).toInt ≤ 9999) ∧ (iv 12 13).toInt < 30 ∧ ((-100002) : Int32).toInt = (iv 12 13).toInt + 1 ∧ ((iv 12 13) : Int32).toInt = (iv 12 13).toInt + 1)) from by omega), (show ((((-100002) : Int32).toInt < 0 ∧ ∀ j : Nat, (fa 12 14) j = (fa 12 14) j ∧ (fa 12 16) j = (fa 12 16) j ∧ (fa 12 15) j = (fa 12 15) j) ∨ (0 ≤ ((-100002) : Int32).toInt ∧ (∀ j : Nat, j ≠ ((iv 12 13).toInt).toNat → (fa 12 14) j = (fa 12 14) j ∧ (fa 12 16) j = (fa 12 16) j ∧ (fa 12 15) j = (fa 12 15) j) ∧ (fa 12 14) ((iv 12 13).toInt).toNat = a ∧ (fa 12 16) ((iv 12 13).toInt).toNat = (iv 12 0) ∧ ((fa 12 15) ((iv 12 13).toInt).toNat).toInt = (b).toInt - (d).toInt)) from Or.inl ⟨by omega, fun j => ⟨rfl, rfl, rfl⟩⟩), ⟨by decide, by decide⟩, rfl⟩, by rw [ht9]; exact hP9, hD9⟩, hS.F ht9⟩) hS.2.2 dX12_test_28
    · exact absurd rfl c15
