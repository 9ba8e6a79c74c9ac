/-! ===== ho1 ===== -/
set_option maxHeartbeats 4000000 in
set_option maxRecDepth 100000 in
/-- X4_compare -/
theorem c_X4_compare_h (l : Launch) (dC : Nat → ClassId) (dI : Nat → Nat → Nat) (sz : Nat) (h : Nat) (g : Nat → Nat → Nat) (ca : Nat → Nat → ClassId) (iv : Nat → Nat → Int32) (lv : Nat → Nat → Int64) (fa : Nat → Nat → Nat → Int32) (la : Nat → Nat → Nat → Int64) (hI : IX iv fa) (a : Int32) (b : Int32) (q_4_2 : 0 ≤ (iv 4 2).toInt ∧ (iv 4 2).toInt ≤ 7) : Met l yX4_compare (wc yX4_compare cX4_compare 3 (some .int)) ({ frames := 0, cells := 0, slots := 0, locals := 0 } : Room) (pW (dC, dI) classes (WX h g ca iv lv fa la) (TX ca) sz [.ref (g 11 8), .int a, .int b]) (va_Qi (fun r (u : SS) => ∃ (na_4_0 : Nat → Int32) (na_4_1 : Nat → Int32) (ni_4_2 : Int32), inb (bI 4 2) ni_4_2 ∧ ni_4_2.toInt = (iv 4 2).toInt + 1 ∧ (r.toInt = (iv 4 2).toInt + 1) ∧ (∀ j : Nat, j ≠ ((iv 4 2).toInt).toNat → na_4_0 j = (fa 4 0) j ∧ na_4_1 j = (fa 4 1) j) ∧ ((na_4_0 ((iv 4 2).toInt).toNat).toInt = a.toInt) ∧ ((na_4_1 ((iv 4 2).toInt).toNat).toInt = b.toInt) ∧ (1 ≤ r.toInt ∧ r.toInt ≤ 8) ∧ u = ((u2 iv 4 2 ni_4_2), lv, (u2 (u2 fa 4 0 na_4_0) 4 1 na_4_1), la)) (bX (dC, dI) h g ca (va_A (WX h g ca iv lv fa la) sz)) (va_A (WX h g ca iv lv fa la) sz)) 0 0 (va_A (WX h g ca iv lv fa la) sz) := by
  refine Met.ofW (cc := cX4_compare) (maxL := 3) (ret := (some .int)) (by decide) rfl ?_
  intro p e s m args below meth c s₁ B hml hv
  obtain ⟨rfl, hsz, hP, hK, hD0⟩ := hv
  have hx := B.exec
  have hb := B.bytes
  have hr := B.returns
  have ht := tb_tl (atoms_spec (ws := wc yX4_compare cX4_compare 3 (some .int)) B.pre)
  have hown : s.vm.findClass RX4 = some m.cls := findClass_of_methodNamed B.named
  have hlocks := B.notSynchronized
  subst hsz
  have hD := hD0.self (sz := s.heap.size)
  generalize hAe : va_A (WX h g ca iv lv fa la) s.heap.size = A at hD ⊢
  have hA : ∀ q : Nat, s.heap.size ≤ q → A q := fun q h => by rw [← hAe]; exact Or.inr h
  have hS : va_S A s.heap s.heap [] := va_S.rf
  have hl := lv_entry [.ref (g 11 8), .int a, .int b] (n := 3) (Nat.le_of_ble_eq_true rfl)
  rw [lg_entry_eq]
  generalize (lg_sl [.ref (g 11 8), .int a, .int b] ++ List.replicate (3 - (lg_sl [.ref (g 11 8), .int a, .int b]).length) Slot.unset).toArray = ls at hl ⊢
  have hl : lv_has ls 3 [(0, .ref (g 11 8)), (1, .int a), (2, .int b)] := hl
  refine lv_aload_n hx hb dX4_compare_0 rfl (lv_at hl 0 rfl) ?_
  refine gX_4_0 hx hb ht hown hK hP m_366 dX4_compare_1 ?_
  refine lv_aload_n hx hb dX4_compare_4 rfl (lv_at hl 0 rfl) ?_
  have i_4_2 : 0 ≤ (iv 4 2).toInt ∧ (iv 4 2).toInt ≤ 8 := hI.1 4 2
  refine gX_4_2 hx hb ht hown hK hP m_368 (v := (iv 4 2)) rfl dX4_compare_5 ?_
  refine lv_iload_n hx hb dX4_compare_8 rfl (lv_at hl 1 rfl) ?_
  refine tX_4_0 hx hb hK hP hD hS (f0 := (fa 4 0)) rfl (i := (iv 4 2)) (x := a) (vp_in_iff.mpr ⟨by omega, by omega⟩) dX4_compare_9 (fun f1 ef1 H locs hP hD hS => ?_)
  have hf1 : ∀ j, inb (bA 4 0 j) (f1 j) := fun j => full_i _
  refine lv_aload_n hx hb dX4_compare_10 rfl (lv_at hl 0 rfl) ?_
  refine gX_4_1 hx hb ht hown hK hP m_367 dX4_compare_11 ?_
  refine lv_aload_n hx hb dX4_compare_14 rfl (lv_at hl 0 rfl) ?_
  refine gX_4_2 hx hb ht hown hK hP m_368 (v := (iv 4 2)) rfl dX4_compare_15 ?_
  refine lv_iload_n hx hb dX4_compare_18 rfl (lv_at hl 2 rfl) ?_
  refine tX_4_1 hx hb hK hP hD hS (f0 := (fa 4 1)) rfl (i := (iv 4 2)) (x := b) (vp_in_iff.mpr ⟨by omega, by omega⟩) dX4_compare_19 (fun f2 ef2 H locs hP hD hS => ?_)
  have hf2 : ∀ j, inb (bA 4 1 j) (f2 j) := fun j => full_i _
  refine lv_aload_n hx hb dX4_compare_20 rfl (lv_at hl 0 rfl) ?_
  refine lv_dup hx hb dX4_compare_21 rfl ?_
  refine gX_4_2 hx hb ht hown hK hP m_368 (v := (iv 4 2)) rfl dX4_compare_22 ?_
  refine lv_iconst (v := 1) hx hb dX4_compare_25 (by decide) ?_
  refine lv_iadd hx hb dX4_compare_26 ?_
  refine lv_topi (fun v3 ev3 => ?_)
  have tv3 := z_add ev3 (rfl : ((iv 4 2)).toInt = _) (by decide : (1 : Int32).toInt = 1) (by omega) (by omega)
  refine pX_4_2 (v := v3) hx hb ht hown hK hP hD hS m_368 dX4_compare_27 (fun H locs hP hD hS => ?_)
  refine lv_aload_n hx hb dX4_compare_30 rfl (lv_at hl 0 rfl) ?_
  refine gX_4_2 hx hb ht hown hK hP m_368 (v := v3) rfl dX4_compare_31 ?_
  have hP9 : va_P (dC, dI) classes (WX h g ca (u2 iv 4 2 v3) lv (u2 (u2 fa 4 0 f1) 4 1 f2) la) H := hP
  have hD9 : va_D A (WX h g ca (u2 iv 4 2 v3) lv (u2 (u2 fa 4 0 f1) 4 1 f2) la) := hD
  exact W.iret (v := v3) hx hb hr (fun t ht9 hW => ⟨⟨v3, ((u2 iv 4 2 v3), lv, (u2 (u2 fa 4 0 f1) 4 1 f2), la), rfl, ⟨f1, f2, v3, (show inb (0, 8) v3 from ⟨by omega, by omega⟩), (by omega), (show (v3 : Int32).toInt = (iv 4 2).toInt + 1 from by omega), (show ∀ j : Nat, j ≠ ((iv 4 2).toInt).toNat → f1 j = (fa 4 0) j ∧ f2 j = (fa 4 1) j from fun j hj => ⟨(by rw [ef1, upd_ne (show j ≠ (iv 4 2).toNatClampNeg from hj)]), (by rw [ef2, upd_ne (show j ≠ (iv 4 2).toNatClampNeg from hj)])⟩), (show (f1 ((iv 4 2).toInt).toNat).toInt = (a).toInt from (by rw [ef1]; exact congrArg Int32.toInt upd_eq)), (show (f2 ((iv 4 2).toInt).toNat).toInt = (b).toInt from (by rw [ef2]; exact congrArg Int32.toInt upd_eq)), ⟨by omega, by omega⟩, rfl⟩, by rw [ht9]; exact hP9, hD9⟩, hS.F ht9⟩) hS.2.2 dX4_compare_34
set_option maxHeartbeats 4000000 in
set_option maxRecDepth 100000 in
/-- X11_shared -/
theorem c_X11_shared_h (l : Launch) (dC : Nat → ClassId) (dI : Nat → Nat → Nat) (sz : Nat) (h : Nat) (g : Nat → Nat → Nat) (ca : Nat → Nat → ClassId) (iv : Nat → Nat → Int32) (lv : Nat → Nat → Int64) (fa : Nat → Nat → Nat → Int32) (la : Nat → Nat → Nat → Int64) (hI : IX iv fa) (a : Int32) (b : Int32) (d : Int32) (k : Int32) : Met l yX11_shared (wc yX11_shared cX11_shared 5 (some .int)) ({ frames := 1, cells := 0, slots := 0, locals := 22 } : Room) (pW (dC, dI) classes (WX h g ca iv lv fa la) (TX ca) sz [.ref h, .int a, .int b, .int d, .int k]) (va_Qi (fun r (u : SS) => ∃ (na_4_0 : Nat → Int32) (na_4_1 : Nat → Int32) (ni_4_2 : Int32), inb (bI 4 2) ni_4_2 ∧ (((r.toInt = -100002 ∧ ¬ (1 ≤ a.toInt ∧ a.toInt ≤ b.toInt ∧ b.toInt ≤ 9999 ∧ 1 ≤ d.toInt ∧ d.toInt ≤ k.toInt ∧ k.toInt ≤ 9999) ∧ (ni_4_2).toInt = (iv 4 2).toInt) ∨ (r.toInt = -100004 ∧ (1 ≤ a.toInt ∧ a.toInt ≤ b.toInt ∧ b.toInt ≤ 9999 ∧ 1 ≤ d.toInt ∧ d.toInt ≤ k.toInt ∧ k.toInt ≤ 9999) ∧ 8 ≤ (iv 4 2).toInt ∧ (ni_4_2).toInt = (iv 4 2).toInt) ∨ ((1 ≤ a.toInt ∧ a.toInt ≤ b.toInt ∧ b.toInt ≤ 9999 ∧ 1 ≤ d.toInt ∧ d.toInt ≤ k.toInt ∧ k.toInt ≤ 9999) ∧ (iv 4 2).toInt < 8 ∧ r.toInt = (iv 4 2).toInt + 1 ∧ (ni_4_2).toInt = (iv 4 2).toInt + 1))) ∧ (((r.toInt < 0 ∧ ∀ j : Nat, na_4_0 j = (fa 4 0) j ∧ na_4_1 j = (fa 4 1) j) ∨ (0 ≤ r.toInt ∧ (∀ j : Nat, j ≠ ((iv 4 2).toInt).toNat → na_4_0 j = (fa 4 0) j ∧ na_4_1 j = (fa 4 1) j) ∧ (na_4_0 ((iv 4 2).toInt).toNat).toInt = a.toInt - k.toInt ∧ (na_4_1 ((iv 4 2).toInt).toNat).toInt = b.toInt - d.toInt))) ∧ ((-100004) ≤ r.toInt ∧ r.toInt ≤ 8) ∧ u = ((u2 iv 4 2 ni_4_2), lv, (u2 (u2 fa 4 0 na_4_0) 4 1 na_4_1), la)) (bX (dC, dI) h g ca (va_A (WX h g ca iv lv fa la) sz)) (va_A (WX h g ca iv lv fa la) sz)) 0 0 (va_A (WX h g ca iv lv fa la) sz) := by
  refine Met.ofW (cc := cX11_shared) (maxL := 5) (ret := (some .int)) (by decide) rfl ?_
  intro p e s m args below meth c s₁ B hml hv
  obtain ⟨rfl, hsz, hP, hK, hD0⟩ := hv
  have hx := B.exec
  have hb := B.bytes
  have hr := B.returns
  have ht := tb_tl (atoms_spec (ws := wc yX11_shared cX11_shared 5 (some .int)) B.pre)
  have hown : s.vm.findClass RX11 = some m.cls := findClass_of_methodNamed B.named
  have hlocks := B.notSynchronized
  subst hsz
  have hD := hD0.self (sz := s.heap.size)
  generalize hAe : va_A (WX h g ca iv lv fa la) s.heap.size = A at hD ⊢
  have hA : ∀ q : Nat, s.heap.size ≤ q → A q := fun q h => by rw [← hAe]; exact Or.inr h
  have hS : va_S A s.heap s.heap [] := va_S.rf
  have hl := lv_entry [.ref h, .int a, .int b, .int d, .int k] (n := 5) (Nat.le_of_ble_eq_true rfl)
  rw [lg_entry_eq]
  generalize (lg_sl [.ref h, .int a, .int b, .int d, .int k] ++ List.replicate (5 - (lg_sl [.ref h, .int a, .int b, .int d, .int k]).length) Slot.unset).toArray = ls at hl ⊢
  have hl : lv_has ls 5 [(0, .ref h), (1, .int a), (2, .int b), (3, .int d), (4, .int k)] := hl
  refine lv_iload_n hx hb dX11_shared_0 rfl (lv_at hl 1 rfl) ?_
  refine lv_iconst (v := 1) hx hb dX11_shared_1 (by decide) ?_
  refine lv_sipush (v := 9999) hx hb dX11_shared_2 (by decide) ?_
  refine vp_callSi (W.runS (As := [.int a, .int 1, .int 9999]) (rest := []) ⟨hx, hb, hml, hown, ht⟩ (c_X11_within l dC dI a 1 9999 (a.toInt) (1) (9999) (rfl : (a).toInt = _) (by decide : (1 : Int32).toInt = 1) (by decide : (9999 : Int32).toInt = 9999)) (kS 3 ht m_453 m_454 m_77 m_455 rfl rfl hd_X11_within_v ⟨Nat.le_of_ble_eq_true rfl, Nat.le_of_ble_eq_true rfl⟩) (sR noP (hK.sub (tys' := []) [] rfl)) rfl rfl hl.1 rfl (lv_room (Nat.le_of_ble_eq_true rfl)) dX11_shared_5 ⟨Nat.le_of_ble_eq_true rfl, Nat.le_of_ble_eq_true rfl⟩) (fun r1 hr1 => ?_)
  rcases hr1 with ⟨rfl, fr1⟩ | ⟨rfl, fr1⟩
  · skip
    refine lv_if_eq (tgt := 22) hx hb dX11_shared_8 (by decide) (fun c2 => ?_) (fun c2 => ?_)
    · exact absurd c2 (by decide)
    · skip
      refine lv_iload_n hx hb dX11_shared_11 rfl (lv_at hl 2 rfl) ?_
      refine lv_iload_n hx hb dX11_shared_12 rfl (lv_at hl 1 rfl) ?_
      refine lv_sipush (v := 9999) hx hb dX11_shared_13 (by decide) ?_
      refine vp_callSi (W.runS (As := [.int b, .int a, .int 9999]) (rest := []) ⟨hx, hb, hml, hown, ht⟩ (c_X11_within l dC dI b a 9999 (b.toInt) (a.toInt) (9999) (rfl : (b).toInt = _) (rfl : (a).toInt = _) (by decide : (9999 : Int32).toInt = 9999)) (kS 3 ht m_453 m_454 m_77 m_455 rfl rfl hd_X11_within_v ⟨Nat.le_of_ble_eq_true rfl, Nat.le_of_ble_eq_true rfl⟩) (sR noP (hK.sub (tys' := []) [] rfl)) rfl rfl hl.1 rfl (lv_room (Nat.le_of_ble_eq_true rfl)) dX11_shared_16 ⟨Nat.le_of_ble_eq_true rfl, Nat.le_of_ble_eq_true rfl⟩) (fun r3 hr3 => ?_)
      rcases hr3 with ⟨rfl, fr3⟩ | ⟨rfl, fr3⟩
      · skip
        refine lv_if_ne (tgt := 25) hx hb dX11_shared_19 (by decide) (fun c4 => ?_) (fun c4 => ?_)
        · skip
          refine lv_iload_n hx hb dX11_shared_25 rfl (lv_at hl 3 rfl) ?_
          refine lv_iconst (v := 1) hx hb dX11_shared_26 (by decide) ?_
          refine lv_sipush (v := 9999) hx hb dX11_shared_27 (by decide) ?_
          refine vp_callSi (W.runS (As := [.int d, .int 1, .int 9999]) (rest := []) ⟨hx, hb, hml, hown, ht⟩ (c_X11_within l dC dI d 1 9999 (d.toInt) (1) (9999) (rfl : (d).toInt = _) (by decide : (1 : Int32).toInt = 1) (by decide : (9999 : Int32).toInt = 9999)) (kS 3 ht m_453 m_454 m_77 m_455 rfl rfl hd_X11_within_v ⟨Nat.le_of_ble_eq_true rfl, Nat.le_of_ble_eq_true rfl⟩) (sR noP (hK.sub (tys' := []) [] rfl)) rfl rfl hl.1 rfl (lv_room (Nat.le_of_ble_eq_true rfl)) dX11_shared_30 ⟨Nat.le_of_ble_eq_true rfl, Nat.le_of_ble_eq_true rfl⟩) (fun r5 hr5 => ?_)
          rcases hr5 with ⟨rfl, fr5⟩ | ⟨rfl, fr5⟩
          · skip
            refine lv_if_eq (tgt := 48) hx hb dX11_shared_33 (by decide) (fun c6 => ?_) (fun c6 => ?_)
            · exact absurd c6 (by decide)
            · skip
              refine lv_iload hx hb dX11_shared_36 (lv_at hl 4 rfl) ?_
              refine lv_iload_n hx hb dX11_shared_38 rfl (lv_at hl 3 rfl) ?_
              refine lv_sipush (v := 9999) hx hb dX11_shared_39 (by decide) ?_
              refine vp_callSi (W.runS (As := [.int k, .int d, .int 9999]) (rest := []) ⟨hx, hb, hml, hown, ht⟩ (c_X11_within l dC dI k d 9999 (k.toInt) (d.toInt) (9999) (rfl : (k).toInt = _) (rfl : (d).toInt = _) (by decide : (9999 : Int32).toInt = 9999)) (kS 3 ht m_453 m_454 m_77 m_455 rfl rfl hd_X11_within_v ⟨Nat.le_of_ble_eq_true rfl, Nat.le_of_ble_eq_true rfl⟩) (sR noP (hK.sub (tys' := []) [] rfl)) rfl rfl hl.1 rfl (lv_room (Nat.le_of_ble_eq_true rfl)) dX11_shared_42 ⟨Nat.le_of_ble_eq_true rfl, Nat.le_of_ble_eq_true rfl⟩) (fun r7 hr7 => ?_)
              rcases hr7 with ⟨rfl, fr7⟩ | ⟨rfl, fr7⟩
              · skip
                refine lv_if_ne (tgt := 51) hx hb dX11_shared_45 (by decide) (fun c8 => ?_) (fun c8 => ?_)
                · skip
                  refine lv_aload_n hx hb dX11_shared_51 rfl (lv_at hl 0 rfl) ?_
                  refine gX_11_8 hx hb ht hown hK hP m_423 dX11_shared_52 ?_
                  have i_4_2 : 0 ≤ (iv 4 2).toInt ∧ (iv 4 2).toInt ≤ 8 := hI.1 4 2
                  refine gX_4_2 hx hb ht hown hK hP m_369 (v := (iv 4 2)) rfl dX11_shared_55 ?_
                  refine lv_bipush (v := 8) hx hb dX11_shared_58 (by decide) ?_
                  refine lv_icmp_lt (tgt := 66) hx hb dX11_shared_60 (by decide) (fun c9 => ?_) (fun c9 => ?_)
                  · have fc9 := z_lt (rfl : ((iv 4 2)).toInt = _) (by decide : (8 : Int32).toInt = 8) c9
                    refine lv_aload_n hx hb dX11_shared_66 rfl (lv_at hl 0 rfl) ?_
                    refine gX_11_8 hx hb ht hown hK hP m_423 dX11_shared_67 ?_
                    refine lv_iload_n hx hb dX11_shared_70 rfl (lv_at hl 1 rfl) ?_
                    refine lv_iload hx hb dX11_shared_71 (lv_at hl 4 rfl) ?_
                    refine lv_isub hx hb dX11_shared_73 ?_
                    refine lv_topi (fun v10 ev10 => ?_)
                    have tv10 := z_sub ev10 (rfl : (a).toInt = _) (rfl : (k).toInt = _) (by omega) (by omega)
                    refine lv_iload_n hx hb dX11_shared_74 rfl (lv_at hl 2 rfl) ?_
                    refine lv_iload_n hx hb dX11_shared_75 rfl (lv_at hl 3 rfl) ?_
                    refine lv_isub hx hb dX11_shared_76 ?_
                    refine lv_topi (fun v11 ev11 => ?_)
                    have tv11 := z_sub ev11 (rfl : (b).toInt = _) (rfl : (d).toInt = _) (by omega) (by omega)
                    have hFc := free_all hD hS hA
                    refine va_calli (va_runV (As := [.int v10, .int v11]) (rest := []) ⟨hx, hb, hml, hown, ht⟩ (c_X4_compare_h l dC dI s.heap.size h g ca iv lv fa la hI v10 v11 (show 0 ≤ ((iv 4 2) : Int32).toInt ∧ ((iv 4 2) : Int32).toInt ≤ 7 from ⟨by omega, by omega⟩)) (kV 2 ht m_1038 m_1039 m_1040 m_87 m_1041 rfl rfl hd_X4_compare_v ⟨Nat.le_of_ble_eq_true rfl, Nat.le_of_ble_eq_true rfl⟩) (vW hP hK hD (rX_4 hK hP)) rfl rfl hl.1 rfl (lv_room (Nat.le_of_ble_eq_true rfl)) dX11_shared_77 ⟨Nat.le_of_ble_eq_true rfl, Nat.le_of_ble_eq_true rfl⟩) hS (fun q _ h => hFc q h) hFc (fun r12 u t H1 locs ht9 hvm hr12 hB hz1 hk1 hS => ?_)
                    obtain ⟨n13, n14, n15, hn15, dn15, xr12_0, xr12_1, xr12_2, xr12_3, hr12, rfl⟩ := hr12
                    have hn13 : ∀ j, inb (bA 4 0 j) (n13 j) := fun j => full_i _
                    have hn14 : ∀ j, inb (bA 4 1 j) (n14 j) := fun j => full_i _
                    have dn15 : n15.toInt = ((iv 4 2) : Int32).toInt + 1 := dn15
                    have hn15 : 0 ≤ n15.toInt ∧ n15.toInt ≤ 8 := hn15
                    obtain ⟨hP, hD⟩ := hB
                    rw [ht9] at hP
                    generalize H1 = H at hP hS ⊢
                    have hP : va_P (dC, dI) classes (WX h g ca (u2 iv 4 2 n15) lv (u2 (u2 fa 4 0 n13) 4 1 n14) la) H := hP
                    have hD : va_D A (WX h g ca (u2 iv 4 2 n15) lv (u2 (u2 fa 4 0 n13) 4 1 n14) la) := (show va_D _ (WX h g ca (u2 iv 4 2 n15) lv (u2 (u2 fa 4 0 n13) 4 1 n14) la) from hD).weaken (fun _ _ _ h => hFc _ h)
                    have xr12_0 : (r12 : Int32).toInt = ((iv 4 2) : Int32).toInt + 1 := xr12_0
                    have xr12_1 : ∀ j : Nat, j ≠ (((iv 4 2) : Int32).toInt).toNat → n13 j = (fa 4 0) j ∧ n14 j = (fa 4 1) j := xr12_1
                    have xr12_2 : (n13 (((iv 4 2) : Int32).toInt).toNat).toInt = (v10 : Int32).toInt := xr12_2
                    have xr12_3 : (n14 (((iv 4 2) : Int32).toInt).toNat).toInt = (v11 : Int32).toInt := xr12_3
                    have hP9 : va_P (dC, dI) classes (WX h g ca (u2 iv 4 2 n15) lv (u2 (u2 fa 4 0 n13) 4 1 n14) la) H := hP
                    have hD9 : va_D A (WX h g ca (u2 iv 4 2 n15) lv (u2 (u2 fa 4 0 n13) 4 1 n14) la) := hD
                    exact W.iret (v := r12) hx hb hr (fun t ht9 hW => ⟨⟨r12, ((u2 iv 4 2 n15), lv, (u2 (u2 fa 4 0 n13) 4 1 n14), la), rfl, ⟨n13, n14, n15, (show inb (0, 8) n15 from ⟨by omega, by omega⟩), (show (((r12 : Int32).toInt = -100002 ∧ ¬ (1 ≤ (a).toInt ∧ (a).toInt ≤ (b).toInt ∧ (b).toInt ≤ 9999 ∧ 1 ≤ (d).toInt ∧ (d).toInt ≤ (k).toInt ∧ (k).toInt ≤ 9999) ∧ (n15 : Int32).toInt = (iv 4 2).toInt) ∨ ((r12 : Int32).toInt = -100004 ∧ (1 ≤ (a).toInt ∧ (a).toInt ≤ (b).toInt ∧ (b).toInt ≤ 9999 ∧ 1 ≤ (d).toInt ∧ (d).toInt ≤ (k).toInt ∧ (k).toInt ≤ 9999) ∧ 8 ≤ (iv 4 2).toInt ∧ (n15 : Int32).toInt = (iv 4 2).toInt) ∨ ((1 ≤ (a).toInt ∧ (a).toInt ≤ (b).toInt ∧ (b).toInt ≤ 9999 ∧ 1 ≤ (d).toInt ∧ (d).toInt ≤ (k).toInt ∧ (k).toInt ≤ 9999) ∧ (iv 4 2).toInt < 8 ∧ (r12 : Int32).toInt = (iv 4 2).toInt + 1 ∧ (n15 : Int32).toInt = (iv 4 2).toInt + 1)) from by omega), (show (((r12 : Int32).toInt < 0 ∧ ∀ j : Nat, n13 j = (fa 4 0) j ∧ n14 j = (fa 4 1) j) ∨ (0 ≤ (r12 : Int32).toInt ∧ (∀ j : Nat, j ≠ ((iv 4 2).toInt).toNat → n13 j = (fa 4 0) j ∧ n14 j = (fa 4 1) j) ∧ (n13 ((iv 4 2).toInt).toNat).toInt = (a).toInt - (k).toInt ∧ (n14 ((iv 4 2).toInt).toNat).toInt = (b).toInt - (d).toInt)) from Or.inr ⟨by omega, xr12_1, by omega, by omega⟩), ⟨by omega, by omega⟩, rfl⟩, by rw [ht9]; exact hP9, hD9⟩, hS.F ht9⟩) hS.2.2 dX11_shared_80
                  · have fc9 := z_nlt (rfl : ((iv 4 2)).toInt = _) (by decide : (8 : Int32).toInt = 8) c9
                    refine lv_ldc hx hb hown (ht _ m_463) dX11_shared_63 ?_
                    have : ((-100004) : Int32).toInt = (-100004) := (by decide)
                    have hP9 : va_P (dC, dI) classes (WX h g ca (u2 iv 4 2 (iv 4 2)) lv (u2 (u2 fa 4 0 (fa 4 0)) 4 1 (fa 4 1)) la) s.heap := hP
                    have hD9 : va_D A (WX h g ca (u2 iv 4 2 (iv 4 2)) lv (u2 (u2 fa 4 0 (fa 4 0)) 4 1 (fa 4 1)) la) := hD
                    exact W.iret (v := (-100004)) hx hb hr (fun t ht9 hW => ⟨⟨(-100004), ((u2 iv 4 2 (iv 4 2)), lv, (u2 (u2 fa 4 0 (fa 4 0)) 4 1 (fa 4 1)), la), rfl, ⟨(fa 4 0), (fa 4 1), (iv 4 2), (hI.1 4 2), (show ((((-100004) : Int32).toInt = -100002 ∧ ¬ (1 ≤ (a).toInt ∧ (a).toInt ≤ (b).toInt ∧ (b).toInt ≤ 9999 ∧ 1 ≤ (d).toInt ∧ (d).toInt ≤ (k).toInt ∧ (k).toInt ≤ 9999) ∧ ((iv 4 2) : Int32).toInt = (iv 4 2).toInt) ∨ (((-100004) : Int32).toInt = -100004 ∧ (1 ≤ (a).toInt ∧ (a).toInt ≤ (b).toInt ∧ (b).toInt ≤ 9999 ∧ 1 ≤ (d).toInt ∧ (d).toInt ≤ (k).toInt ∧ (k).toInt ≤ 9999) ∧ 8 ≤ (iv 4 2).toInt ∧ ((iv 4 2) : Int32).toInt = (iv 4 2).toInt) ∨ ((1 ≤ (a).toInt ∧ (a).toInt ≤ (b).toInt ∧ (b).toInt ≤ 9999 ∧ 1 ≤ (d).toInt ∧ (d).toInt ≤ (k).toInt ∧ (k).toInt ≤ 9999) ∧ (iv 4 2).toInt < 8 ∧ ((-100004) : Int32).toInt = (iv 4 2).toInt + 1 ∧ ((iv 4 2) : Int32).toInt = (iv 4 2).toInt + 1)) from by omega), (show ((((-100004) : Int32).toInt < 0 ∧ ∀ j : Nat, (fa 4 0) j = (fa 4 0) j ∧ (fa 4 1) j = (fa 4 1) j) ∨ (0 ≤ ((-100004) : Int32).toInt ∧ (∀ j : Nat, j ≠ ((iv 4 2).toInt).toNat → (fa 4 0) j = (fa 4 0) j ∧ (fa 4 1) j = (fa 4 1) j) ∧ ((fa 4 0) ((iv 4 2).toInt).toNat).toInt = (a).toInt - (k).toInt ∧ ((fa 4 1) ((iv 4 2).toInt).toNat).toInt = (b).toInt - (d).toInt)) from Or.inl ⟨by omega, fun j => ⟨rfl, rfl⟩⟩), ⟨by decide, by decide⟩, rfl⟩, by rw [ht9]; exact hP9, hD9⟩, hS.F ht9⟩) hS.2.2 dX11_shared_65
                · exact absurd c8 (by decide)
              · skip
                refine lv_if_ne (tgt := 51) hx hb dX11_shared_45 (by decide) (fun c16 => ?_) (fun c16 => ?_)
                · exact absurd rfl c16
                · skip
                  refine lv_ldc hx hb hown (ht _ m_456) dX11_shared_48 ?_
                  have : ((-100002) : Int32).toInt = (-100002) := (by decide)
                  have i_4_2 : 0 ≤ (iv 4 2).toInt ∧ (iv 4 2).toInt ≤ 8 := hI.1 4 2
                  have hP9 : va_P (dC, dI) classes (WX h g ca (u2 iv 4 2 (iv 4 2)) lv (u2 (u2 fa 4 0 (fa 4 0)) 4 1 (fa 4 1)) la) s.heap := hP
                  have hD9 : va_D A (WX h g ca (u2 iv 4 2 (iv 4 2)) lv (u2 (u2 fa 4 0 (fa 4 0)) 4 1 (fa 4 1)) la) := hD
                  exact W.iret (v := (-100002)) hx hb hr (fun t ht9 hW => ⟨⟨(-100002), ((u2 iv 4 2 (iv 4 2)), lv, (u2 (u2 fa 4 0 (fa 4 0)) 4 1 (fa 4 1)), la), rfl, ⟨(fa 4 0), (fa 4 1), (iv 4 2), (hI.1 4 2), (show ((((-100002) : Int32).toInt = -100002 ∧ ¬ (1 ≤ (a).toInt ∧ (a).toInt ≤ (b).toInt ∧ (b).toInt ≤ 9999 ∧ 1 ≤ (d).toInt ∧ (d).toInt ≤ (k).toInt ∧ (k).toInt ≤ 9999) ∧ ((iv 4 2) : Int32).toInt = (iv 4 2).toInt) ∨ (((-100002) : Int32).toInt = -100004 ∧ (1 ≤ (a).toInt ∧ (a).toInt ≤ (b).toInt ∧ (b).toInt ≤ 9999 ∧ 1 ≤ (d).toInt ∧ (d).toInt ≤ (k).toInt ∧ (k).toInt ≤ 9999) ∧ 8 ≤ (iv 4 2).toInt ∧ ((iv 4 2) : Int32).toInt = (iv 4 2).toInt) ∨ ((1 ≤ (a).toInt ∧ (a).toInt ≤ (b).toInt ∧ (b).toInt ≤ 9999 ∧ 1 ≤ (d).toInt ∧ (d).toInt ≤ (k).toInt ∧ (k).toInt ≤ 9999) ∧ (iv 4 2).toInt < 8 ∧ ((-100002) : Int32).toInt = (iv 4 2).toInt + 1 ∧ ((iv 4 2) : Int32).toInt = (iv 4 2).toInt + 1)) from by omega), (show ((((-100002) : Int32).toInt < 0 ∧ ∀ j : Nat, (fa 4 0) j = (fa 4 0) j ∧ (fa 4 1) j = (fa 4 1) j) ∨ (0 ≤ ((-100002) : Int32).toInt ∧ (∀ j : Nat, j ≠ ((iv 4 2).toInt).toNat → (fa 4 0) j = (fa 4 0) j ∧ (fa 4 1) j = (fa 4 1) j) ∧ ((fa 4 0) ((iv 4 2).toInt).toNat).toInt = (a).toInt - (k).toInt ∧ ((fa 4 1) ((iv 4 2).toInt).toNat).toInt = (b).toInt - (d).toInt)) from Or.inl ⟨by omega, fun j => ⟨rfl, rfl⟩⟩), ⟨by decide, by decide⟩, rfl⟩, by rw [ht9]; exact hP9, hD9⟩, hS.F ht9⟩) hS.2.2 dX11_shared_50
          · skip
            refine lv_if_eq (tgt := 48) hx hb dX11_shared_33 (by decide) (fun c17 => ?_) (fun c17 => ?_)
            · skip
              refine lv_ldc hx hb hown (ht _ m_456) dX11_shared_48 ?_
              have : ((-100002) : Int32).toInt = (-100002) := (by decide)
              have i_4_2 : 0 ≤ (iv 4 2).toInt ∧ (iv 4 2).toInt ≤ 8 := hI.1 4 2
              have hP9 : va_P (dC, dI) classes (WX h g ca (u2 iv 4 2 (iv 4 2)) lv (u2 (u2 fa 4 0 (fa 4 0)) 4 1 (fa 4 1)) la) s.heap := hP
              have hD9 : va_D A (WX h g ca (u2 iv 4 2 (iv 4 2)) lv (u2 (u2 fa 4 0 (fa 4 0)) 4 1 (fa 4 1)) la) := hD
              exact W.iret (v := (-100002)) hx hb hr (fun t ht9 hW => ⟨⟨(-100002), ((u2 iv 4 2 (iv 4 2)), lv, (u2 (u2 fa 4 0 (fa 4 0)) 4 1 (fa 4 1)), la), rfl, ⟨(fa 4 0), (fa 4 1), (iv 4 2), (hI.1 4 2), (show ((((-100002) : Int32).toInt = -100002 ∧ ¬ (1 ≤ (a).toInt ∧ (a).toInt ≤ (b).toInt ∧ (b).toInt ≤ 9999 ∧ 1 ≤ (d).toInt ∧ (d).toInt ≤ (k).toInt ∧ (k).toInt ≤ 9999) ∧ ((iv 4 2) : Int32).toInt = (iv 4 2).toInt) ∨ (((-100002) : Int32).toInt = -100004 ∧ (1 ≤ (a).toInt ∧ (a).toInt ≤ (b).toInt ∧ (b).toInt ≤ 9999 ∧ 1 ≤ (d).toInt ∧ (d).toInt ≤ (k).toInt ∧ (k).toInt ≤ 9999) ∧ 8 ≤ (iv 4 2).toInt ∧ ((iv 4 2) : Int32).toInt = (iv 4 2).toInt) ∨ ((1 ≤ (a).toInt ∧ (a).toInt ≤ (b).toInt ∧ (b).toInt ≤ 9999 ∧ 1 ≤ (d).toInt ∧ (d).toInt ≤ (k).toInt ∧ (k).toInt ≤ 9999) ∧ (iv 4 2).toInt < 8 ∧ ((-100002) : Int32).toInt = (iv 4 2).toInt + 1 ∧ ((iv 4 2) : Int32).toInt = (iv 4 2).toInt + 1)) from by omega), (show ((((-100002) : Int32).toInt < 0 ∧ ∀ j : Nat, (fa 4 0) j = (fa 4 0) j ∧ (fa 4 1) j = (fa 4 1) j) ∨ (0 ≤ ((-100002) : Int32).toInt ∧ (∀ j : Nat, j ≠ ((iv 4 2).toInt).toNat → (fa 4 0) j = (fa 4 0) j ∧ (fa 4 1) j = (fa 4 1) j) ∧ ((fa 4 0) ((iv 4 2).toInt).toNat).toInt = (a).toInt - (k).toInt ∧ ((fa 4 1) ((iv 4 2).toInt).toNat).toInt = (b).toInt - (d).toInt)) from Or.inl ⟨by omega, fun j => ⟨rfl, rfl⟩⟩), ⟨by decide, by decide⟩, rfl⟩, by rw [ht9]; exact hP9, hD9⟩, hS.F ht9⟩) hS.2.2 dX11_shared_50
            · exact absurd rfl c17
        · exact absurd c4 (by decide)
      · skip
        refine lv_if_ne (tgt := 25) hx hb dX11_shared_19 (by decide) (fun c18 => ?_) (fun c18 => ?_)
        · exact absurd rfl c18
        · skip
          refine lv_ldc hx hb hown (ht _ m_456) dX11_shared_22 ?_
          have : ((-100002) : Int32).toInt = (-100002) := (by decide)
          have i_4_2 : 0 ≤ (iv 4 2).toInt ∧ (iv 4 2).toInt ≤ 8 := hI.1 4 2
          have hP9 : va_P (dC, dI) classes (WX h g ca (u2 iv 4 2 (iv 4 2)) lv (u2 (u2 fa 4 0 (fa 4 0)) 4 1 (fa 4 1)) la) s.heap := hP
          have hD9 : va_D A (WX h g ca (u2 iv 4 2 (iv 4 2)) lv (u2 (u2 fa 4 0 (fa 4 0)) 4 1 (fa 4 1)) la) := hD
          exact W.iret (v := (-100002)) hx hb hr (fun t ht9 hW => ⟨⟨(-100002), ((u2 iv 4 2 (iv 4 2)), lv, (u2 (u2 fa 4 0 (fa 4 0)) 4 1 (fa 4 1)), la), rfl, ⟨(fa 4 0), (fa 4 1), (iv 4 2), (hI.1 4 2), (show ((((-100002) : Int32).toInt = -100002 ∧ ¬ (1 ≤ (a).toInt ∧ (a).toInt ≤ (b).toInt ∧ (b).toInt ≤ 9999 ∧ 1 ≤ (d).toInt ∧ (d).toInt ≤ (k).toInt ∧ (k).toInt ≤ 9999) ∧ ((iv 4 2) : Int32).toInt = (iv 4 2).toInt) ∨ (((-100002) : Int32).toInt = -100004 ∧ (1 ≤ (a).toInt ∧ (a).toInt ≤ (b).toInt ∧ (b).toInt ≤ 9999 ∧ 1 ≤ (d).toInt ∧ (d).toInt ≤ (k).toInt ∧ (k).toInt ≤ 9999) ∧ 8 ≤ (iv 4 2).toInt ∧ ((iv 4 2) : Int32).toInt = (iv 4 2).toInt) ∨ ((1 ≤ (a).toInt ∧ (a).toInt ≤ (b).toInt ∧ (b).toInt ≤ 9999 ∧ 1 ≤ (d).toInt ∧ (d).toInt ≤ (k).toInt ∧ (k).toInt ≤ 9999) ∧ (iv 4 2).toInt < 8 ∧ ((-100002) : Int32).toInt = (iv 4 2).toInt + 1 ∧ ((iv 4 2) : Int32).toInt = (iv 4 2).toInt + 1)) from by omega), (show ((((-100002) : Int32).toInt < 0 ∧ ∀ j : Nat, (fa 4 0) j = (fa 4 0) j ∧ (fa 4 1) j = (fa 4 1) j) ∨ (0 ≤ ((-100002) : Int32).toInt ∧ (∀ j : Nat, j ≠ ((iv 4 2).toInt).toNat → (fa 4 0) j = (fa 4 0) j ∧ (fa 4 1) j = (fa 4 1) j) ∧ ((fa 4 0) ((iv 4 2).toInt).toNat).toInt = (a).toInt - (k).toInt ∧ ((fa 4 1) ((iv 4 2).toInt).toNat).toInt = (b).toInt - (d).toInt)) from Or.inl ⟨by omega, fun j => ⟨rfl, rfl⟩⟩), ⟨by decide, by decide⟩, rfl⟩, by rw [ht9]; exact hP9, hD9⟩, hS.F ht9⟩) hS.2.2 dX11_shared_24
  · skip
    refine lv_if_eq (tgt := 22) hx hb dX11_shared_8 (by decide) (fun c19 => ?_) (fun c19 => ?_)
    · skip
      refine lv_ldc hx hb hown (ht _ m_456) dX11_shared_22 ?_
      have : ((-100002) : Int32).toInt = (-100002) := (by decide)
      have i_4_2 : 0 ≤ (iv 4 2).toInt ∧ (iv 4 2).toInt ≤ 8 := hI.1 4 2
      have hP9 : va_P (dC, dI) classes (WX h g ca (u2 iv 4 2 (iv 4 2)) lv (u2 (u2 fa 4 0 (fa 4 0)) 4 1 (fa 4 1)) la) s.heap := hP
      have hD9 : va_D A (WX h g ca (u2 iv 4 2 (iv 4 2)) lv (u2 (u2 fa 4 0 (fa 4 0)) 4 1 (fa 4 1)) la) := hD
      exact W.iret (v := (-100002)) hx hb hr (fun t ht9 hW => ⟨⟨(-100002), ((u2 iv 4 2 (iv 4 2)), lv, (u2 (u2 fa 4 0 (fa 4 0)) 4 1 (fa 4 1)), la), rfl, ⟨(fa 4 0), (fa 4 1), (iv 4 2), (hI.1 4 2), (show ((((-100002) : Int32).toInt = -100002 ∧ ¬ (1 ≤ (a).toInt ∧ (a).toInt ≤ (b).toInt ∧ (b).toInt ≤ 9999 ∧ 1 ≤ (d).toInt ∧ (d).toInt ≤ (k).toInt ∧ (k).toInt ≤ 9999) ∧ ((iv 4 2) : Int32).toInt = (iv 4 2).toInt) ∨ (((-100002) : Int32).toInt = -100004 ∧ (1 ≤ (a).toInt ∧ (a).toInt ≤ (b).toInt ∧ (b).toInt ≤ 9999 ∧ 1 ≤ (d).toInt ∧ (d).toInt ≤ (k).toInt ∧ (k).toInt ≤ 9999) ∧ 8 ≤ (iv 4 2).toInt ∧ ((iv 4 2) : Int32).toInt = (iv 4 2).toInt) ∨ ((1 ≤ (a).toInt ∧ (a).toInt ≤ (b).toInt ∧ (b).toInt ≤ 9999 ∧ 1 ≤ (d).toInt ∧ (d).toInt ≤ (k).toInt ∧ (k).toInt ≤ 9999) ∧ (iv 4 2).toInt < 8 ∧ ((-100002) : Int32).toInt = (iv 4 2).toInt + 1 ∧ ((iv 4 2) : Int32).toInt = (iv 4 2).toInt + 1)) from by omega), (show ((((-100002) : Int32).toInt < 0 ∧ ∀ j : Nat, (fa 4 0) j = (fa 4 0) j ∧ (fa 4 1) j = (fa 4 1) j) ∨ (0 ≤ ((-100002) : Int32).toInt ∧ (∀ j : Nat, j ≠ ((iv 4 2).toInt).toNat → (fa 4 0) j = (fa 4 0) j ∧ (fa 4 1) j = (fa 4 1) j) ∧ ((fa 4 0) ((iv 4 2).toInt).toNat).toInt = (a).toInt - (k).toInt ∧ ((fa 4 1) ((iv 4 2).toInt).toNat).toInt = (b).toInt - (d).toInt)) from Or.inl ⟨by omega, fun j => ⟨rfl, rfl⟩⟩), ⟨by decide, by decide⟩, rfl⟩, by rw [ht9]; exact hP9, hD9⟩, hS.F ht9⟩) hS.2.2 dX11_shared_24
    · exact absurd rfl c19
set_option maxHeartbeats 4000000 in
set_option maxRecDepth 100000 in
/-- X12_shared -/
theorem c_X12_shared_h (l : Launch) (dC : Nat → ClassId) (dI : Nat → Nat → Nat) (sz : Nat) (h : Nat) (g : Nat → Nat → Nat) (ca : Nat → Nat → ClassId) (iv : Nat → Nat → Int32) (lv : Nat → Nat → Int64) (fa : Nat → Nat → Nat → Int32) (la : Nat → Nat → Nat → Int64) (hI : IX iv fa) (a : Int32) (b : Int32) (d : Int32) (k : Int32) : Met l yX12_shared (wc yX12_shared cX12_shared 5 (some .int)) ({ frames := 1, cells := 0, slots := 0, locals := 25 } : Room) (pW (dC, dI) classes (WM h g ca iv lv fa la) (TM ca) sz [.ref h, .int a, .int b, .int d, .int k]) (va_Qi (fun r (u : SS) => ∃ (na_12_63 : Nat → Int32) (na_12_64 : Nat → Int32) (ni_12_62 : Int32), inb (bI 12 62) ni_12_62 ∧ (((r.toInt = -100002 ∧ ¬ (1 ≤ a.toInt ∧ a.toInt ≤ b.toInt ∧ b.toInt ≤ 9999 ∧ 1 ≤ d.toInt ∧ d.toInt ≤ k.toInt ∧ k.toInt ≤ 9999) ∧ (ni_12_62).toInt = (iv 12 62).toInt) ∨ (r.toInt = -100004 ∧ (1 ≤ a.toInt ∧ a.toInt ≤ b.toInt ∧ b.toInt ≤ 9999 ∧ 1 ≤ d.toInt ∧ d.toInt ≤ k.toInt ∧ k.toInt ≤ 9999) ∧ 8 ≤ (iv 12 62).toInt ∧ (ni_12_62).toInt = (iv 12 62).toInt) ∨ ((1 ≤ a.toInt ∧ a.toInt ≤ b.toInt ∧ b.toInt ≤ 9999 ∧ 1 ≤ d.toInt ∧ d.toInt ≤ k.toInt ∧ k.toInt ≤ 9999) ∧ (iv 12 62).toInt < 8 ∧ r.toInt = (iv 12 62).toInt + 1 ∧ (ni_12_62).toInt = (iv 12 62).toInt + 1))) ∧ (((r.toInt < 0 ∧ ∀ j : Nat, na_12_63 j = (fa 12 63) j ∧ na_12_64 j = (fa 12 64) j) ∨ (0 ≤ r.toInt ∧ (∀ j : Nat, j ≠ ((iv 12 62).toInt).toNat → na_12_63 j = (fa 12 63) j ∧ na_12_64 j = (fa 12 64) j) ∧ (na_12_63 ((iv 12 62).toInt).toNat).toInt = a.toInt - k.toInt ∧ (na_12_64 ((iv 12 62).toInt).toNat).toInt = b.toInt - d.toInt))) ∧ ((-100004) ≤ r.toInt ∧ r.toInt ≤ 8) ∧ u = ((u2 iv 12 62 ni_12_62), lv, (u2 (u2 fa 12 63 na_12_63) 12 64 na_12_64), la)) (bM (dC, dI) h g ca (va_A (WM h g ca iv lv fa la) sz)) (va_A (WM h g ca iv lv fa la) sz)) 0 0 (va_A (WM h g ca iv lv fa la) sz) := by
  refine Met.ofW (cc := cX12_shared) (maxL := 5) (ret := (some .int)) (by decide) rfl ?_
  intro p e s m args below meth c s₁ B hml hv
  obtain ⟨rfl, hsz, hP, hK, hD0⟩ := hv
  have hx := B.exec
  have hb := B.bytes
  have hr := B.returns
  have ht := tb_tl (atoms_spec (ws := wc yX12_shared cX12_shared 5 (some .int)) B.pre)
  have hown : s.vm.findClass RX12 = some m.cls := findClass_of_methodNamed B.named
  have hlocks := B.notSynchronized
  subst hsz
  have hD := hD0.self (sz := s.heap.size)
  generalize hAe : va_A (WM h g ca iv lv fa la) s.heap.size = A at hD ⊢
  have hA : ∀ q : Nat, s.heap.size ≤ q → A q := fun q h => by rw [← hAe]; exact Or.inr h
  have hS : va_S A s.heap s.heap [] := va_S.rf
  have hl := lv_entry [.ref h, .int a, .int b, .int d, .int k] (n := 5) (Nat.le_of_ble_eq_true rfl)
  rw [lg_entry_eq]
  generalize (lg_sl [.ref h, .int a, .int b, .int d, .int k] ++ List.replicate (5 - (lg_sl [.ref h, .int a, .int b, .int d, .int k]).length) Slot.unset).toArray = ls at hl ⊢
  have hl : lv_has ls 5 [(0, .ref h), (1, .int a), (2, .int b), (3, .int d), (4, .int k)] := hl
  refine lv_iload_n hx hb dX12_shared_0 rfl (lv_at hl 1 rfl) ?_
  refine lv_i2l (v := (a.toInt64)) hx hb dX12_shared_1 rfl ?_
  refine lv_lconst (v := 1) hx hb dX12_shared_2 (by decide) ?_
  refine lv_iload_n hx hb dX12_shared_3 rfl (lv_at hl 2 rfl) ?_
  refine lv_i2l (v := (b.toInt64)) hx hb dX12_shared_4 rfl ?_
  refine vp_callSi (W.runS (As := [.long (a.toInt64), .long 1, .long (b.toInt64)]) (rest := []) ⟨hx, hb, hml, hown, ht⟩ (c_X12_in l dC dI (a.toInt64) 1 (b.toInt64) (a.toInt) (1) (b.toInt) ((Int32.toInt_toInt64 a).trans rfl) (by decide : (1 : Int64).toInt = 1) ((Int32.toInt_toInt64 b).trans rfl)) (kS 3 ht m_1370 m_1371 m_89 m_1372 rfl rfl hd_X12_in_v ⟨Nat.le_of_ble_eq_true rfl, Nat.le_of_ble_eq_true rfl⟩) (sR noP (hK.sub (tys' := []) [] rfl)) rfl rfl hl.1 rfl (lv_room (Nat.le_of_ble_eq_true rfl)) dX12_shared_5 ⟨Nat.le_of_ble_eq_true rfl, Nat.le_of_ble_eq_true rfl⟩) (fun r1 hr1 => ?_)
  rcases hr1 with ⟨rfl, fr1⟩ | ⟨rfl, fr1⟩
  · skip
    refine lv_if_eq (tgt := 38) hx hb dX12_shared_8 (by decide) (fun c2 => ?_) (fun c2 => ?_)
    · exact absurd c2 (by decide)
    · skip
      refine lv_iload_n hx hb dX12_shared_11 rfl (lv_at hl 2 rfl) ?_
      refine lv_sipush (v := 9999) hx hb dX12_shared_12 (by decide) ?_
      refine lv_icmp_gt (tgt := 38) hx hb dX12_shared_15 (by decide) (fun c3 => ?_) (fun c3 => ?_)
      · have fc3 := z_lt (by decide : (9999 : Int32).toInt = 9999) (rfl : (b).toInt = _) c3
        refine lv_ldc hx hb hown (ht _ m_1373) dX12_shared_38 ?_
        have : ((-100002) : Int32).toInt = (-100002) := (by decide)
        have i_12_62 : 0 ≤ (iv 12 62).toInt ∧ (iv 12 62).toInt ≤ 8 := hI.1 12 62
        have hP9 : va_P (dC, dI) classes (WM h g ca (u2 iv 12 62 (iv 12 62)) lv (u2 (u2 fa 12 63 (fa 12 63)) 12 64 (fa 12 64)) la) s.heap := hP
        have hD9 : va_D A (WM h g ca (u2 iv 12 62 (iv 12 62)) lv (u2 (u2 fa 12 63 (fa 12 63)) 12 64 (fa 12 64)) la) := hD
        exact W.iret (v := (-100002)) hx hb hr (fun t ht9 hW => ⟨⟨(-100002), ((u2 iv 12 62 (iv 12 62)), lv, (u2 (u2 fa 12 63 (fa 12 63)) 12 64 (fa 12 64)), la), rfl, ⟨(fa 12 63), (fa 12 64), (iv 12 62), (hI.1 12 62), (show ((((-100002) : Int32).toInt = -100002 ∧ ¬ (1 ≤ (a).toInt ∧ (a).toInt ≤ (b).toInt ∧ (b).toInt ≤ 9999 ∧ 1 ≤ (d).toInt ∧ (d).toInt ≤ (k).toInt ∧ (k).toInt ≤ 9999) ∧ ((iv 12 62) : Int32).toInt = (iv 12 62).toInt) ∨ (((-100002) : Int32).toInt = -100004 ∧ (1 ≤ (a).toInt ∧ (a).toInt ≤ (b).toInt ∧ (b).toInt ≤ 9999 ∧ 1 ≤ (d).toInt ∧ (d).toInt ≤ (k).toInt ∧ (k).toInt ≤ 9999) ∧ 8 ≤ (iv 12 62).toInt ∧ ((iv 12 62) : Int32).toInt = (iv 12 62).toInt) ∨ ((1 ≤ (a).toInt ∧ (a).toInt ≤ (b).toInt ∧ (b).toInt ≤ 9999 ∧ 1 ≤ (d).toInt ∧ (d).toInt ≤ (k).toInt ∧ (k).toInt ≤ 9999) ∧ (iv 12 62).toInt < 8 ∧ ((-100002) : Int32).toInt = (iv 12 62).toInt + 1 ∧ ((iv 12 62) : Int32).toInt = (iv 12 62).toInt + 1)) from by omega), (show ((((-100002) : Int32).toInt < 0 ∧ ∀ j : Nat, (fa 12 63) j = (fa 12 63) j ∧ (fa 12 64) j = (fa 12 64) j) ∨ (0 ≤ ((-100002) : Int32).toInt ∧ (∀ j : Nat, j ≠ ((iv 12 62).toInt).toNat → (fa 12 63) j = (fa 12 63) j ∧ (fa 12 64) j = (fa 12 64) j) ∧ ((fa 12 63) ((iv 12 62).toInt).toNat).toInt = (a).toInt - (k).toInt ∧ ((fa 12 64) ((iv 12 62).toInt).toNat).toInt = (b).toInt - (d).toInt)) from Or.inl ⟨by omega, fun j => ⟨rfl, rfl⟩⟩), ⟨by decide, by decide⟩, rfl⟩, by rw [ht9]; exact hP9, hD9⟩, hS.F ht9⟩) hS.2.2 dX12_shared_40
      · have fc3 := z_nlt (by decide : (9999 : Int32).toInt = 9999) (rfl : (b).toInt = _) c3
        refine lv_iload_n hx hb dX12_shared_18 rfl (lv_at hl 3 rfl) ?_
        refine lv_i2l (v := (d.toInt64)) hx hb dX12_shared_19 rfl ?_
        refine lv_lconst (v := 1) hx hb dX12_shared_20 (by decide) ?_
        refine lv_iload hx hb dX12_shared_21 (lv_at hl 4 rfl) ?_
        refine lv_i2l (v := (k.toInt64)) hx hb dX12_shared_23 rfl ?_
        refine vp_callSi (W.runS (As := [.long (d.toInt64), .long 1, .long (k.toInt64)]) (rest := []) ⟨hx, hb, hml, hown, ht⟩ (c_X12_in l dC dI (d.toInt64) 1 (k.toInt64) (d.toInt) (1) (k.toInt) ((Int32.toInt_toInt64 d).trans rfl) (by decide : (1 : Int64).toInt = 1) ((Int32.toInt_toInt64 k).trans rfl)) (kS 3 ht m_1370 m_1371 m_89 m_1372 rfl rfl hd_X12_in_v ⟨Nat.le_of_ble_eq_true rfl, Nat.le_of_ble_eq_true rfl⟩) (sR noP (hK.sub (tys' := []) [] rfl)) rfl rfl hl.1 rfl (lv_room (Nat.le_of_ble_eq_true rfl)) dX12_shared_24 ⟨Nat.le_of_ble_eq_true rfl, Nat.le_of_ble_eq_true rfl⟩) (fun r4 hr4 => ?_)
        rcases hr4 with ⟨rfl, fr4⟩ | ⟨rfl, fr4⟩
        · skip
          refine lv_if_eq (tgt := 38) hx hb dX12_shared_27 (by decide) (fun c5 => ?_) (fun c5 => ?_)
          · exact absurd c5 (by decide)
          · skip
            refine lv_iload hx hb dX12_shared_30 (lv_at hl 4 rfl) ?_
            refine lv_sipush (v := 9999) hx hb dX12_shared_32 (by decide) ?_
            refine lv_icmp_le (tgt := 41) hx hb dX12_shared_35 (by decide) (fun c6 => ?_) (fun c6 => ?_)
            · have fc6 := z_le (rfl : (k).toInt = _) (by decide : (9999 : Int32).toInt = 9999) c6
              refine lv_aload_n hx hb dX12_shared_41 rfl (lv_at hl 0 rfl) ?_
              have i_12_62 : 0 ≤ (iv 12 62).toInt ∧ (iv 12 62).toInt ≤ 8 := hI.1 12 62
              refine gM_12_62 hx hb ht hown hK hP m_1201 (v := (iv 12 62)) rfl dX12_shared_42 ?_
              refine lv_bipush (v := 8) hx hb dX12_shared_45 (by decide) ?_
              refine lv_icmp_ne (tgt := 53) hx hb dX12_shared_47 (by decide) (fun c7 => ?_) (fun c7 => ?_)
              · have fc7 := z_ne (rfl : ((iv 12 62)).toInt = _) (by decide : (8 : Int32).toInt = 8) c7
                refine lv_aload_n hx hb dX12_shared_53 rfl (lv_at hl 0 rfl) ?_
                refine gM_12_63 hx hb ht hown hK hP m_1202 dX12_shared_54 ?_
                refine lv_aload_n hx hb dX12_shared_57 rfl (lv_at hl 0 rfl) ?_
                refine gM_12_62 hx hb ht hown hK hP m_1201 (v := (iv 12 62)) rfl dX12_shared_58 ?_
                refine lv_iload_n hx hb dX12_shared_61 rfl (lv_at hl 1 rfl) ?_
                refine lv_iload hx hb dX12_shared_62 (lv_at hl 4 rfl) ?_
                refine lv_isub hx hb dX12_shared_64 ?_
                refine lv_topi (fun v8 ev8 => ?_)
                have tv8 := z_sub ev8 (rfl : (a).toInt = _) (rfl : (k).toInt = _) (by omega) (by omega)
                refine tM_12_63 hx hb hK hP hD hS (f0 := (fa 12 63)) rfl (i := (iv 12 62)) (x := v8) (vp_in_iff.mpr ⟨by omega, by omega⟩) dX12_shared_65 (fun f9 ef9 H locs hP hD hS => ?_)
                have hf9 : ∀ j, inb (bA 12 63 j) (f9 j) := fun j => full_i _
                refine lv_aload_n hx hb dX12_shared_66 rfl (lv_at hl 0 rfl) ?_
                refine gM_12_64 hx hb ht hown hK hP m_1203 dX12_shared_67 ?_
                refine lv_aload_n hx hb dX12_shared_70 rfl (lv_at hl 0 rfl) ?_
                refine gM_12_62 hx hb ht hown hK hP m_1201 (v := (iv 12 62)) rfl dX12_shared_71 ?_
                refine lv_iload_n hx hb dX12_shared_74 rfl (lv_at hl 2 rfl) ?_
                refine lv_iload_n hx hb dX12_shared_75 rfl (lv_at hl 3 rfl) ?_
                refine lv_isub hx hb dX12_shared_76 ?_
                refine lv_topi (fun v10 ev10 => ?_)
                have tv10 := z_sub ev10 (rfl : (b).toInt = _) (rfl : (d).toInt = _) (by omega) (by omega)
                refine tM_12_64 hx hb hK hP hD hS (f0 := (fa 12 64)) rfl (i := (iv 12 62)) (x := v10) (vp_in_iff.mpr ⟨by omega, by omega⟩) dX12_shared_77 (fun f11 ef11 H locs hP hD hS => ?_)
                have hf11 : ∀ j, inb (bA 12 64 j) (f11 j) := fun j => full_i _
                refine lv_aload_n hx hb dX12_shared_78 rfl (lv_at hl 0 rfl) ?_
                refine lv_dup hx hb dX12_shared_79 rfl ?_
                refine gM_12_62 hx hb ht hown hK hP m_1201 (v := (iv 12 62)) rfl dX12_shared_80 ?_
                refine lv_iconst (v := 1) hx hb dX12_shared_83 (by decide) ?_
                refine lv_iadd hx hb dX12_shared_84 ?_
                refine lv_topi (fun v12 ev12 => ?_)
                have tv12 := z_add ev12 (rfl : ((iv 12 62)).toInt = _) (by decide : (1 : Int32).toInt = 1) (by omega) (by omega)
                refine pM_12_62 (v := v12) hx hb ht hown hK hP hD hS m_1201 dX12_shared_85 (fun H locs hP hD hS => ?_)
                refine lv_aload_n hx hb dX12_shared_88 rfl (lv_at hl 0 rfl) ?_
                refine gM_12_62 hx hb ht hown hK hP m_1201 (v := v12) rfl dX12_shared_89 ?_
                have hP9 : va_P (dC, dI) classes (WM h g ca (u2 iv 12 62 v12) lv (u2 (u2 fa 12 63 f9) 12 64 f11) la) H := hP
                have hD9 : va_D A (WM h g ca (u2 iv 12 62 v12) lv (u2 (u2 fa 12 63 f9) 12 64 f11) la) := hD
                exact W.iret (v := v12) hx hb hr (fun t ht9 hW => ⟨⟨v12, ((u2 iv 12 62 v12), lv, (u2 (u2 fa 12 63 f9) 12 64 f11), la), rfl, ⟨f9, f11, v12, (show inb (0, 8) v12 from ⟨by omega, by omega⟩), (show (((v12 : Int32).toInt = -100002 ∧ ¬ (1 ≤ (a).toInt ∧ (a).toInt ≤ (b).toInt ∧ (b).toInt ≤ 9999 ∧ 1 ≤ (d).toInt ∧ (d).toInt ≤ (k).toInt ∧ (k).toInt ≤ 9999) ∧ (v12 : Int32).toInt = (iv 12 62).toInt) ∨ ((v12 : Int32).toInt = -100004 ∧ (1 ≤ (a).toInt ∧ (a).toInt ≤ (b).toInt ∧ (b).toInt ≤ 9999 ∧ 1 ≤ (d).toInt ∧ (d).toInt ≤ (k).toInt ∧ (k).toInt ≤ 9999) ∧ 8 ≤ (iv 12 62).toInt ∧ (v12 : Int32).toInt = (iv 12 62).toInt) ∨ ((1 ≤ (a).toInt ∧ (a).toInt ≤ (b).toInt ∧ (b).toInt ≤ 9999 ∧ 1 ≤ (d).toInt ∧ (d).toInt ≤ (k).toInt ∧ (k).toInt ≤ 9999) ∧ (iv 12 62).toInt < 8 ∧ (v12 : Int32).toInt = (iv 12 62).toInt + 1 ∧ (v12 : Int32).toInt = (iv 12 62).toInt + 1)) from by omega), (show (((v12 : Int32).toInt < 0 ∧ ∀ j : Nat, f9 j = (fa 12 63) j ∧ f11 j = (fa 12 64) j) ∨ (0 ≤ (v12 : Int32).toInt ∧ (∀ j : Nat, j ≠ ((iv 12 62).toInt).toNat → f9 j = (fa 12 63) j ∧ f11 j = (fa 12 64) j) ∧ (f9 ((iv 12 62).toInt).toNat).toInt = (a).toInt - (k).toInt ∧ (f11 ((iv 12 62).toInt).toNat).toInt = (b).toInt - (d).toInt)) from Or.inr ⟨by omega, (fun j hj => ⟨(by rw [ef9, upd_ne (show j ≠ (iv 12 62).toNatClampNeg from hj)]), (by rw [ef11, upd_ne (show j ≠ (iv 12 62).toNatClampNeg from hj)])⟩), (by have h9 : f9 ((iv 12 62).toInt).toNat = v8 := (by rw [ef9]; exact upd_eq); rw [h9]; omega), (by have h9 : f11 ((iv 12 62).toInt).toNat = v10 := (by rw [ef11]; exact upd_eq); rw [h9]; omega)⟩), ⟨by omega, by omega⟩, rfl⟩, by rw [ht9]; exact hP9, hD9⟩, hS.F ht9⟩) hS.2.2 dX12_shared_92
              · have fc7 := z_eq (rfl : ((iv 12 62)).toInt = _) (by decide : (8 : Int32).toInt = 8) c7
                refine lv_ldc hx hb hown (ht _ m_1380) dX12_shared_50 ?_
                have : ((-100004) : Int32).toInt = (-100004) := (by decide)
                have hP9 : va_P (dC, dI) classes (WM h g ca (u2 iv 12 62 (iv 12 62)) lv (u2 (u2 fa 12 63 (fa 12 63)) 12 64 (fa 12 64)) la) s.heap := hP
                have hD9 : va_D A (WM h g ca (u2 iv 12 62 (iv 12 62)) lv (u2 (u2 fa 12 63 (fa 12 63)) 12 64 (fa 12 64)) la) := hD
                exact W.iret (v := (-100004)) hx hb hr (fun t ht9 hW => ⟨⟨(-100004), ((u2 iv 12 62 (iv 12 62)), lv, (u2 (u2 fa 12 63 (fa 12 63)) 12 64 (fa 12 64)), la), rfl, ⟨(fa 12 63), (fa 12 64), (iv 12 62), (hI.1 12 62), (show ((((-100004) : Int32).toInt = -100002 ∧ ¬ (1 ≤ (a).toInt ∧ (a).toInt ≤ (b).toInt ∧ (b).toInt ≤ 9999 ∧ 1 ≤ (d).toInt ∧ (d).toInt ≤ (k).toInt ∧ (k).toInt ≤ 9999) ∧ ((iv 12 62) : Int32).toInt = (iv 12 62).toInt) ∨ (((-100004) : Int32).toInt = -100004 ∧ (1 ≤ (a).toInt ∧ (a).toInt ≤ (b).toInt ∧ (b).toInt ≤ 9999 ∧ 1 ≤ (d).toInt ∧ (d).toInt ≤ (k).toInt ∧ (k).toInt ≤ 9999) ∧ 8 ≤ (iv 12 62).toInt ∧ ((iv 12 62) : Int32).toInt = (iv 12 62).toInt) ∨ ((1 ≤ (a).toInt ∧ (a).toInt ≤ (b).toInt ∧ (b).toInt ≤ 9999 ∧ 1 ≤ (d).toInt ∧ (d).toInt ≤ (k).toInt ∧ (k).toInt ≤ 9999) ∧ (iv 12 62).toInt < 8 ∧ ((-100004) : Int32).toInt = (iv 12 62).toInt + 1 ∧ ((iv 12 62) : Int32).toInt = (iv 12 62).toInt + 1)) from by omega), (show ((((-100004) : Int32).toInt < 0 ∧ ∀ j : Nat, (fa 12 63) j = (fa 12 63) j ∧ (fa 12 64) j = (fa 12 64) j) ∨ (0 ≤ ((-100004) : Int32).toInt ∧ (∀ j : Nat, j ≠ ((iv 12 62).toInt).toNat → (fa 12 63) j = (fa 12 63) j ∧ (fa 12 64) j = (fa 12 64) j) ∧ ((fa 12 63) ((iv 12 62).toInt).toNat).toInt = (a).toInt - (k).toInt ∧ ((fa 12 64) ((iv 12 62).toInt).toNat).toInt = (b).toInt - (d).toInt)) from Or.inl ⟨by omega, fun j => ⟨rfl, rfl⟩⟩), ⟨by decide, by decide⟩, rfl⟩, by rw [ht9]; exact hP9, hD9⟩, hS.F ht9⟩) hS.2.2 dX12_shared_52
            · have fc6 := z_nle (rfl : (k).toInt = _) (by decide : (9999 : Int32).toInt = 9999) c6
              refine lv_ldc hx hb hown (ht _ m_1373) dX12_shared_38 ?_
              have : ((-100002) : Int32).toInt = (-100002) := (by decide)
              have i_12_62 : 0 ≤ (iv 12 62).toInt ∧ (iv 12 62).toInt ≤ 8 := hI.1 12 62
              have hP9 : va_P (dC, dI) classes (WM h g ca (u2 iv 12 62 (iv 12 62)) lv (u2 (u2 fa 12 63 (fa 12 63)) 12 64 (fa 12 64)) la) s.heap := hP
              have hD9 : va_D A (WM h g ca (u2 iv 12 62 (iv 12 62)) lv (u2 (u2 fa 12 63 (fa 12 63)) 12 64 (fa 12 64)) la) := hD
              exact W.iret (v := (-100002)) hx hb hr (fun t ht9 hW => ⟨⟨(-100002), ((u2 iv 12 62 (iv 12 62)), lv, (u2 (u2 fa 12 63 (fa 12 63)) 12 64 (fa 12 64)), la), rfl, ⟨(fa 12 63), (fa 12 64), (iv 12 62), (hI.1 12 62), (show ((((-100002) : Int32).toInt = -100002 ∧ ¬ (1 ≤ (a).toInt ∧ (a).toInt ≤ (b).toInt ∧ (b).toInt ≤ 9999 ∧ 1 ≤ (d).toInt ∧ (d).toInt ≤ (k).toInt ∧ (k).toInt ≤ 9999) ∧ ((iv 12 62) : Int32).toInt = (iv 12 62).toInt) ∨ (((-100002) : Int32).toInt = -100004 ∧ (1 ≤ (a).toInt ∧ (a).toInt ≤ (b).toInt ∧ (b).toInt ≤ 9999 ∧ 1 ≤ (d).toInt ∧ (d).toInt ≤ (k).toInt ∧ (k).toInt ≤ 9999) ∧ 8 ≤ (iv 12 62).toInt ∧ ((iv 12 62) : Int32).toInt = (iv 12 62).toInt) ∨ ((1 ≤ (a).toInt ∧ (a).toInt ≤ (b).toInt ∧ (b).toInt ≤ 9999 ∧ 1 ≤ (d).toInt ∧ (d).toInt ≤ (k).toInt ∧ (k).toInt ≤ 9999) ∧ (iv 12 62).toInt < 8 ∧ ((-100002) : Int32).toInt = (iv 12 62).toInt + 1 ∧ ((iv 12 62) : Int32).toInt = (iv 12 62).toInt + 1)) from by omega), (show ((((-100002) : Int32).toInt < 0 ∧ ∀ j : Nat, (fa 12 63) j = (fa 12 63) j ∧ (fa 12 64) j = (fa 12 64) j) ∨ (0 ≤ ((-100002) : Int32).toInt ∧ (∀ j : Nat, j ≠ ((iv 12 62).toInt).toNat → (fa 12 63) j = (fa 12 63) j ∧ (fa 12 64) j = (fa 12 64) j) ∧ ((fa 12 63) ((iv 12 62).toInt).toNat).toInt = (a).toInt - (k).toInt ∧ ((fa 12 64) ((iv 12 62).toInt).toNat).toInt = (b).toInt - (d).toInt)) from Or.inl ⟨by omega, fun j => ⟨rfl, rfl⟩⟩), ⟨by decide, by decide⟩, rfl⟩, by rw [ht9]; exact hP9, hD9⟩, hS.F ht9⟩) hS.2.2 dX12_shared_40
        · skip
          refine lv_if_eq (tgt := 38) hx hb dX12_shared_27 (by decide) (fun c13 => ?_) (fun c13 => ?_)
          · skip
            refine lv_ldc hx hb hown (ht _ m_1373) dX12_shared_38 ?_
            have : ((-100002) : Int32).toInt = (-100002) := (by decide)
            have i_12_62 : 0 ≤ (iv 12 62).toInt ∧ (iv 12 62).toInt ≤ 8 := hI.1 12 62
            have hP9 : va_P (dC, dI) classes (WM h g ca (u2 iv 12 62 (iv 12 62)) lv (u2 (u2 fa 12 63 (fa 12 63)) 12 64 (fa 12 64)) la) s.heap := hP
            have hD9 : va_D A (WM h g ca (u2 iv 12 62 (iv 12 62)) lv (u2 (u2 fa 12 63 (fa 12 63)) 12 64 (fa 12 64)) la) := hD
            exact W.iret (v := (-100002)) hx hb hr (fun t ht9 hW => ⟨⟨(-100002), ((u2 iv 12 62 (iv 12 62)), lv, (u2 (u2 fa 12 63 (fa 12 63)) 12 64 (fa 12 64)), la), rfl, ⟨(fa 12 63), (fa 12 64), (iv 12 62), (hI.1 12 62), (show ((((-100002) : Int32).toInt = -100002 ∧ ¬ (1 ≤ (a).toInt ∧ (a).toInt ≤ (b).toInt ∧ (b).toInt ≤ 9999 ∧ 1 ≤ (d).toInt ∧ (d).toInt ≤ (k).toInt ∧ (k).toInt ≤ 9999) ∧ ((iv 12 62) : Int32).toInt = (iv 12 62).toInt) ∨ (((-100002) : Int32).toInt = -100004 ∧ (1 ≤ (a).toInt ∧ (a).toInt ≤ (b).toInt ∧ (b).toInt ≤ 9999 ∧ 1 ≤ (d).toInt ∧ (d).toInt ≤ (k).toInt ∧ (k).toInt ≤ 9999) ∧ 8 ≤ (iv 12 62).toInt ∧ ((iv 12 62) : Int32).toInt = (iv 12 62).toInt) ∨ ((1 ≤ (a).toInt ∧ (a).toInt ≤ (b).toInt ∧ (b).toInt ≤ 9999 ∧ 1 ≤ (d).toInt ∧ (d).toInt ≤ (k).toInt ∧ (k).toInt ≤ 9999) ∧ (iv 12 62).toInt < 8 ∧ ((-100002) : Int32).toInt = (iv 12 62).toInt + 1 ∧ ((iv 12 62) : Int32).toInt = (iv 12 62).toInt + 1)) from by omega), (show ((((-100002) : Int32).toInt < 0 ∧ ∀ j : Nat, (fa 12 63) j = (fa 12 63) j ∧ (fa 12 64) j = (fa 12 64) j) ∨ (0 ≤ ((-100002) : Int32).toInt ∧ (∀ j : Nat, j ≠ ((iv 12 62).toInt).toNat → (fa 12 63) j = (fa 12 63) j ∧ (fa 12 64) j = (fa 12 64) j) ∧ ((fa 12 63) ((iv 12 62).toInt).toNat).toInt = (a).toInt - (k).toInt ∧ ((fa 12 64) ((iv 12 62).toInt).toNat).toInt = (b).toInt - (d).toInt)) from Or.inl ⟨by omega, fun j => ⟨rfl, rfl⟩⟩), ⟨by decide, by decide⟩, rfl⟩, by rw [ht9]; exact hP9, hD9⟩, hS.F ht9⟩) hS.2.2 dX12_shared_40
          · exact absurd rfl c13
  · skip
    refine lv_if_eq (tgt := 38) hx hb dX12_shared_8 (by decide) (fun c14 => ?_) (fun c14 => ?_)
    · skip
      refine lv_ldc hx hb hown (ht _ m_1373) dX12_shared_38 ?_
      have : ((-100002) : Int32).toInt = (-100002) := (by decide)
      have i_12_62 : 0 ≤ (iv 12 62).toInt ∧ (iv 12 62).toInt ≤ 8 := hI.1 12 62
      have hP9 : va_P (dC, dI) classes (WM h g ca (u2 iv 12 62 (iv 12 62)) lv (u2 (u2 fa 12 63 (fa 12 63)) 12 64 (fa 12 64)) la) s.heap := hP
      have hD9 : va_D A (WM h g ca (u2 iv 12 62 (iv 12 62)) lv (u2 (u2 fa 12 63 (fa 12 63)) 12 64 (fa 12 64)) la) := hD
      exact W.iret (v := (-100002)) hx hb hr (fun t ht9 hW => ⟨⟨(-100002), ((u2 iv 12 62 (iv 12 62)), lv, (u2 (u2 fa 12 63 (fa 12 63)) 12 64 (fa 12 64)), la), rfl, ⟨(fa 12 63), (fa 12 64), (iv 12 62), (hI.1 12 62), (show ((((-100002) : Int32).toInt = -100002 ∧ ¬ (1 ≤ (a).toInt ∧ (a).toInt ≤ (b).toInt ∧ (b).toInt ≤ 9999 ∧ 1 ≤ (d).toInt ∧ (d).toInt ≤ (k).toInt ∧ (k).toInt ≤ 9999) ∧ ((iv 12 62) : Int32).toInt = (iv 12 62).toInt) ∨ (((-100002) : Int32).toInt = -100004 ∧ (1 ≤ (a).toInt ∧ (a).toInt ≤ (b).toInt ∧ (b).toInt ≤ 9999 ∧ 1 ≤ (d).toInt ∧ (d).toInt ≤ (k).toInt ∧ (k).toInt ≤ 9999) ∧ 8 ≤ (iv 12 62).toInt ∧ ((iv 12 62) : Int32).toInt = (iv 12 62).toInt) ∨ ((1 ≤ (a).toInt ∧ (a).toInt ≤ (b).toInt ∧ (b).toInt ≤ 9999 ∧ 1 ≤ (d).toInt ∧ (d).toInt ≤ (k).toInt ∧ (k).toInt ≤ 9999) ∧ (iv 12 62).toInt < 8 ∧ ((-100002) : Int32).toInt = (iv 12 62).toInt + 1 ∧ ((iv 12 62) : Int32).toInt = (iv 12 62).toInt + 1)) from by omega), (show ((((-100002) : Int32).toInt < 0 ∧ ∀ j : Nat, (fa 12 63) j = (fa 12 63) j ∧ (fa 12 64) j = (fa 12 64) j) ∨ (0 ≤ ((-100002) : Int32).toInt ∧ (∀ j : Nat, j ≠ ((iv 12 62).toInt).toNat → (fa 12 63) j = (fa 12 63) j ∧ (fa 12 64) j = (fa 12 64) j) ∧ ((fa 12 63) ((iv 12 62).toInt).toNat).toInt = (a).toInt - (k).toInt ∧ ((fa 12 64) ((iv 12 62).toInt).toNat).toInt = (b).toInt - (d).toInt)) from Or.inl ⟨by omega, fun j => ⟨rfl, rfl⟩⟩), ⟨by decide, by decide⟩, rfl⟩, by rw [ht9]; exact hP9, hD9⟩, hS.F ht9⟩) hS.2.2 dX12_shared_40
    · exact absurd rfl c14
set_option maxHeartbeats 4000000 in
set_option maxRecDepth 100000 in
/-- J6_bitCount_0f7a4 -/
theorem c_J6_bitCount_0f7a4_h (l : Launch) (dC : Nat → ClassId) (dI : Nat → Nat → Nat) (a : Int32) (h_a : 0 ≤ a.toInt ∧ a.toInt ≤ 255) : Met l yJ6_bitCount_0f7a4 (wc yJ6_bitCount_0f7a4 cJ6_bitCount_0f7a4 1 (some .int)) ({ frames := 0, cells := 0, slots := 0, locals := 0 } : Room) (pR (dC, dI) classes [] [] [.int a]) (vp_Si (fun r => (True) ∧ (r.toInt = pcI a.toInt))) 0 0 (fun _ => False) := by
  refine Met.ofW (cc := cJ6_bitCount_0f7a4) (maxL := 1) (ret := (some .int)) (by decide) rfl ?_
  intro p e s m args below meth c s₁ B hml hv
  obtain ⟨rfl, hP, hK⟩ := hv
  have hx := B.exec
  have hb := B.bytes
  have hr := B.returns
  have ht := tb_tl (atoms_spec (ws := wc yJ6_bitCount_0f7a4 cJ6_bitCount_0f7a4 1 (some .int)) B.pre)
  have hown : s.vm.findClass RJ6 = some m.cls := findClass_of_methodNamed B.named
  have hlocks := B.notSynchronized
  have hl := lv_entry [.int a] (n := 1) (Nat.le_of_ble_eq_true rfl)
  rw [lg_entry_eq]
  generalize (lg_sl [.int a] ++ List.replicate (1 - (lg_sl [.int a]).length) Slot.unset).toArray = ls at hl ⊢
  have hl : lv_has ls 1 [(0, .int a)] := hl
  refine lv_iload_n hx hb dJ6_bitCount_0f7a4_0 rfl (lv_at hl 0 rfl) ?_
  refine lv_iload_n hx hb dJ6_bitCount_0f7a4_1 rfl (lv_at hl 0 rfl) ?_
  refine lv_iconst (v := 1) hx hb dJ6_bitCount_0f7a4_2 (by decide) ?_
  obtain ⟨v1, ev1⟩ : ∃ y : Int32, ((a : Int32).toUInt32 >>> ((1 : Int32).toUInt32 &&& Int32.toUInt32 31)).toInt32 = y := ⟨_, rfl⟩
  refine lv_iushr (v := v1) hx hb dJ6_bitCount_0f7a4_3 ev1 ?_
  refine lv_ldcw hx hb hown (ht _ m_1053) dJ6_bitCount_0f7a4_4 ?_
  refine lv_iand hx hb dJ6_bitCount_0f7a4_7 ?_
  refine lv_topi (fun v2 ev2 => ?_)
  refine lv_isub hx hb dJ6_bitCount_0f7a4_8 ?_
  refine lv_topi (fun v3 ev3 => ?_)
  refine lv_istore_n (lv' := [(0, .int v3)]) hx hb dJ6_bitCount_0f7a4_9 rfl hl (by decide) rfl (fun ls hl => ?_)
  refine lv_iload_n hx hb dJ6_bitCount_0f7a4_10 rfl (lv_at hl 0 rfl) ?_
  refine lv_ldcw hx hb hown (ht _ m_1054) dJ6_bitCount_0f7a4_11 ?_
  refine lv_iand hx hb dJ6_bitCount_0f7a4_14 ?_
  refine lv_topi (fun v4 ev4 => ?_)
  refine lv_iload_n hx hb dJ6_bitCount_0f7a4_15 rfl (lv_at hl 0 rfl) ?_
  refine lv_iconst (v := 2) hx hb dJ6_bitCount_0f7a4_16 (by decide) ?_
  obtain ⟨v5, ev5⟩ : ∃ y : Int32, ((v3 : Int32).toUInt32 >>> ((2 : Int32).toUInt32 &&& Int32.toUInt32 31)).toInt32 = y := ⟨_, rfl⟩
  refine lv_iushr (v := v5) hx hb dJ6_bitCount_0f7a4_17 ev5 ?_
  refine lv_ldcw hx hb hown (ht _ m_1054) dJ6_bitCount_0f7a4_18 ?_
  refine lv_iand hx hb dJ6_bitCount_0f7a4_21 ?_
  refine lv_topi (fun v6 ev6 => ?_)
  refine lv_iadd hx hb dJ6_bitCount_0f7a4_22 ?_
  refine lv_topi (fun v7 ev7 => ?_)
  refine lv_istore_n (lv' := [(0, .int v7)]) hx hb dJ6_bitCount_0f7a4_23 rfl hl (by decide) rfl (fun ls hl => ?_)
  refine lv_iload_n hx hb dJ6_bitCount_0f7a4_24 rfl (lv_at hl 0 rfl) ?_
  refine lv_iload_n hx hb dJ6_bitCount_0f7a4_25 rfl (lv_at hl 0 rfl) ?_
  refine lv_iconst (v := 4) hx hb dJ6_bitCount_0f7a4_26 (by decide) ?_
  obtain ⟨v8, ev8⟩ : ∃ y : Int32, ((v7 : Int32).toUInt32 >>> ((4 : Int32).toUInt32 &&& Int32.toUInt32 31)).toInt32 = y := ⟨_, rfl⟩
  refine lv_iushr (v := v8) hx hb dJ6_bitCount_0f7a4_27 ev8 ?_
  refine lv_iadd hx hb dJ6_bitCount_0f7a4_28 ?_
  refine lv_topi (fun v9 ev9 => ?_)
  refine lv_ldcw hx hb hown (ht _ m_1055) dJ6_bitCount_0f7a4_29 ?_
  refine lv_iand hx hb dJ6_bitCount_0f7a4_32 ?_
  refine lv_topi (fun v10 ev10 => ?_)
  refine lv_istore_n (lv' := [(0, .int v10)]) hx hb dJ6_bitCount_0f7a4_33 rfl hl (by decide) rfl (fun ls hl => ?_)
  refine lv_iload_n hx hb dJ6_bitCount_0f7a4_34 rfl (lv_at hl 0 rfl) ?_
  refine lv_iload_n hx hb dJ6_bitCount_0f7a4_35 rfl (lv_at hl 0 rfl) ?_
  refine lv_bipush (v := 8) hx hb dJ6_bitCount_0f7a4_36 (by decide) ?_
  obtain ⟨v11, ev11⟩ : ∃ y : Int32, ((v10 : Int32).toUInt32 >>> ((8 : Int32).toUInt32 &&& Int32.toUInt32 31)).toInt32 = y := ⟨_, rfl⟩
  refine lv_iushr (v := v11) hx hb dJ6_bitCount_0f7a4_38 ev11 ?_
  refine lv_iadd hx hb dJ6_bitCount_0f7a4_39 ?_
  refine lv_topi (fun v12 ev12 => ?_)
  refine lv_istore_n (lv' := [(0, .int v12)]) hx hb dJ6_bitCount_0f7a4_40 rfl hl (by decide) rfl (fun ls hl => ?_)
  refine lv_iload_n hx hb dJ6_bitCount_0f7a4_41 rfl (lv_at hl 0 rfl) ?_
  refine lv_iload_n hx hb dJ6_bitCount_0f7a4_42 rfl (lv_at hl 0 rfl) ?_
  refine lv_bipush (v := 16) hx hb dJ6_bitCount_0f7a4_43 (by decide) ?_
  obtain ⟨v13, ev13⟩ : ∃ y : Int32, ((v12 : Int32).toUInt32 >>> ((16 : Int32).toUInt32 &&& Int32.toUInt32 31)).toInt32 = y := ⟨_, rfl⟩
  refine lv_iushr (v := v13) hx hb dJ6_bitCount_0f7a4_45 ev13 ?_
  refine lv_iadd hx hb dJ6_bitCount_0f7a4_46 ?_
  refine lv_topi (fun v14 ev14 => ?_)
  refine lv_istore_n (lv' := [(0, .int v14)]) hx hb dJ6_bitCount_0f7a4_47 rfl hl (by decide) rfl (fun ls hl => ?_)
  refine lv_iload_n hx hb dJ6_bitCount_0f7a4_48 rfl (lv_at hl 0 rfl) ?_
  refine lv_bipush (v := 63) hx hb dJ6_bitCount_0f7a4_49 (by decide) ?_
  refine lv_iand hx hb dJ6_bitCount_0f7a4_51 ?_
  refine lv_topi (fun v15 ev15 => ?_)
  exact W.iret (v := v15) hx hb hr (fun t ht9 hW => ⟨v15, rfl, ⟨trivial, (show (v15 : Int32).toInt = pcI (a).toInt from (by subst_vars; exact bc_a ⟨by omega, by omega⟩))⟩, ht9⟩) (fun q hq => by cases hq) dJ6_bitCount_0f7a4_52
set_option maxHeartbeats 4000000 in
set_option maxRecDepth 100000 in
/-- X12_ones -/
theorem c_X12_ones_h (l : Launch) (dC : Nat → ClassId) (dI : Nat → Nat → Nat) (a : Int32) (h_a : 0 ≤ a.toInt ∧ a.toInt ≤ 255) : Met l yX12_ones (wc yX12_ones cX12_ones 3 (some .int)) ({ frames := 0, cells := 0, slots := 0, locals := 0 } : Room) (pR (dC, dI) classes [] [] [.int a]) (vp_Si (fun r => (True) ∧ (r.toInt = pcI a.toInt))) 0 0 (fun _ => False) := by
  refine Met.ofW (cc := cX12_ones) (maxL := 3) (ret := (some .int)) (by decide) rfl ?_
  intro p e s m args below meth c s₁ B hml hv
  obtain ⟨rfl, hP, hK⟩ := hv
  have hx := B.exec
  have hb := B.bytes
  have hr := B.returns
  have ht := tb_tl (atoms_spec (ws := wc yX12_ones cX12_ones 3 (some .int)) B.pre)
  have hown : s.vm.findClass RX12 = some m.cls := findClass_of_methodNamed B.named
  have hlocks := B.notSynchronized
  have hl := lv_entry [.int a] (n := 3) (Nat.le_of_ble_eq_true rfl)
  rw [lg_entry_eq]
  generalize (lg_sl [.int a] ++ List.replicate (3 - (lg_sl [.int a]).length) Slot.unset).toArray = ls at hl ⊢
  have hl : lv_has ls 3 [(0, .int a)] := hl
  refine lv_iconst (v := 0) hx hb dX12_ones_0 (by decide) ?_
  refine lv_istore_n (lv' := [(1, .int 0), (0, .int a)]) hx hb dX12_ones_1 rfl hl (by decide) rfl (fun ls hl => ?_)
  refine lv_iconst (v := 0) hx hb dX12_ones_2 (by decide) ?_
  refine lv_istore_n (lv' := [(2, .int 0), (1, .int 0), (0, .int a)]) hx hb dX12_ones_3 rfl hl (by decide) rfl (fun ls hl => ?_)
  refine lv_iload_n hx hb dX12_ones_4 rfl (lv_at hl 0 rfl) ?_
  refine lv_bipush (v := 16) hx hb dX12_ones_5 (by decide) ?_
  refine lv_icmp_ge (tgt := 24) hx hb dX12_ones_7 (by decide) (fun c1 => ?_) (fun c1 => ?_)
  · exact absurd c1 (by decide)
  · skip
    refine lv_iload_n hx hb dX12_ones_10 rfl (lv_at hl 1 rfl) ?_
    refine lv_iload_n hx hb dX12_ones_11 rfl (lv_at hl 2 rfl) ?_
    refine lv_iload_n hx hb dX12_ones_12 rfl (lv_at hl 0 rfl) ?_
    refine lv_ishr hx hb dX12_ones_13 ?_
    refine lv_topi (fun v2 ev2 => ?_)
    refine lv_iconst (v := 1) hx hb dX12_ones_14 (by decide) ?_
    refine lv_iand hx hb dX12_ones_15 ?_
    refine lv_topi (fun v3 ev3 => ?_)
    refine lv_iadd hx hb dX12_ones_16 ?_
    refine lv_topi (fun v4 ev4 => ?_)
    obtain rfl : v3 = v4 := (ev4.trans (Int32.zero_add _)).symm
    refine lv_istore_n (lv' := [(1, .int v3), (2, .int 0), (0, .int a)]) hx hb dX12_ones_17 rfl hl (by decide) rfl (fun ls hl => ?_)
    refine lv_iinc (v := 1) (lv' := [(2, .int 1), (1, .int v3), (0, .int a)]) hx hb dX12_ones_18 hl (k := 1) rfl (by decide) (by decide) rfl (fun ls hl => ?_)
    refine lv_goto (tgt := 4) hx hb dX12_ones_21 (by decide) ?_
    refine lv_iload_n hx hb dX12_ones_4 rfl (lv_at hl 0 rfl) ?_
    refine lv_bipush (v := 16) hx hb dX12_ones_5 (by decide) ?_
    refine lv_icmp_ge (tgt := 24) hx hb dX12_ones_7 (by decide) (fun c5 => ?_) (fun c5 => ?_)
    · exact absurd c5 (by decide)
    · skip
      refine lv_iload_n hx hb dX12_ones_10 rfl (lv_at hl 1 rfl) ?_
      refine lv_iload_n hx hb dX12_ones_11 rfl (lv_at hl 2 rfl) ?_
      refine lv_iload_n hx hb dX12_ones_12 rfl (lv_at hl 0 rfl) ?_
      refine lv_ishr hx hb dX12_ones_13 ?_
      refine lv_topi (fun v6 ev6 => ?_)
      refine lv_iconst (v := 1) hx hb dX12_ones_14 (by decide) ?_
      refine lv_iand hx hb dX12_ones_15 ?_
      refine lv_topi (fun v7 ev7 => ?_)
      refine lv_iadd hx hb dX12_ones_16 ?_
      refine lv_topi (fun v8 ev8 => ?_)
      refine lv_istore_n (lv' := [(1, .int v8), (2, .int 1), (0, .int a)]) hx hb dX12_ones_17 rfl hl (by decide) rfl (fun ls hl => ?_)
      refine lv_iinc (v := 2) (lv' := [(2, .int 2), (1, .int v8), (0, .int a)]) hx hb dX12_ones_18 hl (k := 1) rfl (by decide) (by decide) rfl (fun ls hl => ?_)
      refine lv_goto (tgt := 4) hx hb dX12_ones_21 (by decide) ?_
      refine lv_iload_n hx hb dX12_ones_4 rfl (lv_at hl 0 rfl) ?_
      refine lv_bipush (v := 16) hx hb dX12_ones_5 (by decide) ?_
      refine lv_icmp_ge (tgt := 24) hx hb dX12_ones_7 (by decide) (fun c9 => ?_) (fun c9 => ?_)
      · exact absurd c9 (by decide)
      · skip
        refine lv_iload_n hx hb dX12_ones_10 rfl (lv_at hl 1 rfl) ?_
        refine lv_iload_n hx hb dX12_ones_11 rfl (lv_at hl 2 rfl) ?_
        refine lv_iload_n hx hb dX12_ones_12 rfl (lv_at hl 0 rfl) ?_
        refine lv_ishr hx hb dX12_ones_13 ?_
        refine lv_topi (fun v10 ev10 => ?_)
        refine lv_iconst (v := 1) hx hb dX12_ones_14 (by decide) ?_
        refine lv_iand hx hb dX12_ones_15 ?_
        refine lv_topi (fun v11 ev11 => ?_)
        refine lv_iadd hx hb dX12_ones_16 ?_
        refine lv_topi (fun v12 ev12 => ?_)
        refine lv_istore_n (lv' := [(1, .int v12), (2, .int 2), (0, .int a)]) hx hb dX12_ones_17 rfl hl (by decide) rfl (fun ls hl => ?_)
        refine lv_iinc (v := 3) (lv' := [(2, .int 3), (1, .int v12), (0, .int a)]) hx hb dX12_ones_18 hl (k := 1) rfl (by decide) (by decide) rfl (fun ls hl => ?_)
        refine lv_goto (tgt := 4) hx hb dX12_ones_21 (by decide) ?_
        refine lv_iload_n hx hb dX12_ones_4 rfl (lv_at hl 0 rfl) ?_
        refine lv_bipush (v := 16) hx hb dX12_ones_5 (by decide) ?_
        refine lv_icmp_ge (tgt := 24) hx hb dX12_ones_7 (by decide) (fun c13 => ?_) (fun c13 => ?_)
        · exact absurd c13 (by decide)
        · skip
          refine lv_iload_n hx hb dX12_ones_10 rfl (lv_at hl 1 rfl) ?_
          refine lv_iload_n hx hb dX12_ones_11 rfl (lv_at hl 2 rfl) ?_
          refine lv_iload_n hx hb dX12_ones_12 rfl (lv_at hl 0 rfl) ?_
          refine lv_ishr hx hb dX12_ones_13 ?_
          refine lv_topi (fun v14 ev14 => ?_)
          refine lv_iconst (v := 1) hx hb dX12_ones_14 (by decide) ?_
          refine lv_iand hx hb dX12_ones_15 ?_
          refine lv_topi (fun v15 ev15 => ?_)
          refine lv_iadd hx hb dX12_ones_16 ?_
          refine lv_topi (fun v16 ev16 => ?_)
          refine lv_istore_n (lv' := [(1, .int v16), (2, .int 3), (0, .int a)]) hx hb dX12_ones_17 rfl hl (by decide) rfl (fun ls hl => ?_)
          refine lv_iinc (v := 4) (lv' := [(2, .int 4), (1, .int v16), (0, .int a)]) hx hb dX12_ones_18 hl (k := 1) rfl (by decide) (by decide) rfl (fun ls hl => ?_)
          refine lv_goto (tgt := 4) hx hb dX12_ones_21 (by decide) ?_
          refine lv_iload_n hx hb dX12_ones_4 rfl (lv_at hl 0 rfl) ?_
          refine lv_bipush (v := 16) hx hb dX12_ones_5 (by decide) ?_
          refine lv_icmp_ge (tgt := 24) hx hb dX12_ones_7 (by decide) (fun c17 => ?_) (fun c17 => ?_)
          · exact absurd c17 (by decide)
          · skip
            refine lv_iload_n hx hb dX12_ones_10 rfl (lv_at hl 1 rfl) ?_
            refine lv_iload_n hx hb dX12_ones_11 rfl (lv_at hl 2 rfl) ?_
            refine lv_iload_n hx hb dX12_ones_12 rfl (lv_at hl 0 rfl) ?_
            refine lv_ishr hx hb dX12_ones_13 ?_
            refine lv_topi (fun v18 ev18 => ?_)
            refine lv_iconst (v := 1) hx hb dX12_ones_14 (by decide) ?_
            refine lv_iand hx hb dX12_ones_15 ?_
            refine lv_topi (fun v19 ev19 => ?_)
            refine lv_iadd hx hb dX12_ones_16 ?_
            refine lv_topi (fun v20 ev20 => ?_)
            refine lv_istore_n (lv' := [(1, .int v20), (2, .int 4), (0, .int a)]) hx hb dX12_ones_17 rfl hl (by decide) rfl (fun ls hl => ?_)
            refine lv_iinc (v := 5) (lv' := [(2, .int 5), (1, .int v20), (0, .int a)]) hx hb dX12_ones_18 hl (k := 1) rfl (by decide) (by decide) rfl (fun ls hl => ?_)
            refine lv_goto (tgt := 4) hx hb dX12_ones_21 (by decide) ?_
            refine lv_iload_n hx hb dX12_ones_4 rfl (lv_at hl 0 rfl) ?_
            refine lv_bipush (v := 16) hx hb dX12_ones_5 (by decide) ?_
            refine lv_icmp_ge (tgt := 24) hx hb dX12_ones_7 (by decide) (fun c21 => ?_) (fun c21 => ?_)
            · exact absurd c21 (by decide)
            · skip
              refine lv_iload_n hx hb dX12_ones_10 rfl (lv_at hl 1 rfl) ?_
              refine lv_iload_n hx hb dX12_ones_11 rfl (lv_at hl 2 rfl) ?_
              refine lv_iload_n hx hb dX12_ones_12 rfl (lv_at hl 0 rfl) ?_
              refine lv_ishr hx hb dX12_ones_13 ?_
              refine lv_topi (fun v22 ev22 => ?_)
              refine lv_iconst (v := 1) hx hb dX12_ones_14 (by decide) ?_
              refine lv_iand hx hb dX12_ones_15 ?_
              refine lv_topi (fun v23 ev23 => ?_)
              refine lv_iadd hx hb dX12_ones_16 ?_
              refine lv_topi (fun v24 ev24 => ?_)
              refine lv_istore_n (lv' := [(1, .int v24), (2, .int 5), (0, .int a)]) hx hb dX12_ones_17 rfl hl (by decide) rfl (fun ls hl => ?_)
              refine lv_iinc (v := 6) (lv' := [(2, .int 6), (1, .int v24), (0, .int a)]) hx hb dX12_ones_18 hl (k := 1) rfl (by decide) (by decide) rfl (fun ls hl => ?_)
              refine lv_goto (tgt := 4) hx hb dX12_ones_21 (by decide) ?_
              refine lv_iload_n hx hb dX12_ones_4 rfl (lv_at hl 0 rfl) ?_
              refine lv_bipush (v := 16) hx hb dX12_ones_5 (by decide) ?_
              refine lv_icmp_ge (tgt := 24) hx hb dX12_ones_7 (by decide) (fun c25 => ?_) (fun c25 => ?_)
              · exact absurd c25 (by decide)
              · skip
                refine lv_iload_n hx hb dX12_ones_10 rfl (lv_at hl 1 rfl) ?_
                refine lv_iload_n hx hb dX12_ones_11 rfl (lv_at hl 2 rfl) ?_
                refine lv_iload_n hx hb dX12_ones_12 rfl (lv_at hl 0 rfl) ?_
                refine lv_ishr hx hb dX12_ones_13 ?_
                refine lv_topi (fun v26 ev26 => ?_)
                refine lv_iconst (v := 1) hx hb dX12_ones_14 (by decide) ?_
                refine lv_iand hx hb dX12_ones_15 ?_
                refine lv_topi (fun v27 ev27 => ?_)
                refine lv_iadd hx hb dX12_ones_16 ?_
                refine lv_topi (fun v28 ev28 => ?_)
                refine lv_istore_n (lv' := [(1, .int v28), (2, .int 6), (0, .int a)]) hx hb dX12_ones_17 rfl hl (by decide) rfl (fun ls hl => ?_)
                refine lv_iinc (v := 7) (lv' := [(2, .int 7), (1, .int v28), (0, .int a)]) hx hb dX12_ones_18 hl (k := 1) rfl (by decide) (by decide) rfl (fun ls hl => ?_)
                refine lv_goto (tgt := 4) hx hb dX12_ones_21 (by decide) ?_
                refine lv_iload_n hx hb dX12_ones_4 rfl (lv_at hl 0 rfl) ?_
                refine lv_bipush (v := 16) hx hb dX12_ones_5 (by decide) ?_
                refine lv_icmp_ge (tgt := 24) hx hb dX12_ones_7 (by decide) (fun c29 => ?_) (fun c29 => ?_)
                · exact absurd c29 (by decide)
                · skip
                  refine lv_iload_n hx hb dX12_ones_10 rfl (lv_at hl 1 rfl) ?_
                  refine lv_iload_n hx hb dX12_ones_11 rfl (lv_at hl 2 rfl) ?_
                  refine lv_iload_n hx hb dX12_ones_12 rfl (lv_at hl 0 rfl) ?_
                  refine lv_ishr hx hb dX12_ones_13 ?_
                  refine lv_topi (fun v30 ev30 => ?_)
                  refine lv_iconst (v := 1) hx hb dX12_ones_14 (by decide) ?_
                  refine lv_iand hx hb dX12_ones_15 ?_
                  refine lv_topi (fun v31 ev31 => ?_)
                  refine lv_iadd hx hb dX12_ones_16 ?_
                  refine lv_topi (fun v32 ev32 => ?_)
                  refine lv_istore_n (lv' := [(1, .int v32), (2, .int 7), (0, .int a)]) hx hb dX12_ones_17 rfl hl (by decide) rfl (fun ls hl => ?_)
                  refine lv_iinc (v := 8) (lv' := [(2, .int 8), (1, .int v32), (0, .int a)]) hx hb dX12_ones_18 hl (k := 1) rfl (by decide) (by decide) rfl (fun ls hl => ?_)
                  refine lv_goto (tgt := 4) hx hb dX12_ones_21 (by decide) ?_
                  refine lv_iload_n hx hb dX12_ones_4 rfl (lv_at hl 0 rfl) ?_
                  refine lv_bipush (v := 16) hx hb dX12_ones_5 (by decide) ?_
                  refine lv_icmp_ge (tgt := 24) hx hb dX12_ones_7 (by decide) (fun c33 => ?_) (fun c33 => ?_)
                  · exact absurd c33 (by decide)
                  · skip
                    refine lv_iload_n hx hb dX12_ones_10 rfl (lv_at hl 1 rfl) ?_
                    refine lv_iload_n hx hb dX12_ones_11 rfl (lv_at hl 2 rfl) ?_
                    refine lv_iload_n hx hb dX12_ones_12 rfl (lv_at hl 0 rfl) ?_
                    refine lv_ishr hx hb dX12_ones_13 ?_
                    refine lv_topi (fun v34 ev34 => ?_)
                    refine lv_iconst (v := 1) hx hb dX12_ones_14 (by decide) ?_
                    refine lv_iand hx hb dX12_ones_15 ?_
                    refine lv_topi (fun v35 ev35 => ?_)
                    refine lv_iadd hx hb dX12_ones_16 ?_
                    refine lv_topi (fun v36 ev36 => ?_)
                    refine lv_istore_n (lv' := [(1, .int v36), (2, .int 8), (0, .int a)]) hx hb dX12_ones_17 rfl hl (by decide) rfl (fun ls hl => ?_)
                    refine lv_iinc (v := 9) (lv' := [(2, .int 9), (1, .int v36), (0, .int a)]) hx hb dX12_ones_18 hl (k := 1) rfl (by decide) (by decide) rfl (fun ls hl => ?_)
                    refine lv_goto (tgt := 4) hx hb dX12_ones_21 (by decide) ?_
                    refine lv_iload_n hx hb dX12_ones_4 rfl (lv_at hl 0 rfl) ?_
                    refine lv_bipush (v := 16) hx hb dX12_ones_5 (by decide) ?_
                    refine lv_icmp_ge (tgt := 24) hx hb dX12_ones_7 (by decide) (fun c37 => ?_) (fun c37 => ?_)
                    · exact absurd c37 (by decide)
                    · skip
                      refine lv_iload_n hx hb dX12_ones_10 rfl (lv_at hl 1 rfl) ?_
                      refine lv_iload_n hx hb dX12_ones_11 rfl (lv_at hl 2 rfl) ?_
                      refine lv_iload_n hx hb dX12_ones_12 rfl (lv_at hl 0 rfl) ?_
                      refine lv_ishr hx hb dX12_ones_13 ?_
                      refine lv_topi (fun v38 ev38 => ?_)
                      refine lv_iconst (v := 1) hx hb dX12_ones_14 (by decide) ?_
                      refine lv_iand hx hb dX12_ones_15 ?_
                      refine lv_topi (fun v39 ev39 => ?_)
                      refine lv_iadd hx hb dX12_ones_16 ?_
                      refine lv_topi (fun v40 ev40 => ?_)
                      refine lv_istore_n (lv' := [(1, .int v40), (2, .int 9), (0, .int a)]) hx hb dX12_ones_17 rfl hl (by decide) rfl (fun ls hl => ?_)
                      refine lv_iinc (v := 10) (lv' := [(2, .int 10), (1, .int v40), (0, .int a)]) hx hb dX12_ones_18 hl (k := 1) rfl (by decide) (by decide) rfl (fun ls hl => ?_)
                      refine lv_goto (tgt := 4) hx hb dX12_ones_21 (by decide) ?_
                      refine lv_iload_n hx hb dX12_ones_4 rfl (lv_at hl 0 rfl) ?_
                      refine lv_bipush (v := 16) hx hb dX12_ones_5 (by decide) ?_
                      refine lv_icmp_ge (tgt := 24) hx hb dX12_ones_7 (by decide) (fun c41 => ?_) (fun c41 => ?_)
                      · exact absurd c41 (by decide)
                      · skip
                        refine lv_iload_n hx hb dX12_ones_10 rfl (lv_at hl 1 rfl) ?_
                        refine lv_iload_n hx hb dX12_ones_11 rfl (lv_at hl 2 rfl) ?_
                        refine lv_iload_n hx hb dX12_ones_12 rfl (lv_at hl 0 rfl) ?_
                        refine lv_ishr hx hb dX12_ones_13 ?_
                        refine lv_topi (fun v42 ev42 => ?_)
                        refine lv_iconst (v := 1) hx hb dX12_ones_14 (by decide) ?_
                        refine lv_iand hx hb dX12_ones_15 ?_
                        refine lv_topi (fun v43 ev43 => ?_)
                        refine lv_iadd hx hb dX12_ones_16 ?_
                        refine lv_topi (fun v44 ev44 => ?_)
                        refine lv_istore_n (lv' := [(1, .int v44), (2, .int 10), (0, .int a)]) hx hb dX12_ones_17 rfl hl (by decide) rfl (fun ls hl => ?_)
                        refine lv_iinc (v := 11) (lv' := [(2, .int 11), (1, .int v44), (0, .int a)]) hx hb dX12_ones_18 hl (k := 1) rfl (by decide) (by decide) rfl (fun ls hl => ?_)
                        refine lv_goto (tgt := 4) hx hb dX12_ones_21 (by decide) ?_
                        refine lv_iload_n hx hb dX12_ones_4 rfl (lv_at hl 0 rfl) ?_
                        refine lv_bipush (v := 16) hx hb dX12_ones_5 (by decide) ?_
                        refine lv_icmp_ge (tgt := 24) hx hb dX12_ones_7 (by decide) (fun c45 => ?_) (fun c45 => ?_)
                        · exact absurd c45 (by decide)
                        · skip
                          refine lv_iload_n hx hb dX12_ones_10 rfl (lv_at hl 1 rfl) ?_
                          refine lv_iload_n hx hb dX12_ones_11 rfl (lv_at hl 2 rfl) ?_
                          refine lv_iload_n hx hb dX12_ones_12 rfl (lv_at hl 0 rfl) ?_
                          refine lv_ishr hx hb dX12_ones_13 ?_
                          refine lv_topi (fun v46 ev46 => ?_)
                          refine lv_iconst (v := 1) hx hb dX12_ones_14 (by decide) ?_
                          refine lv_iand hx hb dX12_ones_15 ?_
                          refine lv_topi (fun v47 ev47 => ?_)
                          refine lv_iadd hx hb dX12_ones_16 ?_
                          refine lv_topi (fun v48 ev48 => ?_)
                          refine lv_istore_n (lv' := [(1, .int v48), (2, .int 11), (0, .int a)]) hx hb dX12_ones_17 rfl hl (by decide) rfl (fun ls hl => ?_)
                          refine lv_iinc (v := 12) (lv' := [(2, .int 12), (1, .int v48), (0, .int a)]) hx hb dX12_ones_18 hl (k := 1) rfl (by decide) (by decide) rfl (fun ls hl => ?_)
                          refine lv_goto (tgt := 4) hx hb dX12_ones_21 (by decide) ?_
                          refine lv_iload_n hx hb dX12_ones_4 rfl (lv_at hl 0 rfl) ?_
                          refine lv_bipush (v := 16) hx hb dX12_ones_5 (by decide) ?_
                          refine lv_icmp_ge (tgt := 24) hx hb dX12_ones_7 (by decide) (fun c49 => ?_) (fun c49 => ?_)
                          · exact absurd c49 (by decide)
                          · skip
                            refine lv_iload_n hx hb dX12_ones_10 rfl (lv_at hl 1 rfl) ?_
                            refine lv_iload_n hx hb dX12_ones_11 rfl (lv_at hl 2 rfl) ?_
                            refine lv_iload_n hx hb dX12_ones_12 rfl (lv_at hl 0 rfl) ?_
                            refine lv_ishr hx hb dX12_ones_13 ?_
                            refine lv_topi (fun v50 ev50 => ?_)
                            refine lv_iconst (v := 1) hx hb dX12_ones_14 (by decide) ?_
                            refine lv_iand hx hb dX12_ones_15 ?_
                            refine lv_topi (fun v51 ev51 => ?_)
                            refine lv_iadd hx hb dX12_ones_16 ?_
                            refine lv_topi (fun v52 ev52 => ?_)
                            refine lv_istore_n (lv' := [(1, .int v52), (2, .int 12), (0, .int a)]) hx hb dX12_ones_17 rfl hl (by decide) rfl (fun ls hl => ?_)
                            refine lv_iinc (v := 13) (lv' := [(2, .int 13), (1, .int v52), (0, .int a)]) hx hb dX12_ones_18 hl (k := 1) rfl (by decide) (by decide) rfl (fun ls hl => ?_)
                            refine lv_goto (tgt := 4) hx hb dX12_ones_21 (by decide) ?_
                            refine lv_iload_n hx hb dX12_ones_4 rfl (lv_at hl 0 rfl) ?_
                            refine lv_bipush (v := 16) hx hb dX12_ones_5 (by decide) ?_
                            refine lv_icmp_ge (tgt := 24) hx hb dX12_ones_7 (by decide) (fun c53 => ?_) (fun c53 => ?_)
                            · exact absurd c53 (by decide)
                            · skip
                              refine lv_iload_n hx hb dX12_ones_10 rfl (lv_at hl 1 rfl) ?_
                              refine lv_iload_n hx hb dX12_ones_11 rfl (lv_at hl 2 rfl) ?_
                              refine lv_iload_n hx hb dX12_ones_12 rfl (lv_at hl 0 rfl) ?_
                              refine lv_ishr hx hb dX12_ones_13 ?_
                              refine lv_topi (fun v54 ev54 => ?_)
                              refine lv_iconst (v := 1) hx hb dX12_ones_14 (by decide) ?_
                              refine lv_iand hx hb dX12_ones_15 ?_
                              refine lv_topi (fun v55 ev55 => ?_)
                              refine lv_iadd hx hb dX12_ones_16 ?_
                              refine lv_topi (fun v56 ev56 => ?_)
                              refine lv_istore_n (lv' := [(1, .int v56), (2, .int 13), (0, .int a)]) hx hb dX12_ones_17 rfl hl (by decide) rfl (fun ls hl => ?_)
                              refine lv_iinc (v := 14) (lv' := [(2, .int 14), (1, .int v56), (0, .int a)]) hx hb dX12_ones_18 hl (k := 1) rfl (by decide) (by decide) rfl (fun ls hl => ?_)
                              refine lv_goto (tgt := 4) hx hb dX12_ones_21 (by decide) ?_
                              refine lv_iload_n hx hb dX12_ones_4 rfl (lv_at hl 0 rfl) ?_
                              refine lv_bipush (v := 16) hx hb dX12_ones_5 (by decide) ?_
                              refine lv_icmp_ge (tgt := 24) hx hb dX12_ones_7 (by decide) (fun c57 => ?_) (fun c57 => ?_)
                              · exact absurd c57 (by decide)
                              · skip
                                refine lv_iload_n hx hb dX12_ones_10 rfl (lv_at hl 1 rfl) ?_
                                refine lv_iload_n hx hb dX12_ones_11 rfl (lv_at hl 2 rfl) ?_
                                refine lv_iload_n hx hb dX12_ones_12 rfl (lv_at hl 0 rfl) ?_
                                refine lv_ishr hx hb dX12_ones_13 ?_
                                refine lv_topi (fun v58 ev58 => ?_)
                                refine lv_iconst (v := 1) hx hb dX12_ones_14 (by decide) ?_
                                refine lv_iand hx hb dX12_ones_15 ?_
                                refine lv_topi (fun v59 ev59 => ?_)
                                refine lv_iadd hx hb dX12_ones_16 ?_
                                refine lv_topi (fun v60 ev60 => ?_)
                                refine lv_istore_n (lv' := [(1, .int v60), (2, .int 14), (0, .int a)]) hx hb dX12_ones_17 rfl hl (by decide) rfl (fun ls hl => ?_)
                                refine lv_iinc (v := 15) (lv' := [(2, .int 15), (1, .int v60), (0, .int a)]) hx hb dX12_ones_18 hl (k := 1) rfl (by decide) (by decide) rfl (fun ls hl => ?_)
                                refine lv_goto (tgt := 4) hx hb dX12_ones_21 (by decide) ?_
                                refine lv_iload_n hx hb dX12_ones_4 rfl (lv_at hl 0 rfl) ?_
                                refine lv_bipush (v := 16) hx hb dX12_ones_5 (by decide) ?_
                                refine lv_icmp_ge (tgt := 24) hx hb dX12_ones_7 (by decide) (fun c61 => ?_) (fun c61 => ?_)
                                · exact absurd c61 (by decide)
                                · skip
                                  refine lv_iload_n hx hb dX12_ones_10 rfl (lv_at hl 1 rfl) ?_
                                  refine lv_iload_n hx hb dX12_ones_11 rfl (lv_at hl 2 rfl) ?_
                                  refine lv_iload_n hx hb dX12_ones_12 rfl (lv_at hl 0 rfl) ?_
                                  refine lv_ishr hx hb dX12_ones_13 ?_
                                  refine lv_topi (fun v62 ev62 => ?_)
                                  refine lv_iconst (v := 1) hx hb dX12_ones_14 (by decide) ?_
                                  refine lv_iand hx hb dX12_ones_15 ?_
                                  refine lv_topi (fun v63 ev63 => ?_)
                                  refine lv_iadd hx hb dX12_ones_16 ?_
                                  refine lv_topi (fun v64 ev64 => ?_)
                                  refine lv_istore_n (lv' := [(1, .int v64), (2, .int 15), (0, .int a)]) hx hb dX12_ones_17 rfl hl (by decide) rfl (fun ls hl => ?_)
                                  refine lv_iinc (v := 16) (lv' := [(2, .int 16), (1, .int v64), (0, .int a)]) hx hb dX12_ones_18 hl (k := 1) rfl (by decide) (by decide) rfl (fun ls hl => ?_)
                                  refine lv_goto (tgt := 4) hx hb dX12_ones_21 (by decide) ?_
                                  refine lv_iload_n hx hb dX12_ones_4 rfl (lv_at hl 0 rfl) ?_
                                  refine lv_bipush (v := 16) hx hb dX12_ones_5 (by decide) ?_
                                  refine lv_icmp_ge (tgt := 24) hx hb dX12_ones_7 (by decide) (fun c65 => ?_) (fun c65 => ?_)
                                  · skip
                                    refine lv_iload_n hx hb dX12_ones_24 rfl (lv_at hl 1 rfl) ?_
                                    exact W.iret (v := v64) hx hb hr (fun t ht9 hW => ⟨v64, rfl, ⟨trivial, (show (v64 : Int32).toInt = pcI (a).toInt from (by subst_vars; exact on_a ⟨by omega, by omega⟩))⟩, ht9⟩) (fun q hq => by cases hq) dX12_ones_25
                                  · exact absurd c65 (by decide)
set_option maxHeartbeats 4000000 in
set_option maxRecDepth 100000 in
/-- X4_leastWithout -/
theorem c_X4_leastWithout_h (l : Launch) (dC : Nat → ClassId) (dI : Nat → Nat → Nat) (h : Nat) (g : Nat → Nat → Nat) (ca : Nat → Nat → ClassId) (iv : Nat → Nat → Int32) (lv : Nat → Nat → Int64) (fa : Nat → Nat → Nat → Int32) (la : Nat → Nat → Nat → Int64) (hI : IX iv fa) (a : Int32) : Met l yX4_leastWithout (wc yX4_leastWithout cX4_leastWithout 4 (some .int)) ({ frames := 1, cells := 0, slots := 0, locals := 40 } : Room) (pR (dC, dI) classes (WX h g ca iv lv fa la) (TX ca) [.ref (g 11 8), .int a]) (vp_Si (fun r => (True) ∧ (Mx (fa 4 0) a.toInt ((iv 4 2).toInt).toNat (-1000000) r.toInt))) 0 0 (fun _ => False) := by
  refine Met.ofW (cc := cX4_leastWithout) (maxL := 4) (ret := (some .int)) (by decide) rfl ?_
  intro p e s m args below meth c s₁ B hml hv
  obtain ⟨rfl, hP, hK⟩ := hv
  have hx := B.exec
  have hb := B.bytes
  have hr := B.returns
  have ht := tb_tl (atoms_spec (ws := wc yX4_leastWithout cX4_leastWithout 4 (some .int)) B.pre)
  have hown : s.vm.findClass RX4 = some m.cls := findClass_of_methodNamed B.named
  have hlocks := B.notSynchronized
  have hl := lv_entry [.ref (g 11 8), .int a] (n := 4) (Nat.le_of_ble_eq_true rfl)
  rw [lg_entry_eq]
  generalize (lg_sl [.ref (g 11 8), .int a] ++ List.replicate (4 - (lg_sl [.ref (g 11 8), .int a]).length) Slot.unset).toArray = ls at hl ⊢
  have hl : lv_has ls 4 [(0, .ref (g 11 8)), (1, .int a)] := hl
  refine lv_ldc hx hb hown (ht _ m_1060) dX4_leastWithout_0 ?_
  refine lv_istore_n (lv' := [(2, .int (-1000000)), (0, .ref (g 11 8)), (1, .int a)]) hx hb dX4_leastWithout_2 rfl hl (by decide) rfl (fun ls hl => ?_)
  refine lv_iconst (v := 0) hx hb dX4_leastWithout_3 (by decide) ?_
  refine lv_istore_n (lv' := [(3, .int 0), (2, .int (-1000000)), (0, .ref (g 11 8)), (1, .int a)]) hx hb dX4_leastWithout_4 rfl hl (by decide) rfl (fun ls hl => ?_)
  have i_4_2 : 0 ≤ (iv 4 2).toInt ∧ (iv 4 2).toInt ≤ 8 := hI.1 4 2
  have lp83 : ∀ (nn83 : Nat) (x82_3 : Int32) (x82_2 : Int32), 0 ≤ x82_3.toInt ∧ x82_3.toInt ≤ 8 → (-1000000) ≤ x82_2.toInt → (Mx (fa 4 0) (a).toInt ((x82_3 : Int32).toInt).toNat (-1000000) (x82_2 : Int32).toInt) → (x82_3 : Int32).toInt ≤ ((iv 4 2) : Int32).toInt → 8 - x82_3.toInt < (nn83 : Int) → ∀ (ls : Array Slot), lv_has ls 4 [(3, .int x82_3), (2, .int x82_2), (0, .ref (g 11 8)), (1, .int a)] → W p l e ({ frames := 1, cells := 0, slots := 0, locals := 40 } : Room) s m ([.ref (g 11 8), .int a] : List Value).toArray below meth c s.heap [] 0 0 (MQ below (vp_Si (fun r => (True) ∧ (Mx (fa 4 0) a.toInt ((iv 4 2).toInt).toNat (-1000000) r.toInt))) ([.ref (g 11 8), .int a] : List Value).toArray s 0 0 (fun _ => False)) (F0 m 5 ls []) := by
    intro nn83
    induction nn83 with
    | zero => intro x82_3 x82_2 hx82_3 hx82_2 hq83_0 hq83_1 hm83; exfalso; omega
    | succ nn83 ih83 =>
      intro x82_3 x82_2 hx82_3 hx82_2 hq83_0 hq83_1 hm83 ls hl
      refine lv_iload_n hx hb dX4_leastWithout_5 rfl (lv_at hl 0 rfl) ?_
      refine lv_aload_n hx hb dX4_leastWithout_6 rfl (lv_at hl 2 rfl) ?_
      refine gX_4_2 hx hb ht hown hK hP m_368 (v := (iv 4 2)) rfl dX4_leastWithout_7 ?_
      refine lv_icmp_ge (tgt := 38) hx hb dX4_leastWithout_10 (by decide) (fun c84 => ?_) (fun c84 => ?_)
      · have fc84 := z_le (rfl : ((iv 4 2)).toInt = _) (rfl : (x82_3).toInt = _) c84
        refine lv_iload_n hx hb dX4_leastWithout_38 rfl (lv_at hl 1 rfl) ?_
        exact W.iret (v := x82_2) hx hb hr (fun t ht9 hW => ⟨x82_2, rfl, ⟨trivial, (show Mx (fa 4 0) (a).toInt (((iv 4 2) : Int32).toInt).toNat (-1000000) (x82_2 : Int32).toInt from (by have hq9 := hq83_0; have he9 : (x82_3 : Int32).toInt = (iv 4 2).toInt := (by omega); rw [he9] at hq9; exact hq9))⟩, ht9⟩) (fun q hq => by cases hq) dX4_leastWithout_39
      · have fc84 := z_nle (rfl : ((iv 4 2)).toInt = _) (rfl : (x82_3).toInt = _) c84
        refine lv_iload_n hx hb dX4_leastWithout_13 rfl (lv_at hl 3 rfl) ?_
        refine lv_iload_n hx hb dX4_leastWithout_14 rfl (lv_at hl 0 rfl) ?_
        refine lv_ishr hx hb dX4_leastWithout_15 ?_
        refine lv_topi (fun v85 ev85 => ?_)
        refine lv_iconst (v := 1) hx hb dX4_leastWithout_16 (by decide) ?_
        refine lv_iand hx hb dX4_leastWithout_17 ?_
        refine lv_topi (fun v86 ev86 => ?_)
        refine lv_if_ne (tgt := 32) hx hb dX4_leastWithout_18 (by decide) (fun c87 => ?_) (fun c87 => ?_)
        · have fc87 := z_ne (rfl : (v86).toInt = _) (by decide : (0 : Int32).toInt = 0) c87
          obtain ⟨v88, ev88⟩ : ∃ y : Int32, y = x82_3 + 1 := ⟨_, rfl⟩
          have tv88 := z_add ev88 rfl (by decide : (1 : Int32).toInt = 1) (by omega) (by omega)
          refine lv_iinc (v := v88) (lv' := [(3, .int v88), (2, .int x82_2), (0, .ref (g 11 8)), (1, .int a)]) hx hb dX4_leastWithout_32 hl (k := 0) rfl (by rw [ev88]; rfl) (by decide) rfl (fun ls hl => ?_)
          refine lv_goto (tgt := 5) hx hb dX4_leastWithout_35 (by decide) ?_
          exact ih83 v88 x82_2 ⟨by omega, by omega⟩ (by omega) (show Mx (fa 4 0) (a).toInt ((v88 : Int32).toInt).toNat (-1000000) (x82_2 : Int32).toInt from (by have hb9 := cr_of (o := a) (k := x82_3) (v := v86) (by rw [ev86, ev85]; rfl) (by omega); exact Mx_n (show ((v88 : Int32).toInt).toNat = ((x82_3 : Int32).toInt).toNat + 1 from by omega) (fun z => by have := hb9.mpr z; omega) hq83_0)) (show (v88 : Int32).toInt ≤ ((iv 4 2) : Int32).toInt from by omega) (by omega) ls (lv_sub hl [0, 1, 2, 3] rfl)
        · have fc87 := z_eq (rfl : (v86).toInt = _) (by decide : (0 : Int32).toInt = 0) c87
          refine lv_iload_n hx hb dX4_leastWithout_21 rfl (lv_at hl 1 rfl) ?_
          refine lv_aload_n hx hb dX4_leastWithout_22 rfl (lv_at hl 2 rfl) ?_
          refine gX_4_0 hx hb ht hown hK hP m_366 dX4_leastWithout_23 ?_
          refine lv_iload_n hx hb dX4_leastWithout_26 rfl (lv_at hl 0 rfl) ?_
          refine lX_4_0 hx hb hK hP (f := (fa 4 0)) rfl (vp_in_iff.mpr ⟨by omega, by omega⟩) dX4_leastWithout_27 ?_
          refine lv_topi (fun v89 ev89 => ?_)
          refine va_mmax hx hb (hml.trans hl.1.symm) hown (ht _ m_1061) (ht _ m_558) (ht _ m_90) (ht _ m_559) (Nat.le_of_ble_eq_true rfl) (Nat.le_of_ble_eq_true rfl) (Nat.le_of_ble_eq_true rfl) (Nat.le_of_ble_eq_true rfl) dX4_leastWithout_28 ?_
          refine lv_topi (fun v90 ev90 => ?_)
          have tv90 := mm_or ev90
          have uv90 := mm_max ev90 (rfl : (x82_2).toInt = _) (rfl : (v89).toInt = _)
          refine lv_istore_n (lv' := [(2, .int v90), (3, .int x82_3), (0, .ref (g 11 8)), (1, .int a)]) hx hb dX4_leastWithout_31 rfl hl (by decide) rfl (fun ls hl => ?_)
          obtain ⟨v91, ev91⟩ : ∃ y : Int32, y = x82_3 + 1 := ⟨_, rfl⟩
          have tv91 := z_add ev91 rfl (by decide : (1 : Int32).toInt = 1) (by omega) (by omega)
          refine lv_iinc (v := v91) (lv' := [(3, .int v91), (2, .int v90), (0, .ref (g 11 8)), (1, .int a)]) hx hb dX4_leastWithout_32 hl (k := 1) rfl (by rw [ev91]; rfl) (by decide) rfl (fun ls hl => ?_)
          refine lv_goto (tgt := 5) hx hb dX4_leastWithout_35 (by decide) ?_
          exact ih83 v91 v90 ⟨by omega, by omega⟩ (by omega) (show Mx (fa 4 0) (a).toInt ((v91 : Int32).toInt).toNat (-1000000) (v90 : Int32).toInt from (by have hb9 := cr_of (o := a) (k := x82_3) (v := v86) (by rw [ev86, ev85]; rfl) (by omega); have hx9 := congrArg Int32.toInt (show v89 = fa 4 0 (((x82_3 : Int32).toInt).toNat) from ev89); exact Mx_y (show ((v91 : Int32).toInt).toNat = ((x82_3 : Int32).toInt).toNat + 1 from by omega) (hb9.mp (by omega)) hq83_0 (by omega) (by omega) (by omega))) (show (v91 : Int32).toInt ≤ ((iv 4 2) : Int32).toInt from by omega) (by omega) ls (lv_sub hl [0, 1, 2, 3] rfl)
  have : (0 : Int32).toInt = 0 := (by decide)
  have : ((-1000000) : Int32).toInt = (-1000000) := (by decide)
  have i_4_2 : 0 ≤ (iv 4 2).toInt ∧ (iv 4 2).toInt ≤ 8 := hI.1 4 2
  exact lp83 9 0 (-1000000) ⟨by decide, by decide⟩ (by decide) (show Mx (fa 4 0) (a).toInt ((0 : Int32).toInt).toNat (-1000000) ((-1000000) : Int32).toInt from Mx_0 _ _ _) (show (0 : Int32).toInt ≤ ((iv 4 2) : Int32).toInt from by omega) (by first | decide | omega) ls (lv_sub hl [0, 1, 2, 3] rfl)
set_option maxHeartbeats 4000000 in
set_option maxRecDepth 100000 in
/-- X4_greatestWithout -/
theorem c_X4_greatestWithout_h (l : Launch) (dC : Nat → ClassId) (dI : Nat → Nat → Nat) (h : Nat) (g : Nat → Nat → Nat) (ca : Nat → Nat → ClassId) (iv : Nat → Nat → Int32) (lv : Nat → Nat → Int64) (fa : Nat → Nat → Nat → Int32) (la : Nat → Nat → Nat → Int64) (hI : IX iv fa) (a : Int32) : Met l yX4_greatestWithout (wc yX4_greatestWithout cX4_greatestWithout 4 (some .int)) ({ frames := 1, cells := 0, slots := 0, locals := 40 } : Room) (pR (dC, dI) classes (WX h g ca iv lv fa la) (TX ca) [.ref (g 11 8), .int a]) (vp_Si (fun r => (True) ∧ (Mn (fa 4 1) a.toInt ((iv 4 2).toInt).toNat (1000000) r.toInt))) 0 0 (fun _ => False) := by
  refine Met.ofW (cc := cX4_greatestWithout) (maxL := 4) (ret := (some .int)) (by decide) rfl ?_
  intro p e s m args below meth c s₁ B hml hv
  obtain ⟨rfl, hP, hK⟩ := hv
  have hx := B.exec
  have hb := B.bytes
  have hr := B.returns
  have ht := tb_tl (atoms_spec (ws := wc yX4_greatestWithout cX4_greatestWithout 4 (some .int)) B.pre)
  have hown : s.vm.findClass RX4 = some m.cls := findClass_of_methodNamed B.named
  have hlocks := B.notSynchronized
  have hl := lv_entry [.ref (g 11 8), .int a] (n := 4) (Nat.le_of_ble_eq_true rfl)
  rw [lg_entry_eq]
  generalize (lg_sl [.ref (g 11 8), .int a] ++ List.replicate (4 - (lg_sl [.ref (g 11 8), .int a]).length) Slot.unset).toArray = ls at hl ⊢
  have hl : lv_has ls 4 [(0, .ref (g 11 8)), (1, .int a)] := hl
  refine lv_ldc hx hb hown (ht _ m_1066) dX4_greatestWithout_0 ?_
  refine lv_istore_n (lv' := [(2, .int 1000000), (0, .ref (g 11 8)), (1, .int a)]) hx hb dX4_greatestWithout_2 rfl hl (by decide) rfl (fun ls hl => ?_)
  refine lv_iconst (v := 0) hx hb dX4_greatestWithout_3 (by decide) ?_
  refine lv_istore_n (lv' := [(3, .int 0), (2, .int 1000000), (0, .ref (g 11 8)), (1, .int a)]) hx hb dX4_greatestWithout_4 rfl hl (by decide) rfl (fun ls hl => ?_)
  have i_4_2 : 0 ≤ (iv 4 2).toInt ∧ (iv 4 2).toInt ≤ 8 := hI.1 4 2
  have lp83 : ∀ (nn83 : Nat) (x82_3 : Int32) (x82_2 : Int32), 0 ≤ x82_3.toInt ∧ x82_3.toInt ≤ 8 → x82_2.toInt ≤ 1000000 → (Mn (fa 4 1) (a).toInt ((x82_3 : Int32).toInt).toNat (1000000) (x82_2 : Int32).toInt) → (x82_3 : Int32).toInt ≤ ((iv 4 2) : Int32).toInt → 8 - x82_3.toInt < (nn83 : Int) → ∀ (ls : Array Slot), lv_has ls 4 [(3, .int x82_3), (2, .int x82_2), (0, .ref (g 11 8)), (1, .int a)] → W p l e ({ frames := 1, cells := 0, slots := 0, locals := 40 } : Room) s m ([.ref (g 11 8), .int a] : List Value).toArray below meth c s.heap [] 0 0 (MQ below (vp_Si (fun r => (True) ∧ (Mn (fa 4 1) a.toInt ((iv 4 2).toInt).toNat (1000000) r.toInt))) ([.ref (g 11 8), .int a] : List Value).toArray s 0 0 (fun _ => False)) (F0 m 5 ls []) := by
    intro nn83
    induction nn83 with
    | zero => intro x82_3 x82_2 hx82_3 hx82_2 hq83_0 hq83_1 hm83; exfalso; omega
    | succ nn83 ih83 =>
      intro x82_3 x82_2 hx82_3 hx82_2 hq83_0 hq83_1 hm83 ls hl
      refine lv_iload_n hx hb dX4_greatestWithout_5 rfl (lv_at hl 0 rfl) ?_
      refine lv_aload_n hx hb dX4_greatestWithout_6 rfl (lv_at hl 2 rfl) ?_
      refine gX_4_2 hx hb ht hown hK hP m_368 (v := (iv 4 2)) rfl dX4_greatestWithout_7 ?_
      refine lv_icmp_ge (tgt := 38) hx hb dX4_greatestWithout_10 (by decide) (fun c84 => ?_) (fun c84 => ?_)
      · have fc84 := z_le (rfl : ((iv 4 2)).toInt = _) (rfl : (x82_3).toInt = _) c84
        refine lv_iload_n hx hb dX4_greatestWithout_38 rfl (lv_at hl 1 rfl) ?_
        exact W.iret (v := x82_2) hx hb hr (fun t ht9 hW => ⟨x82_2, rfl, ⟨trivial, (show Mn (fa 4 1) (a).toInt (((iv 4 2) : Int32).toInt).toNat (1000000) (x82_2 : Int32).toInt from (by have hq9 := hq83_0; have he9 : (x82_3 : Int32).toInt = (iv 4 2).toInt := (by omega); rw [he9] at hq9; exact hq9))⟩, ht9⟩) (fun q hq => by cases hq) dX4_greatestWithout_39
      · have fc84 := z_nle (rfl : ((iv 4 2)).toInt = _) (rfl : (x82_3).toInt = _) c84
        refine lv_iload_n hx hb dX4_greatestWithout_13 rfl (lv_at hl 3 rfl) ?_
        refine lv_iload_n hx hb dX4_greatestWithout_14 rfl (lv_at hl 0 rfl) ?_
        refine lv_ishr hx hb dX4_greatestWithout_15 ?_
        refine lv_topi (fun v85 ev85 => ?_)
        refine lv_iconst (v := 1) hx hb dX4_greatestWithout_16 (by decide) ?_
        refine lv_iand hx hb dX4_greatestWithout_17 ?_
        refine lv_topi (fun v86 ev86 => ?_)
        refine lv_if_ne (tgt := 32) hx hb dX4_greatestWithout_18 (by decide) (fun c87 => ?_) (fun c87 => ?_)
        · have fc87 := z_ne (rfl : (v86).toInt = _) (by decide : (0 : Int32).toInt = 0) c87
          obtain ⟨v88, ev88⟩ : ∃ y : Int32, y = x82_3 + 1 := ⟨_, rfl⟩
          have tv88 := z_add ev88 rfl (by decide : (1 : Int32).toInt = 1) (by omega) (by omega)
          refine lv_iinc (v := v88) (lv' := [(3, .int v88), (2, .int x82_2), (0, .ref (g 11 8)), (1, .int a)]) hx hb dX4_greatestWithout_32 hl (k := 0) rfl (by rw [ev88]; rfl) (by decide) rfl (fun ls hl => ?_)
          refine lv_goto (tgt := 5) hx hb dX4_greatestWithout_35 (by decide) ?_
          exact ih83 v88 x82_2 ⟨by omega, by omega⟩ (by omega) (show Mn (fa 4 1) (a).toInt ((v88 : Int32).toInt).toNat (1000000) (x82_2 : Int32).toInt from (by have hb9 := cr_of (o := a) (k := x82_3) (v := v86) (by rw [ev86, ev85]; rfl) (by omega); exact Mn_n (show ((v88 : Int32).toInt).toNat = ((x82_3 : Int32).toInt).toNat + 1 from by omega) (fun z => by have := hb9.mpr z; omega) hq83_0)) (show (v88 : Int32).toInt ≤ ((iv 4 2) : Int32).toInt from by omega) (by omega) ls (lv_sub hl [0, 1, 2, 3] rfl)
        · have fc87 := z_eq (rfl : (v86).toInt = _) (by decide : (0 : Int32).toInt = 0) c87
          refine lv_iload_n hx hb dX4_greatestWithout_21 rfl (lv_at hl 1 rfl) ?_
          refine lv_aload_n hx hb dX4_greatestWithout_22 rfl (lv_at hl 2 rfl) ?_
          refine gX_4_1 hx hb ht hown hK hP m_367 dX4_greatestWithout_23 ?_
          refine lv_iload_n hx hb dX4_greatestWithout_26 rfl (lv_at hl 0 rfl) ?_
          refine lX_4_1 hx hb hK hP (f := (fa 4 1)) rfl (vp_in_iff.mpr ⟨by omega, by omega⟩) dX4_greatestWithout_27 ?_
          refine lv_topi (fun v89 ev89 => ?_)
          refine va_mmin hx hb (hml.trans hl.1.symm) hown (ht _ m_1067) (ht _ m_551) (ht _ m_90) (ht _ m_552) (Nat.le_of_ble_eq_true rfl) (Nat.le_of_ble_eq_true rfl) (Nat.le_of_ble_eq_true rfl) (Nat.le_of_ble_eq_true rfl) dX4_greatestWithout_28 ?_
          refine lv_topi (fun v90 ev90 => ?_)
          have tv90 := mm_or ev90
          have uv90 := mm_min ev90 (rfl : (x82_2).toInt = _) (rfl : (v89).toInt = _)
          refine lv_istore_n (lv' := [(2, .int v90), (3, .int x82_3), (0, .ref (g 11 8)), (1, .int a)]) hx hb dX4_greatestWithout_31 rfl hl (by decide) rfl (fun ls hl => ?_)
          obtain ⟨v91, ev91⟩ : ∃ y : Int32, y = x82_3 + 1 := ⟨_, rfl⟩
          have tv91 := z_add ev91 rfl (by decide : (1 : Int32).toInt = 1) (by omega) (by omega)
          refine lv_iinc (v := v91) (lv' := [(3, .int v91), (2, .int v90), (0, .ref (g 11 8)), (1, .int a)]) hx hb dX4_greatestWithout_32 hl (k := 1) rfl (by rw [ev91]; rfl) (by decide) rfl (fun ls hl => ?_)
          refine lv_goto (tgt := 5) hx hb dX4_greatestWithout_35 (by decide) ?_
          exact ih83 v91 v90 ⟨by omega, by omega⟩ (by omega) (show Mn (fa 4 1) (a).toInt ((v91 : Int32).toInt).toNat (1000000) (v90 : Int32).toInt from (by have hb9 := cr_of (o := a) (k := x82_3) (v := v86) (by rw [ev86, ev85]; rfl) (by omega); have hx9 := congrArg Int32.toInt (show v89 = fa 4 1 (((x82_3 : Int32).toInt).toNat) from ev89); exact Mn_y (show ((v91 : Int32).toInt).toNat = ((x82_3 : Int32).toInt).toNat + 1 from by omega) (hb9.mp (by omega)) hq83_0 (by omega) (by omega) (by omega))) (show (v91 : Int32).toInt ≤ ((iv 4 2) : Int32).toInt from by omega) (by omega) ls (lv_sub hl [0, 1, 2, 3] rfl)
  have : (0 : Int32).toInt = 0 := (by decide)
  have : (1000000 : Int32).toInt = 1000000 := (by decide)
  have i_4_2 : 0 ≤ (iv 4 2).toInt ∧ (iv 4 2).toInt ≤ 8 := hI.1 4 2
  exact lp83 9 0 1000000 ⟨by decide, by decide⟩ (by decide) (show Mn (fa 4 1) (a).toInt ((0 : Int32).toInt).toNat (1000000) (1000000 : Int32).toInt from Mn_0 _ _ _) (show (0 : Int32).toInt ≤ ((iv 4 2) : Int32).toInt from by omega) (by first | decide | omega) ls (lv_sub hl [0, 1, 2, 3] rfl)
