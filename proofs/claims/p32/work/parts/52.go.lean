/-! ===== go ===== -/
set_option maxHeartbeats 4000000 in
set_option maxRecDepth 100000 in
/-- X4_compare -/
theorem c_X4_compare_x (l : Launch) (dC : Nat → ClassId) (dI : Nat → Nat → Nat) (sz : Nat) (h : Nat) (g : Nat → Nat → Nat) (ca : Nat → Nat → ClassId) (iv : Nat → Nat → Int32) (lv : Nat → Nat → Int64) (fa : Nat → Nat → Nat → Int32) (la : Nat → Nat → Nat → Int64) (hI : IX iv fa) (a : Int32) (b : Int32) (q_4_2 : 0 ≤ (iv 4 2).toInt ∧ (iv 4 2).toInt ≤ 7) : Met l yX4_compare (wc yX4_compare cX4_compare 3 (some .int)) ({ frames := 0, cells := 0, slots := 0, locals := 0 } : Room) (pW (dC, dI) classes (WX h g ca iv lv fa la) (TX ca) sz [.ref (g 11 8), .int a, .int b]) (va_Qi (fun r (u : SS) => ∃ (na_4_0 : Nat → Int32) (na_4_1 : Nat → Int32) (ni_4_2 : Int32), inb (bI 4 2) ni_4_2 ∧ ni_4_2.toInt = (iv 4 2).toInt + 1 ∧ (r.toInt = (iv 4 2).toInt + 1) ∧ (1 ≤ r.toInt ∧ r.toInt ≤ 8) ∧ u = ((u2 iv 4 2 ni_4_2), lv, (u2 (u2 fa 4 0 na_4_0) 4 1 na_4_1), la)) (bX (dC, dI) h g ca (va_A (WX h g ca iv lv fa la) sz)) (va_A (WX h g ca iv lv fa la) sz)) 0 0 (va_A (WX h g ca iv lv fa la) sz) := by
  refine Met.ofW (cc := cX4_compare) (maxL := 3) (ret := (some .int)) (by decide) rfl ?_
  intro p e s m args below meth c s₁ B hml hv
  obtain ⟨rfl, hsz, hP, hK, hD0⟩ := hv
  have hx := B.exec
  have hb := B.bytes
  have hr := B.returns
  have ht := tb_tl (atoms_spec (ws := wc yX4_compare cX4_compare 3 (some .int)) B.pre)
  have hown : s.vm.findClass RX4 = some m.cls := findClass_of_methodNamed B.named
  have hlocks := B.notSynchronized
  subst hsz
  have hD := hD0.self (sz := s.heap.size)
  generalize hAe : va_A (WX h g ca iv lv fa la) s.heap.size = A at hD ⊢
  have hA : ∀ q : Nat, s.heap.size ≤ q → A q := fun q h => by rw [← hAe]; exact Or.inr h
  have hS : va_S A s.heap s.heap [] := va_S.rf
  have hl := lv_entry [.ref (g 11 8), .int a, .int b] (n := 3) (Nat.le_of_ble_eq_true rfl)
  rw [lg_entry_eq]
  generalize (lg_sl [.ref (g 11 8), .int a, .int b] ++ List.replicate (3 - (lg_sl [.ref (g 11 8), .int a, .int b]).length) Slot.unset).toArray = ls at hl ⊢
  have hl : lv_has ls 3 [(0, .ref (g 11 8)), (1, .int a), (2, .int b)] := hl
  refine lv_aload_n hx hb dX4_compare_0 rfl (lv_at hl 0 rfl) ?_
  refine gX_4_0 hx hb ht hown hK hP m_366 dX4_compare_1 ?_
  refine lv_aload_n hx hb dX4_compare_4 rfl (lv_at hl 0 rfl) ?_
  have i_4_2 : 0 ≤ (iv 4 2).toInt ∧ (iv 4 2).toInt ≤ 8 := hI.1 4 2
  refine gX_4_2 hx hb ht hown hK hP m_368 (v := (iv 4 2)) rfl dX4_compare_5 ?_
  refine lv_iload_n hx hb dX4_compare_8 rfl (lv_at hl 1 rfl) ?_
  refine tX_4_0 hx hb hK hP hD hS (f0 := (fa 4 0)) rfl (i := (iv 4 2)) (x := a) (vp_in_iff.mpr ⟨by omega, by omega⟩) dX4_compare_9 (fun f1 ef1 H locs hP hD hS => ?_)
  have hf1 : ∀ j, inb (bA 4 0 j) (f1 j) := fun j => full_i _
  refine lv_aload_n hx hb dX4_compare_10 rfl (lv_at hl 0 rfl) ?_
  refine gX_4_1 hx hb ht hown hK hP m_367 dX4_compare_11 ?_
  refine lv_aload_n hx hb dX4_compare_14 rfl (lv_at hl 0 rfl) ?_
  refine gX_4_2 hx hb ht hown hK hP m_368 (v := (iv 4 2)) rfl dX4_compare_15 ?_
  refine lv_iload_n hx hb dX4_compare_18 rfl (lv_at hl 2 rfl) ?_
  refine tX_4_1 hx hb hK hP hD hS (f0 := (fa 4 1)) rfl (i := (iv 4 2)) (x := b) (vp_in_iff.mpr ⟨by omega, by omega⟩) dX4_compare_19 (fun f2 ef2 H locs hP hD hS => ?_)
  have hf2 : ∀ j, inb (bA 4 1 j) (f2 j) := fun j => full_i _
  refine lv_aload_n hx hb dX4_compare_20 rfl (lv_at hl 0 rfl) ?_
  refine lv_dup hx hb dX4_compare_21 rfl ?_
  refine gX_4_2 hx hb ht hown hK hP m_368 (v := (iv 4 2)) rfl dX4_compare_22 ?_
  refine lv_iconst (v := 1) hx hb dX4_compare_25 (by decide) ?_
  refine lv_iadd hx hb dX4_compare_26 ?_
  refine lv_topi (fun v3 ev3 => ?_)
  have tv3 := z_add ev3 (rfl : ((iv 4 2)).toInt = _) (by decide : (1 : Int32).toInt = 1) (by omega) (by omega)
  refine pX_4_2 (v := v3) hx hb ht hown hK hP hD hS m_368 dX4_compare_27 (fun H locs hP hD hS => ?_)
  refine lv_aload_n hx hb dX4_compare_30 rfl (lv_at hl 0 rfl) ?_
  refine gX_4_2 hx hb ht hown hK hP m_368 (v := v3) rfl dX4_compare_31 ?_
  have hP9 : va_P (dC, dI) classes (WX h g ca (u2 iv 4 2 v3) lv (u2 (u2 fa 4 0 f1) 4 1 f2) la) H := hP
  have hD9 : va_D A (WX h g ca (u2 iv 4 2 v3) lv (u2 (u2 fa 4 0 f1) 4 1 f2) la) := hD
  exact W.iret (v := v3) hx hb hr (fun t ht9 hW => ⟨⟨v3, ((u2 iv 4 2 v3), lv, (u2 (u2 fa 4 0 f1) 4 1 f2), la), rfl, ⟨f1, f2, v3, (show inb (0, 8) v3 from ⟨by omega, by omega⟩), (by omega), (show (v3 : Int32).toInt = (iv 4 2).toInt + 1 from by omega), ⟨by omega, by omega⟩, rfl⟩, by rw [ht9]; exact hP9, hD9⟩, hS.F ht9⟩) hS.2.2 dX4_compare_34
set_option maxHeartbeats 4000000 in
set_option maxRecDepth 100000 in
/-- X11_shared -/
theorem c_X11_shared_x (l : Launch) (dC : Nat → ClassId) (dI : Nat → Nat → Nat) (sz : Nat) (h : Nat) (g : Nat → Nat → Nat) (ca : Nat → Nat → ClassId) (iv : Nat → Nat → Int32) (lv : Nat → Nat → Int64) (fa : Nat → Nat → Nat → Int32) (la : Nat → Nat → Nat → Int64) (hI : IX iv fa) (a : Int32) (b : Int32) (d : Int32) (k : Int32) : Met l yX11_shared (wc yX11_shared cX11_shared 5 (some .int)) ({ frames := 1, cells := 0, slots := 0, locals := 22 } : Room) (pW (dC, dI) classes (WX h g ca iv lv fa la) (TX ca) sz [.ref h, .int a, .int b, .int d, .int k]) (va_Qi (fun r (u : SS) => ∃ (na_4_0 : Nat → Int32) (na_4_1 : Nat → Int32) (ni_4_2 : Int32), inb (bI 4 2) ni_4_2 ∧ (((r.toInt = -100002 ∧ ¬ (1 ≤ a.toInt ∧ a.toInt ≤ b.toInt ∧ b.toInt ≤ 9999 ∧ 1 ≤ d.toInt ∧ d.toInt ≤ k.toInt ∧ k.toInt ≤ 9999) ∧ (ni_4_2).toInt = (iv 4 2).toInt) ∨ (r.toInt = -100004 ∧ (1 ≤ a.toInt ∧ a.toInt ≤ b.toInt ∧ b.toInt ≤ 9999 ∧ 1 ≤ d.toInt ∧ d.toInt ≤ k.toInt ∧ k.toInt ≤ 9999) ∧ 8 ≤ (iv 4 2).toInt ∧ (ni_4_2).toInt = (iv 4 2).toInt) ∨ ((1 ≤ a.toInt ∧ a.toInt ≤ b.toInt ∧ b.toInt ≤ 9999 ∧ 1 ≤ d.toInt ∧ d.toInt ≤ k.toInt ∧ k.toInt ≤ 9999) ∧ (iv 4 2).toInt < 8 ∧ r.toInt = (iv 4 2).toInt + 1 ∧ (ni_4_2).toInt = (iv 4 2).toInt + 1))) ∧ ((-100004) ≤ r.toInt ∧ r.toInt ≤ 8) ∧ u = ((u2 iv 4 2 ni_4_2), lv, (u2 (u2 fa 4 0 na_4_0) 4 1 na_4_1), la)) (bX (dC, dI) h g ca (va_A (WX h g ca iv lv fa la) sz)) (va_A (WX h g ca iv lv fa la) sz)) 0 0 (va_A (WX h g ca iv lv fa la) sz) := by
  refine Met.ofW (cc := cX11_shared) (maxL := 5) (ret := (some .int)) (by decide) rfl ?_
  intro p e s m args below meth c s₁ B hml hv
  obtain ⟨rfl, hsz, hP, hK, hD0⟩ := hv
  have hx := B.exec
  have hb := B.bytes
  have hr := B.returns
  have ht := tb_tl (atoms_spec (ws := wc yX11_shared cX11_shared 5 (some .int)) B.pre)
  have hown : s.vm.findClass RX11 = some m.cls := findClass_of_methodNamed B.named
  have hlocks := B.notSynchronized
  subst hsz
  have hD := hD0.self (sz := s.heap.size)
  generalize hAe : va_A (WX h g ca iv lv fa la) s.heap.size = A at hD ⊢
  have hA : ∀ q : Nat, s.heap.size ≤ q → A q := fun q h => by rw [← hAe]; exact Or.inr h
  have hS : va_S A s.heap s.heap [] := va_S.rf
  have hl := lv_entry [.ref h, .int a, .int b, .int d, .int k] (n := 5) (Nat.le_of_ble_eq_true rfl)
  rw [lg_entry_eq]
  generalize (lg_sl [.ref h, .int a, .int b, .int d, .int k] ++ List.replicate (5 - (lg_sl [.ref h, .int a, .int b, .int d, .int k]).length) Slot.unset).toArray = ls at hl ⊢
  have hl : lv_has ls 5 [(0, .ref h), (1, .int a), (2, .int b), (3, .int d), (4, .int k)] := hl
  refine lv_iload_n hx hb dX11_shared_0 rfl (lv_at hl 1 rfl) ?_
  refine lv_iconst (v := 1) hx hb dX11_shared_1 (by decide) ?_
  refine lv_sipush (v := 9999) hx hb dX11_shared_2 (by decide) ?_
  refine vp_callSi (W.runS (As := [.int a, .int 1, .int 9999]) (rest := []) ⟨hx, hb, hml, hown, ht⟩ (c_X11_within l dC dI a 1 9999 (a.toInt) (1) (9999) (rfl : (a).toInt = _) (by decide : (1 : Int32).toInt = 1) (by decide : (9999 : Int32).toInt = 9999)) (kS 3 ht m_453 m_454 m_77 m_455 rfl rfl hd_X11_within_v ⟨Nat.le_of_ble_eq_true rfl, Nat.le_of_ble_eq_true rfl⟩) (sR noP (hK.sub (tys' := []) [] rfl)) rfl rfl hl.1 rfl (lv_room (Nat.le_of_ble_eq_true rfl)) dX11_shared_5 ⟨Nat.le_of_ble_eq_true rfl, Nat.le_of_ble_eq_true rfl⟩) (fun r1 hr1 => ?_)
  rcases hr1 with ⟨rfl, fr1⟩ | ⟨rfl, fr1⟩
  · skip
    refine lv_if_eq (tgt := 22) hx hb dX11_shared_8 (by decide) (fun c2 => ?_) (fun c2 => ?_)
    · exact absurd c2 (by decide)
    · skip
      refine lv_iload_n hx hb dX11_shared_11 rfl (lv_at hl 2 rfl) ?_
      refine lv_iload_n hx hb dX11_shared_12 rfl (lv_at hl 1 rfl) ?_
      refine lv_sipush (v := 9999) hx hb dX11_shared_13 (by decide) ?_
      refine vp_callSi (W.runS (As := [.int b, .int a, .int 9999]) (rest := []) ⟨hx, hb, hml, hown, ht⟩ (c_X11_within l dC dI b a 9999 (b.toInt) (a.toInt) (9999) (rfl : (b).toInt = _) (rfl : (a).toInt = _) (by decide : (9999 : Int32).toInt = 9999)) (kS 3 ht m_453 m_454 m_77 m_455 rfl rfl hd_X11_within_v ⟨Nat.le_of_ble_eq_true rfl, Nat.le_of_ble_eq_true rfl⟩) (sR noP (hK.sub (tys' := []) [] rfl)) rfl rfl hl.1 rfl (lv_room (Nat.le_of_ble_eq_true rfl)) dX11_shared_16 ⟨Nat.le_of_ble_eq_true rfl, Nat.le_of_ble_eq_true rfl⟩) (fun r3 hr3 => ?_)
      rcases hr3 with ⟨rfl, fr3⟩ | ⟨rfl, fr3⟩
      · skip
        refine lv_if_ne (tgt := 25) hx hb dX11_shared_19 (by decide) (fun c4 => ?_) (fun c4 => ?_)
        · skip
          refine lv_iload_n hx hb dX11_shared_25 rfl (lv_at hl 3 rfl) ?_
          refine lv_iconst (v := 1) hx hb dX11_shared_26 (by decide) ?_
          refine lv_sipush (v := 9999) hx hb dX11_shared_27 (by decide) ?_
          refine vp_callSi (W.runS (As := [.int d, .int 1, .int 9999]) (rest := []) ⟨hx, hb, hml, hown, ht⟩ (c_X11_within l dC dI d 1 9999 (d.toInt) (1) (9999) (rfl : (d).toInt = _) (by decide : (1 : Int32).toInt = 1) (by decide : (9999 : Int32).toInt = 9999)) (kS 3 ht m_453 m_454 m_77 m_455 rfl rfl hd_X11_within_v ⟨Nat.le_of_ble_eq_true rfl, Nat.le_of_ble_eq_true rfl⟩) (sR noP (hK.sub (tys' := []) [] rfl)) rfl rfl hl.1 rfl (lv_room (Nat.le_of_ble_eq_true rfl)) dX11_shared_30 ⟨Nat.le_of_ble_eq_true rfl, Nat.le_of_ble_eq_true rfl⟩) (fun r5 hr5 => ?_)
          rcases hr5 with ⟨rfl, fr5⟩ | ⟨rfl, fr5⟩
          · skip
            refine lv_if_eq (tgt := 48) hx hb dX11_shared_33 (by decide) (fun c6 => ?_) (fun c6 => ?_)
            · exact absurd c6 (by decide)
            · skip
              refine lv_iload hx hb dX11_shared_36 (lv_at hl 4 rfl) ?_
              refine lv_iload_n hx hb dX11_shared_38 rfl (lv_at hl 3 rfl) ?_
              refine lv_sipush (v := 9999) hx hb dX11_shared_39 (by decide) ?_
              refine vp_callSi (W.runS (As := [.int k, .int d, .int 9999]) (rest := []) ⟨hx, hb, hml, hown, ht⟩ (c_X11_within l dC dI k d 9999 (k.toInt) (d.toInt) (9999) (rfl : (k).toInt = _) (rfl : (d).toInt = _) (by decide : (9999 : Int32).toInt = 9999)) (kS 3 ht m_453 m_454 m_77 m_455 rfl rfl hd_X11_within_v ⟨Nat.le_of_ble_eq_true rfl, Nat.le_of_ble_eq_true rfl⟩) (sR noP (hK.sub (tys' := []) [] rfl)) rfl rfl hl.1 rfl (lv_room (Nat.le_of_ble_eq_true rfl)) dX11_shared_42 ⟨Nat.le_of_ble_eq_true rfl, Nat.le_of_ble_eq_true rfl⟩) (fun r7 hr7 => ?_)
              rcases hr7 with ⟨rfl, fr7⟩ | ⟨rfl, fr7⟩
              · skip
                refine lv_if_ne (tgt := 51) hx hb dX11_shared_45 (by decide) (fun c8 => ?_) (fun c8 => ?_)
                · skip
                  refine lv_aload_n hx hb dX11_shared_51 rfl (lv_at hl 0 rfl) ?_
                  refine gX_11_8 hx hb ht hown hK hP m_423 dX11_shared_52 ?_
                  have i_4_2 : 0 ≤ (iv 4 2).toInt ∧ (iv 4 2).toInt ≤ 8 := hI.1 4 2
                  refine gX_4_2 hx hb ht hown hK hP m_369 (v := (iv 4 2)) rfl dX11_shared_55 ?_
                  refine lv_bipush (v := 8) hx hb dX11_shared_58 (by decide) ?_
                  refine lv_icmp_lt (tgt := 66) hx hb dX11_shared_60 (by decide) (fun c9 => ?_) (fun c9 => ?_)
                  · have fc9 := z_lt (rfl : ((iv 4 2)).toInt = _) (by decide : (8 : Int32).toInt = 8) c9
                    refine lv_aload_n hx hb dX11_shared_66 rfl (lv_at hl 0 rfl) ?_
                    refine gX_11_8 hx hb ht hown hK hP m_423 dX11_shared_67 ?_
                    refine lv_iload_n hx hb dX11_shared_70 rfl (lv_at hl 1 rfl) ?_
                    refine lv_iload hx hb dX11_shared_71 (lv_at hl 4 rfl) ?_
                    refine lv_isub hx hb dX11_shared_73 ?_
                    refine lv_topi (fun v10 ev10 => ?_)
                    have tv10 := z_sub ev10 (rfl : (a).toInt = _) (rfl : (k).toInt = _) (by omega) (by omega)
                    refine lv_iload_n hx hb dX11_shared_74 rfl (lv_at hl 2 rfl) ?_
                    refine lv_iload_n hx hb dX11_shared_75 rfl (lv_at hl 3 rfl) ?_
                    refine lv_isub hx hb dX11_shared_76 ?_
                    refine lv_topi (fun v11 ev11 => ?_)
                    have tv11 := z_sub ev11 (rfl : (b).toInt = _) (rfl : (d).toInt = _) (by omega) (by omega)
                    have hFc := free_all hD hS hA
                    refine va_calli (va_runV (As := [.int v10, .int v11]) (rest := []) ⟨hx, hb, hml, hown, ht⟩ (c_X4_compare_x l dC dI s.heap.size h g ca iv lv fa la hI v10 v11 (show 0 ≤ ((iv 4 2) : Int32).toInt ∧ ((iv 4 2) : Int32).toInt ≤ 7 from ⟨by omega, by omega⟩)) (kV 2 ht m_1038 m_1039 m_1040 m_87 m_1041 rfl rfl hd_X4_compare_v ⟨Nat.le_of_ble_eq_true rfl, Nat.le_of_ble_eq_true rfl⟩) (vW hP hK hD (rX_4 hK hP)) rfl rfl hl.1 rfl (lv_room (Nat.le_of_ble_eq_true rfl)) dX11_shared_77 ⟨Nat.le_of_ble_eq_true rfl, Nat.le_of_ble_eq_true rfl⟩) hS (fun q _ h => hFc q h) hFc (fun r12 u t H1 locs ht9 hvm hr12 hB hz1 hk1 hS => ?_)
                    obtain ⟨n13, n14, n15, hn15, dn15, xr12_0, hr12, rfl⟩ := hr12
                    have hn13 : ∀ j, inb (bA 4 0 j) (n13 j) := fun j => full_i _
                    have hn14 : ∀ j, inb (bA 4 1 j) (n14 j) := fun j => full_i _
                    have dn15 : n15.toInt = ((iv 4 2) : Int32).toInt + 1 := dn15
                    have hn15 : 0 ≤ n15.toInt ∧ n15.toInt ≤ 8 := hn15
                    obtain ⟨hP, hD⟩ := hB
                    rw [ht9] at hP
                    generalize H1 = H at hP hS ⊢
                    have hP : va_P (dC, dI) classes (WX h g ca (u2 iv 4 2 n15) lv (u2 (u2 fa 4 0 n13) 4 1 n14) la) H := hP
                    have hD : va_D A (WX h g ca (u2 iv 4 2 n15) lv (u2 (u2 fa 4 0 n13) 4 1 n14) la) := (show va_D _ (WX h g ca (u2 iv 4 2 n15) lv (u2 (u2 fa 4 0 n13) 4 1 n14) la) from hD).weaken (fun _ _ _ h => hFc _ h)
                    have xr12_0 : (r12 : Int32).toInt = ((iv 4 2) : Int32).toInt + 1 := xr12_0
                    have hP9 : va_P (dC, dI) classes (WX h g ca (u2 iv 4 2 n15) lv (u2 (u2 fa 4 0 n13) 4 1 n14) la) H := hP
                    have hD9 : va_D A (WX h g ca (u2 iv 4 2 n15) lv (u2 (u2 fa 4 0 n13) 4 1 n14) la) := hD
                    exact W.iret (v := r12) hx hb hr (fun t ht9 hW => ⟨⟨r12, ((u2 iv 4 2 n15), lv, (u2 (u2 fa 4 0 n13) 4 1 n14), la), rfl, ⟨n13, n14, n15, (show inb (0, 8) n15 from ⟨by omega, by omega⟩), (show (((r12 : Int32).toInt = -100002 ∧ ¬ (1 ≤ (a).toInt ∧ (a).toInt ≤ (b).toInt ∧ (b).toInt ≤ 9999 ∧ 1 ≤ (d).toInt ∧ (d).toInt ≤ (k).toInt ∧ (k).toInt ≤ 9999) ∧ (n15 : Int32).toInt = (iv 4 2).toInt) ∨ ((r12 : Int32).toInt = -100004 ∧ (1 ≤ (a).toInt ∧ (a).toInt ≤ (b).toInt ∧ (b).toInt ≤ 9999 ∧ 1 ≤ (d).toInt ∧ (d).toInt ≤ (k).toInt ∧ (k).toInt ≤ 9999) ∧ 8 ≤ (iv 4 2).toInt ∧ (n15 : Int32).toInt = (iv 4 2).toInt) ∨ ((1 ≤ (a).toInt ∧ (a).toInt ≤ (b).toInt ∧ (b).toInt ≤ 9999 ∧ 1 ≤ (d).toInt ∧ (d).toInt ≤ (k).toInt ∧ (k).toInt ≤ 9999) ∧ (iv 4 2).toInt < 8 ∧ (r12 : Int32).toInt = (iv 4 2).toInt + 1 ∧ (n15 : Int32).toInt = (iv 4 2).toInt + 1)) from by omega), ⟨by omega, by omega⟩, rfl⟩, by rw [ht9]; exact hP9, hD9⟩, hS.F ht9⟩) hS.2.2 dX11_shared_80
                  · have fc9 := z_nlt (rfl : ((iv 4 2)).toInt = _) (by decide : (8 : Int32).toInt = 8) c9
                    refine lv_ldc hx hb hown (ht _ m_463) dX11_shared_63 ?_
                    have : ((-100004) : Int32).toInt = (-100004) := (by decide)
                    have hP9 : va_P (dC, dI) classes (WX h g ca (u2 iv 4 2 (iv 4 2)) lv (u2 (u2 fa 4 0 (fa 4 0)) 4 1 (fa 4 1)) la) s.heap := hP
                    have hD9 : va_D A (WX h g ca (u2 iv 4 2 (iv 4 2)) lv (u2 (u2 fa 4 0 (fa 4 0)) 4 1 (fa 4 1)) la) := hD
                    exact W.iret (v := (-100004)) hx hb hr (fun t ht9 hW => ⟨⟨(-100004), ((u2 iv 4 2 (iv 4 2)), lv, (u2 (u2 fa 4 0 (fa 4 0)) 4 1 (fa 4 1)), la), rfl, ⟨(fa 4 0), (fa 4 1), (iv 4 2), (hI.1 4 2), (show ((((-100004) : Int32).toInt = -100002 ∧ ¬ (1 ≤ (a).toInt ∧ (a).toInt ≤ (b).toInt ∧ (b).toInt ≤ 9999 ∧ 1 ≤ (d).toInt ∧ (d).toInt ≤ (k).toInt ∧ (k).toInt ≤ 9999) ∧ ((iv 4 2) : Int32).toInt = (iv 4 2).toInt) ∨ (((-100004) : Int32).toInt = -100004 ∧ (1 ≤ (a).toInt ∧ (a).toInt ≤ (b).toInt ∧ (b).toInt ≤ 9999 ∧ 1 ≤ (d).toInt ∧ (d).toInt ≤ (k).toInt ∧ (k).toInt ≤ 9999) ∧ 8 ≤ (iv 4 2).toInt ∧ ((iv 4 2) : Int32).toInt = (iv 4 2).toInt) ∨ ((1 ≤ (a).toInt ∧ (a).toInt ≤ (b).toInt ∧ (b).toInt ≤ 9999 ∧ 1 ≤ (d).toInt ∧ (d).toInt ≤ (k).toInt ∧ (k).toInt ≤ 9999) ∧ (iv 4 2).toInt < 8 ∧ ((-100004) : Int32).toInt = (iv 4 2).toInt + 1 ∧ ((iv 4 2) : Int32).toInt = (iv 4 2).toInt + 1)) from by omega), ⟨by decide, by decide⟩, rfl⟩, by rw [ht9]; exact hP9, hD9⟩, hS.F ht9⟩) hS.2.2 dX11_shared_65
                · exact absurd c8 (by decide)
              · skip
                refine lv_if_ne (tgt := 51) hx hb dX11_shared_45 (by decide) (fun c16 => ?_) (fun c16 => ?_)
                · exact absurd rfl c16
                · skip
                  refine lv_ldc hx hb hown (ht _ m_456) dX11_shared_48 ?_
                  have : ((-100002) : Int32).toInt = (-100002) := (by decide)
                  have i_4_2 : 0 ≤ (iv 4 2).toInt ∧ (iv 4 2).toInt ≤ 8 := hI.1 4 2
                  have hP9 : va_P (dC, dI) classes (WX h g ca (u2 iv 4 2 (iv 4 2)) lv (u2 (u2 fa 4 0 (fa 4 0)) 4 1 (fa 4 1)) la) s.heap := hP
                  have hD9 : va_D A (WX h g ca (u2 iv 4 2 (iv 4 2)) lv (u2 (u2 fa 4 0 (fa 4 0)) 4 1 (fa 4 1)) la) := hD
                  exact W.iret (v := (-100002)) hx hb hr (fun t ht9 hW => ⟨⟨(-100002), ((u2 iv 4 2 (iv 4 2)), lv, (u2 (u2 fa 4 0 (fa 4 0)) 4 1 (fa 4 1)), la), rfl, ⟨(fa 4 0), (fa 4 1), (iv 4 2), (hI.1 4 2), (show ((((-100002) : Int32).toInt = -100002 ∧ ¬ (1 ≤ (a).toInt ∧ (a).toInt ≤ (b).toInt ∧ (b).toInt ≤ 9999 ∧ 1 ≤ (d).toInt ∧ (d).toInt ≤ (k).toInt ∧ (k).toInt ≤ 9999) ∧ ((iv 4 2) : Int32).toInt = (iv 4 2).toInt) ∨ (((-100002) : Int32).toInt = -100004 ∧ (1 ≤ (a).toInt ∧ (a).toInt ≤ (b).toInt ∧ (b).toInt ≤ 9999 ∧ 1 ≤ (d).toInt ∧ (d).toInt ≤ (k).toInt ∧ (k).toInt ≤ 9999) ∧ 8 ≤ (iv 4 2).toInt ∧ ((iv 4 2) : Int32).toInt = (iv 4 2).toInt) ∨ ((1 ≤ (a).toInt ∧ (a).toInt ≤ (b).toInt ∧ (b).toInt ≤ 9999 ∧ 1 ≤ (d).toInt ∧ (d).toInt ≤ (k).toInt ∧ (k).toInt ≤ 9999) ∧ (iv 4 2).toInt < 8 ∧ ((-100002) : Int32).toInt = (iv 4 2).toInt + 1 ∧ ((iv 4 2) : Int32).toInt = (iv 4 2).toInt + 1)) from by omega), ⟨by decide, by decide⟩, rfl⟩, by rw [ht9]; exact hP9, hD9⟩, hS.F ht9⟩) hS.2.2 dX11_shared_50
          · skip
            refine lv_if_eq (tgt := 48) hx hb dX11_shared_33 (by decide) (fun c17 => ?_) (fun c17 => ?_)
            · skip
              refine lv_ldc hx hb hown (ht _ m_456) dX11_shared_48 ?_
              have : ((-100002) : Int32).toInt = (-100002) := (by decide)
              have i_4_2 : 0 ≤ (iv 4 2).toInt ∧ (iv 4 2).toInt ≤ 8 := hI.1 4 2
              have hP9 : va_P (dC, dI) classes (WX h g ca (u2 iv 4 2 (iv 4 2)) lv (u2 (u2 fa 4 0 (fa 4 0)) 4 1 (fa 4 1)) la) s.heap := hP
              have hD9 : va_D A (WX h g ca (u2 iv 4 2 (iv 4 2)) lv (u2 (u2 fa 4 0 (fa 4 0)) 4 1 (fa 4 1)) la) := hD
              exact W.iret (v := (-100002)) hx hb hr (fun t ht9 hW => ⟨⟨(-100002), ((u2 iv 4 2 (iv 4 2)), lv, (u2 (u2 fa 4 0 (fa 4 0)) 4 1 (fa 4 1)), la), rfl, ⟨(fa 4 0), (fa 4 1), (iv 4 2), (hI.1 4 2), (show ((((-100002) : Int32).toInt = -100002 ∧ ¬ (1 ≤ (a).toInt ∧ (a).toInt ≤ (b).toInt ∧ (b).toInt ≤ 9999 ∧ 1 ≤ (d).toInt ∧ (d).toInt ≤ (k).toInt ∧ (k).toInt ≤ 9999) ∧ ((iv 4 2) : Int32).toInt = (iv 4 2).toInt) ∨ (((-100002) : Int32).toInt = -100004 ∧ (1 ≤ (a).toInt ∧ (a).toInt ≤ (b).toInt ∧ (b).toInt ≤ 9999 ∧ 1 ≤ (d).toInt ∧ (d).toInt ≤ (k).toInt ∧ (k).toInt ≤ 9999) ∧ 8 ≤ (iv 4 2).toInt ∧ ((iv 4 2) : Int32).toInt = (iv 4 2).toInt) ∨ ((1 ≤ (a).toInt ∧ (a).toInt ≤ (b).toInt ∧ (b).toInt ≤ 9999 ∧ 1 ≤ (d).toInt ∧ (d).toInt ≤ (k).toInt ∧ (k).toInt ≤ 9999) ∧ (iv 4 2).toInt < 8 ∧ ((-100002) : Int32).toInt = (iv 4 2).toInt + 1 ∧ ((iv 4 2) : Int32).toInt = (iv 4 2).toInt + 1)) from by omega), ⟨by decide, by decide⟩, rfl⟩, by rw [ht9]; exact hP9, hD9⟩, hS.F ht9⟩) hS.2.2 dX11_shared_50
            · exact absurd rfl c17
        · exact absurd c4 (by decide)
      · skip
        refine lv_if_ne (tgt := 25) hx hb dX11_shared_19 (by decide) (fun c18 => ?_) (fun c18 => ?_)
        · exact absurd rfl c18
        · skip
          refine lv_ldc hx hb hown (ht _ m_456) dX11_shared_22 ?_
          have : ((-100002) : Int32).toInt = (-100002) := (by decide)
          have i_4_2 : 0 ≤ (iv 4 2).toInt ∧ (iv 4 2).toInt ≤ 8 := hI.1 4 2
          have hP9 : va_P (dC, dI) classes (WX h g ca (u2 iv 4 2 (iv 4 2)) lv (u2 (u2 fa 4 0 (fa 4 0)) 4 1 (fa 4 1)) la) s.heap := hP
          have hD9 : va_D A (WX h g ca (u2 iv 4 2 (iv 4 2)) lv (u2 (u2 fa 4 0 (fa 4 0)) 4 1 (fa 4 1)) la) := hD
          exact W.iret (v := (-100002)) hx hb hr (fun t ht9 hW => ⟨⟨(-100002), ((u2 iv 4 2 (iv 4 2)), lv, (u2 (u2 fa 4 0 (fa 4 0)) 4 1 (fa 4 1)), la), rfl, ⟨(fa 4 0), (fa 4 1), (iv 4 2), (hI.1 4 2), (show ((((-100002) : Int32).toInt = -100002 ∧ ¬ (1 ≤ (a).toInt ∧ (a).toInt ≤ (b).toInt ∧ (b).toInt ≤ 9999 ∧ 1 ≤ (d).toInt ∧ (d).toInt ≤ (k).toInt ∧ (k).toInt ≤ 9999) ∧ ((iv 4 2) : Int32).toInt = (iv 4 2).toInt) ∨ (((-100002) : Int32).toInt = -100004 ∧ (1 ≤ (a).toInt ∧ (a).toInt ≤ (b).toInt ∧ (b).toInt ≤ 9999 ∧ 1 ≤ (d).toInt ∧ (d).toInt ≤ (k).toInt ∧ (k).toInt ≤ 9999) ∧ 8 ≤ (iv 4 2).toInt ∧ ((iv 4 2) : Int32).toInt = (iv 4 2).toInt) ∨ ((1 ≤ (a).toInt ∧ (a).toInt ≤ (b).toInt ∧ (b).toInt ≤ 9999 ∧ 1 ≤ (d).toInt ∧ (d).toInt ≤ (k).toInt ∧ (k).toInt ≤ 9999) ∧ (iv 4 2).toInt < 8 ∧ ((-100002) : Int32).toInt = (iv 4 2).toInt + 1 ∧ ((iv 4 2) : Int32).toInt = (iv 4 2).toInt + 1)) from by omega), ⟨by decide, by decide⟩, rfl⟩, by rw [ht9]; exact hP9, hD9⟩, hS.F ht9⟩) hS.2.2 dX11_shared_24
  · skip
    refine lv_if_eq (tgt := 22) hx hb dX11_shared_8 (by decide) (fun c19 => ?_) (fun c19 => ?_)
    · skip
      refine lv_ldc hx hb hown (ht _ m_456) dX11_shared_22 ?_
      have : ((-100002) : Int32).toInt = (-100002) := (by decide)
      have i_4_2 : 0 ≤ (iv 4 2).toInt ∧ (iv 4 2).toInt ≤ 8 := hI.1 4 2
      have hP9 : va_P (dC, dI) classes (WX h g ca (u2 iv 4 2 (iv 4 2)) lv (u2 (u2 fa 4 0 (fa 4 0)) 4 1 (fa 4 1)) la) s.heap := hP
      have hD9 : va_D A (WX h g ca (u2 iv 4 2 (iv 4 2)) lv (u2 (u2 fa 4 0 (fa 4 0)) 4 1 (fa 4 1)) la) := hD
      exact W.iret (v := (-100002)) hx hb hr (fun t ht9 hW => ⟨⟨(-100002), ((u2 iv 4 2 (iv 4 2)), lv, (u2 (u2 fa 4 0 (fa 4 0)) 4 1 (fa 4 1)), la), rfl, ⟨(fa 4 0), (fa 4 1), (iv 4 2), (hI.1 4 2), (show ((((-100002) : Int32).toInt = -100002 ∧ ¬ (1 ≤ (a).toInt ∧ (a).toInt ≤ (b).toInt ∧ (b).toInt ≤ 9999 ∧ 1 ≤ (d).toInt ∧ (d).toInt ≤ (k).toInt ∧ (k).toInt ≤ 9999) ∧ ((iv 4 2) : Int32).toInt = (iv 4 2).toInt) ∨ (((-100002) : Int32).toInt = -100004 ∧ (1 ≤ (a).toInt ∧ (a).toInt ≤ (b).toInt ∧ (b).toInt ≤ 9999 ∧ 1 ≤ (d).toInt ∧ (d).toInt ≤ (k).toInt ∧ (k).toInt ≤ 9999) ∧ 8 ≤ (iv 4 2).toInt ∧ ((iv 4 2) : Int32).toInt = (iv 4 2).toInt) ∨ ((1 ≤ (a).toInt ∧ (a).toInt ≤ (b).toInt ∧ (b).toInt ≤ 9999 ∧ 1 ≤ (d).toInt ∧ (d).toInt ≤ (k).toInt ∧ (k).toInt ≤ 9999) ∧ (iv 4 2).toInt < 8 ∧ ((-100002) : Int32).toInt = (iv 4 2).toInt + 1 ∧ ((iv 4 2) : Int32).toInt = (iv 4 2).toInt + 1)) from by omega), ⟨by decide, by decide⟩, rfl⟩, by rw [ht9]; exact hP9, hD9⟩, hS.F ht9⟩) hS.2.2 dX11_shared_24
    · exact absurd rfl c19
set_option maxHeartbeats 4000000 in
set_option maxRecDepth 100000 in
/-- X12_shared -/
theorem c_X12_shared_x (l : Launch) (dC : Nat → ClassId) (dI : Nat → Nat → Nat) (sz : Nat) (h : Nat) (g : Nat → Nat → Nat) (ca : Nat → Nat → ClassId) (iv : Nat → Nat → Int32) (lv : Nat → Nat → Int64) (fa : Nat → Nat → Nat → Int32) (la : Nat → Nat → Nat → Int64) (hI : IX iv fa) (a : Int32) (b : Int32) (d : Int32) (k : Int32) : Met l yX12_shared (wc yX12_shared cX12_shared 5 (some .int)) ({ frames := 1, cells := 0, slots := 0, locals := 25 } : Room) (pW (dC, dI) classes (WM h g ca iv lv fa la) (TM ca) sz [.ref h, .int a, .int b, .int d, .int k]) (va_Qi (fun r (u : SS) => ∃ (na_12_63 : Nat → Int32) (na_12_64 : Nat → Int32) (ni_12_62 : Int32), inb (bI 12 62) ni_12_62 ∧ (((r.toInt = -100002 ∧ ¬ (1 ≤ a.toInt ∧ a.toInt ≤ b.toInt ∧ b.toInt ≤ 9999 ∧ 1 ≤ d.toInt ∧ d.toInt ≤ k.toInt ∧ k.toInt ≤ 9999) ∧ (ni_12_62).toInt = (iv 12 62).toInt) ∨ (r.toInt = -100004 ∧ (1 ≤ a.toInt ∧ a.toInt ≤ b.toInt ∧ b.toInt ≤ 9999 ∧ 1 ≤ d.toInt ∧ d.toInt ≤ k.toInt ∧ k.toInt ≤ 9999) ∧ 8 ≤ (iv 12 62).toInt ∧ (ni_12_62).toInt = (iv 12 62).toInt) ∨ ((1 ≤ a.toInt ∧ a.toInt ≤ b.toInt ∧ b.toInt ≤ 9999 ∧ 1 ≤ d.toInt ∧ d.toInt ≤ k.toInt ∧ k.toInt ≤ 9999) ∧ (iv 12 62).toInt < 8 ∧ r.toInt = (iv 12 62).toInt + 1 ∧ (ni_12_62).toInt = (iv 12 62).toInt + 1))) ∧ ((-100004) ≤ r.toInt ∧ r.toInt ≤ 8) ∧ u = ((u2 iv 12 62 ni_12_62), lv, (u2 (u2 fa 12 63 na_12_63) 12 64 na_12_64), la)) (bM (dC, dI) h g ca (va_A (WM h g ca iv lv fa la) sz)) (va_A (WM h g ca iv lv fa la) sz)) 0 0 (va_A (WM h g ca iv lv fa la) sz) := by
  refine Met.ofW (cc := cX12_shared) (maxL := 5) (ret := (some .int)) (by decide) rfl ?_
  intro p e s m args below meth c s₁ B hml hv
  obtain ⟨rfl, hsz, hP, hK, hD0⟩ := hv
  have hx := B.exec
  have hb := B.bytes
  have hr := B.returns
  have ht := tb_tl (atoms_spec (ws := wc yX12_shared cX12_shared 5 (some .int)) B.pre)
  have hown : s.vm.findClass RX12 = some m.cls := findClass_of_methodNamed B.named
  have hlocks := B.notSynchronized
  subst hsz
  have hD := hD0.self (sz := s.heap.size)
  generalize hAe : va_A (WM h g ca iv lv fa la) s.heap.size = A at hD ⊢
  have hA : ∀ q : Nat, s.heap.size ≤ q → A q := fun q h => by rw [← hAe]; exact Or.inr h
  have hS : va_S A s.heap s.heap [] := va_S.rf
  have hl := lv_entry [.ref h, .int a, .int b, .int d, .int k] (n := 5) (Nat.le_of_ble_eq_true rfl)
  rw [lg_entry_eq]
  generalize (lg_sl [.ref h, .int a, .int b, .int d, .int k] ++ List.replicate (5 - (lg_sl [.ref h, .int a, .int b, .int d, .int k]).length) Slot.unset).toArray = ls at hl ⊢
  have hl : lv_has ls 5 [(0, .ref h), (1, .int a), (2, .int b), (3, .int d), (4, .int k)] := hl
  refine lv_iload_n hx hb dX12_shared_0 rfl (lv_at hl 1 rfl) ?_
  refine lv_i2l (v := (a.toInt64)) hx hb dX12_shared_1 rfl ?_
  refine lv_lconst (v := 1) hx hb dX12_shared_2 (by decide) ?_
  refine lv_iload_n hx hb dX12_shared_3 rfl (lv_at hl 2 rfl) ?_
  refine lv_i2l (v := (b.toInt64)) hx hb dX12_shared_4 rfl ?_
  refine vp_callSi (W.runS (As := [.long (a.toInt64), .long 1, .long (b.toInt64)]) (rest := []) ⟨hx, hb, hml, hown, ht⟩ (c_X12_in l dC dI (a.toInt64) 1 (b.toInt64) (a.toInt) (1) (b.toInt) ((Int32.toInt_toInt64 a).trans rfl) (by decide : (1 : Int64).toInt = 1) ((Int32.toInt_toInt64 b).trans rfl)) (kS 3 ht m_1370 m_1371 m_89 m_1372 rfl rfl hd_X12_in_v ⟨Nat.le_of_ble_eq_true rfl, Nat.le_of_ble_eq_true rfl⟩) (sR noP (hK.sub (tys' := []) [] rfl)) rfl rfl hl.1 rfl (lv_room (Nat.le_of_ble_eq_true rfl)) dX12_shared_5 ⟨Nat.le_of_ble_eq_true rfl, Nat.le_of_ble_eq_true rfl⟩) (fun r1 hr1 => ?_)
  rcases hr1 with ⟨rfl, fr1⟩ | ⟨rfl, fr1⟩
  · skip
    refine lv_if_eq (tgt := 38) hx hb dX12_shared_8 (by decide) (fun c2 => ?_) (fun c2 => ?_)
    · exact absurd c2 (by decide)
    · skip
      refine lv_iload_n hx hb dX12_shared_11 rfl (lv_at hl 2 rfl) ?_
      refine lv_sipush (v := 9999) hx hb dX12_shared_12 (by decide) ?_
      refine lv_icmp_gt (tgt := 38) hx hb dX12_shared_15 (by decide) (fun c3 => ?_) (fun c3 => ?_)
      · have fc3 := z_lt (by decide : (9999 : Int32).toInt = 9999) (rfl : (b).toInt = _) c3
        refine lv_ldc hx hb hown (ht _ m_1373) dX12_shared_38 ?_
        have : ((-100002) : Int32).toInt = (-100002) := (by decide)
        have i_12_62 : 0 ≤ (iv 12 62).toInt ∧ (iv 12 62).toInt ≤ 8 := hI.1 12 62
        have hP9 : va_P (dC, dI) classes (WM h g ca (u2 iv 12 62 (iv 12 62)) lv (u2 (u2 fa 12 63 (fa 12 63)) 12 64 (fa 12 64)) la) s.heap := hP
        have hD9 : va_D A (WM h g ca (u2 iv 12 62 (iv 12 62)) lv (u2 (u2 fa 12 63 (fa 12 63)) 12 64 (fa 12 64)) la) := hD
        exact W.iret (v := (-100002)) hx hb hr (fun t ht9 hW => ⟨⟨(-100002), ((u2 iv 12 62 (iv 12 62)), lv, (u2 (u2 fa 12 63 (fa 12 63)) 12 64 (fa 12 64)), la), rfl, ⟨(fa 12 63), (fa 12 64), (iv 12 62), (hI.1 12 62), (show ((((-100002) : Int32).toInt = -100002 ∧ ¬ (1 ≤ (a).toInt ∧ (a).toInt ≤ (b).toInt ∧ (b).toInt ≤ 9999 ∧ 1 ≤ (d).toInt ∧ (d).toInt ≤ (k).toInt ∧ (k).toInt ≤ 9999) ∧ ((iv 12 62) : Int32).toInt = (iv 12 62).toInt) ∨ (((-100002) : Int32).toInt = -100004 ∧ (1 ≤ (a).toInt ∧ (a).toInt ≤ (b).toInt ∧ (b).toInt ≤ 9999 ∧ 1 ≤ (d).toInt ∧ (d).toInt ≤ (k).toInt ∧ (k).toInt ≤ 9999) ∧ 8 ≤ (iv 12 62).toInt ∧ ((iv 12 62) : Int32).toInt = (iv 12 62).toInt) ∨ ((1 ≤ (a).toInt ∧ (a).toInt ≤ (b).toInt ∧ (b).toInt ≤ 9999 ∧ 1 ≤ (d).toInt ∧ (d).toInt ≤ (k).toInt ∧ (k).toInt ≤ 9999) ∧ (iv 12 62).toInt < 8 ∧ ((-100002) : Int32).toInt = (iv 12 62).toInt + 1 ∧ ((iv 12 62) : Int32).toInt = (iv 12 62).toInt + 1)) from by omega), ⟨by decide, by decide⟩, rfl⟩, by rw [ht9]; exact hP9, hD9⟩, hS.F ht9⟩) hS.2.2 dX12_shared_40
      · have fc3 := z_nlt (by decide : (9999 : Int32).toInt = 9999) (rfl : (b).toInt = _) c3
        refine lv_iload_n hx hb dX12_shared_18 rfl (lv_at hl 3 rfl) ?_
        refine lv_i2l (v := (d.toInt64)) hx hb dX12_shared_19 rfl ?_
        refine lv_lconst (v := 1) hx hb dX12_shared_20 (by decide) ?_
        refine lv_iload hx hb dX12_shared_21 (lv_at hl 4 rfl) ?_
        refine lv_i2l (v := (k.toInt64)) hx hb dX12_shared_23 rfl ?_
        refine vp_callSi (W.runS (As := [.long (d.toInt64), .long 1, .long (k.toInt64)]) (rest := []) ⟨hx, hb, hml, hown, ht⟩ (c_X12_in l dC dI (d.toInt64) 1 (k.toInt64) (d.toInt) (1) (k.toInt) ((Int32.toInt_toInt64 d).trans rfl) (by decide : (1 : Int64).toInt = 1) ((Int32.toInt_toInt64 k).trans rfl)) (kS 3 ht m_1370 m_1371 m_89 m_1372 rfl rfl hd_X12_in_v ⟨Nat.le_of_ble_eq_true rfl, Nat.le_of_ble_eq_true rfl⟩) (sR noP (hK.sub (tys' := []) [] rfl)) rfl rfl hl.1 rfl (lv_room (Nat.le_of_ble_eq_true rfl)) dX12_shared_24 ⟨Nat.le_of_ble_eq_true rfl, Nat.le_of_ble_eq_true rfl⟩) (fun r4 hr4 => ?_)
        rcases hr4 with ⟨rfl, fr4⟩ | ⟨rfl, fr4⟩
        · skip
          refine lv_if_eq (tgt := 38) hx hb dX12_shared_27 (by decide) (fun c5 => ?_) (fun c5 => ?_)
          · exact absurd c5 (by decide)
          · skip
            refine lv_iload hx hb dX12_shared_30 (lv_at hl 4 rfl) ?_
            refine lv_sipush (v := 9999) hx hb dX12_shared_32 (by decide) ?_
            refine lv_icmp_le (tgt := 41) hx hb dX12_shared_35 (by decide) (fun c6 => ?_) (fun c6 => ?_)
            · have fc6 := z_le (rfl : (k).toInt = _) (by decide : (9999 : Int32).toInt = 9999) c6
              refine lv_aload_n hx hb dX12_shared_41 rfl (lv_at hl 0 rfl) ?_
              have i_12_62 : 0 ≤ (iv 12 62).toInt ∧ (iv 12 62).toInt ≤ 8 := hI.1 12 62
              refine gM_12_62 hx hb ht hown hK hP m_1201 (v := (iv 12 62)) rfl dX12_shared_42 ?_
              refine lv_bipush (v := 8) hx hb dX12_shared_45 (by decide) ?_
              refine lv_icmp_ne (tgt := 53) hx hb dX12_shared_47 (by decide) (fun c7 => ?_) (fun c7 => ?_)
              · have fc7 := z_ne (rfl : ((iv 12 62)).toInt = _) (by decide : (8 : Int32).toInt = 8) c7
                refine lv_aload_n hx hb dX12_shared_53 rfl (lv_at hl 0 rfl) ?_
                refine gM_12_63 hx hb ht hown hK hP m_1202 dX12_shared_54 ?_
                refine lv_aload_n hx hb dX12_shared_57 rfl (lv_at hl 0 rfl) ?_
                refine gM_12_62 hx hb ht hown hK hP m_1201 (v := (iv 12 62)) rfl dX12_shared_58 ?_
                refine lv_iload_n hx hb dX12_shared_61 rfl (lv_at hl 1 rfl) ?_
                refine lv_iload hx hb dX12_shared_62 (lv_at hl 4 rfl) ?_
                refine lv_isub hx hb dX12_shared_64 ?_
                refine lv_topi (fun v8 ev8 => ?_)
                have tv8 := z_sub ev8 (rfl : (a).toInt = _) (rfl : (k).toInt = _) (by omega) (by omega)
                refine tM_12_63 hx hb hK hP hD hS (f0 := (fa 12 63)) rfl (i := (iv 12 62)) (x := v8) (vp_in_iff.mpr ⟨by omega, by omega⟩) dX12_shared_65 (fun f9 ef9 H locs hP hD hS => ?_)
                have hf9 : ∀ j, inb (bA 12 63 j) (f9 j) := fun j => full_i _
                refine lv_aload_n hx hb dX12_shared_66 rfl (lv_at hl 0 rfl) ?_
                refine gM_12_64 hx hb ht hown hK hP m_1203 dX12_shared_67 ?_
                refine lv_aload_n hx hb dX12_shared_70 rfl (lv_at hl 0 rfl) ?_
                refine gM_12_62 hx hb ht hown hK hP m_1201 (v := (iv 12 62)) rfl dX12_shared_71 ?_
                refine lv_iload_n hx hb dX12_shared_74 rfl (lv_at hl 2 rfl) ?_
                refine lv_iload_n hx hb dX12_shared_75 rfl (lv_at hl 3 rfl) ?_
                refine lv_isub hx hb dX12_shared_76 ?_
                refine lv_topi (fun v10 ev10 => ?_)
                have tv10 := z_sub ev10 (rfl : (b).toInt = _) (rfl : (d).toInt = _) (by omega) (by omega)
                refine tM_12_64 hx hb hK hP hD hS (f0 := (fa 12 64)) rfl (i := (iv 12 62)) (x := v10) (vp_in_iff.mpr ⟨by omega, by omega⟩) dX12_shared_77 (fun f11 ef11 H locs hP hD hS => ?_)
                have hf11 : ∀ j, inb (bA 12 64 j) (f11 j) := fun j => full_i _
                refine lv_aload_n hx hb dX12_shared_78 rfl (lv_at hl 0 rfl) ?_
                refine lv_dup hx hb dX12_shared_79 rfl ?_
                refine gM_12_62 hx hb ht hown hK hP m_1201 (v := (iv 12 62)) rfl dX12_shared_80 ?_
                refine lv_iconst (v := 1) hx hb dX12_shared_83 (by decide) ?_
                refine lv_iadd hx hb dX12_shared_84 ?_
                refine lv_topi (fun v12 ev12 => ?_)
                have tv12 := z_add ev12 (rfl : ((iv 12 62)).toInt = _) (by decide : (1 : Int32).toInt = 1) (by omega) (by omega)
                refine pM_12_62 (v := v12) hx hb ht hown hK hP hD hS m_1201 dX12_shared_85 (fun H locs hP hD hS => ?_)
                refine lv_aload_n hx hb dX12_shared_88 rfl (lv_at hl 0 rfl) ?_
                refine gM_12_62 hx hb ht hown hK hP m_1201 (v := v12) rfl dX12_shared_89 ?_
                have hP9 : va_P (dC, dI) classes (WM h g ca (u2 iv 12 62 v12) lv (u2 (u2 fa 12 63 f9) 12 64 f11) la) H := hP
                have hD9 : va_D A (WM h g ca (u2 iv 12 62 v12) lv (u2 (u2 fa 12 63 f9) 12 64 f11) la) := hD
                exact W.iret (v := v12) hx hb hr (fun t ht9 hW => ⟨⟨v12, ((u2 iv 12 62 v12), lv, (u2 (u2 fa 12 63 f9) 12 64 f11), la), rfl, ⟨f9, f11, v12, (show inb (0, 8) v12 from ⟨by omega, by omega⟩), (show (((v12 : Int32).toInt = -100002 ∧ ¬ (1 ≤ (a).toInt ∧ (a).toInt ≤ (b).toInt ∧ (b).toInt ≤ 9999 ∧ 1 ≤ (d).toInt ∧ (d).toInt ≤ (k).toInt ∧ (k).toInt ≤ 9999) ∧ (v12 : Int32).toInt = (iv 12 62).toInt) ∨ ((v12 : Int32).toInt = -100004 ∧ (1 ≤ (a).toInt ∧ (a).toInt ≤ (b).toInt ∧ (b).toInt ≤ 9999 ∧ 1 ≤ (d).toInt ∧ (d).toInt ≤ (k).toInt ∧ (k).toInt ≤ 9999) ∧ 8 ≤ (iv 12 62).toInt ∧ (v12 : Int32).toInt = (iv 12 62).toInt) ∨ ((1 ≤ (a).toInt ∧ (a).toInt ≤ (b).toInt ∧ (b).toInt ≤ 9999 ∧ 1 ≤ (d).toInt ∧ (d).toInt ≤ (k).toInt ∧ (k).toInt ≤ 9999) ∧ (iv 12 62).toInt < 8 ∧ (v12 : Int32).toInt = (iv 12 62).toInt + 1 ∧ (v12 : Int32).toInt = (iv 12 62).toInt + 1)) from by omega), ⟨by omega, by omega⟩, rfl⟩, by rw [ht9]; exact hP9, hD9⟩, hS.F ht9⟩) hS.2.2 dX12_shared_92
              · have fc7 := z_eq (rfl : ((iv 12 62)).toInt = _) (by decide : (8 : Int32).toInt = 8) c7
                refine lv_ldc hx hb hown (ht _ m_1380) dX12_shared_50 ?_
                have : ((-100004) : Int32).toInt = (-100004) := (by decide)
                have hP9 : va_P (dC, dI) classes (WM h g ca (u2 iv 12 62 (iv 12 62)) lv (u2 (u2 fa 12 63 (fa 12 63)) 12 64 (fa 12 64)) la) s.heap := hP
                have hD9 : va_D A (WM h g ca (u2 iv 12 62 (iv 12 62)) lv (u2 (u2 fa 12 63 (fa 12 63)) 12 64 (fa 12 64)) la) := hD
                exact W.iret (v := (-100004)) hx hb hr (fun t ht9 hW => ⟨⟨(-100004), ((u2 iv 12 62 (iv 12 62)), lv, (u2 (u2 fa 12 63 (fa 12 63)) 12 64 (fa 12 64)), la), rfl, ⟨(fa 12 63), (fa 12 64), (iv 12 62), (hI.1 12 62), (show ((((-100004) : Int32).toInt = -100002 ∧ ¬ (1 ≤ (a).toInt ∧ (a).toInt ≤ (b).toInt ∧ (b).toInt ≤ 9999 ∧ 1 ≤ (d).toInt ∧ (d).toInt ≤ (k).toInt ∧ (k).toInt ≤ 9999) ∧ ((iv 12 62) : Int32).toInt = (iv 12 62).toInt) ∨ (((-100004) : Int32).toInt = -100004 ∧ (1 ≤ (a).toInt ∧ (a).toInt ≤ (b).toInt ∧ (b).toInt ≤ 9999 ∧ 1 ≤ (d).toInt ∧ (d).toInt ≤ (k).toInt ∧ (k).toInt ≤ 9999) ∧ 8 ≤ (iv 12 62).toInt ∧ ((iv 12 62) : Int32).toInt = (iv 12 62).toInt) ∨ ((1 ≤ (a).toInt ∧ (a).toInt ≤ (b).toInt ∧ (b).toInt ≤ 9999 ∧ 1 ≤ (d).toInt ∧ (d).toInt ≤ (k).toInt ∧ (k).toInt ≤ 9999) ∧ (iv 12 62).toInt < 8 ∧ ((-100004) : Int32).toInt = (iv 12 62).toInt + 1 ∧ ((iv 12 62) : Int32).toInt = (iv 12 62).toInt + 1)) from by omega), ⟨by decide, by decide⟩, rfl⟩, by rw [ht9]; exact hP9, hD9⟩, hS.F ht9⟩) hS.2.2 dX12_shared_52
            · have fc6 := z_nle (rfl : (k).toInt = _) (by decide : (9999 : Int32).toInt = 9999) c6
              refine lv_ldc hx hb hown (ht _ m_1373) dX12_shared_38 ?_
              have : ((-100002) : Int32).toInt = (-100002) := (by decide)
              have i_12_62 : 0 ≤ (iv 12 62).toInt ∧ (iv 12 62).toInt ≤ 8 := hI.1 12 62
              have hP9 : va_P (dC, dI) classes (WM h g ca (u2 iv 12 62 (iv 12 62)) lv (u2 (u2 fa 12 63 (fa 12 63)) 12 64 (fa 12 64)) la) s.heap := hP
              have hD9 : va_D A (WM h g ca (u2 iv 12 62 (iv 12 62)) lv (u2 (u2 fa 12 63 (fa 12 63)) 12 64 (fa 12 64)) la) := hD
              exact W.iret (v := (-100002)) hx hb hr (fun t ht9 hW => ⟨⟨(-100002), ((u2 iv 12 62 (iv 12 62)), lv, (u2 (u2 fa 12 63 (fa 12 63)) 12 64 (fa 12 64)), la), rfl, ⟨(fa 12 63), (fa 12 64), (iv 12 62), (hI.1 12 62), (show ((((-100002) : Int32).toInt = -100002 ∧ ¬ (1 ≤ (a).toInt ∧ (a).toInt ≤ (b).toInt ∧ (b).toInt ≤ 9999 ∧ 1 ≤ (d).toInt ∧ (d).toInt ≤ (k).toInt ∧ (k).toInt ≤ 9999) ∧ ((iv 12 62) : Int32).toInt = (iv 12 62).toInt) ∨ (((-100002) : Int32).toInt = -100004 ∧ (1 ≤ (a).toInt ∧ (a).toInt ≤ (b).toInt ∧ (b).toInt ≤ 9999 ∧ 1 ≤ (d).toInt ∧ (d).toInt ≤ (k).toInt ∧ (k).toInt ≤ 9999) ∧ 8 ≤ (iv 12 62).toInt ∧ ((iv 12 62) : Int32).toInt = (iv 12 62).toInt) ∨ ((1 ≤ (a).toInt ∧ (a).toInt ≤ (b).toInt ∧ (b).toInt ≤ 9999 ∧ 1 ≤ (d).toInt ∧ (d).toInt ≤ (k).toInt ∧ (k).toInt ≤ 9999) ∧ (iv 12 62).toInt < 8 ∧ ((-100002) : Int32).toInt = (iv 12 62).toInt + 1 ∧ ((iv 12 62) : Int32).toInt = (iv 12 62).toInt + 1)) from by omega), ⟨by decide, by decide⟩, rfl⟩, by rw [ht9]; exact hP9, hD9⟩, hS.F ht9⟩) hS.2.2 dX12_shared_40
        · skip
          refine lv_if_eq (tgt := 38) hx hb dX12_shared_27 (by decide) (fun c13 => ?_) (fun c13 => ?_)
          · skip
            refine lv_ldc hx hb hown (ht _ m_1373) dX12_shared_38 ?_
            have : ((-100002) : Int32).toInt = (-100002) := (by decide)
            have i_12_62 : 0 ≤ (iv 12 62).toInt ∧ (iv 12 62).toInt ≤ 8 := hI.1 12 62
            have hP9 : va_P (dC, dI) classes (WM h g ca (u2 iv 12 62 (iv 12 62)) lv (u2 (u2 fa 12 63 (fa 12 63)) 12 64 (fa 12 64)) la) s.heap := hP
            have hD9 : va_D A (WM h g ca (u2 iv 12 62 (iv 12 62)) lv (u2 (u2 fa 12 63 (fa 12 63)) 12 64 (fa 12 64)) la) := hD
            exact W.iret (v := (-100002)) hx hb hr (fun t ht9 hW => ⟨⟨(-100002), ((u2 iv 12 62 (iv 12 62)), lv, (u2 (u2 fa 12 63 (fa 12 63)) 12 64 (fa 12 64)), la), rfl, ⟨(fa 12 63), (fa 12 64), (iv 12 62), (hI.1 12 62), (show ((((-100002) : Int32).toInt = -100002 ∧ ¬ (1 ≤ (a).toInt ∧ (a).toInt ≤ (b).toInt ∧ (b).toInt ≤ 9999 ∧ 1 ≤ (d).toInt ∧ (d).toInt ≤ (k).toInt ∧ (k).toInt ≤ 9999) ∧ ((iv 12 62) : Int32).toInt = (iv 12 62).toInt) ∨ (((-100002) : Int32).toInt = -100004 ∧ (1 ≤ (a).toInt ∧ (a).toInt ≤ (b).toInt ∧ (b).toInt ≤ 9999 ∧ 1 ≤ (d).toInt ∧ (d).toInt ≤ (k).toInt ∧ (k).toInt ≤ 9999) ∧ 8 ≤ (iv 12 62).toInt ∧ ((iv 12 62) : Int32).toInt = (iv 12 62).toInt) ∨ ((1 ≤ (a).toInt ∧ (a).toInt ≤ (b).toInt ∧ (b).toInt ≤ 9999 ∧ 1 ≤ (d).toInt ∧ (d).toInt ≤ (k).toInt ∧ (k).toInt ≤ 9999) ∧ (iv 12 62).toInt < 8 ∧ ((-100002) : Int32).toInt = (iv 12 62).toInt + 1 ∧ ((iv 12 62) : Int32).toInt = (iv 12 62).toInt + 1)) from by omega), ⟨by decide, by decide⟩, rfl⟩, by rw [ht9]; exact hP9, hD9⟩, hS.F ht9⟩) hS.2.2 dX12_shared_40
          · exact absurd rfl c13
  · skip
    refine lv_if_eq (tgt := 38) hx hb dX12_shared_8 (by decide) (fun c14 => ?_) (fun c14 => ?_)
    · skip
      refine lv_ldc hx hb hown (ht _ m_1373) dX12_shared_38 ?_
      have : ((-100002) : Int32).toInt = (-100002) := (by decide)
      have i_12_62 : 0 ≤ (iv 12 62).toInt ∧ (iv 12 62).toInt ≤ 8 := hI.1 12 62
      have hP9 : va_P (dC, dI) classes (WM h g ca (u2 iv 12 62 (iv 12 62)) lv (u2 (u2 fa 12 63 (fa 12 63)) 12 64 (fa 12 64)) la) s.heap := hP
      have hD9 : va_D A (WM h g ca (u2 iv 12 62 (iv 12 62)) lv (u2 (u2 fa 12 63 (fa 12 63)) 12 64 (fa 12 64)) la) := hD
      exact W.iret (v := (-100002)) hx hb hr (fun t ht9 hW => ⟨⟨(-100002), ((u2 iv 12 62 (iv 12 62)), lv, (u2 (u2 fa 12 63 (fa 12 63)) 12 64 (fa 12 64)), la), rfl, ⟨(fa 12 63), (fa 12 64), (iv 12 62), (hI.1 12 62), (show ((((-100002) : Int32).toInt = -100002 ∧ ¬ (1 ≤ (a).toInt ∧ (a).toInt ≤ (b).toInt ∧ (b).toInt ≤ 9999 ∧ 1 ≤ (d).toInt ∧ (d).toInt ≤ (k).toInt ∧ (k).toInt ≤ 9999) ∧ ((iv 12 62) : Int32).toInt = (iv 12 62).toInt) ∨ (((-100002) : Int32).toInt = -100004 ∧ (1 ≤ (a).toInt ∧ (a).toInt ≤ (b).toInt ∧ (b).toInt ≤ 9999 ∧ 1 ≤ (d).toInt ∧ (d).toInt ≤ (k).toInt ∧ (k).toInt ≤ 9999) ∧ 8 ≤ (iv 12 62).toInt ∧ ((iv 12 62) : Int32).toInt = (iv 12 62).toInt) ∨ ((1 ≤ (a).toInt ∧ (a).toInt ≤ (b).toInt ∧ (b).toInt ≤ 9999 ∧ 1 ≤ (d).toInt ∧ (d).toInt ≤ (k).toInt ∧ (k).toInt ≤ 9999) ∧ (iv 12 62).toInt < 8 ∧ ((-100002) : Int32).toInt = (iv 12 62).toInt + 1 ∧ ((iv 12 62) : Int32).toInt = (iv 12 62).toInt + 1)) from by omega), ⟨by decide, by decide⟩, rfl⟩, by rw [ht9]; exact hP9, hD9⟩, hS.F ht9⟩) hS.2.2 dX12_shared_40
    · exact absurd rfl c14
