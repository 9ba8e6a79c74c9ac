/-! ===== pa3 ===== -/
set_option maxHeartbeats 4000000 in
set_option maxRecDepth 100000 in
/-- X11_bill -/
theorem c_X11_bill_w (l : Launch) (dC : Nat → ClassId) (dI : Nat → Nat → Nat) (sz : Nat) (h : Nat) (g : Nat → Nat → Nat) (ca : Nat → Nat → ClassId) (iv : Nat → Nat → Int32) (lv : Nat → Nat → Int64) (fa : Nat → Nat → Nat → Int32) (la : Nat → Nat → Nat → Int64) (hI : IX iv fa) (a : Int32) (b : Int32) (hJP : ∀ p : Nat, (p : Int) < (iv 6 7).toInt → 0 ≤ (fa 6 2 p).toInt ∧ ((fa 6 0 p).toInt = 0 → (fa 6 2 p).toInt ≤ 129998) ∧ (fa 6 2 p).toInt ≤ 129868002 ∧ -1 ≤ (fa 6 3 p).toInt ∧ (fa 6 3 p).toInt < (p : Int)) : Met l yX11_bill (wc yX11_bill cX11_bill 3 (some .int)) ({ frames := 1, cells := 0, slots := 0, locals := 26 } : Room) (pW (dC, dI) classes (WX h g ca iv lv fa la) (TX ca) sz [.ref h, .int a, .int b]) (va_Qi (fun r (u : SS) => ∃ (na_6_0 : Nat → Int32) (na_6_1 : Nat → Int32) (na_6_2 : Nat → Int32) (na_6_3 : Nat → Int32) (na_6_4 : Nat → Int32) (na_6_5 : Nat → Int32) (ni_6_7 : Int32), (∀ j, inb (bA 6 3 j) (na_6_3 j)) ∧ inb (bI 6 7) ni_6_7 ∧ (((r.toInt = -100001 ∧ ¬ (0 ≤ a.toInt ∧ a.toInt < (iv 6 7).toInt) ∧ SmX (fa 6 0) (fa 6 1) (fa 6 2) (fa 6 3) (fa 6 4) (fa 6 5) na_6_0 na_6_1 na_6_2 na_6_3 na_6_4 na_6_5 ∧ (ni_6_7).toInt = (iv 6 7).toInt) ∨ (r.toInt = -100002 ∧ (0 ≤ a.toInt ∧ a.toInt < (iv 6 7).toInt) ∧ ¬ (0 ≤ b.toInt ∧ b.toInt ≤ 999) ∧ SmX (fa 6 0) (fa 6 1) (fa 6 2) (fa 6 3) (fa 6 4) (fa 6 5) na_6_0 na_6_1 na_6_2 na_6_3 na_6_4 na_6_5 ∧ (ni_6_7).toInt = (iv 6 7).toInt) ∨ (r.toInt = -100003 ∧ (0 ≤ a.toInt ∧ a.toInt < (iv 6 7).toInt) ∧ (0 ≤ b.toInt ∧ b.toInt ≤ 999) ∧ ¬ StX (fa 6 0) (fa 6 5) (a.toInt).toNat ∧ SmX (fa 6 0) (fa 6 1) (fa 6 2) (fa 6 3) (fa 6 4) (fa 6 5) na_6_0 na_6_1 na_6_2 na_6_3 na_6_4 na_6_5 ∧ (ni_6_7).toInt = (iv 6 7).toInt) ∨ (r.toInt = -100004 ∧ (0 ≤ a.toInt ∧ a.toInt < (iv 6 7).toInt) ∧ (0 ≤ b.toInt ∧ b.toInt ≤ 999) ∧ StX (fa 6 0) (fa 6 5) (a.toInt).toNat ∧ 40 ≤ (iv 6 7).toInt ∧ SmX (fa 6 0) (fa 6 1) (fa 6 2) (fa 6 3) (fa 6 4) (fa 6 5) na_6_0 na_6_1 na_6_2 na_6_3 na_6_4 na_6_5 ∧ (ni_6_7).toInt = (iv 6 7).toInt) ∨ ((0 ≤ a.toInt ∧ a.toInt < (iv 6 7).toInt) ∧ (0 ≤ b.toInt ∧ b.toInt ≤ 999) ∧ StX (fa 6 0) (fa 6 5) (a.toInt).toNat ∧ (iv 6 7).toInt < 40 ∧ r.toInt = (iv 6 7).toInt ∧ (ni_6_7).toInt = (iv 6 7).toInt + 1 ∧ ApX ((iv 6 7).toInt).toNat (fa 6 0) (fa 6 1) (fa 6 2) (fa 6 3) (fa 6 4) (fa 6 5) na_6_0 na_6_1 na_6_2 na_6_3 na_6_4 na_6_5 1 ((fa 6 1) (a.toInt).toNat).toInt (((fa 6 2) (a.toInt).toNat).toInt * b.toInt) a.toInt (iv 11 10).toInt))) ∧ ((-100004) ≤ r.toInt ∧ r.toInt ≤ 39) ∧ u = ((u2 iv 6 7 ni_6_7), lv, (u2 (u2 (u2 (u2 (u2 (u2 fa 6 0 na_6_0) 6 1 na_6_1) 6 2 na_6_2) 6 3 na_6_3) 6 4 na_6_4) 6 5 na_6_5), la)) (bX (dC, dI) h g ca (va_A (WX h g ca iv lv fa la) sz)) (va_A (WX h g ca iv lv fa la) sz)) 0 0 (va_A (WX h g ca iv lv fa la) sz) := by
  refine Met.ofW (cc := cX11_bill) (maxL := 3) (ret := (some .int)) (by decide) rfl ?_
  intro p e s m args below meth c s₁ B hml hv
  obtain ⟨rfl, hsz, hP, hK, hD0⟩ := hv
  have hx := B.exec
  have hb := B.bytes
  have hr := B.returns
  have ht := tb_tl (atoms_spec (ws := wc yX11_bill cX11_bill 3 (some .int)) B.pre)
  have hown : s.vm.findClass RX11 = some m.cls := findClass_of_methodNamed B.named
  have hlocks := B.notSynchronized
  subst hsz
  have hD := hD0.self (sz := s.heap.size)
  generalize hAe : va_A (WX h g ca iv lv fa la) s.heap.size = A at hD ⊢
  have hA : ∀ q : Nat, s.heap.size ≤ q → A q := fun q h => by rw [← hAe]; exact Or.inr h
  have hS : va_S A s.heap s.heap [] := va_S.rf
  have hl := lv_entry [.ref h, .int a, .int b] (n := 3) (Nat.le_of_ble_eq_true rfl)
  rw [lg_entry_eq]
  generalize (lg_sl [.ref h, .int a, .int b] ++ List.replicate (3 - (lg_sl [.ref h, .int a, .int b]).length) Slot.unset).toArray = ls at hl ⊢
  have hl : lv_has ls 3 [(0, .ref h), (1, .int a), (2, .int b)] := hl
  refine lv_aload_n hx hb dX11_bill_0 rfl (lv_at hl 0 rfl) ?_
  refine gX_11_9 hx hb ht hown hK hP m_424 dX11_bill_1 ?_
  refine lv_iload_n hx hb dX11_bill_4 rfl (lv_at hl 1 rfl) ?_
  refine vp_callSi (W.runV (As := [.int a]) (rest := []) ⟨hx, hb, hml, hown, ht⟩ (c_X6_has l dC dI h g ca iv lv fa la hI a) (kV 1 ht m_1095 m_1096 m_1097 m_88 m_1098 rfl rfl hd_X6_has_v ⟨Nat.le_of_ble_eq_true rfl, Nat.le_of_ble_eq_true rfl⟩) (vR hP hK (rX_6 hK hP)) rfl rfl hl.1 rfl (lv_room (Nat.le_of_ble_eq_true rfl)) dX11_bill_5 ⟨Nat.le_of_ble_eq_true rfl, Nat.le_of_ble_eq_true rfl⟩) (fun r1 hr1 => ?_)
  rcases hr1 with ⟨rfl, fr1⟩ | ⟨rfl, fr1⟩
  · skip
    have i_6_7 : 0 ≤ (iv 6 7).toInt ∧ (iv 6 7).toInt ≤ 40 := hI.1 6 7
    have fr1 : (0 ≤ (a : Int32).toInt ∧ (a : Int32).toInt < ((iv 6 7) : Int32).toInt) := fr1
    refine lv_if_ne (tgt := 14) hx hb dX11_bill_8 (by decide) (fun c2 => ?_) (fun c2 => ?_)
    · skip
      refine lv_iload_n hx hb dX11_bill_14 rfl (lv_at hl 2 rfl) ?_
      refine lv_iconst (v := 0) hx hb dX11_bill_15 (by decide) ?_
      refine lv_sipush (v := 999) hx hb dX11_bill_16 (by decide) ?_
      refine vp_callSi (W.runS (As := [.int b, .int 0, .int 999]) (rest := []) ⟨hx, hb, hml, hown, ht⟩ (c_X11_within l dC dI b 0 999 (b.toInt) (0) (999) (rfl : (b).toInt = _) (by decide : (0 : Int32).toInt = 0) (by decide : (999 : Int32).toInt = 999)) (kS 3 ht m_453 m_454 m_77 m_455 rfl rfl hd_X11_within_v ⟨Nat.le_of_ble_eq_true rfl, Nat.le_of_ble_eq_true rfl⟩) (sR noP (hK.sub (tys' := []) [] rfl)) rfl rfl hl.1 rfl (lv_room (Nat.le_of_ble_eq_true rfl)) dX11_bill_19 ⟨Nat.le_of_ble_eq_true rfl, Nat.le_of_ble_eq_true rfl⟩) (fun r3 hr3 => ?_)
      rcases hr3 with ⟨rfl, fr3⟩ | ⟨rfl, fr3⟩
      · skip
        refine lv_if_ne (tgt := 28) hx hb dX11_bill_22 (by decide) (fun c4 => ?_) (fun c4 => ?_)
        · skip
          refine lv_aload_n hx hb dX11_bill_28 rfl (lv_at hl 0 rfl) ?_
          refine gX_11_9 hx hb ht hown hK hP m_424 dX11_bill_29 ?_
          refine lv_iload_n hx hb dX11_bill_32 rfl (lv_at hl 1 rfl) ?_
          refine vp_callSi (W.runV (As := [.int a]) (rest := []) ⟨hx, hb, hml, hown, ht⟩ (c_X6_isCertificate_w l dC dI h g ca iv lv fa la hI a ⟨by omega, by omega⟩) (kV 1 ht m_663 m_664 m_665 m_88 m_666 rfl rfl hd_X6_isCertificate_v ⟨Nat.le_of_ble_eq_true rfl, Nat.le_of_ble_eq_true rfl⟩) (vR hP hK (rX_6 hK hP)) rfl rfl hl.1 rfl (lv_room (Nat.le_of_ble_eq_true rfl)) dX11_bill_33 ⟨Nat.le_of_ble_eq_true rfl, Nat.le_of_ble_eq_true rfl⟩) (fun r5 hr5 => ?_)
          obtain ⟨hr5, xr5_0⟩ := hr5
          have xr5_0 : (((r5 : Int32).toInt = 1 ∧ ((fa 6 0) ((a : Int32).toInt).toNat).toInt = 0) ∨ ((r5 : Int32).toInt = 0 ∧ ((fa 6 0) ((a : Int32).toInt).toNat).toInt ≠ 0)) := xr5_0
          refine lv_if_eq (tgt := 50) hx hb dX11_bill_36 (by decide) (fun c6 => ?_) (fun c6 => ?_)
          · have fc6 := z_eq (rfl : (r5).toInt = _) (by decide : (0 : Int32).toInt = 0) c6
            refine lv_ldc hx hb hown (ht _ m_457) dX11_bill_50 ?_
            have : ((-100003) : Int32).toInt = (-100003) := (by decide)
            have hP9 : va_P (dC, dI) classes (WX h g ca (u2 iv 6 7 (iv 6 7)) lv (u2 (u2 (u2 (u2 (u2 (u2 fa 6 0 (fa 6 0)) 6 1 (fa 6 1)) 6 2 (fa 6 2)) 6 3 (fa 6 3)) 6 4 (fa 6 4)) 6 5 (fa 6 5)) la) s.heap := hP
            have hD9 : va_D A (WX h g ca (u2 iv 6 7 (iv 6 7)) lv (u2 (u2 (u2 (u2 (u2 (u2 fa 6 0 (fa 6 0)) 6 1 (fa 6 1)) 6 2 (fa 6 2)) 6 3 (fa 6 3)) 6 4 (fa 6 4)) 6 5 (fa 6 5)) la) := hD
            exact W.iret (v := (-100003)) hx hb hr (fun t ht9 hW => ⟨⟨(-100003), ((u2 iv 6 7 (iv 6 7)), lv, (u2 (u2 (u2 (u2 (u2 (u2 fa 6 0 (fa 6 0)) 6 1 (fa 6 1)) 6 2 (fa 6 2)) 6 3 (fa 6 3)) 6 4 (fa 6 4)) 6 5 (fa 6 5)), la), rfl, ⟨(fa 6 0), (fa 6 1), (fa 6 2), (fa 6 3), (fa 6 4), (fa 6 5), (iv 6 7), (hI.2 6 3), (hI.1 6 7), (show ((((-100003) : Int32).toInt = -100001 ∧ ¬ (0 ≤ (a).toInt ∧ (a).toInt < (iv 6 7).toInt) ∧ SmX (fa 6 0) (fa 6 1) (fa 6 2) (fa 6 3) (fa 6 4) (fa 6 5) (fa 6 0) (fa 6 1) (fa 6 2) (fa 6 3) (fa 6 4) (fa 6 5) ∧ ((iv 6 7) : Int32).toInt = (iv 6 7).toInt) ∨ (((-100003) : Int32).toInt = -100002 ∧ (0 ≤ (a).toInt ∧ (a).toInt < (iv 6 7).toInt) ∧ ¬ (0 ≤ (b).toInt ∧ (b).toInt ≤ 999) ∧ SmX (fa 6 0) (fa 6 1) (fa 6 2) (fa 6 3) (fa 6 4) (fa 6 5) (fa 6 0) (fa 6 1) (fa 6 2) (fa 6 3) (fa 6 4) (fa 6 5) ∧ ((iv 6 7) : Int32).toInt = (iv 6 7).toInt) ∨ (((-100003) : Int32).toInt = -100003 ∧ (0 ≤ (a).toInt ∧ (a).toInt < (iv 6 7).toInt) ∧ (0 ≤ (b).toInt ∧ (b).toInt ≤ 999) ∧ ¬ StX (fa 6 0) (fa 6 5) ((a).toInt).toNat ∧ SmX (fa 6 0) (fa 6 1) (fa 6 2) (fa 6 3) (fa 6 4) (fa 6 5) (fa 6 0) (fa 6 1) (fa 6 2) (fa 6 3) (fa 6 4) (fa 6 5) ∧ ((iv 6 7) : Int32).toInt = (iv 6 7).toInt) ∨ (((-100003) : Int32).toInt = -100004 ∧ (0 ≤ (a).toInt ∧ (a).toInt < (iv 6 7).toInt) ∧ (0 ≤ (b).toInt ∧ (b).toInt ≤ 999) ∧ StX (fa 6 0) (fa 6 5) ((a).toInt).toNat ∧ 40 ≤ (iv 6 7).toInt ∧ SmX (fa 6 0) (fa 6 1) (fa 6 2) (fa 6 3) (fa 6 4) (fa 6 5) (fa 6 0) (fa 6 1) (fa 6 2) (fa 6 3) (fa 6 4) (fa 6 5) ∧ ((iv 6 7) : Int32).toInt = (iv 6 7).toInt) ∨ ((0 ≤ (a).toInt ∧ (a).toInt < (iv 6 7).toInt) ∧ (0 ≤ (b).toInt ∧ (b).toInt ≤ 999) ∧ StX (fa 6 0) (fa 6 5) ((a).toInt).toNat ∧ (iv 6 7).toInt < 40 ∧ ((-100003) : Int32).toInt = (iv 6 7).toInt ∧ ((iv 6 7) : Int32).toInt = (iv 6 7).toInt + 1 ∧ ApX ((iv 6 7).toInt).toNat (fa 6 0) (fa 6 1) (fa 6 2) (fa 6 3) (fa 6 4) (fa 6 5) (fa 6 0) (fa 6 1) (fa 6 2) (fa 6 3) (fa 6 4) (fa 6 5) 1 ((fa 6 1) ((a).toInt).toNat).toInt (((fa 6 2) ((a).toInt).toNat).toInt * (b).toInt) (a).toInt (iv 11 10).toInt)) from (by have y9_0 := xr5_0; exact Or.inr (Or.inr (Or.inl ⟨by omega, ⟨by omega, by omega⟩, ⟨by omega, by omega⟩, (by unfold StX; omega), (fun j => ⟨rfl, rfl, rfl, rfl, rfl, rfl⟩), by omega⟩)))), ⟨by decide, by decide⟩, rfl⟩, by rw [ht9]; exact hP9, hD9⟩, hS.F ht9⟩) hS.2.2 dX11_bill_52
          · have fc6 := z_ne (rfl : (r5).toInt = _) (by decide : (0 : Int32).toInt = 0) c6
            refine lv_aload_n hx hb dX11_bill_39 rfl (lv_at hl 0 rfl) ?_
            refine gX_11_9 hx hb ht hown hK hP m_424 dX11_bill_40 ?_
            refine lv_iload_n hx hb dX11_bill_43 rfl (lv_at hl 1 rfl) ?_
            refine vp_callSi (W.runV (As := [.int a]) (rest := []) ⟨hx, hb, hml, hown, ht⟩ (c_X6_isUndone_w l dC dI h g ca iv lv fa la hI a ⟨by omega, by omega⟩) (kV 1 ht m_1099 m_1080 m_1081 m_88 m_1082 rfl rfl hd_X6_isUndone_v ⟨Nat.le_of_ble_eq_true rfl, Nat.le_of_ble_eq_true rfl⟩) (vR hP hK (rX_6 hK hP)) rfl rfl hl.1 rfl (lv_room (Nat.le_of_ble_eq_true rfl)) dX11_bill_44 ⟨Nat.le_of_ble_eq_true rfl, Nat.le_of_ble_eq_true rfl⟩) (fun r7 hr7 => ?_)
            obtain ⟨hr7, xr7_0⟩ := hr7
            have xr7_0 : (((r7 : Int32).toInt = 1 ∧ ((fa 6 5) ((a : Int32).toInt).toNat).toInt ≠ -1) ∨ ((r7 : Int32).toInt = 0 ∧ ((fa 6 5) ((a : Int32).toInt).toNat).toInt = -1)) := xr7_0
            refine lv_if_eq (tgt := 53) hx hb dX11_bill_47 (by decide) (fun c8 => ?_) (fun c8 => ?_)
            · have fc8 := z_eq (rfl : (r7).toInt = _) (by decide : (0 : Int32).toInt = 0) c8
              refine lv_aload_n hx hb dX11_bill_53 rfl (lv_at hl 0 rfl) ?_
              refine gX_11_9 hx hb ht hown hK hP m_424 dX11_bill_54 ?_
              refine lv_iconst (v := 1) hx hb dX11_bill_57 (by decide) ?_
              refine vp_callSi (W.runV (As := [.int 1]) (rest := []) ⟨hx, hb, hml, hown, ht⟩ (c_X6_hasRoom_b l dC dI h g ca iv lv fa la hI 1 ⟨by decide, by decide⟩) (kV 1 ht m_1083 m_1084 m_1085 m_88 m_1086 rfl rfl hd_X6_hasRoom_v ⟨Nat.le_of_ble_eq_true rfl, Nat.le_of_ble_eq_true rfl⟩) (vR hP hK (rX_6 hK hP)) rfl rfl hl.1 rfl (lv_room (Nat.le_of_ble_eq_true rfl)) dX11_bill_58 ⟨Nat.le_of_ble_eq_true rfl, Nat.le_of_ble_eq_true rfl⟩) (fun r9 hr9 => ?_)
              rcases hr9 with ⟨rfl, fr9⟩ | ⟨rfl, fr9⟩
              · skip
                have fr9 : (((iv 6 7) : Int32).toInt + 1 ≤ 40) := by have q9 := fr9; rw [show (1 : Int32).toInt = 1 from by decide] at q9; exact q9
                refine lv_if_ne (tgt := 67) hx hb dX11_bill_61 (by decide) (fun c10 => ?_) (fun c10 => ?_)
                · skip
                  refine lv_aload_n hx hb dX11_bill_67 rfl (lv_at hl 0 rfl) ?_
                  refine gX_11_9 hx hb ht hown hK hP m_424 dX11_bill_68 ?_
                  refine lv_iconst (v := 1) hx hb dX11_bill_71 (by decide) ?_
                  refine lv_aload_n hx hb dX11_bill_72 rfl (lv_at hl 0 rfl) ?_
                  refine gX_11_9 hx hb ht hown hK hP m_424 dX11_bill_73 ?_
                  refine gX_6_1 hx hb ht hown hK hP m_386 dX11_bill_76 ?_
                  refine lv_iload_n hx hb dX11_bill_79 rfl (lv_at hl 1 rfl) ?_
                  refine lX_6_1 hx hb hK hP (f := (fa 6 1)) rfl (vp_in_iff.mpr ⟨by omega, by omega⟩) dX11_bill_80 ?_
                  refine lv_topi (fun v11 ev11 => ?_)
                  refine lv_aload_n hx hb dX11_bill_81 rfl (lv_at hl 0 rfl) ?_
                  refine gX_11_9 hx hb ht hown hK hP m_424 dX11_bill_82 ?_
                  refine gX_6_2 hx hb ht hown hK hP m_388 dX11_bill_85 ?_
                  refine lv_iload_n hx hb dX11_bill_88 rfl (lv_at hl 1 rfl) ?_
                  refine lX_6_2 hx hb hK hP (f := (fa 6 2)) rfl (vp_in_iff.mpr ⟨by omega, by omega⟩) dX11_bill_89 ?_
                  refine lv_topi (fun v12 ev12 => ?_)
                  refine lv_iload_n hx hb dX11_bill_90 rfl (lv_at hl 2 rfl) ?_
                  refine lv_imul hx hb dX11_bill_91 ?_
                  refine lv_topi (fun v13 ev13 => ?_)
                  have hG9 := hJP (a.toInt).toNat (by omega)
                  have hG8 := congrArg Int32.toInt (show v12 = fa 6 2 (a.toInt).toNat from ev12)
                  have hY0 := xr5_0
                  have hY1 := xr7_0
                  have hp9 := mul_b (x := (v12 : Int32).toInt) (y := b.toInt) (a1 := 0) (a2 := 0) (b1 := 129998) (b2 := 999) (by omega) (by omega) (by omega) (by omega) (by decide) (by decide)
                  have hm9 : (v13 : Int32).toInt = (v12 : Int32).toInt * b.toInt := z_mul ev13 rfl rfl (by omega) (by omega)
                  refine lv_iload_n hx hb dX11_bill_92 rfl (lv_at hl 1 rfl) ?_
                  refine lv_aload_n hx hb dX11_bill_93 rfl (lv_at hl 0 rfl) ?_
                  have i_11_10 : 0 ≤ (iv 11 10).toInt ∧ (iv 11 10).toInt ≤ 3000 := hI.1 11 10
                  refine gX_11_10 hx hb ht hown hK hP m_425 (v := (iv 11 10)) rfl dX11_bill_94 ?_
                  have hFc := free_all hD hS hA
                  refine va_calli (va_runV (As := [.int 1, .int v11, .int v13, .int a, .int (iv 11 10)]) (rest := []) ⟨hx, hb, hml, hown, ht⟩ (c_X6_write_w l dC dI s.heap.size h g ca iv lv fa la hI 1 v11 v13 a (iv 11 10) (show 0 ≤ ((iv 6 7) : Int32).toInt ∧ ((iv 6 7) : Int32).toInt ≤ 39 from ⟨by omega, by omega⟩) ⟨by omega, by omega⟩) (kV 5 ht m_1087 m_1088 m_1089 m_88 m_1090 rfl rfl hd_X6_write_v ⟨Nat.le_of_ble_eq_true rfl, Nat.le_of_ble_eq_true rfl⟩) (vW hP hK hD (rX_6 hK hP)) rfl rfl hl.1 rfl (lv_room (Nat.le_of_ble_eq_true rfl)) dX11_bill_97 ⟨Nat.le_of_ble_eq_true rfl, Nat.le_of_ble_eq_true rfl⟩) hS (fun q _ h => hFc q h) hFc (fun r14 u t H1 locs ht9 hvm hr14 hB hz1 hk1 hS => ?_)
                  obtain ⟨n15, n16, n17, n18, n19, n20, n21, hn18, hn21, dn21, xr14_0, xr14_1, hr14, rfl⟩ := hr14
                  have hn15 : ∀ j, inb (bA 6 0 j) (n15 j) := fun j => full_i _
                  have hn16 : ∀ j, inb (bA 6 1 j) (n16 j) := fun j => full_i _
                  have hn17 : ∀ j, inb (bA 6 2 j) (n17 j) := fun j => full_i _
                  have hn19 : ∀ j, inb (bA 6 4 j) (n19 j) := fun j => full_i _
                  have hn20 : ∀ j, inb (bA 6 5 j) (n20 j) := fun j => full_i _
                  have dn21 : n21.toInt = ((iv 6 7) : Int32).toInt + 1 := dn21
                  have hn21 : 0 ≤ n21.toInt ∧ n21.toInt ≤ 40 := hn21
                  obtain ⟨hP, hD⟩ := hB
                  rw [ht9] at hP
                  generalize H1 = H at hP hS ⊢
                  have hP : va_P (dC, dI) classes (WX h g ca (u2 iv 6 7 n21) lv (u2 (u2 (u2 (u2 (u2 (u2 fa 6 0 n15) 6 1 n16) 6 2 n17) 6 3 n18) 6 4 n19) 6 5 n20) la) H := hP
                  have hD : va_D A (WX h g ca (u2 iv 6 7 n21) lv (u2 (u2 (u2 (u2 (u2 (u2 fa 6 0 n15) 6 1 n16) 6 2 n17) 6 3 n18) 6 4 n19) 6 5 n20) la) := (show va_D _ (WX h g ca (u2 iv 6 7 n21) lv (u2 (u2 (u2 (u2 (u2 (u2 fa 6 0 n15) 6 1 n16) 6 2 n17) 6 3 n18) 6 4 n19) 6 5 n20) la) from hD).weaken (fun _ _ _ h => hFc _ h)
                  have xr14_0 : (r14 : Int32).toInt = ((iv 6 7) : Int32).toInt := xr14_0
                  have : (1 : Int32).toInt = 1 := (by decide)
                  have xr14_1 : ApX (((iv 6 7) : Int32).toInt).toNat (fa 6 0) (fa 6 1) (fa 6 2) (fa 6 3) (fa 6 4) (fa 6 5) n15 n16 n17 n18 n19 n20 (1 : Int32).toInt (v11 : Int32).toInt (v13 : Int32).toInt (a : Int32).toInt ((iv 11 10) : Int32).toInt := xr14_1
                  have hP9 : va_P (dC, dI) classes (WX h g ca (u2 iv 6 7 n21) lv (u2 (u2 (u2 (u2 (u2 (u2 fa 6 0 n15) 6 1 n16) 6 2 n17) 6 3 n18) 6 4 n19) 6 5 n20) la) H := hP
                  have hD9 : va_D A (WX h g ca (u2 iv 6 7 n21) lv (u2 (u2 (u2 (u2 (u2 (u2 fa 6 0 n15) 6 1 n16) 6 2 n17) 6 3 n18) 6 4 n19) 6 5 n20) la) := hD
                  exact W.iret (v := r14) hx hb hr (fun t ht9 hW => ⟨⟨r14, ((u2 iv 6 7 n21), lv, (u2 (u2 (u2 (u2 (u2 (u2 fa 6 0 n15) 6 1 n16) 6 2 n17) 6 3 n18) 6 4 n19) 6 5 n20), la), rfl, ⟨n15, n16, n17, n18, n19, n20, n21, hn18, (show inb (0, 40) n21 from ⟨by omega, by omega⟩), (show (((r14 : Int32).toInt = -100001 ∧ ¬ (0 ≤ (a).toInt ∧ (a).toInt < (iv 6 7).toInt) ∧ SmX (fa 6 0) (fa 6 1) (fa 6 2) (fa 6 3) (fa 6 4) (fa 6 5) n15 n16 n17 n18 n19 n20 ∧ (n21 : Int32).toInt = (iv 6 7).toInt) ∨ ((r14 : Int32).toInt = -100002 ∧ (0 ≤ (a).toInt ∧ (a).toInt < (iv 6 7).toInt) ∧ ¬ (0 ≤ (b).toInt ∧ (b).toInt ≤ 999) ∧ SmX (fa 6 0) (fa 6 1) (fa 6 2) (fa 6 3) (fa 6 4) (fa 6 5) n15 n16 n17 n18 n19 n20 ∧ (n21 : Int32).toInt = (iv 6 7).toInt) ∨ ((r14 : Int32).toInt = -100003 ∧ (0 ≤ (a).toInt ∧ (a).toInt < (iv 6 7).toInt) ∧ (0 ≤ (b).toInt ∧ (b).toInt ≤ 999) ∧ ¬ StX (fa 6 0) (fa 6 5) ((a).toInt).toNat ∧ SmX (fa 6 0) (fa 6 1) (fa 6 2) (fa 6 3) (fa 6 4) (fa 6 5) n15 n16 n17 n18 n19 n20 ∧ (n21 : Int32).toInt = (iv 6 7).toInt) ∨ ((r14 : Int32).toInt = -100004 ∧ (0 ≤ (a).toInt ∧ (a).toInt < (iv 6 7).toInt) ∧ (0 ≤ (b).toInt ∧ (b).toInt ≤ 999) ∧ StX (fa 6 0) (fa 6 5) ((a).toInt).toNat ∧ 40 ≤ (iv 6 7).toInt ∧ SmX (fa 6 0) (fa 6 1) (fa 6 2) (fa 6 3) (fa 6 4) (fa 6 5) n15 n16 n17 n18 n19 n20 ∧ (n21 : Int32).toInt = (iv 6 7).toInt) ∨ ((0 ≤ (a).toInt ∧ (a).toInt < (iv 6 7).toInt) ∧ (0 ≤ (b).toInt ∧ (b).toInt ≤ 999) ∧ StX (fa 6 0) (fa 6 5) ((a).toInt).toNat ∧ (iv 6 7).toInt < 40 ∧ (r14 : Int32).toInt = (iv 6 7).toInt ∧ (n21 : Int32).toInt = (iv 6 7).toInt + 1 ∧ ApX ((iv 6 7).toInt).toNat (fa 6 0) (fa 6 1) (fa 6 2) (fa 6 3) (fa 6 4) (fa 6 5) n15 n16 n17 n18 n19 n20 1 ((fa 6 1) ((a).toInt).toNat).toInt (((fa 6 2) ((a).toInt).toNat).toInt * (b).toInt) (a).toInt (iv 11 10).toInt)) from (by have y9_0 := xr5_0; have y9_1 := xr7_0; have hb9 := congrArg Int32.toInt (show v11 = fa 6 1 (a.toInt).toNat from ev11); have ha9 := congrArg Int32.toInt (show v12 = fa 6 2 (a.toInt).toNat from ev12); have hx9 := xr14_1; rw [hb9, hm9, ha9] at hx9; rw [show (1 : Int32).toInt = 1 from by decide] at hx9; exact Or.inr (Or.inr (Or.inr (Or.inr ⟨⟨by omega, by omega⟩, ⟨by omega, by omega⟩, (by unfold StX; omega), by omega, by omega, by omega, hx9⟩))))), ⟨by omega, by omega⟩, rfl⟩, by rw [ht9]; exact hP9, hD9⟩, hS.F ht9⟩) hS.2.2 dX11_bill_100
                · exact absurd c10 (by decide)
              · skip
                have fr9 : ¬ (((iv 6 7) : Int32).toInt + 1 ≤ 40) := by have q9 := fr9; rw [show (1 : Int32).toInt = 1 from by decide] at q9; exact q9
                refine lv_if_ne (tgt := 67) hx hb dX11_bill_61 (by decide) (fun c22 => ?_) (fun c22 => ?_)
                · exact absurd rfl c22
                · skip
                  refine lv_ldc hx hb hown (ht _ m_463) dX11_bill_64 ?_
                  have : ((-100004) : Int32).toInt = (-100004) := (by decide)
                  have hP9 : va_P (dC, dI) classes (WX h g ca (u2 iv 6 7 (iv 6 7)) lv (u2 (u2 (u2 (u2 (u2 (u2 fa 6 0 (fa 6 0)) 6 1 (fa 6 1)) 6 2 (fa 6 2)) 6 3 (fa 6 3)) 6 4 (fa 6 4)) 6 5 (fa 6 5)) la) s.heap := hP
                  have hD9 : va_D A (WX h g ca (u2 iv 6 7 (iv 6 7)) lv (u2 (u2 (u2 (u2 (u2 (u2 fa 6 0 (fa 6 0)) 6 1 (fa 6 1)) 6 2 (fa 6 2)) 6 3 (fa 6 3)) 6 4 (fa 6 4)) 6 5 (fa 6 5)) la) := hD
                  exact W.iret (v := (-100004)) hx hb hr (fun t ht9 hW => ⟨⟨(-100004), ((u2 iv 6 7 (iv 6 7)), lv, (u2 (u2 (u2 (u2 (u2 (u2 fa 6 0 (fa 6 0)) 6 1 (fa 6 1)) 6 2 (fa 6 2)) 6 3 (fa 6 3)) 6 4 (fa 6 4)) 6 5 (fa 6 5)), la), rfl, ⟨(fa 6 0), (fa 6 1), (fa 6 2), (fa 6 3), (fa 6 4), (fa 6 5), (iv 6 7), (hI.2 6 3), (hI.1 6 7), (show ((((-100004) : Int32).toInt = -100001 ∧ ¬ (0 ≤ (a).toInt ∧ (a).toInt < (iv 6 7).toInt) ∧ SmX (fa 6 0) (fa 6 1) (fa 6 2) (fa 6 3) (fa 6 4) (fa 6 5) (fa 6 0) (fa 6 1) (fa 6 2) (fa 6 3) (fa 6 4) (fa 6 5) ∧ ((iv 6 7) : Int32).toInt = (iv 6 7).toInt) ∨ (((-100004) : Int32).toInt = -100002 ∧ (0 ≤ (a).toInt ∧ (a).toInt < (iv 6 7).toInt) ∧ ¬ (0 ≤ (b).toInt ∧ (b).toInt ≤ 999) ∧ SmX (fa 6 0) (fa 6 1) (fa 6 2) (fa 6 3) (fa 6 4) (fa 6 5) (fa 6 0) (fa 6 1) (fa 6 2) (fa 6 3) (fa 6 4) (fa 6 5) ∧ ((iv 6 7) : Int32).toInt = (iv 6 7).toInt) ∨ (((-100004) : Int32).toInt = -100003 ∧ (0 ≤ (a).toInt ∧ (a).toInt < (iv 6 7).toInt) ∧ (0 ≤ (b).toInt ∧ (b).toInt ≤ 999) ∧ ¬ StX (fa 6 0) (fa 6 5) ((a).toInt).toNat ∧ SmX (fa 6 0) (fa 6 1) (fa 6 2) (fa 6 3) (fa 6 4) (fa 6 5) (fa 6 0) (fa 6 1) (fa 6 2) (fa 6 3) (fa 6 4) (fa 6 5) ∧ ((iv 6 7) : Int32).toInt = (iv 6 7).toInt) ∨ (((-100004) : Int32).toInt = -100004 ∧ (0 ≤ (a).toInt ∧ (a).toInt < (iv 6 7).toInt) ∧ (0 ≤ (b).toInt ∧ (b).toInt ≤ 999) ∧ StX (fa 6 0) (fa 6 5) ((a).toInt).toNat ∧ 40 ≤ (iv 6 7).toInt ∧ SmX (fa 6 0) (fa 6 1) (fa 6 2) (fa 6 3) (fa 6 4) (fa 6 5) (fa 6 0) (fa 6 1) (fa 6 2) (fa 6 3) (fa 6 4) (fa 6 5) ∧ ((iv 6 7) : Int32).toInt = (iv 6 7).toInt) ∨ ((0 ≤ (a).toInt ∧ (a).toInt < (iv 6 7).toInt) ∧ (0 ≤ (b).toInt ∧ (b).toInt ≤ 999) ∧ StX (fa 6 0) (fa 6 5) ((a).toInt).toNat ∧ (iv 6 7).toInt < 40 ∧ ((-100004) : Int32).toInt = (iv 6 7).toInt ∧ ((iv 6 7) : Int32).toInt = (iv 6 7).toInt + 1 ∧ ApX ((iv 6 7).toInt).toNat (fa 6 0) (fa 6 1) (fa 6 2) (fa 6 3) (fa 6 4) (fa 6 5) (fa 6 0) (fa 6 1) (fa 6 2) (fa 6 3) (fa 6 4) (fa 6 5) 1 ((fa 6 1) ((a).toInt).toNat).toInt (((fa 6 2) ((a).toInt).toNat).toInt * (b).toInt) (a).toInt (iv 11 10).toInt)) from (by have y9_0 := xr5_0; have y9_1 := xr7_0; exact Or.inr (Or.inr (Or.inr (Or.inl ⟨by omega, ⟨by omega, by omega⟩, ⟨by omega, by omega⟩, (by unfold StX; omega), by omega, (fun j => ⟨rfl, rfl, rfl, rfl, rfl, rfl⟩), by omega⟩))))), ⟨by decide, by decide⟩, rfl⟩, by rw [ht9]; exact hP9, hD9⟩, hS.F ht9⟩) hS.2.2 dX11_bill_66
            · have fc8 := z_ne (rfl : (r7).toInt = _) (by decide : (0 : Int32).toInt = 0) c8
              refine lv_ldc hx hb hown (ht _ m_457) dX11_bill_50 ?_
              have : ((-100003) : Int32).toInt = (-100003) := (by decide)
              have hP9 : va_P (dC, dI) classes (WX h g ca (u2 iv 6 7 (iv 6 7)) lv (u2 (u2 (u2 (u2 (u2 (u2 fa 6 0 (fa 6 0)) 6 1 (fa 6 1)) 6 2 (fa 6 2)) 6 3 (fa 6 3)) 6 4 (fa 6 4)) 6 5 (fa 6 5)) la) s.heap := hP
              have hD9 : va_D A (WX h g ca (u2 iv 6 7 (iv 6 7)) lv (u2 (u2 (u2 (u2 (u2 (u2 fa 6 0 (fa 6 0)) 6 1 (fa 6 1)) 6 2 (fa 6 2)) 6 3 (fa 6 3)) 6 4 (fa 6 4)) 6 5 (fa 6 5)) la) := hD
              exact W.iret (v := (-100003)) hx hb hr (fun t ht9 hW => ⟨⟨(-100003), ((u2 iv 6 7 (iv 6 7)), lv, (u2 (u2 (u2 (u2 (u2 (u2 fa 6 0 (fa 6 0)) 6 1 (fa 6 1)) 6 2 (fa 6 2)) 6 3 (fa 6 3)) 6 4 (fa 6 4)) 6 5 (fa 6 5)), la), rfl, ⟨(fa 6 0), (fa 6 1), (fa 6 2), (fa 6 3), (fa 6 4), (fa 6 5), (iv 6 7), (hI.2 6 3), (hI.1 6 7), (show ((((-100003) : Int32).toInt = -100001 ∧ ¬ (0 ≤ (a).toInt ∧ (a).toInt < (iv 6 7).toInt) ∧ SmX (fa 6 0) (fa 6 1) (fa 6 2) (fa 6 3) (fa 6 4) (fa 6 5) (fa 6 0) (fa 6 1) (fa 6 2) (fa 6 3) (fa 6 4) (fa 6 5) ∧ ((iv 6 7) : Int32).toInt = (iv 6 7).toInt) ∨ (((-100003) : Int32).toInt = -100002 ∧ (0 ≤ (a).toInt ∧ (a).toInt < (iv 6 7).toInt) ∧ ¬ (0 ≤ (b).toInt ∧ (b).toInt ≤ 999) ∧ SmX (fa 6 0) (fa 6 1) (fa 6 2) (fa 6 3) (fa 6 4) (fa 6 5) (fa 6 0) (fa 6 1) (fa 6 2) (fa 6 3) (fa 6 4) (fa 6 5) ∧ ((iv 6 7) : Int32).toInt = (iv 6 7).toInt) ∨ (((-100003) : Int32).toInt = -100003 ∧ (0 ≤ (a).toInt ∧ (a).toInt < (iv 6 7).toInt) ∧ (0 ≤ (b).toInt ∧ (b).toInt ≤ 999) ∧ ¬ StX (fa 6 0) (fa 6 5) ((a).toInt).toNat ∧ SmX (fa 6 0) (fa 6 1) (fa 6 2) (fa 6 3) (fa 6 4) (fa 6 5) (fa 6 0) (fa 6 1) (fa 6 2) (fa 6 3) (fa 6 4) (fa 6 5) ∧ ((iv 6 7) : Int32).toInt = (iv 6 7).toInt) ∨ (((-100003) : Int32).toInt = -100004 ∧ (0 ≤ (a).toInt ∧ (a).toInt < (iv 6 7).toInt) ∧ (0 ≤ (b).toInt ∧ (b).toInt ≤ 999) ∧ StX (fa 6 0) (fa 6 5) ((a).toInt).toNat ∧ 40 ≤ (iv 6 7).toInt ∧ SmX (fa 6 0) (fa 6 1) (fa 6 2) (fa 6 3) (fa 6 4) (fa 6 5) (fa 6 0) (fa 6 1) (fa 6 2) (fa 6 3) (fa 6 4) (fa 6 5) ∧ ((iv 6 7) : Int32).toInt = (iv 6 7).toInt) ∨ ((0 ≤ (a).toInt ∧ (a).toInt < (iv 6 7).toInt) ∧ (0 ≤ (b).toInt ∧ (b).toInt ≤ 999) ∧ StX (fa 6 0) (fa 6 5) ((a).toInt).toNat ∧ (iv 6 7).toInt < 40 ∧ ((-100003) : Int32).toInt = (iv 6 7).toInt ∧ ((iv 6 7) : Int32).toInt = (iv 6 7).toInt + 1 ∧ ApX ((iv 6 7).toInt).toNat (fa 6 0) (fa 6 1) (fa 6 2) (fa 6 3) (fa 6 4) (fa 6 5) (fa 6 0) (fa 6 1) (fa 6 2) (fa 6 3) (fa 6 4) (fa 6 5) 1 ((fa 6 1) ((a).toInt).toNat).toInt (((fa 6 2) ((a).toInt).toNat).toInt * (b).toInt) (a).toInt (iv 11 10).toInt)) from (by have y9_0 := xr5_0; have y9_1 := xr7_0; exact Or.inr (Or.inr (Or.inl ⟨by omega, ⟨by omega, by omega⟩, ⟨by omega, by omega⟩, (by unfold StX; omega), (fun j => ⟨rfl, rfl, rfl, rfl, rfl, rfl⟩), by omega⟩)))), ⟨by decide, by decide⟩, rfl⟩, by rw [ht9]; exact hP9, hD9⟩, hS.F ht9⟩) hS.2.2 dX11_bill_52
        · exact absurd c4 (by decide)
      · skip
        refine lv_if_ne (tgt := 28) hx hb dX11_bill_22 (by decide) (fun c23 => ?_) (fun c23 => ?_)
        · exact absurd rfl c23
        · skip
          refine lv_ldc hx hb hown (ht _ m_456) dX11_bill_25 ?_
          have : ((-100002) : Int32).toInt = (-100002) := (by decide)
          have hP9 : va_P (dC, dI) classes (WX h g ca (u2 iv 6 7 (iv 6 7)) lv (u2 (u2 (u2 (u2 (u2 (u2 fa 6 0 (fa 6 0)) 6 1 (fa 6 1)) 6 2 (fa 6 2)) 6 3 (fa 6 3)) 6 4 (fa 6 4)) 6 5 (fa 6 5)) la) s.heap := hP
          have hD9 : va_D A (WX h g ca (u2 iv 6 7 (iv 6 7)) lv (u2 (u2 (u2 (u2 (u2 (u2 fa 6 0 (fa 6 0)) 6 1 (fa 6 1)) 6 2 (fa 6 2)) 6 3 (fa 6 3)) 6 4 (fa 6 4)) 6 5 (fa 6 5)) la) := hD
          exact W.iret (v := (-100002)) hx hb hr (fun t ht9 hW => ⟨⟨(-100002), ((u2 iv 6 7 (iv 6 7)), lv, (u2 (u2 (u2 (u2 (u2 (u2 fa 6 0 (fa 6 0)) 6 1 (fa 6 1)) 6 2 (fa 6 2)) 6 3 (fa 6 3)) 6 4 (fa 6 4)) 6 5 (fa 6 5)), la), rfl, ⟨(fa 6 0), (fa 6 1), (fa 6 2), (fa 6 3), (fa 6 4), (fa 6 5), (iv 6 7), (hI.2 6 3), (hI.1 6 7), (show ((((-100002) : Int32).toInt = -100001 ∧ ¬ (0 ≤ (a).toInt ∧ (a).toInt < (iv 6 7).toInt) ∧ SmX (fa 6 0) (fa 6 1) (fa 6 2) (fa 6 3) (fa 6 4) (fa 6 5) (fa 6 0) (fa 6 1) (fa 6 2) (fa 6 3) (fa 6 4) (fa 6 5) ∧ ((iv 6 7) : Int32).toInt = (iv 6 7).toInt) ∨ (((-100002) : Int32).toInt = -100002 ∧ (0 ≤ (a).toInt ∧ (a).toInt < (iv 6 7).toInt) ∧ ¬ (0 ≤ (b).toInt ∧ (b).toInt ≤ 999) ∧ SmX (fa 6 0) (fa 6 1) (fa 6 2) (fa 6 3) (fa 6 4) (fa 6 5) (fa 6 0) (fa 6 1) (fa 6 2) (fa 6 3) (fa 6 4) (fa 6 5) ∧ ((iv 6 7) : Int32).toInt = (iv 6 7).toInt) ∨ (((-100002) : Int32).toInt = -100003 ∧ (0 ≤ (a).toInt ∧ (a).toInt < (iv 6 7).toInt) ∧ (0 ≤ (b).toInt ∧ (b).toInt ≤ 999) ∧ ¬ StX (fa 6 0) (fa 6 5) ((a).toInt).toNat ∧ SmX (fa 6 0) (fa 6 1) (fa 6 2) (fa 6 3) (fa 6 4) (fa 6 5) (fa 6 0) (fa 6 1) (fa 6 2) (fa 6 3) (fa 6 4) (fa 6 5) ∧ ((iv 6 7) : Int32).toInt = (iv 6 7).toInt) ∨ (((-100002) : Int32).toInt = -100004 ∧ (0 ≤ (a).toInt ∧ (a).toInt < (iv 6 7).toInt) ∧ (0 ≤ (b).toInt ∧ (b).toInt ≤ 999) ∧ StX (fa 6 0) (fa 6 5) ((a).toInt).toNat ∧ 40 ≤ (iv 6 7).toInt ∧ SmX (fa 6 0) (fa 6 1) (fa 6 2) (fa 6 3) (fa 6 4) (fa 6 5) (fa 6 0) (fa 6 1) (fa 6 2) (fa 6 3) (fa 6 4) (fa 6 5) ∧ ((iv 6 7) : Int32).toInt = (iv 6 7).toInt) ∨ ((0 ≤ (a).toInt ∧ (a).toInt < (iv 6 7).toInt) ∧ (0 ≤ (b).toInt ∧ (b).toInt ≤ 999) ∧ StX (fa 6 0) (fa 6 5) ((a).toInt).toNat ∧ (iv 6 7).toInt < 40 ∧ ((-100002) : Int32).toInt = (iv 6 7).toInt ∧ ((iv 6 7) : Int32).toInt = (iv 6 7).toInt + 1 ∧ ApX ((iv 6 7).toInt).toNat (fa 6 0) (fa 6 1) (fa 6 2) (fa 6 3) (fa 6 4) (fa 6 5) (fa 6 0) (fa 6 1) (fa 6 2) (fa 6 3) (fa 6 4) (fa 6 5) 1 ((fa 6 1) ((a).toInt).toNat).toInt (((fa 6 2) ((a).toInt).toNat).toInt * (b).toInt) (a).toInt (iv 11 10).toInt)) from Or.inr (Or.inl ⟨by omega, ⟨by omega, by omega⟩, by omega, (fun j => ⟨rfl, rfl, rfl, rfl, rfl, rfl⟩), by omega⟩)), ⟨by decide, by decide⟩, rfl⟩, by rw [ht9]; exact hP9, hD9⟩, hS.F ht9⟩) hS.2.2 dX11_bill_27
    · exact absurd c2 (by decide)
  · skip
    have i_6_7 : 0 ≤ (iv 6 7).toInt ∧ (iv 6 7).toInt ≤ 40 := hI.1 6 7
    have fr1 : ¬ (0 ≤ (a : Int32).toInt ∧ (a : Int32).toInt < ((iv 6 7) : Int32).toInt) := fr1
    refine lv_if_ne (tgt := 14) hx hb dX11_bill_8 (by decide) (fun c24 => ?_) (fun c24 => ?_)
    · exact absurd rfl c24
    · skip
      refine lv_ldc hx hb hown (ht _ m_476) dX11_bill_11 ?_
      have : ((-100001) : Int32).toInt = (-100001) := (by decide)
      have hP9 : va_P (dC, dI) classes (WX h g ca (u2 iv 6 7 (iv 6 7)) lv (u2 (u2 (u2 (u2 (u2 (u2 fa 6 0 (fa 6 0)) 6 1 (fa 6 1)) 6 2 (fa 6 2)) 6 3 (fa 6 3)) 6 4 (fa 6 4)) 6 5 (fa 6 5)) la) s.heap := hP
      have hD9 : va_D A (WX h g ca (u2 iv 6 7 (iv 6 7)) lv (u2 (u2 (u2 (u2 (u2 (u2 fa 6 0 (fa 6 0)) 6 1 (fa 6 1)) 6 2 (fa 6 2)) 6 3 (fa 6 3)) 6 4 (fa 6 4)) 6 5 (fa 6 5)) la) := hD
      exact W.iret (v := (-100001)) hx hb hr (fun t ht9 hW => ⟨⟨(-100001), ((u2 iv 6 7 (iv 6 7)), lv, (u2 (u2 (u2 (u2 (u2 (u2 fa 6 0 (fa 6 0)) 6 1 (fa 6 1)) 6 2 (fa 6 2)) 6 3 (fa 6 3)) 6 4 (fa 6 4)) 6 5 (fa 6 5)), la), rfl, ⟨(fa 6 0), (fa 6 1), (fa 6 2), (fa 6 3), (fa 6 4), (fa 6 5), (iv 6 7), (hI.2 6 3), (hI.1 6 7), (show ((((-100001) : Int32).toInt = -100001 ∧ ¬ (0 ≤ (a).toInt ∧ (a).toInt < (iv 6 7).toInt) ∧ SmX (fa 6 0) (fa 6 1) (fa 6 2) (fa 6 3) (fa 6 4) (fa 6 5) (fa 6 0) (fa 6 1) (fa 6 2) (fa 6 3) (fa 6 4) (fa 6 5) ∧ ((iv 6 7) : Int32).toInt = (iv 6 7).toInt) ∨ (((-100001) : Int32).toInt = -100002 ∧ (0 ≤ (a).toInt ∧ (a).toInt < (iv 6 7).toInt) ∧ ¬ (0 ≤ (b).toInt ∧ (b).toInt ≤ 999) ∧ SmX (fa 6 0) (fa 6 1) (fa 6 2) (fa 6 3) (fa 6 4) (fa 6 5) (fa 6 0) (fa 6 1) (fa 6 2) (fa 6 3) (fa 6 4) (fa 6 5) ∧ ((iv 6 7) : Int32).toInt = (iv 6 7).toInt) ∨ (((-100001) : Int32).toInt = -100003 ∧ (0 ≤ (a).toInt ∧ (a).toInt < (iv 6 7).toInt) ∧ (0 ≤ (b).toInt ∧ (b).toInt ≤ 999) ∧ ¬ StX (fa 6 0) (fa 6 5) ((a).toInt).toNat ∧ SmX (fa 6 0) (fa 6 1) (fa 6 2) (fa 6 3) (fa 6 4) (fa 6 5) (fa 6 0) (fa 6 1) (fa 6 2) (fa 6 3) (fa 6 4) (fa 6 5) ∧ ((iv 6 7) : Int32).toInt = (iv 6 7).toInt) ∨ (((-100001) : Int32).toInt = -100004 ∧ (0 ≤ (a).toInt ∧ (a).toInt < (iv 6 7).toInt) ∧ (0 ≤ (b).toInt ∧ (b).toInt ≤ 999) ∧ StX (fa 6 0) (fa 6 5) ((a).toInt).toNat ∧ 40 ≤ (iv 6 7).toInt ∧ SmX (fa 6 0) (fa 6 1) (fa 6 2) (fa 6 3) (fa 6 4) (fa 6 5) (fa 6 0) (fa 6 1) (fa 6 2) (fa 6 3) (fa 6 4) (fa 6 5) ∧ ((iv 6 7) : Int32).toInt = (iv 6 7).toInt) ∨ ((0 ≤ (a).toInt ∧ (a).toInt < (iv 6 7).toInt) ∧ (0 ≤ (b).toInt ∧ (b).toInt ≤ 999) ∧ StX (fa 6 0) (fa 6 5) ((a).toInt).toNat ∧ (iv 6 7).toInt < 40 ∧ ((-100001) : Int32).toInt = (iv 6 7).toInt ∧ ((iv 6 7) : Int32).toInt = (iv 6 7).toInt + 1 ∧ ApX ((iv 6 7).toInt).toNat (fa 6 0) (fa 6 1) (fa 6 2) (fa 6 3) (fa 6 4) (fa 6 5) (fa 6 0) (fa 6 1) (fa 6 2) (fa 6 3) (fa 6 4) (fa 6 5) 1 ((fa 6 1) ((a).toInt).toNat).toInt (((fa 6 2) ((a).toInt).toNat).toInt * (b).toInt) (a).toInt (iv 11 10).toInt)) from Or.inl ⟨by omega, by omega, (fun j => ⟨rfl, rfl, rfl, rfl, rfl, rfl⟩), by omega⟩), ⟨by decide, by decide⟩, rfl⟩, by rw [ht9]; exact hP9, hD9⟩, hS.F ht9⟩) hS.2.2 dX11_bill_13
