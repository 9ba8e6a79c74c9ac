/-! ===== or5 ===== -/
set_option maxHeartbeats 4000000 in
set_option maxRecDepth 100000 in
/-- X12_order -/
theorem c_X12_order_o (l : Launch) (dC : Nat → ClassId) (dI : Nat → Nat → Nat) (sz : Nat) (h : Nat) (g : Nat → Nat → Nat) (ca : Nat → Nat → ClassId) (iv : Nat → Nat → Int32) (lv : Nat → Nat → Int64) (fa : Nat → Nat → Nat → Int32) (la : Nat → Nat → Nat → Int64) (hI : IX iv fa) (a : Int32) (b : Int32) : Met l yX12_order (wc yX12_order cX12_order 3 (some .int)) ({ frames := 3, cells := 0, slots := 0, locals := 72 } : Room) (pW (dC, dI) classes (WM h g ca iv lv fa la) (TM ca) sz [.ref h, .int a, .int b]) (va_Qi (fun r (u : SS) => ∃ (na_12_59 : Nat → Int32) (ni_12_60 : Int32) (ni_12_61 : Int32), (((r.toInt = -100002 ∧ ¬ (1 ≤ a.toInt ∧ a.toInt ≤ 3)) ∨ ((1 ≤ a.toInt ∧ a.toInt ≤ 3) ∧ (wyM ((iv 12 57).toInt).toNat (fa 12 58) → ((b.toInt = -1 ∧ r.toInt = (wyS (wyF (a.toInt).toNat ((iv 12 57).toInt).toNat (fa 12 58)) 0 (1000000, 0) ((a.toInt).toNat ^ ((iv 12 57).toInt).toNat)).1) ∨ (b.toInt ≠ -1 ∧ (0 ≤ b.toInt ∧ b.toInt < (iv 12 57).toInt) ∧ r.toInt = ((wyD (a.toInt).toNat ((iv 12 57).toInt).toNat (wyS (wyF (a.toInt).toNat ((iv 12 57).toInt).toNat (fa 12 58)) 0 (1000000, 0) ((a.toInt).toNat ^ ((iv 12 57).toInt).toNat)).2 (b.toInt).toNat : Nat) : Int)) ∨ (b.toInt ≠ -1 ∧ ¬ (0 ≤ b.toInt ∧ b.toInt < (iv 12 57).toInt) ∧ r.toInt = -1)))))) ∧ (True) ∧ u = ((u2 (u2 iv 12 60 ni_12_60) 12 61 ni_12_61), lv, (u2 fa 12 59 na_12_59), la)) (bM (dC, dI) h g ca (va_A (WM h g ca iv lv fa la) sz)) (va_A (WM h g ca iv lv fa la) sz)) 0 0 (va_A (WM h g ca iv lv fa la) sz) := by
  refine Met.ofW (cc := cX12_order) (maxL := 3) (ret := (some .int)) (by decide) rfl ?_
  intro p e s m args below meth c s₁ B hml hv
  obtain ⟨rfl, hsz, hP, hK, hD0⟩ := hv
  have hx := B.exec
  have hb := B.bytes
  have hr := B.returns
  have ht := tb_tl (atoms_spec (ws := wc yX12_order cX12_order 3 (some .int)) B.pre)
  have hown : s.vm.findClass RX12 = some m.cls := findClass_of_methodNamed B.named
  have hlocks := B.notSynchronized
  subst hsz
  have hD := hD0.self (sz := s.heap.size)
  generalize hAe : va_A (WM h g ca iv lv fa la) s.heap.size = A at hD ⊢
  have hA : ∀ q : Nat, s.heap.size ≤ q → A q := fun q h => by rw [← hAe]; exact Or.inr h
  have hS : va_S A s.heap s.heap [] := va_S.rf
  have hl := lv_entry [.ref h, .int a, .int b] (n := 3) (Nat.le_of_ble_eq_true rfl)
  rw [lg_entry_eq]
  generalize (lg_sl [.ref h, .int a, .int b] ++ List.replicate (3 - (lg_sl [.ref h, .int a, .int b]).length) Slot.unset).toArray = ls at hl ⊢
  have hl : lv_has ls 3 [(0, .ref h), (1, .int a), (2, .int b)] := hl
  refine lv_iload_n hx hb dX12_order_0 rfl (lv_at hl 1 rfl) ?_
  refine lv_i2l (v := (a.toInt64)) hx hb dX12_order_1 rfl ?_
  refine lv_lconst (v := 1) hx hb dX12_order_2 (by decide) ?_
  refine lv_ldc2 hx hb hown (ht _ m_1391) dX12_order_3 ?_
  refine vp_callSi (W.runS (As := [.long (a.toInt64), .long 1, .long 3]) (rest := []) ⟨hx, hb, hml, hown, ht⟩ (c_X12_in l dC dI (a.toInt64) 1 3 (a.toInt) (1) (3) ((Int32.toInt_toInt64 a).trans rfl) (by decide : (1 : Int64).toInt = 1) (by decide : (3 : Int64).toInt = 3)) (kS 3 ht m_1370 m_1371 m_89 m_1372 rfl rfl hd_X12_in_v ⟨Nat.le_of_ble_eq_true rfl, Nat.le_of_ble_eq_true rfl⟩) (sR noP (hK.sub (tys' := []) [] rfl)) rfl rfl hl.1 rfl (lv_room (Nat.le_of_ble_eq_true rfl)) dX12_order_6 ⟨Nat.le_of_ble_eq_true rfl, Nat.le_of_ble_eq_true rfl⟩) (fun r1 hr1 => ?_)
  rcases hr1 with ⟨rfl, fr1⟩ | ⟨rfl, fr1⟩
  · skip
    refine lv_if_ne (tgt := 15) hx hb dX12_order_9 (by decide) (fun c2 => ?_) (fun c2 => ?_)
    · skip
      refine lv_aload_n hx hb dX12_order_15 rfl (lv_at hl 0 rfl) ?_
      refine lv_iload_n hx hb dX12_order_16 rfl (lv_at hl 1 rfl) ?_
      have i_12_57 : 0 ≤ (iv 12 57).toInt ∧ (iv 12 57).toInt ≤ 8 := hI.1 12 57
      have hFc := free_all hD hS hA
      refine va_callv (va_runV (As := [.int a]) (rest := []) ⟨hx, hb, hml, hown, ht⟩ (c_X12_findOrder_o l dC dI s.heap.size h g ca iv lv fa la hI a ⟨by omega, by omega⟩) (kV 1 ht m_1645 m_1647 m_69 m_89 m_1648 rfl rfl hd_X12_findOrder_v ⟨Nat.le_of_ble_eq_true rfl, Nat.le_of_ble_eq_true rfl⟩) (vW hP hK hD (rM_12 hK hP)) rfl rfl hl.1 rfl (lv_room (Nat.le_of_ble_eq_true rfl)) dX12_order_17 ⟨Nat.le_of_ble_eq_true rfl, Nat.le_of_ble_eq_true rfl⟩) hS (fun q _ h => hFc q h) hFc (fun u t H1 locs ht9 hvm hr3 hB hz1 hk1 hS => ?_)
      obtain ⟨n4, n5, n6, xr3_0, rfl⟩ := hr3
      have hn4 : ∀ j, inb (bA 12 59 j) (n4 j) := fun j => full_i _
      obtain ⟨hP, hD⟩ := hB
      rw [ht9] at hP
      generalize H1 = H at hP hS ⊢
      have hP : va_P (dC, dI) classes (WM h g ca (u2 (u2 iv 12 60 n5) 12 61 n6) lv (u2 fa 12 59 n4) la) H := hP
      have hD : va_D A (WM h g ca (u2 (u2 iv 12 60 n5) 12 61 n6) lv (u2 fa 12 59 n4) la) := (show va_D _ (WM h g ca (u2 (u2 iv 12 60 n5) 12 61 n6) lv (u2 fa 12 59 n4) la) from hD).weaken (fun _ _ _ h => hFc _ h)
      have xr3_0 : wyM (((iv 12 57) : Int32).toInt).toNat (fa 12 58) → (n6 : Int32).toInt = (wyS (wyF ((a : Int32).toInt).toNat (((iv 12 57) : Int32).toInt).toNat (fa 12 58)) 0 (1000000, 0) (((a : Int32).toInt).toNat ^ (((iv 12 57) : Int32).toInt).toNat)).1 ∧ (n5 : Int32).toInt = (((wyS (wyF ((a : Int32).toInt).toNat (((iv 12 57) : Int32).toInt).toNat (fa 12 58)) 0 (1000000, 0) (((a : Int32).toInt).toNat ^ (((iv 12 57) : Int32).toInt).toNat)).2 : Nat) : Int) := xr3_0
      refine lv_iload_n hx hb dX12_order_20 rfl (lv_at hl 2 rfl) ?_
      refine lv_iconst (v := (-1)) hx hb dX12_order_21 (by decide) ?_
      refine lv_icmp_ne (tgt := 32) hx hb dX12_order_22 (by decide) (fun c7 => ?_) (fun c7 => ?_)
      · have fc7 := z_ne (rfl : (b).toInt = _) (by decide : ((-1) : Int32).toInt = (-1)) c7
        refine lv_iload_n hx hb dX12_order_32 rfl (lv_at hl 2 rfl) ?_
        refine lv_i2l (v := (b.toInt64)) hx hb dX12_order_33 rfl ?_
        refine lv_lconst (v := 0) hx hb dX12_order_34 (by decide) ?_
        refine lv_aload_n hx hb dX12_order_35 rfl (lv_at hl 0 rfl) ?_
        refine gM_12_57 hx hb ht hown hK hP m_1196 (v := (iv 12 57)) rfl dX12_order_36 ?_
        refine lv_iconst (v := 1) hx hb dX12_order_39 (by decide) ?_
        refine lv_isub hx hb dX12_order_40 ?_
        refine lv_topi (fun v8 ev8 => ?_)
        have tv8 := z_sub ev8 (rfl : ((iv 12 57)).toInt = _) (by decide : (1 : Int32).toInt = 1) (by omega) (by omega)
        refine lv_i2l (v := (v8.toInt64)) hx hb dX12_order_41 rfl ?_
        refine vp_callSi (W.runS (As := [.long (b.toInt64), .long 0, .long (v8.toInt64)]) (rest := []) ⟨hx, hb, hml, hown, ht⟩ (c_X12_in l dC dI (b.toInt64) 0 (v8.toInt64) (b.toInt) (0) (v8.toInt) ((Int32.toInt_toInt64 b).trans rfl) (by decide : (0 : Int64).toInt = 0) ((Int32.toInt_toInt64 v8).trans rfl)) (kS 3 ht m_1370 m_1371 m_89 m_1372 rfl rfl hd_X12_in_v ⟨Nat.le_of_ble_eq_true rfl, Nat.le_of_ble_eq_true rfl⟩) (sR noP (hK.sub (tys' := []) [] rfl)) rfl rfl hl.1 rfl (lv_room (Nat.le_of_ble_eq_true rfl)) dX12_order_42 ⟨Nat.le_of_ble_eq_true rfl, Nat.le_of_ble_eq_true rfl⟩) (fun r9 hr9 => ?_)
        rcases hr9 with ⟨rfl, fr9⟩ | ⟨rfl, fr9⟩
        · skip
          refine lv_if_eq (tgt := 61) hx hb dX12_order_45 (by decide) (fun c10 => ?_) (fun c10 => ?_)
          · exact absurd c10 (by decide)
          · skip
            refine lv_aload_n hx hb dX12_order_48 rfl (lv_at hl 0 rfl) ?_
            refine lv_aload_n hx hb dX12_order_49 rfl (lv_at hl 0 rfl) ?_
            refine gM_12_60 hx hb ht hown hK hP m_1199 (v := n5) rfl dX12_order_50 ?_
            refine lv_iload_n hx hb dX12_order_53 rfl (lv_at hl 1 rfl) ?_
            refine lv_iload_n hx hb dX12_order_54 rfl (lv_at hl 2 rfl) ?_
            have : 1 ≤ ((iv 12 57) : Int32).toInt ∧ ((iv 12 57) : Int32).toInt ≤ 8 := ⟨by omega, by omega⟩
            refine vp_callSi (W.runV (As := [.int n5, .int a, .int b]) (rest := []) ⟨hx, hb, hml, hown, ht⟩ (c_X12_ovenOf_w l dC dI h g ca (u2 (u2 iv 12 60 n5) 12 61 n6) lv (u2 fa 12 59 n4) la (IX_a (c := 12) (k := 59) (IX_i (c := 12) (k := 61) (IX_i (c := 12) (k := 60) hI (full_i _)) (full_i _)) hn4) n5 a b (show 1 ≤ ((iv 12 57) : Int32).toInt ∧ ((iv 12 57) : Int32).toInt ≤ 8 from ⟨by omega, by omega⟩) ⟨by omega, by omega⟩ ⟨by omega, by omega⟩ (show (b : Int32).toInt + 1 ≤ ((iv 12 57) : Int32).toInt from by omega)) (kV 3 ht m_1652 m_1654 m_70 m_89 m_1655 rfl rfl hd_X12_ovenOf_v ⟨Nat.le_of_ble_eq_true rfl, Nat.le_of_ble_eq_true rfl⟩) (vR hP hK (rM_12 hK hP)) rfl rfl hl.1 rfl (lv_room (Nat.le_of_ble_eq_true rfl)) dX12_order_55 ⟨Nat.le_of_ble_eq_true rfl, Nat.le_of_ble_eq_true rfl⟩) (fun r11 hr11 => ?_)
            obtain ⟨hr11, xr11_0⟩ := hr11
            have xr11_0 : 0 ≤ (n5 : Int32).toInt → (r11 : Int32).toInt = ((wyD ((a : Int32).toInt).toNat (((iv 12 57) : Int32).toInt).toNat ((n5 : Int32).toInt).toNat ((b : Int32).toInt).toNat : Nat) : Int) := xr11_0
            refine lv_goto (tgt := 62) hx hb dX12_order_58 (by decide) ?_
            have hP9 : va_P (dC, dI) classes (WM h g ca (u2 (u2 iv 12 60 n5) 12 61 n6) lv (u2 fa 12 59 n4) la) H := hP
            have hD9 : va_D A (WM h g ca (u2 (u2 iv 12 60 n5) 12 61 n6) lv (u2 fa 12 59 n4) la) := hD
            exact W.iret (v := r11) hx hb hr (fun t ht9 hW => ⟨⟨r11, ((u2 (u2 iv 12 60 n5) 12 61 n6), lv, (u2 fa 12 59 n4), la), rfl, ⟨n4, n5, n6, (show (((r11 : Int32).toInt = -100002 ∧ ¬ (1 ≤ (a).toInt ∧ (a).toInt ≤ 3)) ∨ ((1 ≤ (a).toInt ∧ (a).toInt ≤ 3) ∧ (wyM ((iv 12 57).toInt).toNat (fa 12 58) → (((b).toInt = -1 ∧ (r11 : Int32).toInt = (wyS (wyF ((a).toInt).toNat ((iv 12 57).toInt).toNat (fa 12 58)) 0 (1000000, 0) (((a).toInt).toNat ^ ((iv 12 57).toInt).toNat)).1) ∨ ((b).toInt ≠ -1 ∧ (0 ≤ (b).toInt ∧ (b).toInt < (iv 12 57).toInt) ∧ (r11 : Int32).toInt = ((wyD ((a).toInt).toNat ((iv 12 57).toInt).toNat (wyS (wyF ((a).toInt).toNat ((iv 12 57).toInt).toNat (fa 12 58)) 0 (1000000, 0) (((a).toInt).toNat ^ ((iv 12 57).toInt).toNat)).2 ((b).toInt).toNat : Nat) : Int)) ∨ ((b).toInt ≠ -1 ∧ ¬ (0 ≤ (b).toInt ∧ (b).toInt < (iv 12 57).toInt) ∧ (r11 : Int32).toInt = -1))))) from (by
                  refine Or.inr ⟨⟨by omega, by omega⟩, fun hb => Or.inr (Or.inl ⟨by omega, ⟨by omega, by omega⟩, ?_⟩)⟩
                  have hf9 := (xr3_0 hb).2
                  have hx9 := xr11_0 (by omega)
                  rw [hf9] at hx9
                  exact hx9)), trivial, rfl⟩, by rw [ht9]; exact hP9, hD9⟩, hS.F ht9⟩) hS.2.2 dX12_order_62
        · skip
          refine lv_if_eq (tgt := 61) hx hb dX12_order_45 (by decide) (fun c12 => ?_) (fun c12 => ?_)
          · skip
            refine lv_iconst (v := (-1)) hx hb dX12_order_61 (by decide) ?_
            have : ((-1) : Int32).toInt = (-1) := (by decide)
            have hP9 : va_P (dC, dI) classes (WM h g ca (u2 (u2 iv 12 60 n5) 12 61 n6) lv (u2 fa 12 59 n4) la) H := hP
            have hD9 : va_D A (WM h g ca (u2 (u2 iv 12 60 n5) 12 61 n6) lv (u2 fa 12 59 n4) la) := hD
            exact W.iret (v := (-1)) hx hb hr (fun t ht9 hW => ⟨⟨(-1), ((u2 (u2 iv 12 60 n5) 12 61 n6), lv, (u2 fa 12 59 n4), la), rfl, ⟨n4, n5, n6, (show ((((-1) : Int32).toInt = -100002 ∧ ¬ (1 ≤ (a).toInt ∧ (a).toInt ≤ 3)) ∨ ((1 ≤ (a).toInt ∧ (a).toInt ≤ 3) ∧ (wyM ((iv 12 57).toInt).toNat (fa 12 58) → (((b).toInt = -1 ∧ ((-1) : Int32).toInt = (wyS (wyF ((a).toInt).toNat ((iv 12 57).toInt).toNat (fa 12 58)) 0 (1000000, 0) (((a).toInt).toNat ^ ((iv 12 57).toInt).toNat)).1) ∨ ((b).toInt ≠ -1 ∧ (0 ≤ (b).toInt ∧ (b).toInt < (iv 12 57).toInt) ∧ ((-1) : Int32).toInt = ((wyD ((a).toInt).toNat ((iv 12 57).toInt).toNat (wyS (wyF ((a).toInt).toNat ((iv 12 57).toInt).toNat (fa 12 58)) 0 (1000000, 0) (((a).toInt).toNat ^ ((iv 12 57).toInt).toNat)).2 ((b).toInt).toNat : Nat) : Int)) ∨ ((b).toInt ≠ -1 ∧ ¬ (0 ≤ (b).toInt ∧ (b).toInt < (iv 12 57).toInt) ∧ ((-1) : Int32).toInt = -1))))) from Or.inr ⟨⟨by omega, by omega⟩, fun hb => Or.inr (Or.inr ⟨by omega, by omega, by omega⟩)⟩), trivial, rfl⟩, by rw [ht9]; exact hP9, hD9⟩, hS.F ht9⟩) hS.2.2 dX12_order_62
          · exact absurd rfl c12
      · have fc7 := z_eq (rfl : (b).toInt = _) (by decide : ((-1) : Int32).toInt = (-1)) c7
        refine lv_aload_n hx hb dX12_order_25 rfl (lv_at hl 0 rfl) ?_
        refine gM_12_61 hx hb ht hown hK hP m_1200 (v := n6) rfl dX12_order_26 ?_
        refine lv_goto (tgt := 62) hx hb dX12_order_29 (by decide) ?_
        have hP9 : va_P (dC, dI) classes (WM h g ca (u2 (u2 iv 12 60 n5) 12 61 n6) lv (u2 fa 12 59 n4) la) H := hP
        have hD9 : va_D A (WM h g ca (u2 (u2 iv 12 60 n5) 12 61 n6) lv (u2 fa 12 59 n4) la) := hD
        exact W.iret (v := n6) hx hb hr (fun t ht9 hW => ⟨⟨n6, ((u2 (u2 iv 12 60 n5) 12 61 n6), lv, (u2 fa 12 59 n4), la), rfl, ⟨n4, n5, n6, (show (((n6 : Int32).toInt = -100002 ∧ ¬ (1 ≤ (a).toInt ∧ (a).toInt ≤ 3)) ∨ ((1 ≤ (a).toInt ∧ (a).toInt ≤ 3) ∧ (wyM ((iv 12 57).toInt).toNat (fa 12 58) → (((b).toInt = -1 ∧ (n6 : Int32).toInt = (wyS (wyF ((a).toInt).toNat ((iv 12 57).toInt).toNat (fa 12 58)) 0 (1000000, 0) (((a).toInt).toNat ^ ((iv 12 57).toInt).toNat)).1) ∨ ((b).toInt ≠ -1 ∧ (0 ≤ (b).toInt ∧ (b).toInt < (iv 12 57).toInt) ∧ (n6 : Int32).toInt = ((wyD ((a).toInt).toNat ((iv 12 57).toInt).toNat (wyS (wyF ((a).toInt).toNat ((iv 12 57).toInt).toNat (fa 12 58)) 0 (1000000, 0) (((a).toInt).toNat ^ ((iv 12 57).toInt).toNat)).2 ((b).toInt).toNat : Nat) : Int)) ∨ ((b).toInt ≠ -1 ∧ ¬ (0 ≤ (b).toInt ∧ (b).toInt < (iv 12 57).toInt) ∧ (n6 : Int32).toInt = -1))))) from Or.inr ⟨⟨by omega, by omega⟩, fun hb => Or.inl ⟨by omega, (xr3_0 hb).1⟩⟩), trivial, rfl⟩, by rw [ht9]; exact hP9, hD9⟩, hS.F ht9⟩) hS.2.2 dX12_order_62
    · exact absurd c2 (by decide)
  · skip
    refine lv_if_ne (tgt := 15) hx hb dX12_order_9 (by decide) (fun c13 => ?_) (fun c13 => ?_)
    · exact absurd rfl c13
    · skip
      refine lv_ldc hx hb hown (ht _ m_1373) dX12_order_12 ?_
      have : ((-100002) : Int32).toInt = (-100002) := (by decide)
      have hP9 : va_P (dC, dI) classes (WM h g ca (u2 (u2 iv 12 60 (iv 12 60)) 12 61 (iv 12 61)) lv (u2 fa 12 59 (fa 12 59)) la) s.heap := hP
      have hD9 : va_D A (WM h g ca (u2 (u2 iv 12 60 (iv 12 60)) 12 61 (iv 12 61)) lv (u2 fa 12 59 (fa 12 59)) la) := hD
      exact W.iret (v := (-100002)) hx hb hr (fun t ht9 hW => ⟨⟨(-100002), ((u2 (u2 iv 12 60 (iv 12 60)) 12 61 (iv 12 61)), lv, (u2 fa 12 59 (fa 12 59)), la), rfl, ⟨(fa 12 59), (iv 12 60), (iv 12 61), (show ((((-100002) : Int32).toInt = -100002 ∧ ¬ (1 ≤ (a).toInt ∧ (a).toInt ≤ 3)) ∨ ((1 ≤ (a).toInt ∧ (a).toInt ≤ 3) ∧ (wyM ((iv 12 57).toInt).toNat (fa 12 58) → (((b).toInt = -1 ∧ ((-100002) : Int32).toInt = (wyS (wyF ((a).toInt).toNat ((iv 12 57).toInt).toNat (fa 12 58)) 0 (1000000, 0) (((a).toInt).toNat ^ ((iv 12 57).toInt).toNat)).1) ∨ ((b).toInt ≠ -1 ∧ (0 ≤ (b).toInt ∧ (b).toInt < (iv 12 57).toInt) ∧ ((-100002) : Int32).toInt = ((wyD ((a).toInt).toNat ((iv 12 57).toInt).toNat (wyS (wyF ((a).toInt).toNat ((iv 12 57).toInt).toNat (fa 12 58)) 0 (1000000, 0) (((a).toInt).toNat ^ ((iv 12 57).toInt).toNat)).2 ((b).toInt).toNat : Nat) : Int)) ∨ ((b).toInt ≠ -1 ∧ ¬ (0 ≤ (b).toInt ∧ (b).toInt < (iv 12 57).toInt) ∧ ((-100002) : Int32).toInt = -1))))) from Or.inl ⟨by omega, by omega⟩), trivial, rfl⟩, by rw [ht9]; exact hP9, hD9⟩, hS.F ht9⟩) hS.2.2 dX12_order_14
set_option maxHeartbeats 4000000 in
set_option maxRecDepth 100000 in
/-- X12_load -/
theorem c_X12_load_o (l : Launch) (dC : Nat → ClassId) (dI : Nat → Nat → Nat) (sz : Nat) (h : Nat) (g : Nat → Nat → Nat) (ca : Nat → Nat → ClassId) (iv : Nat → Nat → Int32) (lv : Nat → Nat → Int64) (fa : Nat → Nat → Nat → Int32) (la : Nat → Nat → Nat → Int64) (hI : IX iv fa) (a : Int32) : Met l yX12_load (wc yX12_load cX12_load 2 (some .int)) ({ frames := 1, cells := 0, slots := 0, locals := 25 } : Room) (pW (dC, dI) classes (WM h g ca iv lv fa la) (TM ca) sz [.ref h, .int a]) (va_Qi (fun r (u : SS) => ∃ (na_12_58 : Nat → Int32) (ni_12_57 : Int32), inb (bI 12 57) ni_12_57 ∧ (((r.toInt = -100002 ∧ ¬ (1 ≤ a.toInt ∧ a.toInt ≤ 999) ∧ (ni_12_57).toInt = (iv 12 57).toInt) ∨ (r.toInt = -100004 ∧ (1 ≤ a.toInt ∧ a.toInt ≤ 999) ∧ 8 ≤ (iv 12 57).toInt ∧ (ni_12_57).toInt = (iv 12 57).toInt) ∨ ((1 ≤ a.toInt ∧ a.toInt ≤ 999) ∧ (iv 12 57).toInt < 8 ∧ r.toInt = (iv 12 57).toInt + 1 ∧ (ni_12_57).toInt = (iv 12 57).toInt + 1))) ∧ (((r.toInt < 0 ∧ ∀ j : Nat, na_12_58 j = (fa 12 58) j) ∨ (0 ≤ r.toInt ∧ (∀ j : Nat, j ≠ ((iv 12 57).toInt).toNat → na_12_58 j = (fa 12 58) j) ∧ na_12_58 ((iv 12 57).toInt).toNat = a))) ∧ ((-100004) ≤ r.toInt ∧ r.toInt ≤ 8) ∧ u = ((u2 iv 12 57 ni_12_57), lv, (u2 fa 12 58 na_12_58), la)) (bM (dC, dI) h g ca (va_A (WM h g ca iv lv fa la) sz)) (va_A (WM h g ca iv lv fa la) sz)) 0 0 (va_A (WM h g ca iv lv fa la) sz) := by
  refine Met.ofW (cc := cX12_load) (maxL := 2) (ret := (some .int)) (by decide) rfl ?_
  intro p e s m args below meth c s₁ B hml hv
  obtain ⟨rfl, hsz, hP, hK, hD0⟩ := hv
  have hx := B.exec
  have hb := B.bytes
  have hr := B.returns
  have ht := tb_tl (atoms_spec (ws := wc yX12_load cX12_load 2 (some .int)) B.pre)
  have hown : s.vm.findClass RX12 = some m.cls := findClass_of_methodNamed B.named
  have hlocks := B.notSynchronized
  subst hsz
  have hD := hD0.self (sz := s.heap.size)
  generalize hAe : va_A (WM h g ca iv lv fa la) s.heap.size = A at hD ⊢
  have hA : ∀ q : Nat, s.heap.size ≤ q → A q := fun q h => by rw [← hAe]; exact Or.inr h
  have hS : va_S A s.heap s.heap [] := va_S.rf
  have hl := lv_entry [.ref h, .int a] (n := 2) (Nat.le_of_ble_eq_true rfl)
  rw [lg_entry_eq]
  generalize (lg_sl [.ref h, .int a] ++ List.replicate (2 - (lg_sl [.ref h, .int a]).length) Slot.unset).toArray = ls at hl ⊢
  have hl : lv_has ls 2 [(0, .ref h), (1, .int a)] := hl
  refine lv_iload_n hx hb dX12_load_0 rfl (lv_at hl 1 rfl) ?_
  refine lv_i2l (v := (a.toInt64)) hx hb dX12_load_1 rfl ?_
  refine lv_lconst (v := 1) hx hb dX12_load_2 (by decide) ?_
  refine lv_ldc2 hx hb hown (ht _ m_1369) dX12_load_3 ?_
  refine vp_callSi (W.runS (As := [.long (a.toInt64), .long 1, .long 999]) (rest := []) ⟨hx, hb, hml, hown, ht⟩ (c_X12_in l dC dI (a.toInt64) 1 999 (a.toInt) (1) (999) ((Int32.toInt_toInt64 a).trans rfl) (by decide : (1 : Int64).toInt = 1) (by decide : (999 : Int64).toInt = 999)) (kS 3 ht m_1370 m_1371 m_89 m_1372 rfl rfl hd_X12_in_v ⟨Nat.le_of_ble_eq_true rfl, Nat.le_of_ble_eq_true rfl⟩) (sR noP (hK.sub (tys' := []) [] rfl)) rfl rfl hl.1 rfl (lv_room (Nat.le_of_ble_eq_true rfl)) dX12_load_6 ⟨Nat.le_of_ble_eq_true rfl, Nat.le_of_ble_eq_true rfl⟩) (fun r1 hr1 => ?_)
  rcases hr1 with ⟨rfl, fr1⟩ | ⟨rfl, fr1⟩
  · skip
    refine lv_if_ne (tgt := 15) hx hb dX12_load_9 (by decide) (fun c2 => ?_) (fun c2 => ?_)
    · skip
      refine lv_aload_n hx hb dX12_load_15 rfl (lv_at hl 0 rfl) ?_
      have i_12_57 : 0 ≤ (iv 12 57).toInt ∧ (iv 12 57).toInt ≤ 8 := hI.1 12 57
      refine gM_12_57 hx hb ht hown hK hP m_1196 (v := (iv 12 57)) rfl dX12_load_16 ?_
      refine lv_bipush (v := 8) hx hb dX12_load_19 (by decide) ?_
      refine lv_icmp_ne (tgt := 27) hx hb dX12_load_21 (by decide) (fun c3 => ?_) (fun c3 => ?_)
      · have fc3 := z_ne (rfl : ((iv 12 57)).toInt = _) (by decide : (8 : Int32).toInt = 8) c3
        refine lv_aload_n hx hb dX12_load_27 rfl (lv_at hl 0 rfl) ?_
        refine gM_12_58 hx hb ht hown hK hP m_1197 dX12_load_28 ?_
        refine lv_aload_n hx hb dX12_load_31 rfl (lv_at hl 0 rfl) ?_
        refine gM_12_57 hx hb ht hown hK hP m_1196 (v := (iv 12 57)) rfl dX12_load_32 ?_
        refine lv_iload_n hx hb dX12_load_35 rfl (lv_at hl 1 rfl) ?_
        refine tM_12_58 hx hb hK hP hD hS (f0 := (fa 12 58)) rfl (i := (iv 12 57)) (x := a) (vp_in_iff.mpr ⟨by omega, by omega⟩) dX12_load_36 (fun f4 ef4 H locs hP hD hS => ?_)
        have hf4 : ∀ j, inb (bA 12 58 j) (f4 j) := fun j => full_i _
        refine lv_aload_n hx hb dX12_load_37 rfl (lv_at hl 0 rfl) ?_
        refine lv_dup hx hb dX12_load_38 rfl ?_
        refine gM_12_57 hx hb ht hown hK hP m_1196 (v := (iv 12 57)) rfl dX12_load_39 ?_
        refine lv_iconst (v := 1) hx hb dX12_load_42 (by decide) ?_
        refine lv_iadd hx hb dX12_load_43 ?_
        refine lv_topi (fun v5 ev5 => ?_)
        have tv5 := z_add ev5 (rfl : ((iv 12 57)).toInt = _) (by decide : (1 : Int32).toInt = 1) (by omega) (by omega)
        refine pM_12_57 (v := v5) hx hb ht hown hK hP hD hS m_1196 dX12_load_44 (fun H locs hP hD hS => ?_)
        refine lv_aload_n hx hb dX12_load_47 rfl (lv_at hl 0 rfl) ?_
        refine gM_12_57 hx hb ht hown hK hP m_1196 (v := v5) rfl dX12_load_48 ?_
        have hP9 : va_P (dC, dI) classes (WM h g ca (u2 iv 12 57 v5) lv (u2 fa 12 58 f4) la) H := hP
        have hD9 : va_D A (WM h g ca (u2 iv 12 57 v5) lv (u2 fa 12 58 f4) la) := hD
        exact W.iret (v := v5) hx hb hr (fun t ht9 hW => ⟨⟨v5, ((u2 iv 12 57 v5), lv, (u2 fa 12 58 f4), la), rfl, ⟨f4, v5, (show inb (0, 8) v5 from ⟨by omega, by omega⟩), (show (((v5 : Int32).toInt = -100002 ∧ ¬ (1 ≤ (a).toInt ∧ (a).toInt ≤ 999) ∧ (v5 : Int32).toInt = (iv 12 57).toInt) ∨ ((v5 : Int32).toInt = -100004 ∧ (1 ≤ (a).toInt ∧ (a).toInt ≤ 999) ∧ 8 ≤ (iv 12 57).toInt ∧ (v5 : Int32).toInt = (iv 12 57).toInt) ∨ ((1 ≤ (a).toInt ∧ (a).toInt ≤ 999) ∧ (iv 12 57).toInt < 8 ∧ (v5 : Int32).toInt = (iv 12 57).toInt + 1 ∧ (v5 : Int32).toInt = (iv 12 57).toInt + 1)) from by omega), (show (((v5 : Int32).toInt < 0 ∧ ∀ j : Nat, f4 j = (fa 12 58) j) ∨ (0 ≤ (v5 : Int32).toInt ∧ (∀ j : Nat, j ≠ ((iv 12 57).toInt).toNat → f4 j = (fa 12 58) j) ∧ f4 ((iv 12 57).toInt).toNat = a)) from Or.inr ⟨by omega, (fun j hj => by rw [ef4, upd_ne (show j ≠ ((iv 12 57) : Int32).toNatClampNeg from hj)]), (by rw [ef4]; exact upd_eq)⟩), ⟨by omega, by omega⟩, rfl⟩, by rw [ht9]; exact hP9, hD9⟩, hS.F ht9⟩) hS.2.2 dX12_load_51
      · have fc3 := z_eq (rfl : ((iv 12 57)).toInt = _) (by decide : (8 : Int32).toInt = 8) c3
        refine lv_ldc hx hb hown (ht _ m_1380) dX12_load_24 ?_
        have : ((-100004) : Int32).toInt = (-100004) := (by decide)
        have hP9 : va_P (dC, dI) classes (WM h g ca (u2 iv 12 57 (iv 12 57)) lv (u2 fa 12 58 (fa 12 58)) la) s.heap := hP
        have hD9 : va_D A (WM h g ca (u2 iv 12 57 (iv 12 57)) lv (u2 fa 12 58 (fa 12 58)) la) := hD
        exact W.iret (v := (-100004)) hx hb hr (fun t ht9 hW => ⟨⟨(-100004), ((u2 iv 12 57 (iv 12 57)), lv, (u2 fa 12 58 (fa 12 58)), la), rfl, ⟨(fa 12 58), (iv 12 57), (hI.1 12 57), (show ((((-100004) : Int32).toInt = -100002 ∧ ¬ (1 ≤ (a).toInt ∧ (a).toInt ≤ 999) ∧ ((iv 12 57) : Int32).toInt = (iv 12 57).toInt) ∨ (((-100004) : Int32).toInt = -100004 ∧ (1 ≤ (a).toInt ∧ (a).toInt ≤ 999) ∧ 8 ≤ (iv 12 57).toInt ∧ ((iv 12 57) : Int32).toInt = (iv 12 57).toInt) ∨ ((1 ≤ (a).toInt ∧ (a).toInt ≤ 999) ∧ (iv 12 57).toInt < 8 ∧ ((-100004) : Int32).toInt = (iv 12 57).toInt + 1 ∧ ((iv 12 57) : Int32).toInt = (iv 12 57).toInt + 1)) from by omega), (show ((((-100004) : Int32).toInt < 0 ∧ ∀ j : Nat, (fa 12 58) j = (fa 12 58) j) ∨ (0 ≤ ((-100004) : Int32).toInt ∧ (∀ j : Nat, j ≠ ((iv 12 57).toInt).toNat → (fa 12 58) j = (fa 12 58) j) ∧ (fa 12 58) ((iv 12 57).toInt).toNat = a)) from Or.inl ⟨by omega, fun j => rfl⟩), ⟨by decide, by decide⟩, rfl⟩, by rw [ht9]; exact hP9, hD9⟩, hS.F ht9⟩) hS.2.2 dX12_load_26
    · exact absurd c2 (by decide)
  · skip
    refine lv_if_ne (tgt := 15) hx hb dX12_load_9 (by decide) (fun c6 => ?_) (fun c6 => ?_)
    · exact absurd rfl c6
    · skip
      refine lv_ldc hx hb hown (ht _ m_1373) dX12_load_12 ?_
      have : ((-100002) : Int32).toInt = (-100002) := (by decide)
      have i_12_57 : 0 ≤ (iv 12 57).toInt ∧ (iv 12 57).toInt ≤ 8 := hI.1 12 57
      have hP9 : va_P (dC, dI) classes (WM h g ca (u2 iv 12 57 (iv 12 57)) lv (u2 fa 12 58 (fa 12 58)) la) s.heap := hP
      have hD9 : va_D A (WM h g ca (u2 iv 12 57 (iv 12 57)) lv (u2 fa 12 58 (fa 12 58)) la) := hD
      exact W.iret (v := (-100002)) hx hb hr (fun t ht9 hW => ⟨⟨(-100002), ((u2 iv 12 57 (iv 12 57)), lv, (u2 fa 12 58 (fa 12 58)), la), rfl, ⟨(fa 12 58), (iv 12 57), (hI.1 12 57), (show ((((-100002) : Int32).toInt = -100002 ∧ ¬ (1 ≤ (a).toInt ∧ (a).toInt ≤ 999) ∧ ((iv 12 57) : Int32).toInt = (iv 12 57).toInt) ∨ (((-100002) : Int32).toInt = -100004 ∧ (1 ≤ (a).toInt ∧ (a).toInt ≤ 999) ∧ 8 ≤ (iv 12 57).toInt ∧ ((iv 12 57) : Int32).toInt = (iv 12 57).toInt) ∨ ((1 ≤ (a).toInt ∧ (a).toInt ≤ 999) ∧ (iv 12 57).toInt < 8 ∧ ((-100002) : Int32).toInt = (iv 12 57).toInt + 1 ∧ ((iv 12 57) : Int32).toInt = (iv 12 57).toInt + 1)) from by omega), (show ((((-100002) : Int32).toInt < 0 ∧ ∀ j : Nat, (fa 12 58) j = (fa 12 58) j) ∨ (0 ≤ ((-100002) : Int32).toInt ∧ (∀ j : Nat, j ≠ ((iv 12 57).toInt).toNat → (fa 12 58) j = (fa 12 58) j) ∧ (fa 12 58) ((iv 12 57).toInt).toNat = a)) from Or.inl ⟨by omega, fun j => rfl⟩), ⟨by decide, by decide⟩, rfl⟩, by rw [ht9]; exact hP9, hD9⟩, hS.F ht9⟩) hS.2.2 dX12_load_14
