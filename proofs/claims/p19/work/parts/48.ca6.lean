/-! ===== ca6 ===== -/
set_option maxHeartbeats 4000000 in
set_option maxRecDepth 100000 in
/-- X12_doLooksPart -/
theorem c_X12_doLooksPart_q (l : Launch) (dC : Nat → ClassId) (dI : Nat → Nat → Nat) (sz : Nat) (h : Nat) (g : Nat → Nat → Nat) (ca : Nat → Nat → ClassId) (iv : Nat → Nat → Int32) (lv : Nat → Nat → Int64) (fa : Nat → Nat → Nat → Int32) (la : Nat → Nat → Nat → Int64) (hI : IX iv fa) (a : Int32) (b : Int32) (hJR : JRf (iv 12 3).toInt (fa 12 7)) : Met l yX12_doLooksPart (wc yX12_doLooksPart cX12_doLooksPart 9 (some .boolean)) ({ frames := 2, cells := 0, slots := 0, locals := 49 } : Room) (pW (dC, dI) classes (WM h g ca iv lv fa la) (TM ca) sz [.ref h, .int a, .int b]) (va_Qi (fun r (u : SS) => ∃ (ni_12_19 : Int32) (nl_12_17 : Int64) (nl_12_18 : Int64), (((r.toInt = 1 ∧ DpR (cyP (fa 12 4) (fa 12 5) (fa 12 11) (fa 12 12) a.toInt (iv 12 0).toInt 0) (cyP (fa 12 4) (fa 12 5) (fa 12 11) (fa 12 12) a.toInt (iv 12 0).toInt 1) (owY (fa 12 9) (fa 12 10) (iv 12 20).toInt (iv 12 21).toInt (iv 12 22).toInt) (fa 12 7) (fa 12 8) ((iv 12 3).toInt).toNat b) ∨ (r.toInt = 0 ∧ ¬ DpR (cyP (fa 12 4) (fa 12 5) (fa 12 11) (fa 12 12) a.toInt (iv 12 0).toInt 0) (cyP (fa 12 4) (fa 12 5) (fa 12 11) (fa 12 12) a.toInt (iv 12 0).toInt 1) (owY (fa 12 9) (fa 12 10) (iv 12 20).toInt (iv 12 21).toInt (iv 12 22).toInt) (fa 12 7) (fa 12 8) ((iv 12 3).toInt).toNat b))) ∧ (0 ≤ r.toInt ∧ r.toInt ≤ 1) ∧ u = ((u2 iv 12 19 ni_12_19), (u2 (u2 lv 12 17 nl_12_17) 12 18 nl_12_18), fa, la)) (bM (dC, dI) h g ca (va_A (WM h g ca iv lv fa la) sz)) (va_A (WM h g ca iv lv fa la) sz)) 0 0 (va_A (WM h g ca iv lv fa la) sz) := by
  refine Met.ofW (cc := cX12_doLooksPart) (maxL := 9) (ret := (some .boolean)) (by decide) rfl ?_
  intro p e s m args below meth c s₁ B hml hv
  obtain ⟨rfl, hsz, hP, hK, hD0⟩ := hv
  have hx := B.exec
  have hb := B.bytes
  have hr := B.returns
  have ht := tb_tl (atoms_spec (ws := wc yX12_doLooksPart cX12_doLooksPart 9 (some .boolean)) B.pre)
  have hown : s.vm.findClass RX12 = some m.cls := findClass_of_methodNamed B.named
  have hlocks := B.notSynchronized
  subst hsz
  have hD := hD0.self (sz := s.heap.size)
  generalize hAe : va_A (WM h g ca iv lv fa la) s.heap.size = A at hD ⊢
  have hA : ∀ q : Nat, s.heap.size ≤ q → A q := fun q h => by rw [← hAe]; exact Or.inr h
  have hS : va_S A s.heap s.heap [] := va_S.rf
  have hl := lv_entry [.ref h, .int a, .int b] (n := 9) (Nat.le_of_ble_eq_true rfl)
  rw [lg_entry_eq]
  generalize (lg_sl [.ref h, .int a, .int b] ++ List.replicate (9 - (lg_sl [.ref h, .int a, .int b]).length) Slot.unset).toArray = ls at hl ⊢
  have hl : lv_has ls 9 [(0, .ref h), (1, .int a), (2, .int b)] := hl
  refine lv_aload_n hx hb dX12_doLooksPart_0 rfl (lv_at hl 0 rfl) ?_
  refine lv_iload_n hx hb dX12_doLooksPart_1 rfl (lv_at hl 1 rfl) ?_
  refine lv_iconst (v := 0) hx hb dX12_doLooksPart_2 (by decide) ?_
  refine lv_aload_n hx hb dX12_doLooksPart_3 rfl (lv_at hl 0 rfl) ?_
  have i_12_0 : 0 ≤ (iv 12 0).toInt ∧ (iv 12 0).toInt ≤ 3000 := hI.1 12 0
  refine gM_12_0 hx hb ht hown hK hP m_1139 (v := (iv 12 0)) rfl dX12_doLooksPart_4 ?_
  have hFc := free_all hD hS hA
  refine va_calli (va_runV (As := [.int a, .int 0, .int (iv 12 0)]) (rest := []) ⟨hx, hb, hml, hown, ht⟩ (c_X12_sumUp_q l dC dI s.heap.size h g ca iv lv fa la hI a 0 (iv 12 0) hJR) (kV 3 ht m_1434 m_1436 m_45 m_89 m_1437 rfl rfl hd_X12_sumUp_v ⟨Nat.le_of_ble_eq_true rfl, Nat.le_of_ble_eq_true rfl⟩) (vW hP hK hD (rM_12 hK hP)) rfl rfl hl.1 rfl (lv_room (Nat.le_of_ble_eq_true rfl)) dX12_doLooksPart_7 ⟨Nat.le_of_ble_eq_true rfl, Nat.le_of_ble_eq_true rfl⟩) hS (fun q _ h => hFc q h) hFc (fun r1 u t H1 locs ht9 hvm hr1 hB hz1 hk1 hS => ?_)
  obtain ⟨n2, n3, n4, xr1_0, xr1_1, xr1_2, xr1_3, xr1_4, xr1_5, xr1_6, xr1_7, xr1_8, hr1, rfl⟩ := hr1
  obtain ⟨hP, hD⟩ := hB
  rw [ht9] at hP
  generalize H1 = H at hP hS ⊢
  have hP : va_P (dC, dI) classes (WM h g ca (u2 iv 12 19 n2) (u2 (u2 lv 12 17 n3) 12 18 n4) fa la) H := hP
  have hD : va_D A (WM h g ca (u2 iv 12 19 n2) (u2 (u2 lv 12 17 n3) 12 18 n4) fa la) := (show va_D _ (WM h g ca (u2 iv 12 19 n2) (u2 (u2 lv 12 17 n3) 12 18 n4) fa la) from hD).weaken (fun _ _ _ h => hFc _ h)
  have xr1_0 : 0 ≤ (r1 : Int32).toInt := xr1_0
  have xr1_1 : (r1 : Int32).toInt ≤ 60 := xr1_1
  have xr1_2 : 0 ≤ (n4 : Int64).toInt := xr1_2
  have xr1_3 : (n4 : Int64).toInt ≤ 599940 := xr1_3
  have xr1_4 : 100 * (r1 : Int32).toInt ≤ (n4 : Int64).toInt := xr1_4
  have : (0 : Int32).toInt = 0 := (by decide)
  have i_12_3 : 0 ≤ (iv 12 3).toInt ∧ (iv 12 3).toInt ≤ 60 := hI.1 12 3
  have xr1_5 : (n3 : Int64).toInt = (caL (cyP (fa 12 4) (fa 12 5) (fa 12 11) (fa 12 12) (a : Int32).toInt ((iv 12 0) : Int32).toInt (0 : Int32).toInt) (owY (fa 12 9) (fa 12 10) ((iv 12 20) : Int32).toInt ((iv 12 21) : Int32).toInt ((iv 12 22) : Int32).toInt) (fa 12 8) (((iv 12 3) : Int32).toInt).toNat).toInt := xr1_5
  have xr1_6 : (n4 : Int64).toInt = (caL (cyP (fa 12 4) (fa 12 5) (fa 12 11) (fa 12 12) (a : Int32).toInt ((iv 12 0) : Int32).toInt (0 : Int32).toInt) (owY (fa 12 9) (fa 12 10) ((iv 12 20) : Int32).toInt ((iv 12 21) : Int32).toInt ((iv 12 22) : Int32).toInt) (fa 12 7) (((iv 12 3) : Int32).toInt).toNat).toInt := xr1_6
  have xr1_7 : (n2 : Int32).toInt = (caC (cyP (fa 12 4) (fa 12 5) (fa 12 11) (fa 12 12) (a : Int32).toInt ((iv 12 0) : Int32).toInt (0 : Int32).toInt) (owY (fa 12 9) (fa 12 10) ((iv 12 20) : Int32).toInt ((iv 12 21) : Int32).toInt ((iv 12 22) : Int32).toInt) (((iv 12 3) : Int32).toInt).toNat).toInt := xr1_7
  have xr1_8 : (r1 : Int32).toInt = (n2 : Int32).toInt := xr1_8
  refine lv_istore_n (lv' := [(3, .int r1), (0, .ref h), (1, .int a), (2, .int b)]) hx hb dX12_doLooksPart_10 rfl hl (by decide) rfl (fun ls hl => ?_)
  refine lv_aload_n hx hb dX12_doLooksPart_11 rfl (lv_at hl 1 rfl) ?_
  refine gM_12_17 hx hb ht hown hK hP m_1156 (v := n3) rfl dX12_doLooksPart_12 ?_
  refine lv_lstore (lv' := [(4, .long n3), (3, .int r1), (0, .ref h), (1, .int a), (2, .int b)]) hx hb dX12_doLooksPart_15 hl (by decide) rfl (fun ls hl => ?_)
  refine lv_aload_n hx hb dX12_doLooksPart_17 rfl (lv_at hl 2 rfl) ?_
  refine gM_12_18 hx hb ht hown hK hP m_1157 (v := n4) rfl dX12_doLooksPart_18 ?_
  refine lv_lstore (lv' := [(6, .long n4), (4, .long n3), (3, .int r1), (0, .ref h), (1, .int a), (2, .int b)]) hx hb dX12_doLooksPart_21 hl (by decide) rfl (fun ls hl => ?_)
  refine lv_aload_n hx hb dX12_doLooksPart_23 rfl (lv_at hl 3 rfl) ?_
  refine lv_iload_n hx hb dX12_doLooksPart_24 rfl (lv_at hl 4 rfl) ?_
  refine lv_iconst (v := 1) hx hb dX12_doLooksPart_25 (by decide) ?_
  refine lv_aload_n hx hb dX12_doLooksPart_26 rfl (lv_at hl 3 rfl) ?_
  refine gM_12_0 hx hb ht hown hK hP m_1139 (v := (iv 12 0)) rfl dX12_doLooksPart_27 ?_
  have hFc := free_all hD hS hA
  refine va_calli (va_runV (As := [.int a, .int 1, .int (iv 12 0)]) (rest := []) ⟨hx, hb, hml, hown, ht⟩ (c_X12_sumUp_q l dC dI H.size h g ca (u2 iv 12 19 n2) (u2 (u2 lv 12 17 n3) 12 18 n4) fa la (IX_i (c := 12) (k := 19) hI (full_i _)) a 1 (iv 12 0) hJR) (kV 3 ht m_1434 m_1436 m_45 m_89 m_1437 rfl rfl hd_X12_sumUp_v ⟨Nat.le_of_ble_eq_true rfl, Nat.le_of_ble_eq_true rfl⟩) (vW hP hK hD (rM_12 hK hP)) rfl rfl hl.1 rfl (lv_room (Nat.le_of_ble_eq_true rfl)) dX12_doLooksPart_30 ⟨Nat.le_of_ble_eq_true rfl, Nat.le_of_ble_eq_true rfl⟩) hS (fun q _ h => hFc q h) hFc (fun r5 u t H1 locs ht9 hvm hr5 hB hz1 hk1 hS => ?_)
  obtain ⟨n6, n7, n8, xr5_0, xr5_1, xr5_2, xr5_3, xr5_4, xr5_5, xr5_6, xr5_7, xr5_8, hr5, rfl⟩ := hr5
  obtain ⟨hP, hD⟩ := hB
  rw [ht9] at hP
  generalize H1 = H at hP hS ⊢
  have hP : va_P (dC, dI) classes (WM h g ca (u2 iv 12 19 n6) (u2 (u2 lv 12 17 n7) 12 18 n8) fa la) H := hP
  have hD : va_D A (WM h g ca (u2 iv 12 19 n6) (u2 (u2 lv 12 17 n7) 12 18 n8) fa la) := (show va_D _ (WM h g ca (u2 iv 12 19 n6) (u2 (u2 lv 12 17 n7) 12 18 n8) fa la) from hD).weaken (fun _ _ _ h => hFc _ h)
  have xr5_0 : 0 ≤ (r5 : Int32).toInt := xr5_0
  have xr5_1 : (r5 : Int32).toInt ≤ 60 := xr5_1
  have xr5_2 : 0 ≤ (n8 : Int64).toInt := xr5_2
  have xr5_3 : (n8 : Int64).toInt ≤ 599940 := xr5_3
  have xr5_4 : 100 * (r5 : Int32).toInt ≤ (n8 : Int64).toInt := xr5_4
  have : (1 : Int32).toInt = 1 := (by decide)
  have xr5_5 : (n7 : Int64).toInt = (caL (cyP (fa 12 4) (fa 12 5) (fa 12 11) (fa 12 12) (a : Int32).toInt ((iv 12 0) : Int32).toInt (1 : Int32).toInt) (owY (fa 12 9) (fa 12 10) ((iv 12 20) : Int32).toInt ((iv 12 21) : Int32).toInt ((iv 12 22) : Int32).toInt) (fa 12 8) (((iv 12 3) : Int32).toInt).toNat).toInt := xr5_5
  have xr5_6 : (n8 : Int64).toInt = (caL (cyP (fa 12 4) (fa 12 5) (fa 12 11) (fa 12 12) (a : Int32).toInt ((iv 12 0) : Int32).toInt (1 : Int32).toInt) (owY (fa 12 9) (fa 12 10) ((iv 12 20) : Int32).toInt ((iv 12 21) : Int32).toInt ((iv 12 22) : Int32).toInt) (fa 12 7) (((iv 12 3) : Int32).toInt).toNat).toInt := xr5_6
  have xr5_7 : (n6 : Int32).toInt = (caC (cyP (fa 12 4) (fa 12 5) (fa 12 11) (fa 12 12) (a : Int32).toInt ((iv 12 0) : Int32).toInt (1 : Int32).toInt) (owY (fa 12 9) (fa 12 10) ((iv 12 20) : Int32).toInt ((iv 12 21) : Int32).toInt ((iv 12 22) : Int32).toInt) (((iv 12 3) : Int32).toInt).toNat).toInt := xr5_7
  have xr5_8 : (r5 : Int32).toInt = (n6 : Int32).toInt := xr5_8
  refine lv_istore (lv' := [(8, .int r5), (6, .long n4), (4, .long n3), (3, .int r1), (0, .ref h), (1, .int a), (2, .int b)]) hx hb dX12_doLooksPart_33 hl (by decide) rfl (fun ls hl => ?_)
  refine lv_iload_n hx hb dX12_doLooksPart_35 rfl (lv_at hl 3 rfl) ?_
  refine lv_if_le (tgt := 67) hx hb dX12_doLooksPart_36 (by decide) (fun c9 => ?_) (fun c9 => ?_)
  · have fc9 := z_le (rfl : (r1).toInt = _) (by decide : (0 : Int32).toInt = 0) c9
    refine lv_iconst (v := 0) hx hb dX12_doLooksPart_67 (by decide) ?_
    have hP9 : va_P (dC, dI) classes (WM h g ca (u2 iv 12 19 n6) (u2 (u2 lv 12 17 n7) 12 18 n8) fa la) H := hP
    have hD9 : va_D A (WM h g ca (u2 iv 12 19 n6) (u2 (u2 lv 12 17 n7) 12 18 n8) fa la) := hD
    exact W.zret (v := 0) hx hb hr rfl (fun t ht9 hW => ⟨⟨0, ((u2 iv 12 19 n6), (u2 (u2 lv 12 17 n7) 12 18 n8), fa, la), rfl, ⟨n6, n7, n8, (show (((0 : Int32).toInt = 1 ∧ DpR (cyP (fa 12 4) (fa 12 5) (fa 12 11) (fa 12 12) (a).toInt (iv 12 0).toInt 0) (cyP (fa 12 4) (fa 12 5) (fa 12 11) (fa 12 12) (a).toInt (iv 12 0).toInt 1) (owY (fa 12 9) (fa 12 10) (iv 12 20).toInt (iv 12 21).toInt (iv 12 22).toInt) (fa 12 7) (fa 12 8) ((iv 12 3).toInt).toNat b) ∨ ((0 : Int32).toInt = 0 ∧ ¬ DpR (cyP (fa 12 4) (fa 12 5) (fa 12 11) (fa 12 12) (a).toInt (iv 12 0).toInt 0) (cyP (fa 12 4) (fa 12 5) (fa 12 11) (fa 12 12) (a).toInt (iv 12 0).toInt 1) (owY (fa 12 9) (fa 12 10) (iv 12 20).toInt (iv 12 21).toInt (iv 12 22).toInt) (fa 12 7) (fa 12 8) ((iv 12 3).toInt).toNat b)) from (by
          have sc0 := xr1_7
          have sr0 := xr1_8
          have sd0 := xr1_5
          have sw0 := xr1_6
          rw [show (0 : Int32).toInt = 0 from by decide] at sc0 sd0 sw0
          have sc1 := xr5_7
          have sr1 := xr5_8
          have sd1 := xr5_5
          have sw1 := xr5_6
          rw [show (1 : Int32).toInt = 1 from by decide] at sc1 sd1 sw1
          exact Or.inr ⟨by omega, fun z => by obtain ⟨z1, z2, -⟩ := z; omega⟩)), ⟨by decide, by decide⟩, rfl⟩, by rw [ht9]; exact hP9, hD9⟩, hS.F ht9⟩) hS.2.2 dX12_doLooksPart_68
  · have fc9 := z_nle (rfl : (r1).toInt = _) (by decide : (0 : Int32).toInt = 0) c9
    refine lv_iload hx hb dX12_doLooksPart_39 (lv_at hl 0 rfl) ?_
    refine lv_if_le (tgt := 67) hx hb dX12_doLooksPart_41 (by decide) (fun c10 => ?_) (fun c10 => ?_)
    · have fc10 := z_le (rfl : (r5).toInt = _) (by decide : (0 : Int32).toInt = 0) c10
      refine lv_iconst (v := 0) hx hb dX12_doLooksPart_67 (by decide) ?_
      have hP9 : va_P (dC, dI) classes (WM h g ca (u2 iv 12 19 n6) (u2 (u2 lv 12 17 n7) 12 18 n8) fa la) H := hP
      have hD9 : va_D A (WM h g ca (u2 iv 12 19 n6) (u2 (u2 lv 12 17 n7) 12 18 n8) fa la) := hD
      exact W.zret (v := 0) hx hb hr rfl (fun t ht9 hW => ⟨⟨0, ((u2 iv 12 19 n6), (u2 (u2 lv 12 17 n7) 12 18 n8), fa, la), rfl, ⟨n6, n7, n8, (show (((0 : Int32).toInt = 1 ∧ DpR (cyP (fa 12 4) (fa 12 5) (fa 12 11) (fa 12 12) (a).toInt (iv 12 0).toInt 0) (cyP (fa 12 4) (fa 12 5) (fa 12 11) (fa 12 12) (a).toInt (iv 12 0).toInt 1) (owY (fa 12 9) (fa 12 10) (iv 12 20).toInt (iv 12 21).toInt (iv 12 22).toInt) (fa 12 7) (fa 12 8) ((iv 12 3).toInt).toNat b) ∨ ((0 : Int32).toInt = 0 ∧ ¬ DpR (cyP (fa 12 4) (fa 12 5) (fa 12 11) (fa 12 12) (a).toInt (iv 12 0).toInt 0) (cyP (fa 12 4) (fa 12 5) (fa 12 11) (fa 12 12) (a).toInt (iv 12 0).toInt 1) (owY (fa 12 9) (fa 12 10) (iv 12 20).toInt (iv 12 21).toInt (iv 12 22).toInt) (fa 12 7) (fa 12 8) ((iv 12 3).toInt).toNat b)) from (by
            have sc0 := xr1_7
            have sr0 := xr1_8
            have sd0 := xr1_5
            have sw0 := xr1_6
            rw [show (0 : Int32).toInt = 0 from by decide] at sc0 sd0 sw0
            have sc1 := xr5_7
            have sr1 := xr5_8
            have sd1 := xr5_5
            have sw1 := xr5_6
            rw [show (1 : Int32).toInt = 1 from by decide] at sc1 sd1 sw1
            exact Or.inr ⟨by omega, fun z => by obtain ⟨z1, z2, -⟩ := z; omega⟩)), ⟨by decide, by decide⟩, rfl⟩, by rw [ht9]; exact hP9, hD9⟩, hS.F ht9⟩) hS.2.2 dX12_doLooksPart_68
    · have fc10 := z_nle (rfl : (r5).toInt = _) (by decide : (0 : Int32).toInt = 0) c10
      refine lv_lload hx hb dX12_doLooksPart_44 (lv_at hl 2 rfl) ?_
      refine lv_lload hx hb dX12_doLooksPart_46 (lv_at hl 1 rfl) ?_
      refine lv_aload_n hx hb dX12_doLooksPart_48 rfl (lv_at hl 4 rfl) ?_
      refine gM_12_17 hx hb ht hown hK hP m_1156 (v := n7) rfl dX12_doLooksPart_49 ?_
      refine lv_aload_n hx hb dX12_doLooksPart_52 rfl (lv_at hl 4 rfl) ?_
      refine gM_12_18 hx hb ht hown hK hP m_1157 (v := n8) rfl dX12_doLooksPart_53 ?_
      refine lv_iload_n hx hb dX12_doLooksPart_56 rfl (lv_at hl 6 rfl) ?_
      refine vp_callSi (W.runS (As := [.long n3, .long n4, .long n7, .long n8, .int b]) (rest := []) ⟨hx, hb, hml, hown, ht⟩ (c_X12_doPart_f l dC dI n3 n4 n7 n8 b) (kS 5 ht m_1540 m_1541 m_89 m_1542 rfl rfl hd_X12_doPart_v ⟨Nat.le_of_ble_eq_true rfl, Nat.le_of_ble_eq_true rfl⟩) (sR noP (hK.sub (tys' := []) [] rfl)) rfl rfl hl.1 rfl (lv_room (Nat.le_of_ble_eq_true rfl)) dX12_doLooksPart_57 ⟨Nat.le_of_ble_eq_true rfl, Nat.le_of_ble_eq_true rfl⟩) (fun r11 hr11 => ?_)
      obtain ⟨hr11, xr11_0⟩ := hr11
      have xr11_0 : (((r11 : Int32).toInt = 1 ∧ difL (n3 : Int64) (n4 : Int64) (n7 : Int64) (n8 : Int64) (b : Int32)) ∨ ((r11 : Int32).toInt = 0 ∧ ¬ difL (n3 : Int64) (n4 : Int64) (n7 : Int64) (n8 : Int64) (b : Int32))) := xr11_0
      refine lv_if_eq (tgt := 67) hx hb dX12_doLooksPart_60 (by decide) (fun c12 => ?_) (fun c12 => ?_)
      · have fc12 := z_eq (rfl : (r11).toInt = _) (by decide : (0 : Int32).toInt = 0) c12
        refine lv_iconst (v := 0) hx hb dX12_doLooksPart_67 (by decide) ?_
        have hP9 : va_P (dC, dI) classes (WM h g ca (u2 iv 12 19 n6) (u2 (u2 lv 12 17 n7) 12 18 n8) fa la) H := hP
        have hD9 : va_D A (WM h g ca (u2 iv 12 19 n6) (u2 (u2 lv 12 17 n7) 12 18 n8) fa la) := hD
        exact W.zret (v := 0) hx hb hr rfl (fun t ht9 hW => ⟨⟨0, ((u2 iv 12 19 n6), (u2 (u2 lv 12 17 n7) 12 18 n8), fa, la), rfl, ⟨n6, n7, n8, (show (((0 : Int32).toInt = 1 ∧ DpR (cyP (fa 12 4) (fa 12 5) (fa 12 11) (fa 12 12) (a).toInt (iv 12 0).toInt 0) (cyP (fa 12 4) (fa 12 5) (fa 12 11) (fa 12 12) (a).toInt (iv 12 0).toInt 1) (owY (fa 12 9) (fa 12 10) (iv 12 20).toInt (iv 12 21).toInt (iv 12 22).toInt) (fa 12 7) (fa 12 8) ((iv 12 3).toInt).toNat b) ∨ ((0 : Int32).toInt = 0 ∧ ¬ DpR (cyP (fa 12 4) (fa 12 5) (fa 12 11) (fa 12 12) (a).toInt (iv 12 0).toInt 0) (cyP (fa 12 4) (fa 12 5) (fa 12 11) (fa 12 12) (a).toInt (iv 12 0).toInt 1) (owY (fa 12 9) (fa 12 10) (iv 12 20).toInt (iv 12 21).toInt (iv 12 22).toInt) (fa 12 7) (fa 12 8) ((iv 12 3).toInt).toNat b)) from (by
              have sc0 := xr1_7
              have sr0 := xr1_8
              have sd0 := xr1_5
              have sw0 := xr1_6
              rw [show (0 : Int32).toInt = 0 from by decide] at sc0 sd0 sw0
              have sc1 := xr5_7
              have sr1 := xr5_8
              have sd1 := xr5_5
              have sw1 := xr5_6
              rw [show (1 : Int32).toInt = 1 from by decide] at sc1 sd1 sw1
              have hp9 := xr11_0
              rw [show (n3 : Int64) = _ from Int64.toInt_inj.mp sd0] at hp9
              rw [show (n4 : Int64) = _ from Int64.toInt_inj.mp sw0] at hp9
              rw [show (n7 : Int64) = _ from Int64.toInt_inj.mp sd1] at hp9
              rw [show (n8 : Int64) = _ from Int64.toInt_inj.mp sw1] at hp9
              exact Or.inr ⟨by omega, fun z => (hp9.resolve_left (fun q => by omega)).2 z.2.2⟩)), ⟨by decide, by decide⟩, rfl⟩, by rw [ht9]; exact hP9, hD9⟩, hS.F ht9⟩) hS.2.2 dX12_doLooksPart_68
      · have fc12 := z_ne (rfl : (r11).toInt = _) (by decide : (0 : Int32).toInt = 0) c12
        refine lv_iconst (v := 1) hx hb dX12_doLooksPart_63 (by decide) ?_
        refine lv_goto (tgt := 68) hx hb dX12_doLooksPart_64 (by decide) ?_
        have hP9 : va_P (dC, dI) classes (WM h g ca (u2 iv 12 19 n6) (u2 (u2 lv 12 17 n7) 12 18 n8) fa la) H := hP
        have hD9 : va_D A (WM h g ca (u2 iv 12 19 n6) (u2 (u2 lv 12 17 n7) 12 18 n8) fa la) := hD
        exact W.zret (v := 1) hx hb hr rfl (fun t ht9 hW => ⟨⟨1, ((u2 iv 12 19 n6), (u2 (u2 lv 12 17 n7) 12 18 n8), fa, la), rfl, ⟨n6, n7, n8, (show (((1 : Int32).toInt = 1 ∧ DpR (cyP (fa 12 4) (fa 12 5) (fa 12 11) (fa 12 12) (a).toInt (iv 12 0).toInt 0) (cyP (fa 12 4) (fa 12 5) (fa 12 11) (fa 12 12) (a).toInt (iv 12 0).toInt 1) (owY (fa 12 9) (fa 12 10) (iv 12 20).toInt (iv 12 21).toInt (iv 12 22).toInt) (fa 12 7) (fa 12 8) ((iv 12 3).toInt).toNat b) ∨ ((1 : Int32).toInt = 0 ∧ ¬ DpR (cyP (fa 12 4) (fa 12 5) (fa 12 11) (fa 12 12) (a).toInt (iv 12 0).toInt 0) (cyP (fa 12 4) (fa 12 5) (fa 12 11) (fa 12 12) (a).toInt (iv 12 0).toInt 1) (owY (fa 12 9) (fa 12 10) (iv 12 20).toInt (iv 12 21).toInt (iv 12 22).toInt) (fa 12 7) (fa 12 8) ((iv 12 3).toInt).toNat b)) from (by
              have sc0 := xr1_7
              have sr0 := xr1_8
              have sd0 := xr1_5
              have sw0 := xr1_6
              rw [show (0 : Int32).toInt = 0 from by decide] at sc0 sd0 sw0
              have sc1 := xr5_7
              have sr1 := xr5_8
              have sd1 := xr5_5
              have sw1 := xr5_6
              rw [show (1 : Int32).toInt = 1 from by decide] at sc1 sd1 sw1
              have hp9 := xr11_0
              rw [show (n3 : Int64) = _ from Int64.toInt_inj.mp sd0] at hp9
              rw [show (n4 : Int64) = _ from Int64.toInt_inj.mp sw0] at hp9
              rw [show (n7 : Int64) = _ from Int64.toInt_inj.mp sd1] at hp9
              rw [show (n8 : Int64) = _ from Int64.toInt_inj.mp sw1] at hp9
              exact Or.inl ⟨by omega, by omega, by omega, (hp9.resolve_right (fun q => by omega)).2⟩)), ⟨by decide, by decide⟩, rfl⟩, by rw [ht9]; exact hP9, hD9⟩, hS.F ht9⟩) hS.2.2 dX12_doLooksPart_68
set_option maxHeartbeats 4000000 in
set_option maxRecDepth 100000 in
/-- X12_haveBoth -/
theorem c_X12_haveBoth_q (l : Launch) (dC : Nat → ClassId) (dI : Nat → Nat → Nat) (sz : Nat) (h : Nat) (g : Nat → Nat → Nat) (ca : Nat → Nat → ClassId) (iv : Nat → Nat → Int32) (lv : Nat → Nat → Int64) (fa : Nat → Nat → Nat → Int32) (la : Nat → Nat → Nat → Int64) (hI : IX iv fa) (a : Int32) (hJR : JRf (iv 12 3).toInt (fa 12 7)) : Met l yX12_haveBoth (wc yX12_haveBoth cX12_haveBoth 2 (some .boolean)) ({ frames := 2, cells := 0, slots := 0, locals := 47 } : Room) (pW (dC, dI) classes (WM h g ca iv lv fa la) (TM ca) sz [.ref h, .int a]) (va_Qi (fun r (u : SS) => ∃ (ni_12_19 : Int32) (nl_12_17 : Int64) (nl_12_18 : Int64), (((r.toInt = 1 ∧ (0 < (caC (cyP (fa 12 4) (fa 12 5) (fa 12 11) (fa 12 12) a.toInt (iv 12 0).toInt 0) (owY (fa 12 9) (fa 12 10) (iv 12 20).toInt (iv 12 21).toInt (iv 12 22).toInt) ((iv 12 3).toInt).toNat).toInt ∧ 0 < (caC (cyP (fa 12 4) (fa 12 5) (fa 12 11) (fa 12 12) a.toInt (iv 12 0).toInt 1) (owY (fa 12 9) (fa 12 10) (iv 12 20).toInt (iv 12 21).toInt (iv 12 22).toInt) ((iv 12 3).toInt).toNat).toInt)) ∨ (r.toInt = 0 ∧ ¬ (0 < (caC (cyP (fa 12 4) (fa 12 5) (fa 12 11) (fa 12 12) a.toInt (iv 12 0).toInt 0) (owY (fa 12 9) (fa 12 10) (iv 12 20).toInt (iv 12 21).toInt (iv 12 22).toInt) ((iv 12 3).toInt).toNat).toInt ∧ 0 < (caC (cyP (fa 12 4) (fa 12 5) (fa 12 11) (fa 12 12) a.toInt (iv 12 0).toInt 1) (owY (fa 12 9) (fa 12 10) (iv 12 20).toInt (iv 12 21).toInt (iv 12 22).toInt) ((iv 12 3).toInt).toNat).toInt)))) ∧ (0 ≤ r.toInt ∧ r.toInt ≤ 1) ∧ u = ((u2 iv 12 19 ni_12_19), (u2 (u2 lv 12 17 nl_12_17) 12 18 nl_12_18), fa, la)) (bM (dC, dI) h g ca (va_A (WM h g ca iv lv fa la) sz)) (va_A (WM h g ca iv lv fa la) sz)) 0 0 (va_A (WM h g ca iv lv fa la) sz) := by
  refine Met.ofW (cc := cX12_haveBoth) (maxL := 2) (ret := (some .boolean)) (by decide) rfl ?_
  intro p e s m args below meth c s₁ B hml hv
  obtain ⟨rfl, hsz, hP, hK, hD0⟩ := hv
  have hx := B.exec
  have hb := B.bytes
  have hr := B.returns
  have ht := tb_tl (atoms_spec (ws := wc yX12_haveBoth cX12_haveBoth 2 (some .boolean)) B.pre)
  have hown : s.vm.findClass RX12 = some m.cls := findClass_of_methodNamed B.named
  have hlocks := B.notSynchronized
  subst hsz
  have hD := hD0.self (sz := s.heap.size)
  generalize hAe : va_A (WM h g ca iv lv fa la) s.heap.size = A at hD ⊢
  have hA : ∀ q : Nat, s.heap.size ≤ q → A q := fun q h => by rw [← hAe]; exact Or.inr h
  have hS : va_S A s.heap s.heap [] := va_S.rf
  have hl := lv_entry [.ref h, .int a] (n := 2) (Nat.le_of_ble_eq_true rfl)
  rw [lg_entry_eq]
  generalize (lg_sl [.ref h, .int a] ++ List.replicate (2 - (lg_sl [.ref h, .int a]).length) Slot.unset).toArray = ls at hl ⊢
  have hl : lv_has ls 2 [(0, .ref h), (1, .int a)] := hl
  refine lv_aload_n hx hb dX12_haveBoth_0 rfl (lv_at hl 0 rfl) ?_
  refine lv_iload_n hx hb dX12_haveBoth_1 rfl (lv_at hl 1 rfl) ?_
  refine lv_iconst (v := 0) hx hb dX12_haveBoth_2 (by decide) ?_
  refine lv_aload_n hx hb dX12_haveBoth_3 rfl (lv_at hl 0 rfl) ?_
  have i_12_0 : 0 ≤ (iv 12 0).toInt ∧ (iv 12 0).toInt ≤ 3000 := hI.1 12 0
  refine gM_12_0 hx hb ht hown hK hP m_1139 (v := (iv 12 0)) rfl dX12_haveBoth_4 ?_
  have hFc := free_all hD hS hA
  refine va_calli (va_runV (As := [.int a, .int 0, .int (iv 12 0)]) (rest := []) ⟨hx, hb, hml, hown, ht⟩ (c_X12_sumUp_q l dC dI s.heap.size h g ca iv lv fa la hI a 0 (iv 12 0) hJR) (kV 3 ht m_1434 m_1436 m_45 m_89 m_1437 rfl rfl hd_X12_sumUp_v ⟨Nat.le_of_ble_eq_true rfl, Nat.le_of_ble_eq_true rfl⟩) (vW hP hK hD (rM_12 hK hP)) rfl rfl hl.1 rfl (lv_room (Nat.le_of_ble_eq_true rfl)) dX12_haveBoth_7 ⟨Nat.le_of_ble_eq_true rfl, Nat.le_of_ble_eq_true rfl⟩) hS (fun q _ h => hFc q h) hFc (fun r1 u t H1 locs ht9 hvm hr1 hB hz1 hk1 hS => ?_)
  obtain ⟨n2, n3, n4, xr1_0, xr1_1, xr1_2, xr1_3, xr1_4, xr1_5, xr1_6, xr1_7, xr1_8, hr1, rfl⟩ := hr1
  obtain ⟨hP, hD⟩ := hB
  rw [ht9] at hP
  generalize H1 = H at hP hS ⊢
  have hP : va_P (dC, dI) classes (WM h g ca (u2 iv 12 19 n2) (u2 (u2 lv 12 17 n3) 12 18 n4) fa la) H := hP
  have hD : va_D A (WM h g ca (u2 iv 12 19 n2) (u2 (u2 lv 12 17 n3) 12 18 n4) fa la) := (show va_D _ (WM h g ca (u2 iv 12 19 n2) (u2 (u2 lv 12 17 n3) 12 18 n4) fa la) from hD).weaken (fun _ _ _ h => hFc _ h)
  have xr1_0 : 0 ≤ (r1 : Int32).toInt := xr1_0
  have xr1_1 : (r1 : Int32).toInt ≤ 60 := xr1_1
  have xr1_2 : 0 ≤ (n4 : Int64).toInt := xr1_2
  have xr1_3 : (n4 : Int64).toInt ≤ 599940 := xr1_3
  have xr1_4 : 100 * (r1 : Int32).toInt ≤ (n4 : Int64).toInt := xr1_4
  have : (0 : Int32).toInt = 0 := (by decide)
  have i_12_3 : 0 ≤ (iv 12 3).toInt ∧ (iv 12 3).toInt ≤ 60 := hI.1 12 3
  have xr1_5 : (n3 : Int64).toInt = (caL (cyP (fa 12 4) (fa 12 5) (fa 12 11) (fa 12 12) (a : Int32).toInt ((iv 12 0) : Int32).toInt (0 : Int32).toInt) (owY (fa 12 9) (fa 12 10) ((iv 12 20) : Int32).toInt ((iv 12 21) : Int32).toInt ((iv 12 22) : Int32).toInt) (fa 12 8) (((iv 12 3) : Int32).toInt).toNat).toInt := xr1_5
  have xr1_6 : (n4 : Int64).toInt = (caL (cyP (fa 12 4) (fa 12 5) (fa 12 11) (fa 12 12) (a : Int32).toInt ((iv 12 0) : Int32).toInt (0 : Int32).toInt) (owY (fa 12 9) (fa 12 10) ((iv 12 20) : Int32).toInt ((iv 12 21) : Int32).toInt ((iv 12 22) : Int32).toInt) (fa 12 7) (((iv 12 3) : Int32).toInt).toNat).toInt := xr1_6
  have xr1_7 : (n2 : Int32).toInt = (caC (cyP (fa 12 4) (fa 12 5) (fa 12 11) (fa 12 12) (a : Int32).toInt ((iv 12 0) : Int32).toInt (0 : Int32).toInt) (owY (fa 12 9) (fa 12 10) ((iv 12 20) : Int32).toInt ((iv 12 21) : Int32).toInt ((iv 12 22) : Int32).toInt) (((iv 12 3) : Int32).toInt).toNat).toInt := xr1_7
  have xr1_8 : (r1 : Int32).toInt = (n2 : Int32).toInt := xr1_8
  refine lv_if_le (tgt := 30) hx hb dX12_haveBoth_10 (by decide) (fun c5 => ?_) (fun c5 => ?_)
  · have fc5 := z_le (rfl : (r1).toInt = _) (by decide : (0 : Int32).toInt = 0) c5
    refine lv_iconst (v := 0) hx hb dX12_haveBoth_30 (by decide) ?_
    have hP9 : va_P (dC, dI) classes (WM h g ca (u2 iv 12 19 n2) (u2 (u2 lv 12 17 n3) 12 18 n4) fa la) H := hP
    have hD9 : va_D A (WM h g ca (u2 iv 12 19 n2) (u2 (u2 lv 12 17 n3) 12 18 n4) fa la) := hD
    exact W.zret (v := 0) hx hb hr rfl (fun t ht9 hW => ⟨⟨0, ((u2 iv 12 19 n2), (u2 (u2 lv 12 17 n3) 12 18 n4), fa, la), rfl, ⟨n2, n3, n4, (show (((0 : Int32).toInt = 1 ∧ (0 < (caC (cyP (fa 12 4) (fa 12 5) (fa 12 11) (fa 12 12) (a).toInt (iv 12 0).toInt 0) (owY (fa 12 9) (fa 12 10) (iv 12 20).toInt (iv 12 21).toInt (iv 12 22).toInt) ((iv 12 3).toInt).toNat).toInt ∧ 0 < (caC (cyP (fa 12 4) (fa 12 5) (fa 12 11) (fa 12 12) (a).toInt (iv 12 0).toInt 1) (owY (fa 12 9) (fa 12 10) (iv 12 20).toInt (iv 12 21).toInt (iv 12 22).toInt) ((iv 12 3).toInt).toNat).toInt)) ∨ ((0 : Int32).toInt = 0 ∧ ¬ (0 < (caC (cyP (fa 12 4) (fa 12 5) (fa 12 11) (fa 12 12) (a).toInt (iv 12 0).toInt 0) (owY (fa 12 9) (fa 12 10) (iv 12 20).toInt (iv 12 21).toInt (iv 12 22).toInt) ((iv 12 3).toInt).toNat).toInt ∧ 0 < (caC (cyP (fa 12 4) (fa 12 5) (fa 12 11) (fa 12 12) (a).toInt (iv 12 0).toInt 1) (owY (fa 12 9) (fa 12 10) (iv 12 20).toInt (iv 12 21).toInt (iv 12 22).toInt) ((iv 12 3).toInt).toNat).toInt))) from (by
          have sc0 := xr1_7
          have sr0 := xr1_8
          have sd0 := xr1_5
          have sw0 := xr1_6
          rw [show (0 : Int32).toInt = 0 from by decide] at sc0 sd0 sw0
          exact Or.inr ⟨by omega, fun z => by obtain ⟨z1, z2⟩ := z; omega⟩)), ⟨by decide, by decide⟩, rfl⟩, by rw [ht9]; exact hP9, hD9⟩, hS.F ht9⟩) hS.2.2 dX12_haveBoth_31
  · have fc5 := z_nle (rfl : (r1).toInt = _) (by decide : (0 : Int32).toInt = 0) c5
    refine lv_aload_n hx hb dX12_haveBoth_13 rfl (lv_at hl 0 rfl) ?_
    refine lv_iload_n hx hb dX12_haveBoth_14 rfl (lv_at hl 1 rfl) ?_
    refine lv_iconst (v := 1) hx hb dX12_haveBoth_15 (by decide) ?_
    refine lv_aload_n hx hb dX12_haveBoth_16 rfl (lv_at hl 0 rfl) ?_
    refine gM_12_0 hx hb ht hown hK hP m_1139 (v := (iv 12 0)) rfl dX12_haveBoth_17 ?_
    have hFc := free_all hD hS hA
    refine va_calli (va_runV (As := [.int a, .int 1, .int (iv 12 0)]) (rest := []) ⟨hx, hb, hml, hown, ht⟩ (c_X12_sumUp_q l dC dI H.size h g ca (u2 iv 12 19 n2) (u2 (u2 lv 12 17 n3) 12 18 n4) fa la (IX_i (c := 12) (k := 19) hI (full_i _)) a 1 (iv 12 0) hJR) (kV 3 ht m_1434 m_1436 m_45 m_89 m_1437 rfl rfl hd_X12_sumUp_v ⟨Nat.le_of_ble_eq_true rfl, Nat.le_of_ble_eq_true rfl⟩) (vW hP hK hD (rM_12 hK hP)) rfl rfl hl.1 rfl (lv_room (Nat.le_of_ble_eq_true rfl)) dX12_haveBoth_20 ⟨Nat.le_of_ble_eq_true rfl, Nat.le_of_ble_eq_true rfl⟩) hS (fun q _ h => hFc q h) hFc (fun r6 u t H1 locs ht9 hvm hr6 hB hz1 hk1 hS => ?_)
    obtain ⟨n7, n8, n9, xr6_0, xr6_1, xr6_2, xr6_3, xr6_4, xr6_5, xr6_6, xr6_7, xr6_8, hr6, rfl⟩ := hr6
    obtain ⟨hP, hD⟩ := hB
    rw [ht9] at hP
    generalize H1 = H at hP hS ⊢
    have hP : va_P (dC, dI) classes (WM h g ca (u2 iv 12 19 n7) (u2 (u2 lv 12 17 n8) 12 18 n9) fa la) H := hP
    have hD : va_D A (WM h g ca (u2 iv 12 19 n7) (u2 (u2 lv 12 17 n8) 12 18 n9) fa la) := (show va_D _ (WM h g ca (u2 iv 12 19 n7) (u2 (u2 lv 12 17 n8) 12 18 n9) fa la) from hD).weaken (fun _ _ _ h => hFc _ h)
    have xr6_0 : 0 ≤ (r6 : Int32).toInt := xr6_0
    have xr6_1 : (r6 : Int32).toInt ≤ 60 := xr6_1
    have xr6_2 : 0 ≤ (n9 : Int64).toInt := xr6_2
    have xr6_3 : (n9 : Int64).toInt ≤ 599940 := xr6_3
    have xr6_4 : 100 * (r6 : Int32).toInt ≤ (n9 : Int64).toInt := xr6_4
    have : (1 : Int32).toInt = 1 := (by decide)
    have xr6_5 : (n8 : Int64).toInt = (caL (cyP (fa 12 4) (fa 12 5) (fa 12 11) (fa 12 12) (a : Int32).toInt ((iv 12 0) : Int32).toInt (1 : Int32).toInt) (owY (fa 12 9) (fa 12 10) ((iv 12 20) : Int32).toInt ((iv 12 21) : Int32).toInt ((iv 12 22) : Int32).toInt) (fa 12 8) (((iv 12 3) : Int32).toInt).toNat).toInt := xr6_5
    have xr6_6 : (n9 : Int64).toInt = (caL (cyP (fa 12 4) (fa 12 5) (fa 12 11) (fa 12 12) (a : Int32).toInt ((iv 12 0) : Int32).toInt (1 : Int32).toInt) (owY (fa 12 9) (fa 12 10) ((iv 12 20) : Int32).toInt ((iv 12 21) : Int32).toInt ((iv 12 22) : Int32).toInt) (fa 12 7) (((iv 12 3) : Int32).toInt).toNat).toInt := xr6_6
    have xr6_7 : (n7 : Int32).toInt = (caC (cyP (fa 12 4) (fa 12 5) (fa 12 11) (fa 12 12) (a : Int32).toInt ((iv 12 0) : Int32).toInt (1 : Int32).toInt) (owY (fa 12 9) (fa 12 10) ((iv 12 20) : Int32).toInt ((iv 12 21) : Int32).toInt ((iv 12 22) : Int32).toInt) (((iv 12 3) : Int32).toInt).toNat).toInt := xr6_7
    have xr6_8 : (r6 : Int32).toInt = (n7 : Int32).toInt := xr6_8
    refine lv_if_le (tgt := 30) hx hb dX12_haveBoth_23 (by decide) (fun c10 => ?_) (fun c10 => ?_)
    · have fc10 := z_le (rfl : (r6).toInt = _) (by decide : (0 : Int32).toInt = 0) c10
      refine lv_iconst (v := 0) hx hb dX12_haveBoth_30 (by decide) ?_
      have hP9 : va_P (dC, dI) classes (WM h g ca (u2 iv 12 19 n7) (u2 (u2 lv 12 17 n8) 12 18 n9) fa la) H := hP
      have hD9 : va_D A (WM h g ca (u2 iv 12 19 n7) (u2 (u2 lv 12 17 n8) 12 18 n9) fa la) := hD
      exact W.zret (v := 0) hx hb hr rfl (fun t ht9 hW => ⟨⟨0, ((u2 iv 12 19 n7), (u2 (u2 lv 12 17 n8) 12 18 n9), fa, la), rfl, ⟨n7, n8, n9, (show (((0 : Int32).toInt = 1 ∧ (0 < (caC (cyP (fa 12 4) (fa 12 5) (fa 12 11) (fa 12 12) (a).toInt (iv 12 0).toInt 0) (owY (fa 12 9) (fa 12 10) (iv 12 20).toInt (iv 12 21).toInt (iv 12 22).toInt) ((iv 12 3).toInt).toNat).toInt ∧ 0 < (caC (cyP (fa 12 4) (fa 12 5) (fa 12 11) (fa 12 12) (a).toInt (iv 12 0).toInt 1) (owY (fa 12 9) (fa 12 10) (iv 12 20).toInt (iv 12 21).toInt (iv 12 22).toInt) ((iv 12 3).toInt).toNat).toInt)) ∨ ((0 : Int32).toInt = 0 ∧ ¬ (0 < (caC (cyP (fa 12 4) (fa 12 5) (fa 12 11) (fa 12 12) (a).toInt (iv 12 0).toInt 0) (owY (fa 12 9) (fa 12 10) (iv 12 20).toInt (iv 12 21).toInt (iv 12 22).toInt) ((iv 12 3).toInt).toNat).toInt ∧ 0 < (caC (cyP (fa 12 4) (fa 12 5) (fa 12 11) (fa 12 12) (a).toInt (iv 12 0).toInt 1) (owY (fa 12 9) (fa 12 10) (iv 12 20).toInt (iv 12 21).toInt (iv 12 22).toInt) ((iv 12 3).toInt).toNat).toInt))) from (by
            have sc0 := xr1_7
            have sr0 := xr1_8
            have sd0 := xr1_5
            have sw0 := xr1_6
            rw [show (0 : Int32).toInt = 0 from by decide] at sc0 sd0 sw0
            have sc1 := xr6_7
            have sr1 := xr6_8
            have sd1 := xr6_5
            have sw1 := xr6_6
            rw [show (1 : Int32).toInt = 1 from by decide] at sc1 sd1 sw1
            exact Or.inr ⟨by omega, fun z => by obtain ⟨z1, z2⟩ := z; omega⟩)), ⟨by decide, by decide⟩, rfl⟩, by rw [ht9]; exact hP9, hD9⟩, hS.F ht9⟩) hS.2.2 dX12_haveBoth_31
    · have fc10 := z_nle (rfl : (r6).toInt = _) (by decide : (0 : Int32).toInt = 0) c10
      refine lv_iconst (v := 1) hx hb dX12_haveBoth_26 (by decide) ?_
      refine lv_goto (tgt := 31) hx hb dX12_haveBoth_27 (by decide) ?_
      have hP9 : va_P (dC, dI) classes (WM h g ca (u2 iv 12 19 n7) (u2 (u2 lv 12 17 n8) 12 18 n9) fa la) H := hP
      have hD9 : va_D A (WM h g ca (u2 iv 12 19 n7) (u2 (u2 lv 12 17 n8) 12 18 n9) fa la) := hD
      exact W.zret (v := 1) hx hb hr rfl (fun t ht9 hW => ⟨⟨1, ((u2 iv 12 19 n7), (u2 (u2 lv 12 17 n8) 12 18 n9), fa, la), rfl, ⟨n7, n8, n9, (show (((1 : Int32).toInt = 1 ∧ (0 < (caC (cyP (fa 12 4) (fa 12 5) (fa 12 11) (fa 12 12) (a).toInt (iv 12 0).toInt 0) (owY (fa 12 9) (fa 12 10) (iv 12 20).toInt (iv 12 21).toInt (iv 12 22).toInt) ((iv 12 3).toInt).toNat).toInt ∧ 0 < (caC (cyP (fa 12 4) (fa 12 5) (fa 12 11) (fa 12 12) (a).toInt (iv 12 0).toInt 1) (owY (fa 12 9) (fa 12 10) (iv 12 20).toInt (iv 12 21).toInt (iv 12 22).toInt) ((iv 12 3).toInt).toNat).toInt)) ∨ ((1 : Int32).toInt = 0 ∧ ¬ (0 < (caC (cyP (fa 12 4) (fa 12 5) (fa 12 11) (fa 12 12) (a).toInt (iv 12 0).toInt 0) (owY (fa 12 9) (fa 12 10) (iv 12 20).toInt (iv 12 21).toInt (iv 12 22).toInt) ((iv 12 3).toInt).toNat).toInt ∧ 0 < (caC (cyP (fa 12 4) (fa 12 5) (fa 12 11) (fa 12 12) (a).toInt (iv 12 0).toInt 1) (owY (fa 12 9) (fa 12 10) (iv 12 20).toInt (iv 12 21).toInt (iv 12 22).toInt) ((iv 12 3).toInt).toNat).toInt))) from (by
            have sc0 := xr1_7
            have sr0 := xr1_8
            have sd0 := xr1_5
            have sw0 := xr1_6
            rw [show (0 : Int32).toInt = 0 from by decide] at sc0 sd0 sw0
            have sc1 := xr6_7
            have sr1 := xr6_8
            have sd1 := xr6_5
            have sw1 := xr6_6
            rw [show (1 : Int32).toInt = 1 from by decide] at sc1 sd1 sw1
            exact Or.inl ⟨by omega, by omega, by omega⟩)), ⟨by decide, by decide⟩, rfl⟩, by rw [ht9]; exact hP9, hD9⟩, hS.F ht9⟩) hS.2.2 dX12_haveBoth_31
set_option maxHeartbeats 4000000 in
set_option maxRecDepth 100000 in
/-- X12_tryCause -/
theorem c_X12_tryCause_o (l : Launch) (dC : Nat → ClassId) (dI : Nat → Nat → Nat) (sz : Nat) (h : Nat) (g : Nat → Nat → Nat) (ca : Nat → Nat → ClassId) (iv : Nat → Nat → Int32) (lv : Nat → Nat → Int64) (fa : Nat → Nat → Nat → Int32) (la : Nat → Nat → Nat → Int64) (hI : IX iv fa) (a : Int32) (b : Int32) (d : Int32) (q_12_48 : 0 ≤ (iv 12 48).toInt ∧ (iv 12 48).toInt ≤ 71) (h_d : 0 ≤ d.toInt ∧ d.toInt ≤ 3) (p_0 : (iv 12 20).toInt = -1) (p_1 : (iv 12 21).toInt = -1) (p_2 : (iv 12 22).toInt = -1) (hJR : JRf (iv 12 3).toInt (fa 12 7)) : Met l yX12_tryCause (wc yX12_tryCause cX12_tryCause 12 none) ({ frames := 3, cells := 0, slots := 0, locals := 77 } : Room) (pW (dC, dI) classes (WM h g ca iv lv fa la) (TM ca) sz [.ref h, .int a, .int b, .int d, .int (-1), .int (-1)]) (va_Qv (fun (u : SS) => ∃ (na_12_49 : Nat → Int32) (ni_12_19 : Int32) (ni_12_20 : Int32) (ni_12_21 : Int32) (ni_12_22 : Int32) (ni_12_48 : Int32) (nl_12_17 : Int64) (nl_12_18 : Int64), inb (bI 12 48) ni_12_48 ∧ ((ni_12_20).toInt = -1) ∧ ((ni_12_21).toInt = -1) ∧ ((ni_12_22).toInt = -1) ∧ ((ni_12_48).toInt ≤ (iv 12 48).toInt + 1) ∧ ((((ni_12_48).toInt = (iv 12 48).toInt + 1 ∧ AgR (cyP (fa 12 4) (fa 12 5) (fa 12 11) (fa 12 12) a.toInt (iv 12 0).toInt 0) (cyP (fa 12 4) (fa 12 5) (fa 12 11) (fa 12 12) a.toInt (iv 12 0).toInt 1) (owY (fa 12 9) (fa 12 10) d.toInt (-1) (-1)) (fa 12 7) (fa 12 8) ((iv 12 3).toInt).toNat 2 b ∧ (na_12_49 ((iv 12 48).toInt).toNat).toInt = d.toInt ∧ ∀ j : Nat, j ≠ ((iv 12 48).toInt).toNat → na_12_49 j = (fa 12 49) j) ∨ ((ni_12_48).toInt = (iv 12 48).toInt ∧ ¬ AgR (cyP (fa 12 4) (fa 12 5) (fa 12 11) (fa 12 12) a.toInt (iv 12 0).toInt 0) (cyP (fa 12 4) (fa 12 5) (fa 12 11) (fa 12 12) a.toInt (iv 12 0).toInt 1) (owY (fa 12 9) (fa 12 10) d.toInt (-1) (-1)) (fa 12 7) (fa 12 8) ((iv 12 3).toInt).toNat 2 b ∧ ∀ j : Nat, na_12_49 j = (fa 12 49) j))) ∧ u = ((u2 (u2 (u2 (u2 (u2 iv 12 19 ni_12_19) 12 20 ni_12_20) 12 21 ni_12_21) 12 22 ni_12_22) 12 48 ni_12_48), (u2 (u2 lv 12 17 nl_12_17) 12 18 nl_12_18), (u2 fa 12 49 na_12_49), la)) (bM (dC, dI) h g ca (va_A (WM h g ca iv lv fa la) sz)) (va_A (WM h g ca iv lv fa la) sz)) 0 0 (va_A (WM h g ca iv lv fa la) sz) := by
  refine Met.ofW (cc := cX12_tryCause) (maxL := 12) (ret := none) (by decide) rfl ?_
  intro p e s m args below meth c s₁ B hml hv
  obtain ⟨rfl, hsz, hP, hK, hD0⟩ := hv
  have hx := B.exec
  have hb := B.bytes
  have hr := B.returns
  have ht := tb_tl (atoms_spec (ws := wc yX12_tryCause cX12_tryCause 12 none) B.pre)
  have hown : s.vm.findClass RX12 = some m.cls := findClass_of_methodNamed B.named
  have hlocks := B.notSynchronized
  subst hsz
  have hD := hD0.self (sz := s.heap.size)
  generalize hAe : va_A (WM h g ca iv lv fa la) s.heap.size = A at hD ⊢
  have hA : ∀ q : Nat, s.heap.size ≤ q → A q := fun q h => by rw [← hAe]; exact Or.inr h
  have hS : va_S A s.heap s.heap [] := va_S.rf
  have hl := lv_entry [.ref h, .int a, .int b, .int d, .int (-1), .int (-1)] (n := 12) (Nat.le_of_ble_eq_true rfl)
  rw [lg_entry_eq]
  generalize (lg_sl [.ref h, .int a, .int b, .int d, .int (-1), .int (-1)] ++ List.replicate (12 - (lg_sl [.ref h, .int a, .int b, .int d, .int (-1), .int (-1)]).length) Slot.unset).toArray = ls at hl ⊢
  have hl : lv_has ls 12 [(0, .ref h), (1, .int a), (2, .int b), (3, .int d), (4, .int (-1)), (5, .int (-1))] := hl
  refine lv_aload_n hx hb dX12_tryCause_0 rfl (lv_at hl 0 rfl) ?_
  refine lv_iload_n hx hb dX12_tryCause_1 rfl (lv_at hl 1 rfl) ?_
  refine lv_iconst (v := 0) hx hb dX12_tryCause_2 (by decide) ?_
  refine lv_aload_n hx hb dX12_tryCause_3 rfl (lv_at hl 0 rfl) ?_
  have i_12_0 : 0 ≤ (iv 12 0).toInt ∧ (iv 12 0).toInt ≤ 3000 := hI.1 12 0
  refine gM_12_0 hx hb ht hown hK hP m_1139 (v := (iv 12 0)) rfl dX12_tryCause_4 ?_
  have hFc := free_all hD hS hA
  refine va_calli (va_runV (As := [.int a, .int 0, .int (iv 12 0)]) (rest := []) ⟨hx, hb, hml, hown, ht⟩ (c_X12_sumUp_q l dC dI s.heap.size h g ca iv lv fa la hI a 0 (iv 12 0) hJR) (kV 3 ht m_1434 m_1436 m_45 m_89 m_1437 rfl rfl hd_X12_sumUp_v ⟨Nat.le_of_ble_eq_true rfl, Nat.le_of_ble_eq_true rfl⟩) (vW hP hK hD (rM_12 hK hP)) rfl rfl hl.1 rfl (lv_room (Nat.le_of_ble_eq_true rfl)) dX12_tryCause_7 ⟨Nat.le_of_ble_eq_true rfl, Nat.le_of_ble_eq_true rfl⟩) hS (fun q _ h => hFc q h) hFc (fun r1 u t H1 locs ht9 hvm hr1 hB hz1 hk1 hS => ?_)
  obtain ⟨n2, n3, n4, xr1_0, xr1_1, xr1_2, xr1_3, xr1_4, xr1_5, xr1_6, xr1_7, xr1_8, hr1, rfl⟩ := hr1
  obtain ⟨hP, hD⟩ := hB
  rw [ht9] at hP
  generalize H1 = H at hP hS ⊢
  have hP : va_P (dC, dI) classes (WM h g ca (u2 iv 12 19 n2) (u2 (u2 lv 12 17 n3) 12 18 n4) fa la) H := hP
  have hD : va_D A (WM h g ca (u2 iv 12 19 n2) (u2 (u2 lv 12 17 n3) 12 18 n4) fa la) := (show va_D _ (WM h g ca (u2 iv 12 19 n2) (u2 (u2 lv 12 17 n3) 12 18 n4) fa la) from hD).weaken (fun _ _ _ h => hFc _ h)
  have xr1_0 : 0 ≤ (r1 : Int32).toInt := xr1_0
  have xr1_1 : (r1 : Int32).toInt ≤ 60 := xr1_1
  have xr1_2 : 0 ≤ (n4 : Int64).toInt := xr1_2
  have xr1_3 : (n4 : Int64).toInt ≤ 599940 := xr1_3
  have xr1_4 : 100 * (r1 : Int32).toInt ≤ (n4 : Int64).toInt := xr1_4
  have : (0 : Int32).toInt = 0 := (by decide)
  have i_12_3 : 0 ≤ (iv 12 3).toInt ∧ (iv 12 3).toInt ≤ 60 := hI.1 12 3
  have xr1_5 : (n3 : Int64).toInt = (caL (cyP (fa 12 4) (fa 12 5) (fa 12 11) (fa 12 12) (a : Int32).toInt ((iv 12 0) : Int32).toInt (0 : Int32).toInt) (owY (fa 12 9) (fa 12 10) ((iv 12 20) : Int32).toInt ((iv 12 21) : Int32).toInt ((iv 12 22) : Int32).toInt) (fa 12 8) (((iv 12 3) : Int32).toInt).toNat).toInt := xr1_5
  have xr1_6 : (n4 : Int64).toInt = (caL (cyP (fa 12 4) (fa 12 5) (fa 12 11) (fa 12 12) (a : Int32).toInt ((iv 12 0) : Int32).toInt (0 : Int32).toInt) (owY (fa 12 9) (fa 12 10) ((iv 12 20) : Int32).toInt ((iv 12 21) : Int32).toInt ((iv 12 22) : Int32).toInt) (fa 12 7) (((iv 12 3) : Int32).toInt).toNat).toInt := xr1_6
  have xr1_7 : (n2 : Int32).toInt = (caC (cyP (fa 12 4) (fa 12 5) (fa 12 11) (fa 12 12) (a : Int32).toInt ((iv 12 0) : Int32).toInt (0 : Int32).toInt) (owY (fa 12 9) (fa 12 10) ((iv 12 20) : Int32).toInt ((iv 12 21) : Int32).toInt ((iv 12 22) : Int32).toInt) (((iv 12 3) : Int32).toInt).toNat).toInt := xr1_7
  have xr1_8 : (r1 : Int32).toInt = (n2 : Int32).toInt := xr1_8
  have : 0 ≤ (r1 : Int32).toInt ∧ (r1 : Int32).toInt ≤ 60 := ⟨by omega, by omega⟩
  refine lv_istore (lv' := [(6, .int r1), (0, .ref h), (1, .int a), (2, .int b), (3, .int d), (4, .int (-1)), (5, .int (-1))]) hx hb dX12_tryCause_10 hl (by decide) rfl (fun ls hl => ?_)
  refine lv_aload_n hx hb dX12_tryCause_12 rfl (lv_at hl 1 rfl) ?_
  refine lv_iload_n hx hb dX12_tryCause_13 rfl (lv_at hl 2 rfl) ?_
  refine lv_iconst (v := 1) hx hb dX12_tryCause_14 (by decide) ?_
  refine lv_aload_n hx hb dX12_tryCause_15 rfl (lv_at hl 1 rfl) ?_
  refine gM_12_0 hx hb ht hown hK hP m_1139 (v := (iv 12 0)) rfl dX12_tryCause_16 ?_
  have hFc := free_all hD hS hA
  refine va_calli (va_runV (As := [.int a, .int 1, .int (iv 12 0)]) (rest := []) ⟨hx, hb, hml, hown, ht⟩ (c_X12_sumUp_q l dC dI H.size h g ca (u2 iv 12 19 n2) (u2 (u2 lv 12 17 n3) 12 18 n4) fa la (IX_i (c := 12) (k := 19) hI (full_i _)) a 1 (iv 12 0) hJR) (kV 3 ht m_1434 m_1436 m_45 m_89 m_1437 rfl rfl hd_X12_sumUp_v ⟨Nat.le_of_ble_eq_true rfl, Nat.le_of_ble_eq_true rfl⟩) (vW hP hK hD (rM_12 hK hP)) rfl rfl hl.1 rfl (lv_room (Nat.le_of_ble_eq_true rfl)) dX12_tryCause_19 ⟨Nat.le_of_ble_eq_true rfl, Nat.le_of_ble_eq_true rfl⟩) hS (fun q _ h => hFc q h) hFc (fun r5 u t H1 locs ht9 hvm hr5 hB hz1 hk1 hS => ?_)
  obtain ⟨n6, n7, n8, xr5_0, xr5_1, xr5_2, xr5_3, xr5_4, xr5_5, xr5_6, xr5_7, xr5_8, hr5, rfl⟩ := hr5
  obtain ⟨hP, hD⟩ := hB
  rw [ht9] at hP
  generalize H1 = H at hP hS ⊢
  have hP : va_P (dC, dI) classes (WM h g ca (u2 iv 12 19 n6) (u2 (u2 lv 12 17 n7) 12 18 n8) fa la) H := hP
  have hD : va_D A (WM h g ca (u2 iv 12 19 n6) (u2 (u2 lv 12 17 n7) 12 18 n8) fa la) := (show va_D _ (WM h g ca (u2 iv 12 19 n6) (u2 (u2 lv 12 17 n7) 12 18 n8) fa la) from hD).weaken (fun _ _ _ h => hFc _ h)
  have xr5_0 : 0 ≤ (r5 : Int32).toInt := xr5_0
  have xr5_1 : (r5 : Int32).toInt ≤ 60 := xr5_1
  have xr5_2 : 0 ≤ (n8 : Int64).toInt := xr5_2
  have xr5_3 : (n8 : Int64).toInt ≤ 599940 := xr5_3
  have xr5_4 : 100 * (r5 : Int32).toInt ≤ (n8 : Int64).toInt := xr5_4
  have : (1 : Int32).toInt = 1 := (by decide)
  have xr5_5 : (n7 : Int64).toInt = (caL (cyP (fa 12 4) (fa 12 5) (fa 12 11) (fa 12 12) (a : Int32).toInt ((iv 12 0) : Int32).toInt (1 : Int32).toInt) (owY (fa 12 9) (fa 12 10) ((iv 12 20) : Int32).toInt ((iv 12 21) : Int32).toInt ((iv 12 22) : Int32).toInt) (fa 12 8) (((iv 12 3) : Int32).toInt).toNat).toInt := xr5_5
  have xr5_6 : (n8 : Int64).toInt = (caL (cyP (fa 12 4) (fa 12 5) (fa 12 11) (fa 12 12) (a : Int32).toInt ((iv 12 0) : Int32).toInt (1 : Int32).toInt) (owY (fa 12 9) (fa 12 10) ((iv 12 20) : Int32).toInt ((iv 12 21) : Int32).toInt ((iv 12 22) : Int32).toInt) (fa 12 7) (((iv 12 3) : Int32).toInt).toNat).toInt := xr5_6
  have xr5_7 : (n6 : Int32).toInt = (caC (cyP (fa 12 4) (fa 12 5) (fa 12 11) (fa 12 12) (a : Int32).toInt ((iv 12 0) : Int32).toInt (1 : Int32).toInt) (owY (fa 12 9) (fa 12 10) ((iv 12 20) : Int32).toInt ((iv 12 21) : Int32).toInt ((iv 12 22) : Int32).toInt) (((iv 12 3) : Int32).toInt).toNat).toInt := xr5_7
  have xr5_8 : (r5 : Int32).toInt = (n6 : Int32).toInt := xr5_8
  have : 0 ≤ (r5 : Int32).toInt ∧ (r5 : Int32).toInt ≤ 60 := ⟨by omega, by omega⟩
  refine lv_istore (lv' := [(7, .int r5), (6, .int r1), (0, .ref h), (1, .int a), (2, .int b), (3, .int d), (4, .int (-1)), (5, .int (-1))]) hx hb dX12_tryCause_22 hl (by decide) rfl (fun ls hl => ?_)
  refine lv_aload_n hx hb dX12_tryCause_24 rfl (lv_at hl 2 rfl) ?_
  refine lv_iload_n hx hb dX12_tryCause_25 rfl (lv_at hl 5 rfl) ?_
  refine lv_iload hx hb dX12_tryCause_26 (lv_at hl 6 rfl) ?_
  refine lv_iload hx hb dX12_tryCause_28 (lv_at hl 7 rfl) ?_
  have hFc := free_all hD hS hA
  refine va_callv (va_runV (As := [.int d, .int (-1), .int (-1)]) (rest := []) ⟨hx, hb, hml, hown, ht⟩ (c_X12_leaveOut_x l dC dI H.size h g ca (u2 iv 12 19 n6) (u2 (u2 lv 12 17 n7) 12 18 n8) fa la (IX_i (c := 12) (k := 19) hI (full_i _)) d (-1) (-1)) (kV 3 ht m_1590 m_1592 m_67 m_89 m_1593 rfl rfl hd_X12_leaveOut_v ⟨Nat.le_of_ble_eq_true rfl, Nat.le_of_ble_eq_true rfl⟩) (vW hP hK hD (rM_12 hK hP)) rfl rfl hl.1 rfl (lv_room (Nat.le_of_ble_eq_true rfl)) dX12_tryCause_30 ⟨Nat.le_of_ble_eq_true rfl, Nat.le_of_ble_eq_true rfl⟩) hS (fun q _ h => hFc q h) hFc (fun u t H1 locs ht9 hvm hr9 hB hz1 hk1 hS => ?_)
  obtain ⟨n10, n11, n12, xr9_0, xr9_1, xr9_2, rfl⟩ := hr9
  obtain ⟨hP, hD⟩ := hB
  rw [ht9] at hP
  generalize H1 = H at hP hS ⊢
  have hP : va_P (dC, dI) classes (WM h g ca (u2 (u2 (u2 (u2 iv 12 19 n6) 12 20 n10) 12 21 n11) 12 22 n12) (u2 (u2 lv 12 17 n7) 12 18 n8) fa la) H := hP
  have hD : va_D A (WM h g ca (u2 (u2 (u2 (u2 iv 12 19 n6) 12 20 n10) 12 21 n11) 12 22 n12) (u2 (u2 lv 12 17 n7) 12 18 n8) fa la) := (show va_D _ (WM h g ca (u2 (u2 (u2 (u2 iv 12 19 n6) 12 20 n10) 12 21 n11) 12 22 n12) (u2 (u2 lv 12 17 n7) 12 18 n8) fa la) from hD).weaken (fun _ _ _ h => hFc _ h)
  have xr9_0 : (n10 : Int32).toInt = (d : Int32).toInt := xr9_0
  have : ((-1) : Int32).toInt = (-1) := (by decide)
  have xr9_1 : (n11 : Int32).toInt = ((-1) : Int32).toInt := xr9_1
  have xr9_2 : (n12 : Int32).toInt = ((-1) : Int32).toInt := xr9_2
  refine lv_aload_n hx hb dX12_tryCause_33 rfl (lv_at hl 2 rfl) ?_
  refine lv_iload_n hx hb dX12_tryCause_34 rfl (lv_at hl 3 rfl) ?_
  refine lv_iconst (v := 0) hx hb dX12_tryCause_35 (by decide) ?_
  refine lv_aload_n hx hb dX12_tryCause_36 rfl (lv_at hl 2 rfl) ?_
  refine gM_12_0 hx hb ht hown hK hP m_1139 (v := (iv 12 0)) rfl dX12_tryCause_37 ?_
  have hFc := free_all hD hS hA
  refine va_calli (va_runV (As := [.int a, .int 0, .int (iv 12 0)]) (rest := []) ⟨hx, hb, hml, hown, ht⟩ (c_X12_sumUp_q l dC dI H.size h g ca (u2 (u2 (u2 (u2 iv 12 19 n6) 12 20 n10) 12 21 n11) 12 22 n12) (u2 (u2 lv 12 17 n7) 12 18 n8) fa la (IX_i (c := 12) (k := 22) (IX_i (c := 12) (k := 21) (IX_i (c := 12) (k := 20) (IX_i (c := 12) (k := 19) hI (full_i _)) (full_i _)) (full_i _)) (full_i _)) a 0 (iv 12 0) hJR) (kV 3 ht m_1434 m_1436 m_45 m_89 m_1437 rfl rfl hd_X12_sumUp_v ⟨Nat.le_of_ble_eq_true rfl, Nat.le_of_ble_eq_true rfl⟩) (vW hP hK hD (rM_12 hK hP)) rfl rfl hl.1 rfl (lv_room (Nat.le_of_ble_eq_true rfl)) dX12_tryCause_40 ⟨Nat.le_of_ble_eq_true rfl, Nat.le_of_ble_eq_true rfl⟩) hS (fun q _ h => hFc q h) hFc (fun r13 u t H1 locs ht9 hvm hr13 hB hz1 hk1 hS => ?_)
  obtain ⟨n14, n15, n16, xr13_0, xr13_1, xr13_2, xr13_3, xr13_4, xr13_5, xr13_6, xr13_7, xr13_8, hr13, rfl⟩ := hr13
  obtain ⟨hP, hD⟩ := hB
  rw [ht9] at hP
  generalize H1 = H at hP hS ⊢
  have hP : va_P (dC, dI) classes (WM h g ca (u2 (u2 (u2 (u2 iv 12 19 n14) 12 20 n10) 12 21 n11) 12 22 n12) (u2 (u2 lv 12 17 n15) 12 18 n16) fa la) H := hP
  have hD : va_D A (WM h g ca (u2 (u2 (u2 (u2 iv 12 19 n14) 12 20 n10) 12 21 n11) 12 22 n12) (u2 (u2 lv 12 17 n15) 12 18 n16) fa la) := (show va_D _ (WM h g ca (u2 (u2 (u2 (u2 iv 12 19 n14) 12 20 n10) 12 21 n11) 12 22 n12) (u2 (u2 lv 12 17 n15) 12 18 n16) fa la) from hD).weaken (fun _ _ _ h => hFc _ h)
  have xr13_0 : 0 ≤ (r13 : Int32).toInt := xr13_0
  have xr13_1 : (r13 : Int32).toInt ≤ 60 := xr13_1
  have xr13_2 : 0 ≤ (n16 : Int64).toInt := xr13_2
  have xr13_3 : (n16 : Int64).toInt ≤ 599940 := xr13_3
  have xr13_4 : 100 * (r13 : Int32).toInt ≤ (n16 : Int64).toInt := xr13_4
  have xr13_5 : (n15 : Int64).toInt = (caL (cyP (fa 12 4) (fa 12 5) (fa 12 11) (fa 12 12) (a : Int32).toInt ((iv 12 0) : Int32).toInt (0 : Int32).toInt) (owY (fa 12 9) (fa 12 10) (n10 : Int32).toInt (n11 : Int32).toInt (n12 : Int32).toInt) (fa 12 8) (((iv 12 3) : Int32).toInt).toNat).toInt := xr13_5
  have xr13_6 : (n16 : Int64).toInt = (caL (cyP (fa 12 4) (fa 12 5) (fa 12 11) (fa 12 12) (a : Int32).toInt ((iv 12 0) : Int32).toInt (0 : Int32).toInt) (owY (fa 12 9) (fa 12 10) (n10 : Int32).toInt (n11 : Int32).toInt (n12 : Int32).toInt) (fa 12 7) (((iv 12 3) : Int32).toInt).toNat).toInt := xr13_6
  have xr13_7 : (n14 : Int32).toInt = (caC (cyP (fa 12 4) (fa 12 5) (fa 12 11) (fa 12 12) (a : Int32).toInt ((iv 12 0) : Int32).toInt (0 : Int32).toInt) (owY (fa 12 9) (fa 12 10) (n10 : Int32).toInt (n11 : Int32).toInt (n12 : Int32).toInt) (((iv 12 3) : Int32).toInt).toNat).toInt := xr13_7
  have xr13_8 : (r13 : Int32).toInt = (n14 : Int32).toInt := xr13_8
  have : 0 ≤ (r13 : Int32).toInt ∧ (r13 : Int32).toInt ≤ 60 := ⟨by omega, by omega⟩
  refine lv_istore (lv' := [(8, .int r13), (7, .int r5), (6, .int r1), (0, .ref h), (1, .int a), (2, .int b), (3, .int d), (4, .int (-1)), (5, .int (-1))]) hx hb dX12_tryCause_43 hl (by decide) rfl (fun ls hl => ?_)
  refine lv_aload_n hx hb dX12_tryCause_45 rfl (lv_at hl 3 rfl) ?_
  refine lv_iload_n hx hb dX12_tryCause_46 rfl (lv_at hl 4 rfl) ?_
  refine lv_iconst (v := 1) hx hb dX12_tryCause_47 (by decide) ?_
  refine lv_aload_n hx hb dX12_tryCause_48 rfl (lv_at hl 3 rfl) ?_
  refine gM_12_0 hx hb ht hown hK hP m_1139 (v := (iv 12 0)) rfl dX12_tryCause_49 ?_
  have hFc := free_all hD hS hA
  refine va_calli (va_runV (As := [.int a, .int 1, .int (iv 12 0)]) (rest := []) ⟨hx, hb, hml, hown, ht⟩ (c_X12_sumUp_q l dC dI H.size h g ca (u2 (u2 (u2 (u2 iv 12 19 n14) 12 20 n10) 12 21 n11) 12 22 n12) (u2 (u2 lv 12 17 n15) 12 18 n16) fa la (IX_i (c := 12) (k := 22) (IX_i (c := 12) (k := 21) (IX_i (c := 12) (k := 20) (IX_i (c := 12) (k := 19) hI (full_i _)) (full_i _)) (full_i _)) (full_i _)) a 1 (iv 12 0) hJR) (kV 3 ht m_1434 m_1436 m_45 m_89 m_1437 rfl rfl hd_X12_sumUp_v ⟨Nat.le_of_ble_eq_true rfl, Nat.le_of_ble_eq_true rfl⟩) (vW hP hK hD (rM_12 hK hP)) rfl rfl hl.1 rfl (lv_room (Nat.le_of_ble_eq_true rfl)) dX12_tryCause_52 ⟨Nat.le_of_ble_eq_true rfl, Nat.le_of_ble_eq_true rfl⟩) hS (fun q _ h => hFc q h) hFc (fun r17 u t H1 locs ht9 hvm hr17 hB hz1 hk1 hS => ?_)
  obtain ⟨n18, n19, n20, xr17_0, xr17_1, xr17_2, xr17_3, xr17_4, xr17_5, xr17_6, xr17_7, xr17_8, hr17, rfl⟩ := hr17
  obtain ⟨hP, hD⟩ := hB
  rw [ht9] at hP
  generalize H1 = H at hP hS ⊢
  have hP : va_P (dC, dI) classes (WM h g ca (u2 (u2 (u2 (u2 iv 12 19 n18) 12 20 n10) 12 21 n11) 12 22 n12) (u2 (u2 lv 12 17 n19) 12 18 n20) fa la) H := hP
  have hD : va_D A (WM h g ca (u2 (u2 (u2 (u2 iv 12 19 n18) 12 20 n10) 12 21 n11) 12 22 n12) (u2 (u2 lv 12 17 n19) 12 18 n20) fa la) := (show va_D _ (WM h g ca (u2 (u2 (u2 (u2 iv 12 19 n18) 12 20 n10) 12 21 n11) 12 22 n12) (u2 (u2 lv 12 17 n19) 12 18 n20) fa la) from hD).weaken (fun _ _ _ h => hFc _ h)
  have xr17_0 : 0 ≤ (r17 : Int32).toInt := xr17_0
  have xr17_1 : (r17 : Int32).toInt ≤ 60 := xr17_1
  have xr17_2 : 0 ≤ (n20 : Int64).toInt := xr17_2
  have xr17_3 : (n20 : Int64).toInt ≤ 599940 := xr17_3
  have xr17_4 : 100 * (r17 : Int32).toInt ≤ (n20 : Int64).toInt := xr17_4
  have xr17_5 : (n19 : Int64).toInt = (caL (cyP (fa 12 4) (fa 12 5) (fa 12 11) (fa 12 12) (a : Int32).toInt ((iv 12 0) : Int32).toInt (1 : Int32).toInt) (owY (fa 12 9) (fa 12 10) (n10 : Int32).toInt (n11 : Int32).toInt (n12 : Int32).toInt) (fa 12 8) (((iv 12 3) : Int32).toInt).toNat).toInt := xr17_5
  have xr17_6 : (n20 : Int64).toInt = (caL (cyP (fa 12 4) (fa 12 5) (fa 12 11) (fa 12 12) (a : Int32).toInt ((iv 12 0) : Int32).toInt (1 : Int32).toInt) (owY (fa 12 9) (fa 12 10) (n10 : Int32).toInt (n11 : Int32).toInt (n12 : Int32).toInt) (fa 12 7) (((iv 12 3) : Int32).toInt).toNat).toInt := xr17_6
  have xr17_7 : (n18 : Int32).toInt = (caC (cyP (fa 12 4) (fa 12 5) (fa 12 11) (fa 12 12) (a : Int32).toInt ((iv 12 0) : Int32).toInt (1 : Int32).toInt) (owY (fa 12 9) (fa 12 10) (n10 : Int32).toInt (n11 : Int32).toInt (n12 : Int32).toInt) (((iv 12 3) : Int32).toInt).toNat).toInt := xr17_7
  have xr17_8 : (r17 : Int32).toInt = (n18 : Int32).toInt := xr17_8
  have : 0 ≤ (r17 : Int32).toInt ∧ (r17 : Int32).toInt ≤ 60 := ⟨by omega, by omega⟩
  refine lv_istore (lv' := [(9, .int r17), (8, .int r13), (7, .int r5), (6, .int r1), (0, .ref h), (1, .int a), (2, .int b), (3, .int d), (4, .int (-1)), (5, .int (-1))]) hx hb dX12_tryCause_55 hl (by decide) rfl (fun ls hl => ?_)
  refine lv_iload hx hb dX12_tryCause_57 (lv_at hl 3 rfl) ?_
  refine lv_iload hx hb dX12_tryCause_59 (lv_at hl 1 rfl) ?_
  refine lv_isub hx hb dX12_tryCause_61 ?_
  refine lv_topi (fun v21 ev21 => ?_)
  have tv21 := z_sub ev21 (rfl : (r1).toInt = _) (rfl : (r13).toInt = _) (by omega) (by omega)
  refine lv_iload hx hb dX12_tryCause_62 (lv_at hl 2 rfl) ?_
  refine lv_iadd hx hb dX12_tryCause_64 ?_
  refine lv_topi (fun v22 ev22 => ?_)
  have tv22 := z_add ev22 (rfl : (v21).toInt = _) (rfl : (r5).toInt = _) (by omega) (by omega)
  refine lv_iload hx hb dX12_tryCause_65 (lv_at hl 0 rfl) ?_
  refine lv_isub hx hb dX12_tryCause_67 ?_
  refine lv_topi (fun v23 ev23 => ?_)
  have tv23 := z_sub ev23 (rfl : (v22).toInt = _) (rfl : (r17).toInt = _) (by omega) (by omega)
  refine lv_istore (lv' := [(10, .int v23), (9, .int r17), (8, .int r13), (7, .int r5), (6, .int r1), (0, .ref h), (1, .int a), (2, .int b), (3, .int d), (4, .int (-1)), (5, .int (-1))]) hx hb dX12_tryCause_68 hl (by decide) rfl (fun ls hl => ?_)
  refine lv_iload hx hb dX12_tryCause_70 (lv_at hl 2 rfl) ?_
  refine lv_if_le (tgt := 108) hx hb dX12_tryCause_72 (by decide) (fun c24 => ?_) (fun c24 => ?_)
  · have fc24 := z_le (rfl : (r13).toInt = _) (by decide : (0 : Int32).toInt = 0) c24
    refine lv_iconst (v := 0) hx hb dX12_tryCause_108 (by decide) ?_
    refine lv_istore (lv' := [(11, .int 0), (10, .int v23), (9, .int r17), (8, .int r13), (7, .int r5), (6, .int r1), (0, .ref h), (1, .int a), (2, .int b), (3, .int d), (4, .int (-1)), (5, .int (-1))]) hx hb dX12_tryCause_109 hl (by decide) rfl (fun ls hl => ?_)
    refine lv_aload_n hx hb dX12_tryCause_111 rfl (lv_at hl 6 rfl) ?_
    refine lv_iconst (v := (-1)) hx hb dX12_tryCause_112 (by decide) ?_
    refine lv_iconst (v := (-1)) hx hb dX12_tryCause_113 (by decide) ?_
    refine lv_iconst (v := (-1)) hx hb dX12_tryCause_114 (by decide) ?_
    have hFc := free_all hD hS hA
    refine va_callv (va_runV (As := [.int (-1), .int (-1), .int (-1)]) (rest := []) ⟨hx, hb, hml, hown, ht⟩ (c_X12_leaveOut_x l dC dI H.size h g ca (u2 (u2 (u2 (u2 iv 12 19 n18) 12 20 n10) 12 21 n11) 12 22 n12) (u2 (u2 lv 12 17 n19) 12 18 n20) fa la (IX_i (c := 12) (k := 22) (IX_i (c := 12) (k := 21) (IX_i (c := 12) (k := 20) (IX_i (c := 12) (k := 19) hI (full_i _)) (full_i _)) (full_i _)) (full_i _)) (-1) (-1) (-1)) (kV 3 ht m_1590 m_1592 m_67 m_89 m_1593 rfl rfl hd_X12_leaveOut_v ⟨Nat.le_of_ble_eq_true rfl, Nat.le_of_ble_eq_true rfl⟩) (vW hP hK hD (rM_12 hK hP)) rfl rfl hl.1 rfl (lv_room (Nat.le_of_ble_eq_true rfl)) dX12_tryCause_115 ⟨Nat.le_of_ble_eq_true rfl, Nat.le_of_ble_eq_true rfl⟩) hS (fun q _ h => hFc q h) hFc (fun u t H1 locs ht9 hvm hr25 hB hz1 hk1 hS => ?_)
    obtain ⟨n26, n27, n28, xr25_0, xr25_1, xr25_2, rfl⟩ := hr25
    obtain ⟨hP, hD⟩ := hB
    rw [ht9] at hP
    generalize H1 = H at hP hS ⊢
    have hP : va_P (dC, dI) classes (WM h g ca (u2 (u2 (u2 (u2 iv 12 19 n18) 12 20 n26) 12 21 n27) 12 22 n28) (u2 (u2 lv 12 17 n19) 12 18 n20) fa la) H := hP
    have hD : va_D A (WM h g ca (u2 (u2 (u2 (u2 iv 12 19 n18) 12 20 n26) 12 21 n27) 12 22 n28) (u2 (u2 lv 12 17 n19) 12 18 n20) fa la) := (show va_D _ (WM h g ca (u2 (u2 (u2 (u2 iv 12 19 n18) 12 20 n26) 12 21 n27) 12 22 n28) (u2 (u2 lv 12 17 n19) 12 18 n20) fa la) from hD).weaken (fun _ _ _ h => hFc _ h)
    have xr25_0 : (n26 : Int32).toInt = ((-1) : Int32).toInt := xr25_0
    have xr25_1 : (n27 : Int32).toInt = ((-1) : Int32).toInt := xr25_1
    have xr25_2 : (n28 : Int32).toInt = ((-1) : Int32).toInt := xr25_2
    refine lv_iload hx hb dX12_tryCause_118 (lv_at hl 0 rfl) ?_
    refine lv_if_eq (tgt := 169) hx hb dX12_tryCause_120 (by decide) (fun c29 => ?_) (fun c29 => ?_)
    · skip
      have i_12_48 : 0 ≤ (iv 12 48).toInt ∧ (iv 12 48).toInt ≤ 72 := hI.1 12 48
      have hP9 : va_P (dC, dI) classes (WM h g ca (u2 (u2 (u2 (u2 (u2 iv 12 19 n18) 12 20 n26) 12 21 n27) 12 22 n28) 12 48 (iv 12 48)) (u2 (u2 lv 12 17 n19) 12 18 n20) (u2 fa 12 49 (fa 12 49)) la) H := hP
      have hD9 : va_D A (WM h g ca (u2 (u2 (u2 (u2 (u2 iv 12 19 n18) 12 20 n26) 12 21 n27) 12 22 n28) 12 48 (iv 12 48)) (u2 (u2 lv 12 17 n19) 12 18 n20) (u2 fa 12 49 (fa 12 49)) la) := hD
      exact W.vret hx hb hr (fun t ht9 hW => ⟨⟨((u2 (u2 (u2 (u2 (u2 iv 12 19 n18) 12 20 n26) 12 21 n27) 12 22 n28) 12 48 (iv 12 48)), (u2 (u2 lv 12 17 n19) 12 18 n20), (u2 fa 12 49 (fa 12 49)), la), rfl, ⟨(fa 12 49), n18, n26, n27, n28, (iv 12 48), n19, n20, (hI.1 12 48), (show (n26 : Int32).toInt = -1 from by omega), (show (n27 : Int32).toInt = -1 from by omega), (show (n28 : Int32).toInt = -1 from by omega), (show ((iv 12 48) : Int32).toInt ≤ (iv 12 48).toInt + 1 from by omega), (show ((((iv 12 48) : Int32).toInt = (iv 12 48).toInt + 1 ∧ AgR (cyP (fa 12 4) (fa 12 5) (fa 12 11) (fa 12 12) (a).toInt (iv 12 0).toInt 0) (cyP (fa 12 4) (fa 12 5) (fa 12 11) (fa 12 12) (a).toInt (iv 12 0).toInt 1) (owY (fa 12 9) (fa 12 10) (d).toInt (-1) (-1)) (fa 12 7) (fa 12 8) ((iv 12 3).toInt).toNat 2 b ∧ ((fa 12 49) ((iv 12 48).toInt).toNat).toInt = (d).toInt ∧ ∀ j : Nat, j ≠ ((iv 12 48).toInt).toNat → (fa 12 49) j = (fa 12 49) j) ∨ (((iv 12 48) : Int32).toInt = (iv 12 48).toInt ∧ ¬ AgR (cyP (fa 12 4) (fa 12 5) (fa 12 11) (fa 12 12) (a).toInt (iv 12 0).toInt 0) (cyP (fa 12 4) (fa 12 5) (fa 12 11) (fa 12 12) (a).toInt (iv 12 0).toInt 1) (owY (fa 12 9) (fa 12 10) (d).toInt (-1) (-1)) (fa 12 7) (fa 12 8) ((iv 12 3).toInt).toNat 2 b ∧ ∀ j : Nat, (fa 12 49) j = (fa 12 49) j)) from (by
            have sc0 := xr1_7
            have sr0 := xr1_8
            have sd0 := xr1_5
            have sw0 := xr1_6
            rw [show (0 : Int32).toInt = 0 from by decide] at sc0 sd0 sw0
            have sc1 := xr5_7
            have sr1 := xr5_8
            have sd1 := xr5_5
            have sw1 := xr5_6
            rw [show (1 : Int32).toInt = 1 from by decide] at sc1 sd1 sw1
            have sc2 := xr13_7
            have sr2 := xr13_8
            have sd2 := xr13_5
            have sw2 := xr13_6
            rw [show (0 : Int32).toInt = 0 from by decide] at sc2 sd2 sw2
            have sc3 := xr17_7
            have sr3 := xr17_8
            have sd3 := xr17_5
            have sw3 := xr17_6
            rw [show (1 : Int32).toInt = 1 from by decide] at sc3 sd3 sw3
            rw [show (n10 : Int32).toInt = d.toInt from by omega, show (n11 : Int32).toInt = (-1) from by omega, show (n12 : Int32).toInt = (-1) from by omega] at sc2 sc3
            have hn9 : ((iv 12 3).toInt).toNat ≤ 60 := by have q9 : 0 ≤ (iv 12 3).toInt ∧ (iv 12 3).toInt ≤ 60 := hI.1 12 3; omega
            have hw9 : ∀ s : Nat, s < ((iv 12 3).toInt).toNat → ¬ owY (fa 12 9) (fa 12 10) (iv 12 20).toInt (iv 12 21).toInt (iv 12 22).toInt s := fun s _ z => by
              have z1 : 0 ≤ (fa 12 9 s).toInt ∧ (fa 12 9 s).toInt ≤ 3 := hI.2 12 9 s
              have z2 : 0 ≤ (fa 12 10 s).toInt ∧ (fa 12 10 s).toInt ≤ 7 := hI.2 12 10 s
              unfold owY at z
              omega
            have hA9 := Ag_rf (W := owY (fa 12 9) (fa 12 10) d.toInt (-1) (-1)) (ra := fa 12 7) (dr := fa 12 8) (few := 2) (p := b) hn9 hw9 (sr0.trans sc0) (sr1.trans sc1) (sr2.trans sc2) (sr3.trans sc3) rfl
            have hB9 : ¬ AgR (cyP (fa 12 4) (fa 12 5) (fa 12 11) (fa 12 12) a.toInt (iv 12 0).toInt 0) (cyP (fa 12 4) (fa 12 5) (fa 12 11) (fa 12 12) a.toInt (iv 12 0).toInt 1) (owY (fa 12 9) (fa 12 10) d.toInt (-1) (-1)) (fa 12 7) (fa 12 8) ((iv 12 3).toInt).toNat 2 b := fun z => by
              have hC9 := hA9.mpr z
              obtain ⟨c1, c2, c3, -⟩ := hC9
              omega
            exact Or.inr ⟨by omega, hB9, fun j => rfl⟩)), rfl⟩, by rw [ht9]; exact hP9, hD9⟩, hS.F ht9⟩) hS.2.2 dX12_tryCause_169
    · exact absurd rfl c29
  · have fc24 := z_nle (rfl : (r13).toInt = _) (by decide : (0 : Int32).toInt = 0) c24
    refine lv_iload hx hb dX12_tryCause_75 (lv_at hl 1 rfl) ?_
    refine lv_if_le (tgt := 108) hx hb dX12_tryCause_77 (by decide) (fun c30 => ?_) (fun c30 => ?_)
    · have fc30 := z_le (rfl : (r17).toInt = _) (by decide : (0 : Int32).toInt = 0) c30
      refine lv_iconst (v := 0) hx hb dX12_tryCause_108 (by decide) ?_
      refine lv_istore (lv' := [(11, .int 0), (10, .int v23), (9, .int r17), (8, .int r13), (7, .int r5), (6, .int r1), (0, .ref h), (1, .int a), (2, .int b), (3, .int d), (4, .int (-1)), (5, .int (-1))]) hx hb dX12_tryCause_109 hl (by decide) rfl (fun ls hl => ?_)
      refine lv_aload_n hx hb dX12_tryCause_111 rfl (lv_at hl 6 rfl) ?_
      refine lv_iconst (v := (-1)) hx hb dX12_tryCause_112 (by decide) ?_
      refine lv_iconst (v := (-1)) hx hb dX12_tryCause_113 (by decide) ?_
      refine lv_iconst (v := (-1)) hx hb dX12_tryCause_114 (by decide) ?_
      have hFc := free_all hD hS hA
      refine va_callv (va_runV (As := [.int (-1), .int (-1), .int (-1)]) (rest := []) ⟨hx, hb, hml, hown, ht⟩ (c_X12_leaveOut_x l dC dI H.size h g ca (u2 (u2 (u2 (u2 iv 12 19 n18) 12 20 n10) 12 21 n11) 12 22 n12) (u2 (u2 lv 12 17 n19) 12 18 n20) fa la (IX_i (c := 12) (k := 22) (IX_i (c := 12) (k := 21) (IX_i (c := 12) (k := 20) (IX_i (c := 12) (k := 19) hI (full_i _)) (full_i _)) (full_i _)) (full_i _)) (-1) (-1) (-1)) (kV 3 ht m_1590 m_1592 m_67 m_89 m_1593 rfl rfl hd_X12_leaveOut_v ⟨Nat.le_of_ble_eq_true rfl, Nat.le_of_ble_eq_true rfl⟩) (vW hP hK hD (rM_12 hK hP)) rfl rfl hl.1 rfl (lv_room (Nat.le_of_ble_eq_true rfl)) dX12_tryCause_115 ⟨Nat.le_of_ble_eq_true rfl, Nat.le_of_ble_eq_true rfl⟩) hS (fun q _ h => hFc q h) hFc (fun u t H1 locs ht9 hvm hr31 hB hz1 hk1 hS => ?_)
      obtain ⟨n32, n33, n34, xr31_0, xr31_1, xr31_2, rfl⟩ := hr31
      obtain ⟨hP, hD⟩ := hB
      rw [ht9] at hP
      generalize H1 = H at hP hS ⊢
      have hP : va_P (dC, dI) classes (WM h g ca (u2 (u2 (u2 (u2 iv 12 19 n18) 12 20 n32) 12 21 n33) 12 22 n34) (u2 (u2 lv 12 17 n19) 12 18 n20) fa la) H := hP
      have hD : va_D A (WM h g ca (u2 (u2 (u2 (u2 iv 12 19 n18) 12 20 n32) 12 21 n33) 12 22 n34) (u2 (u2 lv 12 17 n19) 12 18 n20) fa la) := (show va_D _ (WM h g ca (u2 (u2 (u2 (u2 iv 12 19 n18) 12 20 n32) 12 21 n33) 12 22 n34) (u2 (u2 lv 12 17 n19) 12 18 n20) fa la) from hD).weaken (fun _ _ _ h => hFc _ h)
      have xr31_0 : (n32 : Int32).toInt = ((-1) : Int32).toInt := xr31_0
      have xr31_1 : (n33 : Int32).toInt = ((-1) : Int32).toInt := xr31_1
      have xr31_2 : (n34 : Int32).toInt = ((-1) : Int32).toInt := xr31_2
      refine lv_iload hx hb dX12_tryCause_118 (lv_at hl 0 rfl) ?_
      refine lv_if_eq (tgt := 169) hx hb dX12_tryCause_120 (by decide) (fun c35 => ?_) (fun c35 => ?_)
      · skip
        have i_12_48 : 0 ≤ (iv 12 48).toInt ∧ (iv 12 48).toInt ≤ 72 := hI.1 12 48
        have hP9 : va_P (dC, dI) classes (WM h g ca (u2 (u2 (u2 (u2 (u2 iv 12 19 n18) 12 20 n32) 12 21 n33) 12 22 n34) 12 48 (iv 12 48)) (u2 (u2 lv 12 17 n19) 12 18 n20) (u2 fa 12 49 (fa 12 49)) la) H := hP
        have hD9 : va_D A (WM h g ca (u2 (u2 (u2 (u2 (u2 iv 12 19 n18) 12 20 n32) 12 21 n33) 12 22 n34) 12 48 (iv 12 48)) (u2 (u2 lv 12 17 n19) 12 18 n20) (u2 fa 12 49 (fa 12 49)) la) := hD
        exact W.vret hx hb hr (fun t ht9 hW => ⟨⟨((u2 (u2 (u2 (u2 (u2 iv 12 19 n18) 12 20 n32) 12 21 n33) 12 22 n34) 12 48 (iv 12 48)), (u2 (u2 lv 12 17 n19) 12 18 n20), (u2 fa 12 49 (fa 12 49)), la), rfl, ⟨(fa 12 49), n18, n32, n33, n34, (iv 12 48), n19, n20, (hI.1 12 48), (show (n32 : Int32).toInt = -1 from by omega), (show (n33 : Int32).toInt = -1 from by omega), (show (n34 : Int32).toInt = -1 from by omega), (show ((iv 12 48) : Int32).toInt ≤ (iv 12 48).toInt + 1 from by omega), (show ((((iv 12 48) : Int32).toInt = (iv 12 48).toInt + 1 ∧ AgR (cyP (fa 12 4) (fa 12 5) (fa 12 11) (fa 12 12) (a).toInt (iv 12 0).toInt 0) (cyP (fa 12 4) (fa 12 5) (fa 12 11) (fa 12 12) (a).toInt (iv 12 0).toInt 1) (owY (fa 12 9) (fa 12 10) (d).toInt (-1) (-1)) (fa 12 7) (fa 12 8) ((iv 12 3).toInt).toNat 2 b ∧ ((fa 12 49) ((iv 12 48).toInt).toNat).toInt = (d).toInt ∧ ∀ j : Nat, j ≠ ((iv 12 48).toInt).toNat → (fa 12 49) j = (fa 12 49) j) ∨ (((iv 12 48) : Int32).toInt = (iv 12 48).toInt ∧ ¬ AgR (cyP (fa 12 4) (fa 12 5) (fa 12 11) (fa 12 12) (a).toInt (iv 12 0).toInt 0) (cyP (fa 12 4) (fa 12 5) (fa 12 11) (fa 12 12) (a).toInt (iv 12 0).toInt 1) (owY (fa 12 9) (fa 12 10) (d).toInt (-1) (-1)) (fa 12 7) (fa 12 8) ((iv 12 3).toInt).toNat 2 b ∧ ∀ j : Nat, (fa 12 49) j = (fa 12 49) j)) from (by
              have sc0 := xr1_7
              have sr0 := xr1_8
              have sd0 := xr1_5
              have sw0 := xr1_6
              rw [show (0 : Int32).toInt = 0 from by decide] at sc0 sd0 sw0
              have sc1 := xr5_7
              have sr1 := xr5_8
              have sd1 := xr5_5
              have sw1 := xr5_6
              rw [show (1 : Int32).toInt = 1 from by decide] at sc1 sd1 sw1
              have sc2 := xr13_7
              have sr2 := xr13_8
              have sd2 := xr13_5
              have sw2 := xr13_6
              rw [show (0 : Int32).toInt = 0 from by decide] at sc2 sd2 sw2
              have sc3 := xr17_7
              have sr3 := xr17_8
              have sd3 := xr17_5
              have sw3 := xr17_6
              rw [show (1 : Int32).toInt = 1 from by decide] at sc3 sd3 sw3
              rw [show (n10 : Int32).toInt = d.toInt from by omega, show (n11 : Int32).toInt = (-1) from by omega, show (n12 : Int32).toInt = (-1) from by omega] at sc2 sc3
              have hn9 : ((iv 12 3).toInt).toNat ≤ 60 := by have q9 : 0 ≤ (iv 12 3).toInt ∧ (iv 12 3).toInt ≤ 60 := hI.1 12 3; omega
              have hw9 : ∀ s : Nat, s < ((iv 12 3).toInt).toNat → ¬ owY (fa 12 9) (fa 12 10) (iv 12 20).toInt (iv 12 21).toInt (iv 12 22).toInt s := fun s _ z => by
                have z1 : 0 ≤ (fa 12 9 s).toInt ∧ (fa 12 9 s).toInt ≤ 3 := hI.2 12 9 s
                have z2 : 0 ≤ (fa 12 10 s).toInt ∧ (fa 12 10 s).toInt ≤ 7 := hI.2 12 10 s
                unfold owY at z
                omega
              have hA9 := Ag_rf (W := owY (fa 12 9) (fa 12 10) d.toInt (-1) (-1)) (ra := fa 12 7) (dr := fa 12 8) (few := 2) (p := b) hn9 hw9 (sr0.trans sc0) (sr1.trans sc1) (sr2.trans sc2) (sr3.trans sc3) rfl
              have hB9 : ¬ AgR (cyP (fa 12 4) (fa 12 5) (fa 12 11) (fa 12 12) a.toInt (iv 12 0).toInt 0) (cyP (fa 12 4) (fa 12 5) (fa 12 11) (fa 12 12) a.toInt (iv 12 0).toInt 1) (owY (fa 12 9) (fa 12 10) d.toInt (-1) (-1)) (fa 12 7) (fa 12 8) ((iv 12 3).toInt).toNat 2 b := fun z => by
                have hC9 := hA9.mpr z
                obtain ⟨c1, c2, c3, -⟩ := hC9
                omega
              exact Or.inr ⟨by omega, hB9, fun j => rfl⟩)), rfl⟩, by rw [ht9]; exact hP9, hD9⟩, hS.F ht9⟩) hS.2.2 dX12_tryCause_169
      · exact absurd rfl c35
    · have fc30 := z_nle (rfl : (r17).toInt = _) (by decide : (0 : Int32).toInt = 0) c30
      refine lv_iload hx hb dX12_tryCause_80 (lv_at hl 0 rfl) ?_
      refine lv_iload hx hb dX12_tryCause_82 (lv_at hl 10 rfl) ?_
      refine lv_if_ge (tgt := 91) hx hb dX12_tryCause_84 (by decide) (fun c36 => ?_) (fun c36 => ?_)
      · exact absurd c36 (by decide)
      · skip
        refine lv_iconst (v := 2) hx hb dX12_tryCause_87 (by decide) ?_
        refine lv_goto (tgt := 92) hx hb dX12_tryCause_88 (by decide) ?_
        refine lv_icmp_lt (tgt := 108) hx hb dX12_tryCause_92 (by decide) (fun c37 => ?_) (fun c37 => ?_)
        · have fc37 := z_lt (rfl : (v23).toInt = _) (by decide : (2 : Int32).toInt = 2) c37
          refine lv_iconst (v := 0) hx hb dX12_tryCause_108 (by decide) ?_
          refine lv_istore (lv' := [(11, .int 0), (10, .int v23), (9, .int r17), (8, .int r13), (7, .int r5), (6, .int r1), (0, .ref h), (1, .int a), (2, .int b), (3, .int d), (4, .int (-1)), (5, .int (-1))]) hx hb dX12_tryCause_109 hl (by decide) rfl (fun ls hl => ?_)
          refine lv_aload_n hx hb dX12_tryCause_111 rfl (lv_at hl 6 rfl) ?_
          refine lv_iconst (v := (-1)) hx hb dX12_tryCause_112 (by decide) ?_
          refine lv_iconst (v := (-1)) hx hb dX12_tryCause_113 (by decide) ?_
          refine lv_iconst (v := (-1)) hx hb dX12_tryCause_114 (by decide) ?_
          have hFc := free_all hD hS hA
          refine va_callv (va_runV (As := [.int (-1), .int (-1), .int (-1)]) (rest := []) ⟨hx, hb, hml, hown, ht⟩ (c_X12_leaveOut_x l dC dI H.size h g ca (u2 (u2 (u2 (u2 iv 12 19 n18) 12 20 n10) 12 21 n11) 12 22 n12) (u2 (u2 lv 12 17 n19) 12 18 n20) fa la (IX_i (c := 12) (k := 22) (IX_i (c := 12) (k := 21) (IX_i (c := 12) (k := 20) (IX_i (c := 12) (k := 19) hI (full_i _)) (full_i _)) (full_i _)) (full_i _)) (-1) (-1) (-1)) (kV 3 ht m_1590 m_1592 m_67 m_89 m_1593 rfl rfl hd_X12_leaveOut_v ⟨Nat.le_of_ble_eq_true rfl, Nat.le_of_ble_eq_true rfl⟩) (vW hP hK hD (rM_12 hK hP)) rfl rfl hl.1 rfl (lv_room (Nat.le_of_ble_eq_true rfl)) dX12_tryCause_115 ⟨Nat.le_of_ble_eq_true rfl, Nat.le_of_ble_eq_true rfl⟩) hS (fun q _ h => hFc q h) hFc (fun u t H1 locs ht9 hvm hr38 hB hz1 hk1 hS => ?_)
          obtain ⟨n39, n40, n41, xr38_0, xr38_1, xr38_2, rfl⟩ := hr38
          obtain ⟨hP, hD⟩ := hB
          rw [ht9] at hP
          generalize H1 = H at hP hS ⊢
          have hP : va_P (dC, dI) classes (WM h g ca (u2 (u2 (u2 (u2 iv 12 19 n18) 12 20 n39) 12 21 n40) 12 22 n41) (u2 (u2 lv 12 17 n19) 12 18 n20) fa la) H := hP
          have hD : va_D A (WM h g ca (u2 (u2 (u2 (u2 iv 12 19 n18) 12 20 n39) 12 21 n40) 12 22 n41) (u2 (u2 lv 12 17 n19) 12 18 n20) fa la) := (show va_D _ (WM h g ca (u2 (u2 (u2 (u2 iv 12 19 n18) 12 20 n39) 12 21 n40) 12 22 n41) (u2 (u2 lv 12 17 n19) 12 18 n20) fa la) from hD).weaken (fun _ _ _ h => hFc _ h)
          have xr38_0 : (n39 : Int32).toInt = ((-1) : Int32).toInt := xr38_0
          have xr38_1 : (n40 : Int32).toInt = ((-1) : Int32).toInt := xr38_1
          have xr38_2 : (n41 : Int32).toInt = ((-1) : Int32).toInt := xr38_2
          refine lv_iload hx hb dX12_tryCause_118 (lv_at hl 0 rfl) ?_
          refine lv_if_eq (tgt := 169) hx hb dX12_tryCause_120 (by decide) (fun c42 => ?_) (fun c42 => ?_)
          · skip
            have i_12_48 : 0 ≤ (iv 12 48).toInt ∧ (iv 12 48).toInt ≤ 72 := hI.1 12 48
            have hP9 : va_P (dC, dI) classes (WM h g ca (u2 (u2 (u2 (u2 (u2 iv 12 19 n18) 12 20 n39) 12 21 n40) 12 22 n41) 12 48 (iv 12 48)) (u2 (u2 lv 12 17 n19) 12 18 n20) (u2 fa 12 49 (fa 12 49)) la) H := hP
            have hD9 : va_D A (WM h g ca (u2 (u2 (u2 (u2 (u2 iv 12 19 n18) 12 20 n39) 12 21 n40) 12 22 n41) 12 48 (iv 12 48)) (u2 (u2 lv 12 17 n19) 12 18 n20) (u2 fa 12 49 (fa 12 49)) la) := hD
            exact W.vret hx hb hr (fun t ht9 hW => ⟨⟨((u2 (u2 (u2 (u2 (u2 iv 12 19 n18) 12 20 n39) 12 21 n40) 12 22 n41) 12 48 (iv 12 48)), (u2 (u2 lv 12 17 n19) 12 18 n20), (u2 fa 12 49 (fa 12 49)), la), rfl, ⟨(fa 12 49), n18, n39, n40, n41, (iv 12 48), n19, n20, (hI.1 12 48), (show (n39 : Int32).toInt = -1 from by omega), (show (n40 : Int32).toInt = -1 from by omega), (show (n41 : Int32).toInt = -1 from by omega), (show ((iv 12 48) : Int32).toInt ≤ (iv 12 48).toInt + 1 from by omega), (show ((((iv 12 48) : Int32).toInt = (iv 12 48).toInt + 1 ∧ AgR (cyP (fa 12 4) (fa 12 5) (fa 12 11) (fa 12 12) (a).toInt (iv 12 0).toInt 0) (cyP (fa 12 4) (fa 12 5) (fa 12 11) (fa 12 12) (a).toInt (iv 12 0).toInt 1) (owY (fa 12 9) (fa 12 10) (d).toInt (-1) (-1)) (fa 12 7) (fa 12 8) ((iv 12 3).toInt).toNat 2 b ∧ ((fa 12 49) ((iv 12 48).toInt).toNat).toInt = (d).toInt ∧ ∀ j : Nat, j ≠ ((iv 12 48).toInt).toNat → (fa 12 49) j = (fa 12 49) j) ∨ (((iv 12 48) : Int32).toInt = (iv 12 48).toInt ∧ ¬ AgR (cyP (fa 12 4) (fa 12 5) (fa 12 11) (fa 12 12) (a).toInt (iv 12 0).toInt 0) (cyP (fa 12 4) (fa 12 5) (fa 12 11) (fa 12 12) (a).toInt (iv 12 0).toInt 1) (owY (fa 12 9) (fa 12 10) (d).toInt (-1) (-1)) (fa 12 7) (fa 12 8) ((iv 12 3).toInt).toNat 2 b ∧ ∀ j : Nat, (fa 12 49) j = (fa 12 49) j)) from (by
                  have sc0 := xr1_7
                  have sr0 := xr1_8
                  have sd0 := xr1_5
                  have sw0 := xr1_6
                  rw [show (0 : Int32).toInt = 0 from by decide] at sc0 sd0 sw0
                  have sc1 := xr5_7
                  have sr1 := xr5_8
                  have sd1 := xr5_5
                  have sw1 := xr5_6
                  rw [show (1 : Int32).toInt = 1 from by decide] at sc1 sd1 sw1
                  have sc2 := xr13_7
                  have sr2 := xr13_8
                  have sd2 := xr13_5
                  have sw2 := xr13_6
                  rw [show (0 : Int32).toInt = 0 from by decide] at sc2 sd2 sw2
                  have sc3 := xr17_7
                  have sr3 := xr17_8
                  have sd3 := xr17_5
                  have sw3 := xr17_6
                  rw [show (1 : Int32).toInt = 1 from by decide] at sc3 sd3 sw3
                  rw [show (n10 : Int32).toInt = d.toInt from by omega, show (n11 : Int32).toInt = (-1) from by omega, show (n12 : Int32).toInt = (-1) from by omega] at sc2 sc3
                  have hn9 : ((iv 12 3).toInt).toNat ≤ 60 := by have q9 : 0 ≤ (iv 12 3).toInt ∧ (iv 12 3).toInt ≤ 60 := hI.1 12 3; omega
                  have hw9 : ∀ s : Nat, s < ((iv 12 3).toInt).toNat → ¬ owY (fa 12 9) (fa 12 10) (iv 12 20).toInt (iv 12 21).toInt (iv 12 22).toInt s := fun s _ z => by
                    have z1 : 0 ≤ (fa 12 9 s).toInt ∧ (fa 12 9 s).toInt ≤ 3 := hI.2 12 9 s
                    have z2 : 0 ≤ (fa 12 10 s).toInt ∧ (fa 12 10 s).toInt ≤ 7 := hI.2 12 10 s
                    unfold owY at z
                    omega
                  have hA9 := Ag_rf (W := owY (fa 12 9) (fa 12 10) d.toInt (-1) (-1)) (ra := fa 12 7) (dr := fa 12 8) (few := 2) (p := b) hn9 hw9 (sr0.trans sc0) (sr1.trans sc1) (sr2.trans sc2) (sr3.trans sc3) rfl
                  have hB9 : ¬ AgR (cyP (fa 12 4) (fa 12 5) (fa 12 11) (fa 12 12) a.toInt (iv 12 0).toInt 0) (cyP (fa 12 4) (fa 12 5) (fa 12 11) (fa 12 12) a.toInt (iv 12 0).toInt 1) (owY (fa 12 9) (fa 12 10) d.toInt (-1) (-1)) (fa 12 7) (fa 12 8) ((iv 12 3).toInt).toNat 2 b := fun z => by
                    have hC9 := hA9.mpr z
                    obtain ⟨c1, c2, c3, -⟩ := hC9
                    omega
                  exact Or.inr ⟨by omega, hB9, fun j => rfl⟩)), rfl⟩, by rw [ht9]; exact hP9, hD9⟩, hS.F ht9⟩) hS.2.2 dX12_tryCause_169
          · exact absurd rfl c42
        · have fc37 := z_nlt (rfl : (v23).toInt = _) (by decide : (2 : Int32).toInt = 2) c37
          refine lv_aload_n hx hb dX12_tryCause_95 rfl (lv_at hl 5 rfl) ?_
          refine lv_iload_n hx hb dX12_tryCause_96 rfl (lv_at hl 6 rfl) ?_
          refine lv_iload_n hx hb dX12_tryCause_97 rfl (lv_at hl 7 rfl) ?_
          have hFc := free_all hD hS hA
          refine va_calli (va_runV (As := [.int a, .int b]) (rest := []) ⟨hx, hb, hml, hown, ht⟩ (c_X12_doLooksPart_q l dC dI H.size h g ca (u2 (u2 (u2 (u2 iv 12 19 n18) 12 20 n10) 12 21 n11) 12 22 n12) (u2 (u2 lv 12 17 n19) 12 18 n20) fa la (IX_i (c := 12) (k := 22) (IX_i (c := 12) (k := 21) (IX_i (c := 12) (k := 20) (IX_i (c := 12) (k := 19) hI (full_i _)) (full_i _)) (full_i _)) (full_i _)) a b hJR) (kV 2 ht m_1582 m_1584 m_65 m_89 m_1585 rfl rfl hd_X12_doLooksPart_v ⟨Nat.le_of_ble_eq_true rfl, Nat.le_of_ble_eq_true rfl⟩) (vW hP hK hD (rM_12 hK hP)) rfl rfl hl.1 rfl (lv_room (Nat.le_of_ble_eq_true rfl)) dX12_tryCause_98 ⟨Nat.le_of_ble_eq_true rfl, Nat.le_of_ble_eq_true rfl⟩) hS (fun q _ h => hFc q h) hFc (fun r43 u t H1 locs ht9 hvm hr43 hB hz1 hk1 hS => ?_)
          obtain ⟨n44, n45, n46, xr43_0, hr43, rfl⟩ := hr43
          obtain ⟨hP, hD⟩ := hB
          rw [ht9] at hP
          generalize H1 = H at hP hS ⊢
          have hP : va_P (dC, dI) classes (WM h g ca (u2 (u2 (u2 (u2 iv 12 19 n44) 12 20 n10) 12 21 n11) 12 22 n12) (u2 (u2 lv 12 17 n45) 12 18 n46) fa la) H := hP
          have hD : va_D A (WM h g ca (u2 (u2 (u2 (u2 iv 12 19 n44) 12 20 n10) 12 21 n11) 12 22 n12) (u2 (u2 lv 12 17 n45) 12 18 n46) fa la) := (show va_D _ (WM h g ca (u2 (u2 (u2 (u2 iv 12 19 n44) 12 20 n10) 12 21 n11) 12 22 n12) (u2 (u2 lv 12 17 n45) 12 18 n46) fa la) from hD).weaken (fun _ _ _ h => hFc _ h)
          have xr43_0 : (((r43 : Int32).toInt = 1 ∧ DpR (cyP (fa 12 4) (fa 12 5) (fa 12 11) (fa 12 12) (a : Int32).toInt ((iv 12 0) : Int32).toInt 0) (cyP (fa 12 4) (fa 12 5) (fa 12 11) (fa 12 12) (a : Int32).toInt ((iv 12 0) : Int32).toInt 1) (owY (fa 12 9) (fa 12 10) (n10 : Int32).toInt (n11 : Int32).toInt (n12 : Int32).toInt) (fa 12 7) (fa 12 8) (((iv 12 3) : Int32).toInt).toNat (b : Int32)) ∨ ((r43 : Int32).toInt = 0 ∧ ¬ DpR (cyP (fa 12 4) (fa 12 5) (fa 12 11) (fa 12 12) (a : Int32).toInt ((iv 12 0) : Int32).toInt 0) (cyP (fa 12 4) (fa 12 5) (fa 12 11) (fa 12 12) (a : Int32).toInt ((iv 12 0) : Int32).toInt 1) (owY (fa 12 9) (fa 12 10) (n10 : Int32).toInt (n11 : Int32).toInt (n12 : Int32).toInt) (fa 12 7) (fa 12 8) (((iv 12 3) : Int32).toInt).toNat (b : Int32))) := xr43_0
          refine lv_if_ne (tgt := 108) hx hb dX12_tryCause_101 (by decide) (fun c47 => ?_) (fun c47 => ?_)
          · have fc47 := z_ne (rfl : (r43).toInt = _) (by decide : (0 : Int32).toInt = 0) c47
            refine lv_iconst (v := 0) hx hb dX12_tryCause_108 (by decide) ?_
            refine lv_istore (lv' := [(11, .int 0), (10, .int v23), (9, .int r17), (8, .int r13), (7, .int r5), (6, .int r1), (0, .ref h), (1, .int a), (2, .int b), (3, .int d), (4, .int (-1)), (5, .int (-1))]) hx hb dX12_tryCause_109 hl (by decide) rfl (fun ls hl => ?_)
            refine lv_aload_n hx hb dX12_tryCause_111 rfl (lv_at hl 6 rfl) ?_
            refine lv_iconst (v := (-1)) hx hb dX12_tryCause_112 (by decide) ?_
            refine lv_iconst (v := (-1)) hx hb dX12_tryCause_113 (by decide) ?_
            refine lv_iconst (v := (-1)) hx hb dX12_tryCause_114 (by decide) ?_
            have hFc := free_all hD hS hA
            refine va_callv (va_runV (As := [.int (-1), .int (-1), .int (-1)]) (rest := []) ⟨hx, hb, hml, hown, ht⟩ (c_X12_leaveOut_x l dC dI H.size h g ca (u2 (u2 (u2 (u2 iv 12 19 n44) 12 20 n10) 12 21 n11) 12 22 n12) (u2 (u2 lv 12 17 n45) 12 18 n46) fa la (IX_i (c := 12) (k := 22) (IX_i (c := 12) (k := 21) (IX_i (c := 12) (k := 20) (IX_i (c := 12) (k := 19) hI (full_i _)) (full_i _)) (full_i _)) (full_i _)) (-1) (-1) (-1)) (kV 3 ht m_1590 m_1592 m_67 m_89 m_1593 rfl rfl hd_X12_leaveOut_v ⟨Nat.le_of_ble_eq_true rfl, Nat.le_of_ble_eq_true rfl⟩) (vW hP hK hD (rM_12 hK hP)) rfl rfl hl.1 rfl (lv_room (Nat.le_of_ble_eq_true rfl)) dX12_tryCause_115 ⟨Nat.le_of_ble_eq_true rfl, Nat.le_of_ble_eq_true rfl⟩) hS (fun q _ h => hFc q h) hFc (fun u t H1 locs ht9 hvm hr48 hB hz1 hk1 hS => ?_)
            obtain ⟨n49, n50, n51, xr48_0, xr48_1, xr48_2, rfl⟩ := hr48
            obtain ⟨hP, hD⟩ := hB
            rw [ht9] at hP
            generalize H1 = H at hP hS ⊢
            have hP : va_P (dC, dI) classes (WM h g ca (u2 (u2 (u2 (u2 iv 12 19 n44) 12 20 n49) 12 21 n50) 12 22 n51) (u2 (u2 lv 12 17 n45) 12 18 n46) fa la) H := hP
            have hD : va_D A (WM h g ca (u2 (u2 (u2 (u2 iv 12 19 n44) 12 20 n49) 12 21 n50) 12 22 n51) (u2 (u2 lv 12 17 n45) 12 18 n46) fa la) := (show va_D _ (WM h g ca (u2 (u2 (u2 (u2 iv 12 19 n44) 12 20 n49) 12 21 n50) 12 22 n51) (u2 (u2 lv 12 17 n45) 12 18 n46) fa la) from hD).weaken (fun _ _ _ h => hFc _ h)
            have xr48_0 : (n49 : Int32).toInt = ((-1) : Int32).toInt := xr48_0
            have xr48_1 : (n50 : Int32).toInt = ((-1) : Int32).toInt := xr48_1
            have xr48_2 : (n51 : Int32).toInt = ((-1) : Int32).toInt := xr48_2
            refine lv_iload hx hb dX12_tryCause_118 (lv_at hl 0 rfl) ?_
            refine lv_if_eq (tgt := 169) hx hb dX12_tryCause_120 (by decide) (fun c52 => ?_) (fun c52 => ?_)
            · skip
              have i_12_48 : 0 ≤ (iv 12 48).toInt ∧ (iv 12 48).toInt ≤ 72 := hI.1 12 48
              have hP9 : va_P (dC, dI) classes (WM h g ca (u2 (u2 (u2 (u2 (u2 iv 12 19 n44) 12 20 n49) 12 21 n50) 12 22 n51) 12 48 (iv 12 48)) (u2 (u2 lv 12 17 n45) 12 18 n46) (u2 fa 12 49 (fa 12 49)) la) H := hP
              have hD9 : va_D A (WM h g ca (u2 (u2 (u2 (u2 (u2 iv 12 19 n44) 12 20 n49) 12 21 n50) 12 22 n51) 12 48 (iv 12 48)) (u2 (u2 lv 12 17 n45) 12 18 n46) (u2 fa 12 49 (fa 12 49)) la) := hD
              exact W.vret hx hb hr (fun t ht9 hW => ⟨⟨((u2 (u2 (u2 (u2 (u2 iv 12 19 n44) 12 20 n49) 12 21 n50) 12 22 n51) 12 48 (iv 12 48)), (u2 (u2 lv 12 17 n45) 12 18 n46), (u2 fa 12 49 (fa 12 49)), la), rfl, ⟨(fa 12 49), n44, n49, n50, n51, (iv 12 48), n45, n46, (hI.1 12 48), (show (n49 : Int32).toInt = -1 from by omega), (show (n50 : Int32).toInt = -1 from by omega), (show (n51 : Int32).toInt = -1 from by omega), (show ((iv 12 48) : Int32).toInt ≤ (iv 12 48).toInt + 1 from by omega), (show ((((iv 12 48) : Int32).toInt = (iv 12 48).toInt + 1 ∧ AgR (cyP (fa 12 4) (fa 12 5) (fa 12 11) (fa 12 12) (a).toInt (iv 12 0).toInt 0) (cyP (fa 12 4) (fa 12 5) (fa 12 11) (fa 12 12) (a).toInt (iv 12 0).toInt 1) (owY (fa 12 9) (fa 12 10) (d).toInt (-1) (-1)) (fa 12 7) (fa 12 8) ((iv 12 3).toInt).toNat 2 b ∧ ((fa 12 49) ((iv 12 48).toInt).toNat).toInt = (d).toInt ∧ ∀ j : Nat, j ≠ ((iv 12 48).toInt).toNat → (fa 12 49) j = (fa 12 49) j) ∨ (((iv 12 48) : Int32).toInt = (iv 12 48).toInt ∧ ¬ AgR (cyP (fa 12 4) (fa 12 5) (fa 12 11) (fa 12 12) (a).toInt (iv 12 0).toInt 0) (cyP (fa 12 4) (fa 12 5) (fa 12 11) (fa 12 12) (a).toInt (iv 12 0).toInt 1) (owY (fa 12 9) (fa 12 10) (d).toInt (-1) (-1)) (fa 12 7) (fa 12 8) ((iv 12 3).toInt).toNat 2 b ∧ ∀ j : Nat, (fa 12 49) j = (fa 12 49) j)) from (by
                    have sc0 := xr1_7
                    have sr0 := xr1_8
                    have sd0 := xr1_5
                    have sw0 := xr1_6
                    rw [show (0 : Int32).toInt = 0 from by decide] at sc0 sd0 sw0
                    have sc1 := xr5_7
                    have sr1 := xr5_8
                    have sd1 := xr5_5
                    have sw1 := xr5_6
                    rw [show (1 : Int32).toInt = 1 from by decide] at sc1 sd1 sw1
                    have sc2 := xr13_7
                    have sr2 := xr13_8
                    have sd2 := xr13_5
                    have sw2 := xr13_6
                    rw [show (0 : Int32).toInt = 0 from by decide] at sc2 sd2 sw2
                    have sc3 := xr17_7
                    have sr3 := xr17_8
                    have sd3 := xr17_5
                    have sw3 := xr17_6
                    rw [show (1 : Int32).toInt = 1 from by decide] at sc3 sd3 sw3
                    rw [show (n10 : Int32).toInt = d.toInt from by omega, show (n11 : Int32).toInt = (-1) from by omega, show (n12 : Int32).toInt = (-1) from by omega] at sc2 sc3
                    have hn9 : ((iv 12 3).toInt).toNat ≤ 60 := by have q9 : 0 ≤ (iv 12 3).toInt ∧ (iv 12 3).toInt ≤ 60 := hI.1 12 3; omega
                    have hw9 : ∀ s : Nat, s < ((iv 12 3).toInt).toNat → ¬ owY (fa 12 9) (fa 12 10) (iv 12 20).toInt (iv 12 21).toInt (iv 12 22).toInt s := fun s _ z => by
                      have z1 : 0 ≤ (fa 12 9 s).toInt ∧ (fa 12 9 s).toInt ≤ 3 := hI.2 12 9 s
                      have z2 : 0 ≤ (fa 12 10 s).toInt ∧ (fa 12 10 s).toInt ≤ 7 := hI.2 12 10 s
                      unfold owY at z
                      omega
                    have hA9 := Ag_rf (W := owY (fa 12 9) (fa 12 10) d.toInt (-1) (-1)) (ra := fa 12 7) (dr := fa 12 8) (few := 2) (p := b) hn9 hw9 (sr0.trans sc0) (sr1.trans sc1) (sr2.trans sc2) (sr3.trans sc3) rfl
                    have hd9 := xr43_0
                    rw [show (n10 : Int32).toInt = d.toInt from by omega, show (n11 : Int32).toInt = (-1) from by omega, show (n12 : Int32).toInt = (-1) from by omega] at hd9
                    have hB9 : ¬ AgR (cyP (fa 12 4) (fa 12 5) (fa 12 11) (fa 12 12) a.toInt (iv 12 0).toInt 0) (cyP (fa 12 4) (fa 12 5) (fa 12 11) (fa 12 12) a.toInt (iv 12 0).toInt 1) (owY (fa 12 9) (fa 12 10) d.toInt (-1) (-1)) (fa 12 7) (fa 12 8) ((iv 12 3).toInt).toNat 2 b := fun z => by
                      have hC9 := hA9.mpr z
                      exact hC9.2.2.2 (hd9.resolve_right (fun q => by omega)).2.2.2
                    exact Or.inr ⟨by omega, hB9, fun j => rfl⟩)), rfl⟩, by rw [ht9]; exact hP9, hD9⟩, hS.F ht9⟩) hS.2.2 dX12_tryCause_169
            · exact absurd rfl c52
          · have fc47 := z_eq (rfl : (r43).toInt = _) (by decide : (0 : Int32).toInt = 0) c47
            refine lv_iconst (v := 1) hx hb dX12_tryCause_104 (by decide) ?_
            refine lv_goto (tgt := 109) hx hb dX12_tryCause_105 (by decide) ?_
            refine lv_istore (lv' := [(11, .int 1), (10, .int v23), (9, .int r17), (8, .int r13), (7, .int r5), (6, .int r1), (0, .ref h), (1, .int a), (2, .int b), (3, .int d), (4, .int (-1)), (5, .int (-1))]) hx hb dX12_tryCause_109 hl (by decide) rfl (fun ls hl => ?_)
            refine lv_aload_n hx hb dX12_tryCause_111 rfl (lv_at hl 6 rfl) ?_
            refine lv_iconst (v := (-1)) hx hb dX12_tryCause_112 (by decide) ?_
            refine lv_iconst (v := (-1)) hx hb dX12_tryCause_113 (by decide) ?_
            refine lv_iconst (v := (-1)) hx hb dX12_tryCause_114 (by decide) ?_
            have hFc := free_all hD hS hA
            refine va_callv (va_runV (As := [.int (-1), .int (-1), .int (-1)]) (rest := []) ⟨hx, hb, hml, hown, ht⟩ (c_X12_leaveOut_x l dC dI H.size h g ca (u2 (u2 (u2 (u2 iv 12 19 n44) 12 20 n10) 12 21 n11) 12 22 n12) (u2 (u2 lv 12 17 n45) 12 18 n46) fa la (IX_i (c := 12) (k := 22) (IX_i (c := 12) (k := 21) (IX_i (c := 12) (k := 20) (IX_i (c := 12) (k := 19) hI (full_i _)) (full_i _)) (full_i _)) (full_i _)) (-1) (-1) (-1)) (kV 3 ht m_1590 m_1592 m_67 m_89 m_1593 rfl rfl hd_X12_leaveOut_v ⟨Nat.le_of_ble_eq_true rfl, Nat.le_of_ble_eq_true rfl⟩) (vW hP hK hD (rM_12 hK hP)) rfl rfl hl.1 rfl (lv_room (Nat.le_of_ble_eq_true rfl)) dX12_tryCause_115 ⟨Nat.le_of_ble_eq_true rfl, Nat.le_of_ble_eq_true rfl⟩) hS (fun q _ h => hFc q h) hFc (fun u t H1 locs ht9 hvm hr53 hB hz1 hk1 hS => ?_)
            obtain ⟨n54, n55, n56, xr53_0, xr53_1, xr53_2, rfl⟩ := hr53
            obtain ⟨hP, hD⟩ := hB
            rw [ht9] at hP
            generalize H1 = H at hP hS ⊢
            have hP : va_P (dC, dI) classes (WM h g ca (u2 (u2 (u2 (u2 iv 12 19 n44) 12 20 n54) 12 21 n55) 12 22 n56) (u2 (u2 lv 12 17 n45) 12 18 n46) fa la) H := hP
            have hD : va_D A (WM h g ca (u2 (u2 (u2 (u2 iv 12 19 n44) 12 20 n54) 12 21 n55) 12 22 n56) (u2 (u2 lv 12 17 n45) 12 18 n46) fa la) := (show va_D _ (WM h g ca (u2 (u2 (u2 (u2 iv 12 19 n44) 12 20 n54) 12 21 n55) 12 22 n56) (u2 (u2 lv 12 17 n45) 12 18 n46) fa la) from hD).weaken (fun _ _ _ h => hFc _ h)
            have xr53_0 : (n54 : Int32).toInt = ((-1) : Int32).toInt := xr53_0
            have xr53_1 : (n55 : Int32).toInt = ((-1) : Int32).toInt := xr53_1
            have xr53_2 : (n56 : Int32).toInt = ((-1) : Int32).toInt := xr53_2
            refine lv_iload hx hb dX12_tryCause_118 (lv_at hl 0 rfl) ?_
            refine lv_if_eq (tgt := 169) hx hb dX12_tryCause_120 (by decide) (fun c57 => ?_) (fun c57 => ?_)
            · exact absurd c57 (by decide)
            · skip
              refine lv_aload_n hx hb dX12_tryCause_123 rfl (lv_at hl 6 rfl) ?_
              refine gM_12_49 hx hb ht hown hK hP m_1188 dX12_tryCause_124 ?_
              refine lv_aload_n hx hb dX12_tryCause_127 rfl (lv_at hl 6 rfl) ?_
              have i_12_48 : 0 ≤ (iv 12 48).toInt ∧ (iv 12 48).toInt ≤ 72 := hI.1 12 48
              refine gM_12_48 hx hb ht hown hK hP m_1187 (v := (iv 12 48)) rfl dX12_tryCause_128 ?_
              refine lv_iload hx hb dX12_tryCause_131 (lv_at hl 11 rfl) ?_
              refine lv_if_lt (tgt := 144) hx hb dX12_tryCause_133 (by decide) (fun c58 => ?_) (fun c58 => ?_)
              · skip
                refine lv_iload hx hb dX12_tryCause_144 (lv_at hl 10 rfl) ?_
                refine lv_if_lt (tgt := 157) hx hb dX12_tryCause_146 (by decide) (fun c59 => ?_) (fun c59 => ?_)
                · skip
                  refine lv_iload_n hx hb dX12_tryCause_157 rfl (lv_at hl 9 rfl) ?_
                  refine tM_12_49 hx hb hK hP hD hS (f0 := (fa 12 49)) rfl (i := (iv 12 48)) (x := d) (vp_in_iff.mpr ⟨by omega, by omega⟩) dX12_tryCause_158 (fun f60 ef60 H locs hP hD hS => ?_)
                  have hf60 : ∀ j, inb (bA 12 49 j) (f60 j) := fun j => full_i _
                  refine lv_aload_n hx hb dX12_tryCause_159 rfl (lv_at hl 6 rfl) ?_
                  refine lv_dup hx hb dX12_tryCause_160 rfl ?_
                  refine gM_12_48 hx hb ht hown hK hP m_1187 (v := (iv 12 48)) rfl dX12_tryCause_161 ?_
                  refine lv_iconst (v := 1) hx hb dX12_tryCause_164 (by decide) ?_
                  refine lv_iadd hx hb dX12_tryCause_165 ?_
                  refine lv_topi (fun v61 ev61 => ?_)
                  have tv61 := z_add ev61 (rfl : ((iv 12 48)).toInt = _) (by decide : (1 : Int32).toInt = 1) (by omega) (by omega)
                  refine pM_12_48 (v := v61) hx hb ht hown hK hP hD hS m_1187 dX12_tryCause_166 (fun H locs hP hD hS => ?_)
                  have hP9 : va_P (dC, dI) classes (WM h g ca (u2 (u2 (u2 (u2 (u2 iv 12 19 n44) 12 20 n54) 12 21 n55) 12 22 n56) 12 48 v61) (u2 (u2 lv 12 17 n45) 12 18 n46) (u2 fa 12 49 f60) la) H := hP
                  have hD9 : va_D A (WM h g ca (u2 (u2 (u2 (u2 (u2 iv 12 19 n44) 12 20 n54) 12 21 n55) 12 22 n56) 12 48 v61) (u2 (u2 lv 12 17 n45) 12 18 n46) (u2 fa 12 49 f60) la) := hD
                  exact W.vret hx hb hr (fun t ht9 hW => ⟨⟨((u2 (u2 (u2 (u2 (u2 iv 12 19 n44) 12 20 n54) 12 21 n55) 12 22 n56) 12 48 v61), (u2 (u2 lv 12 17 n45) 12 18 n46), (u2 fa 12 49 f60), la), rfl, ⟨f60, n44, n54, n55, n56, v61, n45, n46, (show inb (0, 72) v61 from ⟨by omega, by omega⟩), (show (n54 : Int32).toInt = -1 from by omega), (show (n55 : Int32).toInt = -1 from by omega), (show (n56 : Int32).toInt = -1 from by omega), (show (v61 : Int32).toInt ≤ (iv 12 48).toInt + 1 from by omega), (show (((v61 : Int32).toInt = (iv 12 48).toInt + 1 ∧ AgR (cyP (fa 12 4) (fa 12 5) (fa 12 11) (fa 12 12) (a).toInt (iv 12 0).toInt 0) (cyP (fa 12 4) (fa 12 5) (fa 12 11) (fa 12 12) (a).toInt (iv 12 0).toInt 1) (owY (fa 12 9) (fa 12 10) (d).toInt (-1) (-1)) (fa 12 7) (fa 12 8) ((iv 12 3).toInt).toNat 2 b ∧ (f60 ((iv 12 48).toInt).toNat).toInt = (d).toInt ∧ ∀ j : Nat, j ≠ ((iv 12 48).toInt).toNat → f60 j = (fa 12 49) j) ∨ ((v61 : Int32).toInt = (iv 12 48).toInt ∧ ¬ AgR (cyP (fa 12 4) (fa 12 5) (fa 12 11) (fa 12 12) (a).toInt (iv 12 0).toInt 0) (cyP (fa 12 4) (fa 12 5) (fa 12 11) (fa 12 12) (a).toInt (iv 12 0).toInt 1) (owY (fa 12 9) (fa 12 10) (d).toInt (-1) (-1)) (fa 12 7) (fa 12 8) ((iv 12 3).toInt).toNat 2 b ∧ ∀ j : Nat, f60 j = (fa 12 49) j)) from (by
                        have sc0 := xr1_7
                        have sr0 := xr1_8
                        have sd0 := xr1_5
                        have sw0 := xr1_6
                        rw [show (0 : Int32).toInt = 0 from by decide] at sc0 sd0 sw0
                        have sc1 := xr5_7
                        have sr1 := xr5_8
                        have sd1 := xr5_5
                        have sw1 := xr5_6
                        rw [show (1 : Int32).toInt = 1 from by decide] at sc1 sd1 sw1
                        have sc2 := xr13_7
                        have sr2 := xr13_8
                        have sd2 := xr13_5
                        have sw2 := xr13_6
                        rw [show (0 : Int32).toInt = 0 from by decide] at sc2 sd2 sw2
                        have sc3 := xr17_7
                        have sr3 := xr17_8
                        have sd3 := xr17_5
                        have sw3 := xr17_6
                        rw [show (1 : Int32).toInt = 1 from by decide] at sc3 sd3 sw3
                        rw [show (n10 : Int32).toInt = d.toInt from by omega, show (n11 : Int32).toInt = (-1) from by omega, show (n12 : Int32).toInt = (-1) from by omega] at sc2 sc3
                        have hn9 : ((iv 12 3).toInt).toNat ≤ 60 := by have q9 : 0 ≤ (iv 12 3).toInt ∧ (iv 12 3).toInt ≤ 60 := hI.1 12 3; omega
                        have hw9 : ∀ s : Nat, s < ((iv 12 3).toInt).toNat → ¬ owY (fa 12 9) (fa 12 10) (iv 12 20).toInt (iv 12 21).toInt (iv 12 22).toInt s := fun s _ z => by
                          have z1 : 0 ≤ (fa 12 9 s).toInt ∧ (fa 12 9 s).toInt ≤ 3 := hI.2 12 9 s
                          have z2 : 0 ≤ (fa 12 10 s).toInt ∧ (fa 12 10 s).toInt ≤ 7 := hI.2 12 10 s
                          unfold owY at z
                          omega
                        have hA9 := Ag_rf (W := owY (fa 12 9) (fa 12 10) d.toInt (-1) (-1)) (ra := fa 12 7) (dr := fa 12 8) (few := 2) (p := b) hn9 hw9 (sr0.trans sc0) (sr1.trans sc1) (sr2.trans sc2) (sr3.trans sc3) rfl
                        have hd9 := xr43_0
                        rw [show (n10 : Int32).toInt = d.toInt from by omega, show (n11 : Int32).toInt = (-1) from by omega, show (n12 : Int32).toInt = (-1) from by omega] at hd9
                        have hB9 : AgR (cyP (fa 12 4) (fa 12 5) (fa 12 11) (fa 12 12) a.toInt (iv 12 0).toInt 0) (cyP (fa 12 4) (fa 12 5) (fa 12 11) (fa 12 12) a.toInt (iv 12 0).toInt 1) (owY (fa 12 9) (fa 12 10) d.toInt (-1) (-1)) (fa 12 7) (fa 12 8) ((iv 12 3).toInt).toNat 2 b := hA9.mp ⟨by omega, by omega, by omega, fun q => (hd9.resolve_left (fun z => by omega)).2 ⟨by omega, by omega, q⟩⟩
                        have hx9 : f60 (((iv 12 48) : Int32).toInt).toNat = d := by rw [ef60]; exact upd_eq
                        exact Or.inl ⟨by omega, hB9, (show (f60 (((iv 12 48) : Int32).toInt).toNat).toInt = d.toInt from (congrArg Int32.toInt hx9).trans (by omega)), fun j hj => by rw [ef60, upd_ne (show j ≠ ((iv 12 48) : Int32).toNatClampNeg from hj)]⟩)), rfl⟩, by rw [ht9]; exact hP9, hD9⟩, hS.F ht9⟩) hS.2.2 dX12_tryCause_169
                · exact absurd c59 (by decide)
              · exact absurd c58 (by decide)
set_option maxHeartbeats 4000000 in
set_option maxRecDepth 100000 in
/-- X12_tryCause -/
theorem c_X12_tryCause_h (l : Launch) (dC : Nat → ClassId) (dI : Nat → Nat → Nat) (sz : Nat) (h : Nat) (g : Nat → Nat → Nat) (ca : Nat → Nat → ClassId) (iv : Nat → Nat → Int32) (lv : Nat → Nat → Int64) (fa : Nat → Nat → Nat → Int32) (la : Nat → Nat → Nat → Int64) (hI : IX iv fa) (a : Int32) (b : Int32) (k : Int32) (q_12_48 : 0 ≤ (iv 12 48).toInt ∧ (iv 12 48).toInt ≤ 71) (h_k : 0 ≤ k.toInt ∧ k.toInt ≤ 7) (p_0 : (iv 12 20).toInt = -1) (p_1 : (iv 12 21).toInt = -1) (p_2 : (iv 12 22).toInt = -1) (hJR : JRf (iv 12 3).toInt (fa 12 7)) : Met l yX12_tryCause (wc yX12_tryCause cX12_tryCause 12 none) ({ frames := 3, cells := 0, slots := 0, locals := 77 } : Room) (pW (dC, dI) classes (WM h g ca iv lv fa la) (TM ca) sz [.ref h, .int a, .int b, .int (-1), .int k, .int (-1)]) (va_Qv (fun (u : SS) => ∃ (na_12_49 : Nat → Int32) (ni_12_19 : Int32) (ni_12_20 : Int32) (ni_12_21 : Int32) (ni_12_22 : Int32) (ni_12_48 : Int32) (nl_12_17 : Int64) (nl_12_18 : Int64), inb (bI 12 48) ni_12_48 ∧ ((ni_12_20).toInt = -1) ∧ ((ni_12_21).toInt = -1) ∧ ((ni_12_22).toInt = -1) ∧ ((ni_12_48).toInt ≤ (iv 12 48).toInt + 1) ∧ ((((ni_12_48).toInt = (iv 12 48).toInt + 1 ∧ AgR (cyP (fa 12 4) (fa 12 5) (fa 12 11) (fa 12 12) a.toInt (iv 12 0).toInt 0) (cyP (fa 12 4) (fa 12 5) (fa 12 11) (fa 12 12) a.toInt (iv 12 0).toInt 1) (owY (fa 12 9) (fa 12 10) (-1) k.toInt (-1)) (fa 12 7) (fa 12 8) ((iv 12 3).toInt).toNat 2 b ∧ (na_12_49 ((iv 12 48).toInt).toNat).toInt = 10 + k.toInt ∧ ∀ j : Nat, j ≠ ((iv 12 48).toInt).toNat → na_12_49 j = (fa 12 49) j) ∨ ((ni_12_48).toInt = (iv 12 48).toInt ∧ ¬ AgR (cyP (fa 12 4) (fa 12 5) (fa 12 11) (fa 12 12) a.toInt (iv 12 0).toInt 0) (cyP (fa 12 4) (fa 12 5) (fa 12 11) (fa 12 12) a.toInt (iv 12 0).toInt 1) (owY (fa 12 9) (fa 12 10) (-1) k.toInt (-1)) (fa 12 7) (fa 12 8) ((iv 12 3).toInt).toNat 2 b ∧ ∀ j : Nat, na_12_49 j = (fa 12 49) j))) ∧ u = ((u2 (u2 (u2 (u2 (u2 iv 12 19 ni_12_19) 12 20 ni_12_20) 12 21 ni_12_21) 12 22 ni_12_22) 12 48 ni_12_48), (u2 (u2 lv 12 17 nl_12_17) 12 18 nl_12_18), (u2 fa 12 49 na_12_49), la)) (bM (dC, dI) h g ca (va_A (WM h g ca iv lv fa la) sz)) (va_A (WM h g ca iv lv fa la) sz)) 0 0 (va_A (WM h g ca iv lv fa la) sz) := by
  refine Met.ofW (cc := cX12_tryCause) (maxL := 12) (ret := none) (by decide) rfl ?_
  intro p e s m args below meth c s₁ B hml hv
  obtain ⟨rfl, hsz, hP, hK, hD0⟩ := hv
  have hx := B.exec
  have hb := B.bytes
  have hr := B.returns
  have ht := tb_tl (atoms_spec (ws := wc yX12_tryCause cX12_tryCause 12 none) B.pre)
  have hown : s.vm.findClass RX12 = some m.cls := findClass_of_methodNamed B.named
  have hlocks := B.notSynchronized
  subst hsz
  have hD := hD0.self (sz := s.heap.size)
  generalize hAe : va_A (WM h g ca iv lv fa la) s.heap.size = A at hD ⊢
  have hA : ∀ q : Nat, s.heap.size ≤ q → A q := fun q h => by rw [← hAe]; exact Or.inr h
  have hS : va_S A s.heap s.heap [] := va_S.rf
  have hl := lv_entry [.ref h, .int a, .int b, .int (-1), .int k, .int (-1)] (n := 12) (Nat.le_of_ble_eq_true rfl)
  rw [lg_entry_eq]
  generalize (lg_sl [.ref h, .int a, .int b, .int (-1), .int k, .int (-1)] ++ List.replicate (12 - (lg_sl [.ref h, .int a, .int b, .int (-1), .int k, .int (-1)]).length) Slot.unset).toArray = ls at hl ⊢
  have hl : lv_has ls 12 [(0, .ref h), (1, .int a), (2, .int b), (3, .int (-1)), (4, .int k), (5, .int (-1))] := hl
  refine lv_aload_n hx hb dX12_tryCause_0 rfl (lv_at hl 0 rfl) ?_
  refine lv_iload_n hx hb dX12_tryCause_1 rfl (lv_at hl 1 rfl) ?_
  refine lv_iconst (v := 0) hx hb dX12_tryCause_2 (by decide) ?_
  refine lv_aload_n hx hb dX12_tryCause_3 rfl (lv_at hl 0 rfl) ?_
  have i_12_0 : 0 ≤ (iv 12 0).toInt ∧ (iv 12 0).toInt ≤ 3000 := hI.1 12 0
  refine gM_12_0 hx hb ht hown hK hP m_1139 (v := (iv 12 0)) rfl dX12_tryCause_4 ?_
  have hFc := free_all hD hS hA
  refine va_calli (va_runV (As := [.int a, .int 0, .int (iv 12 0)]) (rest := []) ⟨hx, hb, hml, hown, ht⟩ (c_X12_sumUp_q l dC dI s.heap.size h g ca iv lv fa la hI a 0 (iv 12 0) hJR) (kV 3 ht m_1434 m_1436 m_45 m_89 m_1437 rfl rfl hd_X12_sumUp_v ⟨Nat.le_of_ble_eq_true rfl, Nat.le_of_ble_eq_true rfl⟩) (vW hP hK hD (rM_12 hK hP)) rfl rfl hl.1 rfl (lv_room (Nat.le_of_ble_eq_true rfl)) dX12_tryCause_7 ⟨Nat.le_of_ble_eq_true rfl, Nat.le_of_ble_eq_true rfl⟩) hS (fun q _ h => hFc q h) hFc (fun r1 u t H1 locs ht9 hvm hr1 hB hz1 hk1 hS => ?_)
  obtain ⟨n2, n3, n4, xr1_0, xr1_1, xr1_2, xr1_3, xr1_4, xr1_5, xr1_6, xr1_7, xr1_8, hr1, rfl⟩ := hr1
  obtain ⟨hP, hD⟩ := hB
  rw [ht9] at hP
  generalize H1 = H at hP hS ⊢
  have hP : va_P (dC, dI) classes (WM h g ca (u2 iv 12 19 n2) (u2 (u2 lv 12 17 n3) 12 18 n4) fa la) H := hP
  have hD : va_D A (WM h g ca (u2 iv 12 19 n2) (u2 (u2 lv 12 17 n3) 12 18 n4) fa la) := (show va_D _ (WM h g ca (u2 iv 12 19 n2) (u2 (u2 lv 12 17 n3) 12 18 n4) fa la) from hD).weaken (fun _ _ _ h => hFc _ h)
  have xr1_0 : 0 ≤ (r1 : Int32).toInt := xr1_0
  have xr1_1 : (r1 : Int32).toInt ≤ 60 := xr1_1
  have xr1_2 : 0 ≤ (n4 : Int64).toInt := xr1_2
  have xr1_3 : (n4 : Int64).toInt ≤ 599940 := xr1_3
  have xr1_4 : 100 * (r1 : Int32).toInt ≤ (n4 : Int64).toInt := xr1_4
  have : (0 : Int32).toInt = 0 := (by decide)
  have i_12_3 : 0 ≤ (iv 12 3).toInt ∧ (iv 12 3).toInt ≤ 60 := hI.1 12 3
  have xr1_5 : (n3 : Int64).toInt = (caL (cyP (fa 12 4) (fa 12 5) (fa 12 11) (fa 12 12) (a : Int32).toInt ((iv 12 0) : Int32).toInt (0 : Int32).toInt) (owY (fa 12 9) (fa 12 10) ((iv 12 20) : Int32).toInt ((iv 12 21) : Int32).toInt ((iv 12 22) : Int32).toInt) (fa 12 8) (((iv 12 3) : Int32).toInt).toNat).toInt := xr1_5
  have xr1_6 : (n4 : Int64).toInt = (caL (cyP (fa 12 4) (fa 12 5) (fa 12 11) (fa 12 12) (a : Int32).toInt ((iv 12 0) : Int32).toInt (0 : Int32).toInt) (owY (fa 12 9) (fa 12 10) ((iv 12 20) : Int32).toInt ((iv 12 21) : Int32).toInt ((iv 12 22) : Int32).toInt) (fa 12 7) (((iv 12 3) : Int32).toInt).toNat).toInt := xr1_6
  have xr1_7 : (n2 : Int32).toInt = (caC (cyP (fa 12 4) (fa 12 5) (fa 12 11) (fa 12 12) (a : Int32).toInt ((iv 12 0) : Int32).toInt (0 : Int32).toInt) (owY (fa 12 9) (fa 12 10) ((iv 12 20) : Int32).toInt ((iv 12 21) : Int32).toInt ((iv 12 22) : Int32).toInt) (((iv 12 3) : Int32).toInt).toNat).toInt := xr1_7
  have xr1_8 : (r1 : Int32).toInt = (n2 : Int32).toInt := xr1_8
  have : 0 ≤ (r1 : Int32).toInt ∧ (r1 : Int32).toInt ≤ 60 := ⟨by omega, by omega⟩
  refine lv_istore (lv' := [(6, .int r1), (0, .ref h), (1, .int a), (2, .int b), (3, .int (-1)), (4, .int k), (5, .int (-1))]) hx hb dX12_tryCause_10 hl (by decide) rfl (fun ls hl => ?_)
  refine lv_aload_n hx hb dX12_tryCause_12 rfl (lv_at hl 1 rfl) ?_
  refine lv_iload_n hx hb dX12_tryCause_13 rfl (lv_at hl 2 rfl) ?_
  refine lv_iconst (v := 1) hx hb dX12_tryCause_14 (by decide) ?_
  refine lv_aload_n hx hb dX12_tryCause_15 rfl (lv_at hl 1 rfl) ?_
  refine gM_12_0 hx hb ht hown hK hP m_1139 (v := (iv 12 0)) rfl dX12_tryCause_16 ?_
  have hFc := free_all hD hS hA
  refine va_calli (va_runV (As := [.int a, .int 1, .int (iv 12 0)]) (rest := []) ⟨hx, hb, hml, hown, ht⟩ (c_X12_sumUp_q l dC dI H.size h g ca (u2 iv 12 19 n2) (u2 (u2 lv 12 17 n3) 12 18 n4) fa la (IX_i (c := 12) (k := 19) hI (full_i _)) a 1 (iv 12 0) hJR) (kV 3 ht m_1434 m_1436 m_45 m_89 m_1437 rfl rfl hd_X12_sumUp_v ⟨Nat.le_of_ble_eq_true rfl, Nat.le_of_ble_eq_true rfl⟩) (vW hP hK hD (rM_12 hK hP)) rfl rfl hl.1 rfl (lv_room (Nat.le_of_ble_eq_true rfl)) dX12_tryCause_19 ⟨Nat.le_of_ble_eq_true rfl, Nat.le_of_ble_eq_true rfl⟩) hS (fun q _ h => hFc q h) hFc (fun r5 u t H1 locs ht9 hvm hr5 hB hz1 hk1 hS => ?_)
  obtain ⟨n6, n7, n8, xr5_0, xr5_1, xr5_2, xr5_3, xr5_4, xr5_5, xr5_6, xr5_7, xr5_8, hr5, rfl⟩ := hr5
  obtain ⟨hP, hD⟩ := hB
  rw [ht9] at hP
  generalize H1 = H at hP hS ⊢
  have hP : va_P (dC, dI) classes (WM h g ca (u2 iv 12 19 n6) (u2 (u2 lv 12 17 n7) 12 18 n8) fa la) H := hP
  have hD : va_D A (WM h g ca (u2 iv 12 19 n6) (u2 (u2 lv 12 17 n7) 12 18 n8) fa la) := (show va_D _ (WM h g ca (u2 iv 12 19 n6) (u2 (u2 lv 12 17 n7) 12 18 n8) fa la) from hD).weaken (fun _ _ _ h => hFc _ h)
  have xr5_0 : 0 ≤ (r5 : Int32).toInt := xr5_0
  have xr5_1 : (r5 : Int32).toInt ≤ 60 := xr5_1
  have xr5_2 : 0 ≤ (n8 : Int64).toInt := xr5_2
  have xr5_3 : (n8 : Int64).toInt ≤ 599940 := xr5_3
  have xr5_4 : 100 * (r5 : Int32).toInt ≤ (n8 : Int64).toInt := xr5_4
  have : (1 : Int32).toInt = 1 := (by decide)
  have xr5_5 : (n7 : Int64).toInt = (caL (cyP (fa 12 4) (fa 12 5) (fa 12 11) (fa 12 12) (a : Int32).toInt ((iv 12 0) : Int32).toInt (1 : Int32).toInt) (owY (fa 12 9) (fa 12 10) ((iv 12 20) : Int32).toInt ((iv 12 21) : Int32).toInt ((iv 12 22) : Int32).toInt) (fa 12 8) (((iv 12 3) : Int32).toInt).toNat).toInt := xr5_5
  have xr5_6 : (n8 : Int64).toInt = (caL (cyP (fa 12 4) (fa 12 5) (fa 12 11) (fa 12 12) (a : Int32).toInt ((iv 12 0) : Int32).toInt (1 : Int32).toInt) (owY (fa 12 9) (fa 12 10) ((iv 12 20) : Int32).toInt ((iv 12 21) : Int32).toInt ((iv 12 22) : Int32).toInt) (fa 12 7) (((iv 12 3) : Int32).toInt).toNat).toInt := xr5_6
  have xr5_7 : (n6 : Int32).toInt = (caC (cyP (fa 12 4) (fa 12 5) (fa 12 11) (fa 12 12) (a : Int32).toInt ((iv 12 0) : Int32).toInt (1 : Int32).toInt) (owY (fa 12 9) (fa 12 10) ((iv 12 20) : Int32).toInt ((iv 12 21) : Int32).toInt ((iv 12 22) : Int32).toInt) (((iv 12 3) : Int32).toInt).toNat).toInt := xr5_7
  have xr5_8 : (r5 : Int32).toInt = (n6 : Int32).toInt := xr5_8
  have : 0 ≤ (r5 : Int32).toInt ∧ (r5 : Int32).toInt ≤ 60 := ⟨by omega, by omega⟩
  refine lv_istore (lv' := [(7, .int r5), (6, .int r1), (0, .ref h), (1, .int a), (2, .int b), (3, .int (-1)), (4, .int k), (5, .int (-1))]) hx hb dX12_tryCause_22 hl (by decide) rfl (fun ls hl => ?_)
  refine lv_aload_n hx hb dX12_tryCause_24 rfl (lv_at hl 2 rfl) ?_
  refine lv_iload_n hx hb dX12_tryCause_25 rfl (lv_at hl 5 rfl) ?_
  refine lv_iload hx hb dX12_tryCause_26 (lv_at hl 6 rfl) ?_
  refine lv_iload hx hb dX12_tryCause_28 (lv_at hl 7 rfl) ?_
  have hFc := free_all hD hS hA
  refine va_callv (va_runV (As := [.int (-1), .int k, .int (-1)]) (rest := []) ⟨hx, hb, hml, hown, ht⟩ (c_X12_leaveOut_x l dC dI H.size h g ca (u2 iv 12 19 n6) (u2 (u2 lv 12 17 n7) 12 18 n8) fa la (IX_i (c := 12) (k := 19) hI (full_i _)) (-1) k (-1)) (kV 3 ht m_1590 m_1592 m_67 m_89 m_1593 rfl rfl hd_X12_leaveOut_v ⟨Nat.le_of_ble_eq_true rfl, Nat.le_of_ble_eq_true rfl⟩) (vW hP hK hD (rM_12 hK hP)) rfl rfl hl.1 rfl (lv_room (Nat.le_of_ble_eq_true rfl)) dX12_tryCause_30 ⟨Nat.le_of_ble_eq_true rfl, Nat.le_of_ble_eq_true rfl⟩) hS (fun q _ h => hFc q h) hFc (fun u t H1 locs ht9 hvm hr9 hB hz1 hk1 hS => ?_)
  obtain ⟨n10, n11, n12, xr9_0, xr9_1, xr9_2, rfl⟩ := hr9
  obtain ⟨hP, hD⟩ := hB
  rw [ht9] at hP
  generalize H1 = H at hP hS ⊢
  have hP : va_P (dC, dI) classes (WM h g ca (u2 (u2 (u2 (u2 iv 12 19 n6) 12 20 n10) 12 21 n11) 12 22 n12) (u2 (u2 lv 12 17 n7) 12 18 n8) fa la) H := hP
  have hD : va_D A (WM h g ca (u2 (u2 (u2 (u2 iv 12 19 n6) 12 20 n10) 12 21 n11) 12 22 n12) (u2 (u2 lv 12 17 n7) 12 18 n8) fa la) := (show va_D _ (WM h g ca (u2 (u2 (u2 (u2 iv 12 19 n6) 12 20 n10) 12 21 n11) 12 22 n12) (u2 (u2 lv 12 17 n7) 12 18 n8) fa la) from hD).weaken (fun _ _ _ h => hFc _ h)
  have : ((-1) : Int32).toInt = (-1) := (by decide)
  have xr9_0 : (n10 : Int32).toInt = ((-1) : Int32).toInt := xr9_0
  have xr9_1 : (n11 : Int32).toInt = (k : Int32).toInt := xr9_1
  have xr9_2 : (n12 : Int32).toInt = ((-1) : Int32).toInt := xr9_2
  refine lv_aload_n hx hb dX12_tryCause_33 rfl (lv_at hl 2 rfl) ?_
  refine lv_iload_n hx hb dX12_tryCause_34 rfl (lv_at hl 3 rfl) ?_
  refine lv_iconst (v := 0) hx hb dX12_tryCause_35 (by decide) ?_
  refine lv_aload_n hx hb dX12_tryCause_36 rfl (lv_at hl 2 rfl) ?_
  refine gM_12_0 hx hb ht hown hK hP m_1139 (v := (iv 12 0)) rfl dX12_tryCause_37 ?_
  have hFc := free_all hD hS hA
  refine va_calli (va_runV (As := [.int a, .int 0, .int (iv 12 0)]) (rest := []) ⟨hx, hb, hml, hown, ht⟩ (c_X12_sumUp_q l dC dI H.size h g ca (u2 (u2 (u2 (u2 iv 12 19 n6) 12 20 n10) 12 21 n11) 12 22 n12) (u2 (u2 lv 12 17 n7) 12 18 n8) fa la (IX_i (c := 12) (k := 22) (IX_i (c := 12) (k := 21) (IX_i (c := 12) (k := 20) (IX_i (c := 12) (k := 19) hI (full_i _)) (full_i _)) (full_i _)) (full_i _)) a 0 (iv 12 0) hJR) (kV 3 ht m_1434 m_1436 m_45 m_89 m_1437 rfl rfl hd_X12_sumUp_v ⟨Nat.le_of_ble_eq_true rfl, Nat.le_of_ble_eq_true rfl⟩) (vW hP hK hD (rM_12 hK hP)) rfl rfl hl.1 rfl (lv_room (Nat.le_of_ble_eq_true rfl)) dX12_tryCause_40 ⟨Nat.le_of_ble_eq_true rfl, Nat.le_of_ble_eq_true rfl⟩) hS (fun q _ h => hFc q h) hFc (fun r13 u t H1 locs ht9 hvm hr13 hB hz1 hk1 hS => ?_)
  obtain ⟨n14, n15, n16, xr13_0, xr13_1, xr13_2, xr13_3, xr13_4, xr13_5, xr13_6, xr13_7, xr13_8, hr13, rfl⟩ := hr13
  obtain ⟨hP, hD⟩ := hB
  rw [ht9] at hP
  generalize H1 = H at hP hS ⊢
  have hP : va_P (dC, dI) classes (WM h g ca (u2 (u2 (u2 (u2 iv 12 19 n14) 12 20 n10) 12 21 n11) 12 22 n12) (u2 (u2 lv 12 17 n15) 12 18 n16) fa la) H := hP
  have hD : va_D A (WM h g ca (u2 (u2 (u2 (u2 iv 12 19 n14) 12 20 n10) 12 21 n11) 12 22 n12) (u2 (u2 lv 12 17 n15) 12 18 n16) fa la) := (show va_D _ (WM h g ca (u2 (u2 (u2 (u2 iv 12 19 n14) 12 20 n10) 12 21 n11) 12 22 n12) (u2 (u2 lv 12 17 n15) 12 18 n16) fa la) from hD).weaken (fun _ _ _ h => hFc _ h)
  have xr13_0 : 0 ≤ (r13 : Int32).toInt := xr13_0
  have xr13_1 : (r13 : Int32).toInt ≤ 60 := xr13_1
  have xr13_2 : 0 ≤ (n16 : Int64).toInt := xr13_2
  have xr13_3 : (n16 : Int64).toInt ≤ 599940 := xr13_3
  have xr13_4 : 100 * (r13 : Int32).toInt ≤ (n16 : Int64).toInt := xr13_4
  have xr13_5 : (n15 : Int64).toInt = (caL (cyP (fa 12 4) (fa 12 5) (fa 12 11) (fa 12 12) (a : Int32).toInt ((iv 12 0) : Int32).toInt (0 : Int32).toInt) (owY (fa 12 9) (fa 12 10) (n10 : Int32).toInt (n11 : Int32).toInt (n12 : Int32).toInt) (fa 12 8) (((iv 12 3) : Int32).toInt).toNat).toInt := xr13_5
  have xr13_6 : (n16 : Int64).toInt = (caL (cyP (fa 12 4) (fa 12 5) (fa 12 11) (fa 12 12) (a : Int32).toInt ((iv 12 0) : Int32).toInt (0 : Int32).toInt) (owY (fa 12 9) (fa 12 10) (n10 : Int32).toInt (n11 : Int32).toInt (n12 : Int32).toInt) (fa 12 7) (((iv 12 3) : Int32).toInt).toNat).toInt := xr13_6
  have xr13_7 : (n14 : Int32).toInt = (caC (cyP (fa 12 4) (fa 12 5) (fa 12 11) (fa 12 12) (a : Int32).toInt ((iv 12 0) : Int32).toInt (0 : Int32).toInt) (owY (fa 12 9) (fa 12 10) (n10 : Int32).toInt (n11 : Int32).toInt (n12 : Int32).toInt) (((iv 12 3) : Int32).toInt).toNat).toInt := xr13_7
  have xr13_8 : (r13 : Int32).toInt = (n14 : Int32).toInt := xr13_8
  have : 0 ≤ (r13 : Int32).toInt ∧ (r13 : Int32).toInt ≤ 60 := ⟨by omega, by omega⟩
  refine lv_istore (lv' := [(8, .int r13), (7, .int r5), (6, .int r1), (0, .ref h), (1, .int a), (2, .int b), (3, .int (-1)), (4, .int k), (5, .int (-1))]) hx hb dX12_tryCause_43 hl (by decide) rfl (fun ls hl => ?_)
  refine lv_aload_n hx hb dX12_tryCause_45 rfl (lv_at hl 3 rfl) ?_
  refine lv_iload_n hx hb dX12_tryCause_46 rfl (lv_at hl 4 rfl) ?_
  refine lv_iconst (v := 1) hx hb dX12_tryCause_47 (by decide) ?_
  refine lv_aload_n hx hb dX12_tryCause_48 rfl (lv_at hl 3 rfl) ?_
  refine gM_12_0 hx hb ht hown hK hP m_1139 (v := (iv 12 0)) rfl dX12_tryCause_49 ?_
  have hFc := free_all hD hS hA
  refine va_calli (va_runV (As := [.int a, .int 1, .int (iv 12 0)]) (rest := []) ⟨hx, hb, hml, hown, ht⟩ (c_X12_sumUp_q l dC dI H.size h g ca (u2 (u2 (u2 (u2 iv 12 19 n14) 12 20 n10) 12 21 n11) 12 22 n12) (u2 (u2 lv 12 17 n15) 12 18 n16) fa la (IX_i (c := 12) (k := 22) (IX_i (c := 12) (k := 21) (IX_i (c := 12) (k := 20) (IX_i (c := 12) (k := 19) hI (full_i _)) (full_i _)) (full_i _)) (full_i _)) a 1 (iv 12 0) hJR) (kV 3 ht m_1434 m_1436 m_45 m_89 m_1437 rfl rfl hd_X12_sumUp_v ⟨Nat.le_of_ble_eq_true rfl, Nat.le_of_ble_eq_true rfl⟩) (vW hP hK hD (rM_12 hK hP)) rfl rfl hl.1 rfl (lv_room (Nat.le_of_ble_eq_true rfl)) dX12_tryCause_52 ⟨Nat.le_of_ble_eq_true rfl, Nat.le_of_ble_eq_true rfl⟩) hS (fun q _ h => hFc q h) hFc (fun r17 u t H1 locs ht9 hvm hr17 hB hz1 hk1 hS => ?_)
  obtain ⟨n18, n19, n20, xr17_0, xr17_1, xr17_2, xr17_3, xr17_4, xr17_5, xr17_6, xr17_7, xr17_8, hr17, rfl⟩ := hr17
  obtain ⟨hP, hD⟩ := hB
  rw [ht9] at hP
  generalize H1 = H at hP hS ⊢
  have hP : va_P (dC, dI) classes (WM h g ca (u2 (u2 (u2 (u2 iv 12 19 n18) 12 20 n10) 12 21 n11) 12 22 n12) (u2 (u2 lv 12 17 n19) 12 18 n20) fa la) H := hP
  have hD : va_D A (WM h g ca (u2 (u2 (u2 (u2 iv 12 19 n18) 12 20 n10) 12 21 n11) 12 22 n12) (u2 (u2 lv 12 17 n19) 12 18 n20) fa la) := (show va_D _ (WM h g ca (u2 (u2 (u2 (u2 iv 12 19 n18) 12 20 n10) 12 21 n11) 12 22 n12) (u2 (u2 lv 12 17 n19) 12 18 n20) fa la) from hD).weaken (fun _ _ _ h => hFc _ h)
  have xr17_0 : 0 ≤ (r17 : Int32).toInt := xr17_0
  have xr17_1 : (r17 : Int32).toInt ≤ 60 := xr17_1
  have xr17_2 : 0 ≤ (n20 : Int64).toInt := xr17_2
  have xr17_3 : (n20 : Int64).toInt ≤ 599940 := xr17_3
  have xr17_4 : 100 * (r17 : Int32).toInt ≤ (n20 : Int64).toInt := xr17_4
  have xr17_5 : (n19 : Int64).toInt = (caL (cyP (fa 12 4) (fa 12 5) (fa 12 11) (fa 12 12) (a : Int32).toInt ((iv 12 0) : Int32).toInt (1 : Int32).toInt) (owY (fa 12 9) (fa 12 10) (n10 : Int32).toInt (n11 : Int32).toInt (n12 : Int32).toInt) (fa 12 8) (((iv 12 3) : Int32).toInt).toNat).toInt := xr17_5
  have xr17_6 : (n20 : Int64).toInt = (caL (cyP (fa 12 4) (fa 12 5) (fa 12 11) (fa 12 12) (a : Int32).toInt ((iv 12 0) : Int32).toInt (1 : Int32).toInt) (owY (fa 12 9) (fa 12 10) (n10 : Int32).toInt (n11 : Int32).toInt (n12 : Int32).toInt) (fa 12 7) (((iv 12 3) : Int32).toInt).toNat).toInt := xr17_6
  have xr17_7 : (n18 : Int32).toInt = (caC (cyP (fa 12 4) (fa 12 5) (fa 12 11) (fa 12 12) (a : Int32).toInt ((iv 12 0) : Int32).toInt (1 : Int32).toInt) (owY (fa 12 9) (fa 12 10) (n10 : Int32).toInt (n11 : Int32).toInt (n12 : Int32).toInt) (((iv 12 3) : Int32).toInt).toNat).toInt := xr17_7
  have xr17_8 : (r17 : Int32).toInt = (n18 : Int32).toInt := xr17_8
  have : 0 ≤ (r17 : Int32).toInt ∧ (r17 : Int32).toInt ≤ 60 := ⟨by omega, by omega⟩
  refine lv_istore (lv' := [(9, .int r17), (8, .int r13), (7, .int r5), (6, .int r1), (0, .ref h), (1, .int a), (2, .int b), (3, .int (-1)), (4, .int k), (5, .int (-1))]) hx hb dX12_tryCause_55 hl (by decide) rfl (fun ls hl => ?_)
  refine lv_iload hx hb dX12_tryCause_57 (lv_at hl 3 rfl) ?_
  refine lv_iload hx hb dX12_tryCause_59 (lv_at hl 1 rfl) ?_
  refine lv_isub hx hb dX12_tryCause_61 ?_
  refine lv_topi (fun v21 ev21 => ?_)
  have tv21 := z_sub ev21 (rfl : (r1).toInt = _) (rfl : (r13).toInt = _) (by omega) (by omega)
  refine lv_iload hx hb dX12_tryCause_62 (lv_at hl 2 rfl) ?_
  refine lv_iadd hx hb dX12_tryCause_64 ?_
  refine lv_topi (fun v22 ev22 => ?_)
  have tv22 := z_add ev22 (rfl : (v21).toInt = _) (rfl : (r5).toInt = _) (by omega) (by omega)
  refine lv_iload hx hb dX12_tryCause_65 (lv_at hl 0 rfl) ?_
  refine lv_isub hx hb dX12_tryCause_67 ?_
  refine lv_topi (fun v23 ev23 => ?_)
  have tv23 := z_sub ev23 (rfl : (v22).toInt = _) (rfl : (r17).toInt = _) (by omega) (by omega)
  refine lv_istore (lv' := [(10, .int v23), (9, .int r17), (8, .int r13), (7, .int r5), (6, .int r1), (0, .ref h), (1, .int a), (2, .int b), (3, .int (-1)), (4, .int k), (5, .int (-1))]) hx hb dX12_tryCause_68 hl (by decide) rfl (fun ls hl => ?_)
  refine lv_iload hx hb dX12_tryCause_70 (lv_at hl 2 rfl) ?_
  refine lv_if_le (tgt := 108) hx hb dX12_tryCause_72 (by decide) (fun c24 => ?_) (fun c24 => ?_)
  · have fc24 := z_le (rfl : (r13).toInt = _) (by decide : (0 : Int32).toInt = 0) c24
    refine lv_iconst (v := 0) hx hb dX12_tryCause_108 (by decide) ?_
    refine lv_istore (lv' := [(11, .int 0), (10, .int v23), (9, .int r17), (8, .int r13), (7, .int r5), (6, .int r1), (0, .ref h), (1, .int a), (2, .int b), (3, .int (-1)), (4, .int k), (5, .int (-1))]) hx hb dX12_tryCause_109 hl (by decide) rfl (fun ls hl => ?_)
    refine lv_aload_n hx hb dX12_tryCause_111 rfl (lv_at hl 6 rfl) ?_
    refine lv_iconst (v := (-1)) hx hb dX12_tryCause_112 (by decide) ?_
    refine lv_iconst (v := (-1)) hx hb dX12_tryCause_113 (by decide) ?_
    refine lv_iconst (v := (-1)) hx hb dX12_tryCause_114 (by decide) ?_
    have hFc := free_all hD hS hA
    refine va_callv (va_runV (As := [.int (-1), .int (-1), .int (-1)]) (rest := []) ⟨hx, hb, hml, hown, ht⟩ (c_X12_leaveOut_x l dC dI H.size h g ca (u2 (u2 (u2 (u2 iv 12 19 n18) 12 20 n10) 12 21 n11) 12 22 n12) (u2 (u2 lv 12 17 n19) 12 18 n20) fa la (IX_i (c := 12) (k := 22) (IX_i (c := 12) (k := 21) (IX_i (c := 12) (k := 20) (IX_i (c := 12) (k := 19) hI (full_i _)) (full_i _)) (full_i _)) (full_i _)) (-1) (-1) (-1)) (kV 3 ht m_1590 m_1592 m_67 m_89 m_1593 rfl rfl hd_X12_leaveOut_v ⟨Nat.le_of_ble_eq_true rfl, Nat.le_of_ble_eq_true rfl⟩) (vW hP hK hD (rM_12 hK hP)) rfl rfl hl.1 rfl (lv_room (Nat.le_of_ble_eq_true rfl)) dX12_tryCause_115 ⟨Nat.le_of_ble_eq_true rfl, Nat.le_of_ble_eq_true rfl⟩) hS (fun q _ h => hFc q h) hFc (fun u t H1 locs ht9 hvm hr25 hB hz1 hk1 hS => ?_)
    obtain ⟨n26, n27, n28, xr25_0, xr25_1, xr25_2, rfl⟩ := hr25
    obtain ⟨hP, hD⟩ := hB
    rw [ht9] at hP
    generalize H1 = H at hP hS ⊢
    have hP : va_P (dC, dI) classes (WM h g ca (u2 (u2 (u2 (u2 iv 12 19 n18) 12 20 n26) 12 21 n27) 12 22 n28) (u2 (u2 lv 12 17 n19) 12 18 n20) fa la) H := hP
    have hD : va_D A (WM h g ca (u2 (u2 (u2 (u2 iv 12 19 n18) 12 20 n26) 12 21 n27) 12 22 n28) (u2 (u2 lv 12 17 n19) 12 18 n20) fa la) := (show va_D _ (WM h g ca (u2 (u2 (u2 (u2 iv 12 19 n18) 12 20 n26) 12 21 n27) 12 22 n28) (u2 (u2 lv 12 17 n19) 12 18 n20) fa la) from hD).weaken (fun _ _ _ h => hFc _ h)
    have xr25_0 : (n26 : Int32).toInt = ((-1) : Int32).toInt := xr25_0
    have xr25_1 : (n27 : Int32).toInt = ((-1) : Int32).toInt := xr25_1
    have xr25_2 : (n28 : Int32).toInt = ((-1) : Int32).toInt := xr25_2
    refine lv_iload hx hb dX12_tryCause_118 (lv_at hl 0 rfl) ?_
    refine lv_if_eq (tgt := 169) hx hb dX12_tryCause_120 (by decide) (fun c29 => ?_) (fun c29 => ?_)
    · skip
      have i_12_48 : 0 ≤ (iv 12 48).toInt ∧ (iv 12 48).toInt ≤ 72 := hI.1 12 48
      have hP9 : va_P (dC, dI) classes (WM h g ca (u2 (u2 (u2 (u2 (u2 iv 12 19 n18) 12 20 n26) 12 21 n27) 12 22 n28) 12 48 (iv 12 48)) (u2 (u2 lv 12 17 n19) 12 18 n20) (u2 fa 12 49 (fa 12 49)) la) H := hP
      have hD9 : va_D A (WM h g ca (u2 (u2 (u2 (u2 (u2 iv 12 19 n18) 12 20 n26) 12 21 n27) 12 22 n28) 12 48 (iv 12 48)) (u2 (u2 lv 12 17 n19) 12 18 n20) (u2 fa 12 49 (fa 12 49)) la) := hD
      exact W.vret hx hb hr (fun t ht9 hW => ⟨⟨((u2 (u2 (u2 (u2 (u2 iv 12 19 n18) 12 20 n26) 12 21 n27) 12 22 n28) 12 48 (iv 12 48)), (u2 (u2 lv 12 17 n19) 12 18 n20), (u2 fa 12 49 (fa 12 49)), la), rfl, ⟨(fa 12 49), n18, n26, n27, n28, (iv 12 48), n19, n20, (hI.1 12 48), (show (n26 : Int32).toInt = -1 from by omega), (show (n27 : Int32).toInt = -1 from by omega), (show (n28 : Int32).toInt = -1 from by omega), (show ((iv 12 48) : Int32).toInt ≤ (iv 12 48).toInt + 1 from by omega), (show ((((iv 12 48) : Int32).toInt = (iv 12 48).toInt + 1 ∧ AgR (cyP (fa 12 4) (fa 12 5) (fa 12 11) (fa 12 12) (a).toInt (iv 12 0).toInt 0) (cyP (fa 12 4) (fa 12 5) (fa 12 11) (fa 12 12) (a).toInt (iv 12 0).toInt 1) (owY (fa 12 9) (fa 12 10) (-1) (k).toInt (-1)) (fa 12 7) (fa 12 8) ((iv 12 3).toInt).toNat 2 b ∧ ((fa 12 49) ((iv 12 48).toInt).toNat).toInt = 10 + (k).toInt ∧ ∀ j : Nat, j ≠ ((iv 12 48).toInt).toNat → (fa 12 49) j = (fa 12 49) j) ∨ (((iv 12 48) : Int32).toInt = (iv 12 48).toInt ∧ ¬ AgR (cyP (fa 12 4) (fa 12 5) (fa 12 11) (fa 12 12) (a).toInt (iv 12 0).toInt 0) (cyP (fa 12 4) (fa 12 5) (fa 12 11) (fa 12 12) (a).toInt (iv 12 0).toInt 1) (owY (fa 12 9) (fa 12 10) (-1) (k).toInt (-1)) (fa 12 7) (fa 12 8) ((iv 12 3).toInt).toNat 2 b ∧ ∀ j : Nat, (fa 12 49) j = (fa 12 49) j)) from (by
            have sc0 := xr1_7
            have sr0 := xr1_8
            have sd0 := xr1_5
            have sw0 := xr1_6
            rw [show (0 : Int32).toInt = 0 from by decide] at sc0 sd0 sw0
            have sc1 := xr5_7
            have sr1 := xr5_8
            have sd1 := xr5_5
            have sw1 := xr5_6
            rw [show (1 : Int32).toInt = 1 from by decide] at sc1 sd1 sw1
            have sc2 := xr13_7
            have sr2 := xr13_8
            have sd2 := xr13_5
            have sw2 := xr13_6
            rw [show (0 : Int32).toInt = 0 from by decide] at sc2 sd2 sw2
            have sc3 := xr17_7
            have sr3 := xr17_8
            have sd3 := xr17_5
            have sw3 := xr17_6
            rw [show (1 : Int32).toInt = 1 from by decide] at sc3 sd3 sw3
            rw [show (n10 : Int32).toInt = (-1) from by omega, show (n11 : Int32).toInt = k.toInt from by omega, show (n12 : Int32).toInt = (-1) from by omega] at sc2 sc3
            have hn9 : ((iv 12 3).toInt).toNat ≤ 60 := by have q9 : 0 ≤ (iv 12 3).toInt ∧ (iv 12 3).toInt ≤ 60 := hI.1 12 3; omega
            have hw9 : ∀ s : Nat, s < ((iv 12 3).toInt).toNat → ¬ owY (fa 12 9) (fa 12 10) (iv 12 20).toInt (iv 12 21).toInt (iv 12 22).toInt s := fun s _ z => by
              have z1 : 0 ≤ (fa 12 9 s).toInt ∧ (fa 12 9 s).toInt ≤ 3 := hI.2 12 9 s
              have z2 : 0 ≤ (fa 12 10 s).toInt ∧ (fa 12 10 s).toInt ≤ 7 := hI.2 12 10 s
              unfold owY at z
              omega
            have hA9 := Ag_rf (W := owY (fa 12 9) (fa 12 10) (-1) k.toInt (-1)) (ra := fa 12 7) (dr := fa 12 8) (few := 2) (p := b) hn9 hw9 (sr0.trans sc0) (sr1.trans sc1) (sr2.trans sc2) (sr3.trans sc3) rfl
            have hB9 : ¬ AgR (cyP (fa 12 4) (fa 12 5) (fa 12 11) (fa 12 12) a.toInt (iv 12 0).toInt 0) (cyP (fa 12 4) (fa 12 5) (fa 12 11) (fa 12 12) a.toInt (iv 12 0).toInt 1) (owY (fa 12 9) (fa 12 10) (-1) k.toInt (-1)) (fa 12 7) (fa 12 8) ((iv 12 3).toInt).toNat 2 b := fun z => by
              have hC9 := hA9.mpr z
              obtain ⟨c1, c2, c3, -⟩ := hC9
              omega
            exact Or.inr ⟨by omega, hB9, fun j => rfl⟩)), rfl⟩, by rw [ht9]; exact hP9, hD9⟩, hS.F ht9⟩) hS.2.2 dX12_tryCause_169
    · exact absurd rfl c29
  · have fc24 := z_nle (rfl : (r13).toInt = _) (by decide : (0 : Int32).toInt = 0) c24
    refine lv_iload hx hb dX12_tryCause_75 (lv_at hl 1 rfl) ?_
    refine lv_if_le (tgt := 108) hx hb dX12_tryCause_77 (by decide) (fun c30 => ?_) (fun c30 => ?_)
    · have fc30 := z_le (rfl : (r17).toInt = _) (by decide : (0 : Int32).toInt = 0) c30
      refine lv_iconst (v := 0) hx hb dX12_tryCause_108 (by decide) ?_
      refine lv_istore (lv' := [(11, .int 0), (10, .int v23), (9, .int r17), (8, .int r13), (7, .int r5), (6, .int r1), (0, .ref h), (1, .int a), (2, .int b), (3, .int (-1)), (4, .int k), (5, .int (-1))]) hx hb dX12_tryCause_109 hl (by decide) rfl (fun ls hl => ?_)
      refine lv_aload_n hx hb dX12_tryCause_111 rfl (lv_at hl 6 rfl) ?_
      refine lv_iconst (v := (-1)) hx hb dX12_tryCause_112 (by decide) ?_
      refine lv_iconst (v := (-1)) hx hb dX12_tryCause_113 (by decide) ?_
      refine lv_iconst (v := (-1)) hx hb dX12_tryCause_114 (by decide) ?_
      have hFc := free_all hD hS hA
      refine va_callv (va_runV (As := [.int (-1), .int (-1), .int (-1)]) (rest := []) ⟨hx, hb, hml, hown, ht⟩ (c_X12_leaveOut_x l dC dI H.size h g ca (u2 (u2 (u2 (u2 iv 12 19 n18) 12 20 n10) 12 21 n11) 12 22 n12) (u2 (u2 lv 12 17 n19) 12 18 n20) fa la (IX_i (c := 12) (k := 22) (IX_i (c := 12) (k := 21) (IX_i (c := 12) (k := 20) (IX_i (c := 12) (k := 19) hI (full_i _)) (full_i _)) (full_i _)) (full_i _)) (-1) (-1) (-1)) (kV 3 ht m_1590 m_1592 m_67 m_89 m_1593 rfl rfl hd_X12_leaveOut_v ⟨Nat.le_of_ble_eq_true rfl, Nat.le_of_ble_eq_true rfl⟩) (vW hP hK hD (rM_12 hK hP)) rfl rfl hl.1 rfl (lv_room (Nat.le_of_ble_eq_true rfl)) dX12_tryCause_115 ⟨Nat.le_of_ble_eq_true rfl, Nat.le_of_ble_eq_true rfl⟩) hS (fun q _ h => hFc q h) hFc (fun u t H1 locs ht9 hvm hr31 hB hz1 hk1 hS => ?_)
      obtain ⟨n32, n33, n34, xr31_0, xr31_1, xr31_2, rfl⟩ := hr31
      obtain ⟨hP, hD⟩ := hB
      rw [ht9] at hP
      generalize H1 = H at hP hS ⊢
      have hP : va_P (dC, dI) classes (WM h g ca (u2 (u2 (u2 (u2 iv 12 19 n18) 12 20 n32) 12 21 n33) 12 22 n34) (u2 (u2 lv 12 17 n19) 12 18 n20) fa la) H := hP
      have hD : va_D A (WM h g ca (u2 (u2 (u2 (u2 iv 12 19 n18) 12 20 n32) 12 21 n33) 12 22 n34) (u2 (u2 lv 12 17 n19) 12 18 n20) fa la) := (show va_D _ (WM h g ca (u2 (u2 (u2 (u2 iv 12 19 n18) 12 20 n32) 12 21 n33) 12 22 n34) (u2 (u2 lv 12 17 n19) 12 18 n20) fa la) from hD).weaken (fun _ _ _ h => hFc _ h)
      have xr31_0 : (n32 : Int32).toInt = ((-1) : Int32).toInt := xr31_0
      have xr31_1 : (n33 : Int32).toInt = ((-1) : Int32).toInt := xr31_1
      have xr31_2 : (n34 : Int32).toInt = ((-1) : Int32).toInt := xr31_2
      refine lv_iload hx hb dX12_tryCause_118 (lv_at hl 0 rfl) ?_
      refine lv_if_eq (tgt := 169) hx hb dX12_tryCause_120 (by decide) (fun c35 => ?_) (fun c35 => ?_)
      · skip
        have i_12_48 : 0 ≤ (iv 12 48).toInt ∧ (iv 12 48).toInt ≤ 72 := hI.1 12 48
        have hP9 : va_P (dC, dI) classes (WM h g ca (u2 (u2 (u2 (u2 (u2 iv 12 19 n18) 12 20 n32) 12 21 n33) 12 22 n34) 12 48 (iv 12 48)) (u2 (u2 lv 12 17 n19) 12 18 n20) (u2 fa 12 49 (fa 12 49)) la) H := hP
        have hD9 : va_D A (WM h g ca (u2 (u2 (u2 (u2 (u2 iv 12 19 n18) 12 20 n32) 12 21 n33) 12 22 n34) 12 48 (iv 12 48)) (u2 (u2 lv 12 17 n19) 12 18 n20) (u2 fa 12 49 (fa 12 49)) la) := hD
        exact W.vret hx hb hr (fun t ht9 hW => ⟨⟨((u2 (u2 (u2 (u2 (u2 iv 12 19 n18) 12 20 n32) 12 21 n33) 12 22 n34) 12 48 (iv 12 48)), (u2 (u2 lv 12 17 n19) 12 18 n20), (u2 fa 12 49 (fa 12 49)), la), rfl, ⟨(fa 12 49), n18, n32, n33, n34, (iv 12 48), n19, n20, (hI.1 12 48), (show (n32 : Int32).toInt = -1 from by omega), (show (n33 : Int32).toInt = -1 from by omega), (show (n34 : Int32).toInt = -1 from by omega), (show ((iv 12 48) : Int32).toInt ≤ (iv 12 48).toInt + 1 from by omega), (show ((((iv 12 48) : Int32).toInt = (iv 12 48).toInt + 1 ∧ AgR (cyP (fa 12 4) (fa 12 5) (fa 12 11) (fa 12 12) (a).toInt (iv 12 0).toInt 0) (cyP (fa 12 4) (fa 12 5) (fa 12 11) (fa 12 12) (a).toInt (iv 12 0).toInt 1) (owY (fa 12 9) (fa 12 10) (-1) (k).toInt (-1)) (fa 12 7) (fa 12 8) ((iv 12 3).toInt).toNat 2 b ∧ ((fa 12 49) ((iv 12 48).toInt).toNat).toInt = 10 + (k).toInt ∧ ∀ j : Nat, j ≠ ((iv 12 48).toInt).toNat → (fa 12 49) j = (fa 12 49) j) ∨ (((iv 12 48) : Int32).toInt = (iv 12 48).toInt ∧ ¬ AgR (cyP (fa 12 4) (fa 12 5) (fa 12 11) (fa 12 12) (a).toInt (iv 12 0).toInt 0) (cyP (fa 12 4) (fa 12 5) (fa 12 11) (fa 12 12) (a).toInt (iv 12 0).toInt 1) (owY (fa 12 9) (fa 12 10) (-1) (k).toInt (-1)) (fa 12 7) (fa 12 8) ((iv 12 3).toInt).toNat 2 b ∧ ∀ j : Nat, (fa 12 49) j = (fa 12 49) j)) from (by
              have sc0 := xr1_7
              have sr0 := xr1_8
              have sd0 := xr1_5
              have sw0 := xr1_6
              rw [show (0 : Int32).toInt = 0 from by decide] at sc0 sd0 sw0
              have sc1 := xr5_7
              have sr1 := xr5_8
              have sd1 := xr5_5
              have sw1 := xr5_6
              rw [show (1 : Int32).toInt = 1 from by decide] at sc1 sd1 sw1
              have sc2 := xr13_7
              have sr2 := xr13_8
              have sd2 := xr13_5
              have sw2 := xr13_6
              rw [show (0 : Int32).toInt = 0 from by decide] at sc2 sd2 sw2
              have sc3 := xr17_7
              have sr3 := xr17_8
              have sd3 := xr17_5
              have sw3 := xr17_6
              rw [show (1 : Int32).toInt = 1 from by decide] at sc3 sd3 sw3
              rw [show (n10 : Int32).toInt = (-1) from by omega, show (n11 : Int32).toInt = k.toInt from by omega, show (n12 : Int32).toInt = (-1) from by omega] at sc2 sc3
              have hn9 : ((iv 12 3).toInt).toNat ≤ 60 := by have q9 : 0 ≤ (iv 12 3).toInt ∧ (iv 12 3).toInt ≤ 60 := hI.1 12 3; omega
              have hw9 : ∀ s : Nat, s < ((iv 12 3).toInt).toNat → ¬ owY (fa 12 9) (fa 12 10) (iv 12 20).toInt (iv 12 21).toInt (iv 12 22).toInt s := fun s _ z => by
                have z1 : 0 ≤ (fa 12 9 s).toInt ∧ (fa 12 9 s).toInt ≤ 3 := hI.2 12 9 s
                have z2 : 0 ≤ (fa 12 10 s).toInt ∧ (fa 12 10 s).toInt ≤ 7 := hI.2 12 10 s
                unfold owY at z
                omega
              have hA9 := Ag_rf (W := owY (fa 12 9) (fa 12 10) (-1) k.toInt (-1)) (ra := fa 12 7) (dr := fa 12 8) (few := 2) (p := b) hn9 hw9 (sr0.trans sc0) (sr1.trans sc1) (sr2.trans sc2) (sr3.trans sc3) rfl
              have hB9 : ¬ AgR (cyP (fa 12 4) (fa 12 5) (fa 12 11) (fa 12 12) a.toInt (iv 12 0).toInt 0) (cyP (fa 12 4) (fa 12 5) (fa 12 11) (fa 12 12) a.toInt (iv 12 0).toInt 1) (owY (fa 12 9) (fa 12 10) (-1) k.toInt (-1)) (fa 12 7) (fa 12 8) ((iv 12 3).toInt).toNat 2 b := fun z => by
                have hC9 := hA9.mpr z
                obtain ⟨c1, c2, c3, -⟩ := hC9
                omega
              exact Or.inr ⟨by omega, hB9, fun j => rfl⟩)), rfl⟩, by rw [ht9]; exact hP9, hD9⟩, hS.F ht9⟩) hS.2.2 dX12_tryCause_169
      · exact absurd rfl c35
    · have fc30 := z_nle (rfl : (r17).toInt = _) (by decide : (0 : Int32).toInt = 0) c30
      refine lv_iload hx hb dX12_tryCause_80 (lv_at hl 0 rfl) ?_
      refine lv_iload hx hb dX12_tryCause_82 (lv_at hl 10 rfl) ?_
      refine lv_if_ge (tgt := 91) hx hb dX12_tryCause_84 (by decide) (fun c36 => ?_) (fun c36 => ?_)
      · exact absurd c36 (by decide)
      · skip
        refine lv_iconst (v := 2) hx hb dX12_tryCause_87 (by decide) ?_
        refine lv_goto (tgt := 92) hx hb dX12_tryCause_88 (by decide) ?_
        refine lv_icmp_lt (tgt := 108) hx hb dX12_tryCause_92 (by decide) (fun c37 => ?_) (fun c37 => ?_)
        · have fc37 := z_lt (rfl : (v23).toInt = _) (by decide : (2 : Int32).toInt = 2) c37
          refine lv_iconst (v := 0) hx hb dX12_tryCause_108 (by decide) ?_
          refine lv_istore (lv' := [(11, .int 0), (10, .int v23), (9, .int r17), (8, .int r13), (7, .int r5), (6, .int r1), (0, .ref h), (1, .int a), (2, .int b), (3, .int (-1)), (4, .int k), (5, .int (-1))]) hx hb dX12_tryCause_109 hl (by decide) rfl (fun ls hl => ?_)
          refine lv_aload_n hx hb dX12_tryCause_111 rfl (lv_at hl 6 rfl) ?_
          refine lv_iconst (v := (-1)) hx hb dX12_tryCause_112 (by decide) ?_
          refine lv_iconst (v := (-1)) hx hb dX12_tryCause_113 (by decide) ?_
          refine lv_iconst (v := (-1)) hx hb dX12_tryCause_114 (by decide) ?_
          have hFc := free_all hD hS hA
          refine va_callv (va_runV (As := [.int (-1), .int (-1), .int (-1)]) (rest := []) ⟨hx, hb, hml, hown, ht⟩ (c_X12_leaveOut_x l dC dI H.size h g ca (u2 (u2 (u2 (u2 iv 12 19 n18) 12 20 n10) 12 21 n11) 12 22 n12) (u2 (u2 lv 12 17 n19) 12 18 n20) fa la (IX_i (c := 12) (k := 22) (IX_i (c := 12) (k := 21) (IX_i (c := 12) (k := 20) (IX_i (c := 12) (k := 19) hI (full_i _)) (full_i _)) (full_i _)) (full_i _)) (-1) (-1) (-1)) (kV 3 ht m_1590 m_1592 m_67 m_89 m_1593 rfl rfl hd_X12_leaveOut_v ⟨Nat.le_of_ble_eq_true rfl, Nat.le_of_ble_eq_true rfl⟩) (vW hP hK hD (rM_12 hK hP)) rfl rfl hl.1 rfl (lv_room (Nat.le_of_ble_eq_true rfl)) dX12_tryCause_115 ⟨Nat.le_of_ble_eq_true rfl, Nat.le_of_ble_eq_true rfl⟩) hS (fun q _ h => hFc q h) hFc (fun u t H1 locs ht9 hvm hr38 hB hz1 hk1 hS => ?_)
          obtain ⟨n39, n40, n41, xr38_0, xr38_1, xr38_2, rfl⟩ := hr38
          obtain ⟨hP, hD⟩ := hB
          rw [ht9] at hP
          generalize H1 = H at hP hS ⊢
          have hP : va_P (dC, dI) classes (WM h g ca (u2 (u2 (u2 (u2 iv 12 19 n18) 12 20 n39) 12 21 n40) 12 22 n41) (u2 (u2 lv 12 17 n19) 12 18 n20) fa la) H := hP
          have hD : va_D A (WM h g ca (u2 (u2 (u2 (u2 iv 12 19 n18) 12 20 n39) 12 21 n40) 12 22 n41) (u2 (u2 lv 12 17 n19) 12 18 n20) fa la) := (show va_D _ (WM h g ca (u2 (u2 (u2 (u2 iv 12 19 n18) 12 20 n39) 12 21 n40) 12 22 n41) (u2 (u2 lv 12 17 n19) 12 18 n20) fa la) from hD).weaken (fun _ _ _ h => hFc _ h)
          have xr38_0 : (n39 : Int32).toInt = ((-1) : Int32).toInt := xr38_0
          have xr38_1 : (n40 : Int32).toInt = ((-1) : Int32).toInt := xr38_1
          have xr38_2 : (n41 : Int32).toInt = ((-1) : Int32).toInt := xr38_2
          refine lv_iload hx hb dX12_tryCause_118 (lv_at hl 0 rfl) ?_
          refine lv_if_eq (tgt := 169) hx hb dX12_tryCause_120 (by decide) (fun c42 => ?_) (fun c42 => ?_)
          · skip
            have i_12_48 : 0 ≤ (iv 12 48).toInt ∧ (iv 12 48).toInt ≤ 72 := hI.1 12 48
            have hP9 : va_P (dC, dI) classes (WM h g ca (u2 (u2 (u2 (u2 (u2 iv 12 19 n18) 12 20 n39) 12 21 n40) 12 22 n41) 12 48 (iv 12 48)) (u2 (u2 lv 12 17 n19) 12 18 n20) (u2 fa 12 49 (fa 12 49)) la) H := hP
            have hD9 : va_D A (WM h g ca (u2 (u2 (u2 (u2 (u2 iv 12 19 n18) 12 20 n39) 12 21 n40) 12 22 n41) 12 48 (iv 12 48)) (u2 (u2 lv 12 17 n19) 12 18 n20) (u2 fa 12 49 (fa 12 49)) la) := hD
            exact W.vret hx hb hr (fun t ht9 hW => ⟨⟨((u2 (u2 (u2 (u2 (u2 iv 12 19 n18) 12 20 n39) 12 21 n40) 12 22 n41) 12 48 (iv 12 48)), (u2 (u2 lv 12 17 n19) 12 18 n20), (u2 fa 12 49 (fa 12 49)), la), rfl, ⟨(fa 12 49), n18, n39, n40, n41, (iv 12 48), n19, n20, (hI.1 12 48), (show (n39 : Int32).toInt = -1 from by omega), (show (n40 : Int32).toInt = -1 from by omega), (show (n41 : Int32).toInt = -1 from by omega), (show ((iv 12 48) : Int32).toInt ≤ (iv 12 48).toInt + 1 from by omega), (show ((((iv 12 48) : Int32).toInt = (iv 12 48).toInt + 1 ∧ AgR (cyP (fa 12 4) (fa 12 5) (fa 12 11) (fa 12 12) (a).toInt (iv 12 0).toInt 0) (cyP (fa 12 4) (fa 12 5) (fa 12 11) (fa 12 12) (a).toInt (iv 12 0).toInt 1) (owY (fa 12 9) (fa 12 10) (-1) (k).toInt (-1)) (fa 12 7) (fa 12 8) ((iv 12 3).toInt).toNat 2 b ∧ ((fa 12 49) ((iv 12 48).toInt).toNat).toInt = 10 + (k).toInt ∧ ∀ j : Nat, j ≠ ((iv 12 48).toInt).toNat → (fa 12 49) j = (fa 12 49) j) ∨ (((iv 12 48) : Int32).toInt = (iv 12 48).toInt ∧ ¬ AgR (cyP (fa 12 4) (fa 12 5) (fa 12 11) (fa 12 12) (a).toInt (iv 12 0).toInt 0) (cyP (fa 12 4) (fa 12 5) (fa 12 11) (fa 12 12) (a).toInt (iv 12 0).toInt 1) (owY (fa 12 9) (fa 12 10) (-1) (k).toInt (-1)) (fa 12 7) (fa 12 8) ((iv 12 3).toInt).toNat 2 b ∧ ∀ j : Nat, (fa 12 49) j = (fa 12 49) j)) from (by
                  have sc0 := xr1_7
                  have sr0 := xr1_8
                  have sd0 := xr1_5
                  have sw0 := xr1_6
                  rw [show (0 : Int32).toInt = 0 from by decide] at sc0 sd0 sw0
                  have sc1 := xr5_7
                  have sr1 := xr5_8
                  have sd1 := xr5_5
                  have sw1 := xr5_6
                  rw [show (1 : Int32).toInt = 1 from by decide] at sc1 sd1 sw1
                  have sc2 := xr13_7
                  have sr2 := xr13_8
                  have sd2 := xr13_5
                  have sw2 := xr13_6
                  rw [show (0 : Int32).toInt = 0 from by decide] at sc2 sd2 sw2
                  have sc3 := xr17_7
                  have sr3 := xr17_8
                  have sd3 := xr17_5
                  have sw3 := xr17_6
                  rw [show (1 : Int32).toInt = 1 from by decide] at sc3 sd3 sw3
                  rw [show (n10 : Int32).toInt = (-1) from by omega, show (n11 : Int32).toInt = k.toInt from by omega, show (n12 : Int32).toInt = (-1) from by omega] at sc2 sc3
                  have hn9 : ((iv 12 3).toInt).toNat ≤ 60 := by have q9 : 0 ≤ (iv 12 3).toInt ∧ (iv 12 3).toInt ≤ 60 := hI.1 12 3; omega
                  have hw9 : ∀ s : Nat, s < ((iv 12 3).toInt).toNat → ¬ owY (fa 12 9) (fa 12 10) (iv 12 20).toInt (iv 12 21).toInt (iv 12 22).toInt s := fun s _ z => by
                    have z1 : 0 ≤ (fa 12 9 s).toInt ∧ (fa 12 9 s).toInt ≤ 3 := hI.2 12 9 s
                    have z2 : 0 ≤ (fa 12 10 s).toInt ∧ (fa 12 10 s).toInt ≤ 7 := hI.2 12 10 s
                    unfold owY at z
                    omega
                  have hA9 := Ag_rf (W := owY (fa 12 9) (fa 12 10) (-1) k.toInt (-1)) (ra := fa 12 7) (dr := fa 12 8) (few := 2) (p := b) hn9 hw9 (sr0.trans sc0) (sr1.trans sc1) (sr2.trans sc2) (sr3.trans sc3) rfl
                  have hB9 : ¬ AgR (cyP (fa 12 4) (fa 12 5) (fa 12 11) (fa 12 12) a.toInt (iv 12 0).toInt 0) (cyP (fa 12 4) (fa 12 5) (fa 12 11) (fa 12 12) a.toInt (iv 12 0).toInt 1) (owY (fa 12 9) (fa 12 10) (-1) k.toInt (-1)) (fa 12 7) (fa 12 8) ((iv 12 3).toInt).toNat 2 b := fun z => by
                    have hC9 := hA9.mpr z
                    obtain ⟨c1, c2, c3, -⟩ := hC9
                    omega
                  exact Or.inr ⟨by omega, hB9, fun j => rfl⟩)), rfl⟩, by rw [ht9]; exact hP9, hD9⟩, hS.F ht9⟩) hS.2.2 dX12_tryCause_169
          · exact absurd rfl c42
        · have fc37 := z_nlt (rfl : (v23).toInt = _) (by decide : (2 : Int32).toInt = 2) c37
          refine lv_aload_n hx hb dX12_tryCause_95 rfl (lv_at hl 5 rfl) ?_
          refine lv_iload_n hx hb dX12_tryCause_96 rfl (lv_at hl 6 rfl) ?_
          refine lv_iload_n hx hb dX12_tryCause_97 rfl (lv_at hl 7 rfl) ?_
          have hFc := free_all hD hS hA
          refine va_calli (va_runV (As := [.int a, .int b]) (rest := []) ⟨hx, hb, hml, hown, ht⟩ (c_X12_doLooksPart_q l dC dI H.size h g ca (u2 (u2 (u2 (u2 iv 12 19 n18) 12 20 n10) 12 21 n11) 12 22 n12) (u2 (u2 lv 12 17 n19) 12 18 n20) fa la (IX_i (c := 12) (k := 22) (IX_i (c := 12) (k := 21) (IX_i (c := 12) (k := 20) (IX_i (c := 12) (k := 19) hI (full_i _)) (full_i _)) (full_i _)) (full_i _)) a b hJR) (kV 2 ht m_1582 m_1584 m_65 m_89 m_1585 rfl rfl hd_X12_doLooksPart_v ⟨Nat.le_of_ble_eq_true rfl, Nat.le_of_ble_eq_true rfl⟩) (vW hP hK hD (rM_12 hK hP)) rfl rfl hl.1 rfl (lv_room (Nat.le_of_ble_eq_true rfl)) dX12_tryCause_98 ⟨Nat.le_of_ble_eq_true rfl, Nat.le_of_ble_eq_true rfl⟩) hS (fun q _ h => hFc q h) hFc (fun r43 u t H1 locs ht9 hvm hr43 hB hz1 hk1 hS => ?_)
          obtain ⟨n44, n45, n46, xr43_0, hr43, rfl⟩ := hr43
          obtain ⟨hP, hD⟩ := hB
          rw [ht9] at hP
          generalize H1 = H at hP hS ⊢
          have hP : va_P (dC, dI) classes (WM h g ca (u2 (u2 (u2 (u2 iv 12 19 n44) 12 20 n10) 12 21 n11) 12 22 n12) (u2 (u2 lv 12 17 n45) 12 18 n46) fa la) H := hP
          have hD : va_D A (WM h g ca (u2 (u2 (u2 (u2 iv 12 19 n44) 12 20 n10) 12 21 n11) 12 22 n12) (u2 (u2 lv 12 17 n45) 12 18 n46) fa la) := (show va_D _ (WM h g ca (u2 (u2 (u2 (u2 iv 12 19 n44) 12 20 n10) 12 21 n11) 12 22 n12) (u2 (u2 lv 12 17 n45) 12 18 n46) fa la) from hD).weaken (fun _ _ _ h => hFc _ h)
          have xr43_0 : (((r43 : Int32).toInt = 1 ∧ DpR (cyP (fa 12 4) (fa 12 5) (fa 12 11) (fa 12 12) (a : Int32).toInt ((iv 12 0) : Int32).toInt 0) (cyP (fa 12 4) (fa 12 5) (fa 12 11) (fa 12 12) (a : Int32).toInt ((iv 12 0) : Int32).toInt 1) (owY (fa 12 9) (fa 12 10) (n10 : Int32).toInt (n11 : Int32).toInt (n12 : Int32).toInt) (fa 12 7) (fa 12 8) (((iv 12 3) : Int32).toInt).toNat (b : Int32)) ∨ ((r43 : Int32).toInt = 0 ∧ ¬ DpR (cyP (fa 12 4) (fa 12 5) (fa 12 11) (fa 12 12) (a : Int32).toInt ((iv 12 0) : Int32).toInt 0) (cyP (fa 12 4) (fa 12 5) (fa 12 11) (fa 12 12) (a : Int32).toInt ((iv 12 0) : Int32).toInt 1) (owY (fa 12 9) (fa 12 10) (n10 : Int32).toInt (n11 : Int32).toInt (n12 : Int32).toInt) (fa 12 7) (fa 12 8) (((iv 12 3) : Int32).toInt).toNat (b : Int32))) := xr43_0
          refine lv_if_ne (tgt := 108) hx hb dX12_tryCause_101 (by decide) (fun c47 => ?_) (fun c47 => ?_)
          · have fc47 := z_ne (rfl : (r43).toInt = _) (by decide : (0 : Int32).toInt = 0) c47
            refine lv_iconst (v := 0) hx hb dX12_tryCause_108 (by decide) ?_
            refine lv_istore (lv' := [(11, .int 0), (10, .int v23), (9, .int r17), (8, .int r13), (7, .int r5), (6, .int r1), (0, .ref h), (1, .int a), (2, .int b), (3, .int (-1)), (4, .int k), (5, .int (-1))]) hx hb dX12_tryCause_109 hl (by decide) rfl (fun ls hl => ?_)
            refine lv_aload_n hx hb dX12_tryCause_111 rfl (lv_at hl 6 rfl) ?_
            refine lv_iconst (v := (-1)) hx hb dX12_tryCause_112 (by decide) ?_
            refine lv_iconst (v := (-1)) hx hb dX12_tryCause_113 (by decide) ?_
            refine lv_iconst (v := (-1)) hx hb dX12_tryCause_114 (by decide) ?_
            have hFc := free_all hD hS hA
            refine va_callv (va_runV (As := [.int (-1), .int (-1), .int (-1)]) (rest := []) ⟨hx, hb, hml, hown, ht⟩ (c_X12_leaveOut_x l dC dI H.size h g ca (u2 (u2 (u2 (u2 iv 12 19 n44) 12 20 n10) 12 21 n11) 12 22 n12) (u2 (u2 lv 12 17 n45) 12 18 n46) fa la (IX_i (c := 12) (k := 22) (IX_i (c := 12) (k := 21) (IX_i (c := 12) (k := 20) (IX_i (c := 12) (k := 19) hI (full_i _)) (full_i _)) (full_i _)) (full_i _)) (-1) (-1) (-1)) (kV 3 ht m_1590 m_1592 m_67 m_89 m_1593 rfl rfl hd_X12_leaveOut_v ⟨Nat.le_of_ble_eq_true rfl, Nat.le_of_ble_eq_true rfl⟩) (vW hP hK hD (rM_12 hK hP)) rfl rfl hl.1 rfl (lv_room (Nat.le_of_ble_eq_true rfl)) dX12_tryCause_115 ⟨Nat.le_of_ble_eq_true rfl, Nat.le_of_ble_eq_true rfl⟩) hS (fun q _ h => hFc q h) hFc (fun u t H1 locs ht9 hvm hr48 hB hz1 hk1 hS => ?_)
            obtain ⟨n49, n50, n51, xr48_0, xr48_1, xr48_2, rfl⟩ := hr48
            obtain ⟨hP, hD⟩ := hB
            rw [ht9] at hP
            generalize H1 = H at hP hS ⊢
            have hP : va_P (dC, dI) classes (WM h g ca (u2 (u2 (u2 (u2 iv 12 19 n44) 12 20 n49) 12 21 n50) 12 22 n51) (u2 (u2 lv 12 17 n45) 12 18 n46) fa la) H := hP
            have hD : va_D A (WM h g ca (u2 (u2 (u2 (u2 iv 12 19 n44) 12 20 n49) 12 21 n50) 12 22 n51) (u2 (u2 lv 12 17 n45) 12 18 n46) fa la) := (show va_D _ (WM h g ca (u2 (u2 (u2 (u2 iv 12 19 n44) 12 20 n49) 12 21 n50) 12 22 n51) (u2 (u2 lv 12 17 n45) 12 18 n46) fa la) from hD).weaken (fun _ _ _ h => hFc _ h)
            have xr48_0 : (n49 : Int32).toInt = ((-1) : Int32).toInt := xr48_0
            have xr48_1 : (n50 : Int32).toInt = ((-1) : Int32).toInt := xr48_1
            have xr48_2 : (n51 : Int32).toInt = ((-1) : Int32).toInt := xr48_2
            refine lv_iload hx hb dX12_tryCause_118 (lv_at hl 0 rfl) ?_
            refine lv_if_eq (tgt := 169) hx hb dX12_tryCause_120 (by decide) (fun c52 => ?_) (fun c52 => ?_)
            · skip
              have i_12_48 : 0 ≤ (iv 12 48).toInt ∧ (iv 12 48).toInt ≤ 72 := hI.1 12 48
              have hP9 : va_P (dC, dI) classes (WM h g ca (u2 (u2 (u2 (u2 (u2 iv 12 19 n44) 12 20 n49) 12 21 n50) 12 22 n51) 12 48 (iv 12 48)) (u2 (u2 lv 12 17 n45) 12 18 n46) (u2 fa 12 49 (fa 12 49)) la) H := hP
              have hD9 : va_D A (WM h g ca (u2 (u2 (u2 (u2 (u2 iv 12 19 n44) 12 20 n49) 12 21 n50) 12 22 n51) 12 48 (iv 12 48)) (u2 (u2 lv 12 17 n45) 12 18 n46) (u2 fa 12 49 (fa 12 49)) la) := hD
              exact W.vret hx hb hr (fun t ht9 hW => ⟨⟨((u2 (u2 (u2 (u2 (u2 iv 12 19 n44) 12 20 n49) 12 21 n50) 12 22 n51) 12 48 (iv 12 48)), (u2 (u2 lv 12 17 n45) 12 18 n46), (u2 fa 12 49 (fa 12 49)), la), rfl, ⟨(fa 12 49), n44, n49, n50, n51, (iv 12 48), n45, n46, (hI.1 12 48), (show (n49 : Int32).toInt = -1 from by omega), (show (n50 : Int32).toInt = -1 from by omega), (show (n51 : Int32).toInt = -1 from by omega), (show ((iv 12 48) : Int32).toInt ≤ (iv 12 48).toInt + 1 from by omega), (show ((((iv 12 48) : Int32).toInt = (iv 12 48).toInt + 1 ∧ AgR (cyP (fa 12 4) (fa 12 5) (fa 12 11) (fa 12 12) (a).toInt (iv 12 0).toInt 0) (cyP (fa 12 4) (fa 12 5) (fa 12 11) (fa 12 12) (a).toInt (iv 12 0).toInt 1) (owY (fa 12 9) (fa 12 10) (-1) (k).toInt (-1)) (fa 12 7) (fa 12 8) ((iv 12 3).toInt).toNat 2 b ∧ ((fa 12 49) ((iv 12 48).toInt).toNat).toInt = 10 + (k).toInt ∧ ∀ j : Nat, j ≠ ((iv 12 48).toInt).toNat → (fa 12 49) j = (fa 12 49) j) ∨ (((iv 12 48) : Int32).toInt = (iv 12 48).toInt ∧ ¬ AgR (cyP (fa 12 4) (fa 12 5) (fa 12 11) (fa 12 12) (a).toInt (iv 12 0).toInt 0) (cyP (fa 12 4) (fa 12 5) (fa 12 11) (fa 12 12) (a).toInt (iv 12 0).toInt 1) (owY (fa 12 9) (fa 12 10) (-1) (k).toInt (-1)) (fa 12 7) (fa 12 8) ((iv 12 3).toInt).toNat 2 b ∧ ∀ j : Nat, (fa 12 49) j = (fa 12 49) j)) from (by
                    have sc0 := xr1_7
                    have sr0 := xr1_8
                    have sd0 := xr1_5
                    have sw0 := xr1_6
                    rw [show (0 : Int32).toInt = 0 from by decide] at sc0 sd0 sw0
                    have sc1 := xr5_7
                    have sr1 := xr5_8
                    have sd1 := xr5_5
                    have sw1 := xr5_6
                    rw [show (1 : Int32).toInt = 1 from by decide] at sc1 sd1 sw1
                    have sc2 := xr13_7
                    have sr2 := xr13_8
                    have sd2 := xr13_5
                    have sw2 := xr13_6
                    rw [show (0 : Int32).toInt = 0 from by decide] at sc2 sd2 sw2
                    have sc3 := xr17_7
                    have sr3 := xr17_8
                    have sd3 := xr17_5
                    have sw3 := xr17_6
                    rw [show (1 : Int32).toInt = 1 from by decide] at sc3 sd3 sw3
                    rw [show (n10 : Int32).toInt = (-1) from by omega, show (n11 : Int32).toInt = k.toInt from by omega, show (n12 : Int32).toInt = (-1) from by omega] at sc2 sc3
                    have hn9 : ((iv 12 3).toInt).toNat ≤ 60 := by have q9 : 0 ≤ (iv 12 3).toInt ∧ (iv 12 3).toInt ≤ 60 := hI.1 12 3; omega
                    have hw9 : ∀ s : Nat, s < ((iv 12 3).toInt).toNat → ¬ owY (fa 12 9) (fa 12 10) (iv 12 20).toInt (iv 12 21).toInt (iv 12 22).toInt s := fun s _ z => by
                      have z1 : 0 ≤ (fa 12 9 s).toInt ∧ (fa 12 9 s).toInt ≤ 3 := hI.2 12 9 s
                      have z2 : 0 ≤ (fa 12 10 s).toInt ∧ (fa 12 10 s).toInt ≤ 7 := hI.2 12 10 s
                      unfold owY at z
                      omega
                    have hA9 := Ag_rf (W := owY (fa 12 9) (fa 12 10) (-1) k.toInt (-1)) (ra := fa 12 7) (dr := fa 12 8) (few := 2) (p := b) hn9 hw9 (sr0.trans sc0) (sr1.trans sc1) (sr2.trans sc2) (sr3.trans sc3) rfl
                    have hd9 := xr43_0
                    rw [show (n10 : Int32).toInt = (-1) from by omega, show (n11 : Int32).toInt = k.toInt from by omega, show (n12 : Int32).toInt = (-1) from by omega] at hd9
                    have hB9 : ¬ AgR (cyP (fa 12 4) (fa 12 5) (fa 12 11) (fa 12 12) a.toInt (iv 12 0).toInt 0) (cyP (fa 12 4) (fa 12 5) (fa 12 11) (fa 12 12) a.toInt (iv 12 0).toInt 1) (owY (fa 12 9) (fa 12 10) (-1) k.toInt (-1)) (fa 12 7) (fa 12 8) ((iv 12 3).toInt).toNat 2 b := fun z => by
                      have hC9 := hA9.mpr z
                      exact hC9.2.2.2 (hd9.resolve_right (fun q => by omega)).2.2.2
                    exact Or.inr ⟨by omega, hB9, fun j => rfl⟩)), rfl⟩, by rw [ht9]; exact hP9, hD9⟩, hS.F ht9⟩) hS.2.2 dX12_tryCause_169
            · exact absurd rfl c52
          · have fc47 := z_eq (rfl : (r43).toInt = _) (by decide : (0 : Int32).toInt = 0) c47
            refine lv_iconst (v := 1) hx hb dX12_tryCause_104 (by decide) ?_
            refine lv_goto (tgt := 109) hx hb dX12_tryCause_105 (by decide) ?_
            refine lv_istore (lv' := [(11, .int 1), (10, .int v23), (9, .int r17), (8, .int r13), (7, .int r5), (6, .int r1), (0, .ref h), (1, .int a), (2, .int b), (3, .int (-1)), (4, .int k), (5, .int (-1))]) hx hb dX12_tryCause_109 hl (by decide) rfl (fun ls hl => ?_)
            refine lv_aload_n hx hb dX12_tryCause_111 rfl (lv_at hl 6 rfl) ?_
            refine lv_iconst (v := (-1)) hx hb dX12_tryCause_112 (by decide) ?_
            refine lv_iconst (v := (-1)) hx hb dX12_tryCause_113 (by decide) ?_
            refine lv_iconst (v := (-1)) hx hb dX12_tryCause_114 (by decide) ?_
            have hFc := free_all hD hS hA
            refine va_callv (va_runV (As := [.int (-1), .int (-1), .int (-1)]) (rest := []) ⟨hx, hb, hml, hown, ht⟩ (c_X12_leaveOut_x l dC dI H.size h g ca (u2 (u2 (u2 (u2 iv 12 19 n44) 12 20 n10) 12 21 n11) 12 22 n12) (u2 (u2 lv 12 17 n45) 12 18 n46) fa la (IX_i (c := 12) (k := 22) (IX_i (c := 12) (k := 21) (IX_i (c := 12) (k := 20) (IX_i (c := 12) (k := 19) hI (full_i _)) (full_i _)) (full_i _)) (full_i _)) (-1) (-1) (-1)) (kV 3 ht m_1590 m_1592 m_67 m_89 m_1593 rfl rfl hd_X12_leaveOut_v ⟨Nat.le_of_ble_eq_true rfl, Nat.le_of_ble_eq_true rfl⟩) (vW hP hK hD (rM_12 hK hP)) rfl rfl hl.1 rfl (lv_room (Nat.le_of_ble_eq_true rfl)) dX12_tryCause_115 ⟨Nat.le_of_ble_eq_true rfl, Nat.le_of_ble_eq_true rfl⟩) hS (fun q _ h => hFc q h) hFc (fun u t H1 locs ht9 hvm hr53 hB hz1 hk1 hS => ?_)
            obtain ⟨n54, n55, n56, xr53_0, xr53_1, xr53_2, rfl⟩ := hr53
            obtain ⟨hP, hD⟩ := hB
            rw [ht9] at hP
            generalize H1 = H at hP hS ⊢
            have hP : va_P (dC, dI) classes (WM h g ca (u2 (u2 (u2 (u2 iv 12 19 n44) 12 20 n54) 12 21 n55) 12 22 n56) (u2 (u2 lv 12 17 n45) 12 18 n46) fa la) H := hP
            have hD : va_D A (WM h g ca (u2 (u2 (u2 (u2 iv 12 19 n44) 12 20 n54) 12 21 n55) 12 22 n56) (u2 (u2 lv 12 17 n45) 12 18 n46) fa la) := (show va_D _ (WM h g ca (u2 (u2 (u2 (u2 iv 12 19 n44) 12 20 n54) 12 21 n55) 12 22 n56) (u2 (u2 lv 12 17 n45) 12 18 n46) fa la) from hD).weaken (fun _ _ _ h => hFc _ h)
            have xr53_0 : (n54 : Int32).toInt = ((-1) : Int32).toInt := xr53_0
            have xr53_1 : (n55 : Int32).toInt = ((-1) : Int32).toInt := xr53_1
            have xr53_2 : (n56 : Int32).toInt = ((-1) : Int32).toInt := xr53_2
            refine lv_iload hx hb dX12_tryCause_118 (lv_at hl 0 rfl) ?_
            refine lv_if_eq (tgt := 169) hx hb dX12_tryCause_120 (by decide) (fun c57 => ?_) (fun c57 => ?_)
            · exact absurd c57 (by decide)
            · skip
              refine lv_aload_n hx hb dX12_tryCause_123 rfl (lv_at hl 6 rfl) ?_
              refine gM_12_49 hx hb ht hown hK hP m_1188 dX12_tryCause_124 ?_
              refine lv_aload_n hx hb dX12_tryCause_127 rfl (lv_at hl 6 rfl) ?_
              have i_12_48 : 0 ≤ (iv 12 48).toInt ∧ (iv 12 48).toInt ≤ 72 := hI.1 12 48
              refine gM_12_48 hx hb ht hown hK hP m_1187 (v := (iv 12 48)) rfl dX12_tryCause_128 ?_
              refine lv_iload hx hb dX12_tryCause_131 (lv_at hl 11 rfl) ?_
              refine lv_if_lt (tgt := 144) hx hb dX12_tryCause_133 (by decide) (fun c58 => ?_) (fun c58 => ?_)
              · skip
                refine lv_iload hx hb dX12_tryCause_144 (lv_at hl 10 rfl) ?_
                refine lv_if_lt (tgt := 157) hx hb dX12_tryCause_146 (by decide) (fun c59 => ?_) (fun c59 => ?_)
                · have fc59 := z_lt (rfl : (k).toInt = _) (by decide : (0 : Int32).toInt = 0) c59; exfalso; omega
                · skip
                  refine lv_bipush (v := 10) hx hb dX12_tryCause_149 (by decide) ?_
                  refine lv_iload hx hb dX12_tryCause_151 (lv_at hl 10 rfl) ?_
                  refine lv_iadd hx hb dX12_tryCause_153 ?_
                  refine lv_topi (fun v60 ev60 => ?_)
                  have tv60 := z_add ev60 (by decide : (10 : Int32).toInt = 10) (rfl : (k).toInt = _) (by omega) (by omega)
                  refine lv_goto (tgt := 158) hx hb dX12_tryCause_154 (by decide) ?_
                  refine tM_12_49 hx hb hK hP hD hS (f0 := (fa 12 49)) rfl (i := (iv 12 48)) (x := v60) (vp_in_iff.mpr ⟨by omega, by omega⟩) dX12_tryCause_158 (fun f61 ef61 H locs hP hD hS => ?_)
                  have hf61 : ∀ j, inb (bA 12 49 j) (f61 j) := fun j => full_i _
                  refine lv_aload_n hx hb dX12_tryCause_159 rfl (lv_at hl 6 rfl) ?_
                  refine lv_dup hx hb dX12_tryCause_160 rfl ?_
                  refine gM_12_48 hx hb ht hown hK hP m_1187 (v := (iv 12 48)) rfl dX12_tryCause_161 ?_
                  refine lv_iconst (v := 1) hx hb dX12_tryCause_164 (by decide) ?_
                  refine lv_iadd hx hb dX12_tryCause_165 ?_
                  refine lv_topi (fun v62 ev62 => ?_)
                  have tv62 := z_add ev62 (rfl : ((iv 12 48)).toInt = _) (by decide : (1 : Int32).toInt = 1) (by omega) (by omega)
                  refine pM_12_48 (v := v62) hx hb ht hown hK hP hD hS m_1187 dX12_tryCause_166 (fun H locs hP hD hS => ?_)
                  have hP9 : va_P (dC, dI) classes (WM h g ca (u2 (u2 (u2 (u2 (u2 iv 12 19 n44) 12 20 n54) 12 21 n55) 12 22 n56) 12 48 v62) (u2 (u2 lv 12 17 n45) 12 18 n46) (u2 fa 12 49 f61) la) H := hP
                  have hD9 : va_D A (WM h g ca (u2 (u2 (u2 (u2 (u2 iv 12 19 n44) 12 20 n54) 12 21 n55) 12 22 n56) 12 48 v62) (u2 (u2 lv 12 17 n45) 12 18 n46) (u2 fa 12 49 f61) la) := hD
                  exact W.vret hx hb hr (fun t ht9 hW => ⟨⟨((u2 (u2 (u2 (u2 (u2 iv 12 19 n44) 12 20 n54) 12 21 n55) 12 22 n56) 12 48 v62), (u2 (u2 lv 12 17 n45) 12 18 n46), (u2 fa 12 49 f61), la), rfl, ⟨f61, n44, n54, n55, n56, v62, n45, n46, (show inb (0, 72) v62 from ⟨by omega, by omega⟩), (show (n54 : Int32).toInt = -1 from by omega), (show (n55 : Int32).toInt = -1 from by omega), (show (n56 : Int32).toInt = -1 from by omega), (show (v62 : Int32).toInt ≤ (iv 12 48).toInt + 1 from by omega), (show (((v62 : Int32).toInt = (iv 12 48).toInt + 1 ∧ AgR (cyP (fa 12 4) (fa 12 5) (fa 12 11) (fa 12 12) (a).toInt (iv 12 0).toInt 0) (cyP (fa 12 4) (fa 12 5) (fa 12 11) (fa 12 12) (a).toInt (iv 12 0).toInt 1) (owY (fa 12 9) (fa 12 10) (-1) (k).toInt (-1)) (fa 12 7) (fa 12 8) ((iv 12 3).toInt).toNat 2 b ∧ (f61 ((iv 12 48).toInt).toNat).toInt = 10 + (k).toInt ∧ ∀ j : Nat, j ≠ ((iv 12 48).toInt).toNat → f61 j = (fa 12 49) j) ∨ ((v62 : Int32).toInt = (iv 12 48).toInt ∧ ¬ AgR (cyP (fa 12 4) (fa 12 5) (fa 12 11) (fa 12 12) (a).toInt (iv 12 0).toInt 0) (cyP (fa 12 4) (fa 12 5) (fa 12 11) (fa 12 12) (a).toInt (iv 12 0).toInt 1) (owY (fa 12 9) (fa 12 10) (-1) (k).toInt (-1)) (fa 12 7) (fa 12 8) ((iv 12 3).toInt).toNat 2 b ∧ ∀ j : Nat, f61 j = (fa 12 49) j)) from (by
                        have sc0 := xr1_7
                        have sr0 := xr1_8
                        have sd0 := xr1_5
                        have sw0 := xr1_6
                        rw [show (0 : Int32).toInt = 0 from by decide] at sc0 sd0 sw0
                        have sc1 := xr5_7
                        have sr1 := xr5_8
                        have sd1 := xr5_5
                        have sw1 := xr5_6
                        rw [show (1 : Int32).toInt = 1 from by decide] at sc1 sd1 sw1
                        have sc2 := xr13_7
                        have sr2 := xr13_8
                        have sd2 := xr13_5
                        have sw2 := xr13_6
                        rw [show (0 : Int32).toInt = 0 from by decide] at sc2 sd2 sw2
                        have sc3 := xr17_7
                        have sr3 := xr17_8
                        have sd3 := xr17_5
                        have sw3 := xr17_6
                        rw [show (1 : Int32).toInt = 1 from by decide] at sc3 sd3 sw3
                        rw [show (n10 : Int32).toInt = (-1) from by omega, show (n11 : Int32).toInt = k.toInt from by omega, show (n12 : Int32).toInt = (-1) from by omega] at sc2 sc3
                        have hn9 : ((iv 12 3).toInt).toNat ≤ 60 := by have q9 : 0 ≤ (iv 12 3).toInt ∧ (iv 12 3).toInt ≤ 60 := hI.1 12 3; omega
                        have hw9 : ∀ s : Nat, s < ((iv 12 3).toInt).toNat → ¬ owY (fa 12 9) (fa 12 10) (iv 12 20).toInt (iv 12 21).toInt (iv 12 22).toInt s := fun s _ z => by
                          have z1 : 0 ≤ (fa 12 9 s).toInt ∧ (fa 12 9 s).toInt ≤ 3 := hI.2 12 9 s
                          have z2 : 0 ≤ (fa 12 10 s).toInt ∧ (fa 12 10 s).toInt ≤ 7 := hI.2 12 10 s
                          unfold owY at z
                          omega
                        have hA9 := Ag_rf (W := owY (fa 12 9) (fa 12 10) (-1) k.toInt (-1)) (ra := fa 12 7) (dr := fa 12 8) (few := 2) (p := b) hn9 hw9 (sr0.trans sc0) (sr1.trans sc1) (sr2.trans sc2) (sr3.trans sc3) rfl
                        have hd9 := xr43_0
                        rw [show (n10 : Int32).toInt = (-1) from by omega, show (n11 : Int32).toInt = k.toInt from by omega, show (n12 : Int32).toInt = (-1) from by omega] at hd9
                        have hB9 : AgR (cyP (fa 12 4) (fa 12 5) (fa 12 11) (fa 12 12) a.toInt (iv 12 0).toInt 0) (cyP (fa 12 4) (fa 12 5) (fa 12 11) (fa 12 12) a.toInt (iv 12 0).toInt 1) (owY (fa 12 9) (fa 12 10) (-1) k.toInt (-1)) (fa 12 7) (fa 12 8) ((iv 12 3).toInt).toNat 2 b := hA9.mp ⟨by omega, by omega, by omega, fun q => (hd9.resolve_left (fun z => by omega)).2 ⟨by omega, by omega, q⟩⟩
                        have hx9 : f61 (((iv 12 48) : Int32).toInt).toNat = v60 := by rw [ef61]; exact upd_eq
                        exact Or.inl ⟨by omega, hB9, (show (f61 (((iv 12 48) : Int32).toInt).toNat).toInt = 10 + k.toInt from (congrArg Int32.toInt hx9).trans (by omega)), fun j hj => by rw [ef61, upd_ne (show j ≠ ((iv 12 48) : Int32).toNatClampNeg from hj)]⟩)), rfl⟩, by rw [ht9]; exact hP9, hD9⟩, hS.F ht9⟩) hS.2.2 dX12_tryCause_169
              · exact absurd c58 (by decide)
set_option maxHeartbeats 4000000 in
set_option maxRecDepth 100000 in
/-- X12_tryCause -/
theorem c_X12_tryCause_t (l : Launch) (dC : Nat → ClassId) (dI : Nat → Nat → Nat) (sz : Nat) (h : Nat) (g : Nat → Nat → Nat) (ca : Nat → Nat → ClassId) (iv : Nat → Nat → Int32) (lv : Nat → Nat → Int64) (fa : Nat → Nat → Nat → Int32) (la : Nat → Nat → Nat → Int64) (hI : IX iv fa) (a : Int32) (b : Int32) (n : Int32) (q_12_48 : 0 ≤ (iv 12 48).toInt ∧ (iv 12 48).toInt ≤ 71) (h_n : 0 ≤ n.toInt ∧ n.toInt ≤ 59) (p_0 : (iv 12 20).toInt = -1) (p_1 : (iv 12 21).toInt = -1) (p_2 : (iv 12 22).toInt = -1) (hJR : JRf (iv 12 3).toInt (fa 12 7)) : Met l yX12_tryCause (wc yX12_tryCause cX12_tryCause 12 none) ({ frames := 3, cells := 0, slots := 0, locals := 77 } : Room) (pW (dC, dI) classes (WM h g ca iv lv fa la) (TM ca) sz [.ref h, .int a, .int b, .int (-1), .int (-1), .int n]) (va_Qv (fun (u : SS) => ∃ (na_12_49 : Nat → Int32) (ni_12_19 : Int32) (ni_12_20 : Int32) (ni_12_21 : Int32) (ni_12_22 : Int32) (ni_12_48 : Int32) (nl_12_17 : Int64) (nl_12_18 : Int64), inb (bI 12 48) ni_12_48 ∧ ((ni_12_20).toInt = -1) ∧ ((ni_12_21).toInt = -1) ∧ ((ni_12_22).toInt = -1) ∧ ((ni_12_48).toInt ≤ (iv 12 48).toInt + 1) ∧ ((((ni_12_48).toInt = (iv 12 48).toInt + 1 ∧ AgR (cyP (fa 12 4) (fa 12 5) (fa 12 11) (fa 12 12) a.toInt (iv 12 0).toInt 0) (cyP (fa 12 4) (fa 12 5) (fa 12 11) (fa 12 12) a.toInt (iv 12 0).toInt 1) (owY (fa 12 9) (fa 12 10) (-1) (-1) n.toInt) (fa 12 7) (fa 12 8) ((iv 12 3).toInt).toNat 1 b ∧ (na_12_49 ((iv 12 48).toInt).toNat).toInt = 100 + n.toInt ∧ ∀ j : Nat, j ≠ ((iv 12 48).toInt).toNat → na_12_49 j = (fa 12 49) j) ∨ ((ni_12_48).toInt = (iv 12 48).toInt ∧ ¬ AgR (cyP (fa 12 4) (fa 12 5) (fa 12 11) (fa 12 12) a.toInt (iv 12 0).toInt 0) (cyP (fa 12 4) (fa 12 5) (fa 12 11) (fa 12 12) a.toInt (iv 12 0).toInt 1) (owY (fa 12 9) (fa 12 10) (-1) (-1) n.toInt) (fa 12 7) (fa 12 8) ((iv 12 3).toInt).toNat 1 b ∧ ∀ j : Nat, na_12_49 j = (fa 12 49) j))) ∧ u = ((u2 (u2 (u2 (u2 (u2 iv 12 19 ni_12_19) 12 20 ni_12_20) 12 21 ni_12_21) 12 22 ni_12_22) 12 48 ni_12_48), (u2 (u2 lv 12 17 nl_12_17) 12 18 nl_12_18), (u2 fa 12 49 na_12_49), la)) (bM (dC, dI) h g ca (va_A (WM h g ca iv lv fa la) sz)) (va_A (WM h g ca iv lv fa la) sz)) 0 0 (va_A (WM h g ca iv lv fa la) sz) := by
  refine Met.ofW (cc := cX12_tryCause) (maxL := 12) (ret := none) (by decide) rfl ?_
  intro p e s m args below meth c s₁ B hml hv
  obtain ⟨rfl, hsz, hP, hK, hD0⟩ := hv
  have hx := B.exec
  have hb := B.bytes
  have hr := B.returns
  have ht := tb_tl (atoms_spec (ws := wc yX12_tryCause cX12_tryCause 12 none) B.pre)
  have hown : s.vm.findClass RX12 = some m.cls := findClass_of_methodNamed B.named
  have hlocks := B.notSynchronized
  subst hsz
  have hD := hD0.self (sz := s.heap.size)
  generalize hAe : va_A (WM h g ca iv lv fa la) s.heap.size = A at hD ⊢
  have hA : ∀ q : Nat, s.heap.size ≤ q → A q := fun q h => by rw [← hAe]; exact Or.inr h
  have hS : va_S A s.heap s.heap [] := va_S.rf
  have hl := lv_entry [.ref h, .int a, .int b, .int (-1), .int (-1), .int n] (n := 12) (Nat.le_of_ble_eq_true rfl)
  rw [lg_entry_eq]
  generalize (lg_sl [.ref h, .int a, .int b, .int (-1), .int (-1), .int n] ++ List.replicate (12 - (lg_sl [.ref h, .int a, .int b, .int (-1), .int (-1), .int n]).length) Slot.unset).toArray = ls at hl ⊢
  have hl : lv_has ls 12 [(0, .ref h), (1, .int a), (2, .int b), (3, .int (-1)), (4, .int (-1)), (5, .int n)] := hl
  refine lv_aload_n hx hb dX12_tryCause_0 rfl (lv_at hl 0 rfl) ?_
  refine lv_iload_n hx hb dX12_tryCause_1 rfl (lv_at hl 1 rfl) ?_
  refine lv_iconst (v := 0) hx hb dX12_tryCause_2 (by decide) ?_
  refine lv_aload_n hx hb dX12_tryCause_3 rfl (lv_at hl 0 rfl) ?_
  have i_12_0 : 0 ≤ (iv 12 0).toInt ∧ (iv 12 0).toInt ≤ 3000 := hI.1 12 0
  refine gM_12_0 hx hb ht hown hK hP m_1139 (v := (iv 12 0)) rfl dX12_tryCause_4 ?_
  have hFc := free_all hD hS hA
  refine va_calli (va_runV (As := [.int a, .int 0, .int (iv 12 0)]) (rest := []) ⟨hx, hb, hml, hown, ht⟩ (c_X12_sumUp_q l dC dI s.heap.size h g ca iv lv fa la hI a 0 (iv 12 0) hJR) (kV 3 ht m_1434 m_1436 m_45 m_89 m_1437 rfl rfl hd_X12_sumUp_v ⟨Nat.le_of_ble_eq_true rfl, Nat.le_of_ble_eq_true rfl⟩) (vW hP hK hD (rM_12 hK hP)) rfl rfl hl.1 rfl (lv_room (Nat.le_of_ble_eq_true rfl)) dX12_tryCause_7 ⟨Nat.le_of_ble_eq_true rfl, Nat.le_of_ble_eq_true rfl⟩) hS (fun q _ h => hFc q h) hFc (fun r1 u t H1 locs ht9 hvm hr1 hB hz1 hk1 hS => ?_)
  obtain ⟨n2, n3, n4, xr1_0, xr1_1, xr1_2, xr1_3, xr1_4, xr1_5, xr1_6, xr1_7, xr1_8, hr1, rfl⟩ := hr1
  obtain ⟨hP, hD⟩ := hB
  rw [ht9] at hP
  generalize H1 = H at hP hS ⊢
  have hP : va_P (dC, dI) classes (WM h g ca (u2 iv 12 19 n2) (u2 (u2 lv 12 17 n3) 12 18 n4) fa la) H := hP
  have hD : va_D A (WM h g ca (u2 iv 12 19 n2) (u2 (u2 lv 12 17 n3) 12 18 n4) fa la) := (show va_D _ (WM h g ca (u2 iv 12 19 n2) (u2 (u2 lv 12 17 n3) 12 18 n4) fa la) from hD).weaken (fun _ _ _ h => hFc _ h)
  have xr1_0 : 0 ≤ (r1 : Int32).toInt := xr1_0
  have xr1_1 : (r1 : Int32).toInt ≤ 60 := xr1_1
  have xr1_2 : 0 ≤ (n4 : Int64).toInt := xr1_2
  have xr1_3 : (n4 : Int64).toInt ≤ 599940 := xr1_3
  have xr1_4 : 100 * (r1 : Int32).toInt ≤ (n4 : Int64).toInt := xr1_4
  have : (0 : Int32).toInt = 0 := (by decide)
  have i_12_3 : 0 ≤ (iv 12 3).toInt ∧ (iv 12 3).toInt ≤ 60 := hI.1 12 3
  have xr1_5 : (n3 : Int64).toInt = (caL (cyP (fa 12 4) (fa 12 5) (fa 12 11) (fa 12 12) (a : Int32).toInt ((iv 12 0) : Int32).toInt (0 : Int32).toInt) (owY (fa 12 9) (fa 12 10) ((iv 12 20) : Int32).toInt ((iv 12 21) : Int32).toInt ((iv 12 22) : Int32).toInt) (fa 12 8) (((iv 12 3) : Int32).toInt).toNat).toInt := xr1_5
  have xr1_6 : (n4 : Int64).toInt = (caL (cyP (fa 12 4) (fa 12 5) (fa 12 11) (fa 12 12) (a : Int32).toInt ((iv 12 0) : Int32).toInt (0 : Int32).toInt) (owY (fa 12 9) (fa 12 10) ((iv 12 20) : Int32).toInt ((iv 12 21) : Int32).toInt ((iv 12 22) : Int32).toInt) (fa 12 7) (((iv 12 3) : Int32).toInt).toNat).toInt := xr1_6
  have xr1_7 : (n2 : Int32).toInt = (caC (cyP (fa 12 4) (fa 12 5) (fa 12 11) (fa 12 12) (a : Int32).toInt ((iv 12 0) : Int32).toInt (0 : Int32).toInt) (owY (fa 12 9) (fa 12 10) ((iv 12 20) : Int32).toInt ((iv 12 21) : Int32).toInt ((iv 12 22) : Int32).toInt) (((iv 12 3) : Int32).toInt).toNat).toInt := xr1_7
  have xr1_8 : (r1 : Int32).toInt = (n2 : Int32).toInt := xr1_8
  have : 0 ≤ (r1 : Int32).toInt ∧ (r1 : Int32).toInt ≤ 60 := ⟨by omega, by omega⟩
  refine lv_istore (lv' := [(6, .int r1), (0, .ref h), (1, .int a), (2, .int b), (3, .int (-1)), (4, .int (-1)), (5, .int n)]) hx hb dX12_tryCause_10 hl (by decide) rfl (fun ls hl => ?_)
  refine lv_aload_n hx hb dX12_tryCause_12 rfl (lv_at hl 1 rfl) ?_
  refine lv_iload_n hx hb dX12_tryCause_13 rfl (lv_at hl 2 rfl) ?_
  refine lv_iconst (v := 1) hx hb dX12_tryCause_14 (by decide) ?_
  refine lv_aload_n hx hb dX12_tryCause_15 rfl (lv_at hl 1 rfl) ?_
  refine gM_12_0 hx hb ht hown hK hP m_1139 (v := (iv 12 0)) rfl dX12_tryCause_16 ?_
  have hFc := free_all hD hS hA
  refine va_calli (va_runV (As := [.int a, .int 1, .int (iv 12 0)]) (rest := []) ⟨hx, hb, hml, hown, ht⟩ (c_X12_sumUp_q l dC dI H.size h g ca (u2 iv 12 19 n2) (u2 (u2 lv 12 17 n3) 12 18 n4) fa la (IX_i (c := 12) (k := 19) hI (full_i _)) a 1 (iv 12 0) hJR) (kV 3 ht m_1434 m_1436 m_45 m_89 m_1437 rfl rfl hd_X12_sumUp_v ⟨Nat.le_of_ble_eq_true rfl, Nat.le_of_ble_eq_true rfl⟩) (vW hP hK hD (rM_12 hK hP)) rfl rfl hl.1 rfl (lv_room (Nat.le_of_ble_eq_true rfl)) dX12_tryCause_19 ⟨Nat.le_of_ble_eq_true rfl, Nat.le_of_ble_eq_true rfl⟩) hS (fun q _ h => hFc q h) hFc (fun r5 u t H1 locs ht9 hvm hr5 hB hz1 hk1 hS => ?_)
  obtain ⟨n6, n7, n8, xr5_0, xr5_1, xr5_2, xr5_3, xr5_4, xr5_5, xr5_6, xr5_7, xr5_8, hr5, rfl⟩ := hr5
  obtain ⟨hP, hD⟩ := hB
  rw [ht9] at hP
  generalize H1 = H at hP hS ⊢
  have hP : va_P (dC, dI) classes (WM h g ca (u2 iv 12 19 n6) (u2 (u2 lv 12 17 n7) 12 18 n8) fa la) H := hP
  have hD : va_D A (WM h g ca (u2 iv 12 19 n6) (u2 (u2 lv 12 17 n7) 12 18 n8) fa la) := (show va_D _ (WM h g ca (u2 iv 12 19 n6) (u2 (u2 lv 12 17 n7) 12 18 n8) fa la) from hD).weaken (fun _ _ _ h => hFc _ h)
  have xr5_0 : 0 ≤ (r5 : Int32).toInt := xr5_0
  have xr5_1 : (r5 : Int32).toInt ≤ 60 := xr5_1
  have xr5_2 : 0 ≤ (n8 : Int64).toInt := xr5_2
  have xr5_3 : (n8 : Int64).toInt ≤ 599940 := xr5_3
  have xr5_4 : 100 * (r5 : Int32).toInt ≤ (n8 : Int64).toInt := xr5_4
  have : (1 : Int32).toInt = 1 := (by decide)
  have xr5_5 : (n7 : Int64).toInt = (caL (cyP (fa 12 4) (fa 12 5) (fa 12 11) (fa 12 12) (a : Int32).toInt ((iv 12 0) : Int32).toInt (1 : Int32).toInt) (owY (fa 12 9) (fa 12 10) ((iv 12 20) : Int32).toInt ((iv 12 21) : Int32).toInt ((iv 12 22) : Int32).toInt) (fa 12 8) (((iv 12 3) : Int32).toInt).toNat).toInt := xr5_5
  have xr5_6 : (n8 : Int64).toInt = (caL (cyP (fa 12 4) (fa 12 5) (fa 12 11) (fa 12 12) (a : Int32).toInt ((iv 12 0) : Int32).toInt (1 : Int32).toInt) (owY (fa 12 9) (fa 12 10) ((iv 12 20) : Int32).toInt ((iv 12 21) : Int32).toInt ((iv 12 22) : Int32).toInt) (fa 12 7) (((iv 12 3) : Int32).toInt).toNat).toInt := xr5_6
  have xr5_7 : (n6 : Int32).toInt = (caC (cyP (fa 12 4) (fa 12 5) (fa 12 11) (fa 12 12) (a : Int32).toInt ((iv 12 0) : Int32).toInt (1 : Int32).toInt) (owY (fa 12 9) (fa 12 10) ((iv 12 20) : Int32).toInt ((iv 12 21) : Int32).toInt ((iv 12 22) : Int32).toInt) (((iv 12 3) : Int32).toInt).toNat).toInt := xr5_7
  have xr5_8 : (r5 : Int32).toInt = (n6 : Int32).toInt := xr5_8
  have : 0 ≤ (r5 : Int32).toInt ∧ (r5 : Int32).toInt ≤ 60 := ⟨by omega, by omega⟩
  refine lv_istore (lv' := [(7, .int r5), (6, .int r1), (0, .ref h), (1, .int a), (2, .int b), (3, .int (-1)), (4, .int (-1)), (5, .int n)]) hx hb dX12_tryCause_22 hl (by decide) rfl (fun ls hl => ?_)
  refine lv_aload_n hx hb dX12_tryCause_24 rfl (lv_at hl 2 rfl) ?_
  refine lv_iload_n hx hb dX12_tryCause_25 rfl (lv_at hl 5 rfl) ?_
  refine lv_iload hx hb dX12_tryCause_26 (lv_at hl 6 rfl) ?_
  refine lv_iload hx hb dX12_tryCause_28 (lv_at hl 7 rfl) ?_
  have hFc := free_all hD hS hA
  refine va_callv (va_runV (As := [.int (-1), .int (-1), .int n]) (rest := []) ⟨hx, hb, hml, hown, ht⟩ (c_X12_leaveOut_x l dC dI H.size h g ca (u2 iv 12 19 n6) (u2 (u2 lv 12 17 n7) 12 18 n8) fa la (IX_i (c := 12) (k := 19) hI (full_i _)) (-1) (-1) n) (kV 3 ht m_1590 m_1592 m_67 m_89 m_1593 rfl rfl hd_X12_leaveOut_v ⟨Nat.le_of_ble_eq_true rfl, Nat.le_of_ble_eq_true rfl⟩) (vW hP hK hD (rM_12 hK hP)) rfl rfl hl.1 rfl (lv_room (Nat.le_of_ble_eq_true rfl)) dX12_tryCause_30 ⟨Nat.le_of_ble_eq_true rfl, Nat.le_of_ble_eq_true rfl⟩) hS (fun q _ h => hFc q h) hFc (fun u t H1 locs ht9 hvm hr9 hB hz1 hk1 hS => ?_)
  obtain ⟨n10, n11, n12, xr9_0, xr9_1, xr9_2, rfl⟩ := hr9
  obtain ⟨hP, hD⟩ := hB
  rw [ht9] at hP
  generalize H1 = H at hP hS ⊢
  have hP : va_P (dC, dI) classes (WM h g ca (u2 (u2 (u2 (u2 iv 12 19 n6) 12 20 n10) 12 21 n11) 12 22 n12) (u2 (u2 lv 12 17 n7) 12 18 n8) fa la) H := hP
  have hD : va_D A (WM h g ca (u2 (u2 (u2 (u2 iv 12 19 n6) 12 20 n10) 12 21 n11) 12 22 n12) (u2 (u2 lv 12 17 n7) 12 18 n8) fa la) := (show va_D _ (WM h g ca (u2 (u2 (u2 (u2 iv 12 19 n6) 12 20 n10) 12 21 n11) 12 22 n12) (u2 (u2 lv 12 17 n7) 12 18 n8) fa la) from hD).weaken (fun _ _ _ h => hFc _ h)
  have : ((-1) : Int32).toInt = (-1) := (by decide)
  have xr9_0 : (n10 : Int32).toInt = ((-1) : Int32).toInt := xr9_0
  have xr9_1 : (n11 : Int32).toInt = ((-1) : Int32).toInt := xr9_1
  have xr9_2 : (n12 : Int32).toInt = (n : Int32).toInt := xr9_2
  refine lv_aload_n hx hb dX12_tryCause_33 rfl (lv_at hl 2 rfl) ?_
  refine lv_iload_n hx hb dX12_tryCause_34 rfl (lv_at hl 3 rfl) ?_
  refine lv_iconst (v := 0) hx hb dX12_tryCause_35 (by decide) ?_
  refine lv_aload_n hx hb dX12_tryCause_36 rfl (lv_at hl 2 rfl) ?_
  refine gM_12_0 hx hb ht hown hK hP m_1139 (v := (iv 12 0)) rfl dX12_tryCause_37 ?_
  have hFc := free_all hD hS hA
  refine va_calli (va_runV (As := [.int a, .int 0, .int (iv 12 0)]) (rest := []) ⟨hx, hb, hml, hown, ht⟩ (c_X12_sumUp_q l dC dI H.size h g ca (u2 (u2 (u2 (u2 iv 12 19 n6) 12 20 n10) 12 21 n11) 12 22 n12) (u2 (u2 lv 12 17 n7) 12 18 n8) fa la (IX_i (c := 12) (k := 22) (IX_i (c := 12) (k := 21) (IX_i (c := 12) (k := 20) (IX_i (c := 12) (k := 19) hI (full_i _)) (full_i _)) (full_i _)) (full_i _)) a 0 (iv 12 0) hJR) (kV 3 ht m_1434 m_1436 m_45 m_89 m_1437 rfl rfl hd_X12_sumUp_v ⟨Nat.le_of_ble_eq_true rfl, Nat.le_of_ble_eq_true rfl⟩) (vW hP hK hD (rM_12 hK hP)) rfl rfl hl.1 rfl (lv_room (Nat.le_of_ble_eq_true rfl)) dX12_tryCause_40 ⟨Nat.le_of_ble_eq_true rfl, Nat.le_of_ble_eq_true rfl⟩) hS (fun q _ h => hFc q h) hFc (fun r13 u t H1 locs ht9 hvm hr13 hB hz1 hk1 hS => ?_)
  obtain ⟨n14, n15, n16, xr13_0, xr13_1, xr13_2, xr13_3, xr13_4, xr13_5, xr13_6, xr13_7, xr13_8, hr13, rfl⟩ := hr13
  obtain ⟨hP, hD⟩ := hB
  rw [ht9] at hP
  generalize H1 = H at hP hS ⊢
  have hP : va_P (dC, dI) classes (WM h g ca (u2 (u2 (u2 (u2 iv 12 19 n14) 12 20 n10) 12 21 n11) 12 22 n12) (u2 (u2 lv 12 17 n15) 12 18 n16) fa la) H := hP
  have hD : va_D A (WM h g ca (u2 (u2 (u2 (u2 iv 12 19 n14) 12 20 n10) 12 21 n11) 12 22 n12) (u2 (u2 lv 12 17 n15) 12 18 n16) fa la) := (show va_D _ (WM h g ca (u2 (u2 (u2 (u2 iv 12 19 n14) 12 20 n10) 12 21 n11) 12 22 n12) (u2 (u2 lv 12 17 n15) 12 18 n16) fa la) from hD).weaken (fun _ _ _ h => hFc _ h)
  have xr13_0 : 0 ≤ (r13 : Int32).toInt := xr13_0
  have xr13_1 : (r13 : Int32).toInt ≤ 60 := xr13_1
  have xr13_2 : 0 ≤ (n16 : Int64).toInt := xr13_2
  have xr13_3 : (n16 : Int64).toInt ≤ 599940 := xr13_3
  have xr13_4 : 100 * (r13 : Int32).toInt ≤ (n16 : Int64).toInt := xr13_4
  have xr13_5 : (n15 : Int64).toInt = (caL (cyP (fa 12 4) (fa 12 5) (fa 12 11) (fa 12 12) (a : Int32).toInt ((iv 12 0) : Int32).toInt (0 : Int32).toInt) (owY (fa 12 9) (fa 12 10) (n10 : Int32).toInt (n11 : Int32).toInt (n12 : Int32).toInt) (fa 12 8) (((iv 12 3) : Int32).toInt).toNat).toInt := xr13_5
  have xr13_6 : (n16 : Int64).toInt = (caL (cyP (fa 12 4) (fa 12 5) (fa 12 11) (fa 12 12) (a : Int32).toInt ((iv 12 0) : Int32).toInt (0 : Int32).toInt) (owY (fa 12 9) (fa 12 10) (n10 : Int32).toInt (n11 : Int32).toInt (n12 : Int32).toInt) (fa 12 7) (((iv 12 3) : Int32).toInt).toNat).toInt := xr13_6
  have xr13_7 : (n14 : Int32).toInt = (caC (cyP (fa 12 4) (fa 12 5) (fa 12 11) (fa 12 12) (a : Int32).toInt ((iv 12 0) : Int32).toInt (0 : Int32).toInt) (owY (fa 12 9) (fa 12 10) (n10 : Int32).toInt (n11 : Int32).toInt (n12 : Int32).toInt) (((iv 12 3) : Int32).toInt).toNat).toInt := xr13_7
  have xr13_8 : (r13 : Int32).toInt = (n14 : Int32).toInt := xr13_8
  have : 0 ≤ (r13 : Int32).toInt ∧ (r13 : Int32).toInt ≤ 60 := ⟨by omega, by omega⟩
  refine lv_istore (lv' := [(8, .int r13), (7, .int r5), (6, .int r1), (0, .ref h), (1, .int a), (2, .int b), (3, .int (-1)), (4, .int (-1)), (5, .int n)]) hx hb dX12_tryCause_43 hl (by decide) rfl (fun ls hl => ?_)
  refine lv_aload_n hx hb dX12_tryCause_45 rfl (lv_at hl 3 rfl) ?_
  refine lv_iload_n hx hb dX12_tryCause_46 rfl (lv_at hl 4 rfl) ?_
  refine lv_iconst (v := 1) hx hb dX12_tryCause_47 (by decide) ?_
  refine lv_aload_n hx hb dX12_tryCause_48 rfl (lv_at hl 3 rfl) ?_
  refine gM_12_0 hx hb ht hown hK hP m_1139 (v := (iv 12 0)) rfl dX12_tryCause_49 ?_
  have hFc := free_all hD hS hA
  refine va_calli (va_runV (As := [.int a, .int 1, .int (iv 12 0)]) (rest := []) ⟨hx, hb, hml, hown, ht⟩ (c_X12_sumUp_q l dC dI H.size h g ca (u2 (u2 (u2 (u2 iv 12 19 n14) 12 20 n10) 12 21 n11) 12 22 n12) (u2 (u2 lv 12 17 n15) 12 18 n16) fa la (IX_i (c := 12) (k := 22) (IX_i (c := 12) (k := 21) (IX_i (c := 12) (k := 20) (IX_i (c := 12) (k := 19) hI (full_i _)) (full_i _)) (full_i _)) (full_i _)) a 1 (iv 12 0) hJR) (kV 3 ht m_1434 m_1436 m_45 m_89 m_1437 rfl rfl hd_X12_sumUp_v ⟨Nat.le_of_ble_eq_true rfl, Nat.le_of_ble_eq_true rfl⟩) (vW hP hK hD (rM_12 hK hP)) rfl rfl hl.1 rfl (lv_room (Nat.le_of_ble_eq_true rfl)) dX12_tryCause_52 ⟨Nat.le_of_ble_eq_true rfl, Nat.le_of_ble_eq_true rfl⟩) hS (fun q _ h => hFc q h) hFc (fun r17 u t H1 locs ht9 hvm hr17 hB hz1 hk1 hS => ?_)
  obtain ⟨n18, n19, n20, xr17_0, xr17_1, xr17_2, xr17_3, xr17_4, xr17_5, xr17_6, xr17_7, xr17_8, hr17, rfl⟩ := hr17
  obtain ⟨hP, hD⟩ := hB
  rw [ht9] at hP
  generalize H1 = H at hP hS ⊢
  have hP : va_P (dC, dI) classes (WM h g ca (u2 (u2 (u2 (u2 iv 12 19 n18) 12 20 n10) 12 21 n11) 12 22 n12) (u2 (u2 lv 12 17 n19) 12 18 n20) fa la) H := hP
  have hD : va_D A (WM h g ca (u2 (u2 (u2 (u2 iv 12 19 n18) 12 20 n10) 12 21 n11) 12 22 n12) (u2 (u2 lv 12 17 n19) 12 18 n20) fa la) := (show va_D _ (WM h g ca (u2 (u2 (u2 (u2 iv 12 19 n18) 12 20 n10) 12 21 n11) 12 22 n12) (u2 (u2 lv 12 17 n19) 12 18 n20) fa la) from hD).weaken (fun _ _ _ h => hFc _ h)
  have xr17_0 : 0 ≤ (r17 : Int32).toInt := xr17_0
  have xr17_1 : (r17 : Int32).toInt ≤ 60 := xr17_1
  have xr17_2 : 0 ≤ (n20 : Int64).toInt := xr17_2
  have xr17_3 : (n20 : Int64).toInt ≤ 599940 := xr17_3
  have xr17_4 : 100 * (r17 : Int32).toInt ≤ (n20 : Int64).toInt := xr17_4
  have xr17_5 : (n19 : Int64).toInt = (caL (cyP (fa 12 4) (fa 12 5) (fa 12 11) (fa 12 12) (a : Int32).toInt ((iv 12 0) : Int32).toInt (1 : Int32).toInt) (owY (fa 12 9) (fa 12 10) (n10 : Int32).toInt (n11 : Int32).toInt (n12 : Int32).toInt) (fa 12 8) (((iv 12 3) : Int32).toInt).toNat).toInt := xr17_5
  have xr17_6 : (n20 : Int64).toInt = (caL (cyP (fa 12 4) (fa 12 5) (fa 12 11) (fa 12 12) (a : Int32).toInt ((iv 12 0) : Int32).toInt (1 : Int32).toInt) (owY (fa 12 9) (fa 12 10) (n10 : Int32).toInt (n11 : Int32).toInt (n12 : Int32).toInt) (fa 12 7) (((iv 12 3) : Int32).toInt).toNat).toInt := xr17_6
  have xr17_7 : (n18 : Int32).toInt = (caC (cyP (fa 12 4) (fa 12 5) (fa 12 11) (fa 12 12) (a : Int32).toInt ((iv 12 0) : Int32).toInt (1 : Int32).toInt) (owY (fa 12 9) (fa 12 10) (n10 : Int32).toInt (n11 : Int32).toInt (n12 : Int32).toInt) (((iv 12 3) : Int32).toInt).toNat).toInt := xr17_7
  have xr17_8 : (r17 : Int32).toInt = (n18 : Int32).toInt := xr17_8
  have : 0 ≤ (r17 : Int32).toInt ∧ (r17 : Int32).toInt ≤ 60 := ⟨by omega, by omega⟩
  refine lv_istore (lv' := [(9, .int r17), (8, .int r13), (7, .int r5), (6, .int r1), (0, .ref h), (1, .int a), (2, .int b), (3, .int (-1)), (4, .int (-1)), (5, .int n)]) hx hb dX12_tryCause_55 hl (by decide) rfl (fun ls hl => ?_)
  refine lv_iload hx hb dX12_tryCause_57 (lv_at hl 3 rfl) ?_
  refine lv_iload hx hb dX12_tryCause_59 (lv_at hl 1 rfl) ?_
  refine lv_isub hx hb dX12_tryCause_61 ?_
  refine lv_topi (fun v21 ev21 => ?_)
  have tv21 := z_sub ev21 (rfl : (r1).toInt = _) (rfl : (r13).toInt = _) (by omega) (by omega)
  refine lv_iload hx hb dX12_tryCause_62 (lv_at hl 2 rfl) ?_
  refine lv_iadd hx hb dX12_tryCause_64 ?_
  refine lv_topi (fun v22 ev22 => ?_)
  have tv22 := z_add ev22 (rfl : (v21).toInt = _) (rfl : (r5).toInt = _) (by omega) (by omega)
  refine lv_iload hx hb dX12_tryCause_65 (lv_at hl 0 rfl) ?_
  refine lv_isub hx hb dX12_tryCause_67 ?_
  refine lv_topi (fun v23 ev23 => ?_)
  have tv23 := z_sub ev23 (rfl : (v22).toInt = _) (rfl : (r17).toInt = _) (by omega) (by omega)
  refine lv_istore (lv' := [(10, .int v23), (9, .int r17), (8, .int r13), (7, .int r5), (6, .int r1), (0, .ref h), (1, .int a), (2, .int b), (3, .int (-1)), (4, .int (-1)), (5, .int n)]) hx hb dX12_tryCause_68 hl (by decide) rfl (fun ls hl => ?_)
  refine lv_iload hx hb dX12_tryCause_70 (lv_at hl 2 rfl) ?_
  refine lv_if_le (tgt := 108) hx hb dX12_tryCause_72 (by decide) (fun c24 => ?_) (fun c24 => ?_)
  · have fc24 := z_le (rfl : (r13).toInt = _) (by decide : (0 : Int32).toInt = 0) c24
    refine lv_iconst (v := 0) hx hb dX12_tryCause_108 (by decide) ?_
    refine lv_istore (lv' := [(11, .int 0), (10, .int v23), (9, .int r17), (8, .int r13), (7, .int r5), (6, .int r1), (0, .ref h), (1, .int a), (2, .int b), (3, .int (-1)), (4, .int (-1)), (5, .int n)]) hx hb dX12_tryCause_109 hl (by decide) rfl (fun ls hl => ?_)
    refine lv_aload_n hx hb dX12_tryCause_111 rfl (lv_at hl 6 rfl) ?_
    refine lv_iconst (v := (-1)) hx hb dX12_tryCause_112 (by decide) ?_
    refine lv_iconst (v := (-1)) hx hb dX12_tryCause_113 (by decide) ?_
    refine lv_iconst (v := (-1)) hx hb dX12_tryCause_114 (by decide) ?_
    have hFc := free_all hD hS hA
    refine va_callv (va_runV (As := [.int (-1), .int (-1), .int (-1)]) (rest := []) ⟨hx, hb, hml, hown, ht⟩ (c_X12_leaveOut_x l dC dI H.size h g ca (u2 (u2 (u2 (u2 iv 12 19 n18) 12 20 n10) 12 21 n11) 12 22 n12) (u2 (u2 lv 12 17 n19) 12 18 n20) fa la (IX_i (c := 12) (k := 22) (IX_i (c := 12) (k := 21) (IX_i (c := 12) (k := 20) (IX_i (c := 12) (k := 19) hI (full_i _)) (full_i _)) (full_i _)) (full_i _)) (-1) (-1) (-1)) (kV 3 ht m_1590 m_1592 m_67 m_89 m_1593 rfl rfl hd_X12_leaveOut_v ⟨Nat.le_of_ble_eq_true rfl, Nat.le_of_ble_eq_true rfl⟩) (vW hP hK hD (rM_12 hK hP)) rfl rfl hl.1 rfl (lv_room (Nat.le_of_ble_eq_true rfl)) dX12_tryCause_115 ⟨Nat.le_of_ble_eq_true rfl, Nat.le_of_ble_eq_true rfl⟩) hS (fun q _ h => hFc q h) hFc (fun u t H1 locs ht9 hvm hr25 hB hz1 hk1 hS => ?_)
    obtain ⟨n26, n27, n28, xr25_0, xr25_1, xr25_2, rfl⟩ := hr25
    obtain ⟨hP, hD⟩ := hB
    rw [ht9] at hP
    generalize H1 = H at hP hS ⊢
    have hP : va_P (dC, dI) classes (WM h g ca (u2 (u2 (u2 (u2 iv 12 19 n18) 12 20 n26) 12 21 n27) 12 22 n28) (u2 (u2 lv 12 17 n19) 12 18 n20) fa la) H := hP
    have hD : va_D A (WM h g ca (u2 (u2 (u2 (u2 iv 12 19 n18) 12 20 n26) 12 21 n27) 12 22 n28) (u2 (u2 lv 12 17 n19) 12 18 n20) fa la) := (show va_D _ (WM h g ca (u2 (u2 (u2 (u2 iv 12 19 n18) 12 20 n26) 12 21 n27) 12 22 n28) (u2 (u2 lv 12 17 n19) 12 18 n20) fa la) from hD).weaken (fun _ _ _ h => hFc _ h)
    have xr25_0 : (n26 : Int32).toInt = ((-1) : Int32).toInt := xr25_0
    have xr25_1 : (n27 : Int32).toInt = ((-1) : Int32).toInt := xr25_1
    have xr25_2 : (n28 : Int32).toInt = ((-1) : Int32).toInt := xr25_2
    refine lv_iload hx hb dX12_tryCause_118 (lv_at hl 0 rfl) ?_
    refine lv_if_eq (tgt := 169) hx hb dX12_tryCause_120 (by decide) (fun c29 => ?_) (fun c29 => ?_)
    · skip
      have i_12_48 : 0 ≤ (iv 12 48).toInt ∧ (iv 12 48).toInt ≤ 72 := hI.1 12 48
      have hP9 : va_P (dC, dI) classes (WM h g ca (u2 (u2 (u2 (u2 (u2 iv 12 19 n18) 12 20 n26) 12 21 n27) 12 22 n28) 12 48 (iv 12 48)) (u2 (u2 lv 12 17 n19) 12 18 n20) (u2 fa 12 49 (fa 12 49)) la) H := hP
      have hD9 : va_D A (WM h g ca (u2 (u2 (u2 (u2 (u2 iv 12 19 n18) 12 20 n26) 12 21 n27) 12 22 n28) 12 48 (iv 12 48)) (u2 (u2 lv 12 17 n19) 12 18 n20) (u2 fa 12 49 (fa 12 49)) la) := hD
      exact W.vret hx hb hr (fun t ht9 hW => ⟨⟨((u2 (u2 (u2 (u2 (u2 iv 12 19 n18) 12 20 n26) 12 21 n27) 12 22 n28) 12 48 (iv 12 48)), (u2 (u2 lv 12 17 n19) 12 18 n20), (u2 fa 12 49 (fa 12 49)), la), rfl, ⟨(fa 12 49), n18, n26, n27, n28, (iv 12 48), n19, n20, (hI.1 12 48), (show (n26 : Int32).toInt = -1 from by omega), (show (n27 : Int32).toInt = -1 from by omega), (show (n28 : Int32).toInt = -1 from by omega), (show ((iv 12 48) : Int32).toInt ≤ (iv 12 48).toInt + 1 from by omega), (show ((((iv 12 48) : Int32).toInt = (iv 12 48).toInt + 1 ∧ AgR (cyP (fa 12 4) (fa 12 5) (fa 12 11) (fa 12 12) (a).toInt (iv 12 0).toInt 0) (cyP (fa 12 4) (fa 12 5) (fa 12 11) (fa 12 12) (a).toInt (iv 12 0).toInt 1) (owY (fa 12 9) (fa 12 10) (-1) (-1) (n).toInt) (fa 12 7) (fa 12 8) ((iv 12 3).toInt).toNat 1 b ∧ ((fa 12 49) ((iv 12 48).toInt).toNat).toInt = 100 + (n).toInt ∧ ∀ j : Nat, j ≠ ((iv 12 48).toInt).toNat → (fa 12 49) j = (fa 12 49) j) ∨ (((iv 12 48) : Int32).toInt = (iv 12 48).toInt ∧ ¬ AgR (cyP (fa 12 4) (fa 12 5) (fa 12 11) (fa 12 12) (a).toInt (iv 12 0).toInt 0) (cyP (fa 12 4) (fa 12 5) (fa 12 11) (fa 12 12) (a).toInt (iv 12 0).toInt 1) (owY (fa 12 9) (fa 12 10) (-1) (-1) (n).toInt) (fa 12 7) (fa 12 8) ((iv 12 3).toInt).toNat 1 b ∧ ∀ j : Nat, (fa 12 49) j = (fa 12 49) j)) from (by
            have sc0 := xr1_7
            have sr0 := xr1_8
            have sd0 := xr1_5
            have sw0 := xr1_6
            rw [show (0 : Int32).toInt = 0 from by decide] at sc0 sd0 sw0
            have sc1 := xr5_7
            have sr1 := xr5_8
            have sd1 := xr5_5
            have sw1 := xr5_6
            rw [show (1 : Int32).toInt = 1 from by decide] at sc1 sd1 sw1
            have sc2 := xr13_7
            have sr2 := xr13_8
            have sd2 := xr13_5
            have sw2 := xr13_6
            rw [show (0 : Int32).toInt = 0 from by decide] at sc2 sd2 sw2
            have sc3 := xr17_7
            have sr3 := xr17_8
            have sd3 := xr17_5
            have sw3 := xr17_6
            rw [show (1 : Int32).toInt = 1 from by decide] at sc3 sd3 sw3
            rw [show (n10 : Int32).toInt = (-1) from by omega, show (n11 : Int32).toInt = (-1) from by omega, show (n12 : Int32).toInt = n.toInt from by omega] at sc2 sc3
            have hn9 : ((iv 12 3).toInt).toNat ≤ 60 := by have q9 : 0 ≤ (iv 12 3).toInt ∧ (iv 12 3).toInt ≤ 60 := hI.1 12 3; omega
            have hw9 : ∀ s : Nat, s < ((iv 12 3).toInt).toNat → ¬ owY (fa 12 9) (fa 12 10) (iv 12 20).toInt (iv 12 21).toInt (iv 12 22).toInt s := fun s _ z => by
              have z1 : 0 ≤ (fa 12 9 s).toInt ∧ (fa 12 9 s).toInt ≤ 3 := hI.2 12 9 s
              have z2 : 0 ≤ (fa 12 10 s).toInt ∧ (fa 12 10 s).toInt ≤ 7 := hI.2 12 10 s
              unfold owY at z
              omega
            have hA9 := Ag_rf (W := owY (fa 12 9) (fa 12 10) (-1) (-1) n.toInt) (ra := fa 12 7) (dr := fa 12 8) (few := 1) (p := b) hn9 hw9 (sr0.trans sc0) (sr1.trans sc1) (sr2.trans sc2) (sr3.trans sc3) rfl
            have hB9 : ¬ AgR (cyP (fa 12 4) (fa 12 5) (fa 12 11) (fa 12 12) a.toInt (iv 12 0).toInt 0) (cyP (fa 12 4) (fa 12 5) (fa 12 11) (fa 12 12) a.toInt (iv 12 0).toInt 1) (owY (fa 12 9) (fa 12 10) (-1) (-1) n.toInt) (fa 12 7) (fa 12 8) ((iv 12 3).toInt).toNat 1 b := fun z => by
              have hC9 := hA9.mpr z
              obtain ⟨c1, c2, c3, -⟩ := hC9
              omega
            exact Or.inr ⟨by omega, hB9, fun j => rfl⟩)), rfl⟩, by rw [ht9]; exact hP9, hD9⟩, hS.F ht9⟩) hS.2.2 dX12_tryCause_169
    · exact absurd rfl c29
  · have fc24 := z_nle (rfl : (r13).toInt = _) (by decide : (0 : Int32).toInt = 0) c24
    refine lv_iload hx hb dX12_tryCause_75 (lv_at hl 1 rfl) ?_
    refine lv_if_le (tgt := 108) hx hb dX12_tryCause_77 (by decide) (fun c30 => ?_) (fun c30 => ?_)
    · have fc30 := z_le (rfl : (r17).toInt = _) (by decide : (0 : Int32).toInt = 0) c30
      refine lv_iconst (v := 0) hx hb dX12_tryCause_108 (by decide) ?_
      refine lv_istore (lv' := [(11, .int 0), (10, .int v23), (9, .int r17), (8, .int r13), (7, .int r5), (6, .int r1), (0, .ref h), (1, .int a), (2, .int b), (3, .int (-1)), (4, .int (-1)), (5, .int n)]) hx hb dX12_tryCause_109 hl (by decide) rfl (fun ls hl => ?_)
      refine lv_aload_n hx hb dX12_tryCause_111 rfl (lv_at hl 6 rfl) ?_
      refine lv_iconst (v := (-1)) hx hb dX12_tryCause_112 (by decide) ?_
      refine lv_iconst (v := (-1)) hx hb dX12_tryCause_113 (by decide) ?_
      refine lv_iconst (v := (-1)) hx hb dX12_tryCause_114 (by decide) ?_
      have hFc := free_all hD hS hA
      refine va_callv (va_runV (As := [.int (-1), .int (-1), .int (-1)]) (rest := []) ⟨hx, hb, hml, hown, ht⟩ (c_X12_leaveOut_x l dC dI H.size h g ca (u2 (u2 (u2 (u2 iv 12 19 n18) 12 20 n10) 12 21 n11) 12 22 n12) (u2 (u2 lv 12 17 n19) 12 18 n20) fa la (IX_i (c := 12) (k := 22) (IX_i (c := 12) (k := 21) (IX_i (c := 12) (k := 20) (IX_i (c := 12) (k := 19) hI (full_i _)) (full_i _)) (full_i _)) (full_i _)) (-1) (-1) (-1)) (kV 3 ht m_1590 m_1592 m_67 m_89 m_1593 rfl rfl hd_X12_leaveOut_v ⟨Nat.le_of_ble_eq_true rfl, Nat.le_of_ble_eq_true rfl⟩) (vW hP hK hD (rM_12 hK hP)) rfl rfl hl.1 rfl (lv_room (Nat.le_of_ble_eq_true rfl)) dX12_tryCause_115 ⟨Nat.le_of_ble_eq_true rfl, Nat.le_of_ble_eq_true rfl⟩) hS (fun q _ h => hFc q h) hFc (fun u t H1 locs ht9 hvm hr31 hB hz1 hk1 hS => ?_)
      obtain ⟨n32, n33, n34, xr31_0, xr31_1, xr31_2, rfl⟩ := hr31
      obtain ⟨hP, hD⟩ := hB
      rw [ht9] at hP
      generalize H1 = H at hP hS ⊢
      have hP : va_P (dC, dI) classes (WM h g ca (u2 (u2 (u2 (u2 iv 12 19 n18) 12 20 n32) 12 21 n33) 12 22 n34) (u2 (u2 lv 12 17 n19) 12 18 n20) fa la) H := hP
      have hD : va_D A (WM h g ca (u2 (u2 (u2 (u2 iv 12 19 n18) 12 20 n32) 12 21 n33) 12 22 n34) (u2 (u2 lv 12 17 n19) 12 18 n20) fa la) := (show va_D _ (WM h g ca (u2 (u2 (u2 (u2 iv 12 19 n18) 12 20 n32) 12 21 n33) 12 22 n34) (u2 (u2 lv 12 17 n19) 12 18 n20) fa la) from hD).weaken (fun _ _ _ h => hFc _ h)
      have xr31_0 : (n32 : Int32).toInt = ((-1) : Int32).toInt := xr31_0
      have xr31_1 : (n33 : Int32).toInt = ((-1) : Int32).toInt := xr31_1
      have xr31_2 : (n34 : Int32).toInt = ((-1) : Int32).toInt := xr31_2
      refine lv_iload hx hb dX12_tryCause_118 (lv_at hl 0 rfl) ?_
      refine lv_if_eq (tgt := 169) hx hb dX12_tryCause_120 (by decide) (fun c35 => ?_) (fun c35 => ?_)
      · skip
        have i_12_48 : 0 ≤ (iv 12 48).toInt ∧ (iv 12 48).toInt ≤ 72 := hI.1 12 48
        have hP9 : va_P (dC, dI) classes (WM h g ca (u2 (u2 (u2 (u2 (u2 iv 12 19 n18) 12 20 n32) 12 21 n33) 12 22 n34) 12 48 (iv 12 48)) (u2 (u2 lv 12 17 n19) 12 18 n20) (u2 fa 12 49 (fa 12 49)) la) H := hP
        have hD9 : va_D A (WM h g ca (u2 (u2 (u2 (u2 (u2 iv 12 19 n18) 12 20 n32) 12 21 n33) 12 22 n34) 12 48 (iv 12 48)) (u2 (u2 lv 12 17 n19) 12 18 n20) (u2 fa 12 49 (fa 12 49)) la) := hD
        exact W.vret hx hb hr (fun t ht9 hW => ⟨⟨((u2 (u2 (u2 (u2 (u2 iv 12 19 n18) 12 20 n32) 12 21 n33) 12 22 n34) 12 48 (iv 12 48)), (u2 (u2 lv 12 17 n19) 12 18 n20), (u2 fa 12 49 (fa 12 49)), la), rfl, ⟨(fa 12 49), n18, n32, n33, n34, (iv 12 48), n19, n20, (hI.1 12 48), (show (n32 : Int32).toInt = -1 from by omega), (show (n33 : Int32).toInt = -1 from by omega), (show (n34 : Int32).toInt = -1 from by omega), (show ((iv 12 48) : Int32).toInt ≤ (iv 12 48).toInt + 1 from by omega), (show ((((iv 12 48) : Int32).toInt = (iv 12 48).toInt + 1 ∧ AgR (cyP (fa 12 4) (fa 12 5) (fa 12 11) (fa 12 12) (a).toInt (iv 12 0).toInt 0) (cyP (fa 12 4) (fa 12 5) (fa 12 11) (fa 12 12) (a).toInt (iv 12 0).toInt 1) (owY (fa 12 9) (fa 12 10) (-1) (-1) (n).toInt) (fa 12 7) (fa 12 8) ((iv 12 3).toInt).toNat 1 b ∧ ((fa 12 49) ((iv 12 48).toInt).toNat).toInt = 100 + (n).toInt ∧ ∀ j : Nat, j ≠ ((iv 12 48).toInt).toNat → (fa 12 49) j = (fa 12 49) j) ∨ (((iv 12 48) : Int32).toInt = (iv 12 48).toInt ∧ ¬ AgR (cyP (fa 12 4) (fa 12 5) (fa 12 11) (fa 12 12) (a).toInt (iv 12 0).toInt 0) (cyP (fa 12 4) (fa 12 5) (fa 12 11) (fa 12 12) (a).toInt (iv 12 0).toInt 1) (owY (fa 12 9) (fa 12 10) (-1) (-1) (n).toInt) (fa 12 7) (fa 12 8) ((iv 12 3).toInt).toNat 1 b ∧ ∀ j : Nat, (fa 12 49) j = (fa 12 49) j)) from (by
              have sc0 := xr1_7
              have sr0 := xr1_8
              have sd0 := xr1_5
              have sw0 := xr1_6
              rw [show (0 : Int32).toInt = 0 from by decide] at sc0 sd0 sw0
              have sc1 := xr5_7
              have sr1 := xr5_8
              have sd1 := xr5_5
              have sw1 := xr5_6
              rw [show (1 : Int32).toInt = 1 from by decide] at sc1 sd1 sw1
              have sc2 := xr13_7
              have sr2 := xr13_8
              have sd2 := xr13_5
              have sw2 := xr13_6
              rw [show (0 : Int32).toInt = 0 from by decide] at sc2 sd2 sw2
              have sc3 := xr17_7
              have sr3 := xr17_8
              have sd3 := xr17_5
              have sw3 := xr17_6
              rw [show (1 : Int32).toInt = 1 from by decide] at sc3 sd3 sw3
              rw [show (n10 : Int32).toInt = (-1) from by omega, show (n11 : Int32).toInt = (-1) from by omega, show (n12 : Int32).toInt = n.toInt from by omega] at sc2 sc3
              have hn9 : ((iv 12 3).toInt).toNat ≤ 60 := by have q9 : 0 ≤ (iv 12 3).toInt ∧ (iv 12 3).toInt ≤ 60 := hI.1 12 3; omega
              have hw9 : ∀ s : Nat, s < ((iv 12 3).toInt).toNat → ¬ owY (fa 12 9) (fa 12 10) (iv 12 20).toInt (iv 12 21).toInt (iv 12 22).toInt s := fun s _ z => by
                have z1 : 0 ≤ (fa 12 9 s).toInt ∧ (fa 12 9 s).toInt ≤ 3 := hI.2 12 9 s
                have z2 : 0 ≤ (fa 12 10 s).toInt ∧ (fa 12 10 s).toInt ≤ 7 := hI.2 12 10 s
                unfold owY at z
                omega
              have hA9 := Ag_rf (W := owY (fa 12 9) (fa 12 10) (-1) (-1) n.toInt) (ra := fa 12 7) (dr := fa 12 8) (few := 1) (p := b) hn9 hw9 (sr0.trans sc0) (sr1.trans sc1) (sr2.trans sc2) (sr3.trans sc3) rfl
              have hB9 : ¬ AgR (cyP (fa 12 4) (fa 12 5) (fa 12 11) (fa 12 12) a.toInt (iv 12 0).toInt 0) (cyP (fa 12 4) (fa 12 5) (fa 12 11) (fa 12 12) a.toInt (iv 12 0).toInt 1) (owY (fa 12 9) (fa 12 10) (-1) (-1) n.toInt) (fa 12 7) (fa 12 8) ((iv 12 3).toInt).toNat 1 b := fun z => by
                have hC9 := hA9.mpr z
                obtain ⟨c1, c2, c3, -⟩ := hC9
                omega
              exact Or.inr ⟨by omega, hB9, fun j => rfl⟩)), rfl⟩, by rw [ht9]; exact hP9, hD9⟩, hS.F ht9⟩) hS.2.2 dX12_tryCause_169
      · exact absurd rfl c35
    · have fc30 := z_nle (rfl : (r17).toInt = _) (by decide : (0 : Int32).toInt = 0) c30
      refine lv_iload hx hb dX12_tryCause_80 (lv_at hl 0 rfl) ?_
      refine lv_iload hx hb dX12_tryCause_82 (lv_at hl 10 rfl) ?_
      refine lv_if_ge (tgt := 91) hx hb dX12_tryCause_84 (by decide) (fun c36 => ?_) (fun c36 => ?_)
      · skip
        refine lv_iconst (v := 1) hx hb dX12_tryCause_91 (by decide) ?_
        refine lv_icmp_lt (tgt := 108) hx hb dX12_tryCause_92 (by decide) (fun c37 => ?_) (fun c37 => ?_)
        · have fc37 := z_lt (rfl : (v23).toInt = _) (by decide : (1 : Int32).toInt = 1) c37
          refine lv_iconst (v := 0) hx hb dX12_tryCause_108 (by decide) ?_
          refine lv_istore (lv' := [(11, .int 0), (10, .int v23), (9, .int r17), (8, .int r13), (7, .int r5), (6, .int r1), (0, .ref h), (1, .int a), (2, .int b), (3, .int (-1)), (4, .int (-1)), (5, .int n)]) hx hb dX12_tryCause_109 hl (by decide) rfl (fun ls hl => ?_)
          refine lv_aload_n hx hb dX12_tryCause_111 rfl (lv_at hl 6 rfl) ?_
          refine lv_iconst (v := (-1)) hx hb dX12_tryCause_112 (by decide) ?_
          refine lv_iconst (v := (-1)) hx hb dX12_tryCause_113 (by decide) ?_
          refine lv_iconst (v := (-1)) hx hb dX12_tryCause_114 (by decide) ?_
          have hFc := free_all hD hS hA
          refine va_callv (va_runV (As := [.int (-1), .int (-1), .int (-1)]) (rest := []) ⟨hx, hb, hml, hown, ht⟩ (c_X12_leaveOut_x l dC dI H.size h g ca (u2 (u2 (u2 (u2 iv 12 19 n18) 12 20 n10) 12 21 n11) 12 22 n12) (u2 (u2 lv 12 17 n19) 12 18 n20) fa la (IX_i (c := 12) (k := 22) (IX_i (c := 12) (k := 21) (IX_i (c := 12) (k := 20) (IX_i (c := 12) (k := 19) hI (full_i _)) (full_i _)) (full_i _)) (full_i _)) (-1) (-1) (-1)) (kV 3 ht m_1590 m_1592 m_67 m_89 m_1593 rfl rfl hd_X12_leaveOut_v ⟨Nat.le_of_ble_eq_true rfl, Nat.le_of_ble_eq_true rfl⟩) (vW hP hK hD (rM_12 hK hP)) rfl rfl hl.1 rfl (lv_room (Nat.le_of_ble_eq_true rfl)) dX12_tryCause_115 ⟨Nat.le_of_ble_eq_true rfl, Nat.le_of_ble_eq_true rfl⟩) hS (fun q _ h => hFc q h) hFc (fun u t H1 locs ht9 hvm hr38 hB hz1 hk1 hS => ?_)
          obtain ⟨n39, n40, n41, xr38_0, xr38_1, xr38_2, rfl⟩ := hr38
          obtain ⟨hP, hD⟩ := hB
          rw [ht9] at hP
          generalize H1 = H at hP hS ⊢
          have hP : va_P (dC, dI) classes (WM h g ca (u2 (u2 (u2 (u2 iv 12 19 n18) 12 20 n39) 12 21 n40) 12 22 n41) (u2 (u2 lv 12 17 n19) 12 18 n20) fa la) H := hP
          have hD : va_D A (WM h g ca (u2 (u2 (u2 (u2 iv 12 19 n18) 12 20 n39) 12 21 n40) 12 22 n41) (u2 (u2 lv 12 17 n19) 12 18 n20) fa la) := (show va_D _ (WM h g ca (u2 (u2 (u2 (u2 iv 12 19 n18) 12 20 n39) 12 21 n40) 12 22 n41) (u2 (u2 lv 12 17 n19) 12 18 n20) fa la) from hD).weaken (fun _ _ _ h => hFc _ h)
          have xr38_0 : (n39 : Int32).toInt = ((-1) : Int32).toInt := xr38_0
          have xr38_1 : (n40 : Int32).toInt = ((-1) : Int32).toInt := xr38_1
          have xr38_2 : (n41 : Int32).toInt = ((-1) : Int32).toInt := xr38_2
          refine lv_iload hx hb dX12_tryCause_118 (lv_at hl 0 rfl) ?_
          refine lv_if_eq (tgt := 169) hx hb dX12_tryCause_120 (by decide) (fun c42 => ?_) (fun c42 => ?_)
          · skip
            have i_12_48 : 0 ≤ (iv 12 48).toInt ∧ (iv 12 48).toInt ≤ 72 := hI.1 12 48
            have hP9 : va_P (dC, dI) classes (WM h g ca (u2 (u2 (u2 (u2 (u2 iv 12 19 n18) 12 20 n39) 12 21 n40) 12 22 n41) 12 48 (iv 12 48)) (u2 (u2 lv 12 17 n19) 12 18 n20) (u2 fa 12 49 (fa 12 49)) la) H := hP
            have hD9 : va_D A (WM h g ca (u2 (u2 (u2 (u2 (u2 iv 12 19 n18) 12 20 n39) 12 21 n40) 12 22 n41) 12 48 (iv 12 48)) (u2 (u2 lv 12 17 n19) 12 18 n20) (u2 fa 12 49 (fa 12 49)) la) := hD
            exact W.vret hx hb hr (fun t ht9 hW => ⟨⟨((u2 (u2 (u2 (u2 (u2 iv 12 19 n18) 12 20 n39) 12 21 n40) 12 22 n41) 12 48 (iv 12 48)), (u2 (u2 lv 12 17 n19) 12 18 n20), (u2 fa 12 49 (fa 12 49)), la), rfl, ⟨(fa 12 49), n18, n39, n40, n41, (iv 12 48), n19, n20, (hI.1 12 48), (show (n39 : Int32).toInt = -1 from by omega), (show (n40 : Int32).toInt = -1 from by omega), (show (n41 : Int32).toInt = -1 from by omega), (show ((iv 12 48) : Int32).toInt ≤ (iv 12 48).toInt + 1 from by omega), (show ((((iv 12 48) : Int32).toInt = (iv 12 48).toInt + 1 ∧ AgR (cyP (fa 12 4) (fa 12 5) (fa 12 11) (fa 12 12) (a).toInt (iv 12 0).toInt 0) (cyP (fa 12 4) (fa 12 5) (fa 12 11) (fa 12 12) (a).toInt (iv 12 0).toInt 1) (owY (fa 12 9) (fa 12 10) (-1) (-1) (n).toInt) (fa 12 7) (fa 12 8) ((iv 12 3).toInt).toNat 1 b ∧ ((fa 12 49) ((iv 12 48).toInt).toNat).toInt = 100 + (n).toInt ∧ ∀ j : Nat, j ≠ ((iv 12 48).toInt).toNat → (fa 12 49) j = (fa 12 49) j) ∨ (((iv 12 48) : Int32).toInt = (iv 12 48).toInt ∧ ¬ AgR (cyP (fa 12 4) (fa 12 5) (fa 12 11) (fa 12 12) (a).toInt (iv 12 0).toInt 0) (cyP (fa 12 4) (fa 12 5) (fa 12 11) (fa 12 12) (a).toInt (iv 12 0).toInt 1) (owY (fa 12 9) (fa 12 10) (-1) (-1) (n).toInt) (fa 12 7) (fa 12 8) ((iv 12 3).toInt).toNat 1 b ∧ ∀ j : Nat, (fa 12 49) j = (fa 12 49) j)) from (by
                  have sc0 := xr1_7
                  have sr0 := xr1_8
                  have sd0 := xr1_5
                  have sw0 := xr1_6
                  rw [show (0 : Int32).toInt = 0 from by decide] at sc0 sd0 sw0
                  have sc1 := xr5_7
                  have sr1 := xr5_8
                  have sd1 := xr5_5
                  have sw1 := xr5_6
                  rw [show (1 : Int32).toInt = 1 from by decide] at sc1 sd1 sw1
                  have sc2 := xr13_7
                  have sr2 := xr13_8
                  have sd2 := xr13_5
                  have sw2 := xr13_6
                  rw [show (0 : Int32).toInt = 0 from by decide] at sc2 sd2 sw2
                  have sc3 := xr17_7
                  have sr3 := xr17_8
                  have sd3 := xr17_5
                  have sw3 := xr17_6
                  rw [show (1 : Int32).toInt = 1 from by decide] at sc3 sd3 sw3
                  rw [show (n10 : Int32).toInt = (-1) from by omega, show (n11 : Int32).toInt = (-1) from by omega, show (n12 : Int32).toInt = n.toInt from by omega] at sc2 sc3
                  have hn9 : ((iv 12 3).toInt).toNat ≤ 60 := by have q9 : 0 ≤ (iv 12 3).toInt ∧ (iv 12 3).toInt ≤ 60 := hI.1 12 3; omega
                  have hw9 : ∀ s : Nat, s < ((iv 12 3).toInt).toNat → ¬ owY (fa 12 9) (fa 12 10) (iv 12 20).toInt (iv 12 21).toInt (iv 12 22).toInt s := fun s _ z => by
                    have z1 : 0 ≤ (fa 12 9 s).toInt ∧ (fa 12 9 s).toInt ≤ 3 := hI.2 12 9 s
                    have z2 : 0 ≤ (fa 12 10 s).toInt ∧ (fa 12 10 s).toInt ≤ 7 := hI.2 12 10 s
                    unfold owY at z
                    omega
                  have hA9 := Ag_rf (W := owY (fa 12 9) (fa 12 10) (-1) (-1) n.toInt) (ra := fa 12 7) (dr := fa 12 8) (few := 1) (p := b) hn9 hw9 (sr0.trans sc0) (sr1.trans sc1) (sr2.trans sc2) (sr3.trans sc3) rfl
                  have hB9 : ¬ AgR (cyP (fa 12 4) (fa 12 5) (fa 12 11) (fa 12 12) a.toInt (iv 12 0).toInt 0) (cyP (fa 12 4) (fa 12 5) (fa 12 11) (fa 12 12) a.toInt (iv 12 0).toInt 1) (owY (fa 12 9) (fa 12 10) (-1) (-1) n.toInt) (fa 12 7) (fa 12 8) ((iv 12 3).toInt).toNat 1 b := fun z => by
                    have hC9 := hA9.mpr z
                    obtain ⟨c1, c2, c3, -⟩ := hC9
                    omega
                  exact Or.inr ⟨by omega, hB9, fun j => rfl⟩)), rfl⟩, by rw [ht9]; exact hP9, hD9⟩, hS.F ht9⟩) hS.2.2 dX12_tryCause_169
          · exact absurd rfl c42
        · have fc37 := z_nlt (rfl : (v23).toInt = _) (by decide : (1 : Int32).toInt = 1) c37
          refine lv_aload_n hx hb dX12_tryCause_95 rfl (lv_at hl 5 rfl) ?_
          refine lv_iload_n hx hb dX12_tryCause_96 rfl (lv_at hl 6 rfl) ?_
          refine lv_iload_n hx hb dX12_tryCause_97 rfl (lv_at hl 7 rfl) ?_
          have hFc := free_all hD hS hA
          refine va_calli (va_runV (As := [.int a, .int b]) (rest := []) ⟨hx, hb, hml, hown, ht⟩ (c_X12_doLooksPart_q l dC dI H.size h g ca (u2 (u2 (u2 (u2 iv 12 19 n18) 12 20 n10) 12 21 n11) 12 22 n12) (u2 (u2 lv 12 17 n19) 12 18 n20) fa la (IX_i (c := 12) (k := 22) (IX_i (c := 12) (k := 21) (IX_i (c := 12) (k := 20) (IX_i (c := 12) (k := 19) hI (full_i _)) (full_i _)) (full_i _)) (full_i _)) a b hJR) (kV 2 ht m_1582 m_1584 m_65 m_89 m_1585 rfl rfl hd_X12_doLooksPart_v ⟨Nat.le_of_ble_eq_true rfl, Nat.le_of_ble_eq_true rfl⟩) (vW hP hK hD (rM_12 hK hP)) rfl rfl hl.1 rfl (lv_room (Nat.le_of_ble_eq_true rfl)) dX12_tryCause_98 ⟨Nat.le_of_ble_eq_true rfl, Nat.le_of_ble_eq_true rfl⟩) hS (fun q _ h => hFc q h) hFc (fun r43 u t H1 locs ht9 hvm hr43 hB hz1 hk1 hS => ?_)
          obtain ⟨n44, n45, n46, xr43_0, hr43, rfl⟩ := hr43
          obtain ⟨hP, hD⟩ := hB
          rw [ht9] at hP
          generalize H1 = H at hP hS ⊢
          have hP : va_P (dC, dI) classes (WM h g ca (u2 (u2 (u2 (u2 iv 12 19 n44) 12 20 n10) 12 21 n11) 12 22 n12) (u2 (u2 lv 12 17 n45) 12 18 n46) fa la) H := hP
          have hD : va_D A (WM h g ca (u2 (u2 (u2 (u2 iv 12 19 n44) 12 20 n10) 12 21 n11) 12 22 n12) (u2 (u2 lv 12 17 n45) 12 18 n46) fa la) := (show va_D _ (WM h g ca (u2 (u2 (u2 (u2 iv 12 19 n44) 12 20 n10) 12 21 n11) 12 22 n12) (u2 (u2 lv 12 17 n45) 12 18 n46) fa la) from hD).weaken (fun _ _ _ h => hFc _ h)
          have xr43_0 : (((r43 : Int32).toInt = 1 ∧ DpR (cyP (fa 12 4) (fa 12 5) (fa 12 11) (fa 12 12) (a : Int32).toInt ((iv 12 0) : Int32).toInt 0) (cyP (fa 12 4) (fa 12 5) (fa 12 11) (fa 12 12) (a : Int32).toInt ((iv 12 0) : Int32).toInt 1) (owY (fa 12 9) (fa 12 10) (n10 : Int32).toInt (n11 : Int32).toInt (n12 : Int32).toInt) (fa 12 7) (fa 12 8) (((iv 12 3) : Int32).toInt).toNat (b : Int32)) ∨ ((r43 : Int32).toInt = 0 ∧ ¬ DpR (cyP (fa 12 4) (fa 12 5) (fa 12 11) (fa 12 12) (a : Int32).toInt ((iv 12 0) : Int32).toInt 0) (cyP (fa 12 4) (fa 12 5) (fa 12 11) (fa 12 12) (a : Int32).toInt ((iv 12 0) : Int32).toInt 1) (owY (fa 12 9) (fa 12 10) (n10 : Int32).toInt (n11 : Int32).toInt (n12 : Int32).toInt) (fa 12 7) (fa 12 8) (((iv 12 3) : Int32).toInt).toNat (b : Int32))) := xr43_0
          refine lv_if_ne (tgt := 108) hx hb dX12_tryCause_101 (by decide) (fun c47 => ?_) (fun c47 => ?_)
          · have fc47 := z_ne (rfl : (r43).toInt = _) (by decide : (0 : Int32).toInt = 0) c47
            refine lv_iconst (v := 0) hx hb dX12_tryCause_108 (by decide) ?_
            refine lv_istore (lv' := [(11, .int 0), (10, .int v23), (9, .int r17), (8, .int r13), (7, .int r5), (6, .int r1), (0, .ref h), (1, .int a), (2, .int b), (3, .int (-1)), (4, .int (-1)), (5, .int n)]) hx hb dX12_tryCause_109 hl (by decide) rfl (fun ls hl => ?_)
            refine lv_aload_n hx hb dX12_tryCause_111 rfl (lv_at hl 6 rfl) ?_
            refine lv_iconst (v := (-1)) hx hb dX12_tryCause_112 (by decide) ?_
            refine lv_iconst (v := (-1)) hx hb dX12_tryCause_113 (by decide) ?_
            refine lv_iconst (v := (-1)) hx hb dX12_tryCause_114 (by decide) ?_
            have hFc := free_all hD hS hA
            refine va_callv (va_runV (As := [.int (-1), .int (-1), .int (-1)]) (rest := []) ⟨hx, hb, hml, hown, ht⟩ (c_X12_leaveOut_x l dC dI H.size h g ca (u2 (u2 (u2 (u2 iv 12 19 n44) 12 20 n10) 12 21 n11) 12 22 n12) (u2 (u2 lv 12 17 n45) 12 18 n46) fa la (IX_i (c := 12) (k := 22) (IX_i (c := 12) (k := 21) (IX_i (c := 12) (k := 20) (IX_i (c := 12) (k := 19) hI (full_i _)) (full_i _)) (full_i _)) (full_i _)) (-1) (-1) (-1)) (kV 3 ht m_1590 m_1592 m_67 m_89 m_1593 rfl rfl hd_X12_leaveOut_v ⟨Nat.le_of_ble_eq_true rfl, Nat.le_of_ble_eq_true rfl⟩) (vW hP hK hD (rM_12 hK hP)) rfl rfl hl.1 rfl (lv_room (Nat.le_of_ble_eq_true rfl)) dX12_tryCause_115 ⟨Nat.le_of_ble_eq_true rfl, Nat.le_of_ble_eq_true rfl⟩) hS (fun q _ h => hFc q h) hFc (fun u t H1 locs ht9 hvm hr48 hB hz1 hk1 hS => ?_)
            obtain ⟨n49, n50, n51, xr48_0, xr48_1, xr48_2, rfl⟩ := hr48
            obtain ⟨hP, hD⟩ := hB
            rw [ht9] at hP
            generalize H1 = H at hP hS ⊢
            have hP : va_P (dC, dI) classes (WM h g ca (u2 (u2 (u2 (u2 iv 12 19 n44) 12 20 n49) 12 21 n50) 12 22 n51) (u2 (u2 lv 12 17 n45) 12 18 n46) fa la) H := hP
            have hD : va_D A (WM h g ca (u2 (u2 (u2 (u2 iv 12 19 n44) 12 20 n49) 12 21 n50) 12 22 n51) (u2 (u2 lv 12 17 n45) 12 18 n46) fa la) := (show va_D _ (WM h g ca (u2 (u2 (u2 (u2 iv 12 19 n44) 12 20 n49) 12 21 n50) 12 22 n51) (u2 (u2 lv 12 17 n45) 12 18 n46) fa la) from hD).weaken (fun _ _ _ h => hFc _ h)
            have xr48_0 : (n49 : Int32).toInt = ((-1) : Int32).toInt := xr48_0
            have xr48_1 : (n50 : Int32).toInt = ((-1) : Int32).toInt := xr48_1
            have xr48_2 : (n51 : Int32).toInt = ((-1) : Int32).toInt := xr48_2
            refine lv_iload hx hb dX12_tryCause_118 (lv_at hl 0 rfl) ?_
            refine lv_if_eq (tgt := 169) hx hb dX12_tryCause_120 (by decide) (fun c52 => ?_) (fun c52 => ?_)
            · skip
              have i_12_48 : 0 ≤ (iv 12 48).toInt ∧ (iv 12 48).toInt ≤ 72 := hI.1 12 48
              have hP9 : va_P (dC, dI) classes (WM h g ca (u2 (u2 (u2 (u2 (u2 iv 12 19 n44) 12 20 n49) 12 21 n50) 12 22 n51) 12 48 (iv 12 48)) (u2 (u2 lv 12 17 n45) 12 18 n46) (u2 fa 12 49 (fa 12 49)) la) H := hP
              have hD9 : va_D A (WM h g ca (u2 (u2 (u2 (u2 (u2 iv 12 19 n44) 12 20 n49) 12 21 n50) 12 22 n51) 12 48 (iv 12 48)) (u2 (u2 lv 12 17 n45) 12 18 n46) (u2 fa 12 49 (fa 12 49)) la) := hD
              exact W.vret hx hb hr (fun t ht9 hW => ⟨⟨((u2 (u2 (u2 (u2 (u2 iv 12 19 n44) 12 20 n49) 12 21 n50) 12 22 n51) 12 48 (iv 12 48)), (u2 (u2 lv 12 17 n45) 12 18 n46), (u2 fa 12 49 (fa 12 49)), la), rfl, ⟨(fa 12 49), n44, n49, n50, n51, (iv 12 48), n45, n46, (hI.1 12 48), (show (n49 : Int32).toInt = -1 from by omega), (show (n50 : Int32).toInt = -1 from by omega), (show (n51 : Int32).toInt = -1 from by omega), (show ((iv 12 48) : Int32).toInt ≤ (iv 12 48).toInt + 1 from by omega), (show ((((iv 12 48) : Int32).toInt = (iv 12 48).toInt + 1 ∧ AgR (cyP (fa 12 4) (fa 12 5) (fa 12 11) (fa 12 12) (a).toInt (iv 12 0).toInt 0) (cyP (fa 12 4) (fa 12 5) (fa 12 11) (fa 12 12) (a).toInt (iv 12 0).toInt 1) (owY (fa 12 9) (fa 12 10) (-1) (-1) (n).toInt) (fa 12 7) (fa 12 8) ((iv 12 3).toInt).toNat 1 b ∧ ((fa 12 49) ((iv 12 48).toInt).toNat).toInt = 100 + (n).toInt ∧ ∀ j : Nat, j ≠ ((iv 12 48).toInt).toNat → (fa 12 49) j = (fa 12 49) j) ∨ (((iv 12 48) : Int32).toInt = (iv 12 48).toInt ∧ ¬ AgR (cyP (fa 12 4) (fa 12 5) (fa 12 11) (fa 12 12) (a).toInt (iv 12 0).toInt 0) (cyP (fa 12 4) (fa 12 5) (fa 12 11) (fa 12 12) (a).toInt (iv 12 0).toInt 1) (owY (fa 12 9) (fa 12 10) (-1) (-1) (n).toInt) (fa 12 7) (fa 12 8) ((iv 12 3).toInt).toNat 1 b ∧ ∀ j : Nat, (fa 12 49) j = (fa 12 49) j)) from (by
                    have sc0 := xr1_7
                    have sr0 := xr1_8
                    have sd0 := xr1_5
                    have sw0 := xr1_6
                    rw [show (0 : Int32).toInt = 0 from by decide] at sc0 sd0 sw0
                    have sc1 := xr5_7
                    have sr1 := xr5_8
                    have sd1 := xr5_5
                    have sw1 := xr5_6
                    rw [show (1 : Int32).toInt = 1 from by decide] at sc1 sd1 sw1
                    have sc2 := xr13_7
                    have sr2 := xr13_8
                    have sd2 := xr13_5
                    have sw2 := xr13_6
                    rw [show (0 : Int32).toInt = 0 from by decide] at sc2 sd2 sw2
                    have sc3 := xr17_7
                    have sr3 := xr17_8
                    have sd3 := xr17_5
                    have sw3 := xr17_6
                    rw [show (1 : Int32).toInt = 1 from by decide] at sc3 sd3 sw3
                    rw [show (n10 : Int32).toInt = (-1) from by omega, show (n11 : Int32).toInt = (-1) from by omega, show (n12 : Int32).toInt = n.toInt from by omega] at sc2 sc3
                    have hn9 : ((iv 12 3).toInt).toNat ≤ 60 := by have q9 : 0 ≤ (iv 12 3).toInt ∧ (iv 12 3).toInt ≤ 60 := hI.1 12 3; omega
                    have hw9 : ∀ s : Nat, s < ((iv 12 3).toInt).toNat → ¬ owY (fa 12 9) (fa 12 10) (iv 12 20).toInt (iv 12 21).toInt (iv 12 22).toInt s := fun s _ z => by
                      have z1 : 0 ≤ (fa 12 9 s).toInt ∧ (fa 12 9 s).toInt ≤ 3 := hI.2 12 9 s
                      have z2 : 0 ≤ (fa 12 10 s).toInt ∧ (fa 12 10 s).toInt ≤ 7 := hI.2 12 10 s
                      unfold owY at z
                      omega
                    have hA9 := Ag_rf (W := owY (fa 12 9) (fa 12 10) (-1) (-1) n.toInt) (ra := fa 12 7) (dr := fa 12 8) (few := 1) (p := b) hn9 hw9 (sr0.trans sc0) (sr1.trans sc1) (sr2.trans sc2) (sr3.trans sc3) rfl
                    have hd9 := xr43_0
                    rw [show (n10 : Int32).toInt = (-1) from by omega, show (n11 : Int32).toInt = (-1) from by omega, show (n12 : Int32).toInt = n.toInt from by omega] at hd9
                    have hB9 : ¬ AgR (cyP (fa 12 4) (fa 12 5) (fa 12 11) (fa 12 12) a.toInt (iv 12 0).toInt 0) (cyP (fa 12 4) (fa 12 5) (fa 12 11) (fa 12 12) a.toInt (iv 12 0).toInt 1) (owY (fa 12 9) (fa 12 10) (-1) (-1) n.toInt) (fa 12 7) (fa 12 8) ((iv 12 3).toInt).toNat 1 b := fun z => by
                      have hC9 := hA9.mpr z
                      exact hC9.2.2.2 (hd9.resolve_right (fun q => by omega)).2.2.2
                    exact Or.inr ⟨by omega, hB9, fun j => rfl⟩)), rfl⟩, by rw [ht9]; exact hP9, hD9⟩, hS.F ht9⟩) hS.2.2 dX12_tryCause_169
            · exact absurd rfl c52
          · have fc47 := z_eq (rfl : (r43).toInt = _) (by decide : (0 : Int32).toInt = 0) c47
            refine lv_iconst (v := 1) hx hb dX12_tryCause_104 (by decide) ?_
            refine lv_goto (tgt := 109) hx hb dX12_tryCause_105 (by decide) ?_
            refine lv_istore (lv' := [(11, .int 1), (10, .int v23), (9, .int r17), (8, .int r13), (7, .int r5), (6, .int r1), (0, .ref h), (1, .int a), (2, .int b), (3, .int (-1)), (4, .int (-1)), (5, .int n)]) hx hb dX12_tryCause_109 hl (by decide) rfl (fun ls hl => ?_)
            refine lv_aload_n hx hb dX12_tryCause_111 rfl (lv_at hl 6 rfl) ?_
            refine lv_iconst (v := (-1)) hx hb dX12_tryCause_112 (by decide) ?_
            refine lv_iconst (v := (-1)) hx hb dX12_tryCause_113 (by decide) ?_
            refine lv_iconst (v := (-1)) hx hb dX12_tryCause_114 (by decide) ?_
            have hFc := free_all hD hS hA
            refine va_callv (va_runV (As := [.int (-1), .int (-1), .int (-1)]) (rest := []) ⟨hx, hb, hml, hown, ht⟩ (c_X12_leaveOut_x l dC dI H.size h g ca (u2 (u2 (u2 (u2 iv 12 19 n44) 12 20 n10) 12 21 n11) 12 22 n12) (u2 (u2 lv 12 17 n45) 12 18 n46) fa la (IX_i (c := 12) (k := 22) (IX_i (c := 12) (k := 21) (IX_i (c := 12) (k := 20) (IX_i (c := 12) (k := 19) hI (full_i _)) (full_i _)) (full_i _)) (full_i _)) (-1) (-1) (-1)) (kV 3 ht m_1590 m_1592 m_67 m_89 m_1593 rfl rfl hd_X12_leaveOut_v ⟨Nat.le_of_ble_eq_true rfl, Nat.le_of_ble_eq_true rfl⟩) (vW hP hK hD (rM_12 hK hP)) rfl rfl hl.1 rfl (lv_room (Nat.le_of_ble_eq_true rfl)) dX12_tryCause_115 ⟨Nat.le_of_ble_eq_true rfl, Nat.le_of_ble_eq_true rfl⟩) hS (fun q _ h => hFc q h) hFc (fun u t H1 locs ht9 hvm hr53 hB hz1 hk1 hS => ?_)
            obtain ⟨n54, n55, n56, xr53_0, xr53_1, xr53_2, rfl⟩ := hr53
            obtain ⟨hP, hD⟩ := hB
            rw [ht9] at hP
            generalize H1 = H at hP hS ⊢
            have hP : va_P (dC, dI) classes (WM h g ca (u2 (u2 (u2 (u2 iv 12 19 n44) 12 20 n54) 12 21 n55) 12 22 n56) (u2 (u2 lv 12 17 n45) 12 18 n46) fa la) H := hP
            have hD : va_D A (WM h g ca (u2 (u2 (u2 (u2 iv 12 19 n44) 12 20 n54) 12 21 n55) 12 22 n56) (u2 (u2 lv 12 17 n45) 12 18 n46) fa la) := (show va_D _ (WM h g ca (u2 (u2 (u2 (u2 iv 12 19 n44) 12 20 n54) 12 21 n55) 12 22 n56) (u2 (u2 lv 12 17 n45) 12 18 n46) fa la) from hD).weaken (fun _ _ _ h => hFc _ h)
            have xr53_0 : (n54 : Int32).toInt = ((-1) : Int32).toInt := xr53_0
            have xr53_1 : (n55 : Int32).toInt = ((-1) : Int32).toInt := xr53_1
            have xr53_2 : (n56 : Int32).toInt = ((-1) : Int32).toInt := xr53_2
            refine lv_iload hx hb dX12_tryCause_118 (lv_at hl 0 rfl) ?_
            refine lv_if_eq (tgt := 169) hx hb dX12_tryCause_120 (by decide) (fun c57 => ?_) (fun c57 => ?_)
            · exact absurd c57 (by decide)
            · skip
              refine lv_aload_n hx hb dX12_tryCause_123 rfl (lv_at hl 6 rfl) ?_
              refine gM_12_49 hx hb ht hown hK hP m_1188 dX12_tryCause_124 ?_
              refine lv_aload_n hx hb dX12_tryCause_127 rfl (lv_at hl 6 rfl) ?_
              have i_12_48 : 0 ≤ (iv 12 48).toInt ∧ (iv 12 48).toInt ≤ 72 := hI.1 12 48
              refine gM_12_48 hx hb ht hown hK hP m_1187 (v := (iv 12 48)) rfl dX12_tryCause_128 ?_
              refine lv_iload hx hb dX12_tryCause_131 (lv_at hl 11 rfl) ?_
              refine lv_if_lt (tgt := 144) hx hb dX12_tryCause_133 (by decide) (fun c58 => ?_) (fun c58 => ?_)
              · have fc58 := z_lt (rfl : (n).toInt = _) (by decide : (0 : Int32).toInt = 0) c58; exfalso; omega
              · skip
                refine lv_bipush (v := 100) hx hb dX12_tryCause_136 (by decide) ?_
                refine lv_iload hx hb dX12_tryCause_138 (lv_at hl 11 rfl) ?_
                refine lv_iadd hx hb dX12_tryCause_140 ?_
                refine lv_topi (fun v59 ev59 => ?_)
                have tv59 := z_add ev59 (by decide : (100 : Int32).toInt = 100) (rfl : (n).toInt = _) (by omega) (by omega)
                refine lv_goto (tgt := 158) hx hb dX12_tryCause_141 (by decide) ?_
                refine tM_12_49 hx hb hK hP hD hS (f0 := (fa 12 49)) rfl (i := (iv 12 48)) (x := v59) (vp_in_iff.mpr ⟨by omega, by omega⟩) dX12_tryCause_158 (fun f60 ef60 H locs hP hD hS => ?_)
                have hf60 : ∀ j, inb (bA 12 49 j) (f60 j) := fun j => full_i _
                refine lv_aload_n hx hb dX12_tryCause_159 rfl (lv_at hl 6 rfl) ?_
                refine lv_dup hx hb dX12_tryCause_160 rfl ?_
                refine gM_12_48 hx hb ht hown hK hP m_1187 (v := (iv 12 48)) rfl dX12_tryCause_161 ?_
                refine lv_iconst (v := 1) hx hb dX12_tryCause_164 (by decide) ?_
                refine lv_iadd hx hb dX12_tryCause_165 ?_
                refine lv_topi (fun v61 ev61 => ?_)
                have tv61 := z_add ev61 (rfl : ((iv 12 48)).toInt = _) (by decide : (1 : Int32).toInt = 1) (by omega) (by omega)
                refine pM_12_48 (v := v61) hx hb ht hown hK hP hD hS m_1187 dX12_tryCause_166 (fun H locs hP hD hS => ?_)
                have hP9 : va_P (dC, dI) classes (WM h g ca (u2 (u2 (u2 (u2 (u2 iv 12 19 n44) 12 20 n54) 12 21 n55) 12 22 n56) 12 48 v61) (u2 (u2 lv 12 17 n45) 12 18 n46) (u2 fa 12 49 f60) la) H := hP
                have hD9 : va_D A (WM h g ca (u2 (u2 (u2 (u2 (u2 iv 12 19 n44) 12 20 n54) 12 21 n55) 12 22 n56) 12 48 v61) (u2 (u2 lv 12 17 n45) 12 18 n46) (u2 fa 12 49 f60) la) := hD
                exact W.vret hx hb hr (fun t ht9 hW => ⟨⟨((u2 (u2 (u2 (u2 (u2 iv 12 19 n44) 12 20 n54) 12 21 n55) 12 22 n56) 12 48 v61), (u2 (u2 lv 12 17 n45) 12 18 n46), (u2 fa 12 49 f60), la), rfl, ⟨f60, n44, n54, n55, n56, v61, n45, n46, (show inb (0, 72) v61 from ⟨by omega, by omega⟩), (show (n54 : Int32).toInt = -1 from by omega), (show (n55 : Int32).toInt = -1 from by omega), (show (n56 : Int32).toInt = -1 from by omega), (show (v61 : Int32).toInt ≤ (iv 12 48).toInt + 1 from by omega), (show (((v61 : Int32).toInt = (iv 12 48).toInt + 1 ∧ AgR (cyP (fa 12 4) (fa 12 5) (fa 12 11) (fa 12 12) (a).toInt (iv 12 0).toInt 0) (cyP (fa 12 4) (fa 12 5) (fa 12 11) (fa 12 12) (a).toInt (iv 12 0).toInt 1) (owY (fa 12 9) (fa 12 10) (-1) (-1) (n).toInt) (fa 12 7) (fa 12 8) ((iv 12 3).toInt).toNat 1 b ∧ (f60 ((iv 12 48).toInt).toNat).toInt = 100 + (n).toInt ∧ ∀ j : Nat, j ≠ ((iv 12 48).toInt).toNat → f60 j = (fa 12 49) j) ∨ ((v61 : Int32).toInt = (iv 12 48).toInt ∧ ¬ AgR (cyP (fa 12 4) (fa 12 5) (fa 12 11) (fa 12 12) (a).toInt (iv 12 0).toInt 0) (cyP (fa 12 4) (fa 12 5) (fa 12 11) (fa 12 12) (a).toInt (iv 12 0).toInt 1) (owY (fa 12 9) (fa 12 10) (-1) (-1) (n).toInt) (fa 12 7) (fa 12 8) ((iv 12 3).toInt).toNat 1 b ∧ ∀ j : Nat, f60 j = (fa 12 49) j)) from (by
                      have sc0 := xr1_7
                      have sr0 := xr1_8
                      have sd0 := xr1_5
                      have sw0 := xr1_6
                      rw [show (0 : Int32).toInt = 0 from by decide] at sc0 sd0 sw0
                      have sc1 := xr5_7
                      have sr1 := xr5_8
                      have sd1 := xr5_5
                      have sw1 := xr5_6
                      rw [show (1 : Int32).toInt = 1 from by decide] at sc1 sd1 sw1
                      have sc2 := xr13_7
                      have sr2 := xr13_8
                      have sd2 := xr13_5
                      have sw2 := xr13_6
                      rw [show (0 : Int32).toInt = 0 from by decide] at sc2 sd2 sw2
                      have sc3 := xr17_7
                      have sr3 := xr17_8
                      have sd3 := xr17_5
                      have sw3 := xr17_6
                      rw [show (1 : Int32).toInt = 1 from by decide] at sc3 sd3 sw3
                      rw [show (n10 : Int32).toInt = (-1) from by omega, show (n11 : Int32).toInt = (-1) from by omega, show (n12 : Int32).toInt = n.toInt from by omega] at sc2 sc3
                      have hn9 : ((iv 12 3).toInt).toNat ≤ 60 := by have q9 : 0 ≤ (iv 12 3).toInt ∧ (iv 12 3).toInt ≤ 60 := hI.1 12 3; omega
                      have hw9 : ∀ s : Nat, s < ((iv 12 3).toInt).toNat → ¬ owY (fa 12 9) (fa 12 10) (iv 12 20).toInt (iv 12 21).toInt (iv 12 22).toInt s := fun s _ z => by
                        have z1 : 0 ≤ (fa 12 9 s).toInt ∧ (fa 12 9 s).toInt ≤ 3 := hI.2 12 9 s
                        have z2 : 0 ≤ (fa 12 10 s).toInt ∧ (fa 12 10 s).toInt ≤ 7 := hI.2 12 10 s
                        unfold owY at z
                        omega
                      have hA9 := Ag_rf (W := owY (fa 12 9) (fa 12 10) (-1) (-1) n.toInt) (ra := fa 12 7) (dr := fa 12 8) (few := 1) (p := b) hn9 hw9 (sr0.trans sc0) (sr1.trans sc1) (sr2.trans sc2) (sr3.trans sc3) rfl
                      have hd9 := xr43_0
                      rw [show (n10 : Int32).toInt = (-1) from by omega, show (n11 : Int32).toInt = (-1) from by omega, show (n12 : Int32).toInt = n.toInt from by omega] at hd9
                      have hB9 : AgR (cyP (fa 12 4) (fa 12 5) (fa 12 11) (fa 12 12) a.toInt (iv 12 0).toInt 0) (cyP (fa 12 4) (fa 12 5) (fa 12 11) (fa 12 12) a.toInt (iv 12 0).toInt 1) (owY (fa 12 9) (fa 12 10) (-1) (-1) n.toInt) (fa 12 7) (fa 12 8) ((iv 12 3).toInt).toNat 1 b := hA9.mp ⟨by omega, by omega, by omega, fun q => (hd9.resolve_left (fun z => by omega)).2 ⟨by omega, by omega, q⟩⟩
                      have hx9 : f60 (((iv 12 48) : Int32).toInt).toNat = v59 := by rw [ef60]; exact upd_eq
                      exact Or.inl ⟨by omega, hB9, (show (f60 (((iv 12 48) : Int32).toInt).toNat).toInt = 100 + n.toInt from (congrArg Int32.toInt hx9).trans (by omega)), fun j hj => by rw [ef60, upd_ne (show j ≠ ((iv 12 48) : Int32).toNatClampNeg from hj)]⟩)), rfl⟩, by rw [ht9]; exact hP9, hD9⟩, hS.F ht9⟩) hS.2.2 dX12_tryCause_169
      · have fc36 := z_nle (by decide : (0 : Int32).toInt = 0) (rfl : (n).toInt = _) c36; exfalso; omega
