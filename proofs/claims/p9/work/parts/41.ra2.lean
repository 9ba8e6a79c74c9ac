/-! ===== ra2 ===== -/
set_option maxHeartbeats 4000000 in
set_option maxRecDepth 100000 in
/-- X12_ratio -/
theorem c_X12_ratio_t (l : Launch) (dC : Nat → ClassId) (dI : Nat → Nat → Nat) (sz : Nat) (h : Nat) (g : Nat → Nat → Nat) (ca : Nat → Nat → ClassId) (iv : Nat → Nat → Int32) (lv : Nat → Nat → Int64) (fa : Nat → Nat → Nat → Int32) (la : Nat → Nat → Nat → Int64) (hI : IX iv fa) (a : Int32) (b : Int32) (d : Int32) (hJR : JRf (iv 12 3).toInt (fa 12 7)) (hJO : (iv 12 20).toInt = -1 ∧ (iv 12 21).toInt = -1 ∧ (iv 12 22).toInt = -1) (hJD : ∀ s : Nat, (s : Int) < (iv 12 3).toInt → (100 ≤ (fa 12 7 s).toInt ∧ (fa 12 7 s).toInt ≤ 9999) ∧ (50 ≤ (fa 12 8 s).toInt ∧ (fa 12 8 s).toInt ≤ 9999)) : Met l yX12_ratio (wc yX12_ratio cX12_ratio 7 (some .int)) ({ frames := 2, cells := 0, slots := 0, locals := 50 } : Room) (pW (dC, dI) classes (WM h g ca iv lv fa la) (TM ca) sz [.ref h, .int a, .int b, .int d]) (va_Qi (fun r (u : SS) => ∃ (ni_12_19 : Int32) (nl_12_17 : Int64) (nl_12_18 : Int64), (((r.toInt = -100001 ∧ ¬ (0 ≤ a.toInt ∧ a.toInt < (iv 12 1).toInt)) ∨ (r.toInt = -100002 ∧ (0 ≤ a.toInt ∧ a.toInt < (iv 12 1).toInt) ∧ ¬ (0 ≤ b.toInt ∧ b.toInt ≤ 2 ∧ 0 ≤ d.toInt ∧ d.toInt ≤ 2)) ∨ ((0 ≤ a.toInt ∧ a.toInt < (iv 12 1).toInt) ∧ (0 ≤ b.toInt ∧ b.toInt ≤ 2 ∧ 0 ≤ d.toInt ∧ d.toInt ≤ 2) ∧ r.toInt = raF (smL (fun s : Nat => ((fa 12 4) s).toInt = a.toInt ∧ ((fa 12 5) s).toInt = b.toInt ∧ ((fa 12 11) s).toInt ≤ (iv 12 0).toInt ∧ (((fa 12 12) s).toInt < 0 ∨ (iv 12 0).toInt < ((fa 12 12) s).toInt)) (fa 12 8) ((iv 12 3).toInt).toNat).toInt (smL (fun s : Nat => ((fa 12 4) s).toInt = a.toInt ∧ ((fa 12 5) s).toInt = b.toInt ∧ ((fa 12 11) s).toInt ≤ (iv 12 0).toInt ∧ (((fa 12 12) s).toInt < 0 ∨ (iv 12 0).toInt < ((fa 12 12) s).toInt)) (fa 12 7) ((iv 12 3).toInt).toNat).toInt (smC (fun s : Nat => ((fa 12 4) s).toInt = a.toInt ∧ ((fa 12 5) s).toInt = b.toInt ∧ ((fa 12 11) s).toInt ≤ (iv 12 0).toInt ∧ (((fa 12 12) s).toInt < 0 ∨ (iv 12 0).toInt < ((fa 12 12) s).toInt)) ((iv 12 3).toInt).toNat).toInt d.toInt))) ∧ (True) ∧ u = ((u2 iv 12 19 ni_12_19), (u2 (u2 lv 12 17 nl_12_17) 12 18 nl_12_18), fa, la)) (bM (dC, dI) h g ca (va_A (WM h g ca iv lv fa la) sz)) (va_A (WM h g ca iv lv fa la) sz)) 0 0 (va_A (WM h g ca iv lv fa la) sz) := by
  refine Met.ofW (cc := cX12_ratio) (maxL := 7) (ret := (some .int)) (by decide) rfl ?_
  intro p e s m args below meth c s₁ B hml hv
  obtain ⟨rfl, hsz, hP, hK, hD0⟩ := hv
  have hx := B.exec
  have hb := B.bytes
  have hr := B.returns
  have ht := tb_tl (atoms_spec (ws := wc yX12_ratio cX12_ratio 7 (some .int)) B.pre)
  have hown : s.vm.findClass RX12 = some m.cls := findClass_of_methodNamed B.named
  have hlocks := B.notSynchronized
  subst hsz
  have hD := hD0.self (sz := s.heap.size)
  generalize hAe : va_A (WM h g ca iv lv fa la) s.heap.size = A at hD ⊢
  have hA : ∀ q : Nat, s.heap.size ≤ q → A q := fun q h => by rw [← hAe]; exact Or.inr h
  have hS : va_S A s.heap s.heap [] := va_S.rf
  have hl := lv_entry [.ref h, .int a, .int b, .int d] (n := 7) (Nat.le_of_ble_eq_true rfl)
  rw [lg_entry_eq]
  generalize (lg_sl [.ref h, .int a, .int b, .int d] ++ List.replicate (7 - (lg_sl [.ref h, .int a, .int b, .int d]).length) Slot.unset).toArray = ls at hl ⊢
  have hl : lv_has ls 7 [(0, .ref h), (1, .int a), (2, .int b), (3, .int d)] := hl
  refine lv_aload_n hx hb dX12_ratio_0 rfl (lv_at hl 0 rfl) ?_
  refine lv_iload_n hx hb dX12_ratio_1 rfl (lv_at hl 1 rfl) ?_
  refine vp_callSi (W.runV (As := [.int a]) (rest := []) ⟨hx, hb, hml, hown, ht⟩ (c_X12_noBale l dC dI h g ca iv lv fa la hI a) (kV 1 ht m_1385 m_1387 m_42 m_89 m_1388 rfl rfl hd_X12_noBale_v ⟨Nat.le_of_ble_eq_true rfl, Nat.le_of_ble_eq_true rfl⟩) (vR hP hK (rM_12 hK hP)) rfl rfl hl.1 rfl (lv_room (Nat.le_of_ble_eq_true rfl)) dX12_ratio_2 ⟨Nat.le_of_ble_eq_true rfl, Nat.le_of_ble_eq_true rfl⟩) (fun r1 hr1 => ?_)
  rcases hr1 with ⟨rfl, fr1⟩ | ⟨rfl, fr1⟩
  · skip
    have i_12_1 : 0 ≤ (iv 12 1).toInt ∧ (iv 12 1).toInt ≤ 10 := hI.1 12 1
    have fr1 : ¬ (0 ≤ (a : Int32).toInt ∧ (a : Int32).toInt < ((iv 12 1) : Int32).toInt) := fr1
    refine lv_if_eq (tgt := 11) hx hb dX12_ratio_5 (by decide) (fun c2 => ?_) (fun c2 => ?_)
    · exact absurd c2 (by decide)
    · skip
      refine lv_ldc hx hb hown (ht _ m_1389) dX12_ratio_8 ?_
      have : ((-100001) : Int32).toInt = (-100001) := (by decide)
      have hP9 : va_P (dC, dI) classes (WM h g ca (u2 iv 12 19 (iv 12 19)) (u2 (u2 lv 12 17 (lv 12 17)) 12 18 (lv 12 18)) fa la) s.heap := hP
      have hD9 : va_D A (WM h g ca (u2 iv 12 19 (iv 12 19)) (u2 (u2 lv 12 17 (lv 12 17)) 12 18 (lv 12 18)) fa la) := hD
      exact W.iret (v := (-100001)) hx hb hr (fun t ht9 hW => ⟨⟨(-100001), ((u2 iv 12 19 (iv 12 19)), (u2 (u2 lv 12 17 (lv 12 17)) 12 18 (lv 12 18)), fa, la), rfl, ⟨(iv 12 19), (lv 12 17), (lv 12 18), (show ((((-100001) : Int32).toInt = -100001 ∧ ¬ (0 ≤ (a).toInt ∧ (a).toInt < (iv 12 1).toInt)) ∨ (((-100001) : Int32).toInt = -100002 ∧ (0 ≤ (a).toInt ∧ (a).toInt < (iv 12 1).toInt) ∧ ¬ (0 ≤ (b).toInt ∧ (b).toInt ≤ 2 ∧ 0 ≤ (d).toInt ∧ (d).toInt ≤ 2)) ∨ ((0 ≤ (a).toInt ∧ (a).toInt < (iv 12 1).toInt) ∧ (0 ≤ (b).toInt ∧ (b).toInt ≤ 2 ∧ 0 ≤ (d).toInt ∧ (d).toInt ≤ 2) ∧ ((-100001) : Int32).toInt = raF (smL (fun s : Nat => ((fa 12 4) s).toInt = (a).toInt ∧ ((fa 12 5) s).toInt = (b).toInt ∧ ((fa 12 11) s).toInt ≤ (iv 12 0).toInt ∧ (((fa 12 12) s).toInt < 0 ∨ (iv 12 0).toInt < ((fa 12 12) s).toInt)) (fa 12 8) ((iv 12 3).toInt).toNat).toInt (smL (fun s : Nat => ((fa 12 4) s).toInt = (a).toInt ∧ ((fa 12 5) s).toInt = (b).toInt ∧ ((fa 12 11) s).toInt ≤ (iv 12 0).toInt ∧ (((fa 12 12) s).toInt < 0 ∨ (iv 12 0).toInt < ((fa 12 12) s).toInt)) (fa 12 7) ((iv 12 3).toInt).toNat).toInt (smC (fun s : Nat => ((fa 12 4) s).toInt = (a).toInt ∧ ((fa 12 5) s).toInt = (b).toInt ∧ ((fa 12 11) s).toInt ≤ (iv 12 0).toInt ∧ (((fa 12 12) s).toInt < 0 ∨ (iv 12 0).toInt < ((fa 12 12) s).toInt)) ((iv 12 3).toInt).toNat).toInt (d).toInt)) from Or.inl ⟨by omega, by omega⟩), trivial, rfl⟩, by rw [ht9]; exact hP9, hD9⟩, hS.F ht9⟩) hS.2.2 dX12_ratio_10
  · skip
    have i_12_1 : 0 ≤ (iv 12 1).toInt ∧ (iv 12 1).toInt ≤ 10 := hI.1 12 1
    have fr1 : (0 ≤ (a : Int32).toInt ∧ (a : Int32).toInt < ((iv 12 1) : Int32).toInt) := Decidable.not_not.mp fr1
    refine lv_if_eq (tgt := 11) hx hb dX12_ratio_5 (by decide) (fun c3 => ?_) (fun c3 => ?_)
    · skip
      refine lv_iload_n hx hb dX12_ratio_11 rfl (lv_at hl 2 rfl) ?_
      refine lv_i2l (v := (b.toInt64)) hx hb dX12_ratio_12 rfl ?_
      refine lv_lconst (v := 0) hx hb dX12_ratio_13 (by decide) ?_
      refine lv_ldc2 hx hb hown (ht _ m_1390) dX12_ratio_14 ?_
      refine vp_callSi (W.runS (As := [.long (b.toInt64), .long 0, .long 2]) (rest := []) ⟨hx, hb, hml, hown, ht⟩ (c_X12_in l dC dI (b.toInt64) 0 2 (b.toInt) (0) (2) ((Int32.toInt_toInt64 b).trans rfl) (by decide : (0 : Int64).toInt = 0) (by decide : (2 : Int64).toInt = 2)) (kS 3 ht m_1370 m_1371 m_89 m_1372 rfl rfl hd_X12_in_v ⟨Nat.le_of_ble_eq_true rfl, Nat.le_of_ble_eq_true rfl⟩) (sR noP (hK.sub (tys' := []) [] rfl)) rfl rfl hl.1 rfl (lv_room (Nat.le_of_ble_eq_true rfl)) dX12_ratio_17 ⟨Nat.le_of_ble_eq_true rfl, Nat.le_of_ble_eq_true rfl⟩) (fun r4 hr4 => ?_)
      rcases hr4 with ⟨rfl, fr4⟩ | ⟨rfl, fr4⟩
      · skip
        refine lv_if_eq (tgt := 35) hx hb dX12_ratio_20 (by decide) (fun c5 => ?_) (fun c5 => ?_)
        · exact absurd c5 (by decide)
        · skip
          refine lv_iload_n hx hb dX12_ratio_23 rfl (lv_at hl 3 rfl) ?_
          refine lv_i2l (v := (d.toInt64)) hx hb dX12_ratio_24 rfl ?_
          refine lv_lconst (v := 0) hx hb dX12_ratio_25 (by decide) ?_
          refine lv_ldc2 hx hb hown (ht _ m_1390) dX12_ratio_26 ?_
          refine vp_callSi (W.runS (As := [.long (d.toInt64), .long 0, .long 2]) (rest := []) ⟨hx, hb, hml, hown, ht⟩ (c_X12_in l dC dI (d.toInt64) 0 2 (d.toInt) (0) (2) ((Int32.toInt_toInt64 d).trans rfl) (by decide : (0 : Int64).toInt = 0) (by decide : (2 : Int64).toInt = 2)) (kS 3 ht m_1370 m_1371 m_89 m_1372 rfl rfl hd_X12_in_v ⟨Nat.le_of_ble_eq_true rfl, Nat.le_of_ble_eq_true rfl⟩) (sR noP (hK.sub (tys' := []) [] rfl)) rfl rfl hl.1 rfl (lv_room (Nat.le_of_ble_eq_true rfl)) dX12_ratio_29 ⟨Nat.le_of_ble_eq_true rfl, Nat.le_of_ble_eq_true rfl⟩) (fun r6 hr6 => ?_)
          rcases hr6 with ⟨rfl, fr6⟩ | ⟨rfl, fr6⟩
          · skip
            refine lv_if_ne (tgt := 38) hx hb dX12_ratio_32 (by decide) (fun c7 => ?_) (fun c7 => ?_)
            · skip
              refine lv_aload_n hx hb dX12_ratio_38 rfl (lv_at hl 0 rfl) ?_
              refine lv_iload_n hx hb dX12_ratio_39 rfl (lv_at hl 1 rfl) ?_
              refine lv_iload_n hx hb dX12_ratio_40 rfl (lv_at hl 2 rfl) ?_
              refine lv_aload_n hx hb dX12_ratio_41 rfl (lv_at hl 0 rfl) ?_
              have i_12_0 : 0 ≤ (iv 12 0).toInt ∧ (iv 12 0).toInt ≤ 3000 := hI.1 12 0
              refine gM_12_0 hx hb ht hown hK hP m_1139 (v := (iv 12 0)) rfl dX12_ratio_42 ?_
              have : (-1) ≤ ((iv 12 20) : Int32).toInt ∧ ((iv 12 20) : Int32).toInt ≤ (-1) := ⟨by omega, by omega⟩
              have : (-1) ≤ ((iv 12 21) : Int32).toInt ∧ ((iv 12 21) : Int32).toInt ≤ (-1) := ⟨by omega, by omega⟩
              have : (-1) ≤ ((iv 12 22) : Int32).toInt ∧ ((iv 12 22) : Int32).toInt ≤ (-1) := ⟨by omega, by omega⟩
              have hFc := free_all hD hS hA
              refine va_calli (va_runV (As := [.int a, .int b, .int (iv 12 0)]) (rest := []) ⟨hx, hb, hml, hown, ht⟩ (c_X12_sumUp_s l dC dI s.heap.size h g ca iv lv fa la hI a b (iv 12 0) (show (-1) ≤ ((iv 12 20) : Int32).toInt ∧ ((iv 12 20) : Int32).toInt ≤ (-1) from ⟨by omega, by omega⟩) (show (-1) ≤ ((iv 12 21) : Int32).toInt ∧ ((iv 12 21) : Int32).toInt ≤ (-1) from ⟨by omega, by omega⟩) (show (-1) ≤ ((iv 12 22) : Int32).toInt ∧ ((iv 12 22) : Int32).toInt ≤ (-1) from ⟨by omega, by omega⟩) hJR) (kV 3 ht m_1434 m_1436 m_45 m_89 m_1437 rfl rfl hd_X12_sumUp_v ⟨Nat.le_of_ble_eq_true rfl, Nat.le_of_ble_eq_true rfl⟩) (vW hP hK hD (rM_12 hK hP)) rfl rfl hl.1 rfl (lv_room (Nat.le_of_ble_eq_true rfl)) dX12_ratio_45 ⟨Nat.le_of_ble_eq_true rfl, Nat.le_of_ble_eq_true rfl⟩) hS (fun q _ h => hFc q h) hFc (fun r8 u t H1 locs ht9 hvm hr8 hB hz1 hk1 hS => ?_)
              obtain ⟨n9, n10, n11, xr8_0, xr8_1, xr8_2, xr8_3, xr8_4, xr8_5, xr8_6, xr8_7, xr8_8, hr8, rfl⟩ := hr8
              obtain ⟨hP, hD⟩ := hB
              rw [ht9] at hP
              generalize H1 = H at hP hS ⊢
              have hP : va_P (dC, dI) classes (WM h g ca (u2 iv 12 19 n9) (u2 (u2 lv 12 17 n10) 12 18 n11) fa la) H := hP
              have hD : va_D A (WM h g ca (u2 iv 12 19 n9) (u2 (u2 lv 12 17 n10) 12 18 n11) fa la) := (show va_D _ (WM h g ca (u2 iv 12 19 n9) (u2 (u2 lv 12 17 n10) 12 18 n11) fa la) from hD).weaken (fun _ _ _ h => hFc _ h)
              have xr8_0 : 0 ≤ (r8 : Int32).toInt := xr8_0
              have xr8_1 : (r8 : Int32).toInt ≤ 60 := xr8_1
              have xr8_2 : 0 ≤ (n11 : Int64).toInt := xr8_2
              have xr8_3 : (n11 : Int64).toInt ≤ 599940 := xr8_3
              have xr8_4 : 100 * (r8 : Int32).toInt ≤ (n11 : Int64).toInt := xr8_4
              have i_12_3 : 0 ≤ (iv 12 3).toInt ∧ (iv 12 3).toInt ≤ 60 := hI.1 12 3
              have xr8_5 : (n10 : Int64).toInt = (smL (fun s : Nat => ((fa 12 4) s).toInt = (a : Int32).toInt ∧ ((fa 12 5) s).toInt = (b : Int32).toInt ∧ ((fa 12 11) s).toInt ≤ ((iv 12 0) : Int32).toInt ∧ (((fa 12 12) s).toInt < 0 ∨ ((iv 12 0) : Int32).toInt < ((fa 12 12) s).toInt)) (fa 12 8) (((iv 12 3) : Int32).toInt).toNat).toInt := xr8_5
              have xr8_6 : (n11 : Int64).toInt = (smL (fun s : Nat => ((fa 12 4) s).toInt = (a : Int32).toInt ∧ ((fa 12 5) s).toInt = (b : Int32).toInt ∧ ((fa 12 11) s).toInt ≤ ((iv 12 0) : Int32).toInt ∧ (((fa 12 12) s).toInt < 0 ∨ ((iv 12 0) : Int32).toInt < ((fa 12 12) s).toInt)) (fa 12 7) (((iv 12 3) : Int32).toInt).toNat).toInt := xr8_6
              have xr8_7 : (n9 : Int32).toInt = (smC (fun s : Nat => ((fa 12 4) s).toInt = (a : Int32).toInt ∧ ((fa 12 5) s).toInt = (b : Int32).toInt ∧ ((fa 12 11) s).toInt ≤ ((iv 12 0) : Int32).toInt ∧ (((fa 12 12) s).toInt < 0 ∨ ((iv 12 0) : Int32).toInt < ((fa 12 12) s).toInt)) (((iv 12 3) : Int32).toInt).toNat).toInt := xr8_7
              have xr8_8 : (r8 : Int32).toInt = (n9 : Int32).toInt := xr8_8
              have hb9 := smL_b (c := (fun s : Nat => ((fa 12 4) s).toInt = a.toInt ∧ ((fa 12 5) s).toInt = b.toInt ∧ ((fa 12 11) s).toInt ≤ (iv 12 0).toInt ∧ (((fa 12 12) s).toInt < 0 ∨ (iv 12 0).toInt < ((fa 12 12) s).toInt))) (w := fa 12 7) (lo := 100) (hi := 9999) (by decide) (by decide) (by decide) (iv 12 3).toInt.toNat (by omega) (fun j hj => (hJD j (by omega)).1)
              have hd9 := smL_b (c := (fun s : Nat => ((fa 12 4) s).toInt = a.toInt ∧ ((fa 12 5) s).toInt = b.toInt ∧ ((fa 12 11) s).toInt ≤ (iv 12 0).toInt ∧ (((fa 12 12) s).toInt < 0 ∨ (iv 12 0).toInt < ((fa 12 12) s).toInt))) (w := fa 12 8) (lo := 50) (hi := 9999) (by decide) (by decide) (by decide) (iv 12 3).toInt.toNat (by omega) (fun j hj => (hJD j (by omega)).2)
              refine lv_istore (lv' := [(4, .int r8), (0, .ref h), (1, .int a), (2, .int b), (3, .int d)]) hx hb dX12_ratio_48 hl (by decide) rfl (fun ls hl => ?_)
              refine lv_iload_n hx hb dX12_ratio_50 rfl (lv_at hl 4 rfl) ?_
              refine lv_iconst (v := 2) hx hb dX12_ratio_51 (by decide) ?_
              refine lv_icmp_ne (tgt := 58) hx hb dX12_ratio_52 (by decide) (fun c12 => ?_) (fun c12 => ?_)
              · have fc12 := z_ne (rfl : (d).toInt = _) (by decide : (2 : Int32).toInt = 2) c12
                refine lv_iload hx hb dX12_ratio_58 (lv_at hl 0 rfl) ?_
                refine lv_if_ne (tgt := 66) hx hb dX12_ratio_60 (by decide) (fun c13 => ?_) (fun c13 => ?_)
                · have fc13 := z_ne (rfl : (r8).toInt = _) (by decide : (0 : Int32).toInt = 0) c13
                  refine lv_aload_n hx hb dX12_ratio_66 rfl (lv_at hl 1 rfl) ?_
                  refine gM_12_17 hx hb ht hown hK hP m_1156 (v := n10) rfl dX12_ratio_67 ?_
                  refine lv_aload_n hx hb dX12_ratio_70 rfl (lv_at hl 1 rfl) ?_
                  refine gM_12_18 hx hb ht hown hK hP m_1157 (v := n11) rfl dX12_ratio_71 ?_
                  refine vp_callSl (W.runS (As := [.long n10, .long n11]) (rest := []) ⟨hx, hb, hml, hown, ht⟩ (c_X12_gcd_g l dC dI n10 n11 (show 0 ≤ (n10 : Int64).toInt from by omega) (show 0 ≤ (n11 : Int64).toInt from by omega)) (kS 2 ht m_1442 m_1443 m_89 m_1444 rfl rfl hd_X12_gcd_v ⟨Nat.le_of_ble_eq_true rfl, Nat.le_of_ble_eq_true rfl⟩) (sR noP (hK.sub (tys' := []) [] rfl)) rfl rfl hl.1 rfl (lv_room (Nat.le_of_ble_eq_true rfl)) dX12_ratio_74 ⟨Nat.le_of_ble_eq_true rfl, Nat.le_of_ble_eq_true rfl⟩) (fun r14 hr14 => ?_)
                  obtain ⟨hr14, xr14_0⟩ := hr14
                  have xr14_0 : (r14 : Int64).toInt = gN (n10 : Int64).toInt (n11 : Int64).toInt := xr14_0
                  refine lv_lstore (lv' := [(5, .long r14), (4, .int r8), (0, .ref h), (1, .int a), (2, .int b), (3, .int d)]) hx hb dX12_ratio_77 hl (by decide) rfl (fun ls hl => ?_)
                  have hp9 := gN_pos (x := (n10 : Int64).toInt) (y := (n11 : Int64).toInt) (by omega)
                  rw [← xr14_0] at hp9
                  refine lv_iload_n hx hb dX12_ratio_79 rfl (lv_at hl 5 rfl) ?_
                  refine lv_if_ne (tgt := 93) hx hb dX12_ratio_80 (by decide) (fun c15 => ?_) (fun c15 => ?_)
                  · have fc15 := z_ne (rfl : (d).toInt = _) (by decide : (0 : Int32).toInt = 0) c15
                    refine lv_aload_n hx hb dX12_ratio_93 rfl (lv_at hl 2 rfl) ?_
                    refine gM_12_18 hx hb ht hown hK hP m_1157 (v := n11) rfl dX12_ratio_94 ?_
                    refine lv_lload hx hb dX12_ratio_97 (lv_at hl 0 rfl) ?_
                    have zw16 : (r14 : Int64).toInt ≠ 0 := by omega
                    refine lv_ldiv hx hb dX12_ratio_99 (l_nz rfl zw16) ?_
                    refine lv_topl (fun w16 ew16 => ?_)
                    obtain ⟨v17, ev17⟩ : ∃ y : Int32, w16.toInt32 = y := ⟨_, rfl⟩
                    refine lv_l2i (v := v17) hx hb dX12_ratio_100 ev17 ?_
                    have hP9 : va_P (dC, dI) classes (WM h g ca (u2 iv 12 19 n9) (u2 (u2 lv 12 17 n10) 12 18 n11) fa la) H := hP
                    have hD9 : va_D A (WM h g ca (u2 iv 12 19 n9) (u2 (u2 lv 12 17 n10) 12 18 n11) fa la) := hD
                    exact W.iret (v := v17) hx hb hr (fun t ht9 hW => ⟨⟨v17, ((u2 iv 12 19 n9), (u2 (u2 lv 12 17 n10) 12 18 n11), fa, la), rfl, ⟨n9, n10, n11, (show (((v17 : Int32).toInt = -100001 ∧ ¬ (0 ≤ (a).toInt ∧ (a).toInt < (iv 12 1).toInt)) ∨ ((v17 : Int32).toInt = -100002 ∧ (0 ≤ (a).toInt ∧ (a).toInt < (iv 12 1).toInt) ∧ ¬ (0 ≤ (b).toInt ∧ (b).toInt ≤ 2 ∧ 0 ≤ (d).toInt ∧ (d).toInt ≤ 2)) ∨ ((0 ≤ (a).toInt ∧ (a).toInt < (iv 12 1).toInt) ∧ (0 ≤ (b).toInt ∧ (b).toInt ≤ 2 ∧ 0 ≤ (d).toInt ∧ (d).toInt ≤ 2) ∧ (v17 : Int32).toInt = raF (smL (fun s : Nat => ((fa 12 4) s).toInt = (a).toInt ∧ ((fa 12 5) s).toInt = (b).toInt ∧ ((fa 12 11) s).toInt ≤ (iv 12 0).toInt ∧ (((fa 12 12) s).toInt < 0 ∨ (iv 12 0).toInt < ((fa 12 12) s).toInt)) (fa 12 8) ((iv 12 3).toInt).toNat).toInt (smL (fun s : Nat => ((fa 12 4) s).toInt = (a).toInt ∧ ((fa 12 5) s).toInt = (b).toInt ∧ ((fa 12 11) s).toInt ≤ (iv 12 0).toInt ∧ (((fa 12 12) s).toInt < 0 ∨ (iv 12 0).toInt < ((fa 12 12) s).toInt)) (fa 12 7) ((iv 12 3).toInt).toNat).toInt (smC (fun s : Nat => ((fa 12 4) s).toInt = (a).toInt ∧ ((fa 12 5) s).toInt = (b).toInt ∧ ((fa 12 11) s).toInt ≤ (iv 12 0).toInt ∧ (((fa 12 12) s).toInt < 0 ∨ (iv 12 0).toInt < ((fa 12 12) s).toInt)) ((iv 12 3).toInt).toNat).toInt (d).toInt)) from Or.inr (Or.inr ⟨⟨by omega, by omega⟩, ⟨by omega, by omega, by omega, by omega⟩, (by have hm9 := l_divp ew16 (rfl : (n11 : Int64).toInt = _) xr14_0 (by omega) (by omega); have hi1 := div_in (x := (n11 : Int64).toInt) (y := gN (n10 : Int64).toInt (n11 : Int64).toInt) (by omega) (by omega); have hv9 := l2i_in ev17 hm9 (by omega) (by omega); unfold raF; rw [if_neg (by omega), if_neg (by omega), if_neg (by omega), ← xr8_5, ← xr8_6]; omega)⟩)), trivial, rfl⟩, by rw [ht9]; exact hP9, hD9⟩, hS.F ht9⟩) hS.2.2 dX12_ratio_101
                  · have fc15 := z_eq (rfl : (d).toInt = _) (by decide : (0 : Int32).toInt = 0) c15
                    refine lv_aload_n hx hb dX12_ratio_83 rfl (lv_at hl 2 rfl) ?_
                    refine gM_12_17 hx hb ht hown hK hP m_1156 (v := n10) rfl dX12_ratio_84 ?_
                    refine lv_lload hx hb dX12_ratio_87 (lv_at hl 0 rfl) ?_
                    have zw18 : (r14 : Int64).toInt ≠ 0 := by omega
                    refine lv_ldiv hx hb dX12_ratio_89 (l_nz rfl zw18) ?_
                    refine lv_topl (fun w18 ew18 => ?_)
                    refine lv_goto (tgt := 100) hx hb dX12_ratio_90 (by decide) ?_
                    obtain ⟨v19, ev19⟩ : ∃ y : Int32, w18.toInt32 = y := ⟨_, rfl⟩
                    refine lv_l2i (v := v19) hx hb dX12_ratio_100 ev19 ?_
                    have hP9 : va_P (dC, dI) classes (WM h g ca (u2 iv 12 19 n9) (u2 (u2 lv 12 17 n10) 12 18 n11) fa la) H := hP
                    have hD9 : va_D A (WM h g ca (u2 iv 12 19 n9) (u2 (u2 lv 12 17 n10) 12 18 n11) fa la) := hD
                    exact W.iret (v := v19) hx hb hr (fun t ht9 hW => ⟨⟨v19, ((u2 iv 12 19 n9), (u2 (u2 lv 12 17 n10) 12 18 n11), fa, la), rfl, ⟨n9, n10, n11, (show (((v19 : Int32).toInt = -100001 ∧ ¬ (0 ≤ (a).toInt ∧ (a).toInt < (iv 12 1).toInt)) ∨ ((v19 : Int32).toInt = -100002 ∧ (0 ≤ (a).toInt ∧ (a).toInt < (iv 12 1).toInt) ∧ ¬ (0 ≤ (b).toInt ∧ (b).toInt ≤ 2 ∧ 0 ≤ (d).toInt ∧ (d).toInt ≤ 2)) ∨ ((0 ≤ (a).toInt ∧ (a).toInt < (iv 12 1).toInt) ∧ (0 ≤ (b).toInt ∧ (b).toInt ≤ 2 ∧ 0 ≤ (d).toInt ∧ (d).toInt ≤ 2) ∧ (v19 : Int32).toInt = raF (smL (fun s : Nat => ((fa 12 4) s).toInt = (a).toInt ∧ ((fa 12 5) s).toInt = (b).toInt ∧ ((fa 12 11) s).toInt ≤ (iv 12 0).toInt ∧ (((fa 12 12) s).toInt < 0 ∨ (iv 12 0).toInt < ((fa 12 12) s).toInt)) (fa 12 8) ((iv 12 3).toInt).toNat).toInt (smL (fun s : Nat => ((fa 12 4) s).toInt = (a).toInt ∧ ((fa 12 5) s).toInt = (b).toInt ∧ ((fa 12 11) s).toInt ≤ (iv 12 0).toInt ∧ (((fa 12 12) s).toInt < 0 ∨ (iv 12 0).toInt < ((fa 12 12) s).toInt)) (fa 12 7) ((iv 12 3).toInt).toNat).toInt (smC (fun s : Nat => ((fa 12 4) s).toInt = (a).toInt ∧ ((fa 12 5) s).toInt = (b).toInt ∧ ((fa 12 11) s).toInt ≤ (iv 12 0).toInt ∧ (((fa 12 12) s).toInt < 0 ∨ (iv 12 0).toInt < ((fa 12 12) s).toInt)) ((iv 12 3).toInt).toNat).toInt (d).toInt)) from Or.inr (Or.inr ⟨⟨by omega, by omega⟩, ⟨by omega, by omega, by omega, by omega⟩, (by have hm9 := l_divp ew18 (rfl : (n10 : Int64).toInt = _) xr14_0 (by omega) (by omega); have hi1 := div_in (x := (n10 : Int64).toInt) (y := gN (n10 : Int64).toInt (n11 : Int64).toInt) (by omega) (by omega); have hv9 := l2i_in ev19 hm9 (by omega) (by omega); unfold raF; rw [if_neg (by omega), if_neg (by omega), if_pos (by omega), ← xr8_5, ← xr8_6]; omega)⟩)), trivial, rfl⟩, by rw [ht9]; exact hP9, hD9⟩, hS.F ht9⟩) hS.2.2 dX12_ratio_101
                · have fc13 := z_eq (rfl : (r8).toInt = _) (by decide : (0 : Int32).toInt = 0) c13
                  refine lv_ldc hx hb hown (ht _ m_1374) dX12_ratio_63 ?_
                  have : ((-100003) : Int32).toInt = (-100003) := (by decide)
                  have hP9 : va_P (dC, dI) classes (WM h g ca (u2 iv 12 19 n9) (u2 (u2 lv 12 17 n10) 12 18 n11) fa la) H := hP
                  have hD9 : va_D A (WM h g ca (u2 iv 12 19 n9) (u2 (u2 lv 12 17 n10) 12 18 n11) fa la) := hD
                  exact W.iret (v := (-100003)) hx hb hr (fun t ht9 hW => ⟨⟨(-100003), ((u2 iv 12 19 n9), (u2 (u2 lv 12 17 n10) 12 18 n11), fa, la), rfl, ⟨n9, n10, n11, (show ((((-100003) : Int32).toInt = -100001 ∧ ¬ (0 ≤ (a).toInt ∧ (a).toInt < (iv 12 1).toInt)) ∨ (((-100003) : Int32).toInt = -100002 ∧ (0 ≤ (a).toInt ∧ (a).toInt < (iv 12 1).toInt) ∧ ¬ (0 ≤ (b).toInt ∧ (b).toInt ≤ 2 ∧ 0 ≤ (d).toInt ∧ (d).toInt ≤ 2)) ∨ ((0 ≤ (a).toInt ∧ (a).toInt < (iv 12 1).toInt) ∧ (0 ≤ (b).toInt ∧ (b).toInt ≤ 2 ∧ 0 ≤ (d).toInt ∧ (d).toInt ≤ 2) ∧ ((-100003) : Int32).toInt = raF (smL (fun s : Nat => ((fa 12 4) s).toInt = (a).toInt ∧ ((fa 12 5) s).toInt = (b).toInt ∧ ((fa 12 11) s).toInt ≤ (iv 12 0).toInt ∧ (((fa 12 12) s).toInt < 0 ∨ (iv 12 0).toInt < ((fa 12 12) s).toInt)) (fa 12 8) ((iv 12 3).toInt).toNat).toInt (smL (fun s : Nat => ((fa 12 4) s).toInt = (a).toInt ∧ ((fa 12 5) s).toInt = (b).toInt ∧ ((fa 12 11) s).toInt ≤ (iv 12 0).toInt ∧ (((fa 12 12) s).toInt < 0 ∨ (iv 12 0).toInt < ((fa 12 12) s).toInt)) (fa 12 7) ((iv 12 3).toInt).toNat).toInt (smC (fun s : Nat => ((fa 12 4) s).toInt = (a).toInt ∧ ((fa 12 5) s).toInt = (b).toInt ∧ ((fa 12 11) s).toInt ≤ (iv 12 0).toInt ∧ (((fa 12 12) s).toInt < 0 ∨ (iv 12 0).toInt < ((fa 12 12) s).toInt)) ((iv 12 3).toInt).toNat).toInt (d).toInt)) from Or.inr (Or.inr ⟨⟨by omega, by omega⟩, ⟨by omega, by omega, by omega, by omega⟩, (by unfold raF; rw [if_neg (by omega), if_pos (by omega)]; omega)⟩)), trivial, rfl⟩, by rw [ht9]; exact hP9, hD9⟩, hS.F ht9⟩) hS.2.2 dX12_ratio_65
              · have fc12 := z_eq (rfl : (d).toInt = _) (by decide : (2 : Int32).toInt = 2) c12
                refine lv_iload hx hb dX12_ratio_55 (lv_at hl 0 rfl) ?_
                have hP9 : va_P (dC, dI) classes (WM h g ca (u2 iv 12 19 n9) (u2 (u2 lv 12 17 n10) 12 18 n11) fa la) H := hP
                have hD9 : va_D A (WM h g ca (u2 iv 12 19 n9) (u2 (u2 lv 12 17 n10) 12 18 n11) fa la) := hD
                exact W.iret (v := r8) hx hb hr (fun t ht9 hW => ⟨⟨r8, ((u2 iv 12 19 n9), (u2 (u2 lv 12 17 n10) 12 18 n11), fa, la), rfl, ⟨n9, n10, n11, (show (((r8 : Int32).toInt = -100001 ∧ ¬ (0 ≤ (a).toInt ∧ (a).toInt < (iv 12 1).toInt)) ∨ ((r8 : Int32).toInt = -100002 ∧ (0 ≤ (a).toInt ∧ (a).toInt < (iv 12 1).toInt) ∧ ¬ (0 ≤ (b).toInt ∧ (b).toInt ≤ 2 ∧ 0 ≤ (d).toInt ∧ (d).toInt ≤ 2)) ∨ ((0 ≤ (a).toInt ∧ (a).toInt < (iv 12 1).toInt) ∧ (0 ≤ (b).toInt ∧ (b).toInt ≤ 2 ∧ 0 ≤ (d).toInt ∧ (d).toInt ≤ 2) ∧ (r8 : Int32).toInt = raF (smL (fun s : Nat => ((fa 12 4) s).toInt = (a).toInt ∧ ((fa 12 5) s).toInt = (b).toInt ∧ ((fa 12 11) s).toInt ≤ (iv 12 0).toInt ∧ (((fa 12 12) s).toInt < 0 ∨ (iv 12 0).toInt < ((fa 12 12) s).toInt)) (fa 12 8) ((iv 12 3).toInt).toNat).toInt (smL (fun s : Nat => ((fa 12 4) s).toInt = (a).toInt ∧ ((fa 12 5) s).toInt = (b).toInt ∧ ((fa 12 11) s).toInt ≤ (iv 12 0).toInt ∧ (((fa 12 12) s).toInt < 0 ∨ (iv 12 0).toInt < ((fa 12 12) s).toInt)) (fa 12 7) ((iv 12 3).toInt).toNat).toInt (smC (fun s : Nat => ((fa 12 4) s).toInt = (a).toInt ∧ ((fa 12 5) s).toInt = (b).toInt ∧ ((fa 12 11) s).toInt ≤ (iv 12 0).toInt ∧ (((fa 12 12) s).toInt < 0 ∨ (iv 12 0).toInt < ((fa 12 12) s).toInt)) ((iv 12 3).toInt).toNat).toInt (d).toInt)) from Or.inr (Or.inr ⟨⟨by omega, by omega⟩, ⟨by omega, by omega, by omega, by omega⟩, (by unfold raF; rw [if_pos (by omega)]; omega)⟩)), trivial, rfl⟩, by rw [ht9]; exact hP9, hD9⟩, hS.F ht9⟩) hS.2.2 dX12_ratio_57
            · exact absurd c7 (by decide)
          · skip
            refine lv_if_ne (tgt := 38) hx hb dX12_ratio_32 (by decide) (fun c20 => ?_) (fun c20 => ?_)
            · exact absurd rfl c20
            · skip
              refine lv_ldc hx hb hown (ht _ m_1373) dX12_ratio_35 ?_
              have : ((-100002) : Int32).toInt = (-100002) := (by decide)
              have hP9 : va_P (dC, dI) classes (WM h g ca (u2 iv 12 19 (iv 12 19)) (u2 (u2 lv 12 17 (lv 12 17)) 12 18 (lv 12 18)) fa la) s.heap := hP
              have hD9 : va_D A (WM h g ca (u2 iv 12 19 (iv 12 19)) (u2 (u2 lv 12 17 (lv 12 17)) 12 18 (lv 12 18)) fa la) := hD
              exact W.iret (v := (-100002)) hx hb hr (fun t ht9 hW => ⟨⟨(-100002), ((u2 iv 12 19 (iv 12 19)), (u2 (u2 lv 12 17 (lv 12 17)) 12 18 (lv 12 18)), fa, la), rfl, ⟨(iv 12 19), (lv 12 17), (lv 12 18), (show ((((-100002) : Int32).toInt = -100001 ∧ ¬ (0 ≤ (a).toInt ∧ (a).toInt < (iv 12 1).toInt)) ∨ (((-100002) : Int32).toInt = -100002 ∧ (0 ≤ (a).toInt ∧ (a).toInt < (iv 12 1).toInt) ∧ ¬ (0 ≤ (b).toInt ∧ (b).toInt ≤ 2 ∧ 0 ≤ (d).toInt ∧ (d).toInt ≤ 2)) ∨ ((0 ≤ (a).toInt ∧ (a).toInt < (iv 12 1).toInt) ∧ (0 ≤ (b).toInt ∧ (b).toInt ≤ 2 ∧ 0 ≤ (d).toInt ∧ (d).toInt ≤ 2) ∧ ((-100002) : Int32).toInt = raF (smL (fun s : Nat => ((fa 12 4) s).toInt = (a).toInt ∧ ((fa 12 5) s).toInt = (b).toInt ∧ ((fa 12 11) s).toInt ≤ (iv 12 0).toInt ∧ (((fa 12 12) s).toInt < 0 ∨ (iv 12 0).toInt < ((fa 12 12) s).toInt)) (fa 12 8) ((iv 12 3).toInt).toNat).toInt (smL (fun s : Nat => ((fa 12 4) s).toInt = (a).toInt ∧ ((fa 12 5) s).toInt = (b).toInt ∧ ((fa 12 11) s).toInt ≤ (iv 12 0).toInt ∧ (((fa 12 12) s).toInt < 0 ∨ (iv 12 0).toInt < ((fa 12 12) s).toInt)) (fa 12 7) ((iv 12 3).toInt).toNat).toInt (smC (fun s : Nat => ((fa 12 4) s).toInt = (a).toInt ∧ ((fa 12 5) s).toInt = (b).toInt ∧ ((fa 12 11) s).toInt ≤ (iv 12 0).toInt ∧ (((fa 12 12) s).toInt < 0 ∨ (iv 12 0).toInt < ((fa 12 12) s).toInt)) ((iv 12 3).toInt).toNat).toInt (d).toInt)) from Or.inr (Or.inl ⟨by omega, ⟨by omega, by omega⟩, by omega⟩)), trivial, rfl⟩, by rw [ht9]; exact hP9, hD9⟩, hS.F ht9⟩) hS.2.2 dX12_ratio_37
      · skip
        refine lv_if_eq (tgt := 35) hx hb dX12_ratio_20 (by decide) (fun c21 => ?_) (fun c21 => ?_)
        · skip
          refine lv_ldc hx hb hown (ht _ m_1373) dX12_ratio_35 ?_
          have : ((-100002) : Int32).toInt = (-100002) := (by decide)
          have hP9 : va_P (dC, dI) classes (WM h g ca (u2 iv 12 19 (iv 12 19)) (u2 (u2 lv 12 17 (lv 12 17)) 12 18 (lv 12 18)) fa la) s.heap := hP
          have hD9 : va_D A (WM h g ca (u2 iv 12 19 (iv 12 19)) (u2 (u2 lv 12 17 (lv 12 17)) 12 18 (lv 12 18)) fa la) := hD
          exact W.iret (v := (-100002)) hx hb hr (fun t ht9 hW => ⟨⟨(-100002), ((u2 iv 12 19 (iv 12 19)), (u2 (u2 lv 12 17 (lv 12 17)) 12 18 (lv 12 18)), fa, la), rfl, ⟨(iv 12 19), (lv 12 17), (lv 12 18), (show ((((-100002) : Int32).toInt = -100001 ∧ ¬ (0 ≤ (a).toInt ∧ (a).toInt < (iv 12 1).toInt)) ∨ (((-100002) : Int32).toInt = -100002 ∧ (0 ≤ (a).toInt ∧ (a).toInt < (iv 12 1).toInt) ∧ ¬ (0 ≤ (b).toInt ∧ (b).toInt ≤ 2 ∧ 0 ≤ (d).toInt ∧ (d).toInt ≤ 2)) ∨ ((0 ≤ (a).toInt ∧ (a).toInt < (iv 12 1).toInt) ∧ (0 ≤ (b).toInt ∧ (b).toInt ≤ 2 ∧ 0 ≤ (d).toInt ∧ (d).toInt ≤ 2) ∧ ((-100002) : Int32).toInt = raF (smL (fun s : Nat => ((fa 12 4) s).toInt = (a).toInt ∧ ((fa 12 5) s).toInt = (b).toInt ∧ ((fa 12 11) s).toInt ≤ (iv 12 0).toInt ∧ (((fa 12 12) s).toInt < 0 ∨ (iv 12 0).toInt < ((fa 12 12) s).toInt)) (fa 12 8) ((iv 12 3).toInt).toNat).toInt (smL (fun s : Nat => ((fa 12 4) s).toInt = (a).toInt ∧ ((fa 12 5) s).toInt = (b).toInt ∧ ((fa 12 11) s).toInt ≤ (iv 12 0).toInt ∧ (((fa 12 12) s).toInt < 0 ∨ (iv 12 0).toInt < ((fa 12 12) s).toInt)) (fa 12 7) ((iv 12 3).toInt).toNat).toInt (smC (fun s : Nat => ((fa 12 4) s).toInt = (a).toInt ∧ ((fa 12 5) s).toInt = (b).toInt ∧ ((fa 12 11) s).toInt ≤ (iv 12 0).toInt ∧ (((fa 12 12) s).toInt < 0 ∨ (iv 12 0).toInt < ((fa 12 12) s).toInt)) ((iv 12 3).toInt).toNat).toInt (d).toInt)) from Or.inr (Or.inl ⟨by omega, ⟨by omega, by omega⟩, by omega⟩)), trivial, rfl⟩, by rw [ht9]; exact hP9, hD9⟩, hS.F ht9⟩) hS.2.2 dX12_ratio_37
        · exact absurd rfl c21
    · exact absurd rfl c3
