/-! ===== sz2 ===== -/
set_option maxHeartbeats 4000000 in
set_option maxRecDepth 100000 in
/-- X11_size -/
theorem c_X11_size_z (l : Launch) (dC : Nat → ClassId) (dI : Nat → Nat → Nat) (sz : Nat) (h : Nat) (g : Nat → Nat → Nat) (ca : Nat → Nat → ClassId) (iv : Nat → Nat → Int32) (lv : Nat → Nat → Int64) (fa : Nat → Nat → Nat → Int32) (la : Nat → Nat → Nat → Int64) (hI : IX iv fa) (a : Int32) (b : Int32) (hJZ : ∀ j : Nat, 0 ≤ (fa 0 5 j).toInt ∧ (fa 0 5 j).toInt ≤ 1998) : Met l yX11_size (wc yX11_size cX11_size 7 (some .int)) ({ frames := 2, cells := 0, slots := 0, locals := 54 } : Room) (pW (dC, dI) classes (WX h g ca iv lv fa la) (TX ca) sz [.ref h, .int a, .int b]) (va_Qi (fun r (u : SS) => (((r.toInt = -100001 ∧ ¬ (0 ≤ a.toInt ∧ a.toInt < (iv 0 7).toInt)) ∨ (r.toInt = -100002 ∧ (0 ≤ a.toInt ∧ a.toInt < (iv 0 7).toInt) ∧ ¬ (0 ≤ b.toInt ∧ b.toInt ≤ 3)) ∨ ((0 ≤ a.toInt ∧ a.toInt < (iv 0 7).toInt) ∧ (0 ≤ b.toInt ∧ b.toInt ≤ 3) ∧ (((fa 0 1) (a.toInt).toNat).toInt) = 0 ∧ r.toInt = -1) ∨ ((0 ≤ a.toInt ∧ a.toInt < (iv 0 7).toInt) ∧ (0 ≤ b.toInt ∧ b.toInt ≤ 3) ∧ 0 < (((fa 0 1) (a.toInt).toNat).toInt) ∧ r.toInt = szF (sI (fun k : Nat => ((fa 0 5) (12 * (a.toInt).toNat + k)).toInt) ((((fa 0 1) (a.toInt).toNat).toInt)).toNat) (qI (fun k : Nat => ((fa 0 5) (12 * (a.toInt).toNat + k)).toInt) ((((fa 0 1) (a.toInt).toNat).toInt)).toNat) (((fa 0 1) (a.toInt).toNat).toInt) b.toInt))) ∧ (True) ∧ u = (iv, lv, fa, la)) (bX (dC, dI) h g ca (va_A (WX h g ca iv lv fa la) sz)) (va_A (WX h g ca iv lv fa la) sz)) 0 0 (va_A (WX h g ca iv lv fa la) sz) := by
  refine Met.ofW (cc := cX11_size) (maxL := 7) (ret := (some .int)) (by decide) rfl ?_
  intro p e s m args below meth c s₁ B hml hv
  obtain ⟨rfl, hsz, hP, hK, hD0⟩ := hv
  have hx := B.exec
  have hb := B.bytes
  have hr := B.returns
  have ht := tb_tl (atoms_spec (ws := wc yX11_size cX11_size 7 (some .int)) B.pre)
  have hown : s.vm.findClass RX11 = some m.cls := findClass_of_methodNamed B.named
  have hlocks := B.notSynchronized
  subst hsz
  have hD := hD0.self (sz := s.heap.size)
  generalize hAe : va_A (WX h g ca iv lv fa la) s.heap.size = A at hD ⊢
  have hA : ∀ q : Nat, s.heap.size ≤ q → A q := fun q h => by rw [← hAe]; exact Or.inr h
  have hS : va_S A s.heap s.heap [] := va_S.rf
  have hl := lv_entry [.ref h, .int a, .int b] (n := 7) (Nat.le_of_ble_eq_true rfl)
  rw [lg_entry_eq]
  generalize (lg_sl [.ref h, .int a, .int b] ++ List.replicate (7 - (lg_sl [.ref h, .int a, .int b]).length) Slot.unset).toArray = ls at hl ⊢
  have hl : lv_has ls 7 [(0, .ref h), (1, .int a), (2, .int b)] := hl
  refine lv_aload_n hx hb dX11_size_0 rfl (lv_at hl 0 rfl) ?_
  refine gX_11_2 hx hb ht hown hK hP m_417 dX11_size_1 ?_
  refine lv_iload_n hx hb dX11_size_4 rfl (lv_at hl 1 rfl) ?_
  refine vp_callSi (W.runV (As := [.int a]) (rest := []) ⟨hx, hb, hml, hown, ht⟩ (c_X0_has l dC dI h g ca iv lv fa la hI a) (kV 1 ht m_472 m_473 m_474 m_80 m_475 rfl rfl hd_X0_has_v ⟨Nat.le_of_ble_eq_true rfl, Nat.le_of_ble_eq_true rfl⟩) (vR hP hK (rX_0 hK hP)) rfl rfl hl.1 rfl (lv_room (Nat.le_of_ble_eq_true rfl)) dX11_size_5 ⟨Nat.le_of_ble_eq_true rfl, Nat.le_of_ble_eq_true rfl⟩) (fun r1 hr1 => ?_)
  rcases hr1 with ⟨rfl, fr1⟩ | ⟨rfl, fr1⟩
  · skip
    have i_0_7 : 0 ≤ (iv 0 7).toInt ∧ (iv 0 7).toInt ≤ 10 := hI.1 0 7
    have fr1 : (0 ≤ (a : Int32).toInt ∧ (a : Int32).toInt < ((iv 0 7) : Int32).toInt) := fr1
    refine lv_if_ne (tgt := 14) hx hb dX11_size_8 (by decide) (fun c2 => ?_) (fun c2 => ?_)
    · skip
      refine lv_iload_n hx hb dX11_size_14 rfl (lv_at hl 2 rfl) ?_
      refine lv_iconst (v := 0) hx hb dX11_size_15 (by decide) ?_
      refine lv_iconst (v := 3) hx hb dX11_size_16 (by decide) ?_
      refine vp_callSi (W.runS (As := [.int b, .int 0, .int 3]) (rest := []) ⟨hx, hb, hml, hown, ht⟩ (c_X11_within l dC dI b 0 3 (b.toInt) (0) (3) (rfl : (b).toInt = _) (by decide : (0 : Int32).toInt = 0) (by decide : (3 : Int32).toInt = 3)) (kS 3 ht m_453 m_454 m_77 m_455 rfl rfl hd_X11_within_v ⟨Nat.le_of_ble_eq_true rfl, Nat.le_of_ble_eq_true rfl⟩) (sR noP (hK.sub (tys' := []) [] rfl)) rfl rfl hl.1 rfl (lv_room (Nat.le_of_ble_eq_true rfl)) dX11_size_17 ⟨Nat.le_of_ble_eq_true rfl, Nat.le_of_ble_eq_true rfl⟩) (fun r3 hr3 => ?_)
      rcases hr3 with ⟨rfl, fr3⟩ | ⟨rfl, fr3⟩
      · skip
        refine lv_if_ne (tgt := 26) hx hb dX11_size_20 (by decide) (fun c4 => ?_) (fun c4 => ?_)
        · skip
          refine lv_aload_n hx hb dX11_size_26 rfl (lv_at hl 0 rfl) ?_
          refine gX_11_2 hx hb ht hown hK hP m_417 dX11_size_27 ?_
          refine gX_0_1 hx hb ht hown hK hP m_155 dX11_size_30 ?_
          refine lv_iload_n hx hb dX11_size_33 rfl (lv_at hl 1 rfl) ?_
          refine lX_0_1 hx hb hK hP (f := (fa 0 1)) rfl (vp_in_iff.mpr ⟨by omega, by omega⟩) dX11_size_34 ?_
          refine lv_topi (fun v5 ev5 => ?_)
          have tv5 : 0 ≤ v5.toInt ∧ v5.toInt ≤ 12 := by rw [ev5]; exact hI.2 0 1 _
          have hn9 := congrArg Int32.toInt (show v5 = fa 0 1 (a.toInt).toNat from ev5)
          refine lv_if_ne (tgt := 40) hx hb dX11_size_35 (by decide) (fun c6 => ?_) (fun c6 => ?_)
          · have fc6 := z_ne (rfl : (v5).toInt = _) (by decide : (0 : Int32).toInt = 0) c6
            refine lv_aload_n hx hb dX11_size_40 rfl (lv_at hl 0 rfl) ?_
            refine gX_11_2 hx hb ht hown hK hP m_417 dX11_size_41 ?_
            refine gX_0_1 hx hb ht hown hK hP m_155 dX11_size_44 ?_
            refine lv_iload_n hx hb dX11_size_47 rfl (lv_at hl 1 rfl) ?_
            refine lX_0_1 hx hb hK hP (f := (fa 0 1)) rfl (vp_in_iff.mpr ⟨by omega, by omega⟩) dX11_size_48 ?_
            refine lv_topi (fun v7 ev7 => ?_)
            obtain rfl : v5 = v7 := ev5.trans ev7.symm
            refine lv_i2l (v := (v5.toInt64)) hx hb dX11_size_49 rfl ?_
            refine lv_lstore_n (lv' := [(3, .long (v5.toInt64)), (0, .ref h), (1, .int a), (2, .int b)]) hx hb dX11_size_50 rfl hl (by decide) rfl (fun ls hl => ?_)
            refine lv_aload_n hx hb dX11_size_51 rfl (lv_at hl 1 rfl) ?_
            refine gX_11_2 hx hb ht hown hK hP m_417 dX11_size_52 ?_
            refine lv_iload_n hx hb dX11_size_55 rfl (lv_at hl 2 rfl) ?_
            refine vp_callSi (W.runV (As := [.int a]) (rest := []) ⟨hx, hb, hml, hown, ht⟩ (c_X0_allSizes_z l dC dI h g ca iv lv fa la hI a ⟨by omega, by omega⟩ hJZ) (kV 1 ht m_953 m_954 m_955 m_80 m_956 rfl rfl hd_X0_allSizes_v ⟨Nat.le_of_ble_eq_true rfl, Nat.le_of_ble_eq_true rfl⟩) (vR hP hK (rX_0 hK hP)) rfl rfl hl.1 rfl (lv_room (Nat.le_of_ble_eq_true rfl)) dX11_size_56 ⟨Nat.le_of_ble_eq_true rfl, Nat.le_of_ble_eq_true rfl⟩) (fun r8 hr8 => ?_)
            obtain ⟨hr8, xr8_0⟩ := hr8
            have xr8_0 : (r8 : Int32).toInt = sI (fun k : Nat => ((fa 0 5) (12 * ((a : Int32).toInt).toNat + k)).toInt) ((((fa 0 1) ((a : Int32).toInt).toNat).toInt)).toNat := xr8_0
            refine lv_i2l (v := (r8.toInt64)) hx hb dX11_size_59 rfl ?_
            refine lv_lstore (lv' := [(5, .long (r8.toInt64)), (3, .long (v5.toInt64)), (0, .ref h), (1, .int a), (2, .int b)]) hx hb dX11_size_60 hl (by decide) rfl (fun ls hl => ?_)
            have hb9 := sI_b (f := (fun k : Nat => (fa 0 5 (12 * (a.toInt).toNat + k)).toInt)) ((fa 0 1 (a.toInt).toNat).toInt).toNat (fun j hj => hJZ _)
            have hc9 := cs (f := (fun k : Nat => (fa 0 5 (12 * (a.toInt).toNat + k)).toInt)) ((fa 0 1 (a.toInt).toNat).toInt).toNat
            have hk9 : ((((fa 0 1 (a.toInt).toNat).toInt).toNat : Nat) : Int) = (fa 0 1 (a.toInt).toNat).toInt := Int.toNat_of_nonneg (by omega)
            rw [hk9] at hb9 hc9
            have : ((r8.toInt64) : Int64).toInt = r8.toInt := ((Int32.toInt_toInt64 r8).trans rfl)
            have : 0 ≤ ((r8.toInt64) : Int64).toInt ∧ ((r8.toInt64) : Int64).toInt ≤ 23976 := ⟨by omega, by omega⟩
            refine lv_iload_n hx hb dX11_size_62 rfl (lv_at hl 4 rfl) ?_
            refine lv_iconst (v := 2) hx hb dX11_size_63 (by decide) ?_
            refine lv_icmp_ge (tgt := 76) hx hb dX11_size_64 (by decide) (fun c9 => ?_) (fun c9 => ?_)
            · have fc9 := z_le (by decide : (2 : Int32).toInt = 2) (rfl : (b).toInt = _) c9
              refine lv_lload_n hx hb dX11_size_76 rfl (lv_at hl 1 rfl) ?_
              refine lv_aload_n hx hb dX11_size_77 rfl (lv_at hl 2 rfl) ?_
              refine gX_11_2 hx hb ht hown hK hP m_417 dX11_size_78 ?_
              refine lv_iload_n hx hb dX11_size_81 rfl (lv_at hl 3 rfl) ?_
              refine vp_callSl (W.runV (As := [.int a]) (rest := [.long (v5.toInt64)]) ⟨hx, hb, hml, hown, ht⟩ (c_X0_allSquares_z l dC dI h g ca iv lv fa la hI a ⟨by omega, by omega⟩ hJZ) (kV 1 ht m_957 m_958 m_959 m_80 m_960 rfl rfl hd_X0_allSquares_v ⟨Nat.le_of_ble_eq_true rfl, Nat.le_of_ble_eq_true rfl⟩) (vR hP hK (rX_0 hK hP)) rfl rfl hl.1 rfl (lv_room (Nat.le_of_ble_eq_true rfl)) dX11_size_82 ⟨Nat.le_of_ble_eq_true rfl, Nat.le_of_ble_eq_true rfl⟩) (fun r10 hr10 => ?_)
              obtain ⟨hr10, xr10_0⟩ := hr10
              have xr10_0 : (r10 : Int64).toInt = qI (fun k : Nat => ((fa 0 5) (12 * ((a : Int32).toInt).toNat + k)).toInt) ((((fa 0 1) ((a : Int32).toInt).toNat).toInt)).toNat := xr10_0
              refine lv_lmul hx hb dX11_size_85 ?_
              refine lv_topl (fun w11 ew11 => ?_)
              have hq8 := mul_b (x := (fa 0 1 (a.toInt).toNat).toInt) (y := qI (fun k : Nat => (fa 0 5 (12 * (a.toInt).toNat + k)).toInt) ((fa 0 1 (a.toInt).toNat).toInt).toNat) (a1 := 0) (b1 := 12) (a2 := 0) (b2 := 47904048) (by omega) (by omega) (by omega) (by omega) (by decide) (by decide)
              have hq9 := l_mul ew11 ((((Int32.toInt_toInt64 v5).trans rfl)).trans hn9) xr10_0 (by omega) (by omega)
              have : 0 ≤ (w11 : Int64).toInt ∧ (w11 : Int64).toInt ≤ 574848576 := ⟨by omega, by omega⟩
              refine lv_lload hx hb dX11_size_86 (lv_at hl 0 rfl) ?_
              refine lv_lload hx hb dX11_size_88 (lv_at hl 0 rfl) ?_
              refine lv_lmul hx hb dX11_size_90 ?_
              refine lv_topl (fun w12 ew12 => ?_)
              have tw12 := l_mulb (a1 := 0) (b1 := 23976) (a2 := 0) (b2 := 23976) ew12 (rfl : ((r8.toInt64) : Int64).toInt = _) (rfl : ((r8.toInt64) : Int64).toInt = _) (by omega) (by omega) (by omega) (by omega) (by decide) (by decide) (by decide)
              have : 0 ≤ w12.toInt ∧ w12.toInt ≤ 574848576 := ⟨by omega, by omega⟩
              have hs8 := mul_b (x := sI (fun k : Nat => (fa 0 5 (12 * (a.toInt).toNat + k)).toInt) ((fa 0 1 (a.toInt).toNat).toInt).toNat) (y := sI (fun k : Nat => (fa 0 5 (12 * (a.toInt).toNat + k)).toInt) ((fa 0 1 (a.toInt).toNat).toInt).toNat) (a1 := 0) (b1 := 23976) (a2 := 0) (b2 := 23976) (by omega) (by omega) (by omega) (by omega) (by decide) (by decide)
              have hs9 := l_mul ew12 ((((Int32.toInt_toInt64 r8).trans rfl)).trans xr8_0) ((((Int32.toInt_toInt64 r8).trans rfl)).trans xr8_0) (by omega) (by omega)
              have : 0 ≤ (w12 : Int64).toInt ∧ (w12 : Int64).toInt ≤ 574848576 := ⟨by omega, by omega⟩
              refine lv_lsub hx hb dX11_size_91 ?_
              refine lv_topl (fun w13 ew13 => ?_)
              have tw13 := l_sub ew13 (rfl : (w11).toInt = _) (rfl : (w12).toInt = _) (by omega) (by omega)
              have hd9 := l_sub ew13 hq9 hs9 (by omega) (by omega)
              have : 0 ≤ (w13 : Int64).toInt ∧ (w13 : Int64).toInt ≤ 574848576 := ⟨by omega, by omega⟩
              refine lv_lload_n hx hb dX11_size_92 rfl (lv_at hl 1 rfl) ?_
              refine lv_lload_n hx hb dX11_size_93 rfl (lv_at hl 1 rfl) ?_
              have : ((v5.toInt64) : Int64).toInt = v5.toInt := ((Int32.toInt_toInt64 v5).trans rfl)
              refine lv_lmul hx hb dX11_size_94 ?_
              refine lv_topl (fun w14 ew14 => ?_)
              have tw14 := l_mulb (a1 := 1) (b1 := 12) (a2 := 1) (b2 := 12) ew14 (rfl : ((v5.toInt64) : Int64).toInt = _) (rfl : ((v5.toInt64) : Int64).toInt = _) (by omega) (by omega) (by omega) (by omega) (by decide) (by decide) (by decide)
              have : 1 ≤ w14.toInt ∧ w14.toInt ≤ 144 := ⟨by omega, by omega⟩
              have hz8 := mul_b (x := (fa 0 1 (a.toInt).toNat).toInt) (y := (fa 0 1 (a.toInt).toNat).toInt) (a1 := 0) (b1 := 12) (a2 := 0) (b2 := 12) (by omega) (by omega) (by omega) (by omega) (by decide) (by decide)
              have hz9 := l_mul ew14 ((((Int32.toInt_toInt64 v5).trans rfl)).trans hn9) ((((Int32.toInt_toInt64 v5).trans rfl)).trans hn9) (by omega) (by omega)
              have : 1 ≤ (w14 : Int64).toInt ∧ (w14 : Int64).toInt ≤ 144 := ⟨by omega, by omega⟩
              refine lv_iload_n hx hb dX11_size_95 rfl (lv_at hl 4 rfl) ?_
              refine lv_iconst (v := 2) hx hb dX11_size_96 (by decide) ?_
              refine lv_irem hx hb dX11_size_97 (by decide) ?_
              refine lv_topi (fun v15 ev15 => ?_)
              have tv15 := z_remp ev15 (rfl : (b).toInt = _) (by decide : (2 : Int32).toInt = 2) (by omega) (by omega)
              refine vp_callSl (W.runS (As := [.long w13, .long w14, .int v15]) (rest := []) ⟨hx, hb, hml, hown, ht⟩ (c_X11_inLeastTerms_g l dC dI w13 w14 v15 (show 0 ≤ (w13 : Int64).toInt from by omega) (show 1 ≤ (w14 : Int64).toInt from by omega) (show (w14 : Int64).toInt ≤ 281474976710656 from by omega)) (kS 3 ht m_581 m_582 m_77 m_583 rfl rfl hd_X11_inLeastTerms_v ⟨Nat.le_of_ble_eq_true rfl, Nat.le_of_ble_eq_true rfl⟩) (sR noP (hK.sub (tys' := []) [] rfl)) rfl rfl hl.1 rfl (lv_room (Nat.le_of_ble_eq_true rfl)) dX11_size_98 ⟨Nat.le_of_ble_eq_true rfl, Nat.le_of_ble_eq_true rfl⟩) (fun r16 hr16 => ?_)
              obtain ⟨hr16, xr16_0⟩ := hr16
              have xr16_0 : (((v15 : Int32).toInt = 0 ∧ (r16 : Int64).toInt = (w13 : Int64).toInt / gN (w13 : Int64).toInt (w14 : Int64).toInt) ∨ ((v15 : Int32).toInt ≠ 0 ∧ (r16 : Int64).toInt = (w14 : Int64).toInt / gN (w13 : Int64).toInt (w14 : Int64).toInt)) := xr16_0
              obtain ⟨v17, ev17⟩ : ∃ y : Int32, r16.toInt32 = y := ⟨_, rfl⟩
              refine lv_l2i (v := v17) hx hb dX11_size_101 ev17 ?_
              have hP9 : va_P (dC, dI) classes (WX h g ca iv lv fa la) s.heap := hP
              have hD9 : va_D A (WX h g ca iv lv fa la) := hD
              exact W.iret (v := v17) hx hb hr (fun t ht9 hW => ⟨⟨v17, (iv, lv, fa, la), rfl, ⟨(show (((v17 : Int32).toInt = -100001 ∧ ¬ (0 ≤ (a).toInt ∧ (a).toInt < (iv 0 7).toInt)) ∨ ((v17 : Int32).toInt = -100002 ∧ (0 ≤ (a).toInt ∧ (a).toInt < (iv 0 7).toInt) ∧ ¬ (0 ≤ (b).toInt ∧ (b).toInt ≤ 3)) ∨ ((0 ≤ (a).toInt ∧ (a).toInt < (iv 0 7).toInt) ∧ (0 ≤ (b).toInt ∧ (b).toInt ≤ 3) ∧ (((fa 0 1) ((a).toInt).toNat).toInt) = 0 ∧ (v17 : Int32).toInt = -1) ∨ ((0 ≤ (a).toInt ∧ (a).toInt < (iv 0 7).toInt) ∧ (0 ≤ (b).toInt ∧ (b).toInt ≤ 3) ∧ 0 < (((fa 0 1) ((a).toInt).toNat).toInt) ∧ (v17 : Int32).toInt = szF (sI (fun k : Nat => ((fa 0 5) (12 * ((a).toInt).toNat + k)).toInt) ((((fa 0 1) ((a).toInt).toNat).toInt)).toNat) (qI (fun k : Nat => ((fa 0 5) (12 * ((a).toInt).toNat + k)).toInt) ((((fa 0 1) ((a).toInt).toNat).toInt)).toNat) (((fa 0 1) ((a).toInt).toNat).toInt) (b).toInt)) from Or.inr (Or.inr (Or.inr ⟨⟨by omega, by omega⟩, ⟨by omega, by omega⟩, by omega, (by
                    have hU : (w13 : Int64).toInt = (fa 0 1 (a.toInt).toNat).toInt * qI (fun k : Nat => (fa 0 5 (12 * (a.toInt).toNat + k)).toInt) ((fa 0 1 (a.toInt).toNat).toInt).toNat - sI (fun k : Nat => (fa 0 5 (12 * (a.toInt).toNat + k)).toInt) ((fa 0 1 (a.toInt).toNat).toInt).toNat * sI (fun k : Nat => (fa 0 5 (12 * (a.toInt).toNat + k)).toInt) ((fa 0 1 (a.toInt).toNat).toInt).toNat := hd9
                    have hD : (w14 : Int64).toInt = (fa 0 1 (a.toInt).toNat).toInt * (fa 0 1 (a.toInt).toNat).toInt := hz9
                    have hx8 := xr16_0
                    rw [hU, hD] at hx8
                    have hp9 := gN_pos (x := (fa 0 1 (a.toInt).toNat).toInt * qI (fun k : Nat => (fa 0 5 (12 * (a.toInt).toNat + k)).toInt) ((fa 0 1 (a.toInt).toNat).toInt).toNat - sI (fun k : Nat => (fa 0 5 (12 * (a.toInt).toNat + k)).toInt) ((fa 0 1 (a.toInt).toNat).toInt).toNat * sI (fun k : Nat => (fa 0 5 (12 * (a.toInt).toNat + k)).toInt) ((fa 0 1 (a.toInt).toNat).toInt).toNat) (y := (fa 0 1 (a.toInt).toNat).toInt * (fa 0 1 (a.toInt).toNat).toInt) (by omega)
                    have hi1 := div_iz (x := (fa 0 1 (a.toInt).toNat).toInt * qI (fun k : Nat => (fa 0 5 (12 * (a.toInt).toNat + k)).toInt) ((fa 0 1 (a.toInt).toNat).toInt).toNat - sI (fun k : Nat => (fa 0 5 (12 * (a.toInt).toNat + k)).toInt) ((fa 0 1 (a.toInt).toNat).toInt).toNat * sI (fun k : Nat => (fa 0 5 (12 * (a.toInt).toNat + k)).toInt) ((fa 0 1 (a.toInt).toNat).toInt).toNat) (y := gN ((fa 0 1 (a.toInt).toNat).toInt * qI (fun k : Nat => (fa 0 5 (12 * (a.toInt).toNat + k)).toInt) ((fa 0 1 (a.toInt).toNat).toInt).toNat - sI (fun k : Nat => (fa 0 5 (12 * (a.toInt).toNat + k)).toInt) ((fa 0 1 (a.toInt).toNat).toInt).toNat * sI (fun k : Nat => (fa 0 5 (12 * (a.toInt).toNat + k)).toInt) ((fa 0 1 (a.toInt).toNat).toInt).toNat) ((fa 0 1 (a.toInt).toNat).toInt * (fa 0 1 (a.toInt).toNat).toInt)) (by omega) hp9
                    have hi2 := div_iz (x := (fa 0 1 (a.toInt).toNat).toInt * (fa 0 1 (a.toInt).toNat).toInt) (y := gN ((fa 0 1 (a.toInt).toNat).toInt * qI (fun k : Nat => (fa 0 5 (12 * (a.toInt).toNat + k)).toInt) ((fa 0 1 (a.toInt).toNat).toInt).toNat - sI (fun k : Nat => (fa 0 5 (12 * (a.toInt).toNat + k)).toInt) ((fa 0 1 (a.toInt).toNat).toInt).toNat * sI (fun k : Nat => (fa 0 5 (12 * (a.toInt).toNat + k)).toInt) ((fa 0 1 (a.toInt).toNat).toInt).toNat) ((fa 0 1 (a.toInt).toNat).toInt * (fa 0 1 (a.toInt).toNat).toInt)) (by omega) hp9
                    have hv9 := l2i_iz ev17 rfl (by omega) (by omega)
                    unfold szF
                    rw [if_neg (by omega)]
                    split
                    · omega
                    · omega)⟩))), trivial, rfl⟩, by rw [ht9]; exact hP9, hD9⟩, hS.F ht9⟩) hS.2.2 dX11_size_102
            · have fc9 := z_nle (by decide : (2 : Int32).toInt = 2) (rfl : (b).toInt = _) c9
              refine lv_lload hx hb dX11_size_67 (lv_at hl 0 rfl) ?_
              refine lv_lload_n hx hb dX11_size_69 rfl (lv_at hl 1 rfl) ?_
              refine lv_iload_n hx hb dX11_size_70 rfl (lv_at hl 4 rfl) ?_
              have : ((v5.toInt64) : Int64).toInt = v5.toInt := ((Int32.toInt_toInt64 v5).trans rfl)
              refine vp_callSl (W.runS (As := [.long (r8.toInt64), .long (v5.toInt64), .int b]) (rest := []) ⟨hx, hb, hml, hown, ht⟩ (c_X11_inLeastTerms_g l dC dI (r8.toInt64) (v5.toInt64) b (show 0 ≤ ((r8.toInt64) : Int64).toInt from by omega) (show 1 ≤ ((v5.toInt64) : Int64).toInt from by omega) (show ((v5.toInt64) : Int64).toInt ≤ 281474976710656 from by omega)) (kS 3 ht m_581 m_582 m_77 m_583 rfl rfl hd_X11_inLeastTerms_v ⟨Nat.le_of_ble_eq_true rfl, Nat.le_of_ble_eq_true rfl⟩) (sR noP (hK.sub (tys' := []) [] rfl)) rfl rfl hl.1 rfl (lv_room (Nat.le_of_ble_eq_true rfl)) dX11_size_71 ⟨Nat.le_of_ble_eq_true rfl, Nat.le_of_ble_eq_true rfl⟩) (fun r18 hr18 => ?_)
              obtain ⟨hr18, xr18_0⟩ := hr18
              have xr18_0 : (((b : Int32).toInt = 0 ∧ (r18 : Int64).toInt = ((r8.toInt64) : Int64).toInt / gN ((r8.toInt64) : Int64).toInt ((v5.toInt64) : Int64).toInt) ∨ ((b : Int32).toInt ≠ 0 ∧ (r18 : Int64).toInt = ((v5.toInt64) : Int64).toInt / gN ((r8.toInt64) : Int64).toInt ((v5.toInt64) : Int64).toInt)) := xr18_0
              obtain ⟨v19, ev19⟩ : ∃ y : Int32, r18.toInt32 = y := ⟨_, rfl⟩
              refine lv_l2i (v := v19) hx hb dX11_size_74 ev19 ?_
              have hP9 : va_P (dC, dI) classes (WX h g ca iv lv fa la) s.heap := hP
              have hD9 : va_D A (WX h g ca iv lv fa la) := hD
              exact W.iret (v := v19) hx hb hr (fun t ht9 hW => ⟨⟨v19, (iv, lv, fa, la), rfl, ⟨(show (((v19 : Int32).toInt = -100001 ∧ ¬ (0 ≤ (a).toInt ∧ (a).toInt < (iv 0 7).toInt)) ∨ ((v19 : Int32).toInt = -100002 ∧ (0 ≤ (a).toInt ∧ (a).toInt < (iv 0 7).toInt) ∧ ¬ (0 ≤ (b).toInt ∧ (b).toInt ≤ 3)) ∨ ((0 ≤ (a).toInt ∧ (a).toInt < (iv 0 7).toInt) ∧ (0 ≤ (b).toInt ∧ (b).toInt ≤ 3) ∧ (((fa 0 1) ((a).toInt).toNat).toInt) = 0 ∧ (v19 : Int32).toInt = -1) ∨ ((0 ≤ (a).toInt ∧ (a).toInt < (iv 0 7).toInt) ∧ (0 ≤ (b).toInt ∧ (b).toInt ≤ 3) ∧ 0 < (((fa 0 1) ((a).toInt).toNat).toInt) ∧ (v19 : Int32).toInt = szF (sI (fun k : Nat => ((fa 0 5) (12 * ((a).toInt).toNat + k)).toInt) ((((fa 0 1) ((a).toInt).toNat).toInt)).toNat) (qI (fun k : Nat => ((fa 0 5) (12 * ((a).toInt).toNat + k)).toInt) ((((fa 0 1) ((a).toInt).toNat).toInt)).toNat) (((fa 0 1) ((a).toInt).toNat).toInt) (b).toInt)) from Or.inr (Or.inr (Or.inr ⟨⟨by omega, by omega⟩, ⟨by omega, by omega⟩, by omega, (by
                    have hU : ((r8.toInt64) : Int64).toInt = sI (fun k : Nat => (fa 0 5 (12 * (a.toInt).toNat + k)).toInt) ((fa 0 1 (a.toInt).toNat).toInt).toNat := ((((Int32.toInt_toInt64 r8).trans rfl)).trans xr8_0)
                    have hD : ((v5.toInt64) : Int64).toInt = (fa 0 1 (a.toInt).toNat).toInt := ((((Int32.toInt_toInt64 v5).trans rfl)).trans hn9)
                    have hx8 := xr18_0
                    rw [hU, hD] at hx8
                    have hp9 := gN_pos (x := sI (fun k : Nat => (fa 0 5 (12 * (a.toInt).toNat + k)).toInt) ((fa 0 1 (a.toInt).toNat).toInt).toNat) (y := (fa 0 1 (a.toInt).toNat).toInt) (by omega)
                    have hi1 := div_iz (x := sI (fun k : Nat => (fa 0 5 (12 * (a.toInt).toNat + k)).toInt) ((fa 0 1 (a.toInt).toNat).toInt).toNat) (y := gN (sI (fun k : Nat => (fa 0 5 (12 * (a.toInt).toNat + k)).toInt) ((fa 0 1 (a.toInt).toNat).toInt).toNat) ((fa 0 1 (a.toInt).toNat).toInt)) (by omega) hp9
                    have hi2 := div_iz (x := (fa 0 1 (a.toInt).toNat).toInt) (y := gN (sI (fun k : Nat => (fa 0 5 (12 * (a.toInt).toNat + k)).toInt) ((fa 0 1 (a.toInt).toNat).toInt).toNat) ((fa 0 1 (a.toInt).toNat).toInt)) (by omega) hp9
                    have hv9 := l2i_iz ev19 rfl (by omega) (by omega)
                    unfold szF
                    rw [if_pos (by omega)]
                    split
                    · omega
                    · omega)⟩))), trivial, rfl⟩, by rw [ht9]; exact hP9, hD9⟩, hS.F ht9⟩) hS.2.2 dX11_size_75
          · have fc6 := z_eq (rfl : (v5).toInt = _) (by decide : (0 : Int32).toInt = 0) c6
            refine lv_iconst (v := (-1)) hx hb dX11_size_38 (by decide) ?_
            have : ((-1) : Int32).toInt = (-1) := (by decide)
            have hP9 : va_P (dC, dI) classes (WX h g ca iv lv fa la) s.heap := hP
            have hD9 : va_D A (WX h g ca iv lv fa la) := hD
            exact W.iret (v := (-1)) hx hb hr (fun t ht9 hW => ⟨⟨(-1), (iv, lv, fa, la), rfl, ⟨(show ((((-1) : Int32).toInt = -100001 ∧ ¬ (0 ≤ (a).toInt ∧ (a).toInt < (iv 0 7).toInt)) ∨ (((-1) : Int32).toInt = -100002 ∧ (0 ≤ (a).toInt ∧ (a).toInt < (iv 0 7).toInt) ∧ ¬ (0 ≤ (b).toInt ∧ (b).toInt ≤ 3)) ∨ ((0 ≤ (a).toInt ∧ (a).toInt < (iv 0 7).toInt) ∧ (0 ≤ (b).toInt ∧ (b).toInt ≤ 3) ∧ (((fa 0 1) ((a).toInt).toNat).toInt) = 0 ∧ ((-1) : Int32).toInt = -1) ∨ ((0 ≤ (a).toInt ∧ (a).toInt < (iv 0 7).toInt) ∧ (0 ≤ (b).toInt ∧ (b).toInt ≤ 3) ∧ 0 < (((fa 0 1) ((a).toInt).toNat).toInt) ∧ ((-1) : Int32).toInt = szF (sI (fun k : Nat => ((fa 0 5) (12 * ((a).toInt).toNat + k)).toInt) ((((fa 0 1) ((a).toInt).toNat).toInt)).toNat) (qI (fun k : Nat => ((fa 0 5) (12 * ((a).toInt).toNat + k)).toInt) ((((fa 0 1) ((a).toInt).toNat).toInt)).toNat) (((fa 0 1) ((a).toInt).toNat).toInt) (b).toInt)) from Or.inr (Or.inr (Or.inl ⟨⟨by omega, by omega⟩, ⟨by omega, by omega⟩, by omega, by omega⟩))), trivial, rfl⟩, by rw [ht9]; exact hP9, hD9⟩, hS.F ht9⟩) hS.2.2 dX11_size_39
        · exact absurd c4 (by decide)
      · skip
        refine lv_if_ne (tgt := 26) hx hb dX11_size_20 (by decide) (fun c20 => ?_) (fun c20 => ?_)
        · exact absurd rfl c20
        · skip
          refine lv_ldc hx hb hown (ht _ m_456) dX11_size_23 ?_
          have : ((-100002) : Int32).toInt = (-100002) := (by decide)
          have hP9 : va_P (dC, dI) classes (WX h g ca iv lv fa la) s.heap := hP
          have hD9 : va_D A (WX h g ca iv lv fa la) := hD
          exact W.iret (v := (-100002)) hx hb hr (fun t ht9 hW => ⟨⟨(-100002), (iv, lv, fa, la), rfl, ⟨(show ((((-100002) : Int32).toInt = -100001 ∧ ¬ (0 ≤ (a).toInt ∧ (a).toInt < (iv 0 7).toInt)) ∨ (((-100002) : Int32).toInt = -100002 ∧ (0 ≤ (a).toInt ∧ (a).toInt < (iv 0 7).toInt) ∧ ¬ (0 ≤ (b).toInt ∧ (b).toInt ≤ 3)) ∨ ((0 ≤ (a).toInt ∧ (a).toInt < (iv 0 7).toInt) ∧ (0 ≤ (b).toInt ∧ (b).toInt ≤ 3) ∧ (((fa 0 1) ((a).toInt).toNat).toInt) = 0 ∧ ((-100002) : Int32).toInt = -1) ∨ ((0 ≤ (a).toInt ∧ (a).toInt < (iv 0 7).toInt) ∧ (0 ≤ (b).toInt ∧ (b).toInt ≤ 3) ∧ 0 < (((fa 0 1) ((a).toInt).toNat).toInt) ∧ ((-100002) : Int32).toInt = szF (sI (fun k : Nat => ((fa 0 5) (12 * ((a).toInt).toNat + k)).toInt) ((((fa 0 1) ((a).toInt).toNat).toInt)).toNat) (qI (fun k : Nat => ((fa 0 5) (12 * ((a).toInt).toNat + k)).toInt) ((((fa 0 1) ((a).toInt).toNat).toInt)).toNat) (((fa 0 1) ((a).toInt).toNat).toInt) (b).toInt)) from Or.inr (Or.inl ⟨by omega, ⟨by omega, by omega⟩, by omega⟩)), trivial, rfl⟩, by rw [ht9]; exact hP9, hD9⟩, hS.F ht9⟩) hS.2.2 dX11_size_25
    · exact absurd c2 (by decide)
  · skip
    have i_0_7 : 0 ≤ (iv 0 7).toInt ∧ (iv 0 7).toInt ≤ 10 := hI.1 0 7
    have fr1 : ¬ (0 ≤ (a : Int32).toInt ∧ (a : Int32).toInt < ((iv 0 7) : Int32).toInt) := fr1
    refine lv_if_ne (tgt := 14) hx hb dX11_size_8 (by decide) (fun c21 => ?_) (fun c21 => ?_)
    · exact absurd rfl c21
    · skip
      refine lv_ldc hx hb hown (ht _ m_476) dX11_size_11 ?_
      have : ((-100001) : Int32).toInt = (-100001) := (by decide)
      have hP9 : va_P (dC, dI) classes (WX h g ca iv lv fa la) s.heap := hP
      have hD9 : va_D A (WX h g ca iv lv fa la) := hD
      exact W.iret (v := (-100001)) hx hb hr (fun t ht9 hW => ⟨⟨(-100001), (iv, lv, fa, la), rfl, ⟨(show ((((-100001) : Int32).toInt = -100001 ∧ ¬ (0 ≤ (a).toInt ∧ (a).toInt < (iv 0 7).toInt)) ∨ (((-100001) : Int32).toInt = -100002 ∧ (0 ≤ (a).toInt ∧ (a).toInt < (iv 0 7).toInt) ∧ ¬ (0 ≤ (b).toInt ∧ (b).toInt ≤ 3)) ∨ ((0 ≤ (a).toInt ∧ (a).toInt < (iv 0 7).toInt) ∧ (0 ≤ (b).toInt ∧ (b).toInt ≤ 3) ∧ (((fa 0 1) ((a).toInt).toNat).toInt) = 0 ∧ ((-100001) : Int32).toInt = -1) ∨ ((0 ≤ (a).toInt ∧ (a).toInt < (iv 0 7).toInt) ∧ (0 ≤ (b).toInt ∧ (b).toInt ≤ 3) ∧ 0 < (((fa 0 1) ((a).toInt).toNat).toInt) ∧ ((-100001) : Int32).toInt = szF (sI (fun k : Nat => ((fa 0 5) (12 * ((a).toInt).toNat + k)).toInt) ((((fa 0 1) ((a).toInt).toNat).toInt)).toNat) (qI (fun k : Nat => ((fa 0 5) (12 * ((a).toInt).toNat + k)).toInt) ((((fa 0 1) ((a).toInt).toNat).toInt)).toNat) (((fa 0 1) ((a).toInt).toNat).toInt) (b).toInt)) from Or.inl ⟨by omega, by omega⟩), trivial, rfl⟩, by rw [ht9]; exact hP9, hD9⟩, hS.F ht9⟩) hS.2.2 dX11_size_13
