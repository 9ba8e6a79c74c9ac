/-! ===== ch2 ===== -/
set_option maxHeartbeats 4000000 in
set_option maxRecDepth 100000 in
/-- X12_cheat -/
theorem c_X12_cheat_c (l : Launch) (dC : Nat → ClassId) (dI : Nat → Nat → Nat) (sz : Nat) (h : Nat) (g : Nat → Nat → Nat) (ca : Nat → Nat → ClassId) (iv : Nat → Nat → Int32) (lv : Nat → Nat → Int64) (fa : Nat → Nat → Nat → Int32) (la : Nat → Nat → Nat → Int64) (hI : IX iv fa) (a : Int32) (b : Int32) (d : Int32) (k : Int32) (hJR : JRf (iv 12 3).toInt (fa 12 7)) (hJO : (iv 12 20).toInt = -1 ∧ (iv 12 21).toInt = -1 ∧ (iv 12 22).toInt = -1) (hJD : ∀ s : Nat, (s : Int) < (iv 12 3).toInt → (100 ≤ (fa 12 7 s).toInt ∧ (fa 12 7 s).toInt ≤ 9999) ∧ (50 ≤ (fa 12 8 s).toInt ∧ (fa 12 8 s).toInt ≤ 9999)) : Met l yX12_cheat (wc yX12_cheat cX12_cheat 7 (some .int)) ({ frames := 2, cells := 0, slots := 0, locals := 47 } : Room) (pW (dC, dI) classes (WM h g ca iv lv fa la) (TM ca) sz [.ref h, .int a, .int b, .int d, .int k]) (va_Qi (fun r (u : SS) => ∃ (ni_12_19 : Int32) (nl_12_17 : Int64) (nl_12_18 : Int64), (((r.toInt = -100001 ∧ ¬ (0 ≤ a.toInt ∧ a.toInt < (iv 12 1).toInt)) ∨ (r.toInt = -100002 ∧ (0 ≤ a.toInt ∧ a.toInt < (iv 12 1).toInt) ∧ ¬ (0 ≤ b.toInt ∧ b.toInt ≤ 999 ∧ 0 ≤ d.toInt ∧ d.toInt ≤ 999 ∧ 0 ≤ k.toInt ∧ k.toInt ≤ 999)) ∨ ((0 ≤ a.toInt ∧ a.toInt < (iv 12 1).toInt) ∧ (0 ≤ b.toInt ∧ b.toInt ≤ 999 ∧ 0 ≤ d.toInt ∧ d.toInt ≤ 999 ∧ 0 ≤ k.toInt ∧ k.toInt ≤ 999) ∧ r.toInt = chF ((fa 12 55) (a).toNatClampNeg) ((fa 12 56) (a).toNatClampNeg) (lossI (smL (fun s : Nat => ((fa 12 4) s).toInt = a.toInt ∧ ((fa 12 5) s).toInt = 0 ∧ ((fa 12 11) s).toInt ≤ (iv 12 0).toInt ∧ (((fa 12 12) s).toInt < 0 ∨ (iv 12 0).toInt < ((fa 12 12) s).toInt)) (fa 12 7) ((iv 12 3).toInt).toNat) (smL (fun s : Nat => ((fa 12 4) s).toInt = a.toInt ∧ ((fa 12 5) s).toInt = 0 ∧ ((fa 12 11) s).toInt ≤ (iv 12 0).toInt ∧ (((fa 12 12) s).toInt < 0 ∨ (iv 12 0).toInt < ((fa 12 12) s).toInt)) (fa 12 8) ((iv 12 3).toInt).toNat)) b d k))) ∧ ((-100002) ≤ r.toInt ∧ r.toInt ≤ 7) ∧ u = ((u2 iv 12 19 ni_12_19), (u2 (u2 lv 12 17 nl_12_17) 12 18 nl_12_18), fa, la)) (bM (dC, dI) h g ca (va_A (WM h g ca iv lv fa la) sz)) (va_A (WM h g ca iv lv fa la) sz)) 0 0 (va_A (WM h g ca iv lv fa la) sz) := by
  refine Met.ofW (cc := cX12_cheat) (maxL := 7) (ret := (some .int)) (by decide) rfl ?_
  intro p e s m args below meth c s₁ B hml hv
  obtain ⟨rfl, hsz, hP, hK, hD0⟩ := hv
  have hx := B.exec
  have hb := B.bytes
  have hr := B.returns
  have ht := tb_tl (atoms_spec (ws := wc yX12_cheat cX12_cheat 7 (some .int)) B.pre)
  have hown : s.vm.findClass RX12 = some m.cls := findClass_of_methodNamed B.named
  have hlocks := B.notSynchronized
  subst hsz
  have hD := hD0.self (sz := s.heap.size)
  generalize hAe : va_A (WM h g ca iv lv fa la) s.heap.size = A at hD ⊢
  have hA : ∀ q : Nat, s.heap.size ≤ q → A q := fun q h => by rw [← hAe]; exact Or.inr h
  have hS : va_S A s.heap s.heap [] := va_S.rf
  have hl := lv_entry [.ref h, .int a, .int b, .int d, .int k] (n := 7) (Nat.le_of_ble_eq_true rfl)
  rw [lg_entry_eq]
  generalize (lg_sl [.ref h, .int a, .int b, .int d, .int k] ++ List.replicate (7 - (lg_sl [.ref h, .int a, .int b, .int d, .int k]).length) Slot.unset).toArray = ls at hl ⊢
  have hl : lv_has ls 7 [(0, .ref h), (1, .int a), (2, .int b), (3, .int d), (4, .int k)] := hl
  refine lv_aload_n hx hb dX12_cheat_0 rfl (lv_at hl 0 rfl) ?_
  refine lv_iload_n hx hb dX12_cheat_1 rfl (lv_at hl 1 rfl) ?_
  refine vp_callSi (W.runV (As := [.int a]) (rest := []) ⟨hx, hb, hml, hown, ht⟩ (c_X12_noBale l dC dI h g ca iv lv fa la hI a) (kV 1 ht m_1385 m_1387 m_42 m_89 m_1388 rfl rfl hd_X12_noBale_v ⟨Nat.le_of_ble_eq_true rfl, Nat.le_of_ble_eq_true rfl⟩) (vR hP hK (rM_12 hK hP)) rfl rfl hl.1 rfl (lv_room (Nat.le_of_ble_eq_true rfl)) dX12_cheat_2 ⟨Nat.le_of_ble_eq_true rfl, Nat.le_of_ble_eq_true rfl⟩) (fun r1 hr1 => ?_)
  rcases hr1 with ⟨rfl, fr1⟩ | ⟨rfl, fr1⟩
  · skip
    have i_12_1 : 0 ≤ (iv 12 1).toInt ∧ (iv 12 1).toInt ≤ 10 := hI.1 12 1
    have fr1 : ¬ (0 ≤ (a : Int32).toInt ∧ (a : Int32).toInt < ((iv 12 1) : Int32).toInt) := fr1
    refine lv_if_eq (tgt := 11) hx hb dX12_cheat_5 (by decide) (fun c2 => ?_) (fun c2 => ?_)
    · exact absurd c2 (by decide)
    · skip
      refine lv_ldc hx hb hown (ht _ m_1389) dX12_cheat_8 ?_
      have : ((-100001) : Int32).toInt = (-100001) := (by decide)
      have hP9 : va_P (dC, dI) classes (WM h g ca (u2 iv 12 19 (iv 12 19)) (u2 (u2 lv 12 17 (lv 12 17)) 12 18 (lv 12 18)) fa la) s.heap := hP
      have hD9 : va_D A (WM h g ca (u2 iv 12 19 (iv 12 19)) (u2 (u2 lv 12 17 (lv 12 17)) 12 18 (lv 12 18)) fa la) := hD
      exact W.iret (v := (-100001)) hx hb hr (fun t ht9 hW => ⟨⟨(-100001), ((u2 iv 12 19 (iv 12 19)), (u2 (u2 lv 12 17 (lv 12 17)) 12 18 (lv 12 18)), fa, la), rfl, ⟨(iv 12 19), (lv 12 17), (lv 12 18), (show ((((-100001) : Int32).toInt = -100001 ∧ ¬ (0 ≤ (a).toInt ∧ (a).toInt < (iv 12 1).toInt)) ∨ (((-100001) : Int32).toInt = -100002 ∧ (0 ≤ (a).toInt ∧ (a).toInt < (iv 12 1).toInt) ∧ ¬ (0 ≤ (b).toInt ∧ (b).toInt ≤ 999 ∧ 0 ≤ (d).toInt ∧ (d).toInt ≤ 999 ∧ 0 ≤ (k).toInt ∧ (k).toInt ≤ 999)) ∨ ((0 ≤ (a).toInt ∧ (a).toInt < (iv 12 1).toInt) ∧ (0 ≤ (b).toInt ∧ (b).toInt ≤ 999 ∧ 0 ≤ (d).toInt ∧ (d).toInt ≤ 999 ∧ 0 ≤ (k).toInt ∧ (k).toInt ≤ 999) ∧ ((-100001) : Int32).toInt = chF ((fa 12 55) (a).toNatClampNeg) ((fa 12 56) (a).toNatClampNeg) (lossI (smL (fun s : Nat => ((fa 12 4) s).toInt = (a).toInt ∧ ((fa 12 5) s).toInt = 0 ∧ ((fa 12 11) s).toInt ≤ (iv 12 0).toInt ∧ (((fa 12 12) s).toInt < 0 ∨ (iv 12 0).toInt < ((fa 12 12) s).toInt)) (fa 12 7) ((iv 12 3).toInt).toNat) (smL (fun s : Nat => ((fa 12 4) s).toInt = (a).toInt ∧ ((fa 12 5) s).toInt = 0 ∧ ((fa 12 11) s).toInt ≤ (iv 12 0).toInt ∧ (((fa 12 12) s).toInt < 0 ∨ (iv 12 0).toInt < ((fa 12 12) s).toInt)) (fa 12 8) ((iv 12 3).toInt).toNat)) b d k)) from Or.inl ⟨by omega, by omega⟩), ⟨by decide, by decide⟩, rfl⟩, by rw [ht9]; exact hP9, hD9⟩, hS.F ht9⟩) hS.2.2 dX12_cheat_10
  · skip
    have i_12_1 : 0 ≤ (iv 12 1).toInt ∧ (iv 12 1).toInt ≤ 10 := hI.1 12 1
    have fr1 : (0 ≤ (a : Int32).toInt ∧ (a : Int32).toInt < ((iv 12 1) : Int32).toInt) := Decidable.not_not.mp fr1
    refine lv_if_eq (tgt := 11) hx hb dX12_cheat_5 (by decide) (fun c3 => ?_) (fun c3 => ?_)
    · skip
      refine lv_iload_n hx hb dX12_cheat_11 rfl (lv_at hl 2 rfl) ?_
      refine lv_i2l (v := (b.toInt64)) hx hb dX12_cheat_12 rfl ?_
      refine lv_lconst (v := 0) hx hb dX12_cheat_13 (by decide) ?_
      refine lv_ldc2 hx hb hown (ht _ m_1369) dX12_cheat_14 ?_
      refine vp_callSi (W.runS (As := [.long (b.toInt64), .long 0, .long 999]) (rest := []) ⟨hx, hb, hml, hown, ht⟩ (c_X12_in l dC dI (b.toInt64) 0 999 (b.toInt) (0) (999) ((Int32.toInt_toInt64 b).trans rfl) (by decide : (0 : Int64).toInt = 0) (by decide : (999 : Int64).toInt = 999)) (kS 3 ht m_1370 m_1371 m_89 m_1372 rfl rfl hd_X12_in_v ⟨Nat.le_of_ble_eq_true rfl, Nat.le_of_ble_eq_true rfl⟩) (sR noP (hK.sub (tys' := []) [] rfl)) rfl rfl hl.1 rfl (lv_room (Nat.le_of_ble_eq_true rfl)) dX12_cheat_17 ⟨Nat.le_of_ble_eq_true rfl, Nat.le_of_ble_eq_true rfl⟩) (fun r4 hr4 => ?_)
      rcases hr4 with ⟨rfl, fr4⟩ | ⟨rfl, fr4⟩
      · skip
        refine lv_if_eq (tgt := 48) hx hb dX12_cheat_20 (by decide) (fun c5 => ?_) (fun c5 => ?_)
        · exact absurd c5 (by decide)
        · skip
          refine lv_iload_n hx hb dX12_cheat_23 rfl (lv_at hl 3 rfl) ?_
          refine lv_i2l (v := (d.toInt64)) hx hb dX12_cheat_24 rfl ?_
          refine lv_lconst (v := 0) hx hb dX12_cheat_25 (by decide) ?_
          refine lv_ldc2 hx hb hown (ht _ m_1369) dX12_cheat_26 ?_
          refine vp_callSi (W.runS (As := [.long (d.toInt64), .long 0, .long 999]) (rest := []) ⟨hx, hb, hml, hown, ht⟩ (c_X12_in l dC dI (d.toInt64) 0 999 (d.toInt) (0) (999) ((Int32.toInt_toInt64 d).trans rfl) (by decide : (0 : Int64).toInt = 0) (by decide : (999 : Int64).toInt = 999)) (kS 3 ht m_1370 m_1371 m_89 m_1372 rfl rfl hd_X12_in_v ⟨Nat.le_of_ble_eq_true rfl, Nat.le_of_ble_eq_true rfl⟩) (sR noP (hK.sub (tys' := []) [] rfl)) rfl rfl hl.1 rfl (lv_room (Nat.le_of_ble_eq_true rfl)) dX12_cheat_29 ⟨Nat.le_of_ble_eq_true rfl, Nat.le_of_ble_eq_true rfl⟩) (fun r6 hr6 => ?_)
          rcases hr6 with ⟨rfl, fr6⟩ | ⟨rfl, fr6⟩
          · skip
            refine lv_if_eq (tgt := 48) hx hb dX12_cheat_32 (by decide) (fun c7 => ?_) (fun c7 => ?_)
            · exact absurd c7 (by decide)
            · skip
              refine lv_iload hx hb dX12_cheat_35 (lv_at hl 4 rfl) ?_
              refine lv_i2l (v := (k.toInt64)) hx hb dX12_cheat_37 rfl ?_
              refine lv_lconst (v := 0) hx hb dX12_cheat_38 (by decide) ?_
              refine lv_ldc2 hx hb hown (ht _ m_1369) dX12_cheat_39 ?_
              refine vp_callSi (W.runS (As := [.long (k.toInt64), .long 0, .long 999]) (rest := []) ⟨hx, hb, hml, hown, ht⟩ (c_X12_in l dC dI (k.toInt64) 0 999 (k.toInt) (0) (999) ((Int32.toInt_toInt64 k).trans rfl) (by decide : (0 : Int64).toInt = 0) (by decide : (999 : Int64).toInt = 999)) (kS 3 ht m_1370 m_1371 m_89 m_1372 rfl rfl hd_X12_in_v ⟨Nat.le_of_ble_eq_true rfl, Nat.le_of_ble_eq_true rfl⟩) (sR noP (hK.sub (tys' := []) [] rfl)) rfl rfl hl.1 rfl (lv_room (Nat.le_of_ble_eq_true rfl)) dX12_cheat_42 ⟨Nat.le_of_ble_eq_true rfl, Nat.le_of_ble_eq_true rfl⟩) (fun r8 hr8 => ?_)
              rcases hr8 with ⟨rfl, fr8⟩ | ⟨rfl, fr8⟩
              · skip
                refine lv_if_ne (tgt := 51) hx hb dX12_cheat_45 (by decide) (fun c9 => ?_) (fun c9 => ?_)
                · skip
                  refine lv_aload_n hx hb dX12_cheat_51 rfl (lv_at hl 0 rfl) ?_
                  refine lv_iload_n hx hb dX12_cheat_52 rfl (lv_at hl 1 rfl) ?_
                  refine lv_iconst (v := 0) hx hb dX12_cheat_53 (by decide) ?_
                  refine lv_aload_n hx hb dX12_cheat_54 rfl (lv_at hl 0 rfl) ?_
                  have i_12_0 : 0 ≤ (iv 12 0).toInt ∧ (iv 12 0).toInt ≤ 3000 := hI.1 12 0
                  refine gM_12_0 hx hb ht hown hK hP m_1139 (v := (iv 12 0)) rfl dX12_cheat_55 ?_
                  have : (-1) ≤ ((iv 12 20) : Int32).toInt ∧ ((iv 12 20) : Int32).toInt ≤ (-1) := ⟨by omega, by omega⟩
                  have : (-1) ≤ ((iv 12 21) : Int32).toInt ∧ ((iv 12 21) : Int32).toInt ≤ (-1) := ⟨by omega, by omega⟩
                  have : (-1) ≤ ((iv 12 22) : Int32).toInt ∧ ((iv 12 22) : Int32).toInt ≤ (-1) := ⟨by omega, by omega⟩
                  have hFc := free_all hD hS hA
                  refine va_calli (va_runV (As := [.int a, .int 0, .int (iv 12 0)]) (rest := []) ⟨hx, hb, hml, hown, ht⟩ (c_X12_sumUp_s l dC dI s.heap.size h g ca iv lv fa la hI a 0 (iv 12 0) (show (-1) ≤ ((iv 12 20) : Int32).toInt ∧ ((iv 12 20) : Int32).toInt ≤ (-1) from ⟨by omega, by omega⟩) (show (-1) ≤ ((iv 12 21) : Int32).toInt ∧ ((iv 12 21) : Int32).toInt ≤ (-1) from ⟨by omega, by omega⟩) (show (-1) ≤ ((iv 12 22) : Int32).toInt ∧ ((iv 12 22) : Int32).toInt ≤ (-1) from ⟨by omega, by omega⟩) hJR) (kV 3 ht m_1434 m_1436 m_45 m_89 m_1437 rfl rfl hd_X12_sumUp_v ⟨Nat.le_of_ble_eq_true rfl, Nat.le_of_ble_eq_true rfl⟩) (vW hP hK hD (rM_12 hK hP)) rfl rfl hl.1 rfl (lv_room (Nat.le_of_ble_eq_true rfl)) dX12_cheat_58 ⟨Nat.le_of_ble_eq_true rfl, Nat.le_of_ble_eq_true rfl⟩) hS (fun q _ h => hFc q h) hFc (fun r10 u t H1 locs ht9 hvm hr10 hB hz1 hk1 hS => ?_)
                  obtain ⟨n11, n12, n13, xr10_0, xr10_1, xr10_2, xr10_3, xr10_4, xr10_5, xr10_6, xr10_7, xr10_8, hr10, rfl⟩ := hr10
                  obtain ⟨hP, hD⟩ := hB
                  rw [ht9] at hP
                  generalize H1 = H at hP hS ⊢
                  have hP : va_P (dC, dI) classes (WM h g ca (u2 iv 12 19 n11) (u2 (u2 lv 12 17 n12) 12 18 n13) fa la) H := hP
                  have hD : va_D A (WM h g ca (u2 iv 12 19 n11) (u2 (u2 lv 12 17 n12) 12 18 n13) fa la) := (show va_D _ (WM h g ca (u2 iv 12 19 n11) (u2 (u2 lv 12 17 n12) 12 18 n13) fa la) from hD).weaken (fun _ _ _ h => hFc _ h)
                  have xr10_0 : 0 ≤ (r10 : Int32).toInt := xr10_0
                  have xr10_1 : (r10 : Int32).toInt ≤ 60 := xr10_1
                  have xr10_2 : 0 ≤ (n13 : Int64).toInt := xr10_2
                  have xr10_3 : (n13 : Int64).toInt ≤ 599940 := xr10_3
                  have xr10_4 : 100 * (r10 : Int32).toInt ≤ (n13 : Int64).toInt := xr10_4
                  have : (0 : Int32).toInt = 0 := (by decide)
                  have i_12_3 : 0 ≤ (iv 12 3).toInt ∧ (iv 12 3).toInt ≤ 60 := hI.1 12 3
                  have xr10_5 : (n12 : Int64).toInt = (smL (fun s : Nat => ((fa 12 4) s).toInt = (a : Int32).toInt ∧ ((fa 12 5) s).toInt = (0 : Int32).toInt ∧ ((fa 12 11) s).toInt ≤ ((iv 12 0) : Int32).toInt ∧ (((fa 12 12) s).toInt < 0 ∨ ((iv 12 0) : Int32).toInt < ((fa 12 12) s).toInt)) (fa 12 8) (((iv 12 3) : Int32).toInt).toNat).toInt := xr10_5
                  have xr10_6 : (n13 : Int64).toInt = (smL (fun s : Nat => ((fa 12 4) s).toInt = (a : Int32).toInt ∧ ((fa 12 5) s).toInt = (0 : Int32).toInt ∧ ((fa 12 11) s).toInt ≤ ((iv 12 0) : Int32).toInt ∧ (((fa 12 12) s).toInt < 0 ∨ ((iv 12 0) : Int32).toInt < ((fa 12 12) s).toInt)) (fa 12 7) (((iv 12 3) : Int32).toInt).toNat).toInt := xr10_6
                  have xr10_7 : (n11 : Int32).toInt = (smC (fun s : Nat => ((fa 12 4) s).toInt = (a : Int32).toInt ∧ ((fa 12 5) s).toInt = (0 : Int32).toInt ∧ ((fa 12 11) s).toInt ≤ ((iv 12 0) : Int32).toInt ∧ (((fa 12 12) s).toInt < 0 ∨ ((iv 12 0) : Int32).toInt < ((fa 12 12) s).toInt)) (((iv 12 3) : Int32).toInt).toNat).toInt := xr10_7
                  have xr10_8 : (r10 : Int32).toInt = (n11 : Int32).toInt := xr10_8
                  refine lv_istore (lv' := [(5, .int r10), (0, .ref h), (1, .int a), (2, .int b), (3, .int d), (4, .int k)]) hx hb dX12_cheat_61 hl (by decide) rfl (fun ls hl => ?_)
                  have hz0 : (0 : Int32).toInt = 0 := by decide
                  have y9_5 := xr10_5
                  rw [hz0] at y9_5
                  have y9_6 := xr10_6
                  rw [hz0] at y9_6
                  have y9_7 := xr10_7
                  rw [hz0] at y9_7
                  have hb9 := smL_b (c := (fun s : Nat => ((fa 12 4) s).toInt = a.toInt ∧ ((fa 12 5) s).toInt = 0 ∧ ((fa 12 11) s).toInt ≤ (iv 12 0).toInt ∧ (((fa 12 12) s).toInt < 0 ∨ (iv 12 0).toInt < ((fa 12 12) s).toInt))) (w := fa 12 7) (lo := 100) (hi := 9999) (by decide) (by decide) (by decide) (iv 12 3).toInt.toNat (by omega) (fun j hj => (hJD j (by omega)).1)
                  refine lv_iload hx hb dX12_cheat_63 (lv_at hl 0 rfl) ?_
                  refine lv_if_ne (tgt := 72) hx hb dX12_cheat_65 (by decide) (fun c14 => ?_) (fun c14 => ?_)
                  · have fc14 := z_ne (rfl : (r10).toInt = _) (by decide : (0 : Int32).toInt = 0) c14
                    refine lv_ldc2 hx hb hown (ht _ m_1543) dX12_cheat_72 ?_
                    refine lv_aload_n hx hb dX12_cheat_75 rfl (lv_at hl 1 rfl) ?_
                    refine gM_12_18 hx hb ht hown hK hP m_1157 (v := n13) rfl dX12_cheat_76 ?_
                    refine lv_aload_n hx hb dX12_cheat_79 rfl (lv_at hl 1 rfl) ?_
                    refine gM_12_17 hx hb ht hown hK hP m_1156 (v := n12) rfl dX12_cheat_80 ?_
                    refine lv_lsub hx hb dX12_cheat_83 ?_
                    refine lv_topl (fun w15 ew15 => ?_)
                    refine lv_lmul hx hb dX12_cheat_84 ?_
                    refine lv_topl (fun w16 ew16 => ?_)
                    refine lv_aload_n hx hb dX12_cheat_85 rfl (lv_at hl 1 rfl) ?_
                    refine gM_12_18 hx hb ht hown hK hP m_1157 (v := n13) rfl dX12_cheat_86 ?_
                    have zw17 : (n13 : Int64).toInt ≠ 0 := by omega
                    refine lv_ldiv hx hb dX12_cheat_89 (l_nz rfl zw17) ?_
                    refine lv_topl (fun w17 ew17 => ?_)
                    obtain ⟨v18, ev18⟩ : ∃ y : Int32, w17.toInt32 = y := ⟨_, rfl⟩
                    refine lv_l2i (v := v18) hx hb dX12_cheat_90 ev18 ?_
                    refine lv_istore (lv' := [(6, .int v18), (5, .int r10), (0, .ref h), (1, .int a), (2, .int b), (3, .int d), (4, .int k)]) hx hb dX12_cheat_91 hl (by decide) rfl (fun ls hl => ?_)
                    refine lv_aload_n hx hb dX12_cheat_93 rfl (lv_at hl 2 rfl) ?_
                    refine gM_12_55 hx hb ht hown hK hP m_1194 dX12_cheat_94 ?_
                    refine lv_iload_n hx hb dX12_cheat_97 rfl (lv_at hl 3 rfl) ?_
                    refine lM_12_55 hx hb hK hP (f := (fa 12 55)) rfl (vp_in_iff.mpr ⟨by omega, by omega⟩) dX12_cheat_98 ?_
                    refine lv_topi (fun v19 ev19 => ?_)
                    refine lv_iload_n hx hb dX12_cheat_99 rfl (lv_at hl 4 rfl) ?_
                    refine lv_icmp_le (tgt := 107) hx hb dX12_cheat_100 (by decide) (fun c20 => ?_) (fun c20 => ?_)
                    · have fc20 := z_le (rfl : (v19).toInt = _) (rfl : (b).toInt = _) c20
                      refine lv_iconst (v := 0) hx hb dX12_cheat_107 (by decide) ?_
                      refine vp_callSi (W.runS (As := [.int 0]) (rest := []) ⟨hx, hb, hml, hown, ht⟩ (c_X12_bit_0 l dC dI) (kS 1 ht m_1396 m_1397 m_89 m_1398 rfl rfl hd_X12_bit_v ⟨Nat.le_of_ble_eq_true rfl, Nat.le_of_ble_eq_true rfl⟩) (sR noP (hK.sub (tys' := []) [] rfl)) rfl rfl hl.1 rfl (lv_room (Nat.le_of_ble_eq_true rfl)) dX12_cheat_108 ⟨Nat.le_of_ble_eq_true rfl, Nat.le_of_ble_eq_true rfl⟩) (fun r21 hr21 => ?_)
                      obtain rfl : 0 = r21 := hr21.symm
                      refine lv_iconst (v := 2) hx hb dX12_cheat_111 (by decide) ?_
                      refine lv_aload_n hx hb dX12_cheat_112 rfl (lv_at hl 2 rfl) ?_
                      refine gM_12_56 hx hb ht hown hK hP m_1195 dX12_cheat_113 ?_
                      refine lv_iload_n hx hb dX12_cheat_116 rfl (lv_at hl 3 rfl) ?_
                      refine lM_12_56 hx hb hK hP (f := (fa 12 56)) rfl (vp_in_iff.mpr ⟨by omega, by omega⟩) dX12_cheat_117 ?_
                      refine lv_topi (fun v22 ev22 => ?_)
                      refine lv_iload_n hx hb dX12_cheat_118 rfl (lv_at hl 5 rfl) ?_
                      refine lv_icmp_le (tgt := 126) hx hb dX12_cheat_119 (by decide) (fun c23 => ?_) (fun c23 => ?_)
                      · have fc23 := z_le (rfl : (v22).toInt = _) (rfl : (d).toInt = _) c23
                        refine lv_iconst (v := 0) hx hb dX12_cheat_126 (by decide) ?_
                        refine vp_callSi (W.runS (As := [.int 0]) (rest := [.int 2, .int 0]) ⟨hx, hb, hml, hown, ht⟩ (c_X12_bit_0 l dC dI) (kS 1 ht m_1396 m_1397 m_89 m_1398 rfl rfl hd_X12_bit_v ⟨Nat.le_of_ble_eq_true rfl, Nat.le_of_ble_eq_true rfl⟩) (sR noP (hK.sub (tys' := []) [] rfl)) rfl rfl hl.1 rfl (lv_room (Nat.le_of_ble_eq_true rfl)) dX12_cheat_127 ⟨Nat.le_of_ble_eq_true rfl, Nat.le_of_ble_eq_true rfl⟩) (fun r24 hr24 => ?_)
                        obtain rfl : 0 = r24 := hr24.symm
                        refine lv_imul hx hb dX12_cheat_130 ?_
                        refine lv_topi (fun v25 ev25 => ?_)
                        obtain rfl : 0 = v25 := (ev25.trans (by decide)).symm
                        refine lv_iadd hx hb dX12_cheat_131 ?_
                        refine lv_topi (fun v26 ev26 => ?_)
                        obtain rfl : 0 = v26 := (ev26.trans (by decide)).symm
                        refine lv_iconst (v := 4) hx hb dX12_cheat_132 (by decide) ?_
                        refine lv_aload_n hx hb dX12_cheat_133 rfl (lv_at hl 2 rfl) ?_
                        refine gM_12_55 hx hb ht hown hK hP m_1194 dX12_cheat_134 ?_
                        refine lv_iload_n hx hb dX12_cheat_137 rfl (lv_at hl 3 rfl) ?_
                        refine lM_12_55 hx hb hK hP (f := (fa 12 55)) rfl (vp_in_iff.mpr ⟨by omega, by omega⟩) dX12_cheat_138 ?_
                        refine lv_topi (fun v27 ev27 => ?_)
                        obtain rfl : v19 = v27 := ev19.trans ev27.symm
                        refine lv_aload_n hx hb dX12_cheat_139 rfl (lv_at hl 2 rfl) ?_
                        refine gM_12_56 hx hb ht hown hK hP m_1195 dX12_cheat_140 ?_
                        refine lv_iload_n hx hb dX12_cheat_143 rfl (lv_at hl 3 rfl) ?_
                        refine lM_12_56 hx hb hK hP (f := (fa 12 56)) rfl (vp_in_iff.mpr ⟨by omega, by omega⟩) dX12_cheat_144 ?_
                        refine lv_topi (fun v28 ev28 => ?_)
                        obtain rfl : v22 = v28 := ev22.trans ev28.symm
                        refine lv_iadd hx hb dX12_cheat_145 ?_
                        refine lv_topi (fun v29 ev29 => ?_)
                        refine lv_iload hx hb dX12_cheat_146 (lv_at hl 0 rfl) ?_
                        refine lv_iadd hx hb dX12_cheat_148 ?_
                        refine lv_topi (fun v30 ev30 => ?_)
                        refine lv_iload hx hb dX12_cheat_149 (lv_at hl 6 rfl) ?_
                        refine lv_icmp_le (tgt := 158) hx hb dX12_cheat_151 (by decide) (fun c31 => ?_) (fun c31 => ?_)
                        · have fc31 := z_le (rfl : (v30).toInt = _) (rfl : (k).toInt = _) c31
                          refine lv_iconst (v := 0) hx hb dX12_cheat_158 (by decide) ?_
                          refine vp_callSi (W.runS (As := [.int 0]) (rest := [.int 4, .int 0]) ⟨hx, hb, hml, hown, ht⟩ (c_X12_bit_0 l dC dI) (kS 1 ht m_1396 m_1397 m_89 m_1398 rfl rfl hd_X12_bit_v ⟨Nat.le_of_ble_eq_true rfl, Nat.le_of_ble_eq_true rfl⟩) (sR noP (hK.sub (tys' := []) [] rfl)) rfl rfl hl.1 rfl (lv_room (Nat.le_of_ble_eq_true rfl)) dX12_cheat_159 ⟨Nat.le_of_ble_eq_true rfl, Nat.le_of_ble_eq_true rfl⟩) (fun r32 hr32 => ?_)
                          obtain rfl : 0 = r32 := hr32.symm
                          refine lv_imul hx hb dX12_cheat_162 ?_
                          refine lv_topi (fun v33 ev33 => ?_)
                          obtain rfl : 0 = v33 := (ev33.trans (by decide)).symm
                          refine lv_iadd hx hb dX12_cheat_163 ?_
                          refine lv_topi (fun v34 ev34 => ?_)
                          obtain rfl : 0 = v34 := (ev34.trans (by decide)).symm
                          have hP9 : va_P (dC, dI) classes (WM h g ca (u2 iv 12 19 n11) (u2 (u2 lv 12 17 n12) 12 18 n13) fa la) H := hP
                          have hD9 : va_D A (WM h g ca (u2 iv 12 19 n11) (u2 (u2 lv 12 17 n12) 12 18 n13) fa la) := hD
                          exact W.iret (v := 0) hx hb hr (fun t ht9 hW => ⟨⟨0, ((u2 iv 12 19 n11), (u2 (u2 lv 12 17 n12) 12 18 n13), fa, la), rfl, ⟨n11, n12, n13, (show (((0 : Int32).toInt = -100001 ∧ ¬ (0 ≤ (a).toInt ∧ (a).toInt < (iv 12 1).toInt)) ∨ ((0 : Int32).toInt = -100002 ∧ (0 ≤ (a).toInt ∧ (a).toInt < (iv 12 1).toInt) ∧ ¬ (0 ≤ (b).toInt ∧ (b).toInt ≤ 999 ∧ 0 ≤ (d).toInt ∧ (d).toInt ≤ 999 ∧ 0 ≤ (k).toInt ∧ (k).toInt ≤ 999)) ∨ ((0 ≤ (a).toInt ∧ (a).toInt < (iv 12 1).toInt) ∧ (0 ≤ (b).toInt ∧ (b).toInt ≤ 999 ∧ 0 ≤ (d).toInt ∧ (d).toInt ≤ 999 ∧ 0 ≤ (k).toInt ∧ (k).toInt ≤ 999) ∧ (0 : Int32).toInt = chF ((fa 12 55) (a).toNatClampNeg) ((fa 12 56) (a).toNatClampNeg) (lossI (smL (fun s : Nat => ((fa 12 4) s).toInt = (a).toInt ∧ ((fa 12 5) s).toInt = 0 ∧ ((fa 12 11) s).toInt ≤ (iv 12 0).toInt ∧ (((fa 12 12) s).toInt < 0 ∨ (iv 12 0).toInt < ((fa 12 12) s).toInt)) (fa 12 7) ((iv 12 3).toInt).toNat) (smL (fun s : Nat => ((fa 12 4) s).toInt = (a).toInt ∧ ((fa 12 5) s).toInt = 0 ∧ ((fa 12 11) s).toInt ≤ (iv 12 0).toInt ∧ (((fa 12 12) s).toInt < 0 ∨ (iv 12 0).toInt < ((fa 12 12) s).toInt)) (fa 12 8) ((iv 12 3).toInt).toNat)) b d k)) from Or.inr (Or.inr ⟨⟨by omega, by omega⟩, ⟨by omega, by omega, by omega, by omega, by omega, by omega⟩, (by have hr9 : (n13 : Int64) = _ := Int64.toInt_inj.mp y9_6; have hd9 : (n12 : Int64) = _ := Int64.toInt_inj.mp y9_5; have hl9 : (v18 : Int32) = lossI (smL (fun s : Nat => ((fa 12 4) s).toInt = a.toInt ∧ ((fa 12 5) s).toInt = 0 ∧ ((fa 12 11) s).toInt ≤ (iv 12 0).toInt ∧ (((fa 12 12) s).toInt < 0 ∨ (iv 12 0).toInt < ((fa 12 12) s).toInt)) (fa 12 7) ((iv 12 3).toInt).toNat) (smL (fun s : Nat => ((fa 12 4) s).toInt = a.toInt ∧ ((fa 12 5) s).toInt = 0 ∧ ((fa 12 11) s).toInt ≤ (iv 12 0).toInt ∧ (((fa 12 12) s).toInt < 0 ∨ (iv 12 0).toInt < ((fa 12 12) s).toInt)) (fa 12 8) ((iv 12 3).toInt).toNat) := (by unfold lossI; rw [← hr9, ← hd9, if_neg (by omega), ← ew15, ← ew16, ← ew17, ev18]); rw [← ev19, ← ev22, ← hl9]; unfold chF; rw [← ev29, ← ev30]; (first | omega | (split <;> (first | omega | (split <;> (first | omega | (split <;> omega)))))))⟩)), ⟨by decide, by decide⟩, rfl⟩, by rw [ht9]; exact hP9, hD9⟩, hS.F ht9⟩) hS.2.2 dX12_cheat_164
                        · have fc31 := z_nle (rfl : (v30).toInt = _) (rfl : (k).toInt = _) c31
                          refine lv_iconst (v := 1) hx hb dX12_cheat_154 (by decide) ?_
                          refine lv_goto (tgt := 159) hx hb dX12_cheat_155 (by decide) ?_
                          refine vp_callSi (W.runS (As := [.int 1]) (rest := [.int 4, .int 0]) ⟨hx, hb, hml, hown, ht⟩ (c_X12_bit_1 l dC dI) (kS 1 ht m_1396 m_1397 m_89 m_1398 rfl rfl hd_X12_bit_v ⟨Nat.le_of_ble_eq_true rfl, Nat.le_of_ble_eq_true rfl⟩) (sR noP (hK.sub (tys' := []) [] rfl)) rfl rfl hl.1 rfl (lv_room (Nat.le_of_ble_eq_true rfl)) dX12_cheat_159 ⟨Nat.le_of_ble_eq_true rfl, Nat.le_of_ble_eq_true rfl⟩) (fun r35 hr35 => ?_)
                          obtain rfl : 1 = r35 := hr35.symm
                          refine lv_imul hx hb dX12_cheat_162 ?_
                          refine lv_topi (fun v36 ev36 => ?_)
                          obtain rfl : 4 = v36 := (ev36.trans (by decide)).symm
                          refine lv_iadd hx hb dX12_cheat_163 ?_
                          refine lv_topi (fun v37 ev37 => ?_)
                          obtain rfl : 4 = v37 := (ev37.trans (by decide)).symm
                          have : (4 : Int32).toInt = 4 := (by decide)
                          have hP9 : va_P (dC, dI) classes (WM h g ca (u2 iv 12 19 n11) (u2 (u2 lv 12 17 n12) 12 18 n13) fa la) H := hP
                          have hD9 : va_D A (WM h g ca (u2 iv 12 19 n11) (u2 (u2 lv 12 17 n12) 12 18 n13) fa la) := hD
                          exact W.iret (v := 4) hx hb hr (fun t ht9 hW => ⟨⟨4, ((u2 iv 12 19 n11), (u2 (u2 lv 12 17 n12) 12 18 n13), fa, la), rfl, ⟨n11, n12, n13, (show (((4 : Int32).toInt = -100001 ∧ ¬ (0 ≤ (a).toInt ∧ (a).toInt < (iv 12 1).toInt)) ∨ ((4 : Int32).toInt = -100002 ∧ (0 ≤ (a).toInt ∧ (a).toInt < (iv 12 1).toInt) ∧ ¬ (0 ≤ (b).toInt ∧ (b).toInt ≤ 999 ∧ 0 ≤ (d).toInt ∧ (d).toInt ≤ 999 ∧ 0 ≤ (k).toInt ∧ (k).toInt ≤ 999)) ∨ ((0 ≤ (a).toInt ∧ (a).toInt < (iv 12 1).toInt) ∧ (0 ≤ (b).toInt ∧ (b).toInt ≤ 999 ∧ 0 ≤ (d).toInt ∧ (d).toInt ≤ 999 ∧ 0 ≤ (k).toInt ∧ (k).toInt ≤ 999) ∧ (4 : Int32).toInt = chF ((fa 12 55) (a).toNatClampNeg) ((fa 12 56) (a).toNatClampNeg) (lossI (smL (fun s : Nat => ((fa 12 4) s).toInt = (a).toInt ∧ ((fa 12 5) s).toInt = 0 ∧ ((fa 12 11) s).toInt ≤ (iv 12 0).toInt ∧ (((fa 12 12) s).toInt < 0 ∨ (iv 12 0).toInt < ((fa 12 12) s).toInt)) (fa 12 7) ((iv 12 3).toInt).toNat) (smL (fun s : Nat => ((fa 12 4) s).toInt = (a).toInt ∧ ((fa 12 5) s).toInt = 0 ∧ ((fa 12 11) s).toInt ≤ (iv 12 0).toInt ∧ (((fa 12 12) s).toInt < 0 ∨ (iv 12 0).toInt < ((fa 12 12) s).toInt)) (fa 12 8) ((iv 12 3).toInt).toNat)) b d k)) from Or.inr (Or.inr ⟨⟨by omega, by omega⟩, ⟨by omega, by omega, by omega, by omega, by omega, by omega⟩, (by have hr9 : (n13 : Int64) = _ := Int64.toInt_inj.mp y9_6; have hd9 : (n12 : Int64) = _ := Int64.toInt_inj.mp y9_5; have hl9 : (v18 : Int32) = lossI (smL (fun s : Nat => ((fa 12 4) s).toInt = a.toInt ∧ ((fa 12 5) s).toInt = 0 ∧ ((fa 12 11) s).toInt ≤ (iv 12 0).toInt ∧ (((fa 12 12) s).toInt < 0 ∨ (iv 12 0).toInt < ((fa 12 12) s).toInt)) (fa 12 7) ((iv 12 3).toInt).toNat) (smL (fun s : Nat => ((fa 12 4) s).toInt = a.toInt ∧ ((fa 12 5) s).toInt = 0 ∧ ((fa 12 11) s).toInt ≤ (iv 12 0).toInt ∧ (((fa 12 12) s).toInt < 0 ∨ (iv 12 0).toInt < ((fa 12 12) s).toInt)) (fa 12 8) ((iv 12 3).toInt).toNat) := (by unfold lossI; rw [← hr9, ← hd9, if_neg (by omega), ← ew15, ← ew16, ← ew17, ev18]); rw [← ev19, ← ev22, ← hl9]; unfold chF; rw [← ev29, ← ev30]; (first | omega | (split <;> (first | omega | (split <;> (first | omega | (split <;> omega)))))))⟩)), ⟨by decide, by decide⟩, rfl⟩, by rw [ht9]; exact hP9, hD9⟩, hS.F ht9⟩) hS.2.2 dX12_cheat_164
                      · have fc23 := z_nle (rfl : (v22).toInt = _) (rfl : (d).toInt = _) c23
                        refine lv_iconst (v := 1) hx hb dX12_cheat_122 (by decide) ?_
                        refine lv_goto (tgt := 127) hx hb dX12_cheat_123 (by decide) ?_
                        refine vp_callSi (W.runS (As := [.int 1]) (rest := [.int 2, .int 0]) ⟨hx, hb, hml, hown, ht⟩ (c_X12_bit_1 l dC dI) (kS 1 ht m_1396 m_1397 m_89 m_1398 rfl rfl hd_X12_bit_v ⟨Nat.le_of_ble_eq_true rfl, Nat.le_of_ble_eq_true rfl⟩) (sR noP (hK.sub (tys' := []) [] rfl)) rfl rfl hl.1 rfl (lv_room (Nat.le_of_ble_eq_true rfl)) dX12_cheat_127 ⟨Nat.le_of_ble_eq_true rfl, Nat.le_of_ble_eq_true rfl⟩) (fun r38 hr38 => ?_)
                        obtain rfl : 1 = r38 := hr38.symm
                        refine lv_imul hx hb dX12_cheat_130 ?_
                        refine lv_topi (fun v39 ev39 => ?_)
                        obtain rfl : 2 = v39 := (ev39.trans (by decide)).symm
                        refine lv_iadd hx hb dX12_cheat_131 ?_
                        refine lv_topi (fun v40 ev40 => ?_)
                        obtain rfl : 2 = v40 := (ev40.trans (by decide)).symm
                        refine lv_iconst (v := 4) hx hb dX12_cheat_132 (by decide) ?_
                        refine lv_aload_n hx hb dX12_cheat_133 rfl (lv_at hl 2 rfl) ?_
                        refine gM_12_55 hx hb ht hown hK hP m_1194 dX12_cheat_134 ?_
                        refine lv_iload_n hx hb dX12_cheat_137 rfl (lv_at hl 3 rfl) ?_
                        refine lM_12_55 hx hb hK hP (f := (fa 12 55)) rfl (vp_in_iff.mpr ⟨by omega, by omega⟩) dX12_cheat_138 ?_
                        refine lv_topi (fun v41 ev41 => ?_)
                        obtain rfl : v19 = v41 := ev19.trans ev41.symm
                        refine lv_aload_n hx hb dX12_cheat_139 rfl (lv_at hl 2 rfl) ?_
                        refine gM_12_56 hx hb ht hown hK hP m_1195 dX12_cheat_140 ?_
                        refine lv_iload_n hx hb dX12_cheat_143 rfl (lv_at hl 3 rfl) ?_
                        refine lM_12_56 hx hb hK hP (f := (fa 12 56)) rfl (vp_in_iff.mpr ⟨by omega, by omega⟩) dX12_cheat_144 ?_
                        refine lv_topi (fun v42 ev42 => ?_)
                        obtain rfl : v22 = v42 := ev22.trans ev42.symm
                        refine lv_iadd hx hb dX12_cheat_145 ?_
                        refine lv_topi (fun v43 ev43 => ?_)
                        refine lv_iload hx hb dX12_cheat_146 (lv_at hl 0 rfl) ?_
                        refine lv_iadd hx hb dX12_cheat_148 ?_
                        refine lv_topi (fun v44 ev44 => ?_)
                        refine lv_iload hx hb dX12_cheat_149 (lv_at hl 6 rfl) ?_
                        refine lv_icmp_le (tgt := 158) hx hb dX12_cheat_151 (by decide) (fun c45 => ?_) (fun c45 => ?_)
                        · have fc45 := z_le (rfl : (v44).toInt = _) (rfl : (k).toInt = _) c45
                          refine lv_iconst (v := 0) hx hb dX12_cheat_158 (by decide) ?_
                          refine vp_callSi (W.runS (As := [.int 0]) (rest := [.int 4, .int 2]) ⟨hx, hb, hml, hown, ht⟩ (c_X12_bit_0 l dC dI) (kS 1 ht m_1396 m_1397 m_89 m_1398 rfl rfl hd_X12_bit_v ⟨Nat.le_of_ble_eq_true rfl, Nat.le_of_ble_eq_true rfl⟩) (sR noP (hK.sub (tys' := []) [] rfl)) rfl rfl hl.1 rfl (lv_room (Nat.le_of_ble_eq_true rfl)) dX12_cheat_159 ⟨Nat.le_of_ble_eq_true rfl, Nat.le_of_ble_eq_true rfl⟩) (fun r46 hr46 => ?_)
                          obtain rfl : 0 = r46 := hr46.symm
                          refine lv_imul hx hb dX12_cheat_162 ?_
                          refine lv_topi (fun v47 ev47 => ?_)
                          obtain rfl : 0 = v47 := (ev47.trans (by decide)).symm
                          refine lv_iadd hx hb dX12_cheat_163 ?_
                          refine lv_topi (fun v48 ev48 => ?_)
                          obtain rfl : 2 = v48 := (ev48.trans (by decide)).symm
                          have : (2 : Int32).toInt = 2 := (by decide)
                          have hP9 : va_P (dC, dI) classes (WM h g ca (u2 iv 12 19 n11) (u2 (u2 lv 12 17 n12) 12 18 n13) fa la) H := hP
                          have hD9 : va_D A (WM h g ca (u2 iv 12 19 n11) (u2 (u2 lv 12 17 n12) 12 18 n13) fa la) := hD
                          exact W.iret (v := 2) hx hb hr (fun t ht9 hW => ⟨⟨2, ((u2 iv 12 19 n11), (u2 (u2 lv 12 17 n12) 12 18 n13), fa, la), rfl, ⟨n11, n12, n13, (show (((2 : Int32).toInt = -100001 ∧ ¬ (0 ≤ (a).toInt ∧ (a).toInt < (iv 12 1).toInt)) ∨ ((2 : Int32).toInt = -100002 ∧ (0 ≤ (a).toInt ∧ (a).toInt < (iv 12 1).toInt) ∧ ¬ (0 ≤ (b).toInt ∧ (b).toInt ≤ 999 ∧ 0 ≤ (d).toInt ∧ (d).toInt ≤ 999 ∧ 0 ≤ (k).toInt ∧ (k).toInt ≤ 999)) ∨ ((0 ≤ (a).toInt ∧ (a).toInt < (iv 12 1).toInt) ∧ (0 ≤ (b).toInt ∧ (b).toInt ≤ 999 ∧ 0 ≤ (d).toInt ∧ (d).toInt ≤ 999 ∧ 0 ≤ (k).toInt ∧ (k).toInt ≤ 999) ∧ (2 : Int32).toInt = chF ((fa 12 55) (a).toNatClampNeg) ((fa 12 56) (a).toNatClampNeg) (lossI (smL (fun s : Nat => ((fa 12 4) s).toInt = (a).toInt ∧ ((fa 12 5) s).toInt = 0 ∧ ((fa 12 11) s).toInt ≤ (iv 12 0).toInt ∧ (((fa 12 12) s).toInt < 0 ∨ (iv 12 0).toInt < ((fa 12 12) s).toInt)) (fa 12 7) ((iv 12 3).toInt).toNat) (smL (fun s : Nat => ((fa 12 4) s).toInt = (a).toInt ∧ ((fa 12 5) s).toInt = 0 ∧ ((fa 12 11) s).toInt ≤ (iv 12 0).toInt ∧ (((fa 12 12) s).toInt < 0 ∨ (iv 12 0).toInt < ((fa 12 12) s).toInt)) (fa 12 8) ((iv 12 3).toInt).toNat)) b d k)) from Or.inr (Or.inr ⟨⟨by omega, by omega⟩, ⟨by omega, by omega, by omega, by omega, by omega, by omega⟩, (by have hr9 : (n13 : Int64) = _ := Int64.toInt_inj.mp y9_6; have hd9 : (n12 : Int64) = _ := Int64.toInt_inj.mp y9_5; have hl9 : (v18 : Int32) = lossI (smL (fun s : Nat => ((fa 12 4) s).toInt = a.toInt ∧ ((fa 12 5) s).toInt = 0 ∧ ((fa 12 11) s).toInt ≤ (iv 12 0).toInt ∧ (((fa 12 12) s).toInt < 0 ∨ (iv 12 0).toInt < ((fa 12 12) s).toInt)) (fa 12 7) ((iv 12 3).toInt).toNat) (smL (fun s : Nat => ((fa 12 4) s).toInt = a.toInt ∧ ((fa 12 5) s).toInt = 0 ∧ ((fa 12 11) s).toInt ≤ (iv 12 0).toInt ∧ (((fa 12 12) s).toInt < 0 ∨ (iv 12 0).toInt < ((fa 12 12) s).toInt)) (fa 12 8) ((iv 12 3).toInt).toNat) := (by unfold lossI; rw [← hr9, ← hd9, if_neg (by omega), ← ew15, ← ew16, ← ew17, ev18]); rw [← ev19, ← ev22, ← hl9]; unfold chF; rw [← ev43, ← ev44]; (first | omega | (split <;> (first | omega | (split <;> (first | omega | (split <;> omega)))))))⟩)), ⟨by decide, by decide⟩, rfl⟩, by rw [ht9]; exact hP9, hD9⟩, hS.F ht9⟩) hS.2.2 dX12_cheat_164
                        · have fc45 := z_nle (rfl : (v44).toInt = _) (rfl : (k).toInt = _) c45
                          refine lv_iconst (v := 1) hx hb dX12_cheat_154 (by decide) ?_
                          refine lv_goto (tgt := 159) hx hb dX12_cheat_155 (by decide) ?_
                          refine vp_callSi (W.runS (As := [.int 1]) (rest := [.int 4, .int 2]) ⟨hx, hb, hml, hown, ht⟩ (c_X12_bit_1 l dC dI) (kS 1 ht m_1396 m_1397 m_89 m_1398 rfl rfl hd_X12_bit_v ⟨Nat.le_of_ble_eq_true rfl, Nat.le_of_ble_eq_true rfl⟩) (sR noP (hK.sub (tys' := []) [] rfl)) rfl rfl hl.1 rfl (lv_room (Nat.le_of_ble_eq_true rfl)) dX12_cheat_159 ⟨Nat.le_of_ble_eq_true rfl, Nat.le_of_ble_eq_true rfl⟩) (fun r49 hr49 => ?_)
                          obtain rfl : 1 = r49 := hr49.symm
                          refine lv_imul hx hb dX12_cheat_162 ?_
                          refine lv_topi (fun v50 ev50 => ?_)
                          obtain rfl : 4 = v50 := (ev50.trans (by decide)).symm
                          refine lv_iadd hx hb dX12_cheat_163 ?_
                          refine lv_topi (fun v51 ev51 => ?_)
                          obtain rfl : 6 = v51 := (ev51.trans (by decide)).symm
                          have : (6 : Int32).toInt = 6 := (by decide)
                          have hP9 : va_P (dC, dI) classes (WM h g ca (u2 iv 12 19 n11) (u2 (u2 lv 12 17 n12) 12 18 n13) fa la) H := hP
                          have hD9 : va_D A (WM h g ca (u2 iv 12 19 n11) (u2 (u2 lv 12 17 n12) 12 18 n13) fa la) := hD
                          exact W.iret (v := 6) hx hb hr (fun t ht9 hW => ⟨⟨6, ((u2 iv 12 19 n11), (u2 (u2 lv 12 17 n12) 12 18 n13), fa, la), rfl, ⟨n11, n12, n13, (show (((6 : Int32).toInt = -100001 ∧ ¬ (0 ≤ (a).toInt ∧ (a).toInt < (iv 12 1).toInt)) ∨ ((6 : Int32).toInt = -100002 ∧ (0 ≤ (a).toInt ∧ (a).toInt < (iv 12 1).toInt) ∧ ¬ (0 ≤ (b).toInt ∧ (b).toInt ≤ 999 ∧ 0 ≤ (d).toInt ∧ (d).toInt ≤ 999 ∧ 0 ≤ (k).toInt ∧ (k).toInt ≤ 999)) ∨ ((0 ≤ (a).toInt ∧ (a).toInt < (iv 12 1).toInt) ∧ (0 ≤ (b).toInt ∧ (b).toInt ≤ 999 ∧ 0 ≤ (d).toInt ∧ (d).toInt ≤ 999 ∧ 0 ≤ (k).toInt ∧ (k).toInt ≤ 999) ∧ (6 : Int32).toInt = chF ((fa 12 55) (a).toNatClampNeg) ((fa 12 56) (a).toNatClampNeg) (lossI (smL (fun s : Nat => ((fa 12 4) s).toInt = (a).toInt ∧ ((fa 12 5) s).toInt = 0 ∧ ((fa 12 11) s).toInt ≤ (iv 12 0).toInt ∧ (((fa 12 12) s).toInt < 0 ∨ (iv 12 0).toInt < ((fa 12 12) s).toInt)) (fa 12 7) ((iv 12 3).toInt).toNat) (smL (fun s : Nat => ((fa 12 4) s).toInt = (a).toInt ∧ ((fa 12 5) s).toInt = 0 ∧ ((fa 12 11) s).toInt ≤ (iv 12 0).toInt ∧ (((fa 12 12) s).toInt < 0 ∨ (iv 12 0).toInt < ((fa 12 12) s).toInt)) (fa 12 8) ((iv 12 3).toInt).toNat)) b d k)) from Or.inr (Or.inr ⟨⟨by omega, by omega⟩, ⟨by omega, by omega, by omega, by omega, by omega, by omega⟩, (by have hr9 : (n13 : Int64) = _ := Int64.toInt_inj.mp y9_6; have hd9 : (n12 : Int64) = _ := Int64.toInt_inj.mp y9_5; have hl9 : (v18 : Int32) = lossI (smL (fun s : Nat => ((fa 12 4) s).toInt = a.toInt ∧ ((fa 12 5) s).toInt = 0 ∧ ((fa 12 11) s).toInt ≤ (iv 12 0).toInt ∧ (((fa 12 12) s).toInt < 0 ∨ (iv 12 0).toInt < ((fa 12 12) s).toInt)) (fa 12 7) ((iv 12 3).toInt).toNat) (smL (fun s : Nat => ((fa 12 4) s).toInt = a.toInt ∧ ((fa 12 5) s).toInt = 0 ∧ ((fa 12 11) s).toInt ≤ (iv 12 0).toInt ∧ (((fa 12 12) s).toInt < 0 ∨ (iv 12 0).toInt < ((fa 12 12) s).toInt)) (fa 12 8) ((iv 12 3).toInt).toNat) := (by unfold lossI; rw [← hr9, ← hd9, if_neg (by omega), ← ew15, ← ew16, ← ew17, ev18]); rw [← ev19, ← ev22, ← hl9]; unfold chF; rw [← ev43, ← ev44]; (first | omega | (split <;> (first | omega | (split <;> (first | omega | (split <;> omega)))))))⟩)), ⟨by decide, by decide⟩, rfl⟩, by rw [ht9]; exact hP9, hD9⟩, hS.F ht9⟩) hS.2.2 dX12_cheat_164
                    · have fc20 := z_nle (rfl : (v19).toInt = _) (rfl : (b).toInt = _) c20
                      refine lv_iconst (v := 1) hx hb dX12_cheat_103 (by decide) ?_
                      refine lv_goto (tgt := 108) hx hb dX12_cheat_104 (by decide) ?_
                      refine vp_callSi (W.runS (As := [.int 1]) (rest := []) ⟨hx, hb, hml, hown, ht⟩ (c_X12_bit_1 l dC dI) (kS 1 ht m_1396 m_1397 m_89 m_1398 rfl rfl hd_X12_bit_v ⟨Nat.le_of_ble_eq_true rfl, Nat.le_of_ble_eq_true rfl⟩) (sR noP (hK.sub (tys' := []) [] rfl)) rfl rfl hl.1 rfl (lv_room (Nat.le_of_ble_eq_true rfl)) dX12_cheat_108 ⟨Nat.le_of_ble_eq_true rfl, Nat.le_of_ble_eq_true rfl⟩) (fun r52 hr52 => ?_)
                      obtain rfl : 1 = r52 := hr52.symm
                      refine lv_iconst (v := 2) hx hb dX12_cheat_111 (by decide) ?_
                      refine lv_aload_n hx hb dX12_cheat_112 rfl (lv_at hl 2 rfl) ?_
                      refine gM_12_56 hx hb ht hown hK hP m_1195 dX12_cheat_113 ?_
                      refine lv_iload_n hx hb dX12_cheat_116 rfl (lv_at hl 3 rfl) ?_
                      refine lM_12_56 hx hb hK hP (f := (fa 12 56)) rfl (vp_in_iff.mpr ⟨by omega, by omega⟩) dX12_cheat_117 ?_
                      refine lv_topi (fun v53 ev53 => ?_)
                      refine lv_iload_n hx hb dX12_cheat_118 rfl (lv_at hl 5 rfl) ?_
                      refine lv_icmp_le (tgt := 126) hx hb dX12_cheat_119 (by decide) (fun c54 => ?_) (fun c54 => ?_)
                      · have fc54 := z_le (rfl : (v53).toInt = _) (rfl : (d).toInt = _) c54
                        refine lv_iconst (v := 0) hx hb dX12_cheat_126 (by decide) ?_
                        refine vp_callSi (W.runS (As := [.int 0]) (rest := [.int 2, .int 1]) ⟨hx, hb, hml, hown, ht⟩ (c_X12_bit_0 l dC dI) (kS 1 ht m_1396 m_1397 m_89 m_1398 rfl rfl hd_X12_bit_v ⟨Nat.le_of_ble_eq_true rfl, Nat.le_of_ble_eq_true rfl⟩) (sR noP (hK.sub (tys' := []) [] rfl)) rfl rfl hl.1 rfl (lv_room (Nat.le_of_ble_eq_true rfl)) dX12_cheat_127 ⟨Nat.le_of_ble_eq_true rfl, Nat.le_of_ble_eq_true rfl⟩) (fun r55 hr55 => ?_)
                        obtain rfl : 0 = r55 := hr55.symm
                        refine lv_imul hx hb dX12_cheat_130 ?_
                        refine lv_topi (fun v56 ev56 => ?_)
                        obtain rfl : 0 = v56 := (ev56.trans (by decide)).symm
                        refine lv_iadd hx hb dX12_cheat_131 ?_
                        refine lv_topi (fun v57 ev57 => ?_)
                        obtain rfl : 1 = v57 := (ev57.trans (by decide)).symm
                        refine lv_iconst (v := 4) hx hb dX12_cheat_132 (by decide) ?_
                        refine lv_aload_n hx hb dX12_cheat_133 rfl (lv_at hl 2 rfl) ?_
                        refine gM_12_55 hx hb ht hown hK hP m_1194 dX12_cheat_134 ?_
                        refine lv_iload_n hx hb dX12_cheat_137 rfl (lv_at hl 3 rfl) ?_
                        refine lM_12_55 hx hb hK hP (f := (fa 12 55)) rfl (vp_in_iff.mpr ⟨by omega, by omega⟩) dX12_cheat_138 ?_
                        refine lv_topi (fun v58 ev58 => ?_)
                        obtain rfl : v19 = v58 := ev19.trans ev58.symm
                        refine lv_aload_n hx hb dX12_cheat_139 rfl (lv_at hl 2 rfl) ?_
                        refine gM_12_56 hx hb ht hown hK hP m_1195 dX12_cheat_140 ?_
                        refine lv_iload_n hx hb dX12_cheat_143 rfl (lv_at hl 3 rfl) ?_
                        refine lM_12_56 hx hb hK hP (f := (fa 12 56)) rfl (vp_in_iff.mpr ⟨by omega, by omega⟩) dX12_cheat_144 ?_
                        refine lv_topi (fun v59 ev59 => ?_)
                        obtain rfl : v53 = v59 := ev53.trans ev59.symm
                        refine lv_iadd hx hb dX12_cheat_145 ?_
                        refine lv_topi (fun v60 ev60 => ?_)
                        refine lv_iload hx hb dX12_cheat_146 (lv_at hl 0 rfl) ?_
                        refine lv_iadd hx hb dX12_cheat_148 ?_
                        refine lv_topi (fun v61 ev61 => ?_)
                        refine lv_iload hx hb dX12_cheat_149 (lv_at hl 6 rfl) ?_
                        refine lv_icmp_le (tgt := 158) hx hb dX12_cheat_151 (by decide) (fun c62 => ?_) (fun c62 => ?_)
                        · have fc62 := z_le (rfl : (v61).toInt = _) (rfl : (k).toInt = _) c62
                          refine lv_iconst (v := 0) hx hb dX12_cheat_158 (by decide) ?_
                          refine vp_callSi (W.runS (As := [.int 0]) (rest := [.int 4, .int 1]) ⟨hx, hb, hml, hown, ht⟩ (c_X12_bit_0 l dC dI) (kS 1 ht m_1396 m_1397 m_89 m_1398 rfl rfl hd_X12_bit_v ⟨Nat.le_of_ble_eq_true rfl, Nat.le_of_ble_eq_true rfl⟩) (sR noP (hK.sub (tys' := []) [] rfl)) rfl rfl hl.1 rfl (lv_room (Nat.le_of_ble_eq_true rfl)) dX12_cheat_159 ⟨Nat.le_of_ble_eq_true rfl, Nat.le_of_ble_eq_true rfl⟩) (fun r63 hr63 => ?_)
                          obtain rfl : 0 = r63 := hr63.symm
                          refine lv_imul hx hb dX12_cheat_162 ?_
                          refine lv_topi (fun v64 ev64 => ?_)
                          obtain rfl : 0 = v64 := (ev64.trans (by decide)).symm
                          refine lv_iadd hx hb dX12_cheat_163 ?_
                          refine lv_topi (fun v65 ev65 => ?_)
                          obtain rfl : 1 = v65 := (ev65.trans (by decide)).symm
                          have : (1 : Int32).toInt = 1 := (by decide)
                          have hP9 : va_P (dC, dI) classes (WM h g ca (u2 iv 12 19 n11) (u2 (u2 lv 12 17 n12) 12 18 n13) fa la) H := hP
                          have hD9 : va_D A (WM h g ca (u2 iv 12 19 n11) (u2 (u2 lv 12 17 n12) 12 18 n13) fa la) := hD
                          exact W.iret (v := 1) hx hb hr (fun t ht9 hW => ⟨⟨1, ((u2 iv 12 19 n11), (u2 (u2 lv 12 17 n12) 12 18 n13), fa, la), rfl, ⟨n11, n12, n13, (show (((1 : Int32).toInt = -100001 ∧ ¬ (0 ≤ (a).toInt ∧ (a).toInt < (iv 12 1).toInt)) ∨ ((1 : Int32).toInt = -100002 ∧ (0 ≤ (a).toInt ∧ (a).toInt < (iv 12 1).toInt) ∧ ¬ (0 ≤ (b).toInt ∧ (b).toInt ≤ 999 ∧ 0 ≤ (d).toInt ∧ (d).toInt ≤ 999 ∧ 0 ≤ (k).toInt ∧ (k).toInt ≤ 999)) ∨ ((0 ≤ (a).toInt ∧ (a).toInt < (iv 12 1).toInt) ∧ (0 ≤ (b).toInt ∧ (b).toInt ≤ 999 ∧ 0 ≤ (d).toInt ∧ (d).toInt ≤ 999 ∧ 0 ≤ (k).toInt ∧ (k).toInt ≤ 999) ∧ (1 : Int32).toInt = chF ((fa 12 55) (a).toNatClampNeg) ((fa 12 56) (a).toNatClampNeg) (lossI (smL (fun s : Nat => ((fa 12 4) s).toInt = (a).toInt ∧ ((fa 12 5) s).toInt = 0 ∧ ((fa 12 11) s).toInt ≤ (iv 12 0).toInt ∧ (((fa 12 12) s).toInt < 0 ∨ (iv 12 0).toInt < ((fa 12 12) s).toInt)) (fa 12 7) ((iv 12 3).toInt).toNat) (smL (fun s : Nat => ((fa 12 4) s).toInt = (a).toInt ∧ ((fa 12 5) s).toInt = 0 ∧ ((fa 12 11) s).toInt ≤ (iv 12 0).toInt ∧ (((fa 12 12) s).toInt < 0 ∨ (iv 12 0).toInt < ((fa 12 12) s).toInt)) (fa 12 8) ((iv 12 3).toInt).toNat)) b d k)) from Or.inr (Or.inr ⟨⟨by omega, by omega⟩, ⟨by omega, by omega, by omega, by omega, by omega, by omega⟩, (by have hr9 : (n13 : Int64) = _ := Int64.toInt_inj.mp y9_6; have hd9 : (n12 : Int64) = _ := Int64.toInt_inj.mp y9_5; have hl9 : (v18 : Int32) = lossI (smL (fun s : Nat => ((fa 12 4) s).toInt = a.toInt ∧ ((fa 12 5) s).toInt = 0 ∧ ((fa 12 11) s).toInt ≤ (iv 12 0).toInt ∧ (((fa 12 12) s).toInt < 0 ∨ (iv 12 0).toInt < ((fa 12 12) s).toInt)) (fa 12 7) ((iv 12 3).toInt).toNat) (smL (fun s : Nat => ((fa 12 4) s).toInt = a.toInt ∧ ((fa 12 5) s).toInt = 0 ∧ ((fa 12 11) s).toInt ≤ (iv 12 0).toInt ∧ (((fa 12 12) s).toInt < 0 ∨ (iv 12 0).toInt < ((fa 12 12) s).toInt)) (fa 12 8) ((iv 12 3).toInt).toNat) := (by unfold lossI; rw [← hr9, ← hd9, if_neg (by omega), ← ew15, ← ew16, ← ew17, ev18]); rw [← ev19, ← ev53, ← hl9]; unfold chF; rw [← ev60, ← ev61]; (first | omega | (split <;> (first | omega | (split <;> (first | omega | (split <;> omega)))))))⟩)), ⟨by decide, by decide⟩, rfl⟩, by rw [ht9]; exact hP9, hD9⟩, hS.F ht9⟩) hS.2.2 dX12_cheat_164
                        · have fc62 := z_nle (rfl : (v61).toInt = _) (rfl : (k).toInt = _) c62
                          refine lv_iconst (v := 1) hx hb dX12_cheat_154 (by decide) ?_
                          refine lv_goto (tgt := 159) hx hb dX12_cheat_155 (by decide) ?_
                          refine vp_callSi (W.runS (As := [.int 1]) (rest := [.int 4, .int 1]) ⟨hx, hb, hml, hown, ht⟩ (c_X12_bit_1 l dC dI) (kS 1 ht m_1396 m_1397 m_89 m_1398 rfl rfl hd_X12_bit_v ⟨Nat.le_of_ble_eq_true rfl, Nat.le_of_ble_eq_true rfl⟩) (sR noP (hK.sub (tys' := []) [] rfl)) rfl rfl hl.1 rfl (lv_room (Nat.le_of_ble_eq_true rfl)) dX12_cheat_159 ⟨Nat.le_of_ble_eq_true rfl, Nat.le_of_ble_eq_true rfl⟩) (fun r66 hr66 => ?_)
                          obtain rfl : 1 = r66 := hr66.symm
                          refine lv_imul hx hb dX12_cheat_162 ?_
                          refine lv_topi (fun v67 ev67 => ?_)
                          obtain rfl : 4 = v67 := (ev67.trans (by decide)).symm
                          refine lv_iadd hx hb dX12_cheat_163 ?_
                          refine lv_topi (fun v68 ev68 => ?_)
                          obtain rfl : 5 = v68 := (ev68.trans (by decide)).symm
                          have : (5 : Int32).toInt = 5 := (by decide)
                          have hP9 : va_P (dC, dI) classes (WM h g ca (u2 iv 12 19 n11) (u2 (u2 lv 12 17 n12) 12 18 n13) fa la) H := hP
                          have hD9 : va_D A (WM h g ca (u2 iv 12 19 n11) (u2 (u2 lv 12 17 n12) 12 18 n13) fa la) := hD
                          exact W.iret (v := 5) hx hb hr (fun t ht9 hW => ⟨⟨5, ((u2 iv 12 19 n11), (u2 (u2 lv 12 17 n12) 12 18 n13), fa, la), rfl, ⟨n11, n12, n13, (show (((5 : Int32).toInt = -100001 ∧ ¬ (0 ≤ (a).toInt ∧ (a).toInt < (iv 12 1).toInt)) ∨ ((5 : Int32).toInt = -100002 ∧ (0 ≤ (a).toInt ∧ (a).toInt < (iv 12 1).toInt) ∧ ¬ (0 ≤ (b).toInt ∧ (b).toInt ≤ 999 ∧ 0 ≤ (d).toInt ∧ (d).toInt ≤ 999 ∧ 0 ≤ (k).toInt ∧ (k).toInt ≤ 999)) ∨ ((0 ≤ (a).toInt ∧ (a).toInt < (iv 12 1).toInt) ∧ (0 ≤ (b).toInt ∧ (b).toInt ≤ 999 ∧ 0 ≤ (d).toInt ∧ (d).toInt ≤ 999 ∧ 0 ≤ (k).toInt ∧ (k).toInt ≤ 999) ∧ (5 : Int32).toInt = chF ((fa 12 55) (a).toNatClampNeg) ((fa 12 56) (a).toNatClampNeg) (lossI (smL (fun s : Nat => ((fa 12 4) s).toInt = (a).toInt ∧ ((fa 12 5) s).toInt = 0 ∧ ((fa 12 11) s).toInt ≤ (iv 12 0).toInt ∧ (((fa 12 12) s).toInt < 0 ∨ (iv 12 0).toInt < ((fa 12 12) s).toInt)) (fa 12 7) ((iv 12 3).toInt).toNat) (smL (fun s : Nat => ((fa 12 4) s).toInt = (a).toInt ∧ ((fa 12 5) s).toInt = 0 ∧ ((fa 12 11) s).toInt ≤ (iv 12 0).toInt ∧ (((fa 12 12) s).toInt < 0 ∨ (iv 12 0).toInt < ((fa 12 12) s).toInt)) (fa 12 8) ((iv 12 3).toInt).toNat)) b d k)) from Or.inr (Or.inr ⟨⟨by omega, by omega⟩, ⟨by omega, by omega, by omega, by omega, by omega, by omega⟩, (by have hr9 : (n13 : Int64) = _ := Int64.toInt_inj.mp y9_6; have hd9 : (n12 : Int64) = _ := Int64.toInt_inj.mp y9_5; have hl9 : (v18 : Int32) = lossI (smL (fun s : Nat => ((fa 12 4) s).toInt = a.toInt ∧ ((fa 12 5) s).toInt = 0 ∧ ((fa 12 11) s).toInt ≤ (iv 12 0).toInt ∧ (((fa 12 12) s).toInt < 0 ∨ (iv 12 0).toInt < ((fa 12 12) s).toInt)) (fa 12 7) ((iv 12 3).toInt).toNat) (smL (fun s : Nat => ((fa 12 4) s).toInt = a.toInt ∧ ((fa 12 5) s).toInt = 0 ∧ ((fa 12 11) s).toInt ≤ (iv 12 0).toInt ∧ (((fa 12 12) s).toInt < 0 ∨ (iv 12 0).toInt < ((fa 12 12) s).toInt)) (fa 12 8) ((iv 12 3).toInt).toNat) := (by unfold lossI; rw [← hr9, ← hd9, if_neg (by omega), ← ew15, ← ew16, ← ew17, ev18]); rw [← ev19, ← ev53, ← hl9]; unfold chF; rw [← ev60, ← ev61]; (first | omega | (split <;> (first | omega | (split <;> (first | omega | (split <;> omega)))))))⟩)), ⟨by decide, by decide⟩, rfl⟩, by rw [ht9]; exact hP9, hD9⟩, hS.F ht9⟩) hS.2.2 dX12_cheat_164
                      · have fc54 := z_nle (rfl : (v53).toInt = _) (rfl : (d).toInt = _) c54
                        refine lv_iconst (v := 1) hx hb dX12_cheat_122 (by decide) ?_
                        refine lv_goto (tgt := 127) hx hb dX12_cheat_123 (by decide) ?_
                        refine vp_callSi (W.runS (As := [.int 1]) (rest := [.int 2, .int 1]) ⟨hx, hb, hml, hown, ht⟩ (c_X12_bit_1 l dC dI) (kS 1 ht m_1396 m_1397 m_89 m_1398 rfl rfl hd_X12_bit_v ⟨Nat.le_of_ble_eq_true rfl, Nat.le_of_ble_eq_true rfl⟩) (sR noP (hK.sub (tys' := []) [] rfl)) rfl rfl hl.1 rfl (lv_room (Nat.le_of_ble_eq_true rfl)) dX12_cheat_127 ⟨Nat.le_of_ble_eq_true rfl, Nat.le_of_ble_eq_true rfl⟩) (fun r69 hr69 => ?_)
                        obtain rfl : 1 = r69 := hr69.symm
                        refine lv_imul hx hb dX12_cheat_130 ?_
                        refine lv_topi (fun v70 ev70 => ?_)
                        obtain rfl : 2 = v70 := (ev70.trans (by decide)).symm
                        refine lv_iadd hx hb dX12_cheat_131 ?_
                        refine lv_topi (fun v71 ev71 => ?_)
                        obtain rfl : 3 = v71 := (ev71.trans (by decide)).symm
                        refine lv_iconst (v := 4) hx hb dX12_cheat_132 (by decide) ?_
                        refine lv_aload_n hx hb dX12_cheat_133 rfl (lv_at hl 2 rfl) ?_
                        refine gM_12_55 hx hb ht hown hK hP m_1194 dX12_cheat_134 ?_
                        refine lv_iload_n hx hb dX12_cheat_137 rfl (lv_at hl 3 rfl) ?_
                        refine lM_12_55 hx hb hK hP (f := (fa 12 55)) rfl (vp_in_iff.mpr ⟨by omega, by omega⟩) dX12_cheat_138 ?_
                        refine lv_topi (fun v72 ev72 => ?_)
                        obtain rfl : v19 = v72 := ev19.trans ev72.symm
                        refine lv_aload_n hx hb dX12_cheat_139 rfl (lv_at hl 2 rfl) ?_
                        refine gM_12_56 hx hb ht hown hK hP m_1195 dX12_cheat_140 ?_
                        refine lv_iload_n hx hb dX12_cheat_143 rfl (lv_at hl 3 rfl) ?_
                        refine lM_12_56 hx hb hK hP (f := (fa 12 56)) rfl (vp_in_iff.mpr ⟨by omega, by omega⟩) dX12_cheat_144 ?_
                        refine lv_topi (fun v73 ev73 => ?_)
                        obtain rfl : v53 = v73 := ev53.trans ev73.symm
                        refine lv_iadd hx hb dX12_cheat_145 ?_
                        refine lv_topi (fun v74 ev74 => ?_)
                        refine lv_iload hx hb dX12_cheat_146 (lv_at hl 0 rfl) ?_
                        refine lv_iadd hx hb dX12_cheat_148 ?_
                        refine lv_topi (fun v75 ev75 => ?_)
                        refine lv_iload hx hb dX12_cheat_149 (lv_at hl 6 rfl) ?_
                        refine lv_icmp_le (tgt := 158) hx hb dX12_cheat_151 (by decide) (fun c76 => ?_) (fun c76 => ?_)
                        · have fc76 := z_le (rfl : (v75).toInt = _) (rfl : (k).toInt = _) c76
                          refine lv_iconst (v := 0) hx hb dX12_cheat_158 (by decide) ?_
                          refine vp_callSi (W.runS (As := [.int 0]) (rest := [.int 4, .int 3]) ⟨hx, hb, hml, hown, ht⟩ (c_X12_bit_0 l dC dI) (kS 1 ht m_1396 m_1397 m_89 m_1398 rfl rfl hd_X12_bit_v ⟨Nat.le_of_ble_eq_true rfl, Nat.le_of_ble_eq_true rfl⟩) (sR noP (hK.sub (tys' := []) [] rfl)) rfl rfl hl.1 rfl (lv_room (Nat.le_of_ble_eq_true rfl)) dX12_cheat_159 ⟨Nat.le_of_ble_eq_true rfl, Nat.le_of_ble_eq_true rfl⟩) (fun r77 hr77 => ?_)
                          obtain rfl : 0 = r77 := hr77.symm
                          refine lv_imul hx hb dX12_cheat_162 ?_
                          refine lv_topi (fun v78 ev78 => ?_)
                          obtain rfl : 0 = v78 := (ev78.trans (by decide)).symm
                          refine lv_iadd hx hb dX12_cheat_163 ?_
                          refine lv_topi (fun v79 ev79 => ?_)
                          obtain rfl : 3 = v79 := (ev79.trans (by decide)).symm
                          have : (3 : Int32).toInt = 3 := (by decide)
                          have hP9 : va_P (dC, dI) classes (WM h g ca (u2 iv 12 19 n11) (u2 (u2 lv 12 17 n12) 12 18 n13) fa la) H := hP
                          have hD9 : va_D A (WM h g ca (u2 iv 12 19 n11) (u2 (u2 lv 12 17 n12) 12 18 n13) fa la) := hD
                          exact W.iret (v := 3) hx hb hr (fun t ht9 hW => ⟨⟨3, ((u2 iv 12 19 n11), (u2 (u2 lv 12 17 n12) 12 18 n13), fa, la), rfl, ⟨n11, n12, n13, (show (((3 : Int32).toInt = -100001 ∧ ¬ (0 ≤ (a).toInt ∧ (a).toInt < (iv 12 1).toInt)) ∨ ((3 : Int32).toInt = -100002 ∧ (0 ≤ (a).toInt ∧ (a).toInt < (iv 12 1).toInt) ∧ ¬ (0 ≤ (b).toInt ∧ (b).toInt ≤ 999 ∧ 0 ≤ (d).toInt ∧ (d).toInt ≤ 999 ∧ 0 ≤ (k).toInt ∧ (k).toInt ≤ 999)) ∨ ((0 ≤ (a).toInt ∧ (a).toInt < (iv 12 1).toInt) ∧ (0 ≤ (b).toInt ∧ (b).toInt ≤ 999 ∧ 0 ≤ (d).toInt ∧ (d).toInt ≤ 999 ∧ 0 ≤ (k).toInt ∧ (k).toInt ≤ 999) ∧ (3 : Int32).toInt = chF ((fa 12 55) (a).toNatClampNeg) ((fa 12 56) (a).toNatClampNeg) (lossI (smL (fun s : Nat => ((fa 12 4) s).toInt = (a).toInt ∧ ((fa 12 5) s).toInt = 0 ∧ ((fa 12 11) s).toInt ≤ (iv 12 0).toInt ∧ (((fa 12 12) s).toInt < 0 ∨ (iv 12 0).toInt < ((fa 12 12) s).toInt)) (fa 12 7) ((iv 12 3).toInt).toNat) (smL (fun s : Nat => ((fa 12 4) s).toInt = (a).toInt ∧ ((fa 12 5) s).toInt = 0 ∧ ((fa 12 11) s).toInt ≤ (iv 12 0).toInt ∧ (((fa 12 12) s).toInt < 0 ∨ (iv 12 0).toInt < ((fa 12 12) s).toInt)) (fa 12 8) ((iv 12 3).toInt).toNat)) b d k)) from Or.inr (Or.inr ⟨⟨by omega, by omega⟩, ⟨by omega, by omega, by omega, by omega, by omega, by omega⟩, (by have hr9 : (n13 : Int64) = _ := Int64.toInt_inj.mp y9_6; have hd9 : (n12 : Int64) = _ := Int64.toInt_inj.mp y9_5; have hl9 : (v18 : Int32) = lossI (smL (fun s : Nat => ((fa 12 4) s).toInt = a.toInt ∧ ((fa 12 5) s).toInt = 0 ∧ ((fa 12 11) s).toInt ≤ (iv 12 0).toInt ∧ (((fa 12 12) s).toInt < 0 ∨ (iv 12 0).toInt < ((fa 12 12) s).toInt)) (fa 12 7) ((iv 12 3).toInt).toNat) (smL (fun s : Nat => ((fa 12 4) s).toInt = a.toInt ∧ ((fa 12 5) s).toInt = 0 ∧ ((fa 12 11) s).toInt ≤ (iv 12 0).toInt ∧ (((fa 12 12) s).toInt < 0 ∨ (iv 12 0).toInt < ((fa 12 12) s).toInt)) (fa 12 8) ((iv 12 3).toInt).toNat) := (by unfold lossI; rw [← hr9, ← hd9, if_neg (by omega), ← ew15, ← ew16, ← ew17, ev18]); rw [← ev19, ← ev53, ← hl9]; unfold chF; rw [← ev74, ← ev75]; (first | omega | (split <;> (first | omega | (split <;> (first | omega | (split <;> omega)))))))⟩)), ⟨by decide, by decide⟩, rfl⟩, by rw [ht9]; exact hP9, hD9⟩, hS.F ht9⟩) hS.2.2 dX12_cheat_164
                        · have fc76 := z_nle (rfl : (v75).toInt = _) (rfl : (k).toInt = _) c76
                          refine lv_iconst (v := 1) hx hb dX12_cheat_154 (by decide) ?_
                          refine lv_goto (tgt := 159) hx hb dX12_cheat_155 (by decide) ?_
                          refine vp_callSi (W.runS (As := [.int 1]) (rest := [.int 4, .int 3]) ⟨hx, hb, hml, hown, ht⟩ (c_X12_bit_1 l dC dI) (kS 1 ht m_1396 m_1397 m_89 m_1398 rfl rfl hd_X12_bit_v ⟨Nat.le_of_ble_eq_true rfl, Nat.le_of_ble_eq_true rfl⟩) (sR noP (hK.sub (tys' := []) [] rfl)) rfl rfl hl.1 rfl (lv_room (Nat.le_of_ble_eq_true rfl)) dX12_cheat_159 ⟨Nat.le_of_ble_eq_true rfl, Nat.le_of_ble_eq_true rfl⟩) (fun r80 hr80 => ?_)
                          obtain rfl : 1 = r80 := hr80.symm
                          refine lv_imul hx hb dX12_cheat_162 ?_
                          refine lv_topi (fun v81 ev81 => ?_)
                          obtain rfl : 4 = v81 := (ev81.trans (by decide)).symm
                          refine lv_iadd hx hb dX12_cheat_163 ?_
                          refine lv_topi (fun v82 ev82 => ?_)
                          obtain rfl : 7 = v82 := (ev82.trans (by decide)).symm
                          have : (7 : Int32).toInt = 7 := (by decide)
                          have hP9 : va_P (dC, dI) classes (WM h g ca (u2 iv 12 19 n11) (u2 (u2 lv 12 17 n12) 12 18 n13) fa la) H := hP
                          have hD9 : va_D A (WM h g ca (u2 iv 12 19 n11) (u2 (u2 lv 12 17 n12) 12 18 n13) fa la) := hD
                          exact W.iret (v := 7) hx hb hr (fun t ht9 hW => ⟨⟨7, ((u2 iv 12 19 n11), (u2 (u2 lv 12 17 n12) 12 18 n13), fa, la), rfl, ⟨n11, n12, n13, (show (((7 : Int32).toInt = -100001 ∧ ¬ (0 ≤ (a).toInt ∧ (a).toInt < (iv 12 1).toInt)) ∨ ((7 : Int32).toInt = -100002 ∧ (0 ≤ (a).toInt ∧ (a).toInt < (iv 12 1).toInt) ∧ ¬ (0 ≤ (b).toInt ∧ (b).toInt ≤ 999 ∧ 0 ≤ (d).toInt ∧ (d).toInt ≤ 999 ∧ 0 ≤ (k).toInt ∧ (k).toInt ≤ 999)) ∨ ((0 ≤ (a).toInt ∧ (a).toInt < (iv 12 1).toInt) ∧ (0 ≤ (b).toInt ∧ (b).toInt ≤ 999 ∧ 0 ≤ (d).toInt ∧ (d).toInt ≤ 999 ∧ 0 ≤ (k).toInt ∧ (k).toInt ≤ 999) ∧ (7 : Int32).toInt = chF ((fa 12 55) (a).toNatClampNeg) ((fa 12 56) (a).toNatClampNeg) (lossI (smL (fun s : Nat => ((fa 12 4) s).toInt = (a).toInt ∧ ((fa 12 5) s).toInt = 0 ∧ ((fa 12 11) s).toInt ≤ (iv 12 0).toInt ∧ (((fa 12 12) s).toInt < 0 ∨ (iv 12 0).toInt < ((fa 12 12) s).toInt)) (fa 12 7) ((iv 12 3).toInt).toNat) (smL (fun s : Nat => ((fa 12 4) s).toInt = (a).toInt ∧ ((fa 12 5) s).toInt = 0 ∧ ((fa 12 11) s).toInt ≤ (iv 12 0).toInt ∧ (((fa 12 12) s).toInt < 0 ∨ (iv 12 0).toInt < ((fa 12 12) s).toInt)) (fa 12 8) ((iv 12 3).toInt).toNat)) b d k)) from Or.inr (Or.inr ⟨⟨by omega, by omega⟩, ⟨by omega, by omega, by omega, by omega, by omega, by omega⟩, (by have hr9 : (n13 : Int64) = _ := Int64.toInt_inj.mp y9_6; have hd9 : (n12 : Int64) = _ := Int64.toInt_inj.mp y9_5; have hl9 : (v18 : Int32) = lossI (smL (fun s : Nat => ((fa 12 4) s).toInt = a.toInt ∧ ((fa 12 5) s).toInt = 0 ∧ ((fa 12 11) s).toInt ≤ (iv 12 0).toInt ∧ (((fa 12 12) s).toInt < 0 ∨ (iv 12 0).toInt < ((fa 12 12) s).toInt)) (fa 12 7) ((iv 12 3).toInt).toNat) (smL (fun s : Nat => ((fa 12 4) s).toInt = a.toInt ∧ ((fa 12 5) s).toInt = 0 ∧ ((fa 12 11) s).toInt ≤ (iv 12 0).toInt ∧ (((fa 12 12) s).toInt < 0 ∨ (iv 12 0).toInt < ((fa 12 12) s).toInt)) (fa 12 8) ((iv 12 3).toInt).toNat) := (by unfold lossI; rw [← hr9, ← hd9, if_neg (by omega), ← ew15, ← ew16, ← ew17, ev18]); rw [← ev19, ← ev53, ← hl9]; unfold chF; rw [← ev74, ← ev75]; (first | omega | (split <;> (first | omega | (split <;> (first | omega | (split <;> omega)))))))⟩)), ⟨by decide, by decide⟩, rfl⟩, by rw [ht9]; exact hP9, hD9⟩, hS.F ht9⟩) hS.2.2 dX12_cheat_164
                  · have fc14 := z_eq (rfl : (r10).toInt = _) (by decide : (0 : Int32).toInt = 0) c14
                    refine lv_iconst (v := 0) hx hb dX12_cheat_68 (by decide) ?_
                    refine lv_goto (tgt := 91) hx hb dX12_cheat_69 (by decide) ?_
                    refine lv_istore (lv' := [(6, .int 0), (5, .int r10), (0, .ref h), (1, .int a), (2, .int b), (3, .int d), (4, .int k)]) hx hb dX12_cheat_91 hl (by decide) rfl (fun ls hl => ?_)
                    refine lv_aload_n hx hb dX12_cheat_93 rfl (lv_at hl 2 rfl) ?_
                    refine gM_12_55 hx hb ht hown hK hP m_1194 dX12_cheat_94 ?_
                    refine lv_iload_n hx hb dX12_cheat_97 rfl (lv_at hl 3 rfl) ?_
                    refine lM_12_55 hx hb hK hP (f := (fa 12 55)) rfl (vp_in_iff.mpr ⟨by omega, by omega⟩) dX12_cheat_98 ?_
                    refine lv_topi (fun v83 ev83 => ?_)
                    refine lv_iload_n hx hb dX12_cheat_99 rfl (lv_at hl 4 rfl) ?_
                    refine lv_icmp_le (tgt := 107) hx hb dX12_cheat_100 (by decide) (fun c84 => ?_) (fun c84 => ?_)
                    · have fc84 := z_le (rfl : (v83).toInt = _) (rfl : (b).toInt = _) c84
                      refine lv_iconst (v := 0) hx hb dX12_cheat_107 (by decide) ?_
                      refine vp_callSi (W.runS (As := [.int 0]) (rest := []) ⟨hx, hb, hml, hown, ht⟩ (c_X12_bit_0 l dC dI) (kS 1 ht m_1396 m_1397 m_89 m_1398 rfl rfl hd_X12_bit_v ⟨Nat.le_of_ble_eq_true rfl, Nat.le_of_ble_eq_true rfl⟩) (sR noP (hK.sub (tys' := []) [] rfl)) rfl rfl hl.1 rfl (lv_room (Nat.le_of_ble_eq_true rfl)) dX12_cheat_108 ⟨Nat.le_of_ble_eq_true rfl, Nat.le_of_ble_eq_true rfl⟩) (fun r85 hr85 => ?_)
                      obtain rfl : 0 = r85 := hr85.symm
                      refine lv_iconst (v := 2) hx hb dX12_cheat_111 (by decide) ?_
                      refine lv_aload_n hx hb dX12_cheat_112 rfl (lv_at hl 2 rfl) ?_
                      refine gM_12_56 hx hb ht hown hK hP m_1195 dX12_cheat_113 ?_
                      refine lv_iload_n hx hb dX12_cheat_116 rfl (lv_at hl 3 rfl) ?_
                      refine lM_12_56 hx hb hK hP (f := (fa 12 56)) rfl (vp_in_iff.mpr ⟨by omega, by omega⟩) dX12_cheat_117 ?_
                      refine lv_topi (fun v86 ev86 => ?_)
                      refine lv_iload_n hx hb dX12_cheat_118 rfl (lv_at hl 5 rfl) ?_
                      refine lv_icmp_le (tgt := 126) hx hb dX12_cheat_119 (by decide) (fun c87 => ?_) (fun c87 => ?_)
                      · have fc87 := z_le (rfl : (v86).toInt = _) (rfl : (d).toInt = _) c87
                        refine lv_iconst (v := 0) hx hb dX12_cheat_126 (by decide) ?_
                        refine vp_callSi (W.runS (As := [.int 0]) (rest := [.int 2, .int 0]) ⟨hx, hb, hml, hown, ht⟩ (c_X12_bit_0 l dC dI) (kS 1 ht m_1396 m_1397 m_89 m_1398 rfl rfl hd_X12_bit_v ⟨Nat.le_of_ble_eq_true rfl, Nat.le_of_ble_eq_true rfl⟩) (sR noP (hK.sub (tys' := []) [] rfl)) rfl rfl hl.1 rfl (lv_room (Nat.le_of_ble_eq_true rfl)) dX12_cheat_127 ⟨Nat.le_of_ble_eq_true rfl, Nat.le_of_ble_eq_true rfl⟩) (fun r88 hr88 => ?_)
                        obtain rfl : 0 = r88 := hr88.symm
                        refine lv_imul hx hb dX12_cheat_130 ?_
                        refine lv_topi (fun v89 ev89 => ?_)
                        obtain rfl : 0 = v89 := (ev89.trans (by decide)).symm
                        refine lv_iadd hx hb dX12_cheat_131 ?_
                        refine lv_topi (fun v90 ev90 => ?_)
                        obtain rfl : 0 = v90 := (ev90.trans (by decide)).symm
                        refine lv_iconst (v := 4) hx hb dX12_cheat_132 (by decide) ?_
                        refine lv_aload_n hx hb dX12_cheat_133 rfl (lv_at hl 2 rfl) ?_
                        refine gM_12_55 hx hb ht hown hK hP m_1194 dX12_cheat_134 ?_
                        refine lv_iload_n hx hb dX12_cheat_137 rfl (lv_at hl 3 rfl) ?_
                        refine lM_12_55 hx hb hK hP (f := (fa 12 55)) rfl (vp_in_iff.mpr ⟨by omega, by omega⟩) dX12_cheat_138 ?_
                        refine lv_topi (fun v91 ev91 => ?_)
                        obtain rfl : v83 = v91 := ev83.trans ev91.symm
                        refine lv_aload_n hx hb dX12_cheat_139 rfl (lv_at hl 2 rfl) ?_
                        refine gM_12_56 hx hb ht hown hK hP m_1195 dX12_cheat_140 ?_
                        refine lv_iload_n hx hb dX12_cheat_143 rfl (lv_at hl 3 rfl) ?_
                        refine lM_12_56 hx hb hK hP (f := (fa 12 56)) rfl (vp_in_iff.mpr ⟨by omega, by omega⟩) dX12_cheat_144 ?_
                        refine lv_topi (fun v92 ev92 => ?_)
                        obtain rfl : v86 = v92 := ev86.trans ev92.symm
                        refine lv_iadd hx hb dX12_cheat_145 ?_
                        refine lv_topi (fun v93 ev93 => ?_)
                        refine lv_iload hx hb dX12_cheat_146 (lv_at hl 0 rfl) ?_
                        refine lv_iadd hx hb dX12_cheat_148 ?_
                        refine lv_topi (fun v94 ev94 => ?_)
                        refine lv_iload hx hb dX12_cheat_149 (lv_at hl 6 rfl) ?_
                        refine lv_icmp_le (tgt := 158) hx hb dX12_cheat_151 (by decide) (fun c95 => ?_) (fun c95 => ?_)
                        · have fc95 := z_le (rfl : (v94).toInt = _) (rfl : (k).toInt = _) c95
                          refine lv_iconst (v := 0) hx hb dX12_cheat_158 (by decide) ?_
                          refine vp_callSi (W.runS (As := [.int 0]) (rest := [.int 4, .int 0]) ⟨hx, hb, hml, hown, ht⟩ (c_X12_bit_0 l dC dI) (kS 1 ht m_1396 m_1397 m_89 m_1398 rfl rfl hd_X12_bit_v ⟨Nat.le_of_ble_eq_true rfl, Nat.le_of_ble_eq_true rfl⟩) (sR noP (hK.sub (tys' := []) [] rfl)) rfl rfl hl.1 rfl (lv_room (Nat.le_of_ble_eq_true rfl)) dX12_cheat_159 ⟨Nat.le_of_ble_eq_true rfl, Nat.le_of_ble_eq_true rfl⟩) (fun r96 hr96 => ?_)
                          obtain rfl : 0 = r96 := hr96.symm
                          refine lv_imul hx hb dX12_cheat_162 ?_
                          refine lv_topi (fun v97 ev97 => ?_)
                          obtain rfl : 0 = v97 := (ev97.trans (by decide)).symm
                          refine lv_iadd hx hb dX12_cheat_163 ?_
                          refine lv_topi (fun v98 ev98 => ?_)
                          obtain rfl : 0 = v98 := (ev98.trans (by decide)).symm
                          have hP9 : va_P (dC, dI) classes (WM h g ca (u2 iv 12 19 n11) (u2 (u2 lv 12 17 n12) 12 18 n13) fa la) H := hP
                          have hD9 : va_D A (WM h g ca (u2 iv 12 19 n11) (u2 (u2 lv 12 17 n12) 12 18 n13) fa la) := hD
                          exact W.iret (v := 0) hx hb hr (fun t ht9 hW => ⟨⟨0, ((u2 iv 12 19 n11), (u2 (u2 lv 12 17 n12) 12 18 n13), fa, la), rfl, ⟨n11, n12, n13, (show (((0 : Int32).toInt = -100001 ∧ ¬ (0 ≤ (a).toInt ∧ (a).toInt < (iv 12 1).toInt)) ∨ ((0 : Int32).toInt = -100002 ∧ (0 ≤ (a).toInt ∧ (a).toInt < (iv 12 1).toInt) ∧ ¬ (0 ≤ (b).toInt ∧ (b).toInt ≤ 999 ∧ 0 ≤ (d).toInt ∧ (d).toInt ≤ 999 ∧ 0 ≤ (k).toInt ∧ (k).toInt ≤ 999)) ∨ ((0 ≤ (a).toInt ∧ (a).toInt < (iv 12 1).toInt) ∧ (0 ≤ (b).toInt ∧ (b).toInt ≤ 999 ∧ 0 ≤ (d).toInt ∧ (d).toInt ≤ 999 ∧ 0 ≤ (k).toInt ∧ (k).toInt ≤ 999) ∧ (0 : Int32).toInt = chF ((fa 12 55) (a).toNatClampNeg) ((fa 12 56) (a).toNatClampNeg) (lossI (smL (fun s : Nat => ((fa 12 4) s).toInt = (a).toInt ∧ ((fa 12 5) s).toInt = 0 ∧ ((fa 12 11) s).toInt ≤ (iv 12 0).toInt ∧ (((fa 12 12) s).toInt < 0 ∨ (iv 12 0).toInt < ((fa 12 12) s).toInt)) (fa 12 7) ((iv 12 3).toInt).toNat) (smL (fun s : Nat => ((fa 12 4) s).toInt = (a).toInt ∧ ((fa 12 5) s).toInt = 0 ∧ ((fa 12 11) s).toInt ≤ (iv 12 0).toInt ∧ (((fa 12 12) s).toInt < 0 ∨ (iv 12 0).toInt < ((fa 12 12) s).toInt)) (fa 12 8) ((iv 12 3).toInt).toNat)) b d k)) from Or.inr (Or.inr ⟨⟨by omega, by omega⟩, ⟨by omega, by omega, by omega, by omega, by omega, by omega⟩, (by have hr9 : (n13 : Int64) = _ := Int64.toInt_inj.mp y9_6; have hd9 : (n12 : Int64) = _ := Int64.toInt_inj.mp y9_5; have hl9 : (0 : Int32) = lossI _ _ := (by unfold lossI; rw [if_pos (by omega)] : (0 : Int32) = lossI (smL (fun s : Nat => ((fa 12 4) s).toInt = a.toInt ∧ ((fa 12 5) s).toInt = 0 ∧ ((fa 12 11) s).toInt ≤ (iv 12 0).toInt ∧ (((fa 12 12) s).toInt < 0 ∨ (iv 12 0).toInt < ((fa 12 12) s).toInt)) (fa 12 7) ((iv 12 3).toInt).toNat) (smL (fun s : Nat => ((fa 12 4) s).toInt = a.toInt ∧ ((fa 12 5) s).toInt = 0 ∧ ((fa 12 11) s).toInt ≤ (iv 12 0).toInt ∧ (((fa 12 12) s).toInt < 0 ∨ (iv 12 0).toInt < ((fa 12 12) s).toInt)) (fa 12 8) ((iv 12 3).toInt).toNat)); rw [← ev83, ← ev86, ← hl9]; unfold chF; rw [← ev93, ← ev94]; (first | omega | (split <;> (first | omega | (split <;> (first | omega | (split <;> omega)))))))⟩)), ⟨by decide, by decide⟩, rfl⟩, by rw [ht9]; exact hP9, hD9⟩, hS.F ht9⟩) hS.2.2 dX12_cheat_164
                        · have fc95 := z_nle (rfl : (v94).toInt = _) (rfl : (k).toInt = _) c95
                          refine lv_iconst (v := 1) hx hb dX12_cheat_154 (by decide) ?_
                          refine lv_goto (tgt := 159) hx hb dX12_cheat_155 (by decide) ?_
                          refine vp_callSi (W.runS (As := [.int 1]) (rest := [.int 4, .int 0]) ⟨hx, hb, hml, hown, ht⟩ (c_X12_bit_1 l dC dI) (kS 1 ht m_1396 m_1397 m_89 m_1398 rfl rfl hd_X12_bit_v ⟨Nat.le_of_ble_eq_true rfl, Nat.le_of_ble_eq_true rfl⟩) (sR noP (hK.sub (tys' := []) [] rfl)) rfl rfl hl.1 rfl (lv_room (Nat.le_of_ble_eq_true rfl)) dX12_cheat_159 ⟨Nat.le_of_ble_eq_true rfl, Nat.le_of_ble_eq_true rfl⟩) (fun r99 hr99 => ?_)
                          obtain rfl : 1 = r99 := hr99.symm
                          refine lv_imul hx hb dX12_cheat_162 ?_
                          refine lv_topi (fun v100 ev100 => ?_)
                          obtain rfl : 4 = v100 := (ev100.trans (by decide)).symm
                          refine lv_iadd hx hb dX12_cheat_163 ?_
                          refine lv_topi (fun v101 ev101 => ?_)
                          obtain rfl : 4 = v101 := (ev101.trans (by decide)).symm
                          have : (4 : Int32).toInt = 4 := (by decide)
                          have hP9 : va_P (dC, dI) classes (WM h g ca (u2 iv 12 19 n11) (u2 (u2 lv 12 17 n12) 12 18 n13) fa la) H := hP
                          have hD9 : va_D A (WM h g ca (u2 iv 12 19 n11) (u2 (u2 lv 12 17 n12) 12 18 n13) fa la) := hD
                          exact W.iret (v := 4) hx hb hr (fun t ht9 hW => ⟨⟨4, ((u2 iv 12 19 n11), (u2 (u2 lv 12 17 n12) 12 18 n13), fa, la), rfl, ⟨n11, n12, n13, (show (((4 : Int32).toInt = -100001 ∧ ¬ (0 ≤ (a).toInt ∧ (a).toInt < (iv 12 1).toInt)) ∨ ((4 : Int32).toInt = -100002 ∧ (0 ≤ (a).toInt ∧ (a).toInt < (iv 12 1).toInt) ∧ ¬ (0 ≤ (b).toInt ∧ (b).toInt ≤ 999 ∧ 0 ≤ (d).toInt ∧ (d).toInt ≤ 999 ∧ 0 ≤ (k).toInt ∧ (k).toInt ≤ 999)) ∨ ((0 ≤ (a).toInt ∧ (a).toInt < (iv 12 1).toInt) ∧ (0 ≤ (b).toInt ∧ (b).toInt ≤ 999 ∧ 0 ≤ (d).toInt ∧ (d).toInt ≤ 999 ∧ 0 ≤ (k).toInt ∧ (k).toInt ≤ 999) ∧ (4 : Int32).toInt = chF ((fa 12 55) (a).toNatClampNeg) ((fa 12 56) (a).toNatClampNeg) (lossI (smL (fun s : Nat => ((fa 12 4) s).toInt = (a).toInt ∧ ((fa 12 5) s).toInt = 0 ∧ ((fa 12 11) s).toInt ≤ (iv 12 0).toInt ∧ (((fa 12 12) s).toInt < 0 ∨ (iv 12 0).toInt < ((fa 12 12) s).toInt)) (fa 12 7) ((iv 12 3).toInt).toNat) (smL (fun s : Nat => ((fa 12 4) s).toInt = (a).toInt ∧ ((fa 12 5) s).toInt = 0 ∧ ((fa 12 11) s).toInt ≤ (iv 12 0).toInt ∧ (((fa 12 12) s).toInt < 0 ∨ (iv 12 0).toInt < ((fa 12 12) s).toInt)) (fa 12 8) ((iv 12 3).toInt).toNat)) b d k)) from Or.inr (Or.inr ⟨⟨by omega, by omega⟩, ⟨by omega, by omega, by omega, by omega, by omega, by omega⟩, (by have hr9 : (n13 : Int64) = _ := Int64.toInt_inj.mp y9_6; have hd9 : (n12 : Int64) = _ := Int64.toInt_inj.mp y9_5; have hl9 : (0 : Int32) = lossI _ _ := (by unfold lossI; rw [if_pos (by omega)] : (0 : Int32) = lossI (smL (fun s : Nat => ((fa 12 4) s).toInt = a.toInt ∧ ((fa 12 5) s).toInt = 0 ∧ ((fa 12 11) s).toInt ≤ (iv 12 0).toInt ∧ (((fa 12 12) s).toInt < 0 ∨ (iv 12 0).toInt < ((fa 12 12) s).toInt)) (fa 12 7) ((iv 12 3).toInt).toNat) (smL (fun s : Nat => ((fa 12 4) s).toInt = a.toInt ∧ ((fa 12 5) s).toInt = 0 ∧ ((fa 12 11) s).toInt ≤ (iv 12 0).toInt ∧ (((fa 12 12) s).toInt < 0 ∨ (iv 12 0).toInt < ((fa 12 12) s).toInt)) (fa 12 8) ((iv 12 3).toInt).toNat)); rw [← ev83, ← ev86, ← hl9]; unfold chF; rw [← ev93, ← ev94]; (first | omega | (split <;> (first | omega | (split <;> (first | omega | (split <;> omega)))))))⟩)), ⟨by decide, by decide⟩, rfl⟩, by rw [ht9]; exact hP9, hD9⟩, hS.F ht9⟩) hS.2.2 dX12_cheat_164
                      · have fc87 := z_nle (rfl : (v86).toInt = _) (rfl : (d).toInt = _) c87
                        refine lv_iconst (v := 1) hx hb dX12_cheat_122 (by decide) ?_
                        refine lv_goto (tgt := 127) hx hb dX12_cheat_123 (by decide) ?_
                        refine vp_callSi (W.runS (As := [.int 1]) (rest := [.int 2, .int 0]) ⟨hx, hb, hml, hown, ht⟩ (c_X12_bit_1 l dC dI) (kS 1 ht m_1396 m_1397 m_89 m_1398 rfl rfl hd_X12_bit_v ⟨Nat.le_of_ble_eq_true rfl, Nat.le_of_ble_eq_true rfl⟩) (sR noP (hK.sub (tys' := []) [] rfl)) rfl rfl hl.1 rfl (lv_room (Nat.le_of_ble_eq_true rfl)) dX12_cheat_127 ⟨Nat.le_of_ble_eq_true rfl, Nat.le_of_ble_eq_true rfl⟩) (fun r102 hr102 => ?_)
                        obtain rfl : 1 = r102 := hr102.symm
                        refine lv_imul hx hb dX12_cheat_130 ?_
                        refine lv_topi (fun v103 ev103 => ?_)
                        obtain rfl : 2 = v103 := (ev103.trans (by decide)).symm
                        refine lv_iadd hx hb dX12_cheat_131 ?_
                        refine lv_topi (fun v104 ev104 => ?_)
                        obtain rfl : 2 = v104 := (ev104.trans (by decide)).symm
                        refine lv_iconst (v := 4) hx hb dX12_cheat_132 (by decide) ?_
                        refine lv_aload_n hx hb dX12_cheat_133 rfl (lv_at hl 2 rfl) ?_
                        refine gM_12_55 hx hb ht hown hK hP m_1194 dX12_cheat_134 ?_
                        refine lv_iload_n hx hb dX12_cheat_137 rfl (lv_at hl 3 rfl) ?_
                        refine lM_12_55 hx hb hK hP (f := (fa 12 55)) rfl (vp_in_iff.mpr ⟨by omega, by omega⟩) dX12_cheat_138 ?_
                        refine lv_topi (fun v105 ev105 => ?_)
                        obtain rfl : v83 = v105 := ev83.trans ev105.symm
                        refine lv_aload_n hx hb dX12_cheat_139 rfl (lv_at hl 2 rfl) ?_
                        refine gM_12_56 hx hb ht hown hK hP m_1195 dX12_cheat_140 ?_
                        refine lv_iload_n hx hb dX12_cheat_143 rfl (lv_at hl 3 rfl) ?_
                        refine lM_12_56 hx hb hK hP (f := (fa 12 56)) rfl (vp_in_iff.mpr ⟨by omega, by omega⟩) dX12_cheat_144 ?_
                        refine lv_topi (fun v106 ev106 => ?_)
                        obtain rfl : v86 = v106 := ev86.trans ev106.symm
                        refine lv_iadd hx hb dX12_cheat_145 ?_
                        refine lv_topi (fun v107 ev107 => ?_)
                        refine lv_iload hx hb dX12_cheat_146 (lv_at hl 0 rfl) ?_
                        refine lv_iadd hx hb dX12_cheat_148 ?_
                        refine lv_topi (fun v108 ev108 => ?_)
                        refine lv_iload hx hb dX12_cheat_149 (lv_at hl 6 rfl) ?_
                        refine lv_icmp_le (tgt := 158) hx hb dX12_cheat_151 (by decide) (fun c109 => ?_) (fun c109 => ?_)
                        · have fc109 := z_le (rfl : (v108).toInt = _) (rfl : (k).toInt = _) c109
                          refine lv_iconst (v := 0) hx hb dX12_cheat_158 (by decide) ?_
                          refine vp_callSi (W.runS (As := [.int 0]) (rest := [.int 4, .int 2]) ⟨hx, hb, hml, hown, ht⟩ (c_X12_bit_0 l dC dI) (kS 1 ht m_1396 m_1397 m_89 m_1398 rfl rfl hd_X12_bit_v ⟨Nat.le_of_ble_eq_true rfl, Nat.le_of_ble_eq_true rfl⟩) (sR noP (hK.sub (tys' := []) [] rfl)) rfl rfl hl.1 rfl (lv_room (Nat.le_of_ble_eq_true rfl)) dX12_cheat_159 ⟨Nat.le_of_ble_eq_true rfl, Nat.le_of_ble_eq_true rfl⟩) (fun r110 hr110 => ?_)
                          obtain rfl : 0 = r110 := hr110.symm
                          refine lv_imul hx hb dX12_cheat_162 ?_
                          refine lv_topi (fun v111 ev111 => ?_)
                          obtain rfl : 0 = v111 := (ev111.trans (by decide)).symm
                          refine lv_iadd hx hb dX12_cheat_163 ?_
                          refine lv_topi (fun v112 ev112 => ?_)
                          obtain rfl : 2 = v112 := (ev112.trans (by decide)).symm
                          have : (2 : Int32).toInt = 2 := (by decide)
                          have hP9 : va_P (dC, dI) classes (WM h g ca (u2 iv 12 19 n11) (u2 (u2 lv 12 17 n12) 12 18 n13) fa la) H := hP
                          have hD9 : va_D A (WM h g ca (u2 iv 12 19 n11) (u2 (u2 lv 12 17 n12) 12 18 n13) fa la) := hD
                          exact W.iret (v := 2) hx hb hr (fun t ht9 hW => ⟨⟨2, ((u2 iv 12 19 n11), (u2 (u2 lv 12 17 n12) 12 18 n13), fa, la), rfl, ⟨n11, n12, n13, (show (((2 : Int32).toInt = -100001 ∧ ¬ (0 ≤ (a).toInt ∧ (a).toInt < (iv 12 1).toInt)) ∨ ((2 : Int32).toInt = -100002 ∧ (0 ≤ (a).toInt ∧ (a).toInt < (iv 12 1).toInt) ∧ ¬ (0 ≤ (b).toInt ∧ (b).toInt ≤ 999 ∧ 0 ≤ (d).toInt ∧ (d).toInt ≤ 999 ∧ 0 ≤ (k).toInt ∧ (k).toInt ≤ 999)) ∨ ((0 ≤ (a).toInt ∧ (a).toInt < (iv 12 1).toInt) ∧ (0 ≤ (b).toInt ∧ (b).toInt ≤ 999 ∧ 0 ≤ (d).toInt ∧ (d).toInt ≤ 999 ∧ 0 ≤ (k).toInt ∧ (k).toInt ≤ 999) ∧ (2 : Int32).toInt = chF ((fa 12 55) (a).toNatClampNeg) ((fa 12 56) (a).toNatClampNeg) (lossI (smL (fun s : Nat => ((fa 12 4) s).toInt = (a).toInt ∧ ((fa 12 5) s).toInt = 0 ∧ ((fa 12 11) s).toInt ≤ (iv 12 0).toInt ∧ (((fa 12 12) s).toInt < 0 ∨ (iv 12 0).toInt < ((fa 12 12) s).toInt)) (fa 12 7) ((iv 12 3).toInt).toNat) (smL (fun s : Nat => ((fa 12 4) s).toInt = (a).toInt ∧ ((fa 12 5) s).toInt = 0 ∧ ((fa 12 11) s).toInt ≤ (iv 12 0).toInt ∧ (((fa 12 12) s).toInt < 0 ∨ (iv 12 0).toInt < ((fa 12 12) s).toInt)) (fa 12 8) ((iv 12 3).toInt).toNat)) b d k)) from Or.inr (Or.inr ⟨⟨by omega, by omega⟩, ⟨by omega, by omega, by omega, by omega, by omega, by omega⟩, (by have hr9 : (n13 : Int64) = _ := Int64.toInt_inj.mp y9_6; have hd9 : (n12 : Int64) = _ := Int64.toInt_inj.mp y9_5; have hl9 : (0 : Int32) = lossI _ _ := (by unfold lossI; rw [if_pos (by omega)] : (0 : Int32) = lossI (smL (fun s : Nat => ((fa 12 4) s).toInt = a.toInt ∧ ((fa 12 5) s).toInt = 0 ∧ ((fa 12 11) s).toInt ≤ (iv 12 0).toInt ∧ (((fa 12 12) s).toInt < 0 ∨ (iv 12 0).toInt < ((fa 12 12) s).toInt)) (fa 12 7) ((iv 12 3).toInt).toNat) (smL (fun s : Nat => ((fa 12 4) s).toInt = a.toInt ∧ ((fa 12 5) s).toInt = 0 ∧ ((fa 12 11) s).toInt ≤ (iv 12 0).toInt ∧ (((fa 12 12) s).toInt < 0 ∨ (iv 12 0).toInt < ((fa 12 12) s).toInt)) (fa 12 8) ((iv 12 3).toInt).toNat)); rw [← ev83, ← ev86, ← hl9]; unfold chF; rw [← ev107, ← ev108]; (first | omega | (split <;> (first | omega | (split <;> (first | omega | (split <;> omega)))))))⟩)), ⟨by decide, by decide⟩, rfl⟩, by rw [ht9]; exact hP9, hD9⟩, hS.F ht9⟩) hS.2.2 dX12_cheat_164
                        · have fc109 := z_nle (rfl : (v108).toInt = _) (rfl : (k).toInt = _) c109
                          refine lv_iconst (v := 1) hx hb dX12_cheat_154 (by decide) ?_
                          refine lv_goto (tgt := 159) hx hb dX12_cheat_155 (by decide) ?_
                          refine vp_callSi (W.runS (As := [.int 1]) (rest := [.int 4, .int 2]) ⟨hx, hb, hml, hown, ht⟩ (c_X12_bit_1 l dC dI) (kS 1 ht m_1396 m_1397 m_89 m_1398 rfl rfl hd_X12_bit_v ⟨Nat.le_of_ble_eq_true rfl, Nat.le_of_ble_eq_true rfl⟩) (sR noP (hK.sub (tys' := []) [] rfl)) rfl rfl hl.1 rfl (lv_room (Nat.le_of_ble_eq_true rfl)) dX12_cheat_159 ⟨Nat.le_of_ble_eq_true rfl, Nat.le_of_ble_eq_true rfl⟩) (fun r113 hr113 => ?_)
                          obtain rfl : 1 = r113 := hr113.symm
                          refine lv_imul hx hb dX12_cheat_162 ?_
                          refine lv_topi (fun v114 ev114 => ?_)
                          obtain rfl : 4 = v114 := (ev114.trans (by decide)).symm
                          refine lv_iadd hx hb dX12_cheat_163 ?_
                          refine lv_topi (fun v115 ev115 => ?_)
                          obtain rfl : 6 = v115 := (ev115.trans (by decide)).symm
                          have : (6 : Int32).toInt = 6 := (by decide)
                          have hP9 : va_P (dC, dI) classes (WM h g ca (u2 iv 12 19 n11) (u2 (u2 lv 12 17 n12) 12 18 n13) fa la) H := hP
                          have hD9 : va_D A (WM h g ca (u2 iv 12 19 n11) (u2 (u2 lv 12 17 n12) 12 18 n13) fa la) := hD
                          exact W.iret (v := 6) hx hb hr (fun t ht9 hW => ⟨⟨6, ((u2 iv 12 19 n11), (u2 (u2 lv 12 17 n12) 12 18 n13), fa, la), rfl, ⟨n11, n12, n13, (show (((6 : Int32).toInt = -100001 ∧ ¬ (0 ≤ (a).toInt ∧ (a).toInt < (iv 12 1).toInt)) ∨ ((6 : Int32).toInt = -100002 ∧ (0 ≤ (a).toInt ∧ (a).toInt < (iv 12 1).toInt) ∧ ¬ (0 ≤ (b).toInt ∧ (b).toInt ≤ 999 ∧ 0 ≤ (d).toInt ∧ (d).toInt ≤ 999 ∧ 0 ≤ (k).toInt ∧ (k).toInt ≤ 999)) ∨ ((0 ≤ (a).toInt ∧ (a).toInt < (iv 12 1).toInt) ∧ (0 ≤ (b).toInt ∧ (b).toInt ≤ 999 ∧ 0 ≤ (d).toInt ∧ (d).toInt ≤ 999 ∧ 0 ≤ (k).toInt ∧ (k).toInt ≤ 999) ∧ (6 : Int32).toInt = chF ((fa 12 55) (a).toNatClampNeg) ((fa 12 56) (a).toNatClampNeg) (lossI (smL (fun s : Nat => ((fa 12 4) s).toInt = (a).toInt ∧ ((fa 12 5) s).toInt = 0 ∧ ((fa 12 11) s).toInt ≤ (iv 12 0).toInt ∧ (((fa 12 12) s).toInt < 0 ∨ (iv 12 0).toInt < ((fa 12 12) s).toInt)) (fa 12 7) ((iv 12 3).toInt).toNat) (smL (fun s : Nat => ((fa 12 4) s).toInt = (a).toInt ∧ ((fa 12 5) s).toInt = 0 ∧ ((fa 12 11) s).toInt ≤ (iv 12 0).toInt ∧ (((fa 12 12) s).toInt < 0 ∨ (iv 12 0).toInt < ((fa 12 12) s).toInt)) (fa 12 8) ((iv 12 3).toInt).toNat)) b d k)) from Or.inr (Or.inr ⟨⟨by omega, by omega⟩, ⟨by omega, by omega, by omega, by omega, by omega, by omega⟩, (by have hr9 : (n13 : Int64) = _ := Int64.toInt_inj.mp y9_6; have hd9 : (n12 : Int64) = _ := Int64.toInt_inj.mp y9_5; have hl9 : (0 : Int32) = lossI _ _ := (by unfold lossI; rw [if_pos (by omega)] : (0 : Int32) = lossI (smL (fun s : Nat => ((fa 12 4) s).toInt = a.toInt ∧ ((fa 12 5) s).toInt = 0 ∧ ((fa 12 11) s).toInt ≤ (iv 12 0).toInt ∧ (((fa 12 12) s).toInt < 0 ∨ (iv 12 0).toInt < ((fa 12 12) s).toInt)) (fa 12 7) ((iv 12 3).toInt).toNat) (smL (fun s : Nat => ((fa 12 4) s).toInt = a.toInt ∧ ((fa 12 5) s).toInt = 0 ∧ ((fa 12 11) s).toInt ≤ (iv 12 0).toInt ∧ (((fa 12 12) s).toInt < 0 ∨ (iv 12 0).toInt < ((fa 12 12) s).toInt)) (fa 12 8) ((iv 12 3).toInt).toNat)); rw [← ev83, ← ev86, ← hl9]; unfold chF; rw [← ev107, ← ev108]; (first | omega | (split <;> (first | omega | (split <;> (first | omega | (split <;> omega)))))))⟩)), ⟨by decide, by decide⟩, rfl⟩, by rw [ht9]; exact hP9, hD9⟩, hS.F ht9⟩) hS.2.2 dX12_cheat_164
                    · have fc84 := z_nle (rfl : (v83).toInt = _) (rfl : (b).toInt = _) c84
                      refine lv_iconst (v := 1) hx hb dX12_cheat_103 (by decide) ?_
                      refine lv_goto (tgt := 108) hx hb dX12_cheat_104 (by decide) ?_
                      refine vp_callSi (W.runS (As := [.int 1]) (rest := []) ⟨hx, hb, hml, hown, ht⟩ (c_X12_bit_1 l dC dI) (kS 1 ht m_1396 m_1397 m_89 m_1398 rfl rfl hd_X12_bit_v ⟨Nat.le_of_ble_eq_true rfl, Nat.le_of_ble_eq_true rfl⟩) (sR noP (hK.sub (tys' := []) [] rfl)) rfl rfl hl.1 rfl (lv_room (Nat.le_of_ble_eq_true rfl)) dX12_cheat_108 ⟨Nat.le_of_ble_eq_true rfl, Nat.le_of_ble_eq_true rfl⟩) (fun r116 hr116 => ?_)
                      obtain rfl : 1 = r116 := hr116.symm
                      refine lv_iconst (v := 2) hx hb dX12_cheat_111 (by decide) ?_
                      refine lv_aload_n hx hb dX12_cheat_112 rfl (lv_at hl 2 rfl) ?_
                      refine gM_12_56 hx hb ht hown hK hP m_1195 dX12_cheat_113 ?_
                      refine lv_iload_n hx hb dX12_cheat_116 rfl (lv_at hl 3 rfl) ?_
                      refine lM_12_56 hx hb hK hP (f := (fa 12 56)) rfl (vp_in_iff.mpr ⟨by omega, by omega⟩) dX12_cheat_117 ?_
                      refine lv_topi (fun v117 ev117 => ?_)
                      refine lv_iload_n hx hb dX12_cheat_118 rfl (lv_at hl 5 rfl) ?_
                      refine lv_icmp_le (tgt := 126) hx hb dX12_cheat_119 (by decide) (fun c118 => ?_) (fun c118 => ?_)
                      · have fc118 := z_le (rfl : (v117).toInt = _) (rfl : (d).toInt = _) c118
                        refine lv_iconst (v := 0) hx hb dX12_cheat_126 (by decide) ?_
                        refine vp_callSi (W.runS (As := [.int 0]) (rest := [.int 2, .int 1]) ⟨hx, hb, hml, hown, ht⟩ (c_X12_bit_0 l dC dI) (kS 1 ht m_1396 m_1397 m_89 m_1398 rfl rfl hd_X12_bit_v ⟨Nat.le_of_ble_eq_true rfl, Nat.le_of_ble_eq_true rfl⟩) (sR noP (hK.sub (tys' := []) [] rfl)) rfl rfl hl.1 rfl (lv_room (Nat.le_of_ble_eq_true rfl)) dX12_cheat_127 ⟨Nat.le_of_ble_eq_true rfl, Nat.le_of_ble_eq_true rfl⟩) (fun r119 hr119 => ?_)
                        obtain rfl : 0 = r119 := hr119.symm
                        refine lv_imul hx hb dX12_cheat_130 ?_
                        refine lv_topi (fun v120 ev120 => ?_)
                        obtain rfl : 0 = v120 := (ev120.trans (by decide)).symm
                        refine lv_iadd hx hb dX12_cheat_131 ?_
                        refine lv_topi (fun v121 ev121 => ?_)
                        obtain rfl : 1 = v121 := (ev121.trans (by decide)).symm
                        refine lv_iconst (v := 4) hx hb dX12_cheat_132 (by decide) ?_
                        refine lv_aload_n hx hb dX12_cheat_133 rfl (lv_at hl 2 rfl) ?_
                        refine gM_12_55 hx hb ht hown hK hP m_1194 dX12_cheat_134 ?_
                        refine lv_iload_n hx hb dX12_cheat_137 rfl (lv_at hl 3 rfl) ?_
                        refine lM_12_55 hx hb hK hP (f := (fa 12 55)) rfl (vp_in_iff.mpr ⟨by omega, by omega⟩) dX12_cheat_138 ?_
                        refine lv_topi (fun v122 ev122 => ?_)
                        obtain rfl : v83 = v122 := ev83.trans ev122.symm
                        refine lv_aload_n hx hb dX12_cheat_139 rfl (lv_at hl 2 rfl) ?_
                        refine gM_12_56 hx hb ht hown hK hP m_1195 dX12_cheat_140 ?_
                        refine lv_iload_n hx hb dX12_cheat_143 rfl (lv_at hl 3 rfl) ?_
                        refine lM_12_56 hx hb hK hP (f := (fa 12 56)) rfl (vp_in_iff.mpr ⟨by omega, by omega⟩) dX12_cheat_144 ?_
                        refine lv_topi (fun v123 ev123 => ?_)
                        obtain rfl : v117 = v123 := ev117.trans ev123.symm
                        refine lv_iadd hx hb dX12_cheat_145 ?_
                        refine lv_topi (fun v124 ev124 => ?_)
                        refine lv_iload hx hb dX12_cheat_146 (lv_at hl 0 rfl) ?_
                        refine lv_iadd hx hb dX12_cheat_148 ?_
                        refine lv_topi (fun v125 ev125 => ?_)
                        refine lv_iload hx hb dX12_cheat_149 (lv_at hl 6 rfl) ?_
                        refine lv_icmp_le (tgt := 158) hx hb dX12_cheat_151 (by decide) (fun c126 => ?_) (fun c126 => ?_)
                        · have fc126 := z_le (rfl : (v125).toInt = _) (rfl : (k).toInt = _) c126
                          refine lv_iconst (v := 0) hx hb dX12_cheat_158 (by decide) ?_
                          refine vp_callSi (W.runS (As := [.int 0]) (rest := [.int 4, .int 1]) ⟨hx, hb, hml, hown, ht⟩ (c_X12_bit_0 l dC dI) (kS 1 ht m_1396 m_1397 m_89 m_1398 rfl rfl hd_X12_bit_v ⟨Nat.le_of_ble_eq_true rfl, Nat.le_of_ble_eq_true rfl⟩) (sR noP (hK.sub (tys' := []) [] rfl)) rfl rfl hl.1 rfl (lv_room (Nat.le_of_ble_eq_true rfl)) dX12_cheat_159 ⟨Nat.le_of_ble_eq_true rfl, Nat.le_of_ble_eq_true rfl⟩) (fun r127 hr127 => ?_)
                          obtain rfl : 0 = r127 := hr127.symm
                          refine lv_imul hx hb dX12_cheat_162 ?_
                          refine lv_topi (fun v128 ev128 => ?_)
                          obtain rfl : 0 = v128 := (ev128.trans (by decide)).symm
                          refine lv_iadd hx hb dX12_cheat_163 ?_
                          refine lv_topi (fun v129 ev129 => ?_)
                          obtain rfl : 1 = v129 := (ev129.trans (by decide)).symm
                          have : (1 : Int32).toInt = 1 := (by decide)
                          have hP9 : va_P (dC, dI) classes (WM h g ca (u2 iv 12 19 n11) (u2 (u2 lv 12 17 n12) 12 18 n13) fa la) H := hP
                          have hD9 : va_D A (WM h g ca (u2 iv 12 19 n11) (u2 (u2 lv 12 17 n12) 12 18 n13) fa la) := hD
                          exact W.iret (v := 1) hx hb hr (fun t ht9 hW => ⟨⟨1, ((u2 iv 12 19 n11), (u2 (u2 lv 12 17 n12) 12 18 n13), fa, la), rfl, ⟨n11, n12, n13, (show (((1 : Int32).toInt = -100001 ∧ ¬ (0 ≤ (a).toInt ∧ (a).toInt < (iv 12 1).toInt)) ∨ ((1 : Int32).toInt = -100002 ∧ (0 ≤ (a).toInt ∧ (a).toInt < (iv 12 1).toInt) ∧ ¬ (0 ≤ (b).toInt ∧ (b).toInt ≤ 999 ∧ 0 ≤ (d).toInt ∧ (d).toInt ≤ 999 ∧ 0 ≤ (k).toInt ∧ (k).toInt ≤ 999)) ∨ ((0 ≤ (a).toInt ∧ (a).toInt < (iv 12 1).toInt) ∧ (0 ≤ (b).toInt ∧ (b).toInt ≤ 999 ∧ 0 ≤ (d).toInt ∧ (d).toInt ≤ 999 ∧ 0 ≤ (k).toInt ∧ (k).toInt ≤ 999) ∧ (1 : Int32).toInt = chF ((fa 12 55) (a).toNatClampNeg) ((fa 12 56) (a).toNatClampNeg) (lossI (smL (fun s : Nat => ((fa 12 4) s).toInt = (a).toInt ∧ ((fa 12 5) s).toInt = 0 ∧ ((fa 12 11) s).toInt ≤ (iv 12 0).toInt ∧ (((fa 12 12) s).toInt < 0 ∨ (iv 12 0).toInt < ((fa 12 12) s).toInt)) (fa 12 7) ((iv 12 3).toInt).toNat) (smL (fun s : Nat => ((fa 12 4) s).toInt = (a).toInt ∧ ((fa 12 5) s).toInt = 0 ∧ ((fa 12 11) s).toInt ≤ (iv 12 0).toInt ∧ (((fa 12 12) s).toInt < 0 ∨ (iv 12 0).toInt < ((fa 12 12) s).toInt)) (fa 12 8) ((iv 12 3).toInt).toNat)) b d k)) from Or.inr (Or.inr ⟨⟨by omega, by omega⟩, ⟨by omega, by omega, by omega, by omega, by omega, by omega⟩, (by have hr9 : (n13 : Int64) = _ := Int64.toInt_inj.mp y9_6; have hd9 : (n12 : Int64) = _ := Int64.toInt_inj.mp y9_5; have hl9 : (0 : Int32) = lossI _ _ := (by unfold lossI; rw [if_pos (by omega)] : (0 : Int32) = lossI (smL (fun s : Nat => ((fa 12 4) s).toInt = a.toInt ∧ ((fa 12 5) s).toInt = 0 ∧ ((fa 12 11) s).toInt ≤ (iv 12 0).toInt ∧ (((fa 12 12) s).toInt < 0 ∨ (iv 12 0).toInt < ((fa 12 12) s).toInt)) (fa 12 7) ((iv 12 3).toInt).toNat) (smL (fun s : Nat => ((fa 12 4) s).toInt = a.toInt ∧ ((fa 12 5) s).toInt = 0 ∧ ((fa 12 11) s).toInt ≤ (iv 12 0).toInt ∧ (((fa 12 12) s).toInt < 0 ∨ (iv 12 0).toInt < ((fa 12 12) s).toInt)) (fa 12 8) ((iv 12 3).toInt).toNat)); rw [← ev83, ← ev117, ← hl9]; unfold chF; rw [← ev124, ← ev125]; (first | omega | (split <;> (first | omega | (split <;> (first | omega | (split <;> omega)))))))⟩)), ⟨by decide, by decide⟩, rfl⟩, by rw [ht9]; exact hP9, hD9⟩, hS.F ht9⟩) hS.2.2 dX12_cheat_164
                        · have fc126 := z_nle (rfl : (v125).toInt = _) (rfl : (k).toInt = _) c126
                          refine lv_iconst (v := 1) hx hb dX12_cheat_154 (by decide) ?_
                          refine lv_goto (tgt := 159) hx hb dX12_cheat_155 (by decide) ?_
                          refine vp_callSi (W.runS (As := [.int 1]) (rest := [.int 4, .int 1]) ⟨hx, hb, hml, hown, ht⟩ (c_X12_bit_1 l dC dI) (kS 1 ht m_1396 m_1397 m_89 m_1398 rfl rfl hd_X12_bit_v ⟨Nat.le_of_ble_eq_true rfl, Nat.le_of_ble_eq_true rfl⟩) (sR noP (hK.sub (tys' := []) [] rfl)) rfl rfl hl.1 rfl (lv_room (Nat.le_of_ble_eq_true rfl)) dX12_cheat_159 ⟨Nat.le_of_ble_eq_true rfl, Nat.le_of_ble_eq_true rfl⟩) (fun r130 hr130 => ?_)
                          obtain rfl : 1 = r130 := hr130.symm
                          refine lv_imul hx hb dX12_cheat_162 ?_
                          refine lv_topi (fun v131 ev131 => ?_)
                          obtain rfl : 4 = v131 := (ev131.trans (by decide)).symm
                          refine lv_iadd hx hb dX12_cheat_163 ?_
                          refine lv_topi (fun v132 ev132 => ?_)
                          obtain rfl : 5 = v132 := (ev132.trans (by decide)).symm
                          have : (5 : Int32).toInt = 5 := (by decide)
                          have hP9 : va_P (dC, dI) classes (WM h g ca (u2 iv 12 19 n11) (u2 (u2 lv 12 17 n12) 12 18 n13) fa la) H := hP
                          have hD9 : va_D A (WM h g ca (u2 iv 12 19 n11) (u2 (u2 lv 12 17 n12) 12 18 n13) fa la) := hD
                          exact W.iret (v := 5) hx hb hr (fun t ht9 hW => ⟨⟨5, ((u2 iv 12 19 n11), (u2 (u2 lv 12 17 n12) 12 18 n13), fa, la), rfl, ⟨n11, n12, n13, (show (((5 : Int32).toInt = -100001 ∧ ¬ (0 ≤ (a).toInt ∧ (a).toInt < (iv 12 1).toInt)) ∨ ((5 : Int32).toInt = -100002 ∧ (0 ≤ (a).toInt ∧ (a).toInt < (iv 12 1).toInt) ∧ ¬ (0 ≤ (b).toInt ∧ (b).toInt ≤ 999 ∧ 0 ≤ (d).toInt ∧ (d).toInt ≤ 999 ∧ 0 ≤ (k).toInt ∧ (k).toInt ≤ 999)) ∨ ((0 ≤ (a).toInt ∧ (a).toInt < (iv 12 1).toInt) ∧ (0 ≤ (b).toInt ∧ (b).toInt ≤ 999 ∧ 0 ≤ (d).toInt ∧ (d).toInt ≤ 999 ∧ 0 ≤ (k).toInt ∧ (k).toInt ≤ 999) ∧ (5 : Int32).toInt = chF ((fa 12 55) (a).toNatClampNeg) ((fa 12 56) (a).toNatClampNeg) (lossI (smL (fun s : Nat => ((fa 12 4) s).toInt = (a).toInt ∧ ((fa 12 5) s).toInt = 0 ∧ ((fa 12 11) s).toInt ≤ (iv 12 0).toInt ∧ (((fa 12 12) s).toInt < 0 ∨ (iv 12 0).toInt < ((fa 12 12) s).toInt)) (fa 12 7) ((iv 12 3).toInt).toNat) (smL (fun s : Nat => ((fa 12 4) s).toInt = (a).toInt ∧ ((fa 12 5) s).toInt = 0 ∧ ((fa 12 11) s).toInt ≤ (iv 12 0).toInt ∧ (((fa 12 12) s).toInt < 0 ∨ (iv 12 0).toInt < ((fa 12 12) s).toInt)) (fa 12 8) ((iv 12 3).toInt).toNat)) b d k)) from Or.inr (Or.inr ⟨⟨by omega, by omega⟩, ⟨by omega, by omega, by omega, by omega, by omega, by omega⟩, (by have hr9 : (n13 : Int64) = _ := Int64.toInt_inj.mp y9_6; have hd9 : (n12 : Int64) = _ := Int64.toInt_inj.mp y9_5; have hl9 : (0 : Int32) = lossI _ _ := (by unfold lossI; rw [if_pos (by omega)] : (0 : Int32) = lossI (smL (fun s : Nat => ((fa 12 4) s).toInt = a.toInt ∧ ((fa 12 5) s).toInt = 0 ∧ ((fa 12 11) s).toInt ≤ (iv 12 0).toInt ∧ (((fa 12 12) s).toInt < 0 ∨ (iv 12 0).toInt < ((fa 12 12) s).toInt)) (fa 12 7) ((iv 12 3).toInt).toNat) (smL (fun s : Nat => ((fa 12 4) s).toInt = a.toInt ∧ ((fa 12 5) s).toInt = 0 ∧ ((fa 12 11) s).toInt ≤ (iv 12 0).toInt ∧ (((fa 12 12) s).toInt < 0 ∨ (iv 12 0).toInt < ((fa 12 12) s).toInt)) (fa 12 8) ((iv 12 3).toInt).toNat)); rw [← ev83, ← ev117, ← hl9]; unfold chF; rw [← ev124, ← ev125]; (first | omega | (split <;> (first | omega | (split <;> (first | omega | (split <;> omega)))))))⟩)), ⟨by decide, by decide⟩, rfl⟩, by rw [ht9]; exact hP9, hD9⟩, hS.F ht9⟩) hS.2.2 dX12_cheat_164
                      · have fc118 := z_nle (rfl : (v117).toInt = _) (rfl : (d).toInt = _) c118
                        refine lv_iconst (v := 1) hx hb dX12_cheat_122 (by decide) ?_
                        refine lv_goto (tgt := 127) hx hb dX12_cheat_123 (by decide) ?_
                        refine vp_callSi (W.runS (As := [.int 1]) (rest := [.int 2, .int 1]) ⟨hx, hb, hml, hown, ht⟩ (c_X12_bit_1 l dC dI) (kS 1 ht m_1396 m_1397 m_89 m_1398 rfl rfl hd_X12_bit_v ⟨Nat.le_of_ble_eq_true rfl, Nat.le_of_ble_eq_true rfl⟩) (sR noP (hK.sub (tys' := []) [] rfl)) rfl rfl hl.1 rfl (lv_room (Nat.le_of_ble_eq_true rfl)) dX12_cheat_127 ⟨Nat.le_of_ble_eq_true rfl, Nat.le_of_ble_eq_true rfl⟩) (fun r133 hr133 => ?_)
                        obtain rfl : 1 = r133 := hr133.symm
                        refine lv_imul hx hb dX12_cheat_130 ?_
                        refine lv_topi (fun v134 ev134 => ?_)
                        obtain rfl : 2 = v134 := (ev134.trans (by decide)).symm
                        refine lv_iadd hx hb dX12_cheat_131 ?_
                        refine lv_topi (fun v135 ev135 => ?_)
                        obtain rfl : 3 = v135 := (ev135.trans (by decide)).symm
                        refine lv_iconst (v := 4) hx hb dX12_cheat_132 (by decide) ?_
                        refine lv_aload_n hx hb dX12_cheat_133 rfl (lv_at hl 2 rfl) ?_
                        refine gM_12_55 hx hb ht hown hK hP m_1194 dX12_cheat_134 ?_
                        refine lv_iload_n hx hb dX12_cheat_137 rfl (lv_at hl 3 rfl) ?_
                        refine lM_12_55 hx hb hK hP (f := (fa 12 55)) rfl (vp_in_iff.mpr ⟨by omega, by omega⟩) dX12_cheat_138 ?_
                        refine lv_topi (fun v136 ev136 => ?_)
                        obtain rfl : v83 = v136 := ev83.trans ev136.symm
                        refine lv_aload_n hx hb dX12_cheat_139 rfl (lv_at hl 2 rfl) ?_
                        refine gM_12_56 hx hb ht hown hK hP m_1195 dX12_cheat_140 ?_
                        refine lv_iload_n hx hb dX12_cheat_143 rfl (lv_at hl 3 rfl) ?_
                        refine lM_12_56 hx hb hK hP (f := (fa 12 56)) rfl (vp_in_iff.mpr ⟨by omega, by omega⟩) dX12_cheat_144 ?_
                        refine lv_topi (fun v137 ev137 => ?_)
                        obtain rfl : v117 = v137 := ev117.trans ev137.symm
                        refine lv_iadd hx hb dX12_cheat_145 ?_
                        refine lv_topi (fun v138 ev138 => ?_)
                        refine lv_iload hx hb dX12_cheat_146 (lv_at hl 0 rfl) ?_
                        refine lv_iadd hx hb dX12_cheat_148 ?_
                        refine lv_topi (fun v139 ev139 => ?_)
                        refine lv_iload hx hb dX12_cheat_149 (lv_at hl 6 rfl) ?_
                        refine lv_icmp_le (tgt := 158) hx hb dX12_cheat_151 (by decide) (fun c140 => ?_) (fun c140 => ?_)
                        · have fc140 := z_le (rfl : (v139).toInt = _) (rfl : (k).toInt = _) c140
                          refine lv_iconst (v := 0) hx hb dX12_cheat_158 (by decide) ?_
                          refine vp_callSi (W.runS (As := [.int 0]) (rest := [.int 4, .int 3]) ⟨hx, hb, hml, hown, ht⟩ (c_X12_bit_0 l dC dI) (kS 1 ht m_1396 m_1397 m_89 m_1398 rfl rfl hd_X12_bit_v ⟨Nat.le_of_ble_eq_true rfl, Nat.le_of_ble_eq_true rfl⟩) (sR noP (hK.sub (tys' := []) [] rfl)) rfl rfl hl.1 rfl (lv_room (Nat.le_of_ble_eq_true rfl)) dX12_cheat_159 ⟨Nat.le_of_ble_eq_true rfl, Nat.le_of_ble_eq_true rfl⟩) (fun r141 hr141 => ?_)
                          obtain rfl : 0 = r141 := hr141.symm
                          refine lv_imul hx hb dX12_cheat_162 ?_
                          refine lv_topi (fun v142 ev142 => ?_)
                          obtain rfl : 0 = v142 := (ev142.trans (by decide)).symm
                          refine lv_iadd hx hb dX12_cheat_163 ?_
                          refine lv_topi (fun v143 ev143 => ?_)
                          obtain rfl : 3 = v143 := (ev143.trans (by decide)).symm
                          have : (3 : Int32).toInt = 3 := (by decide)
                          have hP9 : va_P (dC, dI) classes (WM h g ca (u2 iv 12 19 n11) (u2 (u2 lv 12 17 n12) 12 18 n13) fa la) H := hP
                          have hD9 : va_D A (WM h g ca (u2 iv 12 19 n11) (u2 (u2 lv 12 17 n12) 12 18 n13) fa la) := hD
                          exact W.iret (v := 3) hx hb hr (fun t ht9 hW => ⟨⟨3, ((u2 iv 12 19 n11), (u2 (u2 lv 12 17 n12) 12 18 n13), fa, la), rfl, ⟨n11, n12, n13, (show (((3 : Int32).toInt = -100001 ∧ ¬ (0 ≤ (a).toInt ∧ (a).toInt < (iv 12 1).toInt)) ∨ ((3 : Int32).toInt = -100002 ∧ (0 ≤ (a).toInt ∧ (a).toInt < (iv 12 1).toInt) ∧ ¬ (0 ≤ (b).toInt ∧ (b).toInt ≤ 999 ∧ 0 ≤ (d).toInt ∧ (d).toInt ≤ 999 ∧ 0 ≤ (k).toInt ∧ (k).toInt ≤ 999)) ∨ ((0 ≤ (a).toInt ∧ (a).toInt < (iv 12 1).toInt) ∧ (0 ≤ (b).toInt ∧ (b).toInt ≤ 999 ∧ 0 ≤ (d).toInt ∧ (d).toInt ≤ 999 ∧ 0 ≤ (k).toInt ∧ (k).toInt ≤ 999) ∧ (3 : Int32).toInt = chF ((fa 12 55) (a).toNatClampNeg) ((fa 12 56) (a).toNatClampNeg) (lossI (smL (fun s : Nat => ((fa 12 4) s).toInt = (a).toInt ∧ ((fa 12 5) s).toInt = 0 ∧ ((fa 12 11) s).toInt ≤ (iv 12 0).toInt ∧ (((fa 12 12) s).toInt < 0 ∨ (iv 12 0).toInt < ((fa 12 12) s).toInt)) (fa 12 7) ((iv 12 3).toInt).toNat) (smL (fun s : Nat => ((fa 12 4) s).toInt = (a).toInt ∧ ((fa 12 5) s).toInt = 0 ∧ ((fa 12 11) s).toInt ≤ (iv 12 0).toInt ∧ (((fa 12 12) s).toInt < 0 ∨ (iv 12 0).toInt < ((fa 12 12) s).toInt)) (fa 12 8) ((iv 12 3).toInt).toNat)) b d k)) from Or.inr (Or.inr ⟨⟨by omega, by omega⟩, ⟨by omega, by omega, by omega, by omega, by omega, by omega⟩, (by have hr9 : (n13 : Int64) = _ := Int64.toInt_inj.mp y9_6; have hd9 : (n12 : Int64) = _ := Int64.toInt_inj.mp y9_5; have hl9 : (0 : Int32) = lossI _ _ := (by unfold lossI; rw [if_pos (by omega)] : (0 : Int32) = lossI (smL (fun s : Nat => ((fa 12 4) s).toInt = a.toInt ∧ ((fa 12 5) s).toInt = 0 ∧ ((fa 12 11) s).toInt ≤ (iv 12 0).toInt ∧ (((fa 12 12) s).toInt < 0 ∨ (iv 12 0).toInt < ((fa 12 12) s).toInt)) (fa 12 7) ((iv 12 3).toInt).toNat) (smL (fun s : Nat => ((fa 12 4) s).toInt = a.toInt ∧ ((fa 12 5) s).toInt = 0 ∧ ((fa 12 11) s).toInt ≤ (iv 12 0).toInt ∧ (((fa 12 12) s).toInt < 0 ∨ (iv 12 0).toInt < ((fa 12 12) s).toInt)) (fa 12 8) ((iv 12 3).toInt).toNat)); rw [← ev83, ← ev117, ← hl9]; unfold chF; rw [← ev138, ← ev139]; (first | omega | (split <;> (first | omega | (split <;> (first | omega | (split <;> omega)))))))⟩)), ⟨by decide, by decide⟩, rfl⟩, by rw [ht9]; exact hP9, hD9⟩, hS.F ht9⟩) hS.2.2 dX12_cheat_164
                        · have fc140 := z_nle (rfl : (v139).toInt = _) (rfl : (k).toInt = _) c140
                          refine lv_iconst (v := 1) hx hb dX12_cheat_154 (by decide) ?_
                          refine lv_goto (tgt := 159) hx hb dX12_cheat_155 (by decide) ?_
                          refine vp_callSi (W.runS (As := [.int 1]) (rest := [.int 4, .int 3]) ⟨hx, hb, hml, hown, ht⟩ (c_X12_bit_1 l dC dI) (kS 1 ht m_1396 m_1397 m_89 m_1398 rfl rfl hd_X12_bit_v ⟨Nat.le_of_ble_eq_true rfl, Nat.le_of_ble_eq_true rfl⟩) (sR noP (hK.sub (tys' := []) [] rfl)) rfl rfl hl.1 rfl (lv_room (Nat.le_of_ble_eq_true rfl)) dX12_cheat_159 ⟨Nat.le_of_ble_eq_true rfl, Nat.le_of_ble_eq_true rfl⟩) (fun r144 hr144 => ?_)
                          obtain rfl : 1 = r144 := hr144.symm
                          refine lv_imul hx hb dX12_cheat_162 ?_
                          refine lv_topi (fun v145 ev145 => ?_)
                          obtain rfl : 4 = v145 := (ev145.trans (by decide)).symm
                          refine lv_iadd hx hb dX12_cheat_163 ?_
                          refine lv_topi (fun v146 ev146 => ?_)
                          obtain rfl : 7 = v146 := (ev146.trans (by decide)).symm
                          have : (7 : Int32).toInt = 7 := (by decide)
                          have hP9 : va_P (dC, dI) classes (WM h g ca (u2 iv 12 19 n11) (u2 (u2 lv 12 17 n12) 12 18 n13) fa la) H := hP
                          have hD9 : va_D A (WM h g ca (u2 iv 12 19 n11) (u2 (u2 lv 12 17 n12) 12 18 n13) fa la) := hD
                          exact W.iret (v := 7) hx hb hr (fun t ht9 hW => ⟨⟨7, ((u2 iv 12 19 n11), (u2 (u2 lv 12 17 n12) 12 18 n13), fa, la), rfl, ⟨n11, n12, n13, (show (((7 : Int32).toInt = -100001 ∧ ¬ (0 ≤ (a).toInt ∧ (a).toInt < (iv 12 1).toInt)) ∨ ((7 : Int32).toInt = -100002 ∧ (0 ≤ (a).toInt ∧ (a).toInt < (iv 12 1).toInt) ∧ ¬ (0 ≤ (b).toInt ∧ (b).toInt ≤ 999 ∧ 0 ≤ (d).toInt ∧ (d).toInt ≤ 999 ∧ 0 ≤ (k).toInt ∧ (k).toInt ≤ 999)) ∨ ((0 ≤ (a).toInt ∧ (a).toInt < (iv 12 1).toInt) ∧ (0 ≤ (b).toInt ∧ (b).toInt ≤ 999 ∧ 0 ≤ (d).toInt ∧ (d).toInt ≤ 999 ∧ 0 ≤ (k).toInt ∧ (k).toInt ≤ 999) ∧ (7 : Int32).toInt = chF ((fa 12 55) (a).toNatClampNeg) ((fa 12 56) (a).toNatClampNeg) (lossI (smL (fun s : Nat => ((fa 12 4) s).toInt = (a).toInt ∧ ((fa 12 5) s).toInt = 0 ∧ ((fa 12 11) s).toInt ≤ (iv 12 0).toInt ∧ (((fa 12 12) s).toInt < 0 ∨ (iv 12 0).toInt < ((fa 12 12) s).toInt)) (fa 12 7) ((iv 12 3).toInt).toNat) (smL (fun s : Nat => ((fa 12 4) s).toInt = (a).toInt ∧ ((fa 12 5) s).toInt = 0 ∧ ((fa 12 11) s).toInt ≤ (iv 12 0).toInt ∧ (((fa 12 12) s).toInt < 0 ∨ (iv 12 0).toInt < ((fa 12 12) s).toInt)) (fa 12 8) ((iv 12 3).toInt).toNat)) b d k)) from Or.inr (Or.inr ⟨⟨by omega, by omega⟩, ⟨by omega, by omega, by omega, by omega, by omega, by omega⟩, (by have hr9 : (n13 : Int64) = _ := Int64.toInt_inj.mp y9_6; have hd9 : (n12 : Int64) = _ := Int64.toInt_inj.mp y9_5; have hl9 : (0 : Int32) = lossI _ _ := (by unfold lossI; rw [if_pos (by omega)] : (0 : Int32) = lossI (smL (fun s : Nat => ((fa 12 4) s).toInt = a.toInt ∧ ((fa 12 5) s).toInt = 0 ∧ ((fa 12 11) s).toInt ≤ (iv 12 0).toInt ∧ (((fa 12 12) s).toInt < 0 ∨ (iv 12 0).toInt < ((fa 12 12) s).toInt)) (fa 12 7) ((iv 12 3).toInt).toNat) (smL (fun s : Nat => ((fa 12 4) s).toInt = a.toInt ∧ ((fa 12 5) s).toInt = 0 ∧ ((fa 12 11) s).toInt ≤ (iv 12 0).toInt ∧ (((fa 12 12) s).toInt < 0 ∨ (iv 12 0).toInt < ((fa 12 12) s).toInt)) (fa 12 8) ((iv 12 3).toInt).toNat)); rw [← ev83, ← ev117, ← hl9]; unfold chF; rw [← ev138, ← ev139]; (first | omega | (split <;> (first | omega | (split <;> (first | omega | (split <;> omega)))))))⟩)), ⟨by decide, by decide⟩, rfl⟩, by rw [ht9]; exact hP9, hD9⟩, hS.F ht9⟩) hS.2.2 dX12_cheat_164
                · exact absurd c9 (by decide)
              · skip
                refine lv_if_ne (tgt := 51) hx hb dX12_cheat_45 (by decide) (fun c147 => ?_) (fun c147 => ?_)
                · exact absurd rfl c147
                · skip
                  refine lv_ldc hx hb hown (ht _ m_1373) dX12_cheat_48 ?_
                  have : ((-100002) : Int32).toInt = (-100002) := (by decide)
                  have hP9 : va_P (dC, dI) classes (WM h g ca (u2 iv 12 19 (iv 12 19)) (u2 (u2 lv 12 17 (lv 12 17)) 12 18 (lv 12 18)) fa la) s.heap := hP
                  have hD9 : va_D A (WM h g ca (u2 iv 12 19 (iv 12 19)) (u2 (u2 lv 12 17 (lv 12 17)) 12 18 (lv 12 18)) fa la) := hD
                  exact W.iret (v := (-100002)) hx hb hr (fun t ht9 hW => ⟨⟨(-100002), ((u2 iv 12 19 (iv 12 19)), (u2 (u2 lv 12 17 (lv 12 17)) 12 18 (lv 12 18)), fa, la), rfl, ⟨(iv 12 19), (lv 12 17), (lv 12 18), (show ((((-100002) : Int32).toInt = -100001 ∧ ¬ (0 ≤ (a).toInt ∧ (a).toInt < (iv 12 1).toInt)) ∨ (((-100002) : Int32).toInt = -100002 ∧ (0 ≤ (a).toInt ∧ (a).toInt < (iv 12 1).toInt) ∧ ¬ (0 ≤ (b).toInt ∧ (b).toInt ≤ 999 ∧ 0 ≤ (d).toInt ∧ (d).toInt ≤ 999 ∧ 0 ≤ (k).toInt ∧ (k).toInt ≤ 999)) ∨ ((0 ≤ (a).toInt ∧ (a).toInt < (iv 12 1).toInt) ∧ (0 ≤ (b).toInt ∧ (b).toInt ≤ 999 ∧ 0 ≤ (d).toInt ∧ (d).toInt ≤ 999 ∧ 0 ≤ (k).toInt ∧ (k).toInt ≤ 999) ∧ ((-100002) : Int32).toInt = chF ((fa 12 55) (a).toNatClampNeg) ((fa 12 56) (a).toNatClampNeg) (lossI (smL (fun s : Nat => ((fa 12 4) s).toInt = (a).toInt ∧ ((fa 12 5) s).toInt = 0 ∧ ((fa 12 11) s).toInt ≤ (iv 12 0).toInt ∧ (((fa 12 12) s).toInt < 0 ∨ (iv 12 0).toInt < ((fa 12 12) s).toInt)) (fa 12 7) ((iv 12 3).toInt).toNat) (smL (fun s : Nat => ((fa 12 4) s).toInt = (a).toInt ∧ ((fa 12 5) s).toInt = 0 ∧ ((fa 12 11) s).toInt ≤ (iv 12 0).toInt ∧ (((fa 12 12) s).toInt < 0 ∨ (iv 12 0).toInt < ((fa 12 12) s).toInt)) (fa 12 8) ((iv 12 3).toInt).toNat)) b d k)) from Or.inr (Or.inl ⟨by omega, ⟨by omega, by omega⟩, by omega⟩)), ⟨by decide, by decide⟩, rfl⟩, by rw [ht9]; exact hP9, hD9⟩, hS.F ht9⟩) hS.2.2 dX12_cheat_50
          · skip
            refine lv_if_eq (tgt := 48) hx hb dX12_cheat_32 (by decide) (fun c148 => ?_) (fun c148 => ?_)
            · skip
              refine lv_ldc hx hb hown (ht _ m_1373) dX12_cheat_48 ?_
              have : ((-100002) : Int32).toInt = (-100002) := (by decide)
              have hP9 : va_P (dC, dI) classes (WM h g ca (u2 iv 12 19 (iv 12 19)) (u2 (u2 lv 12 17 (lv 12 17)) 12 18 (lv 12 18)) fa la) s.heap := hP
              have hD9 : va_D A (WM h g ca (u2 iv 12 19 (iv 12 19)) (u2 (u2 lv 12 17 (lv 12 17)) 12 18 (lv 12 18)) fa la) := hD
              exact W.iret (v := (-100002)) hx hb hr (fun t ht9 hW => ⟨⟨(-100002), ((u2 iv 12 19 (iv 12 19)), (u2 (u2 lv 12 17 (lv 12 17)) 12 18 (lv 12 18)), fa, la), rfl, ⟨(iv 12 19), (lv 12 17), (lv 12 18), (show ((((-100002) : Int32).toInt = -100001 ∧ ¬ (0 ≤ (a).toInt ∧ (a).toInt < (iv 12 1).toInt)) ∨ (((-100002) : Int32).toInt = -100002 ∧ (0 ≤ (a).toInt ∧ (a).toInt < (iv 12 1).toInt) ∧ ¬ (0 ≤ (b).toInt ∧ (b).toInt ≤ 999 ∧ 0 ≤ (d).toInt ∧ (d).toInt ≤ 999 ∧ 0 ≤ (k).toInt ∧ (k).toInt ≤ 999)) ∨ ((0 ≤ (a).toInt ∧ (a).toInt < (iv 12 1).toInt) ∧ (0 ≤ (b).toInt ∧ (b).toInt ≤ 999 ∧ 0 ≤ (d).toInt ∧ (d).toInt ≤ 999 ∧ 0 ≤ (k).toInt ∧ (k).toInt ≤ 999) ∧ ((-100002) : Int32).toInt = chF ((fa 12 55) (a).toNatClampNeg) ((fa 12 56) (a).toNatClampNeg) (lossI (smL (fun s : Nat => ((fa 12 4) s).toInt = (a).toInt ∧ ((fa 12 5) s).toInt = 0 ∧ ((fa 12 11) s).toInt ≤ (iv 12 0).toInt ∧ (((fa 12 12) s).toInt < 0 ∨ (iv 12 0).toInt < ((fa 12 12) s).toInt)) (fa 12 7) ((iv 12 3).toInt).toNat) (smL (fun s : Nat => ((fa 12 4) s).toInt = (a).toInt ∧ ((fa 12 5) s).toInt = 0 ∧ ((fa 12 11) s).toInt ≤ (iv 12 0).toInt ∧ (((fa 12 12) s).toInt < 0 ∨ (iv 12 0).toInt < ((fa 12 12) s).toInt)) (fa 12 8) ((iv 12 3).toInt).toNat)) b d k)) from Or.inr (Or.inl ⟨by omega, ⟨by omega, by omega⟩, by omega⟩)), ⟨by decide, by decide⟩, rfl⟩, by rw [ht9]; exact hP9, hD9⟩, hS.F ht9⟩) hS.2.2 dX12_cheat_50
            · exact absurd rfl c148
      · skip
        refine lv_if_eq (tgt := 48) hx hb dX12_cheat_20 (by decide) (fun c149 => ?_) (fun c149 => ?_)
        · skip
          refine lv_ldc hx hb hown (ht _ m_1373) dX12_cheat_48 ?_
          have : ((-100002) : Int32).toInt = (-100002) := (by decide)
          have hP9 : va_P (dC, dI) classes (WM h g ca (u2 iv 12 19 (iv 12 19)) (u2 (u2 lv 12 17 (lv 12 17)) 12 18 (lv 12 18)) fa la) s.heap := hP
          have hD9 : va_D A (WM h g ca (u2 iv 12 19 (iv 12 19)) (u2 (u2 lv 12 17 (lv 12 17)) 12 18 (lv 12 18)) fa la) := hD
          exact W.iret (v := (-100002)) hx hb hr (fun t ht9 hW => ⟨⟨(-100002), ((u2 iv 12 19 (iv 12 19)), (u2 (u2 lv 12 17 (lv 12 17)) 12 18 (lv 12 18)), fa, la), rfl, ⟨(iv 12 19), (lv 12 17), (lv 12 18), (show ((((-100002) : Int32).toInt = -100001 ∧ ¬ (0 ≤ (a).toInt ∧ (a).toInt < (iv 12 1).toInt)) ∨ (((-100002) : Int32).toInt = -100002 ∧ (0 ≤ (a).toInt ∧ (a).toInt < (iv 12 1).toInt) ∧ ¬ (0 ≤ (b).toInt ∧ (b).toInt ≤ 999 ∧ 0 ≤ (d).toInt ∧ (d).toInt ≤ 999 ∧ 0 ≤ (k).toInt ∧ (k).toInt ≤ 999)) ∨ ((0 ≤ (a).toInt ∧ (a).toInt < (iv 12 1).toInt) ∧ (0 ≤ (b).toInt ∧ (b).toInt ≤ 999 ∧ 0 ≤ (d).toInt ∧ (d).toInt ≤ 999 ∧ 0 ≤ (k).toInt ∧ (k).toInt ≤ 999) ∧ ((-100002) : Int32).toInt = chF ((fa 12 55) (a).toNatClampNeg) ((fa 12 56) (a).toNatClampNeg) (lossI (smL (fun s : Nat => ((fa 12 4) s).toInt = (a).toInt ∧ ((fa 12 5) s).toInt = 0 ∧ ((fa 12 11) s).toInt ≤ (iv 12 0).toInt ∧ (((fa 12 12) s).toInt < 0 ∨ (iv 12 0).toInt < ((fa 12 12) s).toInt)) (fa 12 7) ((iv 12 3).toInt).toNat) (smL (fun s : Nat => ((fa 12 4) s).toInt = (a).toInt ∧ ((fa 12 5) s).toInt = 0 ∧ ((fa 12 11) s).toInt ≤ (iv 12 0).toInt ∧ (((fa 12 12) s).toInt < 0 ∨ (iv 12 0).toInt < ((fa 12 12) s).toInt)) (fa 12 8) ((iv 12 3).toInt).toNat)) b d k)) from Or.inr (Or.inl ⟨by omega, ⟨by omega, by omega⟩, by omega⟩)), ⟨by decide, by decide⟩, rfl⟩, by rw [ht9]; exact hP9, hD9⟩, hS.F ht9⟩) hS.2.2 dX12_cheat_50
        · exact absurd rfl c149
    · exact absurd rfl c3
