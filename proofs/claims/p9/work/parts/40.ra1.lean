/-! ===== ra1 ===== -/

/-- what ratio answers of the sums -/
def raF (dr rw : Int) (ct w : Int) : Int := if w = 2 then ct else if ct = 0 then -100003 else if w = 0 then dr / gN dr rw else rw / gN dr rw
theorem l2i_in {a : Int64} {c : Int32} {x : Int} (h : a.toInt32 = c) (ha : a.toInt = x) (h0 : -2147483648 ≤ x) (h1 : x < 2147483648) : c.toInt = x := by
  rw [← h, Int64.toInt_toInt32, ha, Int.bmod_def]; omega
theorem div_in {x y : Int} (h0 : 0 ≤ x) (hy : 1 ≤ y) : 0 ≤ x / y ∧ x / y ≤ x := ⟨Int.ediv_nonneg h0 (by omega), Int.ediv_le_self y h0⟩
set_option maxHeartbeats 4000000 in
set_option maxRecDepth 100000 in
/-- X11_ratio -/
theorem c_X11_ratio_t (l : Launch) (dC : Nat → ClassId) (dI : Nat → Nat → Nat) (sz : Nat) (h : Nat) (g : Nat → Nat → Nat) (ca : Nat → Nat → ClassId) (iv : Nat → Nat → Int32) (lv : Nat → Nat → Int64) (fa : Nat → Nat → Nat → Int32) (la : Nat → Nat → Nat → Int64) (hI : IX iv fa) (a : Int32) (b : Int32) (d : Int32) (hJW : ∀ s : Nat, (s : Int) < (iv 10 1).toInt → (100 ≤ (fa 10 0 (9 * s + 3)).toInt ∧ (fa 10 0 (9 * s + 3)).toInt ≤ 9999) ∧ (50 ≤ (fa 10 0 (9 * s + 4)).toInt ∧ (fa 10 0 (9 * s + 4)).toInt ≤ 9999)) : Met l yX11_ratio (wc yX11_ratio cX11_ratio 4 (some .int)) ({ frames := 3, cells := 0, slots := 0, locals := 67 } : Room) (pW (dC, dI) classes (WX h g ca iv lv fa la) (TX ca) sz [.ref h, .int a, .int b, .int d]) (va_Qi (fun r (u : SS) => ∃ (na_30_2 : Nat → Int32) (nb_30_0 : Nat → Int64) (nb_30_1 : Nat → Int64), (((r.toInt = -100001 ∧ ¬ (0 ≤ a.toInt ∧ a.toInt < (iv 0 7).toInt)) ∨ (r.toInt = -100002 ∧ (0 ≤ a.toInt ∧ a.toInt < (iv 0 7).toInt) ∧ ¬ (0 ≤ b.toInt ∧ b.toInt ≤ 2 ∧ 0 ≤ d.toInt ∧ d.toInt ≤ 2)) ∨ ((0 ≤ a.toInt ∧ a.toInt < (iv 0 7).toInt) ∧ (0 ≤ b.toInt ∧ b.toInt ≤ 2 ∧ 0 ≤ d.toInt ∧ d.toInt ≤ 2) ∧ r.toInt = raF (smL (fun s : Nat => ((fa 10 0) (9 * s + 0)).toInt = a.toInt ∧ ((fa 10 0) (9 * s + 1)).toInt = b.toInt ∧ ((fa 10 0) (9 * s + 7)).toInt ≤ (iv 11 10).toInt ∧ (((fa 10 0) (9 * s + 8)).toInt = -1 ∨ (iv 11 10).toInt < ((fa 10 0) (9 * s + 8)).toInt)) (fun s : Nat => (fa 10 0) (9 * s + 4)) ((iv 10 1).toInt).toNat).toInt (smL (fun s : Nat => ((fa 10 0) (9 * s + 0)).toInt = a.toInt ∧ ((fa 10 0) (9 * s + 1)).toInt = b.toInt ∧ ((fa 10 0) (9 * s + 7)).toInt ≤ (iv 11 10).toInt ∧ (((fa 10 0) (9 * s + 8)).toInt = -1 ∨ (iv 11 10).toInt < ((fa 10 0) (9 * s + 8)).toInt)) (fun s : Nat => (fa 10 0) (9 * s + 3)) ((iv 10 1).toInt).toNat).toInt (smC (fun s : Nat => ((fa 10 0) (9 * s + 0)).toInt = a.toInt ∧ ((fa 10 0) (9 * s + 1)).toInt = b.toInt ∧ ((fa 10 0) (9 * s + 7)).toInt ≤ (iv 11 10).toInt ∧ (((fa 10 0) (9 * s + 8)).toInt = -1 ∨ (iv 11 10).toInt < ((fa 10 0) (9 * s + 8)).toInt)) ((iv 10 1).toInt).toNat).toInt d.toInt))) ∧ (True) ∧ u = (iv, lv, (u2 fa 30 2 na_30_2), (u2 (u2 la 30 0 nb_30_0) 30 1 nb_30_1))) (bX (dC, dI) h g ca (va_A (WX h g ca iv lv fa la) sz)) (va_A (WX h g ca iv lv fa la) sz)) 0 0 (va_A (WX h g ca iv lv fa la) sz) := by
  refine Met.ofW (cc := cX11_ratio) (maxL := 4) (ret := (some .int)) (by decide) rfl ?_
  intro p e s m args below meth c s₁ B hml hv
  obtain ⟨rfl, hsz, hP, hK, hD0⟩ := hv
  have hx := B.exec
  have hb := B.bytes
  have hr := B.returns
  have ht := tb_tl (atoms_spec (ws := wc yX11_ratio cX11_ratio 4 (some .int)) B.pre)
  have hown : s.vm.findClass RX11 = some m.cls := findClass_of_methodNamed B.named
  have hlocks := B.notSynchronized
  subst hsz
  have hD := hD0.self (sz := s.heap.size)
  generalize hAe : va_A (WX h g ca iv lv fa la) s.heap.size = A at hD ⊢
  have hA : ∀ q : Nat, s.heap.size ≤ q → A q := fun q h => by rw [← hAe]; exact Or.inr h
  have hS : va_S A s.heap s.heap [] := va_S.rf
  have hl := lv_entry [.ref h, .int a, .int b, .int d] (n := 4) (Nat.le_of_ble_eq_true rfl)
  rw [lg_entry_eq]
  generalize (lg_sl [.ref h, .int a, .int b, .int d] ++ List.replicate (4 - (lg_sl [.ref h, .int a, .int b, .int d]).length) Slot.unset).toArray = ls at hl ⊢
  have hl : lv_has ls 4 [(0, .ref h), (1, .int a), (2, .int b), (3, .int d)] := hl
  refine lv_aload_n hx hb dX11_ratio_0 rfl (lv_at hl 0 rfl) ?_
  refine gX_11_2 hx hb ht hown hK hP m_417 dX11_ratio_1 ?_
  refine lv_iload_n hx hb dX11_ratio_4 rfl (lv_at hl 1 rfl) ?_
  refine vp_callSi (W.runV (As := [.int a]) (rest := []) ⟨hx, hb, hml, hown, ht⟩ (c_X0_has l dC dI h g ca iv lv fa la hI a) (kV 1 ht m_472 m_473 m_474 m_80 m_475 rfl rfl hd_X0_has_v ⟨Nat.le_of_ble_eq_true rfl, Nat.le_of_ble_eq_true rfl⟩) (vR hP hK (rX_0 hK hP)) rfl rfl hl.1 rfl (lv_room (Nat.le_of_ble_eq_true rfl)) dX11_ratio_5 ⟨Nat.le_of_ble_eq_true rfl, Nat.le_of_ble_eq_true rfl⟩) (fun r1 hr1 => ?_)
  rcases hr1 with ⟨rfl, fr1⟩ | ⟨rfl, fr1⟩
  · skip
    have i_0_7 : 0 ≤ (iv 0 7).toInt ∧ (iv 0 7).toInt ≤ 10 := hI.1 0 7
    have fr1 : (0 ≤ (a : Int32).toInt ∧ (a : Int32).toInt < ((iv 0 7) : Int32).toInt) := fr1
    refine lv_if_ne (tgt := 14) hx hb dX11_ratio_8 (by decide) (fun c2 => ?_) (fun c2 => ?_)
    · skip
      refine lv_iload_n hx hb dX11_ratio_14 rfl (lv_at hl 2 rfl) ?_
      refine lv_iconst (v := 0) hx hb dX11_ratio_15 (by decide) ?_
      refine lv_iconst (v := 2) hx hb dX11_ratio_16 (by decide) ?_
      refine vp_callSi (W.runS (As := [.int b, .int 0, .int 2]) (rest := []) ⟨hx, hb, hml, hown, ht⟩ (c_X11_within l dC dI b 0 2 (b.toInt) (0) (2) (rfl : (b).toInt = _) (by decide : (0 : Int32).toInt = 0) (by decide : (2 : Int32).toInt = 2)) (kS 3 ht m_453 m_454 m_77 m_455 rfl rfl hd_X11_within_v ⟨Nat.le_of_ble_eq_true rfl, Nat.le_of_ble_eq_true rfl⟩) (sR noP (hK.sub (tys' := []) [] rfl)) rfl rfl hl.1 rfl (lv_room (Nat.le_of_ble_eq_true rfl)) dX11_ratio_17 ⟨Nat.le_of_ble_eq_true rfl, Nat.le_of_ble_eq_true rfl⟩) (fun r3 hr3 => ?_)
      rcases hr3 with ⟨rfl, fr3⟩ | ⟨rfl, fr3⟩
      · skip
        refine lv_if_eq (tgt := 32) hx hb dX11_ratio_20 (by decide) (fun c4 => ?_) (fun c4 => ?_)
        · exact absurd c4 (by decide)
        · skip
          refine lv_iload_n hx hb dX11_ratio_23 rfl (lv_at hl 3 rfl) ?_
          refine lv_iconst (v := 0) hx hb dX11_ratio_24 (by decide) ?_
          refine lv_iconst (v := 2) hx hb dX11_ratio_25 (by decide) ?_
          refine vp_callSi (W.runS (As := [.int d, .int 0, .int 2]) (rest := []) ⟨hx, hb, hml, hown, ht⟩ (c_X11_within l dC dI d 0 2 (d.toInt) (0) (2) (rfl : (d).toInt = _) (by decide : (0 : Int32).toInt = 0) (by decide : (2 : Int32).toInt = 2)) (kS 3 ht m_453 m_454 m_77 m_455 rfl rfl hd_X11_within_v ⟨Nat.le_of_ble_eq_true rfl, Nat.le_of_ble_eq_true rfl⟩) (sR noP (hK.sub (tys' := []) [] rfl)) rfl rfl hl.1 rfl (lv_room (Nat.le_of_ble_eq_true rfl)) dX11_ratio_26 ⟨Nat.le_of_ble_eq_true rfl, Nat.le_of_ble_eq_true rfl⟩) (fun r5 hr5 => ?_)
          rcases hr5 with ⟨rfl, fr5⟩ | ⟨rfl, fr5⟩
          · skip
            refine lv_if_ne (tgt := 35) hx hb dX11_ratio_29 (by decide) (fun c6 => ?_) (fun c6 => ?_)
            · skip
              refine lv_aload_n hx hb dX11_ratio_35 rfl (lv_at hl 0 rfl) ?_
              refine gX_11_5 hx hb ht hown hK hP m_420 dX11_ratio_36 ?_
              refine lv_iload_n hx hb dX11_ratio_39 rfl (lv_at hl 1 rfl) ?_
              refine lv_aload_n hx hb dX11_ratio_40 rfl (lv_at hl 0 rfl) ?_
              have i_11_10 : 0 ≤ (iv 11 10).toInt ∧ (iv 11 10).toInt ≤ 3000 := hI.1 11 10
              refine gX_11_10 hx hb ht hown hK hP m_425 (v := (iv 11 10)) rfl dX11_ratio_41 ?_
              have hFc := free_all hD hS hA
              refine va_callv (va_runV (As := [.int a, .int (iv 11 10)]) (rest := []) ⟨hx, hb, hml, hown, ht⟩ (c_X3_gather_s l dC dI s.heap.size h g ca iv lv fa la hI a (iv 11 10)) (kV 2 ht m_564 m_565 m_566 m_83 m_567 rfl rfl hd_X3_gather_v ⟨Nat.le_of_ble_eq_true rfl, Nat.le_of_ble_eq_true rfl⟩) (vW hP hK hD (rX_3 hK hP)) rfl rfl hl.1 rfl (lv_room (Nat.le_of_ble_eq_true rfl)) dX11_ratio_44 ⟨Nat.le_of_ble_eq_true rfl, Nat.le_of_ble_eq_true rfl⟩) hS (fun q _ h => hFc q h) hFc (fun u t H1 locs ht9 hvm hr7 hB hz1 hk1 hS => ?_)
              obtain ⟨n8, n9, n10, xr7_0, rfl⟩ := hr7
              have hn8 : ∀ j, inb (bA 30 2 j) (n8 j) := fun j => full_i _
              obtain ⟨hP, hD⟩ := hB
              rw [ht9] at hP
              generalize H1 = H at hP hS ⊢
              have hP : va_P (dC, dI) classes (WX h g ca iv lv (u2 fa 30 2 n8) (u2 (u2 la 30 0 n9) 30 1 n10)) H := hP
              have hD : va_D A (WX h g ca iv lv (u2 fa 30 2 n8) (u2 (u2 la 30 0 n9) 30 1 n10)) := (show va_D _ (WX h g ca iv lv (u2 fa 30 2 n8) (u2 (u2 la 30 0 n9) 30 1 n10)) from hD).weaken (fun _ _ _ h => hFc _ h)
              have i_10_1 : 0 ≤ (iv 10 1).toInt ∧ (iv 10 1).toInt ≤ 60 := hI.1 10 1
              have xr7_0 : ∀ l : Nat, l < 3 → n9 l = smL (fun s : Nat => ((fa 10 0) (9 * s + 0)).toInt = (a : Int32).toInt ∧ ((fa 10 0) (9 * s + 1)).toInt = (l : Int) ∧ ((fa 10 0) (9 * s + 7)).toInt ≤ ((iv 11 10) : Int32).toInt ∧ (((fa 10 0) (9 * s + 8)).toInt = -1 ∨ ((iv 11 10) : Int32).toInt < ((fa 10 0) (9 * s + 8)).toInt)) (fun s : Nat => (fa 10 0) (9 * s + 3)) (((iv 10 1) : Int32).toInt).toNat ∧ n10 l = smL (fun s : Nat => ((fa 10 0) (9 * s + 0)).toInt = (a : Int32).toInt ∧ ((fa 10 0) (9 * s + 1)).toInt = (l : Int) ∧ ((fa 10 0) (9 * s + 7)).toInt ≤ ((iv 11 10) : Int32).toInt ∧ (((fa 10 0) (9 * s + 8)).toInt = -1 ∨ ((iv 11 10) : Int32).toInt < ((fa 10 0) (9 * s + 8)).toInt)) (fun s : Nat => (fa 10 0) (9 * s + 4)) (((iv 10 1) : Int32).toInt).toNat ∧ n8 l = smC (fun s : Nat => ((fa 10 0) (9 * s + 0)).toInt = (a : Int32).toInt ∧ ((fa 10 0) (9 * s + 1)).toInt = (l : Int) ∧ ((fa 10 0) (9 * s + 7)).toInt ≤ ((iv 11 10) : Int32).toInt ∧ (((fa 10 0) (9 * s + 8)).toInt = -1 ∨ ((iv 11 10) : Int32).toInt < ((fa 10 0) (9 * s + 8)).toInt)) (((iv 10 1) : Int32).toInt).toNat := xr7_0
              have hl9 : ((b.toInt.toNat : Nat) : Int) = b.toInt := Int.toNat_of_nonneg (by omega)
              have hg9 := xr7_0 b.toInt.toNat (by omega)
              rw [hl9] at hg9
              have hb9 := smL_b (c := (fun s : Nat => ((fa 10 0) (9 * s + 0)).toInt = a.toInt ∧ ((fa 10 0) (9 * s + 1)).toInt = b.toInt ∧ ((fa 10 0) (9 * s + 7)).toInt ≤ (iv 11 10).toInt ∧ (((fa 10 0) (9 * s + 8)).toInt = -1 ∨ (iv 11 10).toInt < ((fa 10 0) (9 * s + 8)).toInt))) (w := (fun s : Nat => (fa 10 0) (9 * s + 3))) (lo := 100) (hi := 9999) (by decide) (by decide) (by decide) (iv 10 1).toInt.toNat (by omega) (fun j hj => (hJW j (by omega)).1)
              have hd9 := smL_b (c := (fun s : Nat => ((fa 10 0) (9 * s + 0)).toInt = a.toInt ∧ ((fa 10 0) (9 * s + 1)).toInt = b.toInt ∧ ((fa 10 0) (9 * s + 7)).toInt ≤ (iv 11 10).toInt ∧ (((fa 10 0) (9 * s + 8)).toInt = -1 ∨ (iv 11 10).toInt < ((fa 10 0) (9 * s + 8)).toInt))) (w := (fun s : Nat => (fa 10 0) (9 * s + 4))) (lo := 50) (hi := 9999) (by decide) (by decide) (by decide) (iv 10 1).toInt.toNat (by omega) (fun j hj => (hJW j (by omega)).2)
              refine lv_iload_n hx hb dX11_ratio_47 rfl (lv_at hl 3 rfl) ?_
              refine lv_iconst (v := 2) hx hb dX11_ratio_48 (by decide) ?_
              refine lv_icmp_ne (tgt := 65) hx hb dX11_ratio_49 (by decide) (fun c11 => ?_) (fun c11 => ?_)
              · have fc11 := z_ne (rfl : (d).toInt = _) (by decide : (2 : Int32).toInt = 2) c11
                refine lv_aload_n hx hb dX11_ratio_65 rfl (lv_at hl 0 rfl) ?_
                refine gX_11_5 hx hb ht hown hK hP m_420 dX11_ratio_66 ?_
                refine gX_3_2 hx hb ht hown hK hP m_282 dX11_ratio_69 ?_
                refine gX_30_2 hx hb ht hown hK hP m_270 dX11_ratio_72 ?_
                refine lv_iload_n hx hb dX11_ratio_75 rfl (lv_at hl 2 rfl) ?_
                refine lX_30_2 hx hb hK hP (f := n8) rfl (vp_in_iff.mpr ⟨by omega, by omega⟩) dX11_ratio_76 ?_
                refine lv_topi (fun v12 ev12 => ?_)
                have hc9 := congrArg Int32.toInt ((show v12 = _ from ev12).trans hg9.2.2)
                refine lv_if_ne (tgt := 83) hx hb dX11_ratio_77 (by decide) (fun c13 => ?_) (fun c13 => ?_)
                · have fc13 := z_ne (rfl : (v12).toInt = _) (by decide : (0 : Int32).toInt = 0) c13
                  refine lv_aload_n hx hb dX11_ratio_83 rfl (lv_at hl 0 rfl) ?_
                  refine gX_11_5 hx hb ht hown hK hP m_420 dX11_ratio_84 ?_
                  refine gX_3_2 hx hb ht hown hK hP m_282 dX11_ratio_87 ?_
                  refine gX_30_1 hx hb ht hown hK hP m_266 dX11_ratio_90 ?_
                  refine lv_iload_n hx hb dX11_ratio_93 rfl (lv_at hl 2 rfl) ?_
                  refine lX_30_1 hx hb hK hP (f := n10) rfl (vp_in_iff.mpr ⟨by omega, by omega⟩) dX11_ratio_94 ?_
                  refine lv_topl (fun w14 ew14 => ?_)
                  have hnw14 := congrArg Int64.toInt ((show w14 = _ from ew14).trans hg9.2.1)
                  refine lv_aload_n hx hb dX11_ratio_95 rfl (lv_at hl 0 rfl) ?_
                  refine gX_11_5 hx hb ht hown hK hP m_420 dX11_ratio_96 ?_
                  refine gX_3_2 hx hb ht hown hK hP m_282 dX11_ratio_99 ?_
                  refine gX_30_0 hx hb ht hown hK hP m_263 dX11_ratio_102 ?_
                  refine lv_iload_n hx hb dX11_ratio_105 rfl (lv_at hl 2 rfl) ?_
                  refine lX_30_0 hx hb hK hP (f := n9) rfl (vp_in_iff.mpr ⟨by omega, by omega⟩) dX11_ratio_106 ?_
                  refine lv_topl (fun w15 ew15 => ?_)
                  have hnw15 := congrArg Int64.toInt ((show w15 = _ from ew15).trans hg9.1)
                  refine lv_iload_n hx hb dX11_ratio_107 rfl (lv_at hl 3 rfl) ?_
                  refine vp_callSl (W.runS (As := [.long w14, .long w15, .int d]) (rest := []) ⟨hx, hb, hml, hown, ht⟩ (c_X11_inLeastTerms_g l dC dI w14 w15 d (show 0 ≤ (w14 : Int64).toInt from by omega) (show 1 ≤ (w15 : Int64).toInt from by omega) (show (w15 : Int64).toInt ≤ 281474976710656 from by omega)) (kS 3 ht m_581 m_582 m_77 m_583 rfl rfl hd_X11_inLeastTerms_v ⟨Nat.le_of_ble_eq_true rfl, Nat.le_of_ble_eq_true rfl⟩) (sR noP (hK.sub (tys' := []) [] rfl)) rfl rfl hl.1 rfl (lv_room (Nat.le_of_ble_eq_true rfl)) dX11_ratio_108 ⟨Nat.le_of_ble_eq_true rfl, Nat.le_of_ble_eq_true rfl⟩) (fun r16 hr16 => ?_)
                  obtain ⟨hr16, xr16_0⟩ := hr16
                  have xr16_0 : (((d : Int32).toInt = 0 ∧ (r16 : Int64).toInt = (w14 : Int64).toInt / gN (w14 : Int64).toInt (w15 : Int64).toInt) ∨ ((d : Int32).toInt ≠ 0 ∧ (r16 : Int64).toInt = (w15 : Int64).toInt / gN (w14 : Int64).toInt (w15 : Int64).toInt)) := xr16_0
                  obtain ⟨v17, ev17⟩ : ∃ y : Int32, r16.toInt32 = y := ⟨_, rfl⟩
                  refine lv_l2i (v := v17) hx hb dX11_ratio_111 ev17 ?_
                  have hP9 : va_P (dC, dI) classes (WX h g ca iv lv (u2 fa 30 2 n8) (u2 (u2 la 30 0 n9) 30 1 n10)) H := hP
                  have hD9 : va_D A (WX h g ca iv lv (u2 fa 30 2 n8) (u2 (u2 la 30 0 n9) 30 1 n10)) := hD
                  exact W.iret (v := v17) hx hb hr (fun t ht9 hW => ⟨⟨v17, (iv, lv, (u2 fa 30 2 n8), (u2 (u2 la 30 0 n9) 30 1 n10)), rfl, ⟨n8, n9, n10, (show (((v17 : Int32).toInt = -100001 ∧ ¬ (0 ≤ (a).toInt ∧ (a).toInt < (iv 0 7).toInt)) ∨ ((v17 : Int32).toInt = -100002 ∧ (0 ≤ (a).toInt ∧ (a).toInt < (iv 0 7).toInt) ∧ ¬ (0 ≤ (b).toInt ∧ (b).toInt ≤ 2 ∧ 0 ≤ (d).toInt ∧ (d).toInt ≤ 2)) ∨ ((0 ≤ (a).toInt ∧ (a).toInt < (iv 0 7).toInt) ∧ (0 ≤ (b).toInt ∧ (b).toInt ≤ 2 ∧ 0 ≤ (d).toInt ∧ (d).toInt ≤ 2) ∧ (v17 : Int32).toInt = raF (smL (fun s : Nat => ((fa 10 0) (9 * s + 0)).toInt = (a).toInt ∧ ((fa 10 0) (9 * s + 1)).toInt = (b).toInt ∧ ((fa 10 0) (9 * s + 7)).toInt ≤ (iv 11 10).toInt ∧ (((fa 10 0) (9 * s + 8)).toInt = -1 ∨ (iv 11 10).toInt < ((fa 10 0) (9 * s + 8)).toInt)) (fun s : Nat => (fa 10 0) (9 * s + 4)) ((iv 10 1).toInt).toNat).toInt (smL (fun s : Nat => ((fa 10 0) (9 * s + 0)).toInt = (a).toInt ∧ ((fa 10 0) (9 * s + 1)).toInt = (b).toInt ∧ ((fa 10 0) (9 * s + 7)).toInt ≤ (iv 11 10).toInt ∧ (((fa 10 0) (9 * s + 8)).toInt = -1 ∨ (iv 11 10).toInt < ((fa 10 0) (9 * s + 8)).toInt)) (fun s : Nat => (fa 10 0) (9 * s + 3)) ((iv 10 1).toInt).toNat).toInt (smC (fun s : Nat => ((fa 10 0) (9 * s + 0)).toInt = (a).toInt ∧ ((fa 10 0) (9 * s + 1)).toInt = (b).toInt ∧ ((fa 10 0) (9 * s + 7)).toInt ≤ (iv 11 10).toInt ∧ (((fa 10 0) (9 * s + 8)).toInt = -1 ∨ (iv 11 10).toInt < ((fa 10 0) (9 * s + 8)).toInt)) ((iv 10 1).toInt).toNat).toInt (d).toInt)) from Or.inr (Or.inr ⟨⟨by omega, by omega⟩, ⟨by omega, by omega, by omega, by omega⟩, (by have hp9 := gN_pos (x := (w14 : Int64).toInt) (y := (w15 : Int64).toInt) (by omega); have hi1 := div_in (x := (w14 : Int64).toInt) (y := gN (w14 : Int64).toInt (w15 : Int64).toInt) (by omega) hp9; have hi2 := div_in (x := (w15 : Int64).toInt) (y := gN (w14 : Int64).toInt (w15 : Int64).toInt) (by omega) hp9; have hv9 := l2i_in ev17 rfl (by omega) (by omega); unfold raF; rw [if_neg (by omega), if_neg (by omega), ← hnw14, ← hnw15]; split <;> omega)⟩)), trivial, rfl⟩, by rw [ht9]; exact hP9, hD9⟩, hS.F ht9⟩) hS.2.2 dX11_ratio_112
                · have fc13 := z_eq (rfl : (v12).toInt = _) (by decide : (0 : Int32).toInt = 0) c13
                  refine lv_ldc hx hb hown (ht _ m_457) dX11_ratio_80 ?_
                  have : ((-100003) : Int32).toInt = (-100003) := (by decide)
                  have hP9 : va_P (dC, dI) classes (WX h g ca iv lv (u2 fa 30 2 n8) (u2 (u2 la 30 0 n9) 30 1 n10)) H := hP
                  have hD9 : va_D A (WX h g ca iv lv (u2 fa 30 2 n8) (u2 (u2 la 30 0 n9) 30 1 n10)) := hD
                  exact W.iret (v := (-100003)) hx hb hr (fun t ht9 hW => ⟨⟨(-100003), (iv, lv, (u2 fa 30 2 n8), (u2 (u2 la 30 0 n9) 30 1 n10)), rfl, ⟨n8, n9, n10, (show ((((-100003) : Int32).toInt = -100001 ∧ ¬ (0 ≤ (a).toInt ∧ (a).toInt < (iv 0 7).toInt)) ∨ (((-100003) : Int32).toInt = -100002 ∧ (0 ≤ (a).toInt ∧ (a).toInt < (iv 0 7).toInt) ∧ ¬ (0 ≤ (b).toInt ∧ (b).toInt ≤ 2 ∧ 0 ≤ (d).toInt ∧ (d).toInt ≤ 2)) ∨ ((0 ≤ (a).toInt ∧ (a).toInt < (iv 0 7).toInt) ∧ (0 ≤ (b).toInt ∧ (b).toInt ≤ 2 ∧ 0 ≤ (d).toInt ∧ (d).toInt ≤ 2) ∧ ((-100003) : Int32).toInt = raF (smL (fun s : Nat => ((fa 10 0) (9 * s + 0)).toInt = (a).toInt ∧ ((fa 10 0) (9 * s + 1)).toInt = (b).toInt ∧ ((fa 10 0) (9 * s + 7)).toInt ≤ (iv 11 10).toInt ∧ (((fa 10 0) (9 * s + 8)).toInt = -1 ∨ (iv 11 10).toInt < ((fa 10 0) (9 * s + 8)).toInt)) (fun s : Nat => (fa 10 0) (9 * s + 4)) ((iv 10 1).toInt).toNat).toInt (smL (fun s : Nat => ((fa 10 0) (9 * s + 0)).toInt = (a).toInt ∧ ((fa 10 0) (9 * s + 1)).toInt = (b).toInt ∧ ((fa 10 0) (9 * s + 7)).toInt ≤ (iv 11 10).toInt ∧ (((fa 10 0) (9 * s + 8)).toInt = -1 ∨ (iv 11 10).toInt < ((fa 10 0) (9 * s + 8)).toInt)) (fun s : Nat => (fa 10 0) (9 * s + 3)) ((iv 10 1).toInt).toNat).toInt (smC (fun s : Nat => ((fa 10 0) (9 * s + 0)).toInt = (a).toInt ∧ ((fa 10 0) (9 * s + 1)).toInt = (b).toInt ∧ ((fa 10 0) (9 * s + 7)).toInt ≤ (iv 11 10).toInt ∧ (((fa 10 0) (9 * s + 8)).toInt = -1 ∨ (iv 11 10).toInt < ((fa 10 0) (9 * s + 8)).toInt)) ((iv 10 1).toInt).toNat).toInt (d).toInt)) from Or.inr (Or.inr ⟨⟨by omega, by omega⟩, ⟨by omega, by omega, by omega, by omega⟩, (by unfold raF; rw [if_neg (by omega), if_pos (by omega)]; omega)⟩)), trivial, rfl⟩, by rw [ht9]; exact hP9, hD9⟩, hS.F ht9⟩) hS.2.2 dX11_ratio_82
              · have fc11 := z_eq (rfl : (d).toInt = _) (by decide : (2 : Int32).toInt = 2) c11
                refine lv_aload_n hx hb dX11_ratio_52 rfl (lv_at hl 0 rfl) ?_
                refine gX_11_5 hx hb ht hown hK hP m_420 dX11_ratio_53 ?_
                refine gX_3_2 hx hb ht hown hK hP m_282 dX11_ratio_56 ?_
                refine gX_30_2 hx hb ht hown hK hP m_270 dX11_ratio_59 ?_
                refine lv_iload_n hx hb dX11_ratio_62 rfl (lv_at hl 2 rfl) ?_
                refine lX_30_2 hx hb hK hP (f := n8) rfl (vp_in_iff.mpr ⟨by omega, by omega⟩) dX11_ratio_63 ?_
                refine lv_topi (fun v18 ev18 => ?_)
                have hc9 := congrArg Int32.toInt ((show v18 = _ from ev18).trans hg9.2.2)
                have hP9 : va_P (dC, dI) classes (WX h g ca iv lv (u2 fa 30 2 n8) (u2 (u2 la 30 0 n9) 30 1 n10)) H := hP
                have hD9 : va_D A (WX h g ca iv lv (u2 fa 30 2 n8) (u2 (u2 la 30 0 n9) 30 1 n10)) := hD
                exact W.iret (v := v18) hx hb hr (fun t ht9 hW => ⟨⟨v18, (iv, lv, (u2 fa 30 2 n8), (u2 (u2 la 30 0 n9) 30 1 n10)), rfl, ⟨n8, n9, n10, (show (((v18 : Int32).toInt = -100001 ∧ ¬ (0 ≤ (a).toInt ∧ (a).toInt < (iv 0 7).toInt)) ∨ ((v18 : Int32).toInt = -100002 ∧ (0 ≤ (a).toInt ∧ (a).toInt < (iv 0 7).toInt) ∧ ¬ (0 ≤ (b).toInt ∧ (b).toInt ≤ 2 ∧ 0 ≤ (d).toInt ∧ (d).toInt ≤ 2)) ∨ ((0 ≤ (a).toInt ∧ (a).toInt < (iv 0 7).toInt) ∧ (0 ≤ (b).toInt ∧ (b).toInt ≤ 2 ∧ 0 ≤ (d).toInt ∧ (d).toInt ≤ 2) ∧ (v18 : Int32).toInt = raF (smL (fun s : Nat => ((fa 10 0) (9 * s + 0)).toInt = (a).toInt ∧ ((fa 10 0) (9 * s + 1)).toInt = (b).toInt ∧ ((fa 10 0) (9 * s + 7)).toInt ≤ (iv 11 10).toInt ∧ (((fa 10 0) (9 * s + 8)).toInt = -1 ∨ (iv 11 10).toInt < ((fa 10 0) (9 * s + 8)).toInt)) (fun s : Nat => (fa 10 0) (9 * s + 4)) ((iv 10 1).toInt).toNat).toInt (smL (fun s : Nat => ((fa 10 0) (9 * s + 0)).toInt = (a).toInt ∧ ((fa 10 0) (9 * s + 1)).toInt = (b).toInt ∧ ((fa 10 0) (9 * s + 7)).toInt ≤ (iv 11 10).toInt ∧ (((fa 10 0) (9 * s + 8)).toInt = -1 ∨ (iv 11 10).toInt < ((fa 10 0) (9 * s + 8)).toInt)) (fun s : Nat => (fa 10 0) (9 * s + 3)) ((iv 10 1).toInt).toNat).toInt (smC (fun s : Nat => ((fa 10 0) (9 * s + 0)).toInt = (a).toInt ∧ ((fa 10 0) (9 * s + 1)).toInt = (b).toInt ∧ ((fa 10 0) (9 * s + 7)).toInt ≤ (iv 11 10).toInt ∧ (((fa 10 0) (9 * s + 8)).toInt = -1 ∨ (iv 11 10).toInt < ((fa 10 0) (9 * s + 8)).toInt)) ((iv 10 1).toInt).toNat).toInt (d).toInt)) from Or.inr (Or.inr ⟨⟨by omega, by omega⟩, ⟨by omega, by omega, by omega, by omega⟩, (by unfold raF; rw [if_pos (by omega)]; omega)⟩)), trivial, rfl⟩, by rw [ht9]; exact hP9, hD9⟩, hS.F ht9⟩) hS.2.2 dX11_ratio_64
            · exact absurd c6 (by decide)
          · skip
            refine lv_if_ne (tgt := 35) hx hb dX11_ratio_29 (by decide) (fun c19 => ?_) (fun c19 => ?_)
            · exact absurd rfl c19
            · skip
              refine lv_ldc hx hb hown (ht _ m_456) dX11_ratio_32 ?_
              have : ((-100002) : Int32).toInt = (-100002) := (by decide)
              have hP9 : va_P (dC, dI) classes (WX h g ca iv lv (u2 fa 30 2 (fa 30 2)) (u2 (u2 la 30 0 (la 30 0)) 30 1 (la 30 1))) s.heap := hP
              have hD9 : va_D A (WX h g ca iv lv (u2 fa 30 2 (fa 30 2)) (u2 (u2 la 30 0 (la 30 0)) 30 1 (la 30 1))) := hD
              exact W.iret (v := (-100002)) hx hb hr (fun t ht9 hW => ⟨⟨(-100002), (iv, lv, (u2 fa 30 2 (fa 30 2)), (u2 (u2 la 30 0 (la 30 0)) 30 1 (la 30 1))), rfl, ⟨(fa 30 2), (la 30 0), (la 30 1), (show ((((-100002) : Int32).toInt = -100001 ∧ ¬ (0 ≤ (a).toInt ∧ (a).toInt < (iv 0 7).toInt)) ∨ (((-100002) : Int32).toInt = -100002 ∧ (0 ≤ (a).toInt ∧ (a).toInt < (iv 0 7).toInt) ∧ ¬ (0 ≤ (b).toInt ∧ (b).toInt ≤ 2 ∧ 0 ≤ (d).toInt ∧ (d).toInt ≤ 2)) ∨ ((0 ≤ (a).toInt ∧ (a).toInt < (iv 0 7).toInt) ∧ (0 ≤ (b).toInt ∧ (b).toInt ≤ 2 ∧ 0 ≤ (d).toInt ∧ (d).toInt ≤ 2) ∧ ((-100002) : Int32).toInt = raF (smL (fun s : Nat => ((fa 10 0) (9 * s + 0)).toInt = (a).toInt ∧ ((fa 10 0) (9 * s + 1)).toInt = (b).toInt ∧ ((fa 10 0) (9 * s + 7)).toInt ≤ (iv 11 10).toInt ∧ (((fa 10 0) (9 * s + 8)).toInt = -1 ∨ (iv 11 10).toInt < ((fa 10 0) (9 * s + 8)).toInt)) (fun s : Nat => (fa 10 0) (9 * s + 4)) ((iv 10 1).toInt).toNat).toInt (smL (fun s : Nat => ((fa 10 0) (9 * s + 0)).toInt = (a).toInt ∧ ((fa 10 0) (9 * s + 1)).toInt = (b).toInt ∧ ((fa 10 0) (9 * s + 7)).toInt ≤ (iv 11 10).toInt ∧ (((fa 10 0) (9 * s + 8)).toInt = -1 ∨ (iv 11 10).toInt < ((fa 10 0) (9 * s + 8)).toInt)) (fun s : Nat => (fa 10 0) (9 * s + 3)) ((iv 10 1).toInt).toNat).toInt (smC (fun s : Nat => ((fa 10 0) (9 * s + 0)).toInt = (a).toInt ∧ ((fa 10 0) (9 * s + 1)).toInt = (b).toInt ∧ ((fa 10 0) (9 * s + 7)).toInt ≤ (iv 11 10).toInt ∧ (((fa 10 0) (9 * s + 8)).toInt = -1 ∨ (iv 11 10).toInt < ((fa 10 0) (9 * s + 8)).toInt)) ((iv 10 1).toInt).toNat).toInt (d).toInt)) from Or.inr (Or.inl ⟨by omega, ⟨by omega, by omega⟩, by omega⟩)), trivial, rfl⟩, by rw [ht9]; exact hP9, hD9⟩, hS.F ht9⟩) hS.2.2 dX11_ratio_34
      · skip
        refine lv_if_eq (tgt := 32) hx hb dX11_ratio_20 (by decide) (fun c20 => ?_) (fun c20 => ?_)
        · skip
          refine lv_ldc hx hb hown (ht _ m_456) dX11_ratio_32 ?_
          have : ((-100002) : Int32).toInt = (-100002) := (by decide)
          have hP9 : va_P (dC, dI) classes (WX h g ca iv lv (u2 fa 30 2 (fa 30 2)) (u2 (u2 la 30 0 (la 30 0)) 30 1 (la 30 1))) s.heap := hP
          have hD9 : va_D A (WX h g ca iv lv (u2 fa 30 2 (fa 30 2)) (u2 (u2 la 30 0 (la 30 0)) 30 1 (la 30 1))) := hD
          exact W.iret (v := (-100002)) hx hb hr (fun t ht9 hW => ⟨⟨(-100002), (iv, lv, (u2 fa 30 2 (fa 30 2)), (u2 (u2 la 30 0 (la 30 0)) 30 1 (la 30 1))), rfl, ⟨(fa 30 2), (la 30 0), (la 30 1), (show ((((-100002) : Int32).toInt = -100001 ∧ ¬ (0 ≤ (a).toInt ∧ (a).toInt < (iv 0 7).toInt)) ∨ (((-100002) : Int32).toInt = -100002 ∧ (0 ≤ (a).toInt ∧ (a).toInt < (iv 0 7).toInt) ∧ ¬ (0 ≤ (b).toInt ∧ (b).toInt ≤ 2 ∧ 0 ≤ (d).toInt ∧ (d).toInt ≤ 2)) ∨ ((0 ≤ (a).toInt ∧ (a).toInt < (iv 0 7).toInt) ∧ (0 ≤ (b).toInt ∧ (b).toInt ≤ 2 ∧ 0 ≤ (d).toInt ∧ (d).toInt ≤ 2) ∧ ((-100002) : Int32).toInt = raF (smL (fun s : Nat => ((fa 10 0) (9 * s + 0)).toInt = (a).toInt ∧ ((fa 10 0) (9 * s + 1)).toInt = (b).toInt ∧ ((fa 10 0) (9 * s + 7)).toInt ≤ (iv 11 10).toInt ∧ (((fa 10 0) (9 * s + 8)).toInt = -1 ∨ (iv 11 10).toInt < ((fa 10 0) (9 * s + 8)).toInt)) (fun s : Nat => (fa 10 0) (9 * s + 4)) ((iv 10 1).toInt).toNat).toInt (smL (fun s : Nat => ((fa 10 0) (9 * s + 0)).toInt = (a).toInt ∧ ((fa 10 0) (9 * s + 1)).toInt = (b).toInt ∧ ((fa 10 0) (9 * s + 7)).toInt ≤ (iv 11 10).toInt ∧ (((fa 10 0) (9 * s + 8)).toInt = -1 ∨ (iv 11 10).toInt < ((fa 10 0) (9 * s + 8)).toInt)) (fun s : Nat => (fa 10 0) (9 * s + 3)) ((iv 10 1).toInt).toNat).toInt (smC (fun s : Nat => ((fa 10 0) (9 * s + 0)).toInt = (a).toInt ∧ ((fa 10 0) (9 * s + 1)).toInt = (b).toInt ∧ ((fa 10 0) (9 * s + 7)).toInt ≤ (iv 11 10).toInt ∧ (((fa 10 0) (9 * s + 8)).toInt = -1 ∨ (iv 11 10).toInt < ((fa 10 0) (9 * s + 8)).toInt)) ((iv 10 1).toInt).toNat).toInt (d).toInt)) from Or.inr (Or.inl ⟨by omega, ⟨by omega, by omega⟩, by omega⟩)), trivial, rfl⟩, by rw [ht9]; exact hP9, hD9⟩, hS.F ht9⟩) hS.2.2 dX11_ratio_34
        · exact absurd rfl c20
    · exact absurd c2 (by decide)
  · skip
    have i_0_7 : 0 ≤ (iv 0 7).toInt ∧ (iv 0 7).toInt ≤ 10 := hI.1 0 7
    have fr1 : ¬ (0 ≤ (a : Int32).toInt ∧ (a : Int32).toInt < ((iv 0 7) : Int32).toInt) := fr1
    refine lv_if_ne (tgt := 14) hx hb dX11_ratio_8 (by decide) (fun c21 => ?_) (fun c21 => ?_)
    · exact absurd rfl c21
    · skip
      refine lv_ldc hx hb hown (ht _ m_476) dX11_ratio_11 ?_
      have : ((-100001) : Int32).toInt = (-100001) := (by decide)
      have hP9 : va_P (dC, dI) classes (WX h g ca iv lv (u2 fa 30 2 (fa 30 2)) (u2 (u2 la 30 0 (la 30 0)) 30 1 (la 30 1))) s.heap := hP
      have hD9 : va_D A (WX h g ca iv lv (u2 fa 30 2 (fa 30 2)) (u2 (u2 la 30 0 (la 30 0)) 30 1 (la 30 1))) := hD
      exact W.iret (v := (-100001)) hx hb hr (fun t ht9 hW => ⟨⟨(-100001), (iv, lv, (u2 fa 30 2 (fa 30 2)), (u2 (u2 la 30 0 (la 30 0)) 30 1 (la 30 1))), rfl, ⟨(fa 30 2), (la 30 0), (la 30 1), (show ((((-100001) : Int32).toInt = -100001 ∧ ¬ (0 ≤ (a).toInt ∧ (a).toInt < (iv 0 7).toInt)) ∨ (((-100001) : Int32).toInt = -100002 ∧ (0 ≤ (a).toInt ∧ (a).toInt < (iv 0 7).toInt) ∧ ¬ (0 ≤ (b).toInt ∧ (b).toInt ≤ 2 ∧ 0 ≤ (d).toInt ∧ (d).toInt ≤ 2)) ∨ ((0 ≤ (a).toInt ∧ (a).toInt < (iv 0 7).toInt) ∧ (0 ≤ (b).toInt ∧ (b).toInt ≤ 2 ∧ 0 ≤ (d).toInt ∧ (d).toInt ≤ 2) ∧ ((-100001) : Int32).toInt = raF (smL (fun s : Nat => ((fa 10 0) (9 * s + 0)).toInt = (a).toInt ∧ ((fa 10 0) (9 * s + 1)).toInt = (b).toInt ∧ ((fa 10 0) (9 * s + 7)).toInt ≤ (iv 11 10).toInt ∧ (((fa 10 0) (9 * s + 8)).toInt = -1 ∨ (iv 11 10).toInt < ((fa 10 0) (9 * s + 8)).toInt)) (fun s : Nat => (fa 10 0) (9 * s + 4)) ((iv 10 1).toInt).toNat).toInt (smL (fun s : Nat => ((fa 10 0) (9 * s + 0)).toInt = (a).toInt ∧ ((fa 10 0) (9 * s + 1)).toInt = (b).toInt ∧ ((fa 10 0) (9 * s + 7)).toInt ≤ (iv 11 10).toInt ∧ (((fa 10 0) (9 * s + 8)).toInt = -1 ∨ (iv 11 10).toInt < ((fa 10 0) (9 * s + 8)).toInt)) (fun s : Nat => (fa 10 0) (9 * s + 3)) ((iv 10 1).toInt).toNat).toInt (smC (fun s : Nat => ((fa 10 0) (9 * s + 0)).toInt = (a).toInt ∧ ((fa 10 0) (9 * s + 1)).toInt = (b).toInt ∧ ((fa 10 0) (9 * s + 7)).toInt ≤ (iv 11 10).toInt ∧ (((fa 10 0) (9 * s + 8)).toInt = -1 ∨ (iv 11 10).toInt < ((fa 10 0) (9 * s + 8)).toInt)) ((iv 10 1).toInt).toNat).toInt (d).toInt)) from Or.inl ⟨by omega, by omega⟩), trivial, rfl⟩, by rw [ht9]; exact hP9, hD9⟩, hS.F ht9⟩) hS.2.2 dX11_ratio_13
