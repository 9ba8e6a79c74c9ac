/-! ===== sp2 ===== -/
set_option maxHeartbeats 4000000 in
set_option maxRecDepth 100000 in
/-- X11_span -/
theorem c_X11_span_w (l : Launch) (dC : Nat → ClassId) (dI : Nat → Nat → Nat) (sz : Nat) (ak av : Nat → Nat) (h : Nat) (g : Nat → Nat → Nat) (ca : Nat → Nat → ClassId) (iv : Nat → Nat → Int32) (lv : Nat → Nat → Int64) (fa : Nat → Nat → Nat → Int32) (la : Nat → Nat → Nat → Int64) (hI : IX iv fa) (a : Int32) (b : Int32) (hJB : ∀ j : Nat, (j : Int) < (iv 1 7).toInt → 0 ≤ (fa 1 0 j).toInt) (hJW : ∀ s : Nat, (s : Int) < (iv 10 1).toInt → (100 ≤ (fa 10 0 (9 * s + 3)).toInt ∧ (fa 10 0 (9 * s + 3)).toInt ≤ 9999) ∧ (50 ≤ (fa 10 0 (9 * s + 4)).toInt ∧ (fa 10 0 (9 * s + 4)).toInt ≤ 9999)) (hJF : ∀ a d v : Int, 0 ≤ a → a ≤ 5 → FoX (iv 1 7).toInt (fa 1 0) (fa 1 1) (fa 1 2) (fa 1 3) a d v → fLo a ≤ v ∧ v ≤ fHi a) (hJG : ∀ j : Nat, (j : Int) < (iv 0 7).toInt → 1 ≤ (fa 0 0 j).toInt ∧ (fa 0 0 j).toInt ≤ 99999) (hJL : ∀ b l : Int32, cn0 (fun s => fa 10 0 (9 * s + 0)) (fun s => fa 10 0 (9 * s + 1)) b l (iv 10 1).toInt.toNat ≤ 12) : Met l yX11_span (wc yX11_span cX11_span 7 (some .long)) ({ frames := 5, cells := 0, slots := 0, locals := 115 } : Room) (pWZ ak av (dC, dI) classes (WX h g ca iv lv fa la) (TX ca) sz [.ref h, .int a, .int b]) (va_Ql (fun r (u : SS) => ∃ (na_1_6 : Nat → Int32) (na_30_2 : Nat → Int32) (nb_30_0 : Nat → Int64) (nb_30_1 : Nat → Int64), (∀ j, inb (bA 1 6 j) (na_1_6 j)) ∧ (((r.toInt = -100001 ∧ ¬ (0 ≤ a.toInt ∧ a.toInt < (iv 0 7).toInt)) ∨ (r.toInt = -100002 ∧ (0 ≤ a.toInt ∧ a.toInt < (iv 0 7).toInt) ∧ ¬ (0 ≤ b.toInt ∧ b.toInt ≤ 3)) ∨ (r.toInt = -100003 ∧ (0 ≤ a.toInt ∧ a.toInt < (iv 0 7).toInt) ∧ (0 ≤ b.toInt ∧ b.toInt ≤ 3) ∧ (nX (fa 10 0) a.toInt (iv 11 10).toInt 0 ((iv 10 1).toInt).toNat).toInt = 0) ∨ ((0 ≤ a.toInt ∧ a.toInt < (iv 0 7).toInt) ∧ (0 ≤ b.toInt ∧ b.toInt ≤ 3) ∧ (nX (fa 10 0) a.toInt (iv 11 10).toInt 0 ((iv 10 1).toInt).toNat).toInt ≠ 0 ∧ ∃ wt : Int, FoX (iv 1 7).toInt (fa 1 0) (fa 1 1) (fa 1 2) (fa 1 3) 0 (iv 11 10).toInt wt ∧ 0 ≤ wt ∧ 0 < (sX (fa 10 0) a.toInt (iv 11 10).toInt 0 4 ((iv 10 1).toInt).toNat).toInt - smI (cxP (fa 10 0) a.toInt (iv 11 10).toInt 0) (fun s : Nat => cl40 (erS b.toInt (fa 9 2) (tLa (fa 9 0) (fa 9 1) ((fa 10 0) (9 * s + 2)) ((fa 10 0) (9 * s + 7)) ((iv 9 3).toInt).toNat) (tFi (fa 9 0) (fa 9 1) ((fa 10 0) (9 * s + 2)) ((fa 10 0) (9 * s + 7)) ((iv 9 3).toInt).toNat))) ((iv 10 1).toInt).toNat ∧ 0 < (sX (fa 10 0) a.toInt (iv 11 10).toInt 0 3 ((iv 10 1).toInt).toNat).toInt - smI (cxP (fa 10 0) a.toInt (iv 11 10).toInt 0) (fun s : Nat => cl40 (erS b.toInt (fa 9 2) (tLa (fa 9 0) (fa 9 1) ((fa 10 0) (9 * s + 2)) ((fa 10 0) (9 * s + 7)) ((iv 9 3).toInt).toNat) (tFi (fa 9 0) (fa 9 1) ((fa 10 0) (9 * s + 2)) ((fa 10 0) (9 * s + 7)) ((iv 9 3).toInt).toNat))) ((iv 10 1).toInt).toNat ∧ ltX (((sX (fa 10 0) a.toInt (iv 11 10).toInt 0 4 ((iv 10 1).toInt).toNat).toInt - smI (cxP (fa 10 0) a.toInt (iv 11 10).toInt 0) (fun s : Nat => cl40 (erS b.toInt (fa 9 2) (tLa (fa 9 0) (fa 9 1) ((fa 10 0) (9 * s + 2)) ((fa 10 0) (9 * s + 7)) ((iv 9 3).toInt).toNat) (tFi (fa 9 0) (fa 9 1) ((fa 10 0) (9 * s + 2)) ((fa 10 0) (9 * s + 7)) ((iv 9 3).toInt).toNat))) ((iv 10 1).toInt).toNat) * (((fa 0 0) (a.toInt).toNat).toInt * (1000 + wt))) (((sX (fa 10 0) a.toInt (iv 11 10).toInt 0 3 ((iv 10 1).toInt).toNat).toInt - smI (cxP (fa 10 0) a.toInt (iv 11 10).toInt 0) (fun s : Nat => cl40 (erS b.toInt (fa 9 2) (tLa (fa 9 0) (fa 9 1) ((fa 10 0) (9 * s + 2)) ((fa 10 0) (9 * s + 7)) ((iv 9 3).toInt).toNat) (tFi (fa 9 0) (fa 9 1) ((fa 10 0) (9 * s + 2)) ((fa 10 0) (9 * s + 7)) ((iv 9 3).toInt).toNat))) ((iv 10 1).toInt).toNat) * 1000) (b.toInt % 2) r.toInt))) ∧ (True) ∧ u = (iv, lv, (u2 (u2 fa 1 6 na_1_6) 30 2 na_30_2), (u2 (u2 la 30 0 nb_30_0) 30 1 nb_30_1))) (bX (dC, dI) h g ca (va_A (WX h g ca iv lv fa la) sz)) (va_A (WX h g ca iv lv fa la) sz)) 0 0 (va_A (WX h g ca iv lv fa la) sz) := by
  refine Met.ofW (cc := cX11_span) (maxL := 7) (ret := (some .long)) (by decide) rfl ?_
  intro p e s m args below meth c s₁ B hml hv
  obtain ⟨rfl, hsz, hP, hK, hD0, hZ⟩ := hv
  have hx := B.exec
  have hb := B.bytes
  have hr := B.returns
  have ht := tb_tl (atoms_spec (ws := wc yX11_span cX11_span 7 (some .long)) B.pre)
  have hown : s.vm.findClass RX11 = some m.cls := findClass_of_methodNamed B.named
  have hlocks := B.notSynchronized
  subst hsz
  have hD := hD0.self (sz := s.heap.size)
  generalize hAe : va_A (WX h g ca iv lv fa la) s.heap.size = A at hD hZ ⊢
  have hA : ∀ q : Nat, s.heap.size ≤ q → A q := fun q h => by rw [← hAe]; exact Or.inr h
  have hS : va_S A s.heap s.heap [] := va_S.rf
  have hl := lv_entry [.ref h, .int a, .int b] (n := 7) (Nat.le_of_ble_eq_true rfl)
  rw [lg_entry_eq]
  generalize (lg_sl [.ref h, .int a, .int b] ++ List.replicate (7 - (lg_sl [.ref h, .int a, .int b]).length) Slot.unset).toArray = ls at hl ⊢
  have hl : lv_has ls 7 [(0, .ref h), (1, .int a), (2, .int b)] := hl
  refine lv_aload_n hx hb dX11_span_0 rfl (lv_at hl 0 rfl) ?_
  refine gX_11_2 hx hb ht hown hK hP m_417 dX11_span_1 ?_
  refine lv_iload_n hx hb dX11_span_4 rfl (lv_at hl 1 rfl) ?_
  refine vp_callSi (W.runV (As := [.int a]) (rest := []) ⟨hx, hb, hml, hown, ht⟩ (c_X0_has l dC dI h g ca iv lv fa la hI a) (kV 1 ht m_472 m_473 m_474 m_80 m_475 rfl rfl hd_X0_has_v ⟨Nat.le_of_ble_eq_true rfl, Nat.le_of_ble_eq_true rfl⟩) (vR hP hK (rX_0 hK hP)) rfl rfl hl.1 rfl (lv_room (Nat.le_of_ble_eq_true rfl)) dX11_span_5 ⟨Nat.le_of_ble_eq_true rfl, Nat.le_of_ble_eq_true rfl⟩) (fun r1 hr1 => ?_)
  rcases hr1 with ⟨rfl, fr1⟩ | ⟨rfl, fr1⟩
  · skip
    have i_0_7 : 0 ≤ (iv 0 7).toInt ∧ (iv 0 7).toInt ≤ 10 := hI.1 0 7
    have fr1 : (0 ≤ (a : Int32).toInt ∧ (a : Int32).toInt < ((iv 0 7) : Int32).toInt) := fr1
    refine lv_if_ne (tgt := 15) hx hb dX11_span_8 (by decide) (fun c2 => ?_) (fun c2 => ?_)
    · skip
      refine lv_iload_n hx hb dX11_span_15 rfl (lv_at hl 2 rfl) ?_
      refine lv_iconst (v := 0) hx hb dX11_span_16 (by decide) ?_
      refine lv_iconst (v := 3) hx hb dX11_span_17 (by decide) ?_
      refine vp_callSi (W.runS (As := [.int b, .int 0, .int 3]) (rest := []) ⟨hx, hb, hml, hown, ht⟩ (c_X11_within l dC dI b 0 3 (b.toInt) (0) (3) (rfl : (b).toInt = _) (by decide : (0 : Int32).toInt = 0) (by decide : (3 : Int32).toInt = 3)) (kS 3 ht m_453 m_454 m_77 m_455 rfl rfl hd_X11_within_v ⟨Nat.le_of_ble_eq_true rfl, Nat.le_of_ble_eq_true rfl⟩) (sR noP (hK.sub (tys' := []) [] rfl)) rfl rfl hl.1 rfl (lv_room (Nat.le_of_ble_eq_true rfl)) dX11_span_18 ⟨Nat.le_of_ble_eq_true rfl, Nat.le_of_ble_eq_true rfl⟩) (fun r3 hr3 => ?_)
      rcases hr3 with ⟨rfl, fr3⟩ | ⟨rfl, fr3⟩
      · skip
        refine lv_if_ne (tgt := 28) hx hb dX11_span_21 (by decide) (fun c4 => ?_) (fun c4 => ?_)
        · skip
          refine lv_aload_n hx hb dX11_span_28 rfl (lv_at hl 0 rfl) ?_
          refine gX_11_5 hx hb ht hown hK hP m_420 dX11_span_29 ?_
          refine lv_iload_n hx hb dX11_span_32 rfl (lv_at hl 1 rfl) ?_
          refine lv_aload_n hx hb dX11_span_33 rfl (lv_at hl 0 rfl) ?_
          have i_11_10 : 0 ≤ (iv 11 10).toInt ∧ (iv 11 10).toInt ≤ 3000 := hI.1 11 10
          refine gX_11_10 hx hb ht hown hK hP m_425 (v := (iv 11 10)) rfl dX11_span_34 ?_
          have hFc := free_all hD hS hA
          refine va_callv (va_runV (As := [.int a, .int (iv 11 10)]) (rest := []) ⟨hx, hb, hml, hown, ht⟩ (c_X3_gather_s l dC dI s.heap.size h g ca iv lv fa la hI a (iv 11 10)) (kV 2 ht m_564 m_565 m_566 m_83 m_567 rfl rfl hd_X3_gather_v ⟨Nat.le_of_ble_eq_true rfl, Nat.le_of_ble_eq_true rfl⟩) (vW hP hK hD (rX_3 hK hP)) rfl rfl hl.1 rfl (lv_room (Nat.le_of_ble_eq_true rfl)) dX11_span_37 ⟨Nat.le_of_ble_eq_true rfl, Nat.le_of_ble_eq_true rfl⟩) hS (fun q _ h => hFc q h) hFc (fun u t H1 locs ht9 hvm hr5 hB hz1 hk1 hS => ?_)
          obtain ⟨n6, n7, n8, xr5_0, rfl⟩ := hr5
          have hn6 : ∀ j, inb (bA 30 2 j) (n6 j) := fun j => full_i _
          obtain ⟨hP, hD⟩ := hB
          rw [ht9] at hP
          generalize H1 = H at hP hS ⊢
          have hP : va_P (dC, dI) classes (WX h g ca iv lv (u2 fa 30 2 n6) (u2 (u2 la 30 0 n7) 30 1 n8)) H := hP
          have hD : va_D A (WX h g ca iv lv (u2 fa 30 2 n6) (u2 (u2 la 30 0 n7) 30 1 n8)) := (show va_D _ (WX h g ca iv lv (u2 fa 30 2 n6) (u2 (u2 la 30 0 n7) 30 1 n8)) from hD).weaken (fun _ _ _ h => hFc _ h)
          have i_10_1 : 0 ≤ (iv 10 1).toInt ∧ (iv 10 1).toInt ≤ 60 := hI.1 10 1
          have xr5_0 : ∀ l : Nat, l < 3 → n7 l = smL (fun s : Nat => ((fa 10 0) (9 * s + 0)).toInt = (a : Int32).toInt ∧ ((fa 10 0) (9 * s + 1)).toInt = (l : Int) ∧ ((fa 10 0) (9 * s + 7)).toInt ≤ ((iv 11 10) : Int32).toInt ∧ (((fa 10 0) (9 * s + 8)).toInt = -1 ∨ ((iv 11 10) : Int32).toInt < ((fa 10 0) (9 * s + 8)).toInt)) (fun s : Nat => (fa 10 0) (9 * s + 3)) (((iv 10 1) : Int32).toInt).toNat ∧ n8 l = smL (fun s : Nat => ((fa 10 0) (9 * s + 0)).toInt = (a : Int32).toInt ∧ ((fa 10 0) (9 * s + 1)).toInt = (l : Int) ∧ ((fa 10 0) (9 * s + 7)).toInt ≤ ((iv 11 10) : Int32).toInt ∧ (((fa 10 0) (9 * s + 8)).toInt = -1 ∨ ((iv 11 10) : Int32).toInt < ((fa 10 0) (9 * s + 8)).toInt)) (fun s : Nat => (fa 10 0) (9 * s + 4)) (((iv 10 1) : Int32).toInt).toNat ∧ n6 l = smC (fun s : Nat => ((fa 10 0) (9 * s + 0)).toInt = (a : Int32).toInt ∧ ((fa 10 0) (9 * s + 1)).toInt = (l : Int) ∧ ((fa 10 0) (9 * s + 7)).toInt ≤ ((iv 11 10) : Int32).toInt ∧ (((fa 10 0) (9 * s + 8)).toInt = -1 ∨ ((iv 11 10) : Int32).toInt < ((fa 10 0) (9 * s + 8)).toInt)) (((iv 10 1) : Int32).toInt).toNat := xr5_0
          refine lv_aload_n hx hb dX11_span_40 rfl (lv_at hl 0 rfl) ?_
          refine gX_11_5 hx hb ht hown hK hP m_420 dX11_span_41 ?_
          refine gX_3_2 hx hb ht hown hK hP m_282 dX11_span_44 ?_
          refine gX_30_2 hx hb ht hown hK hP m_270 dX11_span_47 ?_
          refine lv_iconst (v := 0) hx hb dX11_span_50 (by decide) ?_
          refine lX_30_2 hx hb hK hP (f := n6) rfl (vp_in_iff.mpr (by decide)) dX11_span_51 ?_
          refine lv_topi (fun v9 ev9 => ?_)
          have hn9 := congrArg Int32.toInt ((show v9 = n6 0 from ev9).trans (show n6 0 = nX (fa 10 0) a.toInt (iv 11 10).toInt 0 ((iv 10 1).toInt).toNat from (xr5_0 0 (by decide)).2.2))
          have hm9 : (iv 10 1).toInt.toNat ≤ 60 := by have q9 : 0 ≤ (iv 10 1).toInt ∧ (iv 10 1).toInt ≤ 60 := hI.1 10 1; omega
          have hw9 : ∀ s : Nat, s < (iv 10 1).toInt.toNat → (100 ≤ (fa 10 0 (9 * s + 3)).toInt ∧ (fa 10 0 (9 * s + 3)).toInt ≤ 9999) ∧ (50 ≤ (fa 10 0 (9 * s + 4)).toInt ∧ (fa 10 0 (9 * s + 4)).toInt ≤ 9999) := fun s hs => hJW s (by omega)
          have hb9 := sX_b (rw_ := fa 10 0) (b := a) (l := 0) (d := (iv 11 10).toInt) hm9 hw9 (hJL a 0)
          rw [show (0 : Int32).toInt = 0 from by decide] at hb9
          refine lv_if_ne (tgt := 59) hx hb dX11_span_52 (by decide) (fun c10 => ?_) (fun c10 => ?_)
          · have fc10 := z_ne (rfl : (v9).toInt = _) (by decide : (0 : Int32).toInt = 0) c10
            refine lv_aload_n hx hb dX11_span_59 rfl (lv_at hl 0 rfl) ?_
            refine lv_iload_n hx hb dX11_span_60 rfl (lv_at hl 1 rfl) ?_
            refine lv_iload_n hx hb dX11_span_61 rfl (lv_at hl 2 rfl) ?_
            refine lv_iconst (v := 2) hx hb dX11_span_62 (by decide) ?_
            refine lv_icmp_ge (tgt := 70) hx hb dX11_span_63 (by decide) (fun c11 => ?_) (fun c11 => ?_)
            · have fc11 := z_le (by decide : (2 : Int32).toInt = 2) (rfl : (b).toInt = _) c11
              refine lv_iconst (v := 0) hx hb dX11_span_70 (by decide) ?_
              refine vp_callSi (W.runV (As := [.int a, .int 0]) (rest := []) ⟨hx, hb, hml, hown, ht⟩ (c_X11_errors_w0 l dC dI h g ca iv lv (u2 fa 30 2 n6) (u2 (u2 la 30 0 n7) 30 1 n8) (IX_a (c := 30) (k := 2) hI hn6) a) (kV 2 ht m_858 m_860 m_30 m_77 m_861 rfl rfl hd_X11_errors_v ⟨Nat.le_of_ble_eq_true rfl, Nat.le_of_ble_eq_true rfl⟩) (vR hP hK (rX_11 hK hP)) rfl rfl hl.1 rfl (lv_room (Nat.le_of_ble_eq_true rfl)) dX11_span_71 ⟨Nat.le_of_ble_eq_true rfl, Nat.le_of_ble_eq_true rfl⟩) (fun r12 hr12 => ?_)
              obtain ⟨hr12, xr12_0⟩ := hr12
              have i_9_3 : 0 ≤ (iv 9 3).toInt ∧ (iv 9 3).toInt ≤ 30 := hI.1 9 3
              have xr12_0 : (r12 : Int32).toInt = smI (cxP (fa 10 0) (a : Int32).toInt ((iv 11 10) : Int32).toInt 0) (fun s : Nat => cl40 (er0 (fa 9 2) (tLa (fa 9 0) (fa 9 1) ((fa 10 0) (9 * s + 2)) ((fa 10 0) (9 * s + 7)) (((iv 9 3) : Int32).toInt).toNat) (tFi (fa 9 0) (fa 9 1) ((fa 10 0) (9 * s + 2)) ((fa 10 0) (9 * s + 7)) (((iv 9 3) : Int32).toInt).toNat))) (((iv 10 1) : Int32).toInt).toNat := xr12_0
              have hf9 : (fun s : Nat => cl40 (erS b.toInt (fa 9 2) (tLa (fa 9 0) (fa 9 1) ((fa 10 0) (9 * s + 2)) ((fa 10 0) (9 * s + 7)) ((iv 9 3).toInt).toNat) (tFi (fa 9 0) (fa 9 1) ((fa 10 0) (9 * s + 2)) ((fa 10 0) (9 * s + 7)) ((iv 9 3).toInt).toNat))) = (fun s : Nat => cl40 (er0 (fa 9 2) (tLa (fa 9 0) (fa 9 1) ((fa 10 0) (9 * s + 2)) ((fa 10 0) (9 * s + 7)) ((iv 9 3).toInt).toNat) (tFi (fa 9 0) (fa 9 1) ((fa 10 0) (9 * s + 2)) ((fa 10 0) (9 * s + 7)) ((iv 9 3).toInt).toNat))) := funext (fun s => by rw [erS_0 (by omega)])
              have ho9 : (r12 : Int32).toInt = smI (cxP (fa 10 0) a.toInt (iv 11 10).toInt 0) (fun s : Nat => cl40 (erS b.toInt (fa 9 2) (tLa (fa 9 0) (fa 9 1) ((fa 10 0) (9 * s + 2)) ((fa 10 0) (9 * s + 7)) ((iv 9 3).toInt).toNat) (tFi (fa 9 0) (fa 9 1) ((fa 10 0) (9 * s + 2)) ((fa 10 0) (9 * s + 7)) ((iv 9 3).toInt).toNat))) ((iv 10 1).toInt).toNat := by rw [hf9]; exact xr12_0
              have hl9 := smI_b (c := cxP (fa 10 0) a.toInt (iv 11 10).toInt 0) (f := (fun s : Nat => cl40 (erS b.toInt (fa 9 2) (tLa (fa 9 0) (fa 9 1) ((fa 10 0) (9 * s + 2)) ((fa 10 0) (9 * s + 7)) ((iv 9 3).toInt).toNat) (tFi (fa 9 0) (fa 9 1) ((fa 10 0) (9 * s + 2)) ((fa 10 0) (9 * s + 7)) ((iv 9 3).toInt).toNat)))) (fun j => cl40_b _) ((iv 10 1).toInt).toNat hm9
              rw [← ho9] at hl9
              have hc9 : (smC (cxP (fa 10 0) a.toInt (iv 11 10).toInt 0) ((iv 10 1).toInt).toNat).toInt = (nX (fa 10 0) a.toInt (iv 11 10).toInt 0 ((iv 10 1).toInt).toNat).toInt := rfl
              rw [hc9] at hl9
              obtain ⟨hd1, hd2, hd3, hd4, hd5⟩ := hb9
              refine lv_i2l (v := (r12.toInt64)) hx hb dX11_span_74 rfl ?_
              refine lv_lstore_n (lv' := [(3, .long (r12.toInt64)), (0, .ref h), (1, .int a), (2, .int b)]) hx hb dX11_span_75 rfl hl (by decide) rfl (fun ls hl => ?_)
              refine lv_aload_n hx hb dX11_span_76 rfl (lv_at hl 1 rfl) ?_
              refine gX_11_5 hx hb ht hown hK hP m_420 dX11_span_77 ?_
              refine gX_3_2 hx hb ht hown hK hP m_282 dX11_span_80 ?_
              refine gX_30_1 hx hb ht hown hK hP m_266 dX11_span_83 ?_
              refine lv_iconst (v := 0) hx hb dX11_span_86 (by decide) ?_
              refine lX_30_1 hx hb hK hP (f := n8) rfl (vp_in_iff.mpr (by decide)) dX11_span_87 ?_
              refine lv_topl (fun w13 ew13 => ?_)
              refine lv_lload_n hx hb dX11_span_88 rfl (lv_at hl 0 rfl) ?_
              refine lv_lsub hx hb dX11_span_89 ?_
              refine lv_topl (fun w14 ew14 => ?_)
              refine lv_aload_n hx hb dX11_span_90 rfl (lv_at hl 1 rfl) ?_
              refine lv_iload_n hx hb dX11_span_91 rfl (lv_at hl 2 rfl) ?_
              refine lv_aload_n hx hb dX11_span_92 rfl (lv_at hl 1 rfl) ?_
              refine gX_11_10 hx hb ht hown hK hP m_425 (v := (iv 11 10)) rfl dX11_span_93 ?_
              have i_1_7 : 0 ≤ (iv 1 7).toInt ∧ (iv 1 7).toInt ≤ 8 := hI.1 1 7
              have hFc := free_all hD hS hA
              refine va_calll (va_runV (As := [.int a, .int (iv 11 10)]) (rest := [.long w14]) ⟨hx, hb, hml, hown, ht⟩ (c_X11_moistened_w l dC dI H.size ak av h g ca iv lv (u2 fa 30 2 n6) (u2 (u2 la 30 0 n7) 30 1 n8) (IX_a (c := 30) (k := 2) hI hn6) a (iv 11 10) ⟨by omega, by omega⟩ (show (a : Int32).toInt < ((iv 0 7) : Int32).toInt from by omega) hJB hJF hJG) (kV 2 ht m_844 m_846 m_29 m_77 m_847 rfl rfl hd_X11_moistened_v ⟨Nat.le_of_ble_eq_true rfl, Nat.le_of_ble_eq_true rfl⟩) (vWZ hP hK hD ((hZ.kept hS.2.1).narrow (free_all hD hS hA)) (rX_11 hK hP)) rfl rfl hl.1 rfl (lv_room (Nat.le_of_ble_eq_true rfl)) dX11_span_96 ⟨Nat.le_of_ble_eq_true rfl, Nat.le_of_ble_eq_true rfl⟩) hS (fun q _ h => hFc q h) hFc (fun r15 u t H1 locs ht9 hvm hr15 hB hz1 hk1 hS => ?_)
              obtain ⟨n16, hn16, xr15_0, hr15, rfl⟩ := hr15
              obtain ⟨hP, hD⟩ := hB
              rw [ht9] at hP
              generalize H1 = H at hP hS ⊢
              have hP : va_P (dC, dI) classes (WX h g ca iv lv (u2 (u2 fa 30 2 n6) 1 6 n16) (u2 (u2 la 30 0 n7) 30 1 n8)) H := hP
              have hD : va_D A (WX h g ca iv lv (u2 (u2 fa 30 2 n6) 1 6 n16) (u2 (u2 la 30 0 n7) 30 1 n8)) := (show va_D _ (WX h g ca iv lv (u2 (u2 fa 30 2 n6) 1 6 n16) (u2 (u2 la 30 0 n7) 30 1 n8)) from hD).weaken (fun _ _ _ h => hFc _ h)
              have xr15_0 : ∃ wt : Int, FoX ((iv 1 7) : Int32).toInt (fa 1 0) (fa 1 1) (fa 1 2) (fa 1 3) 0 ((iv 11 10) : Int32).toInt wt ∧ 0 ≤ wt ∧ wt ≤ 300 ∧ (r15 : Int64).toInt = ((fa 0 0) ((a : Int32).toInt).toNat).toInt * (1000 + wt) ∧ 1000 ≤ (r15 : Int64).toInt ∧ (r15 : Int64).toInt ≤ 129998700 := xr15_0
              refine lv_lmul hx hb dX11_span_99 ?_
              refine lv_topl (fun w17 ew17 => ?_)
              refine lv_lstore (lv' := [(5, .long w17), (3, .long (r12.toInt64)), (0, .ref h), (1, .int a), (2, .int b)]) hx hb dX11_span_100 hl (by decide) rfl (fun ls hl => ?_)
              refine lv_lload hx hb dX11_span_102 (lv_at hl 0 rfl) ?_
              refine lv_aload_n hx hb dX11_span_104 rfl (lv_at hl 2 rfl) ?_
              refine gX_11_5 hx hb ht hown hK hP m_420 dX11_span_105 ?_
              refine gX_3_2 hx hb ht hown hK hP m_282 dX11_span_108 ?_
              refine gX_30_0 hx hb ht hown hK hP m_263 dX11_span_111 ?_
              refine lv_iconst (v := 0) hx hb dX11_span_114 (by decide) ?_
              refine lX_30_0 hx hb hK hP (f := n7) rfl (vp_in_iff.mpr (by decide)) dX11_span_115 ?_
              refine lv_topl (fun w18 ew18 => ?_)
              refine lv_lload_n hx hb dX11_span_116 rfl (lv_at hl 1 rfl) ?_
              refine lv_lsub hx hb dX11_span_117 ?_
              refine lv_topl (fun w19 ew19 => ?_)
              refine lv_ldc2 hx hb hown (ht _ m_848) dX11_span_118 ?_
              refine lv_lmul hx hb dX11_span_121 ?_
              refine lv_topl (fun w20 ew20 => ?_)
              refine lv_iload_n hx hb dX11_span_122 rfl (lv_at hl 4 rfl) ?_
              refine lv_iconst (v := 2) hx hb dX11_span_123 (by decide) ?_
              refine lv_irem hx hb dX11_span_124 (by decide) ?_
              refine lv_topi (fun v21 ev21 => ?_)
              have tv21 := z_remp ev21 (rfl : (b).toInt = _) (by decide : (2 : Int32).toInt = 2) (by omega) (by omega)
              have zD9 : (w13 : Int64) = sX (fa 10 0) a.toInt (iv 11 10).toInt 0 4 ((iv 10 1).toInt).toNat := (show w13 = n8 0 from ew13).trans (show n8 0 = sX (fa 10 0) a.toInt (iv 11 10).toInt 0 4 ((iv 10 1).toInt).toNat from (xr5_0 0 (by decide)).2.1)
              have zR9 : (w18 : Int64) = sX (fa 10 0) a.toInt (iv 11 10).toInt 0 3 ((iv 10 1).toInt).toNat := (show w18 = n7 0 from ew18).trans (show n7 0 = sX (fa 10 0) a.toInt (iv 11 10).toInt 0 3 ((iv 10 1).toInt).toNat from (xr5_0 0 (by decide)).1)
              have zU9 : (w14 : Int64).toInt = (sX (fa 10 0) a.toInt (iv 11 10).toInt 0 4 ((iv 10 1).toInt).toNat).toInt - (r12 : Int32).toInt := l_sub ew14 (congrArg Int64.toInt zD9) (Int32.toInt_toInt64 _) (by omega) (by omega)
              have zL9 : (w19 : Int64).toInt = (sX (fa 10 0) a.toInt (iv 11 10).toInt 0 3 ((iv 10 1).toInt).toNat).toInt - (r12 : Int32).toInt := l_sub ew19 (congrArg Int64.toInt zR9) (Int32.toInt_toInt64 _) (by omega) (by omega)
              obtain ⟨wt9, hm1, hm2, hm3, hm4, hm5, hm6⟩ := xr15_0
              have hp9 := mul_b (x := (w14 : Int64).toInt) (y := (r15 : Int64).toInt) (a1 := 1) (a2 := 1000) (b1 := 200000) (b2 := 129998700) (by omega) (by omega) hm5 hm6 (by decide) (by decide)
              have zP9 : (w17 : Int64).toInt = (w14 : Int64).toInt * (r15 : Int64).toInt := l_mul ew17 rfl rfl (by omega) (by omega)
              have zQ9 : (w20 : Int64).toInt = (w19 : Int64).toInt * 1000 := l_mul ew20 rfl (by decide) (by omega) (by omega)
              refine vp_callSl (W.runS (As := [.long w17, .long w20, .int v21]) (rest := []) ⟨hx, hb, hml, hown, ht⟩ (c_X11_inLeastTerms_g l dC dI w17 w20 v21 (show 0 ≤ (w17 : Int64).toInt from by omega) (show 1 ≤ (w20 : Int64).toInt from by omega) (show (w20 : Int64).toInt ≤ 281474976710656 from by omega)) (kS 3 ht m_581 m_582 m_77 m_583 rfl rfl hd_X11_inLeastTerms_v ⟨Nat.le_of_ble_eq_true rfl, Nat.le_of_ble_eq_true rfl⟩) (sR noP (hK.sub (tys' := []) [] rfl)) rfl rfl hl.1 rfl (lv_room (Nat.le_of_ble_eq_true rfl)) dX11_span_125 ⟨Nat.le_of_ble_eq_true rfl, Nat.le_of_ble_eq_true rfl⟩) (fun r22 hr22 => ?_)
              obtain ⟨hr22, xr22_0⟩ := hr22
              have xr22_0 : (((v21 : Int32).toInt = 0 ∧ (r22 : Int64).toInt = (w17 : Int64).toInt / gN (w17 : Int64).toInt (w20 : Int64).toInt) ∨ ((v21 : Int32).toInt ≠ 0 ∧ (r22 : Int64).toInt = (w20 : Int64).toInt / gN (w17 : Int64).toInt (w20 : Int64).toInt)) := xr22_0
              have hP9 : va_P (dC, dI) classes (WX h g ca iv lv (u2 (u2 fa 1 6 n16) 30 2 n6) (u2 (u2 la 30 0 n7) 30 1 n8)) H := hP
              have hD9 : va_D A (WX h g ca iv lv (u2 (u2 fa 1 6 n16) 30 2 n6) (u2 (u2 la 30 0 n7) 30 1 n8)) := hD
              exact W.lret (v := r22) hx hb hr (fun t ht9 hW => ⟨⟨r22, (iv, lv, (u2 (u2 fa 1 6 n16) 30 2 n6), (u2 (u2 la 30 0 n7) 30 1 n8)), rfl, ⟨n16, n6, n7, n8, hn16, (show (((r22 : Int64).toInt = -100001 ∧ ¬ (0 ≤ (a).toInt ∧ (a).toInt < (iv 0 7).toInt)) ∨ ((r22 : Int64).toInt = -100002 ∧ (0 ≤ (a).toInt ∧ (a).toInt < (iv 0 7).toInt) ∧ ¬ (0 ≤ (b).toInt ∧ (b).toInt ≤ 3)) ∨ ((r22 : Int64).toInt = -100003 ∧ (0 ≤ (a).toInt ∧ (a).toInt < (iv 0 7).toInt) ∧ (0 ≤ (b).toInt ∧ (b).toInt ≤ 3) ∧ (nX (fa 10 0) (a).toInt (iv 11 10).toInt 0 ((iv 10 1).toInt).toNat).toInt = 0) ∨ ((0 ≤ (a).toInt ∧ (a).toInt < (iv 0 7).toInt) ∧ (0 ≤ (b).toInt ∧ (b).toInt ≤ 3) ∧ (nX (fa 10 0) (a).toInt (iv 11 10).toInt 0 ((iv 10 1).toInt).toNat).toInt ≠ 0 ∧ ∃ wt : Int, FoX (iv 1 7).toInt (fa 1 0) (fa 1 1) (fa 1 2) (fa 1 3) 0 (iv 11 10).toInt wt ∧ 0 ≤ wt ∧ 0 < (sX (fa 10 0) (a).toInt (iv 11 10).toInt 0 4 ((iv 10 1).toInt).toNat).toInt - smI (cxP (fa 10 0) (a).toInt (iv 11 10).toInt 0) (fun s : Nat => cl40 (erS (b).toInt (fa 9 2) (tLa (fa 9 0) (fa 9 1) ((fa 10 0) (9 * s + 2)) ((fa 10 0) (9 * s + 7)) ((iv 9 3).toInt).toNat) (tFi (fa 9 0) (fa 9 1) ((fa 10 0) (9 * s + 2)) ((fa 10 0) (9 * s + 7)) ((iv 9 3).toInt).toNat))) ((iv 10 1).toInt).toNat ∧ 0 < (sX (fa 10 0) (a).toInt (iv 11 10).toInt 0 3 ((iv 10 1).toInt).toNat).toInt - smI (cxP (fa 10 0) (a).toInt (iv 11 10).toInt 0) (fun s : Nat => cl40 (erS (b).toInt (fa 9 2) (tLa (fa 9 0) (fa 9 1) ((fa 10 0) (9 * s + 2)) ((fa 10 0) (9 * s + 7)) ((iv 9 3).toInt).toNat) (tFi (fa 9 0) (fa 9 1) ((fa 10 0) (9 * s + 2)) ((fa 10 0) (9 * s + 7)) ((iv 9 3).toInt).toNat))) ((iv 10 1).toInt).toNat ∧ ltX (((sX (fa 10 0) (a).toInt (iv 11 10).toInt 0 4 ((iv 10 1).toInt).toNat).toInt - smI (cxP (fa 10 0) (a).toInt (iv 11 10).toInt 0) (fun s : Nat => cl40 (erS (b).toInt (fa 9 2) (tLa (fa 9 0) (fa 9 1) ((fa 10 0) (9 * s + 2)) ((fa 10 0) (9 * s + 7)) ((iv 9 3).toInt).toNat) (tFi (fa 9 0) (fa 9 1) ((fa 10 0) (9 * s + 2)) ((fa 10 0) (9 * s + 7)) ((iv 9 3).toInt).toNat))) ((iv 10 1).toInt).toNat) * (((fa 0 0) ((a).toInt).toNat).toInt * (1000 + wt))) (((sX (fa 10 0) (a).toInt (iv 11 10).toInt 0 3 ((iv 10 1).toInt).toNat).toInt - smI (cxP (fa 10 0) (a).toInt (iv 11 10).toInt 0) (fun s : Nat => cl40 (erS (b).toInt (fa 9 2) (tLa (fa 9 0) (fa 9 1) ((fa 10 0) (9 * s + 2)) ((fa 10 0) (9 * s + 7)) ((iv 9 3).toInt).toNat) (tFi (fa 9 0) (fa 9 1) ((fa 10 0) (9 * s + 2)) ((fa 10 0) (9 * s + 7)) ((iv 9 3).toInt).toNat))) ((iv 10 1).toInt).toNat) * 1000) ((b).toInt % 2) (r22 : Int64).toInt)) from (by have hz9 := xr22_0; rw [zP9, zQ9, hm4, zU9, zL9, ho9, show (v21 : Int32).toInt = b.toInt % 2 from by omega] at hz9; exact Or.inr (Or.inr (Or.inr ⟨⟨by omega, by omega⟩, ⟨by omega, by omega⟩, by omega, wt9, hm1, hm2, by omega, by omega, hz9⟩)))), trivial, rfl⟩, by rw [ht9]; exact hP9, hD9⟩, hS.F ht9⟩) hS.2.2 dX11_span_128
            · have fc11 := z_nle (by decide : (2 : Int32).toInt = 2) (rfl : (b).toInt = _) c11
              refine lv_iconst (v := 1) hx hb dX11_span_66 (by decide) ?_
              refine lv_goto (tgt := 71) hx hb dX11_span_67 (by decide) ?_
              refine vp_callSi (W.runV (As := [.int a, .int 1]) (rest := []) ⟨hx, hb, hml, hown, ht⟩ (c_X11_errors_w1 l dC dI h g ca iv lv (u2 fa 30 2 n6) (u2 (u2 la 30 0 n7) 30 1 n8) (IX_a (c := 30) (k := 2) hI hn6) a) (kV 2 ht m_858 m_860 m_30 m_77 m_861 rfl rfl hd_X11_errors_v ⟨Nat.le_of_ble_eq_true rfl, Nat.le_of_ble_eq_true rfl⟩) (vR hP hK (rX_11 hK hP)) rfl rfl hl.1 rfl (lv_room (Nat.le_of_ble_eq_true rfl)) dX11_span_71 ⟨Nat.le_of_ble_eq_true rfl, Nat.le_of_ble_eq_true rfl⟩) (fun r23 hr23 => ?_)
              obtain ⟨hr23, xr23_0⟩ := hr23
              have i_9_3 : 0 ≤ (iv 9 3).toInt ∧ (iv 9 3).toInt ≤ 30 := hI.1 9 3
              have xr23_0 : (r23 : Int32).toInt = smI (cxP (fa 10 0) (a : Int32).toInt ((iv 11 10) : Int32).toInt 0) (fun s : Nat => cl40 (er1 (fa 9 2) (tLa (fa 9 0) (fa 9 1) ((fa 10 0) (9 * s + 2)) ((fa 10 0) (9 * s + 7)) (((iv 9 3) : Int32).toInt).toNat) (tFi (fa 9 0) (fa 9 1) ((fa 10 0) (9 * s + 2)) ((fa 10 0) (9 * s + 7)) (((iv 9 3) : Int32).toInt).toNat))) (((iv 10 1) : Int32).toInt).toNat := xr23_0
              have hf9 : (fun s : Nat => cl40 (erS b.toInt (fa 9 2) (tLa (fa 9 0) (fa 9 1) ((fa 10 0) (9 * s + 2)) ((fa 10 0) (9 * s + 7)) ((iv 9 3).toInt).toNat) (tFi (fa 9 0) (fa 9 1) ((fa 10 0) (9 * s + 2)) ((fa 10 0) (9 * s + 7)) ((iv 9 3).toInt).toNat))) = (fun s : Nat => cl40 (er1 (fa 9 2) (tLa (fa 9 0) (fa 9 1) ((fa 10 0) (9 * s + 2)) ((fa 10 0) (9 * s + 7)) ((iv 9 3).toInt).toNat) (tFi (fa 9 0) (fa 9 1) ((fa 10 0) (9 * s + 2)) ((fa 10 0) (9 * s + 7)) ((iv 9 3).toInt).toNat))) := funext (fun s => by rw [erS_1 (by omega)])
              have ho9 : (r23 : Int32).toInt = smI (cxP (fa 10 0) a.toInt (iv 11 10).toInt 0) (fun s : Nat => cl40 (erS b.toInt (fa 9 2) (tLa (fa 9 0) (fa 9 1) ((fa 10 0) (9 * s + 2)) ((fa 10 0) (9 * s + 7)) ((iv 9 3).toInt).toNat) (tFi (fa 9 0) (fa 9 1) ((fa 10 0) (9 * s + 2)) ((fa 10 0) (9 * s + 7)) ((iv 9 3).toInt).toNat))) ((iv 10 1).toInt).toNat := by rw [hf9]; exact xr23_0
              have hl9 := smI_b (c := cxP (fa 10 0) a.toInt (iv 11 10).toInt 0) (f := (fun s : Nat => cl40 (erS b.toInt (fa 9 2) (tLa (fa 9 0) (fa 9 1) ((fa 10 0) (9 * s + 2)) ((fa 10 0) (9 * s + 7)) ((iv 9 3).toInt).toNat) (tFi (fa 9 0) (fa 9 1) ((fa 10 0) (9 * s + 2)) ((fa 10 0) (9 * s + 7)) ((iv 9 3).toInt).toNat)))) (fun j => cl40_b _) ((iv 10 1).toInt).toNat hm9
              rw [← ho9] at hl9
              have hc9 : (smC (cxP (fa 10 0) a.toInt (iv 11 10).toInt 0) ((iv 10 1).toInt).toNat).toInt = (nX (fa 10 0) a.toInt (iv 11 10).toInt 0 ((iv 10 1).toInt).toNat).toInt := rfl
              rw [hc9] at hl9
              obtain ⟨hd1, hd2, hd3, hd4, hd5⟩ := hb9
              refine lv_i2l (v := (r23.toInt64)) hx hb dX11_span_74 rfl ?_
              refine lv_lstore_n (lv' := [(3, .long (r23.toInt64)), (0, .ref h), (1, .int a), (2, .int b)]) hx hb dX11_span_75 rfl hl (by decide) rfl (fun ls hl => ?_)
              refine lv_aload_n hx hb dX11_span_76 rfl (lv_at hl 1 rfl) ?_
              refine gX_11_5 hx hb ht hown hK hP m_420 dX11_span_77 ?_
              refine gX_3_2 hx hb ht hown hK hP m_282 dX11_span_80 ?_
              refine gX_30_1 hx hb ht hown hK hP m_266 dX11_span_83 ?_
              refine lv_iconst (v := 0) hx hb dX11_span_86 (by decide) ?_
              refine lX_30_1 hx hb hK hP (f := n8) rfl (vp_in_iff.mpr (by decide)) dX11_span_87 ?_
              refine lv_topl (fun w24 ew24 => ?_)
              refine lv_lload_n hx hb dX11_span_88 rfl (lv_at hl 0 rfl) ?_
              refine lv_lsub hx hb dX11_span_89 ?_
              refine lv_topl (fun w25 ew25 => ?_)
              refine lv_aload_n hx hb dX11_span_90 rfl (lv_at hl 1 rfl) ?_
              refine lv_iload_n hx hb dX11_span_91 rfl (lv_at hl 2 rfl) ?_
              refine lv_aload_n hx hb dX11_span_92 rfl (lv_at hl 1 rfl) ?_
              refine gX_11_10 hx hb ht hown hK hP m_425 (v := (iv 11 10)) rfl dX11_span_93 ?_
              have i_1_7 : 0 ≤ (iv 1 7).toInt ∧ (iv 1 7).toInt ≤ 8 := hI.1 1 7
              have hFc := free_all hD hS hA
              refine va_calll (va_runV (As := [.int a, .int (iv 11 10)]) (rest := [.long w25]) ⟨hx, hb, hml, hown, ht⟩ (c_X11_moistened_w l dC dI H.size ak av h g ca iv lv (u2 fa 30 2 n6) (u2 (u2 la 30 0 n7) 30 1 n8) (IX_a (c := 30) (k := 2) hI hn6) a (iv 11 10) ⟨by omega, by omega⟩ (show (a : Int32).toInt < ((iv 0 7) : Int32).toInt from by omega) hJB hJF hJG) (kV 2 ht m_844 m_846 m_29 m_77 m_847 rfl rfl hd_X11_moistened_v ⟨Nat.le_of_ble_eq_true rfl, Nat.le_of_ble_eq_true rfl⟩) (vWZ hP hK hD ((hZ.kept hS.2.1).narrow (free_all hD hS hA)) (rX_11 hK hP)) rfl rfl hl.1 rfl (lv_room (Nat.le_of_ble_eq_true rfl)) dX11_span_96 ⟨Nat.le_of_ble_eq_true rfl, Nat.le_of_ble_eq_true rfl⟩) hS (fun q _ h => hFc q h) hFc (fun r26 u t H1 locs ht9 hvm hr26 hB hz1 hk1 hS => ?_)
              obtain ⟨n27, hn27, xr26_0, hr26, rfl⟩ := hr26
              obtain ⟨hP, hD⟩ := hB
              rw [ht9] at hP
              generalize H1 = H at hP hS ⊢
              have hP : va_P (dC, dI) classes (WX h g ca iv lv (u2 (u2 fa 30 2 n6) 1 6 n27) (u2 (u2 la 30 0 n7) 30 1 n8)) H := hP
              have hD : va_D A (WX h g ca iv lv (u2 (u2 fa 30 2 n6) 1 6 n27) (u2 (u2 la 30 0 n7) 30 1 n8)) := (show va_D _ (WX h g ca iv lv (u2 (u2 fa 30 2 n6) 1 6 n27) (u2 (u2 la 30 0 n7) 30 1 n8)) from hD).weaken (fun _ _ _ h => hFc _ h)
              have xr26_0 : ∃ wt : Int, FoX ((iv 1 7) : Int32).toInt (fa 1 0) (fa 1 1) (fa 1 2) (fa 1 3) 0 ((iv 11 10) : Int32).toInt wt ∧ 0 ≤ wt ∧ wt ≤ 300 ∧ (r26 : Int64).toInt = ((fa 0 0) ((a : Int32).toInt).toNat).toInt * (1000 + wt) ∧ 1000 ≤ (r26 : Int64).toInt ∧ (r26 : Int64).toInt ≤ 129998700 := xr26_0
              refine lv_lmul hx hb dX11_span_99 ?_
              refine lv_topl (fun w28 ew28 => ?_)
              refine lv_lstore (lv' := [(5, .long w28), (3, .long (r23.toInt64)), (0, .ref h), (1, .int a), (2, .int b)]) hx hb dX11_span_100 hl (by decide) rfl (fun ls hl => ?_)
              refine lv_lload hx hb dX11_span_102 (lv_at hl 0 rfl) ?_
              refine lv_aload_n hx hb dX11_span_104 rfl (lv_at hl 2 rfl) ?_
              refine gX_11_5 hx hb ht hown hK hP m_420 dX11_span_105 ?_
              refine gX_3_2 hx hb ht hown hK hP m_282 dX11_span_108 ?_
              refine gX_30_0 hx hb ht hown hK hP m_263 dX11_span_111 ?_
              refine lv_iconst (v := 0) hx hb dX11_span_114 (by decide) ?_
              refine lX_30_0 hx hb hK hP (f := n7) rfl (vp_in_iff.mpr (by decide)) dX11_span_115 ?_
              refine lv_topl (fun w29 ew29 => ?_)
              refine lv_lload_n hx hb dX11_span_116 rfl (lv_at hl 1 rfl) ?_
              refine lv_lsub hx hb dX11_span_117 ?_
              refine lv_topl (fun w30 ew30 => ?_)
              refine lv_ldc2 hx hb hown (ht _ m_848) dX11_span_118 ?_
              refine lv_lmul hx hb dX11_span_121 ?_
              refine lv_topl (fun w31 ew31 => ?_)
              refine lv_iload_n hx hb dX11_span_122 rfl (lv_at hl 4 rfl) ?_
              refine lv_iconst (v := 2) hx hb dX11_span_123 (by decide) ?_
              refine lv_irem hx hb dX11_span_124 (by decide) ?_
              refine lv_topi (fun v32 ev32 => ?_)
              have tv32 := z_remp ev32 (rfl : (b).toInt = _) (by decide : (2 : Int32).toInt = 2) (by omega) (by omega)
              have zD9 : (w24 : Int64) = sX (fa 10 0) a.toInt (iv 11 10).toInt 0 4 ((iv 10 1).toInt).toNat := (show w24 = n8 0 from ew24).trans (show n8 0 = sX (fa 10 0) a.toInt (iv 11 10).toInt 0 4 ((iv 10 1).toInt).toNat from (xr5_0 0 (by decide)).2.1)
              have zR9 : (w29 : Int64) = sX (fa 10 0) a.toInt (iv 11 10).toInt 0 3 ((iv 10 1).toInt).toNat := (show w29 = n7 0 from ew29).trans (show n7 0 = sX (fa 10 0) a.toInt (iv 11 10).toInt 0 3 ((iv 10 1).toInt).toNat from (xr5_0 0 (by decide)).1)
              have zU9 : (w25 : Int64).toInt = (sX (fa 10 0) a.toInt (iv 11 10).toInt 0 4 ((iv 10 1).toInt).toNat).toInt - (r23 : Int32).toInt := l_sub ew25 (congrArg Int64.toInt zD9) (Int32.toInt_toInt64 _) (by omega) (by omega)
              have zL9 : (w30 : Int64).toInt = (sX (fa 10 0) a.toInt (iv 11 10).toInt 0 3 ((iv 10 1).toInt).toNat).toInt - (r23 : Int32).toInt := l_sub ew30 (congrArg Int64.toInt zR9) (Int32.toInt_toInt64 _) (by omega) (by omega)
              obtain ⟨wt9, hm1, hm2, hm3, hm4, hm5, hm6⟩ := xr26_0
              have hp9 := mul_b (x := (w25 : Int64).toInt) (y := (r26 : Int64).toInt) (a1 := 1) (a2 := 1000) (b1 := 200000) (b2 := 129998700) (by omega) (by omega) hm5 hm6 (by decide) (by decide)
              have zP9 : (w28 : Int64).toInt = (w25 : Int64).toInt * (r26 : Int64).toInt := l_mul ew28 rfl rfl (by omega) (by omega)
              have zQ9 : (w31 : Int64).toInt = (w30 : Int64).toInt * 1000 := l_mul ew31 rfl (by decide) (by omega) (by omega)
              refine vp_callSl (W.runS (As := [.long w28, .long w31, .int v32]) (rest := []) ⟨hx, hb, hml, hown, ht⟩ (c_X11_inLeastTerms_g l dC dI w28 w31 v32 (show 0 ≤ (w28 : Int64).toInt from by omega) (show 1 ≤ (w31 : Int64).toInt from by omega) (show (w31 : Int64).toInt ≤ 281474976710656 from by omega)) (kS 3 ht m_581 m_582 m_77 m_583 rfl rfl hd_X11_inLeastTerms_v ⟨Nat.le_of_ble_eq_true rfl, Nat.le_of_ble_eq_true rfl⟩) (sR noP (hK.sub (tys' := []) [] rfl)) rfl rfl hl.1 rfl (lv_room (Nat.le_of_ble_eq_true rfl)) dX11_span_125 ⟨Nat.le_of_ble_eq_true rfl, Nat.le_of_ble_eq_true rfl⟩) (fun r33 hr33 => ?_)
              obtain ⟨hr33, xr33_0⟩ := hr33
              have xr33_0 : (((v32 : Int32).toInt = 0 ∧ (r33 : Int64).toInt = (w28 : Int64).toInt / gN (w28 : Int64).toInt (w31 : Int64).toInt) ∨ ((v32 : Int32).toInt ≠ 0 ∧ (r33 : Int64).toInt = (w31 : Int64).toInt / gN (w28 : Int64).toInt (w31 : Int64).toInt)) := xr33_0
              have hP9 : va_P (dC, dI) classes (WX h g ca iv lv (u2 (u2 fa 1 6 n27) 30 2 n6) (u2 (u2 la 30 0 n7) 30 1 n8)) H := hP
              have hD9 : va_D A (WX h g ca iv lv (u2 (u2 fa 1 6 n27) 30 2 n6) (u2 (u2 la 30 0 n7) 30 1 n8)) := hD
              exact W.lret (v := r33) hx hb hr (fun t ht9 hW => ⟨⟨r33, (iv, lv, (u2 (u2 fa 1 6 n27) 30 2 n6), (u2 (u2 la 30 0 n7) 30 1 n8)), rfl, ⟨n27, n6, n7, n8, hn27, (show (((r33 : Int64).toInt = -100001 ∧ ¬ (0 ≤ (a).toInt ∧ (a).toInt < (iv 0 7).toInt)) ∨ ((r33 : Int64).toInt = -100002 ∧ (0 ≤ (a).toInt ∧ (a).toInt < (iv 0 7).toInt) ∧ ¬ (0 ≤ (b).toInt ∧ (b).toInt ≤ 3)) ∨ ((r33 : Int64).toInt = -100003 ∧ (0 ≤ (a).toInt ∧ (a).toInt < (iv 0 7).toInt) ∧ (0 ≤ (b).toInt ∧ (b).toInt ≤ 3) ∧ (nX (fa 10 0) (a).toInt (iv 11 10).toInt 0 ((iv 10 1).toInt).toNat).toInt = 0) ∨ ((0 ≤ (a).toInt ∧ (a).toInt < (iv 0 7).toInt) ∧ (0 ≤ (b).toInt ∧ (b).toInt ≤ 3) ∧ (nX (fa 10 0) (a).toInt (iv 11 10).toInt 0 ((iv 10 1).toInt).toNat).toInt ≠ 0 ∧ ∃ wt : Int, FoX (iv 1 7).toInt (fa 1 0) (fa 1 1) (fa 1 2) (fa 1 3) 0 (iv 11 10).toInt wt ∧ 0 ≤ wt ∧ 0 < (sX (fa 10 0) (a).toInt (iv 11 10).toInt 0 4 ((iv 10 1).toInt).toNat).toInt - smI (cxP (fa 10 0) (a).toInt (iv 11 10).toInt 0) (fun s : Nat => cl40 (erS (b).toInt (fa 9 2) (tLa (fa 9 0) (fa 9 1) ((fa 10 0) (9 * s + 2)) ((fa 10 0) (9 * s + 7)) ((iv 9 3).toInt).toNat) (tFi (fa 9 0) (fa 9 1) ((fa 10 0) (9 * s + 2)) ((fa 10 0) (9 * s + 7)) ((iv 9 3).toInt).toNat))) ((iv 10 1).toInt).toNat ∧ 0 < (sX (fa 10 0) (a).toInt (iv 11 10).toInt 0 3 ((iv 10 1).toInt).toNat).toInt - smI (cxP (fa 10 0) (a).toInt (iv 11 10).toInt 0) (fun s : Nat => cl40 (erS (b).toInt (fa 9 2) (tLa (fa 9 0) (fa 9 1) ((fa 10 0) (9 * s + 2)) ((fa 10 0) (9 * s + 7)) ((iv 9 3).toInt).toNat) (tFi (fa 9 0) (fa 9 1) ((fa 10 0) (9 * s + 2)) ((fa 10 0) (9 * s + 7)) ((iv 9 3).toInt).toNat))) ((iv 10 1).toInt).toNat ∧ ltX (((sX (fa 10 0) (a).toInt (iv 11 10).toInt 0 4 ((iv 10 1).toInt).toNat).toInt - smI (cxP (fa 10 0) (a).toInt (iv 11 10).toInt 0) (fun s : Nat => cl40 (erS (b).toInt (fa 9 2) (tLa (fa 9 0) (fa 9 1) ((fa 10 0) (9 * s + 2)) ((fa 10 0) (9 * s + 7)) ((iv 9 3).toInt).toNat) (tFi (fa 9 0) (fa 9 1) ((fa 10 0) (9 * s + 2)) ((fa 10 0) (9 * s + 7)) ((iv 9 3).toInt).toNat))) ((iv 10 1).toInt).toNat) * (((fa 0 0) ((a).toInt).toNat).toInt * (1000 + wt))) (((sX (fa 10 0) (a).toInt (iv 11 10).toInt 0 3 ((iv 10 1).toInt).toNat).toInt - smI (cxP (fa 10 0) (a).toInt (iv 11 10).toInt 0) (fun s : Nat => cl40 (erS (b).toInt (fa 9 2) (tLa (fa 9 0) (fa 9 1) ((fa 10 0) (9 * s + 2)) ((fa 10 0) (9 * s + 7)) ((iv 9 3).toInt).toNat) (tFi (fa 9 0) (fa 9 1) ((fa 10 0) (9 * s + 2)) ((fa 10 0) (9 * s + 7)) ((iv 9 3).toInt).toNat))) ((iv 10 1).toInt).toNat) * 1000) ((b).toInt % 2) (r33 : Int64).toInt)) from (by have hz9 := xr33_0; rw [zP9, zQ9, hm4, zU9, zL9, ho9, show (v32 : Int32).toInt = b.toInt % 2 from by omega] at hz9; exact Or.inr (Or.inr (Or.inr ⟨⟨by omega, by omega⟩, ⟨by omega, by omega⟩, by omega, wt9, hm1, hm2, by omega, by omega, hz9⟩)))), trivial, rfl⟩, by rw [ht9]; exact hP9, hD9⟩, hS.F ht9⟩) hS.2.2 dX11_span_128
          · have fc10 := z_eq (rfl : (v9).toInt = _) (by decide : (0 : Int32).toInt = 0) c10
            refine lv_ldc2 hx hb hown (ht _ m_839) dX11_span_55 ?_
            have : ((-100003) : Int64).toInt = (-100003) := (by decide)
            have hP9 : va_P (dC, dI) classes (WX h g ca iv lv (u2 (u2 fa 1 6 (fa 1 6)) 30 2 n6) (u2 (u2 la 30 0 n7) 30 1 n8)) H := hP
            have hD9 : va_D A (WX h g ca iv lv (u2 (u2 fa 1 6 (fa 1 6)) 30 2 n6) (u2 (u2 la 30 0 n7) 30 1 n8)) := hD
            exact W.lret (v := (-100003)) hx hb hr (fun t ht9 hW => ⟨⟨(-100003), (iv, lv, (u2 (u2 fa 1 6 (fa 1 6)) 30 2 n6), (u2 (u2 la 30 0 n7) 30 1 n8)), rfl, ⟨(fa 1 6), n6, n7, n8, (hI.2 1 6), (show ((((-100003) : Int64).toInt = -100001 ∧ ¬ (0 ≤ (a).toInt ∧ (a).toInt < (iv 0 7).toInt)) ∨ (((-100003) : Int64).toInt = -100002 ∧ (0 ≤ (a).toInt ∧ (a).toInt < (iv 0 7).toInt) ∧ ¬ (0 ≤ (b).toInt ∧ (b).toInt ≤ 3)) ∨ (((-100003) : Int64).toInt = -100003 ∧ (0 ≤ (a).toInt ∧ (a).toInt < (iv 0 7).toInt) ∧ (0 ≤ (b).toInt ∧ (b).toInt ≤ 3) ∧ (nX (fa 10 0) (a).toInt (iv 11 10).toInt 0 ((iv 10 1).toInt).toNat).toInt = 0) ∨ ((0 ≤ (a).toInt ∧ (a).toInt < (iv 0 7).toInt) ∧ (0 ≤ (b).toInt ∧ (b).toInt ≤ 3) ∧ (nX (fa 10 0) (a).toInt (iv 11 10).toInt 0 ((iv 10 1).toInt).toNat).toInt ≠ 0 ∧ ∃ wt : Int, FoX (iv 1 7).toInt (fa 1 0) (fa 1 1) (fa 1 2) (fa 1 3) 0 (iv 11 10).toInt wt ∧ 0 ≤ wt ∧ 0 < (sX (fa 10 0) (a).toInt (iv 11 10).toInt 0 4 ((iv 10 1).toInt).toNat).toInt - smI (cxP (fa 10 0) (a).toInt (iv 11 10).toInt 0) (fun s : Nat => cl40 (erS (b).toInt (fa 9 2) (tLa (fa 9 0) (fa 9 1) ((fa 10 0) (9 * s + 2)) ((fa 10 0) (9 * s + 7)) ((iv 9 3).toInt).toNat) (tFi (fa 9 0) (fa 9 1) ((fa 10 0) (9 * s + 2)) ((fa 10 0) (9 * s + 7)) ((iv 9 3).toInt).toNat))) ((iv 10 1).toInt).toNat ∧ 0 < (sX (fa 10 0) (a).toInt (iv 11 10).toInt 0 3 ((iv 10 1).toInt).toNat).toInt - smI (cxP (fa 10 0) (a).toInt (iv 11 10).toInt 0) (fun s : Nat => cl40 (erS (b).toInt (fa 9 2) (tLa (fa 9 0) (fa 9 1) ((fa 10 0) (9 * s + 2)) ((fa 10 0) (9 * s + 7)) ((iv 9 3).toInt).toNat) (tFi (fa 9 0) (fa 9 1) ((fa 10 0) (9 * s + 2)) ((fa 10 0) (9 * s + 7)) ((iv 9 3).toInt).toNat))) ((iv 10 1).toInt).toNat ∧ ltX (((sX (fa 10 0) (a).toInt (iv 11 10).toInt 0 4 ((iv 10 1).toInt).toNat).toInt - smI (cxP (fa 10 0) (a).toInt (iv 11 10).toInt 0) (fun s : Nat => cl40 (erS (b).toInt (fa 9 2) (tLa (fa 9 0) (fa 9 1) ((fa 10 0) (9 * s + 2)) ((fa 10 0) (9 * s + 7)) ((iv 9 3).toInt).toNat) (tFi (fa 9 0) (fa 9 1) ((fa 10 0) (9 * s + 2)) ((fa 10 0) (9 * s + 7)) ((iv 9 3).toInt).toNat))) ((iv 10 1).toInt).toNat) * (((fa 0 0) ((a).toInt).toNat).toInt * (1000 + wt))) (((sX (fa 10 0) (a).toInt (iv 11 10).toInt 0 3 ((iv 10 1).toInt).toNat).toInt - smI (cxP (fa 10 0) (a).toInt (iv 11 10).toInt 0) (fun s : Nat => cl40 (erS (b).toInt (fa 9 2) (tLa (fa 9 0) (fa 9 1) ((fa 10 0) (9 * s + 2)) ((fa 10 0) (9 * s + 7)) ((iv 9 3).toInt).toNat) (tFi (fa 9 0) (fa 9 1) ((fa 10 0) (9 * s + 2)) ((fa 10 0) (9 * s + 7)) ((iv 9 3).toInt).toNat))) ((iv 10 1).toInt).toNat) * 1000) ((b).toInt % 2) ((-100003) : Int64).toInt)) from Or.inr (Or.inr (Or.inl ⟨by omega, ⟨by omega, by omega⟩, ⟨by omega, by omega⟩, by omega⟩))), trivial, rfl⟩, by rw [ht9]; exact hP9, hD9⟩, hS.F ht9⟩) hS.2.2 dX11_span_58
        · exact absurd c4 (by decide)
      · skip
        refine lv_if_ne (tgt := 28) hx hb dX11_span_21 (by decide) (fun c34 => ?_) (fun c34 => ?_)
        · exact absurd rfl c34
        · skip
          refine lv_ldc2 hx hb hown (ht _ m_838) dX11_span_24 ?_
          have : ((-100002) : Int64).toInt = (-100002) := (by decide)
          have hP9 : va_P (dC, dI) classes (WX h g ca iv lv (u2 (u2 fa 1 6 (fa 1 6)) 30 2 (fa 30 2)) (u2 (u2 la 30 0 (la 30 0)) 30 1 (la 30 1))) s.heap := hP
          have hD9 : va_D A (WX h g ca iv lv (u2 (u2 fa 1 6 (fa 1 6)) 30 2 (fa 30 2)) (u2 (u2 la 30 0 (la 30 0)) 30 1 (la 30 1))) := hD
          exact W.lret (v := (-100002)) hx hb hr (fun t ht9 hW => ⟨⟨(-100002), (iv, lv, (u2 (u2 fa 1 6 (fa 1 6)) 30 2 (fa 30 2)), (u2 (u2 la 30 0 (la 30 0)) 30 1 (la 30 1))), rfl, ⟨(fa 1 6), (fa 30 2), (la 30 0), (la 30 1), (hI.2 1 6), (show ((((-100002) : Int64).toInt = -100001 ∧ ¬ (0 ≤ (a).toInt ∧ (a).toInt < (iv 0 7).toInt)) ∨ (((-100002) : Int64).toInt = -100002 ∧ (0 ≤ (a).toInt ∧ (a).toInt < (iv 0 7).toInt) ∧ ¬ (0 ≤ (b).toInt ∧ (b).toInt ≤ 3)) ∨ (((-100002) : Int64).toInt = -100003 ∧ (0 ≤ (a).toInt ∧ (a).toInt < (iv 0 7).toInt) ∧ (0 ≤ (b).toInt ∧ (b).toInt ≤ 3) ∧ (nX (fa 10 0) (a).toInt (iv 11 10).toInt 0 ((iv 10 1).toInt).toNat).toInt = 0) ∨ ((0 ≤ (a).toInt ∧ (a).toInt < (iv 0 7).toInt) ∧ (0 ≤ (b).toInt ∧ (b).toInt ≤ 3) ∧ (nX (fa 10 0) (a).toInt (iv 11 10).toInt 0 ((iv 10 1).toInt).toNat).toInt ≠ 0 ∧ ∃ wt : Int, FoX (iv 1 7).toInt (fa 1 0) (fa 1 1) (fa 1 2) (fa 1 3) 0 (iv 11 10).toInt wt ∧ 0 ≤ wt ∧ 0 < (sX (fa 10 0) (a).toInt (iv 11 10).toInt 0 4 ((iv 10 1).toInt).toNat).toInt - smI (cxP (fa 10 0) (a).toInt (iv 11 10).toInt 0) (fun s : Nat => cl40 (erS (b).toInt (fa 9 2) (tLa (fa 9 0) (fa 9 1) ((fa 10 0) (9 * s + 2)) ((fa 10 0) (9 * s + 7)) ((iv 9 3).toInt).toNat) (tFi (fa 9 0) (fa 9 1) ((fa 10 0) (9 * s + 2)) ((fa 10 0) (9 * s + 7)) ((iv 9 3).toInt).toNat))) ((iv 10 1).toInt).toNat ∧ 0 < (sX (fa 10 0) (a).toInt (iv 11 10).toInt 0 3 ((iv 10 1).toInt).toNat).toInt - smI (cxP (fa 10 0) (a).toInt (iv 11 10).toInt 0) (fun s : Nat => cl40 (erS (b).toInt (fa 9 2) (tLa (fa 9 0) (fa 9 1) ((fa 10 0) (9 * s + 2)) ((fa 10 0) (9 * s + 7)) ((iv 9 3).toInt).toNat) (tFi (fa 9 0) (fa 9 1) ((fa 10 0) (9 * s + 2)) ((fa 10 0) (9 * s + 7)) ((iv 9 3).toInt).toNat))) ((iv 10 1).toInt).toNat ∧ ltX (((sX (fa 10 0) (a).toInt (iv 11 10).toInt 0 4 ((iv 10 1).toInt).toNat).toInt - smI (cxP (fa 10 0) (a).toInt (iv 11 10).toInt 0) (fun s : Nat => cl40 (erS (b).toInt (fa 9 2) (tLa (fa 9 0) (fa 9 1) ((fa 10 0) (9 * s + 2)) ((fa 10 0) (9 * s + 7)) ((iv 9 3).toInt).toNat) (tFi (fa 9 0) (fa 9 1) ((fa 10 0) (9 * s + 2)) ((fa 10 0) (9 * s + 7)) ((iv 9 3).toInt).toNat))) ((iv 10 1).toInt).toNat) * (((fa 0 0) ((a).toInt).toNat).toInt * (1000 + wt))) (((sX (fa 10 0) (a).toInt (iv 11 10).toInt 0 3 ((iv 10 1).toInt).toNat).toInt - smI (cxP (fa 10 0) (a).toInt (iv 11 10).toInt 0) (fun s : Nat => cl40 (erS (b).toInt (fa 9 2) (tLa (fa 9 0) (fa 9 1) ((fa 10 0) (9 * s + 2)) ((fa 10 0) (9 * s + 7)) ((iv 9 3).toInt).toNat) (tFi (fa 9 0) (fa 9 1) ((fa 10 0) (9 * s + 2)) ((fa 10 0) (9 * s + 7)) ((iv 9 3).toInt).toNat))) ((iv 10 1).toInt).toNat) * 1000) ((b).toInt % 2) ((-100002) : Int64).toInt)) from Or.inr (Or.inl ⟨by omega, ⟨by omega, by omega⟩, by omega⟩)), trivial, rfl⟩, by rw [ht9]; exact hP9, hD9⟩, hS.F ht9⟩) hS.2.2 dX11_span_27
    · exact absurd c2 (by decide)
  · skip
    have i_0_7 : 0 ≤ (iv 0 7).toInt ∧ (iv 0 7).toInt ≤ 10 := hI.1 0 7
    have fr1 : ¬ (0 ≤ (a : Int32).toInt ∧ (a : Int32).toInt < ((iv 0 7) : Int32).toInt) := fr1
    refine lv_if_ne (tgt := 15) hx hb dX11_span_8 (by decide) (fun c35 => ?_) (fun c35 => ?_)
    · exact absurd rfl c35
    · skip
      refine lv_ldc2 hx hb hown (ht _ m_837) dX11_span_11 ?_
      have : ((-100001) : Int64).toInt = (-100001) := (by decide)
      have hP9 : va_P (dC, dI) classes (WX h g ca iv lv (u2 (u2 fa 1 6 (fa 1 6)) 30 2 (fa 30 2)) (u2 (u2 la 30 0 (la 30 0)) 30 1 (la 30 1))) s.heap := hP
      have hD9 : va_D A (WX h g ca iv lv (u2 (u2 fa 1 6 (fa 1 6)) 30 2 (fa 30 2)) (u2 (u2 la 30 0 (la 30 0)) 30 1 (la 30 1))) := hD
      exact W.lret (v := (-100001)) hx hb hr (fun t ht9 hW => ⟨⟨(-100001), (iv, lv, (u2 (u2 fa 1 6 (fa 1 6)) 30 2 (fa 30 2)), (u2 (u2 la 30 0 (la 30 0)) 30 1 (la 30 1))), rfl, ⟨(fa 1 6), (fa 30 2), (la 30 0), (la 30 1), (hI.2 1 6), (show ((((-100001) : Int64).toInt = -100001 ∧ ¬ (0 ≤ (a).toInt ∧ (a).toInt < (iv 0 7).toInt)) ∨ (((-100001) : Int64).toInt = -100002 ∧ (0 ≤ (a).toInt ∧ (a).toInt < (iv 0 7).toInt) ∧ ¬ (0 ≤ (b).toInt ∧ (b).toInt ≤ 3)) ∨ (((-100001) : Int64).toInt = -100003 ∧ (0 ≤ (a).toInt ∧ (a).toInt < (iv 0 7).toInt) ∧ (0 ≤ (b).toInt ∧ (b).toInt ≤ 3) ∧ (nX (fa 10 0) (a).toInt (iv 11 10).toInt 0 ((iv 10 1).toInt).toNat).toInt = 0) ∨ ((0 ≤ (a).toInt ∧ (a).toInt < (iv 0 7).toInt) ∧ (0 ≤ (b).toInt ∧ (b).toInt ≤ 3) ∧ (nX (fa 10 0) (a).toInt (iv 11 10).toInt 0 ((iv 10 1).toInt).toNat).toInt ≠ 0 ∧ ∃ wt : Int, FoX (iv 1 7).toInt (fa 1 0) (fa 1 1) (fa 1 2) (fa 1 3) 0 (iv 11 10).toInt wt ∧ 0 ≤ wt ∧ 0 < (sX (fa 10 0) (a).toInt (iv 11 10).toInt 0 4 ((iv 10 1).toInt).toNat).toInt - smI (cxP (fa 10 0) (a).toInt (iv 11 10).toInt 0) (fun s : Nat => cl40 (erS (b).toInt (fa 9 2) (tLa (fa 9 0) (fa 9 1) ((fa 10 0) (9 * s + 2)) ((fa 10 0) (9 * s + 7)) ((iv 9 3).toInt).toNat) (tFi (fa 9 0) (fa 9 1) ((fa 10 0) (9 * s + 2)) ((fa 10 0) (9 * s + 7)) ((iv 9 3).toInt).toNat))) ((iv 10 1).toInt).toNat ∧ 0 < (sX (fa 10 0) (a).toInt (iv 11 10).toInt 0 3 ((iv 10 1).toInt).toNat).toInt - smI (cxP (fa 10 0) (a).toInt (iv 11 10).toInt 0) (fun s : Nat => cl40 (erS (b).toInt (fa 9 2) (tLa (fa 9 0) (fa 9 1) ((fa 10 0) (9 * s + 2)) ((fa 10 0) (9 * s + 7)) ((iv 9 3).toInt).toNat) (tFi (fa 9 0) (fa 9 1) ((fa 10 0) (9 * s + 2)) ((fa 10 0) (9 * s + 7)) ((iv 9 3).toInt).toNat))) ((iv 10 1).toInt).toNat ∧ ltX (((sX (fa 10 0) (a).toInt (iv 11 10).toInt 0 4 ((iv 10 1).toInt).toNat).toInt - smI (cxP (fa 10 0) (a).toInt (iv 11 10).toInt 0) (fun s : Nat => cl40 (erS (b).toInt (fa 9 2) (tLa (fa 9 0) (fa 9 1) ((fa 10 0) (9 * s + 2)) ((fa 10 0) (9 * s + 7)) ((iv 9 3).toInt).toNat) (tFi (fa 9 0) (fa 9 1) ((fa 10 0) (9 * s + 2)) ((fa 10 0) (9 * s + 7)) ((iv 9 3).toInt).toNat))) ((iv 10 1).toInt).toNat) * (((fa 0 0) ((a).toInt).toNat).toInt * (1000 + wt))) (((sX (fa 10 0) (a).toInt (iv 11 10).toInt 0 3 ((iv 10 1).toInt).toNat).toInt - smI (cxP (fa 10 0) (a).toInt (iv 11 10).toInt 0) (fun s : Nat => cl40 (erS (b).toInt (fa 9 2) (tLa (fa 9 0) (fa 9 1) ((fa 10 0) (9 * s + 2)) ((fa 10 0) (9 * s + 7)) ((iv 9 3).toInt).toNat) (tFi (fa 9 0) (fa 9 1) ((fa 10 0) (9 * s + 2)) ((fa 10 0) (9 * s + 7)) ((iv 9 3).toInt).toNat))) ((iv 10 1).toInt).toNat) * 1000) ((b).toInt % 2) ((-100001) : Int64).toInt)) from Or.inl ⟨by omega, by omega⟩), trivial, rfl⟩, by rw [ht9]; exact hP9, hD9⟩, hS.F ht9⟩) hS.2.2 dX11_span_14
