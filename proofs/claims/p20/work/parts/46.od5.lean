/-! ===== od5 ===== -/
set_option maxHeartbeats 4000000 in
set_option maxRecDepth 100000 in
/-- X12_odd -/
theorem c_X12_odd_w (l : Launch) (dC : Nat → ClassId) (dI : Nat → Nat → Nat) (sz : Nat) (h : Nat) (g : Nat → Nat → Nat) (ca : Nat → Nat → ClassId) (iv : Nat → Nat → Int32) (lv : Nat → Nat → Int64) (fa : Nat → Nat → Nat → Int32) (la : Nat → Nat → Nat → Int64) (hI : IX iv fa) (a : Int32) (b : Int32) (hJC : JCf (iv 12 23).toInt (fa 12 25) (fa 12 26) (fa 12 27) (fa 12 28)) (hJK : ∀ k j : Nat, (k : Int) < (iv 12 23).toInt → 12 * k ≤ j → (j : Int) < 12 * (k : Int) + (fa 12 25 k).toInt → (fa 12 26 j).toInt = 3 → 0 ≤ (fa 12 28 j).toInt ∧ (fa 12 28 j).toInt < (k : Int)) : Met l yX12_odd (wc yX12_odd cX12_odd 8 (some .int)) ({ frames := 2, cells := 0, slots := 0, locals := 49 } : Room) (pW (dC, dI) classes (WM h g ca iv lv fa la) (TM ca) sz [.ref h, .int a, .int b]) (va_Qi (fun r (u : SS) => ∃ (na_12_39 : Nat → Int32) (na_12_40 : Nat → Int32) (ni_12_41 : Int32), (∀ j, inb (bA 12 39 j) (na_12_39 j)) ∧ (∀ j, inb (bA 12 40 j) (na_12_40 j)) ∧ inb (bI 12 41) ni_12_41 ∧ (((r.toInt = -100001 ∧ ¬ (0 ≤ a.toInt ∧ a.toInt < (iv 12 1).toInt)) ∨ (r.toInt = -100002 ∧ (0 ≤ a.toInt ∧ a.toInt < (iv 12 1).toInt) ∧ ¬ (0 ≤ b.toInt ∧ b.toInt ≤ 2)) ∨ ((0 ≤ a.toInt ∧ a.toInt < (iv 12 1).toInt) ∧ (0 ≤ b.toInt ∧ b.toInt ≤ 2) ∧ ∃ pt : Int32, FoY (iv 12 23).toInt (fa 12 24) (fa 12 25) (fa 12 26) (fa 12 27) (fa 12 28) 2 (iv 12 0).toInt pt.toInt ∧ r.toInt = (oN (odY (fa 12 4) (fa 12 5) (fa 12 11) (fa 12 12) (fa 12 7) (fa 12 8) a.toInt (iv 12 0).toInt b.toInt ((iv 12 3).toInt).toNat pt)).toInt))) ∧ (True) ∧ u = ((u2 iv 12 41 ni_12_41), lv, (u2 (u2 fa 12 39 na_12_39) 12 40 na_12_40), la)) (bM (dC, dI) h g ca (va_A (WM h g ca iv lv fa la) sz)) (va_A (WM h g ca iv lv fa la) sz)) 0 0 (va_A (WM h g ca iv lv fa la) sz) := by
  refine Met.ofW (cc := cX12_odd) (maxL := 8) (ret := (some .int)) (by decide) rfl ?_
  intro p e s m args below meth c s₁ B hml hv
  obtain ⟨rfl, hsz, hP, hK, hD0⟩ := hv
  have hx := B.exec
  have hb := B.bytes
  have hr := B.returns
  have ht := tb_tl (atoms_spec (ws := wc yX12_odd cX12_odd 8 (some .int)) B.pre)
  have hown : s.vm.findClass RX12 = some m.cls := findClass_of_methodNamed B.named
  have hlocks := B.notSynchronized
  subst hsz
  have hD := hD0.self (sz := s.heap.size)
  generalize hAe : va_A (WM h g ca iv lv fa la) s.heap.size = A at hD ⊢
  have hA : ∀ q : Nat, s.heap.size ≤ q → A q := fun q h => by rw [← hAe]; exact Or.inr h
  have hS : va_S A s.heap s.heap [] := va_S.rf
  have hl := lv_entry [.ref h, .int a, .int b] (n := 8) (Nat.le_of_ble_eq_true rfl)
  rw [lg_entry_eq]
  generalize (lg_sl [.ref h, .int a, .int b] ++ List.replicate (8 - (lg_sl [.ref h, .int a, .int b]).length) Slot.unset).toArray = ls at hl ⊢
  have hl : lv_has ls 8 [(0, .ref h), (1, .int a), (2, .int b)] := hl
  refine lv_aload_n hx hb dX12_odd_0 rfl (lv_at hl 0 rfl) ?_
  refine lv_iload_n hx hb dX12_odd_1 rfl (lv_at hl 1 rfl) ?_
  refine vp_callSi (W.runV (As := [.int a]) (rest := []) ⟨hx, hb, hml, hown, ht⟩ (c_X12_noBale l dC dI h g ca iv lv fa la hI a) (kV 1 ht m_1385 m_1387 m_42 m_89 m_1388 rfl rfl hd_X12_noBale_v ⟨Nat.le_of_ble_eq_true rfl, Nat.le_of_ble_eq_true rfl⟩) (vR hP hK (rM_12 hK hP)) rfl rfl hl.1 rfl (lv_room (Nat.le_of_ble_eq_true rfl)) dX12_odd_2 ⟨Nat.le_of_ble_eq_true rfl, Nat.le_of_ble_eq_true rfl⟩) (fun r1 hr1 => ?_)
  rcases hr1 with ⟨rfl, fr1⟩ | ⟨rfl, fr1⟩
  · skip
    have i_12_1 : 0 ≤ (iv 12 1).toInt ∧ (iv 12 1).toInt ≤ 10 := hI.1 12 1
    have fr1 : ¬ (0 ≤ (a : Int32).toInt ∧ (a : Int32).toInt < ((iv 12 1) : Int32).toInt) := fr1
    refine lv_if_eq (tgt := 11) hx hb dX12_odd_5 (by decide) (fun c2 => ?_) (fun c2 => ?_)
    · exact absurd c2 (by decide)
    · skip
      refine lv_ldc hx hb hown (ht _ m_1389) dX12_odd_8 ?_
      have : ((-100001) : Int32).toInt = (-100001) := (by decide)
      have hP9 : va_P (dC, dI) classes (WM h g ca (u2 iv 12 41 (iv 12 41)) lv (u2 (u2 fa 12 39 (fa 12 39)) 12 40 (fa 12 40)) la) s.heap := hP
      have hD9 : va_D A (WM h g ca (u2 iv 12 41 (iv 12 41)) lv (u2 (u2 fa 12 39 (fa 12 39)) 12 40 (fa 12 40)) la) := hD
      exact W.iret (v := (-100001)) hx hb hr (fun t ht9 hW => ⟨⟨(-100001), ((u2 iv 12 41 (iv 12 41)), lv, (u2 (u2 fa 12 39 (fa 12 39)) 12 40 (fa 12 40)), la), rfl, ⟨(fa 12 39), (fa 12 40), (iv 12 41), (hI.2 12 39), (hI.2 12 40), (hI.1 12 41), (show ((((-100001) : Int32).toInt = -100001 ∧ ¬ (0 ≤ (a).toInt ∧ (a).toInt < (iv 12 1).toInt)) ∨ (((-100001) : Int32).toInt = -100002 ∧ (0 ≤ (a).toInt ∧ (a).toInt < (iv 12 1).toInt) ∧ ¬ (0 ≤ (b).toInt ∧ (b).toInt ≤ 2)) ∨ ((0 ≤ (a).toInt ∧ (a).toInt < (iv 12 1).toInt) ∧ (0 ≤ (b).toInt ∧ (b).toInt ≤ 2) ∧ ∃ pt : Int32, FoY (iv 12 23).toInt (fa 12 24) (fa 12 25) (fa 12 26) (fa 12 27) (fa 12 28) 2 (iv 12 0).toInt pt.toInt ∧ ((-100001) : Int32).toInt = (oN (odY (fa 12 4) (fa 12 5) (fa 12 11) (fa 12 12) (fa 12 7) (fa 12 8) (a).toInt (iv 12 0).toInt (b).toInt ((iv 12 3).toInt).toNat pt)).toInt)) from Or.inl ⟨by omega, by omega⟩), trivial, rfl⟩, by rw [ht9]; exact hP9, hD9⟩, hS.F ht9⟩) hS.2.2 dX12_odd_10
  · skip
    have i_12_1 : 0 ≤ (iv 12 1).toInt ∧ (iv 12 1).toInt ≤ 10 := hI.1 12 1
    have fr1 : (0 ≤ (a : Int32).toInt ∧ (a : Int32).toInt < ((iv 12 1) : Int32).toInt) := Decidable.not_not.mp fr1
    refine lv_if_eq (tgt := 11) hx hb dX12_odd_5 (by decide) (fun c3 => ?_) (fun c3 => ?_)
    · skip
      refine lv_iload_n hx hb dX12_odd_11 rfl (lv_at hl 2 rfl) ?_
      refine lv_i2l (v := (b.toInt64)) hx hb dX12_odd_12 rfl ?_
      refine lv_lconst (v := 0) hx hb dX12_odd_13 (by decide) ?_
      refine lv_ldc2 hx hb hown (ht _ m_1390) dX12_odd_14 ?_
      refine vp_callSi (W.runS (As := [.long (b.toInt64), .long 0, .long 2]) (rest := []) ⟨hx, hb, hml, hown, ht⟩ (c_X12_in l dC dI (b.toInt64) 0 2 (b.toInt) (0) (2) ((Int32.toInt_toInt64 b).trans rfl) (by decide : (0 : Int64).toInt = 0) (by decide : (2 : Int64).toInt = 2)) (kS 3 ht m_1370 m_1371 m_89 m_1372 rfl rfl hd_X12_in_v ⟨Nat.le_of_ble_eq_true rfl, Nat.le_of_ble_eq_true rfl⟩) (sR noP (hK.sub (tys' := []) [] rfl)) rfl rfl hl.1 rfl (lv_room (Nat.le_of_ble_eq_true rfl)) dX12_odd_17 ⟨Nat.le_of_ble_eq_true rfl, Nat.le_of_ble_eq_true rfl⟩) (fun r4 hr4 => ?_)
      rcases hr4 with ⟨rfl, fr4⟩ | ⟨rfl, fr4⟩
      · skip
        refine lv_if_ne (tgt := 26) hx hb dX12_odd_20 (by decide) (fun c5 => ?_) (fun c5 => ?_)
        · skip
          refine lv_aload_n hx hb dX12_odd_26 rfl (lv_at hl 0 rfl) ?_
          refine lv_iconst (v := 2) hx hb dX12_odd_27 (by decide) ?_
          refine lv_aload_n hx hb dX12_odd_28 rfl (lv_at hl 0 rfl) ?_
          have i_12_0 : 0 ≤ (iv 12 0).toInt ∧ (iv 12 0).toInt ≤ 3000 := hI.1 12 0
          refine gM_12_0 hx hb ht hown hK hP m_1139 (v := (iv 12 0)) rfl dX12_odd_29 ?_
          have hFc := free_all hD hS hA
          refine va_calli (va_runV (As := [.int 2, .int (iv 12 0)]) (rest := []) ⟨hx, hb, hml, hown, ht⟩ (c_X12_forceOf_f l dC dI s.heap.size h g ca iv lv fa la hI 2 (iv 12 0) ⟨by decide, by decide⟩ hJC hJK) (kV 2 ht m_1509 m_1511 m_55 m_89 m_1512 rfl rfl hd_X12_forceOf_v ⟨Nat.le_of_ble_eq_true rfl, Nat.le_of_ble_eq_true rfl⟩) (vW hP hK hD (rM_12 hK hP)) rfl rfl hl.1 rfl (lv_room (Nat.le_of_ble_eq_true rfl)) dX12_odd_32 ⟨Nat.le_of_ble_eq_true rfl, Nat.le_of_ble_eq_true rfl⟩) hS (fun q _ h => hFc q h) hFc (fun r6 u t H1 locs ht9 hvm hr6 hB hz1 hk1 hS => ?_)
          obtain ⟨n7, n8, n9, hn7, hn8, hn9, xr6_0, hr6, rfl⟩ := hr6
          have hn9 : 0 ≤ n9.toInt ∧ n9.toInt ≤ 8 := hn9
          obtain ⟨hP, hD⟩ := hB
          rw [ht9] at hP
          generalize H1 = H at hP hS ⊢
          have hP : va_P (dC, dI) classes (WM h g ca (u2 iv 12 41 n9) lv (u2 (u2 fa 12 39 n7) 12 40 n8) la) H := hP
          have hD : va_D A (WM h g ca (u2 iv 12 41 n9) lv (u2 (u2 fa 12 39 n7) 12 40 n8) la) := (show va_D _ (WM h g ca (u2 iv 12 41 n9) lv (u2 (u2 fa 12 39 n7) 12 40 n8) la) from hD).weaken (fun _ _ _ h => hFc _ h)
          have i_12_23 : 0 ≤ (iv 12 23).toInt ∧ (iv 12 23).toInt ≤ 8 := hI.1 12 23
          have : (2 : Int32).toInt = 2 := (by decide)
          have xr6_0 : FoY ((iv 12 23) : Int32).toInt (fa 12 24) (fa 12 25) (fa 12 26) (fa 12 27) (fa 12 28) (2 : Int32).toInt ((iv 12 0) : Int32).toInt (r6 : Int32).toInt := xr6_0
          refine lv_istore_n (lv' := [(3, .int r6), (0, .ref h), (1, .int a), (2, .int b)]) hx hb dX12_odd_35 rfl hl (by decide) rfl (fun ls hl => ?_)
          refine lv_iconst (v := 0) hx hb dX12_odd_36 (by decide) ?_
          refine lv_istore (lv' := [(4, .int 0), (3, .int r6), (0, .ref h), (1, .int a), (2, .int b)]) hx hb dX12_odd_37 hl (by decide) rfl (fun ls hl => ?_)
          refine lv_iconst (v := 0) hx hb dX12_odd_39 (by decide) ?_
          refine lv_istore (lv' := [(5, .int 0), (4, .int 0), (3, .int r6), (0, .ref h), (1, .int a), (2, .int b)]) hx hb dX12_odd_40 hl (by decide) rfl (fun ls hl => ?_)
          have i_12_3 : 0 ≤ (iv 12 3).toInt ∧ (iv 12 3).toInt ≤ 60 := hI.1 12 3
          have lp16827 : ∀ (nn16827 : Nat) (x16826_5 : Int32) (x16826_4 : Int32), 0 ≤ x16826_5.toInt ∧ x16826_5.toInt ≤ 60 → ((x16826_4 : Int32) = oN (ns (fun t => ns (prY (cyP (fa 12 4) (fa 12 5) (fa 12 11) (fa 12 12) a.toInt (iv 12 0).toInt b.toInt) (dY (fa 12 7) (fa 12 8) (r6 : Int32)) t) t) ((x16826_5 : Int32).toInt).toNat)) → (x16826_5 : Int32).toInt ≤ ((iv 12 3) : Int32).toInt → 60 - x16826_5.toInt < (nn16827 : Int) → ∀ (H : Heap) (locs : List Loc), ∀ (ls : Array Slot), va_P (dC, dI) classes (WM h g ca (u2 iv 12 41 n9) lv (u2 (u2 fa 12 39 n7) 12 40 n8) la) H → va_D A (WM h g ca (u2 iv 12 41 n9) lv (u2 (u2 fa 12 39 n7) 12 40 n8) la) → va_S A s.heap H locs → lv_has ls 8 [(5, .int x16826_5), (4, .int x16826_4), (3, .int r6), (0, .ref h), (1, .int a), (2, .int b)] → W p l e ({ frames := 2, cells := 0, slots := 0, locals := 49 } : Room) s m ([.ref h, .int a, .int b] : List Value).toArray below meth c H locs 0 0 (MQ below (va_Qi (fun r (u : SS) => ∃ (na_12_39 : Nat → Int32) (na_12_40 : Nat → Int32) (ni_12_41 : Int32), (∀ j, inb (bA 12 39 j) (na_12_39 j)) ∧ (∀ j, inb (bA 12 40 j) (na_12_40 j)) ∧ inb (bI 12 41) ni_12_41 ∧ (((r.toInt = -100001 ∧ ¬ (0 ≤ a.toInt ∧ a.toInt < (iv 12 1).toInt)) ∨ (r.toInt = -100002 ∧ (0 ≤ a.toInt ∧ a.toInt < (iv 12 1).toInt) ∧ ¬ (0 ≤ b.toInt ∧ b.toInt ≤ 2)) ∨ ((0 ≤ a.toInt ∧ a.toInt < (iv 12 1).toInt) ∧ (0 ≤ b.toInt ∧ b.toInt ≤ 2) ∧ ∃ pt : Int32, FoY (iv 12 23).toInt (fa 12 24) (fa 12 25) (fa 12 26) (fa 12 27) (fa 12 28) 2 (iv 12 0).toInt pt.toInt ∧ r.toInt = (oN (odY (fa 12 4) (fa 12 5) (fa 12 11) (fa 12 12) (fa 12 7) (fa 12 8) a.toInt (iv 12 0).toInt b.toInt ((iv 12 3).toInt).toNat pt)).toInt))) ∧ (True) ∧ u = ((u2 iv 12 41 ni_12_41), lv, (u2 (u2 fa 12 39 na_12_39) 12 40 na_12_40), la)) (bM (dC, dI) h g ca A) A) ([.ref h, .int a, .int b] : List Value).toArray s 0 0 A) (F0 m 42 ls []) := by
            intro nn16827
            induction nn16827 with
            | zero => intro x16826_5 x16826_4 hx16826_5 hq16827_0 hq16827_1 hm16827; exfalso; omega
            | succ nn16827 ih16827 =>
              intro x16826_5 x16826_4 hx16826_5 hq16827_0 hq16827_1 hm16827 H locs ls hP hD hS hl
              refine lv_iload hx hb dX12_odd_42 (lv_at hl 0 rfl) ?_
              refine lv_aload_n hx hb dX12_odd_44 rfl (lv_at hl 3 rfl) ?_
              refine gM_12_3 hx hb ht hown hK hP m_1142 (v := (iv 12 3)) rfl dX12_odd_45 ?_
              refine lv_icmp_ge (tgt := 207) hx hb dX12_odd_48 (by decide) (fun c16828 => ?_) (fun c16828 => ?_)
              · have fc16828 := z_le (rfl : ((iv 12 3)).toInt = _) (rfl : (x16826_5).toInt = _) c16828
                refine lv_iload hx hb dX12_odd_207 (lv_at hl 1 rfl) ?_
                have hP9 : va_P (dC, dI) classes (WM h g ca (u2 iv 12 41 n9) lv (u2 (u2 fa 12 39 n7) 12 40 n8) la) H := hP
                have hD9 : va_D A (WM h g ca (u2 iv 12 41 n9) lv (u2 (u2 fa 12 39 n7) 12 40 n8) la) := hD
                exact W.iret (v := x16826_4) hx hb hr (fun t ht9 hW => ⟨⟨x16826_4, ((u2 iv 12 41 n9), lv, (u2 (u2 fa 12 39 n7) 12 40 n8), la), rfl, ⟨n7, n8, n9, hn7, hn8, (show inb (0, 8) n9 from ⟨by omega, by omega⟩), (show (((x16826_4 : Int32).toInt = -100001 ∧ ¬ (0 ≤ (a).toInt ∧ (a).toInt < (iv 12 1).toInt)) ∨ ((x16826_4 : Int32).toInt = -100002 ∧ (0 ≤ (a).toInt ∧ (a).toInt < (iv 12 1).toInt) ∧ ¬ (0 ≤ (b).toInt ∧ (b).toInt ≤ 2)) ∨ ((0 ≤ (a).toInt ∧ (a).toInt < (iv 12 1).toInt) ∧ (0 ≤ (b).toInt ∧ (b).toInt ≤ 2) ∧ ∃ pt : Int32, FoY (iv 12 23).toInt (fa 12 24) (fa 12 25) (fa 12 26) (fa 12 27) (fa 12 28) 2 (iv 12 0).toInt pt.toInt ∧ (x16826_4 : Int32).toInt = (oN (odY (fa 12 4) (fa 12 5) (fa 12 11) (fa 12 12) (fa 12 7) (fa 12 8) (a).toInt (iv 12 0).toInt (b).toInt ((iv 12 3).toInt).toNat pt)).toInt)) from (by
                      have hq9 := hq16827_0
                      rw [show ((x16826_5 : Int32).toInt).toNat = ((iv 12 3).toInt).toNat from by omega] at hq9
                      exact Or.inr (Or.inr ⟨⟨by omega, by omega⟩, ⟨by omega, by omega⟩, r6, xr6_0, congrArg Int32.toInt hq9⟩))), trivial, rfl⟩, by rw [ht9]; exact hP9, hD9⟩, hS.F ht9⟩) hS.2.2 dX12_odd_209
              · have fc16828 := z_nle (rfl : ((iv 12 3)).toInt = _) (rfl : (x16826_5).toInt = _) c16828
                refine lv_iconst (v := 0) hx hb dX12_odd_51 (by decide) ?_
                refine lv_istore (lv' := [(6, .int 0), (5, .int x16826_5), (4, .int x16826_4), (3, .int r6), (0, .ref h), (1, .int a), (2, .int b)]) hx hb dX12_odd_52 hl (by decide) rfl (fun ls hl => ?_)
                have lp17922 : ∀ (nn17922 : Nat) (x17921_6 : Int32) (x17921_4 : Int32), 0 ≤ x17921_6.toInt ∧ x17921_6.toInt ≤ 59 → ((x17921_4 : Int32) = oN (ns (fun t => ns (prY (cyP (fa 12 4) (fa 12 5) (fa 12 11) (fa 12 12) a.toInt (iv 12 0).toInt b.toInt) (dY (fa 12 7) (fa 12 8) (r6 : Int32)) t) t) ((x16826_5 : Int32).toInt).toNat + ns (prY (cyP (fa 12 4) (fa 12 5) (fa 12 11) (fa 12 12) a.toInt (iv 12 0).toInt b.toInt) (dY (fa 12 7) (fa 12 8) (r6 : Int32)) ((x16826_5 : Int32).toInt).toNat) ((x17921_6 : Int32).toInt).toNat)) → (x17921_6 : Int32).toInt ≤ (x16826_5 : Int32).toInt → 59 - x17921_6.toInt < (nn17922 : Int) → ∀ (H : Heap) (locs : List Loc), ∀ (ls : Array Slot), va_P (dC, dI) classes (WM h g ca (u2 iv 12 41 n9) lv (u2 (u2 fa 12 39 n7) 12 40 n8) la) H → va_D A (WM h g ca (u2 iv 12 41 n9) lv (u2 (u2 fa 12 39 n7) 12 40 n8) la) → va_S A s.heap H locs → lv_has ls 8 [(6, .int x17921_6), (5, .int x16826_5), (4, .int x17921_4), (3, .int r6), (0, .ref h), (1, .int a), (2, .int b)] → W p l e ({ frames := 2, cells := 0, slots := 0, locals := 49 } : Room) s m ([.ref h, .int a, .int b] : List Value).toArray below meth c H locs 0 0 (MQ below (va_Qi (fun r (u : SS) => ∃ (na_12_39 : Nat → Int32) (na_12_40 : Nat → Int32) (ni_12_41 : Int32), (∀ j, inb (bA 12 39 j) (na_12_39 j)) ∧ (∀ j, inb (bA 12 40 j) (na_12_40 j)) ∧ inb (bI 12 41) ni_12_41 ∧ (((r.toInt = -100001 ∧ ¬ (0 ≤ a.toInt ∧ a.toInt < (iv 12 1).toInt)) ∨ (r.toInt = -100002 ∧ (0 ≤ a.toInt ∧ a.toInt < (iv 12 1).toInt) ∧ ¬ (0 ≤ b.toInt ∧ b.toInt ≤ 2)) ∨ ((0 ≤ a.toInt ∧ a.toInt < (iv 12 1).toInt) ∧ (0 ≤ b.toInt ∧ b.toInt ≤ 2) ∧ ∃ pt : Int32, FoY (iv 12 23).toInt (fa 12 24) (fa 12 25) (fa 12 26) (fa 12 27) (fa 12 28) 2 (iv 12 0).toInt pt.toInt ∧ r.toInt = (oN (odY (fa 12 4) (fa 12 5) (fa 12 11) (fa 12 12) (fa 12 7) (fa 12 8) a.toInt (iv 12 0).toInt b.toInt ((iv 12 3).toInt).toNat pt)).toInt))) ∧ (True) ∧ u = ((u2 iv 12 41 ni_12_41), lv, (u2 (u2 fa 12 39 na_12_39) 12 40 na_12_40), la)) (bM (dC, dI) h g ca A) A) ([.ref h, .int a, .int b] : List Value).toArray s 0 0 A) (F0 m 54 ls []) := by
                  intro nn17922
                  induction nn17922 with
                  | zero => intro x17921_6 x17921_4 hx17921_6 hq17922_0 hq17922_1 hm17922; exfalso; omega
                  | succ nn17922 ih17922 =>
                    intro x17921_6 x17921_4 hx17921_6 hq17922_0 hq17922_1 hm17922 H locs ls hP hD hS hl
                    refine lv_iload hx hb dX12_odd_54 (lv_at hl 0 rfl) ?_
                    refine lv_iload hx hb dX12_odd_56 (lv_at hl 1 rfl) ?_
                    refine lv_icmp_ge (tgt := 201) hx hb dX12_odd_58 (by decide) (fun c17923 => ?_) (fun c17923 => ?_)
                    · have fc17923 := z_le (rfl : (x16826_5).toInt = _) (rfl : (x17921_6).toInt = _) c17923
                      obtain ⟨v17924, ev17924⟩ : ∃ y : Int32, y = x16826_5 + 1 := ⟨_, rfl⟩
                      have tv17924 := z_add ev17924 rfl (by decide : (1 : Int32).toInt = 1) (by omega) (by omega)
                      refine lv_iinc (v := v17924) (lv' := [(5, .int v17924), (6, .int x17921_6), (4, .int x17921_4), (3, .int r6), (0, .ref h), (1, .int a), (2, .int b)]) hx hb dX12_odd_201 hl (k := 1) rfl (by rw [ev17924]; rfl) (by decide) rfl (fun ls hl => ?_)
                      refine lv_goto (tgt := 42) hx hb dX12_odd_204 (by decide) ?_
                      exact ih16827 v17924 x17921_4 ⟨by omega, by omega⟩ (show (x17921_4 : Int32) = oN (ns (fun t => ns (prY (cyP (fa 12 4) (fa 12 5) (fa 12 11) (fa 12 12) a.toInt (iv 12 0).toInt b.toInt) (dY (fa 12 7) (fa 12 8) (r6 : Int32)) t) t) ((v17924 : Int32).toInt).toNat) from (by
                            have hq9 := hq17922_0
                            rw [show ((x17921_6 : Int32).toInt).toNat = ((x16826_5 : Int32).toInt).toNat from by omega] at hq9
                            rw [ns_s (show ((v17924 : Int32).toInt).toNat = ((x16826_5 : Int32).toInt).toNat + 1 from by omega)]
                            exact hq9)) (show (v17924 : Int32).toInt ≤ ((iv 12 3) : Int32).toInt from by omega) (by omega) _ _ ls hP hD hS (lv_sub hl [0, 2, 3, 4, 5, 6] rfl)
                    · have fc17923 := z_nle (rfl : (x16826_5).toInt = _) (rfl : (x17921_6).toInt = _) c17923
                      refine lv_aload_n hx hb dX12_odd_61 rfl (lv_at hl 4 rfl) ?_
                      refine gM_12_4 hx hb ht hown hK hP m_1143 dX12_odd_62 ?_
                      refine lv_iload hx hb dX12_odd_65 (lv_at hl 1 rfl) ?_
                      refine lM_12_4 hx hb hK hP (f := (fa 12 4)) rfl (vp_in_iff.mpr ⟨by omega, by omega⟩) dX12_odd_67 ?_
                      refine lv_topi (fun v17925 ev17925 => ?_)
                      refine lv_iload_n hx hb dX12_odd_68 rfl (lv_at hl 5 rfl) ?_
                      refine lv_icmp_ne (tgt := 135) hx hb dX12_odd_69 (by decide) (fun c17926 => ?_) (fun c17926 => ?_)
                      · have fc17926 := z_ne (rfl : (v17925).toInt = _) (rfl : (a).toInt = _) c17926
                        refine lv_iconst (v := 0) hx hb dX12_odd_135 (by decide) ?_
                        refine lv_istore (lv' := [(7, .int 0), (6, .int x17921_6), (5, .int x16826_5), (4, .int x17921_4), (3, .int r6), (0, .ref h), (1, .int a), (2, .int b)]) hx hb dX12_odd_136 hl (by decide) rfl (fun ls hl => ?_)
                        refine lv_iload hx hb dX12_odd_138 (lv_at hl 3 rfl) ?_
                        refine lv_iload hx hb dX12_odd_140 (lv_at hl 0 rfl) ?_
                        refine lv_if_eq (tgt := 188) hx hb dX12_odd_142 (by decide) (fun c17927 => ?_) (fun c17927 => ?_)
                        · skip
                          refine lv_iconst (v := 0) hx hb dX12_odd_188 (by decide) ?_
                          refine vp_callSi (W.runS (As := [.int 0]) (rest := [.int x17921_4]) ⟨hx, hb, hml, hown, ht⟩ (c_X12_bit_0 l dC dI) (kS 1 ht m_1396 m_1397 m_89 m_1398 rfl rfl hd_X12_bit_v ⟨Nat.le_of_ble_eq_true rfl, Nat.le_of_ble_eq_true rfl⟩) (sR noP (hK.sub (tys' := []) [] rfl)) rfl rfl hl.1 rfl (lv_room (Nat.le_of_ble_eq_true rfl)) dX12_odd_189 ⟨Nat.le_of_ble_eq_true rfl, Nat.le_of_ble_eq_true rfl⟩) (fun r17928 hr17928 => ?_)
                          obtain rfl : 0 = r17928 := hr17928.symm
                          refine lv_iadd hx hb dX12_odd_192 ?_
                          refine lv_topi (fun v17929 ev17929 => ?_)
                          refine lv_istore (lv' := [(4, .int v17929), (7, .int 0), (6, .int x17921_6), (5, .int x16826_5), (3, .int r6), (0, .ref h), (1, .int a), (2, .int b)]) hx hb dX12_odd_193 hl (by decide) rfl (fun ls hl => ?_)
                          obtain ⟨v17930, ev17930⟩ : ∃ y : Int32, y = x17921_6 + 1 := ⟨_, rfl⟩
                          have tv17930 := z_add ev17930 rfl (by decide : (1 : Int32).toInt = 1) (by omega) (by omega)
                          refine lv_iinc (v := v17930) (lv' := [(6, .int v17930), (4, .int v17929), (7, .int 0), (5, .int x16826_5), (3, .int r6), (0, .ref h), (1, .int a), (2, .int b)]) hx hb dX12_odd_195 hl (k := 2) rfl (by rw [ev17930]; rfl) (by decide) rfl (fun ls hl => ?_)
                          refine lv_goto (tgt := 54) hx hb dX12_odd_198 (by decide) ?_
                          exact ih17922 v17930 v17929 ⟨by omega, by omega⟩ (show (v17929 : Int32) = oN (ns (fun t => ns (prY (cyP (fa 12 4) (fa 12 5) (fa 12 11) (fa 12 12) a.toInt (iv 12 0).toInt b.toInt) (dY (fa 12 7) (fa 12 8) (r6 : Int32)) t) t) ((x16826_5 : Int32).toInt).toNat + ns (prY (cyP (fa 12 4) (fa 12 5) (fa 12 11) (fa 12 12) a.toInt (iv 12 0).toInt b.toInt) (dY (fa 12 7) (fa 12 8) (r6 : Int32)) ((x16826_5 : Int32).toInt).toNat) ((v17930 : Int32).toInt).toNat) from (by
                                have hs9 : ((v17930 : Int32).toInt).toNat = ((x17921_6 : Int32).toInt).toNat + 1 := by omega
                                have z9_5_4 := (show v17925 = fa 12 4 ((x16826_5 : Int32).toInt).toNat from ev17925)
                                have w9_5_4 := congrArg Int32.toInt z9_5_4
                                have hn9 : ¬ (((fa 12 4 ((x16826_5 : Int32).toInt).toNat).toInt = a.toInt ∧ (fa 12 5 ((x16826_5 : Int32).toInt).toNat).toInt = b.toInt ∧ (fa 12 11 ((x16826_5 : Int32).toInt).toNat).toInt ≤ (iv 12 0).toInt ∧ ((fa 12 12 ((x16826_5 : Int32).toInt).toNat).toInt < 0 ∨ (iv 12 0).toInt < (fa 12 12 ((x16826_5 : Int32).toInt).toNat).toInt)) ∧ ((fa 12 4 ((x17921_6 : Int32).toInt).toNat).toInt = a.toInt ∧ (fa 12 5 ((x17921_6 : Int32).toInt).toNat).toInt = b.toInt ∧ (fa 12 11 ((x17921_6 : Int32).toInt).toNat).toInt ≤ (iv 12 0).toInt ∧ ((fa 12 12 ((x17921_6 : Int32).toInt).toNat).toInt < 0 ∨ (iv 12 0).toInt < (fa 12 12 ((x17921_6 : Int32).toInt).toNat).toInt))) := by rintro ⟨⟨p1, p2, p3, p4⟩, ⟨p5, p6, p7, p8⟩⟩; omega
                                rw [ns_o hs9 (b01_n (fun z => hn9 ⟨z.1, z.2.1⟩))]
                                exact oN_0 hq17922_0 ev17929)) (show (v17930 : Int32).toInt ≤ (x16826_5 : Int32).toInt from by omega) (by omega) _ _ ls hP hD hS (lv_sub hl [0, 3, 1, 4, 5, 6, 7] rfl)
                        · exact absurd rfl c17927
                      · have fc17926 := z_eq (rfl : (v17925).toInt = _) (rfl : (a).toInt = _) c17926
                        refine lv_aload_n hx hb dX12_odd_72 rfl (lv_at hl 4 rfl) ?_
                        refine gM_12_4 hx hb ht hown hK hP m_1143 dX12_odd_73 ?_
                        refine lv_iload hx hb dX12_odd_76 (lv_at hl 0 rfl) ?_
                        refine lM_12_4 hx hb hK hP (f := (fa 12 4)) rfl (vp_in_iff.mpr ⟨by omega, by omega⟩) dX12_odd_78 ?_
                        refine lv_topi (fun v17931 ev17931 => ?_)
                        refine lv_iload_n hx hb dX12_odd_79 rfl (lv_at hl 5 rfl) ?_
                        refine lv_icmp_ne (tgt := 135) hx hb dX12_odd_80 (by decide) (fun c17932 => ?_) (fun c17932 => ?_)
                        · have fc17932 := z_ne (rfl : (v17931).toInt = _) (rfl : (a).toInt = _) c17932
                          refine lv_iconst (v := 0) hx hb dX12_odd_135 (by decide) ?_
                          refine lv_istore (lv' := [(7, .int 0), (6, .int x17921_6), (5, .int x16826_5), (4, .int x17921_4), (3, .int r6), (0, .ref h), (1, .int a), (2, .int b)]) hx hb dX12_odd_136 hl (by decide) rfl (fun ls hl => ?_)
                          refine lv_iload hx hb dX12_odd_138 (lv_at hl 3 rfl) ?_
                          refine lv_iload hx hb dX12_odd_140 (lv_at hl 0 rfl) ?_
                          refine lv_if_eq (tgt := 188) hx hb dX12_odd_142 (by decide) (fun c17933 => ?_) (fun c17933 => ?_)
                          · skip
                            refine lv_iconst (v := 0) hx hb dX12_odd_188 (by decide) ?_
                            refine vp_callSi (W.runS (As := [.int 0]) (rest := [.int x17921_4]) ⟨hx, hb, hml, hown, ht⟩ (c_X12_bit_0 l dC dI) (kS 1 ht m_1396 m_1397 m_89 m_1398 rfl rfl hd_X12_bit_v ⟨Nat.le_of_ble_eq_true rfl, Nat.le_of_ble_eq_true rfl⟩) (sR noP (hK.sub (tys' := []) [] rfl)) rfl rfl hl.1 rfl (lv_room (Nat.le_of_ble_eq_true rfl)) dX12_odd_189 ⟨Nat.le_of_ble_eq_true rfl, Nat.le_of_ble_eq_true rfl⟩) (fun r17934 hr17934 => ?_)
                            obtain rfl : 0 = r17934 := hr17934.symm
                            refine lv_iadd hx hb dX12_odd_192 ?_
                            refine lv_topi (fun v17935 ev17935 => ?_)
                            refine lv_istore (lv' := [(4, .int v17935), (7, .int 0), (6, .int x17921_6), (5, .int x16826_5), (3, .int r6), (0, .ref h), (1, .int a), (2, .int b)]) hx hb dX12_odd_193 hl (by decide) rfl (fun ls hl => ?_)
                            obtain ⟨v17936, ev17936⟩ : ∃ y : Int32, y = x17921_6 + 1 := ⟨_, rfl⟩
                            have tv17936 := z_add ev17936 rfl (by decide : (1 : Int32).toInt = 1) (by omega) (by omega)
                            refine lv_iinc (v := v17936) (lv' := [(6, .int v17936), (4, .int v17935), (7, .int 0), (5, .int x16826_5), (3, .int r6), (0, .ref h), (1, .int a), (2, .int b)]) hx hb dX12_odd_195 hl (k := 2) rfl (by rw [ev17936]; rfl) (by decide) rfl (fun ls hl => ?_)
                            refine lv_goto (tgt := 54) hx hb dX12_odd_198 (by decide) ?_
                            exact ih17922 v17936 v17935 ⟨by omega, by omega⟩ (show (v17935 : Int32) = oN (ns (fun t => ns (prY (cyP (fa 12 4) (fa 12 5) (fa 12 11) (fa 12 12) a.toInt (iv 12 0).toInt b.toInt) (dY (fa 12 7) (fa 12 8) (r6 : Int32)) t) t) ((x16826_5 : Int32).toInt).toNat + ns (prY (cyP (fa 12 4) (fa 12 5) (fa 12 11) (fa 12 12) a.toInt (iv 12 0).toInt b.toInt) (dY (fa 12 7) (fa 12 8) (r6 : Int32)) ((x16826_5 : Int32).toInt).toNat) ((v17936 : Int32).toInt).toNat) from (by
                                  have hs9 : ((v17936 : Int32).toInt).toNat = ((x17921_6 : Int32).toInt).toNat + 1 := by omega
                                  have z9_5_4 := (show v17925 = fa 12 4 ((x16826_5 : Int32).toInt).toNat from ev17925)
                                  have w9_5_4 := congrArg Int32.toInt z9_5_4
                                  have z9_6_4 := (show v17931 = fa 12 4 ((x17921_6 : Int32).toInt).toNat from ev17931)
                                  have w9_6_4 := congrArg Int32.toInt z9_6_4
                                  have hn9 : ¬ (((fa 12 4 ((x16826_5 : Int32).toInt).toNat).toInt = a.toInt ∧ (fa 12 5 ((x16826_5 : Int32).toInt).toNat).toInt = b.toInt ∧ (fa 12 11 ((x16826_5 : Int32).toInt).toNat).toInt ≤ (iv 12 0).toInt ∧ ((fa 12 12 ((x16826_5 : Int32).toInt).toNat).toInt < 0 ∨ (iv 12 0).toInt < (fa 12 12 ((x16826_5 : Int32).toInt).toNat).toInt)) ∧ ((fa 12 4 ((x17921_6 : Int32).toInt).toNat).toInt = a.toInt ∧ (fa 12 5 ((x17921_6 : Int32).toInt).toNat).toInt = b.toInt ∧ (fa 12 11 ((x17921_6 : Int32).toInt).toNat).toInt ≤ (iv 12 0).toInt ∧ ((fa 12 12 ((x17921_6 : Int32).toInt).toNat).toInt < 0 ∨ (iv 12 0).toInt < (fa 12 12 ((x17921_6 : Int32).toInt).toNat).toInt))) := by rintro ⟨⟨p1, p2, p3, p4⟩, ⟨p5, p6, p7, p8⟩⟩; omega
                                  rw [ns_o hs9 (b01_n (fun z => hn9 ⟨z.1, z.2.1⟩))]
                                  exact oN_0 hq17922_0 ev17935)) (show (v17936 : Int32).toInt ≤ (x16826_5 : Int32).toInt from by omega) (by omega) _ _ ls hP hD hS (lv_sub hl [0, 3, 1, 4, 5, 6, 7] rfl)
                          · exact absurd rfl c17933
                        · have fc17932 := z_eq (rfl : (v17931).toInt = _) (rfl : (a).toInt = _) c17932
                          refine lv_aload_n hx hb dX12_odd_83 rfl (lv_at hl 4 rfl) ?_
                          refine gM_12_5 hx hb ht hown hK hP m_1144 dX12_odd_84 ?_
                          refine lv_iload hx hb dX12_odd_87 (lv_at hl 1 rfl) ?_
                          refine lM_12_5 hx hb hK hP (f := (fa 12 5)) rfl (vp_in_iff.mpr ⟨by omega, by omega⟩) dX12_odd_89 ?_
                          refine lv_topi (fun v17937 ev17937 => ?_)
                          refine lv_iload_n hx hb dX12_odd_90 rfl (lv_at hl 6 rfl) ?_
                          refine lv_icmp_ne (tgt := 135) hx hb dX12_odd_91 (by decide) (fun c17938 => ?_) (fun c17938 => ?_)
                          · have fc17938 := z_ne (rfl : (v17937).toInt = _) (rfl : (b).toInt = _) c17938
                            refine lv_iconst (v := 0) hx hb dX12_odd_135 (by decide) ?_
                            refine lv_istore (lv' := [(7, .int 0), (6, .int x17921_6), (5, .int x16826_5), (4, .int x17921_4), (3, .int r6), (0, .ref h), (1, .int a), (2, .int b)]) hx hb dX12_odd_136 hl (by decide) rfl (fun ls hl => ?_)
                            refine lv_iload hx hb dX12_odd_138 (lv_at hl 3 rfl) ?_
                            refine lv_iload hx hb dX12_odd_140 (lv_at hl 0 rfl) ?_
                            refine lv_if_eq (tgt := 188) hx hb dX12_odd_142 (by decide) (fun c17939 => ?_) (fun c17939 => ?_)
                            · skip
                              refine lv_iconst (v := 0) hx hb dX12_odd_188 (by decide) ?_
                              refine vp_callSi (W.runS (As := [.int 0]) (rest := [.int x17921_4]) ⟨hx, hb, hml, hown, ht⟩ (c_X12_bit_0 l dC dI) (kS 1 ht m_1396 m_1397 m_89 m_1398 rfl rfl hd_X12_bit_v ⟨Nat.le_of_ble_eq_true rfl, Nat.le_of_ble_eq_true rfl⟩) (sR noP (hK.sub (tys' := []) [] rfl)) rfl rfl hl.1 rfl (lv_room (Nat.le_of_ble_eq_true rfl)) dX12_odd_189 ⟨Nat.le_of_ble_eq_true rfl, Nat.le_of_ble_eq_true rfl⟩) (fun r17940 hr17940 => ?_)
                              obtain rfl : 0 = r17940 := hr17940.symm
                              refine lv_iadd hx hb dX12_odd_192 ?_
                              refine lv_topi (fun v17941 ev17941 => ?_)
                              refine lv_istore (lv' := [(4, .int v17941), (7, .int 0), (6, .int x17921_6), (5, .int x16826_5), (3, .int r6), (0, .ref h), (1, .int a), (2, .int b)]) hx hb dX12_odd_193 hl (by decide) rfl (fun ls hl => ?_)
                              obtain ⟨v17942, ev17942⟩ : ∃ y : Int32, y = x17921_6 + 1 := ⟨_, rfl⟩
                              have tv17942 := z_add ev17942 rfl (by decide : (1 : Int32).toInt = 1) (by omega) (by omega)
                              refine lv_iinc (v := v17942) (lv' := [(6, .int v17942), (4, .int v17941), (7, .int 0), (5, .int x16826_5), (3, .int r6), (0, .ref h), (1, .int a), (2, .int b)]) hx hb dX12_odd_195 hl (k := 2) rfl (by rw [ev17942]; rfl) (by decide) rfl (fun ls hl => ?_)
                              refine lv_goto (tgt := 54) hx hb dX12_odd_198 (by decide) ?_
                              exact ih17922 v17942 v17941 ⟨by omega, by omega⟩ (show (v17941 : Int32) = oN (ns (fun t => ns (prY (cyP (fa 12 4) (fa 12 5) (fa 12 11) (fa 12 12) a.toInt (iv 12 0).toInt b.toInt) (dY (fa 12 7) (fa 12 8) (r6 : Int32)) t) t) ((x16826_5 : Int32).toInt).toNat + ns (prY (cyP (fa 12 4) (fa 12 5) (fa 12 11) (fa 12 12) a.toInt (iv 12 0).toInt b.toInt) (dY (fa 12 7) (fa 12 8) (r6 : Int32)) ((x16826_5 : Int32).toInt).toNat) ((v17942 : Int32).toInt).toNat) from (by
                                    have hs9 : ((v17942 : Int32).toInt).toNat = ((x17921_6 : Int32).toInt).toNat + 1 := by omega
                                    have z9_5_4 := (show v17925 = fa 12 4 ((x16826_5 : Int32).toInt).toNat from ev17925)
                                    have w9_5_4 := congrArg Int32.toInt z9_5_4
                                    have z9_5_5 := (show v17937 = fa 12 5 ((x16826_5 : Int32).toInt).toNat from ev17937)
                                    have w9_5_5 := congrArg Int32.toInt z9_5_5
                                    have z9_6_4 := (show v17931 = fa 12 4 ((x17921_6 : Int32).toInt).toNat from ev17931)
                                    have w9_6_4 := congrArg Int32.toInt z9_6_4
                                    have hn9 : ¬ (((fa 12 4 ((x16826_5 : Int32).toInt).toNat).toInt = a.toInt ∧ (fa 12 5 ((x16826_5 : Int32).toInt).toNat).toInt = b.toInt ∧ (fa 12 11 ((x16826_5 : Int32).toInt).toNat).toInt ≤ (iv 12 0).toInt ∧ ((fa 12 12 ((x16826_5 : Int32).toInt).toNat).toInt < 0 ∨ (iv 12 0).toInt < (fa 12 12 ((x16826_5 : Int32).toInt).toNat).toInt)) ∧ ((fa 12 4 ((x17921_6 : Int32).toInt).toNat).toInt = a.toInt ∧ (fa 12 5 ((x17921_6 : Int32).toInt).toNat).toInt = b.toInt ∧ (fa 12 11 ((x17921_6 : Int32).toInt).toNat).toInt ≤ (iv 12 0).toInt ∧ ((fa 12 12 ((x17921_6 : Int32).toInt).toNat).toInt < 0 ∨ (iv 12 0).toInt < (fa 12 12 ((x17921_6 : Int32).toInt).toNat).toInt))) := by rintro ⟨⟨p1, p2, p3, p4⟩, ⟨p5, p6, p7, p8⟩⟩; omega
                                    rw [ns_o hs9 (b01_n (fun z => hn9 ⟨z.1, z.2.1⟩))]
                                    exact oN_0 hq17922_0 ev17941)) (show (v17942 : Int32).toInt ≤ (x16826_5 : Int32).toInt from by omega) (by omega) _ _ ls hP hD hS (lv_sub hl [0, 3, 1, 4, 5, 6, 7] rfl)
                            · exact absurd rfl c17939
                          · have fc17938 := z_eq (rfl : (v17937).toInt = _) (rfl : (b).toInt = _) c17938
                            refine lv_aload_n hx hb dX12_odd_94 rfl (lv_at hl 4 rfl) ?_
                            refine gM_12_5 hx hb ht hown hK hP m_1144 dX12_odd_95 ?_
                            refine lv_iload hx hb dX12_odd_98 (lv_at hl 0 rfl) ?_
                            refine lM_12_5 hx hb hK hP (f := (fa 12 5)) rfl (vp_in_iff.mpr ⟨by omega, by omega⟩) dX12_odd_100 ?_
                            refine lv_topi (fun v17943 ev17943 => ?_)
                            refine lv_iload_n hx hb dX12_odd_101 rfl (lv_at hl 6 rfl) ?_
                            refine lv_icmp_ne (tgt := 135) hx hb dX12_odd_102 (by decide) (fun c17944 => ?_) (fun c17944 => ?_)
                            · have fc17944 := z_ne (rfl : (v17943).toInt = _) (rfl : (b).toInt = _) c17944
                              refine lv_iconst (v := 0) hx hb dX12_odd_135 (by decide) ?_
                              refine lv_istore (lv' := [(7, .int 0), (6, .int x17921_6), (5, .int x16826_5), (4, .int x17921_4), (3, .int r6), (0, .ref h), (1, .int a), (2, .int b)]) hx hb dX12_odd_136 hl (by decide) rfl (fun ls hl => ?_)
                              refine lv_iload hx hb dX12_odd_138 (lv_at hl 3 rfl) ?_
                              refine lv_iload hx hb dX12_odd_140 (lv_at hl 0 rfl) ?_
                              refine lv_if_eq (tgt := 188) hx hb dX12_odd_142 (by decide) (fun c17945 => ?_) (fun c17945 => ?_)
                              · skip
                                refine lv_iconst (v := 0) hx hb dX12_odd_188 (by decide) ?_
                                refine vp_callSi (W.runS (As := [.int 0]) (rest := [.int x17921_4]) ⟨hx, hb, hml, hown, ht⟩ (c_X12_bit_0 l dC dI) (kS 1 ht m_1396 m_1397 m_89 m_1398 rfl rfl hd_X12_bit_v ⟨Nat.le_of_ble_eq_true rfl, Nat.le_of_ble_eq_true rfl⟩) (sR noP (hK.sub (tys' := []) [] rfl)) rfl rfl hl.1 rfl (lv_room (Nat.le_of_ble_eq_true rfl)) dX12_odd_189 ⟨Nat.le_of_ble_eq_true rfl, Nat.le_of_ble_eq_true rfl⟩) (fun r17946 hr17946 => ?_)
                                obtain rfl : 0 = r17946 := hr17946.symm
                                refine lv_iadd hx hb dX12_odd_192 ?_
                                refine lv_topi (fun v17947 ev17947 => ?_)
                                refine lv_istore (lv' := [(4, .int v17947), (7, .int 0), (6, .int x17921_6), (5, .int x16826_5), (3, .int r6), (0, .ref h), (1, .int a), (2, .int b)]) hx hb dX12_odd_193 hl (by decide) rfl (fun ls hl => ?_)
                                obtain ⟨v17948, ev17948⟩ : ∃ y : Int32, y = x17921_6 + 1 := ⟨_, rfl⟩
                                have tv17948 := z_add ev17948 rfl (by decide : (1 : Int32).toInt = 1) (by omega) (by omega)
                                refine lv_iinc (v := v17948) (lv' := [(6, .int v17948), (4, .int v17947), (7, .int 0), (5, .int x16826_5), (3, .int r6), (0, .ref h), (1, .int a), (2, .int b)]) hx hb dX12_odd_195 hl (k := 2) rfl (by rw [ev17948]; rfl) (by decide) rfl (fun ls hl => ?_)
                                refine lv_goto (tgt := 54) hx hb dX12_odd_198 (by decide) ?_
                                exact ih17922 v17948 v17947 ⟨by omega, by omega⟩ (show (v17947 : Int32) = oN (ns (fun t => ns (prY (cyP (fa 12 4) (fa 12 5) (fa 12 11) (fa 12 12) a.toInt (iv 12 0).toInt b.toInt) (dY (fa 12 7) (fa 12 8) (r6 : Int32)) t) t) ((x16826_5 : Int32).toInt).toNat + ns (prY (cyP (fa 12 4) (fa 12 5) (fa 12 11) (fa 12 12) a.toInt (iv 12 0).toInt b.toInt) (dY (fa 12 7) (fa 12 8) (r6 : Int32)) ((x16826_5 : Int32).toInt).toNat) ((v17948 : Int32).toInt).toNat) from (by
                                      have hs9 : ((v17948 : Int32).toInt).toNat = ((x17921_6 : Int32).toInt).toNat + 1 := by omega
                                      have z9_5_4 := (show v17925 = fa 12 4 ((x16826_5 : Int32).toInt).toNat from ev17925)
                                      have w9_5_4 := congrArg Int32.toInt z9_5_4
                                      have z9_5_5 := (show v17937 = fa 12 5 ((x16826_5 : Int32).toInt).toNat from ev17937)
                                      have w9_5_5 := congrArg Int32.toInt z9_5_5
                                      have z9_6_4 := (show v17931 = fa 12 4 ((x17921_6 : Int32).toInt).toNat from ev17931)
                                      have w9_6_4 := congrArg Int32.toInt z9_6_4
                                      have z9_6_5 := (show v17943 = fa 12 5 ((x17921_6 : Int32).toInt).toNat from ev17943)
                                      have w9_6_5 := congrArg Int32.toInt z9_6_5
                                      have hn9 : ¬ (((fa 12 4 ((x16826_5 : Int32).toInt).toNat).toInt = a.toInt ∧ (fa 12 5 ((x16826_5 : Int32).toInt).toNat).toInt = b.toInt ∧ (fa 12 11 ((x16826_5 : Int32).toInt).toNat).toInt ≤ (iv 12 0).toInt ∧ ((fa 12 12 ((x16826_5 : Int32).toInt).toNat).toInt < 0 ∨ (iv 12 0).toInt < (fa 12 12 ((x16826_5 : Int32).toInt).toNat).toInt)) ∧ ((fa 12 4 ((x17921_6 : Int32).toInt).toNat).toInt = a.toInt ∧ (fa 12 5 ((x17921_6 : Int32).toInt).toNat).toInt = b.toInt ∧ (fa 12 11 ((x17921_6 : Int32).toInt).toNat).toInt ≤ (iv 12 0).toInt ∧ ((fa 12 12 ((x17921_6 : Int32).toInt).toNat).toInt < 0 ∨ (iv 12 0).toInt < (fa 12 12 ((x17921_6 : Int32).toInt).toNat).toInt))) := by rintro ⟨⟨p1, p2, p3, p4⟩, ⟨p5, p6, p7, p8⟩⟩; omega
                                      rw [ns_o hs9 (b01_n (fun z => hn9 ⟨z.1, z.2.1⟩))]
                                      exact oN_0 hq17922_0 ev17947)) (show (v17948 : Int32).toInt ≤ (x16826_5 : Int32).toInt from by omega) (by omega) _ _ ls hP hD hS (lv_sub hl [0, 3, 1, 4, 5, 6, 7] rfl)
                              · exact absurd rfl c17945
                            · have fc17944 := z_eq (rfl : (v17943).toInt = _) (rfl : (b).toInt = _) c17944
                              refine lv_aload_n hx hb dX12_odd_105 rfl (lv_at hl 4 rfl) ?_
                              refine lv_iload hx hb dX12_odd_106 (lv_at hl 1 rfl) ?_
                              refine lv_aload_n hx hb dX12_odd_108 rfl (lv_at hl 4 rfl) ?_
                              refine gM_12_0 hx hb ht hown hK hP m_1139 (v := (iv 12 0)) rfl dX12_odd_109 ?_
                              refine vp_callSi (W.runV (As := [.int x16826_5, .int (iv 12 0)]) (rest := []) ⟨hx, hb, hml, hown, ht⟩ (c_X12_isThere_x l dC dI h g ca (u2 iv 12 41 n9) lv (u2 (u2 fa 12 39 n7) 12 40 n8) la (IX_a (c := 12) (k := 40) (IX_a (c := 12) (k := 39) (IX_i (c := 12) (k := 41) hI (show inb (0, 8) n9 from ⟨by omega, by omega⟩)) hn7) hn8) x16826_5 (iv 12 0) ⟨by omega, by omega⟩) (kV 2 ht m_1438 m_1440 m_46 m_89 m_1441 rfl rfl hd_X12_isThere_v ⟨Nat.le_of_ble_eq_true rfl, Nat.le_of_ble_eq_true rfl⟩) (vR hP hK (rM_12 hK hP)) rfl rfl hl.1 rfl (lv_room (Nat.le_of_ble_eq_true rfl)) dX12_odd_112 ⟨Nat.le_of_ble_eq_true rfl, Nat.le_of_ble_eq_true rfl⟩) (fun r17949 hr17949 => ?_)
                              obtain ⟨hr17949, xr17949_0⟩ := hr17949
                              have xr17949_0 : (((r17949 : Int32).toInt = 1 ∧ ((fa 12 11) (x16826_5 : Int32).toNatClampNeg).toInt ≤ ((iv 12 0) : Int32).toInt ∧ (((fa 12 12) (x16826_5 : Int32).toNatClampNeg).toInt < 0 ∨ ((iv 12 0) : Int32).toInt < ((fa 12 12) (x16826_5 : Int32).toNatClampNeg).toInt)) ∨ ((r17949 : Int32).toInt = 0 ∧ ¬ (((fa 12 11) (x16826_5 : Int32).toNatClampNeg).toInt ≤ ((iv 12 0) : Int32).toInt ∧ (((fa 12 12) (x16826_5 : Int32).toNatClampNeg).toInt < 0 ∨ ((iv 12 0) : Int32).toInt < ((fa 12 12) (x16826_5 : Int32).toNatClampNeg).toInt)))) := xr17949_0
                              refine lv_if_eq (tgt := 135) hx hb dX12_odd_115 (by decide) (fun c17950 => ?_) (fun c17950 => ?_)
                              · have fc17950 := z_eq (rfl : (r17949).toInt = _) (by decide : (0 : Int32).toInt = 0) c17950
                                refine lv_iconst (v := 0) hx hb dX12_odd_135 (by decide) ?_
                                refine lv_istore (lv' := [(7, .int 0), (6, .int x17921_6), (5, .int x16826_5), (4, .int x17921_4), (3, .int r6), (0, .ref h), (1, .int a), (2, .int b)]) hx hb dX12_odd_136 hl (by decide) rfl (fun ls hl => ?_)
                                refine lv_iload hx hb dX12_odd_138 (lv_at hl 3 rfl) ?_
                                refine lv_iload hx hb dX12_odd_140 (lv_at hl 0 rfl) ?_
                                refine lv_if_eq (tgt := 188) hx hb dX12_odd_142 (by decide) (fun c17951 => ?_) (fun c17951 => ?_)
                                · skip
                                  refine lv_iconst (v := 0) hx hb dX12_odd_188 (by decide) ?_
                                  refine vp_callSi (W.runS (As := [.int 0]) (rest := [.int x17921_4]) ⟨hx, hb, hml, hown, ht⟩ (c_X12_bit_0 l dC dI) (kS 1 ht m_1396 m_1397 m_89 m_1398 rfl rfl hd_X12_bit_v ⟨Nat.le_of_ble_eq_true rfl, Nat.le_of_ble_eq_true rfl⟩) (sR noP (hK.sub (tys' := []) [] rfl)) rfl rfl hl.1 rfl (lv_room (Nat.le_of_ble_eq_true rfl)) dX12_odd_189 ⟨Nat.le_of_ble_eq_true rfl, Nat.le_of_ble_eq_true rfl⟩) (fun r17952 hr17952 => ?_)
                                  obtain rfl : 0 = r17952 := hr17952.symm
                                  refine lv_iadd hx hb dX12_odd_192 ?_
                                  refine lv_topi (fun v17953 ev17953 => ?_)
                                  refine lv_istore (lv' := [(4, .int v17953), (7, .int 0), (6, .int x17921_6), (5, .int x16826_5), (3, .int r6), (0, .ref h), (1, .int a), (2, .int b)]) hx hb dX12_odd_193 hl (by decide) rfl (fun ls hl => ?_)
                                  obtain ⟨v17954, ev17954⟩ : ∃ y : Int32, y = x17921_6 + 1 := ⟨_, rfl⟩
                                  have tv17954 := z_add ev17954 rfl (by decide : (1 : Int32).toInt = 1) (by omega) (by omega)
                                  refine lv_iinc (v := v17954) (lv' := [(6, .int v17954), (4, .int v17953), (7, .int 0), (5, .int x16826_5), (3, .int r6), (0, .ref h), (1, .int a), (2, .int b)]) hx hb dX12_odd_195 hl (k := 2) rfl (by rw [ev17954]; rfl) (by decide) rfl (fun ls hl => ?_)
                                  refine lv_goto (tgt := 54) hx hb dX12_odd_198 (by decide) ?_
                                  exact ih17922 v17954 v17953 ⟨by omega, by omega⟩ (show (v17953 : Int32) = oN (ns (fun t => ns (prY (cyP (fa 12 4) (fa 12 5) (fa 12 11) (fa 12 12) a.toInt (iv 12 0).toInt b.toInt) (dY (fa 12 7) (fa 12 8) (r6 : Int32)) t) t) ((x16826_5 : Int32).toInt).toNat + ns (prY (cyP (fa 12 4) (fa 12 5) (fa 12 11) (fa 12 12) a.toInt (iv 12 0).toInt b.toInt) (dY (fa 12 7) (fa 12 8) (r6 : Int32)) ((x16826_5 : Int32).toInt).toNat) ((v17954 : Int32).toInt).toNat) from (by
                                        have hs9 : ((v17954 : Int32).toInt).toNat = ((x17921_6 : Int32).toInt).toNat + 1 := by omega
                                        have z9_5_4 := (show v17925 = fa 12 4 ((x16826_5 : Int32).toInt).toNat from ev17925)
                                        have w9_5_4 := congrArg Int32.toInt z9_5_4
                                        have z9_5_5 := (show v17937 = fa 12 5 ((x16826_5 : Int32).toInt).toNat from ev17937)
                                        have w9_5_5 := congrArg Int32.toInt z9_5_5
                                        have z9_6_4 := (show v17931 = fa 12 4 ((x17921_6 : Int32).toInt).toNat from ev17931)
                                        have w9_6_4 := congrArg Int32.toInt z9_6_4
                                        have z9_6_5 := (show v17943 = fa 12 5 ((x17921_6 : Int32).toInt).toNat from ev17943)
                                        have w9_6_5 := congrArg Int32.toInt z9_6_5
                                        have y9_0 : ((r17949 : Int32).toInt = 1 ∧ (fa 12 11 ((x16826_5 : Int32).toInt).toNat).toInt ≤ ((iv 12 0) : Int32).toInt ∧ ((fa 12 12 ((x16826_5 : Int32).toInt).toNat).toInt < 0 ∨ ((iv 12 0) : Int32).toInt < (fa 12 12 ((x16826_5 : Int32).toInt).toNat).toInt)) ∨ ((r17949 : Int32).toInt = 0 ∧ ¬ ((fa 12 11 ((x16826_5 : Int32).toInt).toNat).toInt ≤ ((iv 12 0) : Int32).toInt ∧ ((fa 12 12 ((x16826_5 : Int32).toInt).toNat).toInt < 0 ∨ ((iv 12 0) : Int32).toInt < (fa 12 12 ((x16826_5 : Int32).toInt).toNat).toInt))) := xr17949_0
                                        have hn9 : ¬ (((fa 12 4 ((x16826_5 : Int32).toInt).toNat).toInt = a.toInt ∧ (fa 12 5 ((x16826_5 : Int32).toInt).toNat).toInt = b.toInt ∧ (fa 12 11 ((x16826_5 : Int32).toInt).toNat).toInt ≤ (iv 12 0).toInt ∧ ((fa 12 12 ((x16826_5 : Int32).toInt).toNat).toInt < 0 ∨ (iv 12 0).toInt < (fa 12 12 ((x16826_5 : Int32).toInt).toNat).toInt)) ∧ ((fa 12 4 ((x17921_6 : Int32).toInt).toNat).toInt = a.toInt ∧ (fa 12 5 ((x17921_6 : Int32).toInt).toNat).toInt = b.toInt ∧ (fa 12 11 ((x17921_6 : Int32).toInt).toNat).toInt ≤ (iv 12 0).toInt ∧ ((fa 12 12 ((x17921_6 : Int32).toInt).toNat).toInt < 0 ∨ (iv 12 0).toInt < (fa 12 12 ((x17921_6 : Int32).toInt).toNat).toInt))) := by rintro ⟨⟨p1, p2, p3, p4⟩, ⟨p5, p6, p7, p8⟩⟩; omega
                                        rw [ns_o hs9 (b01_n (fun z => hn9 ⟨z.1, z.2.1⟩))]
                                        exact oN_0 hq17922_0 ev17953)) (show (v17954 : Int32).toInt ≤ (x16826_5 : Int32).toInt from by omega) (by omega) _ _ ls hP hD hS (lv_sub hl [0, 3, 1, 4, 5, 6, 7] rfl)
                                · exact absurd rfl c17951
                              · have fc17950 := z_ne (rfl : (r17949).toInt = _) (by decide : (0 : Int32).toInt = 0) c17950
                                refine lv_aload_n hx hb dX12_odd_118 rfl (lv_at hl 4 rfl) ?_
                                refine lv_iload hx hb dX12_odd_119 (lv_at hl 0 rfl) ?_
                                refine lv_aload_n hx hb dX12_odd_121 rfl (lv_at hl 4 rfl) ?_
                                refine gM_12_0 hx hb ht hown hK hP m_1139 (v := (iv 12 0)) rfl dX12_odd_122 ?_
                                refine vp_callSi (W.runV (As := [.int x17921_6, .int (iv 12 0)]) (rest := []) ⟨hx, hb, hml, hown, ht⟩ (c_X12_isThere_x l dC dI h g ca (u2 iv 12 41 n9) lv (u2 (u2 fa 12 39 n7) 12 40 n8) la (IX_a (c := 12) (k := 40) (IX_a (c := 12) (k := 39) (IX_i (c := 12) (k := 41) hI (show inb (0, 8) n9 from ⟨by omega, by omega⟩)) hn7) hn8) x17921_6 (iv 12 0) ⟨by omega, by omega⟩) (kV 2 ht m_1438 m_1440 m_46 m_89 m_1441 rfl rfl hd_X12_isThere_v ⟨Nat.le_of_ble_eq_true rfl, Nat.le_of_ble_eq_true rfl⟩) (vR hP hK (rM_12 hK hP)) rfl rfl hl.1 rfl (lv_room (Nat.le_of_ble_eq_true rfl)) dX12_odd_125 ⟨Nat.le_of_ble_eq_true rfl, Nat.le_of_ble_eq_true rfl⟩) (fun r17955 hr17955 => ?_)
                                obtain ⟨hr17955, xr17955_0⟩ := hr17955
                                have xr17955_0 : (((r17955 : Int32).toInt = 1 ∧ ((fa 12 11) (x17921_6 : Int32).toNatClampNeg).toInt ≤ ((iv 12 0) : Int32).toInt ∧ (((fa 12 12) (x17921_6 : Int32).toNatClampNeg).toInt < 0 ∨ ((iv 12 0) : Int32).toInt < ((fa 12 12) (x17921_6 : Int32).toNatClampNeg).toInt)) ∨ ((r17955 : Int32).toInt = 0 ∧ ¬ (((fa 12 11) (x17921_6 : Int32).toNatClampNeg).toInt ≤ ((iv 12 0) : Int32).toInt ∧ (((fa 12 12) (x17921_6 : Int32).toNatClampNeg).toInt < 0 ∨ ((iv 12 0) : Int32).toInt < ((fa 12 12) (x17921_6 : Int32).toNatClampNeg).toInt)))) := xr17955_0
                                refine lv_if_eq (tgt := 135) hx hb dX12_odd_128 (by decide) (fun c17956 => ?_) (fun c17956 => ?_)
                                · have fc17956 := z_eq (rfl : (r17955).toInt = _) (by decide : (0 : Int32).toInt = 0) c17956
                                  refine lv_iconst (v := 0) hx hb dX12_odd_135 (by decide) ?_
                                  refine lv_istore (lv' := [(7, .int 0), (6, .int x17921_6), (5, .int x16826_5), (4, .int x17921_4), (3, .int r6), (0, .ref h), (1, .int a), (2, .int b)]) hx hb dX12_odd_136 hl (by decide) rfl (fun ls hl => ?_)
                                  refine lv_iload hx hb dX12_odd_138 (lv_at hl 3 rfl) ?_
                                  refine lv_iload hx hb dX12_odd_140 (lv_at hl 0 rfl) ?_
                                  refine lv_if_eq (tgt := 188) hx hb dX12_odd_142 (by decide) (fun c17957 => ?_) (fun c17957 => ?_)
                                  · skip
                                    refine lv_iconst (v := 0) hx hb dX12_odd_188 (by decide) ?_
                                    refine vp_callSi (W.runS (As := [.int 0]) (rest := [.int x17921_4]) ⟨hx, hb, hml, hown, ht⟩ (c_X12_bit_0 l dC dI) (kS 1 ht m_1396 m_1397 m_89 m_1398 rfl rfl hd_X12_bit_v ⟨Nat.le_of_ble_eq_true rfl, Nat.le_of_ble_eq_true rfl⟩) (sR noP (hK.sub (tys' := []) [] rfl)) rfl rfl hl.1 rfl (lv_room (Nat.le_of_ble_eq_true rfl)) dX12_odd_189 ⟨Nat.le_of_ble_eq_true rfl, Nat.le_of_ble_eq_true rfl⟩) (fun r17958 hr17958 => ?_)
                                    obtain rfl : 0 = r17958 := hr17958.symm
                                    refine lv_iadd hx hb dX12_odd_192 ?_
                                    refine lv_topi (fun v17959 ev17959 => ?_)
                                    refine lv_istore (lv' := [(4, .int v17959), (7, .int 0), (6, .int x17921_6), (5, .int x16826_5), (3, .int r6), (0, .ref h), (1, .int a), (2, .int b)]) hx hb dX12_odd_193 hl (by decide) rfl (fun ls hl => ?_)
                                    obtain ⟨v17960, ev17960⟩ : ∃ y : Int32, y = x17921_6 + 1 := ⟨_, rfl⟩
                                    have tv17960 := z_add ev17960 rfl (by decide : (1 : Int32).toInt = 1) (by omega) (by omega)
                                    refine lv_iinc (v := v17960) (lv' := [(6, .int v17960), (4, .int v17959), (7, .int 0), (5, .int x16826_5), (3, .int r6), (0, .ref h), (1, .int a), (2, .int b)]) hx hb dX12_odd_195 hl (k := 2) rfl (by rw [ev17960]; rfl) (by decide) rfl (fun ls hl => ?_)
                                    refine lv_goto (tgt := 54) hx hb dX12_odd_198 (by decide) ?_
                                    exact ih17922 v17960 v17959 ⟨by omega, by omega⟩ (show (v17959 : Int32) = oN (ns (fun t => ns (prY (cyP (fa 12 4) (fa 12 5) (fa 12 11) (fa 12 12) a.toInt (iv 12 0).toInt b.toInt) (dY (fa 12 7) (fa 12 8) (r6 : Int32)) t) t) ((x16826_5 : Int32).toInt).toNat + ns (prY (cyP (fa 12 4) (fa 12 5) (fa 12 11) (fa 12 12) a.toInt (iv 12 0).toInt b.toInt) (dY (fa 12 7) (fa 12 8) (r6 : Int32)) ((x16826_5 : Int32).toInt).toNat) ((v17960 : Int32).toInt).toNat) from (by
                                          have hs9 : ((v17960 : Int32).toInt).toNat = ((x17921_6 : Int32).toInt).toNat + 1 := by omega
                                          have z9_5_4 := (show v17925 = fa 12 4 ((x16826_5 : Int32).toInt).toNat from ev17925)
                                          have w9_5_4 := congrArg Int32.toInt z9_5_4
                                          have z9_5_5 := (show v17937 = fa 12 5 ((x16826_5 : Int32).toInt).toNat from ev17937)
                                          have w9_5_5 := congrArg Int32.toInt z9_5_5
                                          have z9_6_4 := (show v17931 = fa 12 4 ((x17921_6 : Int32).toInt).toNat from ev17931)
                                          have w9_6_4 := congrArg Int32.toInt z9_6_4
                                          have z9_6_5 := (show v17943 = fa 12 5 ((x17921_6 : Int32).toInt).toNat from ev17943)
                                          have w9_6_5 := congrArg Int32.toInt z9_6_5
                                          have y9_0 : ((r17949 : Int32).toInt = 1 ∧ (fa 12 11 ((x16826_5 : Int32).toInt).toNat).toInt ≤ ((iv 12 0) : Int32).toInt ∧ ((fa 12 12 ((x16826_5 : Int32).toInt).toNat).toInt < 0 ∨ ((iv 12 0) : Int32).toInt < (fa 12 12 ((x16826_5 : Int32).toInt).toNat).toInt)) ∨ ((r17949 : Int32).toInt = 0 ∧ ¬ ((fa 12 11 ((x16826_5 : Int32).toInt).toNat).toInt ≤ ((iv 12 0) : Int32).toInt ∧ ((fa 12 12 ((x16826_5 : Int32).toInt).toNat).toInt < 0 ∨ ((iv 12 0) : Int32).toInt < (fa 12 12 ((x16826_5 : Int32).toInt).toNat).toInt))) := xr17949_0
                                          have y9_1 : ((r17955 : Int32).toInt = 1 ∧ (fa 12 11 ((x17921_6 : Int32).toInt).toNat).toInt ≤ ((iv 12 0) : Int32).toInt ∧ ((fa 12 12 ((x17921_6 : Int32).toInt).toNat).toInt < 0 ∨ ((iv 12 0) : Int32).toInt < (fa 12 12 ((x17921_6 : Int32).toInt).toNat).toInt)) ∨ ((r17955 : Int32).toInt = 0 ∧ ¬ ((fa 12 11 ((x17921_6 : Int32).toInt).toNat).toInt ≤ ((iv 12 0) : Int32).toInt ∧ ((fa 12 12 ((x17921_6 : Int32).toInt).toNat).toInt < 0 ∨ ((iv 12 0) : Int32).toInt < (fa 12 12 ((x17921_6 : Int32).toInt).toNat).toInt))) := xr17955_0
                                          have hn9 : ¬ (((fa 12 4 ((x16826_5 : Int32).toInt).toNat).toInt = a.toInt ∧ (fa 12 5 ((x16826_5 : Int32).toInt).toNat).toInt = b.toInt ∧ (fa 12 11 ((x16826_5 : Int32).toInt).toNat).toInt ≤ (iv 12 0).toInt ∧ ((fa 12 12 ((x16826_5 : Int32).toInt).toNat).toInt < 0 ∨ (iv 12 0).toInt < (fa 12 12 ((x16826_5 : Int32).toInt).toNat).toInt)) ∧ ((fa 12 4 ((x17921_6 : Int32).toInt).toNat).toInt = a.toInt ∧ (fa 12 5 ((x17921_6 : Int32).toInt).toNat).toInt = b.toInt ∧ (fa 12 11 ((x17921_6 : Int32).toInt).toNat).toInt ≤ (iv 12 0).toInt ∧ ((fa 12 12 ((x17921_6 : Int32).toInt).toNat).toInt < 0 ∨ (iv 12 0).toInt < (fa 12 12 ((x17921_6 : Int32).toInt).toNat).toInt))) := by rintro ⟨⟨p1, p2, p3, p4⟩, ⟨p5, p6, p7, p8⟩⟩; omega
                                          rw [ns_o hs9 (b01_n (fun z => hn9 ⟨z.1, z.2.1⟩))]
                                          exact oN_0 hq17922_0 ev17959)) (show (v17960 : Int32).toInt ≤ (x16826_5 : Int32).toInt from by omega) (by omega) _ _ ls hP hD hS (lv_sub hl [0, 3, 1, 4, 5, 6, 7] rfl)
                                  · exact absurd rfl c17957
                                · have fc17956 := z_ne (rfl : (r17955).toInt = _) (by decide : (0 : Int32).toInt = 0) c17956
                                  refine lv_iconst (v := 1) hx hb dX12_odd_131 (by decide) ?_
                                  refine lv_goto (tgt := 136) hx hb dX12_odd_132 (by decide) ?_
                                  refine lv_istore (lv' := [(7, .int 1), (6, .int x17921_6), (5, .int x16826_5), (4, .int x17921_4), (3, .int r6), (0, .ref h), (1, .int a), (2, .int b)]) hx hb dX12_odd_136 hl (by decide) rfl (fun ls hl => ?_)
                                  refine lv_iload hx hb dX12_odd_138 (lv_at hl 3 rfl) ?_
                                  refine lv_iload hx hb dX12_odd_140 (lv_at hl 0 rfl) ?_
                                  refine lv_if_eq (tgt := 188) hx hb dX12_odd_142 (by decide) (fun c17961 => ?_) (fun c17961 => ?_)
                                  · exact absurd c17961 (by decide)
                                  · skip
                                    refine lv_aload_n hx hb dX12_odd_145 rfl (lv_at hl 5 rfl) ?_
                                    refine gM_12_8 hx hb ht hown hK hP m_1147 dX12_odd_146 ?_
                                    refine lv_iload hx hb dX12_odd_149 (lv_at hl 2 rfl) ?_
                                    refine lM_12_8 hx hb hK hP (f := (fa 12 8)) rfl (vp_in_iff.mpr ⟨by omega, by omega⟩) dX12_odd_151 ?_
                                    refine lv_topi (fun v17962 ev17962 => ?_)
                                    refine lv_i2l (v := (v17962.toInt64)) hx hb dX12_odd_152 rfl ?_
                                    refine lv_aload_n hx hb dX12_odd_153 rfl (lv_at hl 5 rfl) ?_
                                    refine gM_12_7 hx hb ht hown hK hP m_1146 dX12_odd_154 ?_
                                    refine lv_iload hx hb dX12_odd_157 (lv_at hl 2 rfl) ?_
                                    refine lM_12_7 hx hb hK hP (f := (fa 12 7)) rfl (vp_in_iff.mpr ⟨by omega, by omega⟩) dX12_odd_159 ?_
                                    refine lv_topi (fun v17963 ev17963 => ?_)
                                    have tv17963 : 0 ≤ v17963.toInt ∧ v17963.toInt ≤ 9999 := by rw [ev17963]; exact hI.2 12 7 _
                                    refine lv_i2l (v := (v17963.toInt64)) hx hb dX12_odd_160 rfl ?_
                                    refine lv_aload_n hx hb dX12_odd_161 rfl (lv_at hl 5 rfl) ?_
                                    refine gM_12_8 hx hb ht hown hK hP m_1147 dX12_odd_162 ?_
                                    refine lv_iload hx hb dX12_odd_165 (lv_at hl 1 rfl) ?_
                                    refine lM_12_8 hx hb hK hP (f := (fa 12 8)) rfl (vp_in_iff.mpr ⟨by omega, by omega⟩) dX12_odd_167 ?_
                                    refine lv_topi (fun v17964 ev17964 => ?_)
                                    refine lv_i2l (v := (v17964.toInt64)) hx hb dX12_odd_168 rfl ?_
                                    refine lv_aload_n hx hb dX12_odd_169 rfl (lv_at hl 5 rfl) ?_
                                    refine gM_12_7 hx hb ht hown hK hP m_1146 dX12_odd_170 ?_
                                    refine lv_iload hx hb dX12_odd_173 (lv_at hl 1 rfl) ?_
                                    refine lM_12_7 hx hb hK hP (f := (fa 12 7)) rfl (vp_in_iff.mpr ⟨by omega, by omega⟩) dX12_odd_175 ?_
                                    refine lv_topi (fun v17965 ev17965 => ?_)
                                    have tv17965 : 0 ≤ v17965.toInt ∧ v17965.toInt ≤ 9999 := by rw [ev17965]; exact hI.2 12 7 _
                                    refine lv_i2l (v := (v17965.toInt64)) hx hb dX12_odd_176 rfl ?_
                                    refine lv_iload_n hx hb dX12_odd_177 rfl (lv_at hl 4 rfl) ?_
                                    refine vp_callSi (W.runS (As := [.long (v17962.toInt64), .long (v17963.toInt64), .long (v17964.toInt64), .long (v17965.toInt64), .int r6]) (rest := [.int x17921_4]) ⟨hx, hb, hml, hown, ht⟩ (c_X12_doPart_f l dC dI (v17962.toInt64) (v17963.toInt64) (v17964.toInt64) (v17965.toInt64) r6) (kS 5 ht m_1540 m_1541 m_89 m_1542 rfl rfl hd_X12_doPart_v ⟨Nat.le_of_ble_eq_true rfl, Nat.le_of_ble_eq_true rfl⟩) (sR noP (hK.sub (tys' := []) [] rfl)) rfl rfl hl.1 rfl (lv_room (Nat.le_of_ble_eq_true rfl)) dX12_odd_178 ⟨Nat.le_of_ble_eq_true rfl, Nat.le_of_ble_eq_true rfl⟩) (fun r17966 hr17966 => ?_)
                                    obtain ⟨hr17966, xr17966_0⟩ := hr17966
                                    have xr17966_0 : (((r17966 : Int32).toInt = 1 ∧ difL ((v17962.toInt64) : Int64) ((v17963.toInt64) : Int64) ((v17964.toInt64) : Int64) ((v17965.toInt64) : Int64) (r6 : Int32)) ∨ ((r17966 : Int32).toInt = 0 ∧ ¬ difL ((v17962.toInt64) : Int64) ((v17963.toInt64) : Int64) ((v17964.toInt64) : Int64) ((v17965.toInt64) : Int64) (r6 : Int32))) := xr17966_0
                                    refine lv_if_eq (tgt := 188) hx hb dX12_odd_181 (by decide) (fun c17967 => ?_) (fun c17967 => ?_)
                                    · have fc17967 := z_eq (rfl : (r17966).toInt = _) (by decide : (0 : Int32).toInt = 0) c17967
                                      refine lv_iconst (v := 0) hx hb dX12_odd_188 (by decide) ?_
                                      refine vp_callSi (W.runS (As := [.int 0]) (rest := [.int x17921_4]) ⟨hx, hb, hml, hown, ht⟩ (c_X12_bit_0 l dC dI) (kS 1 ht m_1396 m_1397 m_89 m_1398 rfl rfl hd_X12_bit_v ⟨Nat.le_of_ble_eq_true rfl, Nat.le_of_ble_eq_true rfl⟩) (sR noP (hK.sub (tys' := []) [] rfl)) rfl rfl hl.1 rfl (lv_room (Nat.le_of_ble_eq_true rfl)) dX12_odd_189 ⟨Nat.le_of_ble_eq_true rfl, Nat.le_of_ble_eq_true rfl⟩) (fun r17968 hr17968 => ?_)
                                      obtain rfl : 0 = r17968 := hr17968.symm
                                      refine lv_iadd hx hb dX12_odd_192 ?_
                                      refine lv_topi (fun v17969 ev17969 => ?_)
                                      refine lv_istore (lv' := [(4, .int v17969), (7, .int 1), (6, .int x17921_6), (5, .int x16826_5), (3, .int r6), (0, .ref h), (1, .int a), (2, .int b)]) hx hb dX12_odd_193 hl (by decide) rfl (fun ls hl => ?_)
                                      obtain ⟨v17970, ev17970⟩ : ∃ y : Int32, y = x17921_6 + 1 := ⟨_, rfl⟩
                                      have tv17970 := z_add ev17970 rfl (by decide : (1 : Int32).toInt = 1) (by omega) (by omega)
                                      refine lv_iinc (v := v17970) (lv' := [(6, .int v17970), (4, .int v17969), (7, .int 1), (5, .int x16826_5), (3, .int r6), (0, .ref h), (1, .int a), (2, .int b)]) hx hb dX12_odd_195 hl (k := 2) rfl (by rw [ev17970]; rfl) (by decide) rfl (fun ls hl => ?_)
                                      refine lv_goto (tgt := 54) hx hb dX12_odd_198 (by decide) ?_
                                      exact ih17922 v17970 v17969 ⟨by omega, by omega⟩ (show (v17969 : Int32) = oN (ns (fun t => ns (prY (cyP (fa 12 4) (fa 12 5) (fa 12 11) (fa 12 12) a.toInt (iv 12 0).toInt b.toInt) (dY (fa 12 7) (fa 12 8) (r6 : Int32)) t) t) ((x16826_5 : Int32).toInt).toNat + ns (prY (cyP (fa 12 4) (fa 12 5) (fa 12 11) (fa 12 12) a.toInt (iv 12 0).toInt b.toInt) (dY (fa 12 7) (fa 12 8) (r6 : Int32)) ((x16826_5 : Int32).toInt).toNat) ((v17970 : Int32).toInt).toNat) from (by
                                            have hs9 : ((v17970 : Int32).toInt).toNat = ((x17921_6 : Int32).toInt).toNat + 1 := by omega
                                            have z9_5_4 := (show v17925 = fa 12 4 ((x16826_5 : Int32).toInt).toNat from ev17925)
                                            have w9_5_4 := congrArg Int32.toInt z9_5_4
                                            have z9_5_5 := (show v17937 = fa 12 5 ((x16826_5 : Int32).toInt).toNat from ev17937)
                                            have w9_5_5 := congrArg Int32.toInt z9_5_5
                                            have z9_5_7 := (show v17963 = fa 12 7 ((x16826_5 : Int32).toInt).toNat from ev17963)
                                            have w9_5_7 := congrArg Int32.toInt z9_5_7
                                            have z9_5_8 := (show v17962 = fa 12 8 ((x16826_5 : Int32).toInt).toNat from ev17962)
                                            have w9_5_8 := congrArg Int32.toInt z9_5_8
                                            have z9_6_4 := (show v17931 = fa 12 4 ((x17921_6 : Int32).toInt).toNat from ev17931)
                                            have w9_6_4 := congrArg Int32.toInt z9_6_4
                                            have z9_6_5 := (show v17943 = fa 12 5 ((x17921_6 : Int32).toInt).toNat from ev17943)
                                            have w9_6_5 := congrArg Int32.toInt z9_6_5
                                            have z9_6_7 := (show v17965 = fa 12 7 ((x17921_6 : Int32).toInt).toNat from ev17965)
                                            have w9_6_7 := congrArg Int32.toInt z9_6_7
                                            have z9_6_8 := (show v17964 = fa 12 8 ((x17921_6 : Int32).toInt).toNat from ev17964)
                                            have w9_6_8 := congrArg Int32.toInt z9_6_8
                                            have y9_0 : ((r17949 : Int32).toInt = 1 ∧ (fa 12 11 ((x16826_5 : Int32).toInt).toNat).toInt ≤ ((iv 12 0) : Int32).toInt ∧ ((fa 12 12 ((x16826_5 : Int32).toInt).toNat).toInt < 0 ∨ ((iv 12 0) : Int32).toInt < (fa 12 12 ((x16826_5 : Int32).toInt).toNat).toInt)) ∨ ((r17949 : Int32).toInt = 0 ∧ ¬ ((fa 12 11 ((x16826_5 : Int32).toInt).toNat).toInt ≤ ((iv 12 0) : Int32).toInt ∧ ((fa 12 12 ((x16826_5 : Int32).toInt).toNat).toInt < 0 ∨ ((iv 12 0) : Int32).toInt < (fa 12 12 ((x16826_5 : Int32).toInt).toNat).toInt))) := xr17949_0
                                            have y9_1 : ((r17955 : Int32).toInt = 1 ∧ (fa 12 11 ((x17921_6 : Int32).toInt).toNat).toInt ≤ ((iv 12 0) : Int32).toInt ∧ ((fa 12 12 ((x17921_6 : Int32).toInt).toNat).toInt < 0 ∨ ((iv 12 0) : Int32).toInt < (fa 12 12 ((x17921_6 : Int32).toInt).toNat).toInt)) ∨ ((r17955 : Int32).toInt = 0 ∧ ¬ ((fa 12 11 ((x17921_6 : Int32).toInt).toNat).toInt ≤ ((iv 12 0) : Int32).toInt ∧ ((fa 12 12 ((x17921_6 : Int32).toInt).toNat).toInt < 0 ∨ ((iv 12 0) : Int32).toInt < (fa 12 12 ((x17921_6 : Int32).toInt).toNat).toInt))) := xr17955_0
                                            have hp9 := xr17966_0
                                            rw [z9_5_8, z9_5_7, z9_6_8, z9_6_7] at hp9
                                            rw [ns_o hs9 (b01_n (fun z => (hp9.resolve_left (fun q9 => by omega)).2 z.2.2))]
                                            exact oN_0 hq17922_0 ev17969)) (show (v17970 : Int32).toInt ≤ (x16826_5 : Int32).toInt from by omega) (by omega) _ _ ls hP hD hS (lv_sub hl [0, 3, 1, 4, 5, 6, 7] rfl)
                                    · have fc17967 := z_ne (rfl : (r17966).toInt = _) (by decide : (0 : Int32).toInt = 0) c17967
                                      refine lv_iconst (v := 1) hx hb dX12_odd_184 (by decide) ?_
                                      refine lv_goto (tgt := 189) hx hb dX12_odd_185 (by decide) ?_
                                      refine vp_callSi (W.runS (As := [.int 1]) (rest := [.int x17921_4]) ⟨hx, hb, hml, hown, ht⟩ (c_X12_bit_1 l dC dI) (kS 1 ht m_1396 m_1397 m_89 m_1398 rfl rfl hd_X12_bit_v ⟨Nat.le_of_ble_eq_true rfl, Nat.le_of_ble_eq_true rfl⟩) (sR noP (hK.sub (tys' := []) [] rfl)) rfl rfl hl.1 rfl (lv_room (Nat.le_of_ble_eq_true rfl)) dX12_odd_189 ⟨Nat.le_of_ble_eq_true rfl, Nat.le_of_ble_eq_true rfl⟩) (fun r17971 hr17971 => ?_)
                                      obtain rfl : 1 = r17971 := hr17971.symm
                                      refine lv_iadd hx hb dX12_odd_192 ?_
                                      refine lv_topi (fun v17972 ev17972 => ?_)
                                      refine lv_istore (lv' := [(4, .int v17972), (7, .int 1), (6, .int x17921_6), (5, .int x16826_5), (3, .int r6), (0, .ref h), (1, .int a), (2, .int b)]) hx hb dX12_odd_193 hl (by decide) rfl (fun ls hl => ?_)
                                      obtain ⟨v17973, ev17973⟩ : ∃ y : Int32, y = x17921_6 + 1 := ⟨_, rfl⟩
                                      have tv17973 := z_add ev17973 rfl (by decide : (1 : Int32).toInt = 1) (by omega) (by omega)
                                      refine lv_iinc (v := v17973) (lv' := [(6, .int v17973), (4, .int v17972), (7, .int 1), (5, .int x16826_5), (3, .int r6), (0, .ref h), (1, .int a), (2, .int b)]) hx hb dX12_odd_195 hl (k := 2) rfl (by rw [ev17973]; rfl) (by decide) rfl (fun ls hl => ?_)
                                      refine lv_goto (tgt := 54) hx hb dX12_odd_198 (by decide) ?_
                                      exact ih17922 v17973 v17972 ⟨by omega, by omega⟩ (show (v17972 : Int32) = oN (ns (fun t => ns (prY (cyP (fa 12 4) (fa 12 5) (fa 12 11) (fa 12 12) a.toInt (iv 12 0).toInt b.toInt) (dY (fa 12 7) (fa 12 8) (r6 : Int32)) t) t) ((x16826_5 : Int32).toInt).toNat + ns (prY (cyP (fa 12 4) (fa 12 5) (fa 12 11) (fa 12 12) a.toInt (iv 12 0).toInt b.toInt) (dY (fa 12 7) (fa 12 8) (r6 : Int32)) ((x16826_5 : Int32).toInt).toNat) ((v17973 : Int32).toInt).toNat) from (by
                                            have hs9 : ((v17973 : Int32).toInt).toNat = ((x17921_6 : Int32).toInt).toNat + 1 := by omega
                                            have z9_5_4 := (show v17925 = fa 12 4 ((x16826_5 : Int32).toInt).toNat from ev17925)
                                            have w9_5_4 := congrArg Int32.toInt z9_5_4
                                            have z9_5_5 := (show v17937 = fa 12 5 ((x16826_5 : Int32).toInt).toNat from ev17937)
                                            have w9_5_5 := congrArg Int32.toInt z9_5_5
                                            have z9_5_7 := (show v17963 = fa 12 7 ((x16826_5 : Int32).toInt).toNat from ev17963)
                                            have w9_5_7 := congrArg Int32.toInt z9_5_7
                                            have z9_5_8 := (show v17962 = fa 12 8 ((x16826_5 : Int32).toInt).toNat from ev17962)
                                            have w9_5_8 := congrArg Int32.toInt z9_5_8
                                            have z9_6_4 := (show v17931 = fa 12 4 ((x17921_6 : Int32).toInt).toNat from ev17931)
                                            have w9_6_4 := congrArg Int32.toInt z9_6_4
                                            have z9_6_5 := (show v17943 = fa 12 5 ((x17921_6 : Int32).toInt).toNat from ev17943)
                                            have w9_6_5 := congrArg Int32.toInt z9_6_5
                                            have z9_6_7 := (show v17965 = fa 12 7 ((x17921_6 : Int32).toInt).toNat from ev17965)
                                            have w9_6_7 := congrArg Int32.toInt z9_6_7
                                            have z9_6_8 := (show v17964 = fa 12 8 ((x17921_6 : Int32).toInt).toNat from ev17964)
                                            have w9_6_8 := congrArg Int32.toInt z9_6_8
                                            have y9_0 : ((r17949 : Int32).toInt = 1 ∧ (fa 12 11 ((x16826_5 : Int32).toInt).toNat).toInt ≤ ((iv 12 0) : Int32).toInt ∧ ((fa 12 12 ((x16826_5 : Int32).toInt).toNat).toInt < 0 ∨ ((iv 12 0) : Int32).toInt < (fa 12 12 ((x16826_5 : Int32).toInt).toNat).toInt)) ∨ ((r17949 : Int32).toInt = 0 ∧ ¬ ((fa 12 11 ((x16826_5 : Int32).toInt).toNat).toInt ≤ ((iv 12 0) : Int32).toInt ∧ ((fa 12 12 ((x16826_5 : Int32).toInt).toNat).toInt < 0 ∨ ((iv 12 0) : Int32).toInt < (fa 12 12 ((x16826_5 : Int32).toInt).toNat).toInt))) := xr17949_0
                                            have y9_1 : ((r17955 : Int32).toInt = 1 ∧ (fa 12 11 ((x17921_6 : Int32).toInt).toNat).toInt ≤ ((iv 12 0) : Int32).toInt ∧ ((fa 12 12 ((x17921_6 : Int32).toInt).toNat).toInt < 0 ∨ ((iv 12 0) : Int32).toInt < (fa 12 12 ((x17921_6 : Int32).toInt).toNat).toInt)) ∨ ((r17955 : Int32).toInt = 0 ∧ ¬ ((fa 12 11 ((x17921_6 : Int32).toInt).toNat).toInt ≤ ((iv 12 0) : Int32).toInt ∧ ((fa 12 12 ((x17921_6 : Int32).toInt).toNat).toInt < 0 ∨ ((iv 12 0) : Int32).toInt < (fa 12 12 ((x17921_6 : Int32).toInt).toNat).toInt))) := xr17955_0
                                            have hp9 := xr17966_0
                                            rw [z9_5_8, z9_5_7, z9_6_8, z9_6_7] at hp9
                                            rw [ns_1 hs9 (b01_y ⟨(show (fa 12 4 ((x16826_5 : Int32).toInt).toNat).toInt = a.toInt ∧ (fa 12 5 ((x16826_5 : Int32).toInt).toNat).toInt = b.toInt ∧ (fa 12 11 ((x16826_5 : Int32).toInt).toNat).toInt ≤ (iv 12 0).toInt ∧ ((fa 12 12 ((x16826_5 : Int32).toInt).toNat).toInt < 0 ∨ (iv 12 0).toInt < (fa 12 12 ((x16826_5 : Int32).toInt).toNat).toInt) from ⟨by omega, by omega, by omega, by omega⟩), (show (fa 12 4 ((x17921_6 : Int32).toInt).toNat).toInt = a.toInt ∧ (fa 12 5 ((x17921_6 : Int32).toInt).toNat).toInt = b.toInt ∧ (fa 12 11 ((x17921_6 : Int32).toInt).toNat).toInt ≤ (iv 12 0).toInt ∧ ((fa 12 12 ((x17921_6 : Int32).toInt).toNat).toInt < 0 ∨ (iv 12 0).toInt < (fa 12 12 ((x17921_6 : Int32).toInt).toNat).toInt) from ⟨by omega, by omega, by omega, by omega⟩), (hp9.resolve_right (fun q9 => by omega)).2⟩)]
                                            exact oN_s hq17922_0 ev17972)) (show (v17973 : Int32).toInt ≤ (x16826_5 : Int32).toInt from by omega) (by omega) _ _ ls hP hD hS (lv_sub hl [0, 3, 1, 4, 5, 6, 7] rfl)
                have : (0 : Int32).toInt = 0 := (by decide)
                exact lp17922 60 0 x16826_4 ⟨by decide, by decide⟩ (show (x16826_4 : Int32) = oN (ns (fun t => ns (prY (cyP (fa 12 4) (fa 12 5) (fa 12 11) (fa 12 12) a.toInt (iv 12 0).toInt b.toInt) (dY (fa 12 7) (fa 12 8) (r6 : Int32)) t) t) ((x16826_5 : Int32).toInt).toNat + ns (prY (cyP (fa 12 4) (fa 12 5) (fa 12 11) (fa 12 12) a.toInt (iv 12 0).toInt b.toInt) (dY (fa 12 7) (fa 12 8) (r6 : Int32)) ((x16826_5 : Int32).toInt).toNat) ((0 : Int32).toInt).toNat) from (by have hz : ((0 : Int32).toInt).toNat = 0 := (by decide); rw [hz]; exact hq16827_0)) (show (0 : Int32).toInt ≤ (x16826_5 : Int32).toInt from by omega) (by first | decide | omega) _ _ ls hP hD hS (lv_sub hl [0, 1, 2, 3, 4, 5, 6] rfl)
          have : (0 : Int32).toInt = 0 := (by decide)
          have i_12_3 : 0 ≤ (iv 12 3).toInt ∧ (iv 12 3).toInt ≤ 60 := hI.1 12 3
          exact lp16827 61 0 0 ⟨by decide, by decide⟩ (show (0 : Int32) = oN (ns (fun t => ns (prY (cyP (fa 12 4) (fa 12 5) (fa 12 11) (fa 12 12) a.toInt (iv 12 0).toInt b.toInt) (dY (fa 12 7) (fa 12 8) (r6 : Int32)) t) t) ((0 : Int32).toInt).toNat) from (by have hz : ((0 : Int32).toInt).toNat = 0 := (by decide); rw [hz]; rfl)) (show (0 : Int32).toInt ≤ ((iv 12 3) : Int32).toInt from by omega) (by first | decide | omega) _ _ ls hP hD hS (lv_sub hl [0, 1, 2, 3, 4, 5] rfl)
        · exact absurd c5 (by decide)
      · skip
        refine lv_if_ne (tgt := 26) hx hb dX12_odd_20 (by decide) (fun c17974 => ?_) (fun c17974 => ?_)
        · exact absurd rfl c17974
        · skip
          refine lv_ldc hx hb hown (ht _ m_1373) dX12_odd_23 ?_
          have : ((-100002) : Int32).toInt = (-100002) := (by decide)
          have hP9 : va_P (dC, dI) classes (WM h g ca (u2 iv 12 41 (iv 12 41)) lv (u2 (u2 fa 12 39 (fa 12 39)) 12 40 (fa 12 40)) la) s.heap := hP
          have hD9 : va_D A (WM h g ca (u2 iv 12 41 (iv 12 41)) lv (u2 (u2 fa 12 39 (fa 12 39)) 12 40 (fa 12 40)) la) := hD
          exact W.iret (v := (-100002)) hx hb hr (fun t ht9 hW => ⟨⟨(-100002), ((u2 iv 12 41 (iv 12 41)), lv, (u2 (u2 fa 12 39 (fa 12 39)) 12 40 (fa 12 40)), la), rfl, ⟨(fa 12 39), (fa 12 40), (iv 12 41), (hI.2 12 39), (hI.2 12 40), (hI.1 12 41), (show ((((-100002) : Int32).toInt = -100001 ∧ ¬ (0 ≤ (a).toInt ∧ (a).toInt < (iv 12 1).toInt)) ∨ (((-100002) : Int32).toInt = -100002 ∧ (0 ≤ (a).toInt ∧ (a).toInt < (iv 12 1).toInt) ∧ ¬ (0 ≤ (b).toInt ∧ (b).toInt ≤ 2)) ∨ ((0 ≤ (a).toInt ∧ (a).toInt < (iv 12 1).toInt) ∧ (0 ≤ (b).toInt ∧ (b).toInt ≤ 2) ∧ ∃ pt : Int32, FoY (iv 12 23).toInt (fa 12 24) (fa 12 25) (fa 12 26) (fa 12 27) (fa 12 28) 2 (iv 12 0).toInt pt.toInt ∧ ((-100002) : Int32).toInt = (oN (odY (fa 12 4) (fa 12 5) (fa 12 11) (fa 12 12) (fa 12 7) (fa 12 8) (a).toInt (iv 12 0).toInt (b).toInt ((iv 12 3).toInt).toNat pt)).toInt)) from Or.inr (Or.inl ⟨by omega, ⟨by omega, by omega⟩, by omega⟩)), trivial, rfl⟩, by rw [ht9]; exact hP9, hD9⟩, hS.F ht9⟩) hS.2.2 dX12_odd_25
    · exact absurd rfl c3
